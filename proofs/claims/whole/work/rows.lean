section
-- ===== PART A: goes FIRST, ahead of the names: the tables' words, and 'selects' of the private methods out of them =====
/-- a private method of a class that the tables say can be made, by its rows of tables_1 -/
def lw_okq (q : MethodName × Nat) : Prop := (q.1.cls ≠ "java/lang/invoke/MethodHandle" ∧ q.1.cls ≠ "java/lang/invoke/VarHandle") ∧ Cond.instantiable q.1.cls q.2 ∈ tables_1 ∧ Cond.privateMethod q.1 ∈ tables_1 ∧ Cond.instanceMethod q.1 ∈ tables_1
theorem lw_p0 : lw_okq (⟨"WalkHouses", "leadRound", "(LWalkHouses$Chain;)Z"⟩, 9) := ⟨⟨by decide +kernel, by decide +kernel⟩, List.mem_of_getElem? (i := 11) (by decide +kernel), List.mem_of_getElem? (i := 294) (by decide +kernel), List.mem_of_getElem? (i := 295) (by decide +kernel)⟩
theorem lw_p1 : lw_okq (⟨"WalkHouses", "liftFrom", "(LWalkHouses$Chain;I)V"⟩, 9) := ⟨⟨by decide +kernel, by decide +kernel⟩, List.mem_of_getElem? (i := 11) (by decide +kernel), List.mem_of_getElem? (i := 301) (by decide +kernel), List.mem_of_getElem? (i := 302) (by decide +kernel)⟩
theorem lw_p2 : lw_okq (⟨"WalkHouses$WayFinder", "leastParting", "(LWalkHouses$Chain;III)I"⟩, 3) := ⟨⟨by decide +kernel, by decide +kernel⟩, List.mem_of_getElem? (i := 77) (by decide +kernel), List.mem_of_getElem? (i := 314) (by decide +kernel), List.mem_of_getElem? (i := 315) (by decide +kernel)⟩
theorem lw_p3 : lw_okq (⟨"WalkHouses$WayFinder", "canBeIn", "(LWalkHouses$Chain;III)Z"⟩, 3) := ⟨⟨by decide +kernel, by decide +kernel⟩, List.mem_of_getElem? (i := 77) (by decide +kernel), List.mem_of_getElem? (i := 318) (by decide +kernel), List.mem_of_getElem? (i := 319) (by decide +kernel)⟩
theorem lw_p4 : lw_okq (⟨"WalkHouses$WayFinder", "leastNext", "(II)I"⟩, 3) := ⟨⟨by decide +kernel, by decide +kernel⟩, List.mem_of_getElem? (i := 77) (by decide +kernel), List.mem_of_getElem? (i := 327) (by decide +kernel), List.mem_of_getElem? (i := 328) (by decide +kernel)⟩
theorem lw_p5 : lw_okq (⟨"WalkHouses$WayFinder", "trace", "(LWalkHouses$Chain;I)V"⟩, 3) := ⟨⟨by decide +kernel, by decide +kernel⟩, List.mem_of_getElem? (i := 77) (by decide +kernel), List.mem_of_getElem? (i := 332) (by decide +kernel), List.mem_of_getElem? (i := 333) (by decide +kernel)⟩
theorem lw_p6 : lw_okq (⟨"WalkHouses", "layFrom", "(LWalkHouses$Chain;I)V"⟩, 9) := ⟨⟨by decide +kernel, by decide +kernel⟩, List.mem_of_getElem? (i := 11) (by decide +kernel), List.mem_of_getElem? (i := 340) (by decide +kernel), List.mem_of_getElem? (i := 341) (by decide +kernel)⟩
theorem lw_p7 : lw_okq (⟨"WalkHouses", "isChain", "(I)Z"⟩, 9) := ⟨⟨by decide +kernel, by decide +kernel⟩, List.mem_of_getElem? (i := 11) (by decide +kernel), List.mem_of_getElem? (i := 373) (by decide +kernel), List.mem_of_getElem? (i := 374) (by decide +kernel)⟩
theorem lw_p8 : lw_okq (⟨"WalkHouses", "canBeGiven", "(LWalkHouses$Chain;)Z"⟩, 9) := ⟨⟨by decide +kernel, by decide +kernel⟩, List.mem_of_getElem? (i := 11) (by decide +kernel), List.mem_of_getElem? (i := 381) (by decide +kernel), List.mem_of_getElem? (i := 382) (by decide +kernel)⟩
theorem lw_p9 : lw_okq (⟨"WalkHouses", "giveOwnWay", "(LWalkHouses$Chain;)I"⟩, 9) := ⟨⟨by decide +kernel, by decide +kernel⟩, List.mem_of_getElem? (i := 11) (by decide +kernel), List.mem_of_getElem? (i := 385) (by decide +kernel), List.mem_of_getElem? (i := 386) (by decide +kernel)⟩
theorem lw_p10 : lw_okq (⟨"WalkHouses", "answer", "(LWalkHouses$Chain;)Z"⟩, 9) := ⟨⟨by decide +kernel, by decide +kernel⟩, List.mem_of_getElem? (i := 11) (by decide +kernel), List.mem_of_getElem? (i := 448) (by decide +kernel), List.mem_of_getElem? (i := 449) (by decide +kernel)⟩
theorem lw_p11 : lw_okq (⟨"WalkHouses", "bedsOfLate", "(I)I"⟩, 9) := ⟨⟨by decide +kernel, by decide +kernel⟩, List.mem_of_getElem? (i := 11) (by decide +kernel), List.mem_of_getElem? (i := 461) (by decide +kernel), List.mem_of_getElem? (i := 462) (by decide +kernel)⟩
theorem lw_p12 : lw_okq (⟨"WalkHouses", "isLate", "(LWalkHouses$Chain;I)Z"⟩, 9) := ⟨⟨by decide +kernel, by decide +kernel⟩, List.mem_of_getElem? (i := 11) (by decide +kernel), List.mem_of_getElem? (i := 465) (by decide +kernel), List.mem_of_getElem? (i := 466) (by decide +kernel)⟩
theorem lw_p13 : lw_okq (⟨"WalkHouses", "clearLate", "(II)I"⟩, 9) := ⟨⟨by decide +kernel, by decide +kernel⟩, List.mem_of_getElem? (i := 11) (by decide +kernel), List.mem_of_getElem? (i := 470) (by decide +kernel), List.mem_of_getElem? (i := 471) (by decide +kernel)⟩
theorem lw_p14 : lw_okq (⟨"WalkHouses", "sleepTonight", "()I"⟩, 9) := ⟨⟨by decide +kernel, by decide +kernel⟩, List.mem_of_getElem? (i := 11) (by decide +kernel), List.mem_of_getElem? (i := 478) (by decide +kernel), List.mem_of_getElem? (i := 479) (by decide +kernel)⟩
theorem lw_p15 : lw_okq (⟨"WalkHouses", "doChores", "(I)V"⟩, 9) := ⟨⟨by decide +kernel, by decide +kernel⟩, List.mem_of_getElem? (i := 11) (by decide +kernel), List.mem_of_getElem? (i := 486) (by decide +kernel), List.mem_of_getElem? (i := 487) (by decide +kernel)⟩
def lw_privs_1 : List (MethodName × Nat) := [(⟨"WalkHouses", "leadRound", "(LWalkHouses$Chain;)Z"⟩, 9), (⟨"WalkHouses", "liftFrom", "(LWalkHouses$Chain;I)V"⟩, 9), (⟨"WalkHouses$WayFinder", "leastParting", "(LWalkHouses$Chain;III)I"⟩, 3), (⟨"WalkHouses$WayFinder", "canBeIn", "(LWalkHouses$Chain;III)Z"⟩, 3), (⟨"WalkHouses$WayFinder", "leastNext", "(II)I"⟩, 3), (⟨"WalkHouses$WayFinder", "trace", "(LWalkHouses$Chain;I)V"⟩, 3), (⟨"WalkHouses", "layFrom", "(LWalkHouses$Chain;I)V"⟩, 9), (⟨"WalkHouses", "isChain", "(I)Z"⟩, 9), (⟨"WalkHouses", "canBeGiven", "(LWalkHouses$Chain;)Z"⟩, 9), (⟨"WalkHouses", "giveOwnWay", "(LWalkHouses$Chain;)I"⟩, 9), (⟨"WalkHouses", "answer", "(LWalkHouses$Chain;)Z"⟩, 9), (⟨"WalkHouses", "bedsOfLate", "(I)I"⟩, 9), (⟨"WalkHouses", "isLate", "(LWalkHouses$Chain;I)Z"⟩, 9), (⟨"WalkHouses", "clearLate", "(II)I"⟩, 9), (⟨"WalkHouses", "sleepTonight", "()I"⟩, 9), (⟨"WalkHouses", "doChores", "(I)V"⟩, 9)]
theorem lw_r1 : ∀ q ∈ lw_privs_1, lw_okq q := List.forall_mem_cons.mpr ⟨lw_p0, List.forall_mem_cons.mpr ⟨lw_p1, List.forall_mem_cons.mpr ⟨lw_p2, List.forall_mem_cons.mpr ⟨lw_p3, List.forall_mem_cons.mpr ⟨lw_p4, List.forall_mem_cons.mpr ⟨lw_p5, List.forall_mem_cons.mpr ⟨lw_p6, List.forall_mem_cons.mpr ⟨lw_p7, List.forall_mem_cons.mpr ⟨lw_p8, List.forall_mem_cons.mpr ⟨lw_p9, List.forall_mem_cons.mpr ⟨lw_p10, List.forall_mem_cons.mpr ⟨lw_p11, List.forall_mem_cons.mpr ⟨lw_p12, List.forall_mem_cons.mpr ⟨lw_p13, List.forall_mem_cons.mpr ⟨lw_p14, List.forall_mem_cons.mpr ⟨lw_p15, fun _ h => absurd h List.not_mem_nil⟩⟩⟩⟩⟩⟩⟩⟩⟩⟩⟩⟩⟩⟩⟩⟩
theorem lw_p16 : lw_okq (⟨"WalkHouses", "leastDone", "(I)I"⟩, 9) := ⟨⟨by decide +kernel, by decide +kernel⟩, List.mem_of_getElem? (i := 11) (by decide +kernel), List.mem_of_getElem? (i := 490) (by decide +kernel), List.mem_of_getElem? (i := 491) (by decide +kernel)⟩
theorem lw_p17 : lw_okq (⟨"WalkHouses", "endChains", "()V"⟩, 9) := ⟨⟨by decide +kernel, by decide +kernel⟩, List.mem_of_getElem? (i := 11) (by decide +kernel), List.mem_of_getElem? (i := 506) (by decide +kernel), List.mem_of_getElem? (i := 507) (by decide +kernel)⟩
theorem lw_p18 : lw_okq (⟨"WalkHouses", "chainsThatAre", "(I)I"⟩, 9) := ⟨⟨by decide +kernel, by decide +kernel⟩, List.mem_of_getElem? (i := 11) (by decide +kernel), List.mem_of_getElem? (i := 530) (by decide +kernel), List.mem_of_getElem? (i := 531) (by decide +kernel)⟩
theorem lw_p19 : lw_okq (⟨"WalkHousesModel", "isHouse", "(I)Z"⟩, 32) := ⟨⟨by decide +kernel, by decide +kernel⟩, List.mem_of_getElem? (i := 542) (by decide +kernel), List.mem_of_getElem? (i := 656) (by decide +kernel), List.mem_of_getElem? (i := 657) (by decide +kernel)⟩
theorem lw_p20 : lw_okq (⟨"WalkHousesModel", "freeOf", "(II)I"⟩, 32) := ⟨⟨by decide +kernel, by decide +kernel⟩, List.mem_of_getElem? (i := 542) (by decide +kernel), List.mem_of_getElem? (i := 671) (by decide +kernel), List.mem_of_getElem? (i := 672) (by decide +kernel)⟩
theorem lw_p21 : lw_okq (⟨"WalkHousesModel", "freeIn", "(III)I"⟩, 32) := ⟨⟨by decide +kernel, by decide +kernel⟩, List.mem_of_getElem? (i := 542) (by decide +kernel), List.mem_of_getElem? (i := 675) (by decide +kernel), List.mem_of_getElem? (i := 676) (by decide +kernel)⟩
theorem lw_p22 : lw_okq (⟨"WalkHousesModel", "placeOf", "(II)I"⟩, 32) := ⟨⟨by decide +kernel, by decide +kernel⟩, List.mem_of_getElem? (i := 542) (by decide +kernel), List.mem_of_getElem? (i := 679) (by decide +kernel), List.mem_of_getElem? (i := 680) (by decide +kernel)⟩
theorem lw_p23 : lw_okq (⟨"WalkHousesModel", "isChain", "(I)Z"⟩, 32) := ⟨⟨by decide +kernel, by decide +kernel⟩, List.mem_of_getElem? (i := 542) (by decide +kernel), List.mem_of_getElem? (i := 695) (by decide +kernel), List.mem_of_getElem? (i := 696) (by decide +kernel)⟩
theorem lw_p24 : lw_okq (⟨"WalkHousesModel", "refuses", "(I)I"⟩, 32) := ⟨⟨by decide +kernel, by decide +kernel⟩, List.mem_of_getElem? (i := 542) (by decide +kernel), List.mem_of_getElem? (i := 703) (by decide +kernel), List.mem_of_getElem? (i := 704) (by decide +kernel)⟩
theorem lw_p25 : lw_okq (⟨"WalkHousesModel", "bar", "(I)I"⟩, 32) := ⟨⟨by decide +kernel, by decide +kernel⟩, List.mem_of_getElem? (i := 542) (by decide +kernel), List.mem_of_getElem? (i := 707) (by decide +kernel), List.mem_of_getElem? (i := 708) (by decide +kernel)⟩
theorem lw_p26 : lw_okq (⟨"WalkHousesModel", "areJoined", "(II)Z"⟩, 32) := ⟨⟨by decide +kernel, by decide +kernel⟩, List.mem_of_getElem? (i := 542) (by decide +kernel), List.mem_of_getElem? (i := 711) (by decide +kernel), List.mem_of_getElem? (i := 712) (by decide +kernel)⟩
theorem lw_p27 : lw_okq (⟨"WalkHousesModel", "isOpen", "(III)Z"⟩, 32) := ⟨⟨by decide +kernel, by decide +kernel⟩, List.mem_of_getElem? (i := 542) (by decide +kernel), List.mem_of_getElem? (i := 715) (by decide +kernel), List.mem_of_getElem? (i := 716) (by decide +kernel)⟩
theorem lw_p28 : lw_okq (⟨"WalkHousesModel", "gives", "(I)V"⟩, 32) := ⟨⟨by decide +kernel, by decide +kernel⟩, List.mem_of_getElem? (i := 542) (by decide +kernel), List.mem_of_getElem? (i := 719) (by decide +kernel), List.mem_of_getElem? (i := 720) (by decide +kernel)⟩
theorem lw_p29 : lw_okq (⟨"WalkHousesModel", "lays", "(II)V"⟩, 32) := ⟨⟨by decide +kernel, by decide +kernel⟩, List.mem_of_getElem? (i := 542) (by decide +kernel), List.mem_of_getElem? (i := 723) (by decide +kernel), List.mem_of_getElem? (i := 724) (by decide +kernel)⟩
theorem lw_p30 : lw_okq (⟨"WalkHousesModel", "parts", "(III)V"⟩, 32) := ⟨⟨by decide +kernel, by decide +kernel⟩, List.mem_of_getElem? (i := 542) (by decide +kernel), List.mem_of_getElem? (i := 727) (by decide +kernel), List.mem_of_getElem? (i := 728) (by decide +kernel)⟩
theorem lw_p31 : lw_okq (⟨"WalkHousesModel", "ways", "(IIZ)I"⟩, 32) := ⟨⟨by decide +kernel, by decide +kernel⟩, List.mem_of_getElem? (i := 542) (by decide +kernel), List.mem_of_getElem? (i := 735) (by decide +kernel), List.mem_of_getElem? (i := 736) (by decide +kernel)⟩
def lw_privs_2 : List (MethodName × Nat) := [(⟨"WalkHouses", "leastDone", "(I)I"⟩, 9), (⟨"WalkHouses", "endChains", "()V"⟩, 9), (⟨"WalkHouses", "chainsThatAre", "(I)I"⟩, 9), (⟨"WalkHousesModel", "isHouse", "(I)Z"⟩, 32), (⟨"WalkHousesModel", "freeOf", "(II)I"⟩, 32), (⟨"WalkHousesModel", "freeIn", "(III)I"⟩, 32), (⟨"WalkHousesModel", "placeOf", "(II)I"⟩, 32), (⟨"WalkHousesModel", "isChain", "(I)Z"⟩, 32), (⟨"WalkHousesModel", "refuses", "(I)I"⟩, 32), (⟨"WalkHousesModel", "bar", "(I)I"⟩, 32), (⟨"WalkHousesModel", "areJoined", "(II)Z"⟩, 32), (⟨"WalkHousesModel", "isOpen", "(III)Z"⟩, 32), (⟨"WalkHousesModel", "gives", "(I)V"⟩, 32), (⟨"WalkHousesModel", "lays", "(II)V"⟩, 32), (⟨"WalkHousesModel", "parts", "(III)V"⟩, 32), (⟨"WalkHousesModel", "ways", "(IIZ)I"⟩, 32)]
theorem lw_r2 : ∀ q ∈ lw_privs_2, lw_okq q := List.forall_mem_cons.mpr ⟨lw_p16, List.forall_mem_cons.mpr ⟨lw_p17, List.forall_mem_cons.mpr ⟨lw_p18, List.forall_mem_cons.mpr ⟨lw_p19, List.forall_mem_cons.mpr ⟨lw_p20, List.forall_mem_cons.mpr ⟨lw_p21, List.forall_mem_cons.mpr ⟨lw_p22, List.forall_mem_cons.mpr ⟨lw_p23, List.forall_mem_cons.mpr ⟨lw_p24, List.forall_mem_cons.mpr ⟨lw_p25, List.forall_mem_cons.mpr ⟨lw_p26, List.forall_mem_cons.mpr ⟨lw_p27, List.forall_mem_cons.mpr ⟨lw_p28, List.forall_mem_cons.mpr ⟨lw_p29, List.forall_mem_cons.mpr ⟨lw_p30, List.forall_mem_cons.mpr ⟨lw_p31, fun _ h => absurd h List.not_mem_nil⟩⟩⟩⟩⟩⟩⟩⟩⟩⟩⟩⟩⟩⟩⟩⟩
theorem lw_p32 : lw_okq (⟨"WalkHousesModel", "takesOut", "(II)V"⟩, 32) := ⟨⟨by decide +kernel, by decide +kernel⟩, List.mem_of_getElem? (i := 542) (by decide +kernel), List.mem_of_getElem? (i := 755) (by decide +kernel), List.mem_of_getElem? (i := 756) (by decide +kernel)⟩
theorem lw_p33 : lw_okq (⟨"WalkHousesModel", "isLaidThere", "(IIII)Z"⟩, 32) := ⟨⟨by decide +kernel, by decide +kernel⟩, List.mem_of_getElem? (i := 542) (by decide +kernel), List.mem_of_getElem? (i := 763) (by decide +kernel), List.mem_of_getElem? (i := 764) (by decide +kernel)⟩
theorem lw_p34 : lw_okq (⟨"WalkHousesModel", "leads", "(I)Z"⟩, 32) := ⟨⟨by decide +kernel, by decide +kernel⟩, List.mem_of_getElem? (i := 542) (by decide +kernel), List.mem_of_getElem? (i := 767) (by decide +kernel), List.mem_of_getElem? (i := 768) (by decide +kernel)⟩
theorem lw_p35 : lw_okq (⟨"WalkHousesModel", "milesOf", "(I)I"⟩, 32) := ⟨⟨by decide +kernel, by decide +kernel⟩, List.mem_of_getElem? (i := 542) (by decide +kernel), List.mem_of_getElem? (i := 775) (by decide +kernel), List.mem_of_getElem? (i := 776) (by decide +kernel)⟩
theorem lw_p36 : lw_okq (⟨"WalkHousesModel", "nightsSlept", "(I)I"⟩, 32) := ⟨⟨by decide +kernel, by decide +kernel⟩, List.mem_of_getElem? (i := 542) (by decide +kernel), List.mem_of_getElem? (i := 779) (by decide +kernel), List.mem_of_getElem? (i := 780) (by decide +kernel)⟩
theorem lw_p37 : lw_okq (⟨"WalkHousesModel", "mayLose", "(II)Z"⟩, 32) := ⟨⟨by decide +kernel, by decide +kernel⟩, List.mem_of_getElem? (i := 542) (by decide +kernel), List.mem_of_getElem? (i := 803) (by decide +kernel), List.mem_of_getElem? (i := 804) (by decide +kernel)⟩
theorem lw_p38 : lw_okq (⟨"WalkHousesModel", "worker", "(I)I"⟩, 32) := ⟨⟨by decide +kernel, by decide +kernel⟩, List.mem_of_getElem? (i := 542) (by decide +kernel), List.mem_of_getElem? (i := 811) (by decide +kernel), List.mem_of_getElem? (i := 812) (by decide +kernel)⟩
theorem lw_p39 : lw_okq (⟨"WalkHousesModel", "inStatus", "(I)I"⟩, 32) := ⟨⟨by decide +kernel, by decide +kernel⟩, List.mem_of_getElem? (i := 542) (by decide +kernel), List.mem_of_getElem? (i := 823) (by decide +kernel), List.mem_of_getElem? (i := 824) (by decide +kernel)⟩
def lw_privs_3 : List (MethodName × Nat) := [(⟨"WalkHousesModel", "takesOut", "(II)V"⟩, 32), (⟨"WalkHousesModel", "isLaidThere", "(IIII)Z"⟩, 32), (⟨"WalkHousesModel", "leads", "(I)Z"⟩, 32), (⟨"WalkHousesModel", "milesOf", "(I)I"⟩, 32), (⟨"WalkHousesModel", "nightsSlept", "(I)I"⟩, 32), (⟨"WalkHousesModel", "mayLose", "(II)Z"⟩, 32), (⟨"WalkHousesModel", "worker", "(I)I"⟩, 32), (⟨"WalkHousesModel", "inStatus", "(I)I"⟩, 32)]
theorem lw_r3 : ∀ q ∈ lw_privs_3, lw_okq q := List.forall_mem_cons.mpr ⟨lw_p32, List.forall_mem_cons.mpr ⟨lw_p33, List.forall_mem_cons.mpr ⟨lw_p34, List.forall_mem_cons.mpr ⟨lw_p35, List.forall_mem_cons.mpr ⟨lw_p36, List.forall_mem_cons.mpr ⟨lw_p37, List.forall_mem_cons.mpr ⟨lw_p38, List.forall_mem_cons.mpr ⟨lw_p39, fun _ h => absurd h List.not_mem_nil⟩⟩⟩⟩⟩⟩⟩⟩
def lw_privs : List (MethodName × Nat) := lw_privs_1 ++ (lw_privs_2 ++ (lw_privs_3))
def lw_tbl : List Cond := k2_sels lw_privs ++ tables_1
theorem lw_privs_ok : ∀ q ∈ lw_privs, lw_okq q := by
  show ∀ q ∈ lw_privs_1 ++ (lw_privs_2 ++ (lw_privs_3)), lw_okq q
  exact List.forall_mem_append.mpr ⟨lw_r1, List.forall_mem_append.mpr ⟨lw_r2, lw_r3⟩⟩
end
section
/-! ===== BEGIN words of one list among another's, by their places ===== -/
theorem goodIn_r {big : List Cond} (ws : List Cond) (ps : List Nat) (hp : ws = ps.filterMap (fun i => big[i]?)) (h : ws.all goodWord = true) : GoodIn big ws := by
  intro w hw
  have h1 := List.all_eq_true.mp h w hw
  rw [hp] at hw
  obtain ⟨i, -, hi⟩ := List.mem_filterMap.mp hw
  have hm : w ∈ big := by first | exact List.mem_of_getElem? hi | exact List.getElem?_mem hi
  exact ⟨hm, good_of_word h1⟩
theorem goodIn_app {big a b : List Cond} (ha : GoodIn big a) (hb : GoodIn big b) : GoodIn big (a ++ b) := fun w h => (List.mem_append.mp h).elim (ha w) (hb w)
theorem goodIn_ca {big a b : List Cond} {c : Cond} (ha : GoodIn big (c :: a)) (hb : GoodIn big b) : GoodIn big (c :: (a ++ b)) := fun w h => (List.mem_cons.mp h).elim (fun e => ha w (List.mem_cons.mpr (Or.inl e))) (fun h => (List.mem_append.mp h).elim (fun h => ha w (List.mem_cons.mpr (Or.inr h))) (hb w))
theorem goodIn_sub {big ws : List Cond} (hm : ∀ w ∈ ws, w ∈ big) (h : ws.all goodWord = true) : GoodIn big ws := fun w hw => ⟨hm w hw, good_of_word (List.all_eq_true.mp h w hw)⟩
/-! ===== END ===== -/

/-! ===== BEGIN printed: names, fields, word lists, decode rows ===== -/
def RX0 : String := "WalkHouses$Chain"
def TX0 : u_T := fun k => match k with
  | 0 => ("WalkHouses$Chain", "way", "[I", true)
  | 1 => ("WalkHouses$Chain", "laidIn", "[I", true)
  | 2 => ("WalkHouses$Chain", "arrived", "[Z", true)
  | 3 => ("WalkHouses$Chain", "slept", "[Z", true)
  | 4 => ("WalkHouses$Chain", "size", "I", false)
  | 5 => ("WalkHouses$Chain", "first", "I", false)
  | 6 => ("WalkHouses$Chain", "length", "I", false)
  | 7 => ("WalkHouses$Chain", "state", "I", false)
  | _ => ("WalkHouses$Chain", "done", "I", false)
def tyX0 : Nat → FieldType := fun k => match k with
  | 0 => .array .int
  | 1 => .array .int
  | 2 => .array .boolean
  | 3 => .array .boolean
  | 4 => .int
  | 5 => .int
  | 6 => .int
  | 7 => .int
  | _ => .int
abbrev wsX00 : List Cond := u_ws RX0 TX0 9
theorem nmX0 : ∀ a, a < 9 → ∀ b, b < 9 → a ≠ b → (TX0 a).2.1 ≠ (TX0 b).2.1 := by decide +kernel
theorem tyX0_ok : ∀ k, k < 9 → parseFieldDescriptor (TX0 k).2.2.1 = some (tyX0 k) := by decide +kernel
abbrev cX0_init : ByteArray := prog_2_method_1_code
def yX0_init : MethodName := ⟨RX0, "<init>", "()V"⟩
abbrev cX0_ask : ByteArray := prog_2_method_2_code
def yX0_ask : MethodName := ⟨RX0, "ask", "(III)V"⟩
abbrev cX0_follow : ByteArray := prog_2_method_3_code
def yX0_follow : MethodName := ⟨RX0, "follow", "([II)V"⟩
abbrev cX0_isLaid : ByteArray := prog_2_method_4_code
def yX0_isLaid : MethodName := ⟨RX0, "isLaid", "(I)Z"⟩
abbrev cX0_has : ByteArray := prog_2_method_5_code
def yX0_has : MethodName := ⟨RX0, "has", "(I)Z"⟩
abbrev cX0_isLaidOn : ByteArray := prog_2_method_6_code
def yX0_isLaidOn : MethodName := ⟨RX0, "isLaidOn", "(I)Z"⟩
abbrev cX0_isLaidAt : ByteArray := prog_2_method_7_code
def yX0_isLaidAt : MethodName := ⟨RX0, "isLaidAt", "(II)Z"⟩
abbrev cX0_isLaidBetween : ByteArray := prog_2_method_8_code
def yX0_isLaidBetween : MethodName := ⟨RX0, "isLaidBetween", "(III)Z"⟩
abbrev cX0_sleep : ByteArray := prog_2_method_9_code
def yX0_sleep : MethodName := ⟨RX0, "sleep", "(I)Z"⟩
abbrev cX0_sleptAt : ByteArray := prog_2_method_10_code
def yX0_sleptAt : MethodName := ⟨RX0, "sleptAt", "(II)Z"⟩
abbrev cX0_nightsSlept : ByteArray := prog_2_method_11_code
def yX0_nightsSlept : MethodName := ⟨RX0, "nightsSlept", "()I"⟩
abbrev cX0_didLessThan : ByteArray := prog_2_method_12_code
def yX0_didLessThan : MethodName := ⟨RX0, "didLessThan", "(LWalkHouses$Chain;)Z"⟩
def RX1 : String := "WalkHouses$House"
def TX1 : u_T := fun k => match k with
  | 0 => ("WalkHouses$House", "freeIn", "[I", true)
  | 1 => ("WalkHouses$House", "shut", "[Z", true)
  | 2 => ("WalkHouses$House", "milesTo", "[I", true)
  | 3 => ("WalkHouses$House", "hour", "I", false)
  | 4 => ("WalkHouses$House", "chores", "I", false)
  | 5 => ("WalkHouses$House", "walkersTonight", "I", false)
  | _ => ("WalkHouses$House", "walkersPassed", "I", false)
def tyX1 : Nat → FieldType := fun k => match k with
  | 0 => .array .int
  | 1 => .array .boolean
  | 2 => .array .int
  | 3 => .int
  | 4 => .int
  | 5 => .int
  | _ => .int
abbrev wsX10 : List Cond := u_ws RX1 TX1 7
theorem nmX1 : ∀ a, a < 7 → ∀ b, b < 7 → a ≠ b → (TX1 a).2.1 ≠ (TX1 b).2.1 := by decide +kernel
theorem tyX1_ok : ∀ k, k < 7 → parseFieldDescriptor (TX1 k).2.2.1 = some (tyX1 k) := by decide +kernel
abbrev cX1_init : ByteArray := prog_3_method_1_code
def yX1_init : MethodName := ⟨RX1, "<init>", "()V"⟩
abbrev cX1_furnish : ByteArray := prog_3_method_2_code
def yX1_furnish : MethodName := ⟨RX1, "furnish", "(II)V"⟩
abbrev cX1_freeBeds : ByteArray := prog_3_method_3_code
def yX1_freeBeds : MethodName := ⟨RX1, "freeBeds", "(I)I"⟩
abbrev cX1_hasRoom : ByteArray := prog_3_method_4_code
def yX1_hasRoom : MethodName := ⟨RX1, "hasRoom", "(II)Z"⟩
abbrev cX1_close : ByteArray := prog_3_method_5_code
def yX1_close : MethodName := ⟨RX1, "close", "(II)V"⟩
abbrev cX1_freeInSet : ByteArray := prog_3_method_6_code
def yX1_freeInSet : MethodName := ⟨RX1, "freeInSet", "(II)I"⟩
abbrev cX1_dormsFor : ByteArray := prog_3_method_7_code
def yX1_dormsFor : MethodName := ⟨RX1, "dormsFor", "(II)I"⟩
abbrev cX1_fill : ByteArray := prog_3_method_8_code
def yX1_fill : MethodName := ⟨RX1, "fill", "(II[II)V"⟩
abbrev cX1_clear : ByteArray := prog_3_method_9_code
def yX1_clear : MethodName := ⟨RX1, "clear", "(I[II)V"⟩
abbrev cX1_endNight : ByteArray := prog_3_method_10_code
def yX1_endNight : MethodName := ⟨RX1, "endNight", "()V"⟩
def RX2 : String := "WalkHouses$Letters"
def TX2 : u_T := fun k => match k with
  | 0 => ("WalkHouses$Letters", "chain", "[I", true)
  | 1 => ("WalkHouses$Letters", "mark", "[I", true)
  | 2 => ("WalkHouses$Letters", "day", "[I", true)
  | 3 => ("WalkHouses$Letters", "opened", "[Z", true)
  | _ => ("WalkHouses$Letters", "letterCount", "I", false)
def tyX2 : Nat → FieldType := fun k => match k with
  | 0 => .array .int
  | 1 => .array .int
  | 2 => .array .int
  | 3 => .array .boolean
  | _ => .int
abbrev wsX20 : List Cond := u_ws RX2 TX2 5
theorem nmX2 : ∀ a, a < 5 → ∀ b, b < 5 → a ≠ b → (TX2 a).2.1 ≠ (TX2 b).2.1 := by decide +kernel
theorem tyX2_ok : ∀ k, k < 5 → parseFieldDescriptor (TX2 k).2.2.1 = some (tyX2 k) := by decide +kernel
abbrev cX2_init : ByteArray := prog_4_method_1_code
def yX2_init : MethodName := ⟨RX2, "<init>", "()V"⟩
abbrev cX2_receive : ByteArray := prog_4_method_2_code
def yX2_receive : MethodName := ⟨RX2, "receive", "(III)I"⟩
abbrev cX2_nextToOpen : ByteArray := prog_4_method_3_code
def yX2_nextToOpen : MethodName := ⟨RX2, "nextToOpen", "(I)I"⟩
abbrev cX2_unopened : ByteArray := prog_4_method_4_code
def yX2_unopened : MethodName := ⟨RX2, "unopened", "()I"⟩
def RX3 : String := "WalkHouses$PayBack"
def TX3 : u_T := fun k => match k with
  | 0 => ("WalkHouses$PayBack", "notice", "[I", true)
  | 1 => ("WalkHouses$PayBack", "hundredths", "[I", true)
  | _ => ("WalkHouses$PayBack", "lineCount", "I", false)
def tyX3 : Nat → FieldType := fun k => match k with
  | 0 => .array .int
  | 1 => .array .int
  | _ => .int
abbrev wsX30 : List Cond := u_ws RX3 TX3 3
theorem nmX3 : ∀ a, a < 3 → ∀ b, b < 3 → a ≠ b → (TX3 a).2.1 ≠ (TX3 b).2.1 := by decide +kernel
theorem tyX3_ok : ∀ k, k < 3 → parseFieldDescriptor (TX3 k).2.2.1 = some (tyX3 k) := by decide +kernel
abbrev cX3_init : ByteArray := prog_5_method_1_code
def yX3_init : MethodName := ⟨RX3, "<init>", "()V"⟩
abbrev cX3_write : ByteArray := prog_5_method_2_code
def yX3_write : MethodName := ⟨RX3, "write", "(II)I"⟩
abbrev cX3_hundredthsFor : ByteArray := prog_5_method_3_code
def yX3_hundredthsFor : MethodName := ⟨RX3, "hundredthsFor", "(I)I"⟩
def RX4 : String := "WalkHouses$Road"
def TX4 : u_T := fun k => match k with
  | 0 => ("WalkHouses$Road", "houses", "[LWalkHouses$House;", true)
  | 1 => ("WalkHouses$Road", "houseCount", "I", false)
  | _ => ("WalkHouses$Road", "stageCount", "I", false)
def tyX4 : Nat → FieldType := fun k => match k with
  | 0 => .array (.object "WalkHouses$House")
  | 1 => .int
  | _ => .int
abbrev wsX40 : List Cond := u_ws RX4 TX4 3
theorem nmX4 : ∀ a, a < 3 → ∀ b, b < 3 → a ≠ b → (TX4 a).2.1 ≠ (TX4 b).2.1 := by decide +kernel
theorem tyX4_ok : ∀ k, k < 3 → parseFieldDescriptor (TX4 k).2.2.1 = some (tyX4 k) := by decide +kernel
abbrev cX4_init : ByteArray := prog_6_method_1_code
def yX4_init : MethodName := ⟨RX4, "<init>", "()V"⟩
abbrev cX4_hasHouse : ByteArray := prog_6_method_2_code
def yX4_hasHouse : MethodName := ⟨RX4, "hasHouse", "(I)Z"⟩
abbrev cX4_build : ByteArray := prog_6_method_3_code
def yX4_build : MethodName := ⟨RX4, "build", "(IIII)I"⟩
abbrev cX4_join : ByteArray := prog_6_method_4_code
def yX4_join : MethodName := ⟨RX4, "join", "(III)I"⟩
abbrev cX4_joined : ByteArray := prog_6_method_5_code
def yX4_joined : MethodName := ⟨RX4, "joined", "(II)Z"⟩
abbrev cX4_firstBar : ByteArray := prog_6_method_6_code
def yX4_firstBar : MethodName := ⟨RX4, "firstBar", "(LWalkHouses$Chain;)I"⟩
abbrev cX4_milesSlept : ByteArray := prog_6_method_7_code
def yX4_milesSlept : MethodName := ⟨RX4, "milesSlept", "(LWalkHouses$Chain;)I"⟩
def RX5 : String := "WalkHouses$WayFinder"
def TX5 : u_T := fun k => match k with
  | 0 => ("WalkHouses$WayFinder", "road", "LWalkHouses$Road;", true)
  | 1 => ("WalkHouses$WayFinder", "parting", "[I", true)
  | _ => ("WalkHouses$WayFinder", "found", "[I", true)
def tyX5 : Nat → FieldType := fun k => match k with
  | 0 => .object "WalkHouses$Road"
  | 1 => .array .int
  | _ => .array .int
abbrev wsX50 : List Cond := u_ws RX5 TX5 3
theorem nmX5 : ∀ a, a < 3 → ∀ b, b < 3 → a ≠ b → (TX5 a).2.1 ≠ (TX5 b).2.1 := by decide +kernel
theorem tyX5_ok : ∀ k, k < 3 → parseFieldDescriptor (TX5 k).2.2.1 = some (tyX5 k) := by decide +kernel
abbrev cX5_init : ByteArray := prog_7_method_1_code
def yX5_init : MethodName := ⟨RX5, "<init>", "(LWalkHouses$Road;)V"⟩
abbrev cX5_find : ByteArray := prog_7_method_2_code
def yX5_find : MethodName := ⟨RX5, "find", "(LWalkHouses$Chain;I)I"⟩
abbrev cX5_leastParting : ByteArray := prog_7_method_3_code
def yX5_leastParting : MethodName := ⟨RX5, "leastParting", "(LWalkHouses$Chain;III)I"⟩
abbrev cX5_canBeIn : ByteArray := prog_7_method_4_code
def yX5_canBeIn : MethodName := ⟨RX5, "canBeIn", "(LWalkHouses$Chain;III)Z"⟩
abbrev cX5_leastNext : ByteArray := prog_7_method_5_code
def yX5_leastNext : MethodName := ⟨RX5, "leastNext", "(II)I"⟩
abbrev cX5_trace : ByteArray := prog_7_method_6_code
def yX5_trace : MethodName := ⟨RX5, "trace", "(LWalkHouses$Chain;I)V"⟩
def RX6 : String := "WalkHouses"
def TX6 : u_T := fun k => match k with
  | 0 => ("WalkHouses", "road", "LWalkHouses$Road;", true)
  | 1 => ("WalkHouses", "finder", "LWalkHouses$WayFinder;", true)
  | 2 => ("WalkHouses", "chains", "[LWalkHouses$Chain;", true)
  | 3 => ("WalkHouses", "letters", "LWalkHouses$Letters;", true)
  | 4 => ("WalkHouses", "payBack", "LWalkHouses$PayBack;", true)
  | 5 => ("WalkHouses", "bedsOfWalkers", "[I", true)
  | 6 => ("WalkHouses", "chainCount", "I", false)
  | 7 => ("WalkHouses", "now", "I", false)
  | _ => ("WalkHouses", "walkersSoFar", "I", false)
def tyX6 : Nat → FieldType := fun k => match k with
  | 0 => .object "WalkHouses$Road"
  | 1 => .object "WalkHouses$WayFinder"
  | 2 => .array (.object "WalkHouses$Chain")
  | 3 => .object "WalkHouses$Letters"
  | 4 => .object "WalkHouses$PayBack"
  | 5 => .array .int
  | 6 => .int
  | 7 => .int
  | _ => .int
abbrev wsX60 : List Cond := u_ws RX6 TX6 9
theorem nmX6 : ∀ a, a < 9 → ∀ b, b < 9 → a ≠ b → (TX6 a).2.1 ≠ (TX6 b).2.1 := by decide +kernel
theorem tyX6_ok : ∀ k, k < 9 → parseFieldDescriptor (TX6 k).2.2.1 = some (tyX6 k) := by decide +kernel
abbrev cX6_init : ByteArray := prog_1_method_1_code
def yX6_init : MethodName := ⟨RX6, "<init>", "()V"⟩
abbrev cX6_house : ByteArray := prog_1_method_2_code
def yX6_house : MethodName := ⟨RX6, "house", "(IIII)I"⟩
abbrev cX6_stage : ByteArray := prog_1_method_3_code
def yX6_stage : MethodName := ⟨RX6, "stage", "(III)I"⟩
abbrev cX6_chores : ByteArray := prog_1_method_4_code
def yX6_chores : MethodName := ⟨RX6, "chores", "(II)I"⟩
abbrev cX6_free : ByteArray := prog_1_method_5_code
def yX6_free : MethodName := ⟨RX6, "free", "(III)I"⟩
abbrev cX6_isShut : ByteArray := prog_1_method_6_code
def yX6_isShut : MethodName := ⟨RX6, "isShut", "(II)I"⟩
abbrev cX6_shut : ByteArray := prog_1_method_7_code
def yX6_shut : MethodName := ⟨RX6, "shut", "(III)I"⟩
abbrev cX6_chain : ByteArray := prog_1_method_8_code
def yX6_chain : MethodName := ⟨RX6, "chain", "(III)I"⟩
abbrev cX6_add : ByteArray := prog_1_method_9_code
def yX6_add : MethodName := ⟨RX6, "add", "(II)I"⟩
abbrev cX6_give : ByteArray := prog_1_method_10_code
def yX6_give : MethodName := ⟨RX6, "give", "(I)I"⟩
abbrev cX6_other : ByteArray := prog_1_method_11_code
def yX6_other : MethodName := ⟨RX6, "other", "(I)I"⟩
abbrev cX6_offered : ByteArray := prog_1_method_12_code
def yX6_offered : MethodName := ⟨RX6, "offered", "(II)I"⟩
abbrev cX6_take : ByteArray := prog_1_method_13_code
def yX6_take : MethodName := ⟨RX6, "take", "(I)I"⟩
abbrev cX6_giveUp : ByteArray := prog_1_method_14_code
def yX6_giveUp : MethodName := ⟨RX6, "giveUp", "(I)I"⟩
abbrev cX6_about : ByteArray := prog_1_method_15_code
def yX6_about : MethodName := ⟨RX6, "about", "(II)I"⟩
abbrev cX6_laid : ByteArray := prog_1_method_16_code
def yX6_laid : MethodName := ⟨RX6, "laid", "(III)I"⟩
abbrev cX6_letter : ByteArray := prog_1_method_17_code
def yX6_letter : MethodName := ⟨RX6, "letter", "(III)I"⟩
abbrev cX6_open : ByteArray := prog_1_method_18_code
def yX6_open : MethodName := ⟨RX6, "open", "(I)I"⟩
abbrev cX6_arrive : ByteArray := prog_1_method_19_code
def yX6_arrive : MethodName := ⟨RX6, "arrive", "(I)I"⟩
abbrev cX6_door : ByteArray := prog_1_method_20_code
def yX6_door : MethodName := ⟨RX6, "door", "(III)I"⟩
abbrev cX6_pass : ByteArray := prog_1_method_21_code
def yX6_pass : MethodName := ⟨RX6, "pass", "()I"⟩
abbrev cX6_suppers : ByteArray := prog_1_method_22_code
def yX6_suppers : MethodName := ⟨RX6, "suppers", "(II)I"⟩
abbrev cX6_list : ByteArray := prog_1_method_23_code
def yX6_list : MethodName := ⟨RX6, "list", "(II)I"⟩
abbrev cX6_count : ByteArray := prog_1_method_24_code
def yX6_count : MethodName := ⟨RX6, "count", "(I)I"⟩
abbrev cX6_digest : ByteArray := prog_1_method_25_code
def yX6_digest : MethodName := ⟨RX6, "digest", "()J"⟩
abbrev cX6_within : ByteArray := prog_1_method_26_code
def yX6_within : MethodName := ⟨RX6, "within", "(III)Z"⟩
abbrev cX6_isNight : ByteArray := prog_1_method_27_code
def yX6_isNight : MethodName := ⟨RX6, "isNight", "(I)Z"⟩
abbrev cX6_isChain : ByteArray := prog_1_method_28_code
def yX6_isChain : MethodName := ⟨RX6, "isChain", "(I)Z"⟩
abbrev cX6_canBeGiven : ByteArray := prog_1_method_29_code
def yX6_canBeGiven : MethodName := ⟨RX6, "canBeGiven", "(LWalkHouses$Chain;)Z"⟩
abbrev cX6_chainsThatAre : ByteArray := prog_1_method_30_code
def yX6_chainsThatAre : MethodName := ⟨RX6, "chainsThatAre", "(I)I"⟩
abbrev cX6_giveOwnWay : ByteArray := prog_1_method_31_code
def yX6_giveOwnWay : MethodName := ⟨RX6, "giveOwnWay", "(LWalkHouses$Chain;)I"⟩
abbrev cX6_answer : ByteArray := prog_1_method_32_code
def yX6_answer : MethodName := ⟨RX6, "answer", "(LWalkHouses$Chain;)Z"⟩
abbrev cX6_layFrom : ByteArray := prog_1_method_33_code
def yX6_layFrom : MethodName := ⟨RX6, "layFrom", "(LWalkHouses$Chain;I)V"⟩
abbrev cX6_liftFrom : ByteArray := prog_1_method_34_code
def yX6_liftFrom : MethodName := ⟨RX6, "liftFrom", "(LWalkHouses$Chain;I)V"⟩
abbrev cX6_leadRound : ByteArray := prog_1_method_35_code
def yX6_leadRound : MethodName := ⟨RX6, "leadRound", "(LWalkHouses$Chain;)Z"⟩
abbrev cX6_isLate : ByteArray := prog_1_method_36_code
def yX6_isLate : MethodName := ⟨RX6, "isLate", "(LWalkHouses$Chain;I)Z"⟩
abbrev cX6_bedsOfLate : ByteArray := prog_1_method_37_code
def yX6_bedsOfLate : MethodName := ⟨RX6, "bedsOfLate", "(I)I"⟩
abbrev cX6_clearLate : ByteArray := prog_1_method_38_code
def yX6_clearLate : MethodName := ⟨RX6, "clearLate", "(II)I"⟩
abbrev cX6_sleepTonight : ByteArray := prog_1_method_39_code
def yX6_sleepTonight : MethodName := ⟨RX6, "sleepTonight", "()I"⟩
abbrev cX6_doChores : ByteArray := prog_1_method_40_code
def yX6_doChores : MethodName := ⟨RX6, "doChores", "(I)V"⟩
abbrev cX6_leastDone : ByteArray := prog_1_method_41_code
def yX6_leastDone : MethodName := ⟨RX6, "leastDone", "(I)I"⟩
abbrev cX6_endChains : ByteArray := prog_1_method_42_code
def yX6_endChains : MethodName := ⟨RX6, "endChains", "()V"⟩
def RX7 : String := "WalkHousesModel"
def TX7 : u_T := fun k => match k with
  | 0 => ("WalkHousesModel", "houses", "I", false)
  | 1 => ("WalkHousesModel", "beds", "[I", true)
  | 2 => ("WalkHousesModel", "hours", "[I", true)
  | 3 => ("WalkHousesModel", "choresOf", "[I", true)
  | 4 => ("WalkHousesModel", "isShut", "[Z", true)
  | 5 => ("WalkHousesModel", "doorLaid", "[I", true)
  | 6 => ("WalkHousesModel", "walkers", "I", false)
  | 7 => ("WalkHousesModel", "stages", "I", false)
  | 8 => ("WalkHousesModel", "miles", "[I", true)
  | 9 => ("WalkHousesModel", "now", "I", false)
  | 10 => ("WalkHousesModel", "chains", "I", false)
  | 11 => ("WalkHousesModel", "size", "[I", true)
  | 12 => ("WalkHousesModel", "first", "[I", true)
  | 13 => ("WalkHousesModel", "many", "[I", true)
  | 14 => ("WalkHousesModel", "way", "[I", true)
  | 15 => ("WalkHousesModel", "status", "[I", true)
  | 16 => ("WalkHousesModel", "isLaid", "[Z", true)
  | 17 => ("WalkHousesModel", "laidIn", "[I", true)
  | 18 => ("WalkHousesModel", "slept", "[Z", true)
  | 19 => ("WalkHousesModel", "done", "[I", true)
  | 20 => ("WalkHousesModel", "arrived", "[Z", true)
  | 21 => ("WalkHousesModel", "share", "[I", true)
  | 22 => ("WalkHousesModel", "changes", "[I", true)
  | 23 => ("WalkHousesModel", "found", "[I", true)
  | 24 => ("WalkHousesModel", "lists", "I", false)
  | 25 => ("WalkHousesModel", "notice", "[I", true)
  | 26 => ("WalkHousesModel", "hundredths", "[I", true)
  | 27 => ("WalkHousesModel", "letters", "I", false)
  | 28 => ("WalkHousesModel", "letterChain", "[I", true)
  | 29 => ("WalkHousesModel", "marks", "[I", true)
  | 30 => ("WalkHousesModel", "days", "[I", true)
  | _ => ("WalkHousesModel", "isOpened", "[Z", true)
def tyX7 : Nat → FieldType := fun k => match k with
  | 0 => .int
  | 1 => .array .int
  | 2 => .array .int
  | 3 => .array .int
  | 4 => .array .boolean
  | 5 => .array .int
  | 6 => .int
  | 7 => .int
  | 8 => .array .int
  | 9 => .int
  | 10 => .int
  | 11 => .array .int
  | 12 => .array .int
  | 13 => .array .int
  | 14 => .array .int
  | 15 => .array .int
  | 16 => .array .boolean
  | 17 => .array .int
  | 18 => .array .boolean
  | 19 => .array .int
  | 20 => .array .boolean
  | 21 => .array .int
  | 22 => .array .int
  | 23 => .array .int
  | 24 => .int
  | 25 => .array .int
  | 26 => .array .int
  | 27 => .int
  | 28 => .array .int
  | 29 => .array .int
  | 30 => .array .int
  | _ => .array .boolean
abbrev wsX70 : List Cond := u_ws RX7 TX7 32
theorem nmX7 : ∀ a, a < 32 → ∀ b, b < 32 → a ≠ b → (TX7 a).2.1 ≠ (TX7 b).2.1 := by decide +kernel
theorem tyX7_ok : ∀ k, k < 32 → parseFieldDescriptor (TX7 k).2.2.1 = some (tyX7 k) := by decide +kernel
abbrev cX7_init : ByteArray := prog_9_method_1_code
def yX7_init : MethodName := ⟨RX7, "<init>", "()V"⟩
abbrev cX7_in : ByteArray := prog_9_method_3_code
def yX7_in : MethodName := ⟨RX7, "in", "(III)Z"⟩
abbrev cX7_isHouse : ByteArray := prog_9_method_4_code
def yX7_isHouse : MethodName := ⟨RX7, "isHouse", "(I)Z"⟩
abbrev cX7_isNight : ByteArray := prog_9_method_5_code
def yX7_isNight : MethodName := ⟨RX7, "isNight", "(I)Z"⟩
abbrev cX7_isChain : ByteArray := prog_9_method_6_code
def yX7_isChain : MethodName := ⟨RX7, "isChain", "(I)Z"⟩
abbrev cX7_house : ByteArray := prog_9_method_7_code
def yX7_house : MethodName := ⟨RX7, "house", "(IIII)I"⟩
abbrev cX7_stage : ByteArray := prog_9_method_8_code
def yX7_stage : MethodName := ⟨RX7, "stage", "(III)I"⟩
abbrev cX7_chores : ByteArray := prog_9_method_9_code
def yX7_chores : MethodName := ⟨RX7, "chores", "(II)I"⟩
abbrev cX7_placeOf : ByteArray := prog_9_method_10_code
def yX7_placeOf : MethodName := ⟨RX7, "placeOf", "(II)I"⟩
abbrev cX7_freeIn : ByteArray := prog_9_method_11_code
def yX7_freeIn : MethodName := ⟨RX7, "freeIn", "(III)I"⟩
abbrev cX7_freeOf : ByteArray := prog_9_method_12_code
def yX7_freeOf : MethodName := ⟨RX7, "freeOf", "(II)I"⟩
abbrev cX7_free : ByteArray := prog_9_method_13_code
def yX7_free : MethodName := ⟨RX7, "free", "(III)I"⟩
abbrev cX7_isShut : ByteArray := prog_9_method_14_code
def yX7_isShut : MethodName := ⟨RX7, "isShut", "(II)I"⟩
abbrev cX7_parts : ByteArray := prog_9_method_15_code
def yX7_parts : MethodName := ⟨RX7, "parts", "(III)V"⟩
abbrev cX7_lays : ByteArray := prog_9_method_16_code
def yX7_lays : MethodName := ⟨RX7, "lays", "(II)V"⟩
abbrev cX7_takesOut : ByteArray := prog_9_method_17_code
def yX7_takesOut : MethodName := ⟨RX7, "takesOut", "(II)V"⟩
abbrev cX7_chain : ByteArray := prog_9_method_18_code
def yX7_chain : MethodName := ⟨RX7, "chain", "(III)I"⟩
abbrev cX7_add : ByteArray := prog_9_method_19_code
def yX7_add : MethodName := ⟨RX7, "add", "(II)I"⟩
abbrev cX7_areJoined : ByteArray := prog_9_method_20_code
def yX7_areJoined : MethodName := ⟨RX7, "areJoined", "(II)Z"⟩
abbrev cX7_isOpen : ByteArray := prog_9_method_21_code
def yX7_isOpen : MethodName := ⟨RX7, "isOpen", "(III)Z"⟩
abbrev cX7_bar : ByteArray := prog_9_method_22_code
def yX7_bar : MethodName := ⟨RX7, "bar", "(I)I"⟩
abbrev cX7_gives : ByteArray := prog_9_method_23_code
def yX7_gives : MethodName := ⟨RX7, "gives", "(I)V"⟩
abbrev cX7_refuses : ByteArray := prog_9_method_24_code
def yX7_refuses : MethodName := ⟨RX7, "refuses", "(I)I"⟩
abbrev cX7_give : ByteArray := prog_9_method_25_code
def yX7_give : MethodName := ⟨RX7, "give", "(I)I"⟩
abbrev cX7_ways : ByteArray := prog_9_method_26_code
def yX7_ways : MethodName := ⟨RX7, "ways", "(IIZ)I"⟩
abbrev cX7_other : ByteArray := prog_9_method_27_code
def yX7_other : MethodName := ⟨RX7, "other", "(I)I"⟩
abbrev cX7_offered : ByteArray := prog_9_method_28_code
def yX7_offered : MethodName := ⟨RX7, "offered", "(II)I"⟩
abbrev cX7_take : ByteArray := prog_9_method_29_code
def yX7_take : MethodName := ⟨RX7, "take", "(I)I"⟩
abbrev cX7_list : ByteArray := prog_9_method_30_code
def yX7_list : MethodName := ⟨RX7, "list", "(II)I"⟩
abbrev cX7_giveUp : ByteArray := prog_9_method_31_code
def yX7_giveUp : MethodName := ⟨RX7, "giveUp", "(I)I"⟩
abbrev cX7_isLaidThere : ByteArray := prog_9_method_32_code
def yX7_isLaidThere : MethodName := ⟨RX7, "isLaidThere", "(IIII)Z"⟩
abbrev cX7_leads : ByteArray := prog_9_method_33_code
def yX7_leads : MethodName := ⟨RX7, "leads", "(I)Z"⟩
abbrev cX7_shut : ByteArray := prog_9_method_34_code
def yX7_shut : MethodName := ⟨RX7, "shut", "(III)I"⟩
abbrev cX7_milesOf : ByteArray := prog_9_method_35_code
def yX7_milesOf : MethodName := ⟨RX7, "milesOf", "(I)I"⟩
abbrev cX7_nightsSlept : ByteArray := prog_9_method_36_code
def yX7_nightsSlept : MethodName := ⟨RX7, "nightsSlept", "(I)I"⟩
abbrev cX7_about : ByteArray := prog_9_method_37_code
def yX7_about : MethodName := ⟨RX7, "about", "(II)I"⟩
abbrev cX7_laid : ByteArray := prog_9_method_38_code
def yX7_laid : MethodName := ⟨RX7, "laid", "(III)I"⟩
abbrev cX7_letter : ByteArray := prog_9_method_39_code
def yX7_letter : MethodName := ⟨RX7, "letter", "(III)I"⟩
abbrev cX7_open : ByteArray := prog_9_method_40_code
def yX7_open : MethodName := ⟨RX7, "open", "(I)I"⟩
abbrev cX7_arrive : ByteArray := prog_9_method_41_code
def yX7_arrive : MethodName := ⟨RX7, "arrive", "(I)I"⟩
abbrev cX7_mayLose : ByteArray := prog_9_method_42_code
def yX7_mayLose : MethodName := ⟨RX7, "mayLose", "(II)Z"⟩
abbrev cX7_door : ByteArray := prog_9_method_43_code
def yX7_door : MethodName := ⟨RX7, "door", "(III)I"⟩
abbrev cX7_worker : ByteArray := prog_9_method_44_code
def yX7_worker : MethodName := ⟨RX7, "worker", "(I)I"⟩
abbrev cX7_pass : ByteArray := prog_9_method_45_code
def yX7_pass : MethodName := ⟨RX7, "pass", "()I"⟩
abbrev cX7_suppers : ByteArray := prog_9_method_46_code
def yX7_suppers : MethodName := ⟨RX7, "suppers", "(II)I"⟩
abbrev cX7_inStatus : ByteArray := prog_9_method_47_code
def yX7_inStatus : MethodName := ⟨RX7, "inStatus", "(I)I"⟩
abbrev cX7_count : ByteArray := prog_9_method_48_code
def yX7_count : MethodName := ⟨RX7, "count", "(I)I"⟩
abbrev cX7_digest : ByteArray := prog_9_method_49_code
def yX7_digest : MethodName := ⟨RX7, "digest", "()J"⟩
def RJ9 : String := "java/lang/Math"
def TJ9 : u_T := fun k => match k with
  | _ => ("", "", "", false)
def tyJ9 : Nat → FieldType := fun k => match k with
  | _ => .int
abbrev wsJ90 : List Cond := u_ws RJ9 TJ9 0
theorem nmJ9 : ∀ a, a < 0 → ∀ b, b < 0 → a ≠ b → (TJ9 a).2.1 ≠ (TJ9 b).2.1 := by decide +kernel
theorem tyJ9_ok : ∀ k, k < 0 → parseFieldDescriptor (TJ9 k).2.2.1 = some (tyJ9 k) := by decide +kernel
abbrev cJ9_max_7cf53 : ByteArray := prog_10_method_65_code
def yJ9_max_7cf53 : MethodName := ⟨RJ9, "max", "(II)I"⟩
abbrev cJ9_min_7cf53 : ByteArray := prog_10_method_69_code
def yJ9_min_7cf53 : MethodName := ⟨RJ9, "min", "(II)I"⟩
def RL : String := "WalkHousesLaw"
abbrev cL_law : ByteArray := code
def yL_law : MethodName := ⟨RL, "law", "([I)Z"⟩
end
section
/-! tables of the program: classes, methods, pool entries, with their places in lw_tbl -/
def zRn : Nat → String := fun c => match c with
  | 0 => RX0
  | 1 => RX1
  | 2 => RX2
  | 3 => RX3
  | 4 => RX4
  | 5 => RX5
  | 6 => RX6
  | 7 => RX7
  | _ => RL
def zT : Nat → u_T := fun c => match c with
  | 0 => TX0
  | 1 => TX1
  | 2 => TX2
  | 3 => TX3
  | 4 => TX4
  | 5 => TX5
  | 6 => TX6
  | _ => TX7
def zty : Nat → Nat → FieldType := fun c => match c with
  | 0 => tyX0
  | 1 => tyX1
  | 2 => tyX2
  | 3 => tyX3
  | 4 => tyX4
  | 5 => tyX5
  | 6 => tyX6
  | _ => tyX7
def zN : Nat → Nat := fun c => match c with
  | 0 => 9
  | 1 => 7
  | 2 => 5
  | 3 => 3
  | 4 => 3
  | 5 => 3
  | 6 => 9
  | 7 => 32
  | _ => 0
abbrev zCl : List vw_C := [(RX0, TX0, 9), (RX1, TX1, 7), (RX2, TX2, 5), (RX3, TX3, 3), (RX4, TX4, 3), (RX5, TX5, 3), (RX6, TX6, 9), (RX7, TX7, 32)]
abbrev zE : Type := MethodName × ByteArray × Nat × Option FieldType × Nat × Nat × Nat × Nat × Nat × Nat
def zmT0 : List zE := [
  (yX0_init, cX0_init, 1, none, 0, 0, 179, 178, 0, 47),
  (yX0_ask, cX0_ask, 4, none, 0, 3, 407, 405, 406, 47),
  (yX0_follow, cX0_follow, 4, none, 0, 2, 378, 376, 377, 47),
  (yX0_isLaid, cX0_isLaid, 4, (some .boolean), 0, 1, 332, 330, 331, 47),
  (yX0_has, cX0_has, 2, (some .boolean), 0, 1, 327, 325, 326, 47),
  (yX0_isLaidOn, cX0_isLaidOn, 2, (some .boolean), 0, 1, 323, 321, 322, 47),
  (yX0_isLaidAt, cX0_isLaidAt, 3, (some .boolean), 0, 2, 319, 317, 318, 47),
  (yX0_isLaidBetween, cX0_isLaidBetween, 5, (some .boolean), 0, 3, 315, 313, 314, 47),
  (yX0_sleep, cX0_sleep, 2, (some .boolean), 0, 1, 524, 522, 523, 47),
  (yX0_sleptAt, cX0_sleptAt, 3, (some .boolean), 0, 2, 536, 534, 535, 47),
  (yX0_nightsSlept, cX0_nightsSlept, 3, (some .int), 0, 0, 466, 464, 465, 47),
  (yX0_didLessThan, cX0_didLessThan, 2, (some .boolean), 0, 1, 540, 538, 539, 47),
  (yX1_init, cX1_init, 1, none, 1, 0, 69, 68, 0, 43),
  (yX1_furnish, cX1_furnish, 4, none, 1, 2, 267, 265, 266, 43),
  (yX1_freeBeds, cX1_freeBeds, 4, (some .int), 1, 1, 299, 297, 298, 43),
  (yX1_hasRoom, cX1_hasRoom, 3, (some .boolean), 1, 2, 364, 362, 363, 43),
  (yX1_close, cX1_close, 4, none, 1, 2, 311, 309, 310, 43),
  (yX1_freeInSet, cX1_freeInSet, 5, (some .int), 1, 2, 396, 394, 395, 43),
  (yX1_dormsFor, cX1_dormsFor, 4, (some .int), 1, 2, 390, 388, 389, 43),
  (yX1_fill, cX1_fill, 9, none, 1, 4, 386, 384, 385, 43),
  (yX1_clear, cX1_clear, 5, none, 1, 3, 347, 345, 346, 43),
  (yX1_endNight, cX1_endNight, 1, none, 1, 0, 544, 542, 543, 43)]
def zmT1 : List zE := [
  (yX2_init, cX2_init, 1, none, 2, 0, 139, 138, 0, 45),
  (yX2_receive, cX2_receive, 4, (some .int), 2, 3, 478, 476, 477, 45),
  (yX2_nextToOpen, cX2_nextToOpen, 5, (some .int), 2, 1, 486, 484, 485, 45),
  (yX2_unopened, cX2_unopened, 3, (some .int), 2, 0, 568, 566, 567, 45),
  (yX3_init, cX3_init, 1, none, 3, 0, 163, 162, 0, 46),
  (yX3_write, cX3_write, 3, (some .int), 3, 2, 560, 558, 559, 46),
  (yX3_hundredthsFor, cX3_hundredthsFor, 4, (some .int), 3, 1, 453, 451, 452, 46),
  (yX4_init, cX4_init, 2, none, 4, 0, 62, 61, 0, 42),
  (yX4_hasHouse, cX4_hasHouse, 2, (some .boolean), 4, 1, 275, 273, 274, 42),
  (yX4_build, cX4_build, 6, (some .int), 4, 4, 263, 261, 262, 42),
  (yX4_join, cX4_join, 4, (some .int), 4, 3, 284, 282, 283, 42),
  (yX4_joined, cX4_joined, 3, (some .boolean), 4, 2, 280, 278, 279, 42),
  (yX4_firstBar, cX4_firstBar, 4, (some .int), 4, 1, 431, 429, 430, 42),
  (yX4_milesSlept, cX4_milesSlept, 4, (some .int), 4, 1, 462, 460, 461, 42),
  (yX5_init, cX5_init, 2, none, 5, 1, 120, 119, 0, 44),
  (yX5_find, cX5_find, 6, (some .int), 5, 2, 351, 349, 350, 44),
  (yX5_leastParting, cX5_leastParting, 7, (some .int), 5, 4, 356, 355, 2, 44),
  (yX5_canBeIn, cX5_canBeIn, 5, (some .boolean), 5, 4, 360, 359, 3, 44),
  (yX5_leastNext, cX5_leastNext, 7, (some .int), 5, 2, 369, 368, 4, 44),
  (yX5_trace, cX5_trace, 5, none, 5, 2, 374, 373, 5, 44),
  (yX6_init, cX6_init, 2, none, 6, 0, 54, 53, 0, 41),
  (yX6_house, cX6_house, 6, (some .int), 6, 4, 256, 254, 255, 41)]
def zmT2 : List zE := [
  (yX6_stage, cX6_stage, 4, (some .int), 6, 3, 271, 269, 270, 41),
  (yX6_chores, cX6_chores, 5, (some .int), 6, 2, 288, 286, 287, 41),
  (yX6_free, cX6_free, 5, (some .int), 6, 3, 292, 290, 291, 41),
  (yX6_isShut, cX6_isShut, 3, (some .int), 6, 2, 303, 301, 302, 41),
  (yX6_shut, cX6_shut, 7, (some .int), 6, 3, 307, 305, 306, 41),
  (yX6_chain, cX6_chain, 4, (some .int), 6, 3, 403, 401, 402, 41),
  (yX6_add, cX6_add, 4, (some .int), 6, 2, 411, 409, 410, 41),
  (yX6_give, cX6_give, 2, (some .int), 6, 1, 419, 417, 418, 41),
  (yX6_other, cX6_other, 2, (some .int), 6, 1, 437, 435, 436, 41),
  (yX6_offered, cX6_offered, 3, (some .int), 6, 2, 441, 439, 440, 41),
  (yX6_take, cX6_take, 4, (some .int), 6, 1, 445, 443, 444, 41),
  (yX6_giveUp, cX6_giveUp, 3, (some .int), 6, 1, 449, 447, 448, 41),
  (yX6_about, cX6_about, 4, (some .int), 6, 2, 457, 455, 456, 41),
  (yX6_laid, cX6_laid, 4, (some .int), 6, 3, 470, 468, 469, 41),
  (yX6_letter, cX6_letter, 4, (some .int), 6, 3, 474, 472, 473, 41),
  (yX6_open, cX6_open, 5, (some .int), 6, 1, 482, 480, 481, 41),
  (yX6_arrive, cX6_arrive, 3, (some .int), 6, 1, 494, 492, 493, 41),
  (yX6_door, cX6_door, 6, (some .int), 6, 3, 499, 497, 498, 41),
  (yX6_pass, cX6_pass, 3, (some .int), 6, 0, 516, 514, 515, 41),
  (yX6_suppers, cX6_suppers, 5, (some .int), 6, 2, 552, 550, 551, 41),
  (yX6_list, cX6_list, 3, (some .int), 6, 2, 556, 554, 555, 41),
  (yX6_count, cX6_count, 2, (some .int), 6, 1, 564, 562, 563, 41)]
def zmT3 : List zE := [
  (yX6_digest, cX6_digest, 5, (some .long), 6, 0, 576, 574, 575, 41),
  (yX6_within, cX6_within, 3, (some .boolean), 6, 3, 259, 258, 0, 41),
  (yX6_isNight, cX6_isNight, 1, (some .boolean), 6, 1, 295, 294, 0, 41),
  (yX6_isChain, cX6_isChain, 2, (some .boolean), 6, 1, 415, 414, 7, 41),
  (yX6_canBeGiven, cX6_canBeGiven, 2, (some .boolean), 6, 1, 423, 422, 8, 41),
  (yX6_chainsThatAre, cX6_chainsThatAre, 4, (some .int), 6, 1, 572, 571, 18, 41),
  (yX6_giveOwnWay, cX6_giveOwnWay, 3, (some .int), 6, 1, 427, 426, 9, 41),
  (yX6_answer, cX6_answer, 2, (some .boolean), 6, 1, 490, 489, 10, 41),
  (yX6_layFrom, cX6_layFrom, 4, none, 6, 2, 382, 381, 6, 41),
  (yX6_liftFrom, cX6_liftFrom, 4, none, 6, 2, 343, 342, 1, 41),
  (yX6_leadRound, cX6_leadRound, 3, (some .boolean), 6, 1, 336, 335, 0, 41),
  (yX6_isLate, cX6_isLate, 3, (some .boolean), 6, 2, 507, 506, 12, 41),
  (yX6_bedsOfLate, cX6_bedsOfLate, 4, (some .int), 6, 1, 503, 502, 11, 41),
  (yX6_clearLate, cX6_clearLate, 6, (some .int), 6, 2, 512, 511, 13, 41),
  (yX6_sleepTonight, cX6_sleepTonight, 3, (some .int), 6, 0, 520, 519, 14, 41),
  (yX6_doChores, cX6_doChores, 4, none, 6, 1, 528, 527, 15, 41),
  (yX6_leastDone, cX6_leastDone, 4, (some .int), 6, 1, 532, 531, 16, 41),
  (yX6_endChains, cX6_endChains, 3, none, 6, 0, 548, 547, 17, 41),
  (yX7_init, cX7_init, 1, none, 7, 0, 585, 584, 0, 48),
  (yX7_in, cX7_in, 3, (some .boolean), 7, 3, 690, 689, 0, 48),
  (yX7_isHouse, cX7_isHouse, 2, (some .boolean), 7, 1, 698, 697, 19, 48),
  (yX7_isNight, cX7_isNight, 1, (some .boolean), 7, 1, 709, 708, 0, 48)]
def zmT4 : List zE := [
  (yX7_isChain, cX7_isChain, 2, (some .boolean), 7, 1, 737, 736, 23, 48),
  (yX7_house, cX7_house, 5, (some .int), 7, 4, 687, 685, 686, 48),
  (yX7_stage, cX7_stage, 4, (some .int), 7, 3, 694, 692, 693, 48),
  (yX7_chores, cX7_chores, 4, (some .int), 7, 2, 702, 700, 701, 48),
  (yX7_placeOf, cX7_placeOf, 4, (some .int), 7, 2, 721, 720, 22, 48),
  (yX7_freeIn, cX7_freeIn, 7, (some .int), 7, 3, 717, 716, 21, 48),
  (yX7_freeOf, cX7_freeOf, 3, (some .int), 7, 2, 713, 712, 20, 48),
  (yX7_free, cX7_free, 4, (some .int), 7, 3, 706, 704, 705, 48),
  (yX7_isShut, cX7_isShut, 3, (some .int), 7, 2, 725, 723, 724, 48),
  (yX7_parts, cX7_parts, 10, none, 7, 3, 769, 768, 30, 48),
  (yX7_lays, cX7_lays, 5, none, 7, 2, 765, 764, 29, 48),
  (yX7_takesOut, cX7_takesOut, 3, none, 7, 2, 797, 796, 32, 48),
  (yX7_chain, cX7_chain, 4, (some .int), 7, 3, 729, 727, 728, 48),
  (yX7_add, cX7_add, 3, (some .int), 7, 2, 733, 731, 732, 48),
  (yX7_areJoined, cX7_areJoined, 3, (some .boolean), 7, 2, 753, 752, 26, 48),
  (yX7_isOpen, cX7_isOpen, 4, (some .boolean), 7, 3, 757, 756, 27, 48),
  (yX7_bar, cX7_bar, 4, (some .int), 7, 1, 749, 748, 25, 48),
  (yX7_gives, cX7_gives, 3, none, 7, 1, 761, 760, 28, 48),
  (yX7_refuses, cX7_refuses, 2, (some .int), 7, 1, 745, 744, 24, 48),
  (yX7_give, cX7_give, 4, (some .int), 7, 1, 741, 739, 740, 48),
  (yX7_ways, cX7_ways, 12, (some .int), 7, 3, 777, 776, 31, 48),
  (yX7_other, cX7_other, 3, (some .int), 7, 1, 773, 771, 772, 48)]
def zmT5 : List zE := [
  (yX7_offered, cX7_offered, 4, (some .int), 7, 2, 781, 779, 780, 48),
  (yX7_take, cX7_take, 5, (some .int), 7, 1, 785, 783, 784, 48),
  (yX7_list, cX7_list, 3, (some .int), 7, 2, 789, 787, 788, 48),
  (yX7_giveUp, cX7_giveUp, 5, (some .int), 7, 1, 793, 791, 792, 48),
  (yX7_isLaidThere, cX7_isLaidThere, 6, (some .boolean), 7, 4, 805, 804, 33, 48),
  (yX7_leads, cX7_leads, 6, (some .boolean), 7, 1, 809, 808, 34, 48),
  (yX7_shut, cX7_shut, 6, (some .int), 7, 3, 801, 799, 800, 48),
  (yX7_milesOf, cX7_milesOf, 5, (some .int), 7, 1, 817, 816, 35, 48),
  (yX7_nightsSlept, cX7_nightsSlept, 4, (some .int), 7, 1, 821, 820, 36, 48),
  (yX7_about, cX7_about, 3, (some .int), 7, 2, 813, 811, 812, 48),
  (yX7_laid, cX7_laid, 5, (some .int), 7, 3, 825, 823, 824, 48),
  (yX7_letter, cX7_letter, 4, (some .int), 7, 3, 829, 827, 828, 48),
  (yX7_open, cX7_open, 5, (some .int), 7, 1, 833, 831, 832, 48),
  (yX7_arrive, cX7_arrive, 3, (some .int), 7, 1, 837, 835, 836, 48),
  (yX7_mayLose, cX7_mayLose, 4, (some .boolean), 7, 2, 845, 844, 37, 48),
  (yX7_door, cX7_door, 8, (some .int), 7, 3, 841, 839, 840, 48),
  (yX7_worker, cX7_worker, 5, (some .int), 7, 1, 853, 852, 38, 48),
  (yX7_pass, cX7_pass, 5, (some .int), 7, 0, 849, 847, 848, 48),
  (yX7_suppers, cX7_suppers, 6, (some .int), 7, 2, 857, 855, 856, 48),
  (yX7_inStatus, cX7_inStatus, 4, (some .int), 7, 1, 865, 864, 39, 48),
  (yX7_count, cX7_count, 4, (some .int), 7, 1, 861, 859, 860, 48),
  (yX7_digest, cX7_digest, 5, (some .long), 7, 0, 869, 867, 868, 48)]
def zmT : List zE := zmT0 ++ (zmT1 ++ (zmT2 ++ (zmT3 ++ (zmT4 ++ (zmT5)))))
/-- the law itself stands behind the others -/
def zm0 : zE := (yL_law, cL_law, 4, some .boolean, 8, 1, 0, 0, 0, 0)
def zm (j : Nat) : zE := zmT.getD j zm0
def zy (j : Nat) : MethodName := (zm j).1
def zc (j : Nat) : ByteArray := (zm j).2.1
def zn (j : Nat) : Nat := (zm j).2.2.1
def zr (j : Nat) : Option FieldType := (zm j).2.2.2.1
def zo (j : Nat) : Nat := (zm j).2.2.2.2.1
def zp (j : Nat) : Nat := (zm j).2.2.2.2.2.1
def zlaw : Nat := 132
def zflT : List (Nat × Nat × Nat × Nat × Nat) := [(1, 9, 1, 0, 71), (6, 87, 1, 0, 72), (1, 15, 1, 1, 73), (6, 90, 1, 1, 74), (1, 19, 1, 2, 75), (4, 36, 1, 2, 76), (4, 30, 1, 3, 77), (6, 198, 1, 3, 78), (6, 74, 1, 4, 79), (1, 45, 1, 5, 80), (6, 212, 1, 5, 81), (1, 41, 1, 6, 82), (6, 237, 1, 6, 83), (4, 11, 4, 0, 101), (6, 70, 4, 0, 102), (5, 57, 4, 0, 103), (4, 18, 4, 1, 104), (5, 34, 4, 1, 105), (6, 221, 4, 1, 106), (4, 33, 4, 2, 107), (6, 243, 4, 2, 108), (5, 18, 5, 0, 122), (5, 9, 5, 1, 123), (5, 15, 5, 2, 124), (6, 141, 5, 2, 125), (2, 9, 2, 0, 141), (6, 186, 2, 0, 142), (2, 15, 2, 1, 143), (2, 18, 2, 2, 144), (2, 21, 2, 3, 145), (6, 183, 2, 3, 146), (2, 25, 2, 4, 147), (3, 9, 3, 0, 165), (3, 15, 3, 1, 166), (3, 18, 3, 2, 167), (6, 252, 3, 2, 168), (0, 9, 0, 0, 181), (5, 43, 0, 0, 182), (4, 45, 0, 0, 183), (6, 127, 0, 0, 184), (0, 15, 0, 1, 185), (6, 174, 0, 1, 186), (0, 18, 0, 2, 187), (6, 195, 0, 2, 188), (0, 22, 0, 3, 189), (4, 61, 0, 3, 190), (0, 25, 0, 4, 191), (5, 64, 0, 4, 192), (4, 55, 0, 4, 193), (6, 161, 0, 4, 194), (0, 29, 0, 5, 195), (5, 61, 0, 5, 196), (4, 52, 0, 5, 197), (6, 121, 0, 5, 198), (5, 28, 0, 6, 199), (0, 32, 0, 6, 200), (4, 40, 0, 6, 201), (6, 124, 0, 6, 202), (6, 104, 0, 7, 203), (0, 53, 0, 8, 204), (6, 167, 0, 8, 205), (6, 10, 6, 0, 225), (6, 21, 6, 1, 226), (6, 27, 6, 2, 227), (6, 34, 6, 3, 228), (6, 41, 6, 4, 229), (6, 45, 6, 5, 230), (6, 101, 6, 6, 231), (6, 94, 6, 7, 232), (6, 215, 6, 8, 233), (7, 86, 7, 0, 587), (7, 7, 7, 1, 588), (7, 13, 7, 2, 589), (7, 16, 7, 3, 590), (7, 19, 7, 4, 591), (7, 23, 7, 5, 592), (7, 179, 7, 6, 593), (7, 101, 7, 7, 594), (7, 26, 7, 8, 595), (7, 122, 7, 9, 596), (7, 94, 7, 10, 597), (7, 29, 7, 11, 598), (7, 32, 7, 12, 599), (7, 35, 7, 13, 600), (7, 38, 7, 14, 601), (7, 41, 7, 15, 602), (7, 44, 7, 16, 603), (7, 47, 7, 17, 604), (7, 50, 7, 18, 605), (7, 53, 7, 19, 606), (7, 56, 7, 20, 607), (7, 59, 7, 21, 608), (7, 62, 7, 22, 609), (7, 65, 7, 23, 610), (7, 154, 7, 24, 611), (7, 68, 7, 25, 612), (7, 71, 7, 26, 613), (7, 173, 7, 27, 614), (7, 74, 7, 28, 615), (7, 77, 7, 29, 616), (7, 80, 7, 30, 617), (7, 83, 7, 31, 618)]
/-- own, place, kind (0 virtual, 1 static, 2 init, 3 static of a nest mate, 4 init of a nest mate, 5 Object.init, 6 max, 7 min), method, word -/
def zmlT : List (Nat × Nat × Nat × Nat × Nat) := [(8, 9, 2, 42, 52), (6, 1, 5, 0, 55), (6, 9, 2, 29, 60), (4, 3, 5, 0, 63), (4, 17, 4, 12, 67), (1, 3, 5, 0, 70), (6, 18, 2, 36, 118), (5, 3, 5, 0, 121), (6, 33, 4, 22, 137), (2, 3, 5, 0, 140), (6, 40, 4, 26, 161), (3, 3, 5, 0, 164), (6, 49, 4, 0, 177), (0, 3, 5, 0, 180), (8, 13, 0, 43, 253), (6, 50, 1, 67, 257), (6, 54, 0, 31, 260), (4, 26, 0, 13, 264), (8, 18, 0, 44, 268), (6, 58, 0, 30, 272), (4, 22, 3, 67, 276), (6, 62, 0, 33, 277), (6, 66, 0, 32, 281), (8, 23, 0, 45, 285), (8, 28, 0, 46, 289), (6, 80, 1, 68, 293), (6, 83, 0, 14, 296), (8, 32, 0, 47, 300), (8, 36, 0, 48, 304), (6, 97, 0, 16, 308), (6, 107, 0, 7, 312), (0, 49, 0, 6, 316), (0, 46, 0, 5, 320), (0, 39, 0, 4, 324), (0, 35, 3, 67, 328), (0, 43, 0, 3, 329), (6, 110, 0, 76, 333), (6, 272, 6, 0, 337), (6, 152, 0, 75, 340), (6, 268, 0, 20, 344), (6, 137, 0, 37, 348), (5, 22, 6, 0, 352), (5, 39, 0, 38, 353), (5, 50, 0, 39, 357), (5, 67, 0, 15, 361), (1, 22, 0, 14, 365), (5, 54, 0, 40, 366), (5, 73, 0, 33, 370), (5, 46, 0, 41, 371), (6, 144, 0, 2, 375), (6, 148, 0, 74, 379), (6, 208, 0, 19, 383), (1, 33, 0, 18, 387), (1, 29, 0, 17, 393), (1, 36, 7, 0, 397), (8, 40, 0, 49, 400), (6, 114, 0, 1, 404), (8, 44, 0, 50, 408), (6, 118, 0, 69, 412), (8, 48, 0, 51, 416), (6, 130, 0, 70, 420), (6, 133, 0, 72, 424), (6, 265, 0, 34, 428), (4, 48, 0, 33, 432), (4, 58, 0, 15, 433), (8, 53, 0, 52, 434), (8, 57, 0, 53, 438), (8, 61, 0, 54, 442), (8, 65, 0, 55, 446), (6, 155, 0, 28, 450), (8, 69, 0, 56, 454), (6, 158, 0, 3, 458), (6, 164, 0, 35, 459), (6, 170, 0, 10, 463), (8, 73, 0, 57, 467), (8, 77, 0, 58, 471), (6, 177, 0, 23, 475), (8, 81, 0, 59, 479), (6, 180, 0, 24, 483), (6, 189, 0, 73, 487), (8, 85, 0, 60, 491), (6, 192, 0, 5, 495), (8, 89, 0, 61, 496), (6, 201, 0, 78, 500), (6, 277, 0, 77, 504), (6, 234, 0, 6, 508), (6, 204, 0, 79, 509), (8, 93, 0, 62, 513), (6, 218, 0, 80, 517), (6, 281, 0, 8, 521), (6, 224, 0, 81, 525), (6, 284, 0, 82, 529), (6, 287, 0, 9, 533), (6, 290, 0, 11, 537), (6, 228, 0, 21, 541), (6, 231, 0, 83, 545), (8, 98, 0, 63, 549), (8, 102, 0, 64, 553), (6, 240, 0, 27, 557), (8, 106, 0, 65, 561), (6, 246, 0, 25, 565), (6, 249, 0, 71, 569), (8, 110, 0, 66, 573), (6, 259, 0, 65, 579), (6, 262, 0, 56, 580), (8, 12, 2, 84, 583), (7, 1, 5, 0, 586), (8, 17, 0, 89, 684), (7, 90, 1, 85, 688), (8, 22, 0, 90, 691), (7, 97, 0, 86, 695), (8, 27, 0, 91, 699), (8, 31, 0, 95, 703), (7, 112, 1, 87, 707), (7, 115, 0, 94, 710), (7, 108, 0, 93, 714), (7, 104, 0, 92, 718), (8, 35, 0, 96, 722), (8, 43, 0, 100, 726), (8, 47, 0, 101, 730), (7, 125, 0, 88, 734), (8, 52, 0, 107, 738), (7, 139, 0, 106, 742), (7, 143, 0, 104, 746), (7, 128, 0, 102, 750), (7, 132, 0, 103, 754), (7, 146, 0, 105, 758), (7, 135, 0, 98, 762), (7, 118, 0, 97, 766), (8, 56, 0, 109, 770), (7, 150, 0, 108, 774), (8, 60, 0, 110, 778), (8, 64, 0, 111, 782), (8, 105, 0, 112, 786), (8, 68, 0, 113, 790), (7, 157, 0, 99, 794), (8, 39, 0, 116, 798), (7, 160, 0, 114, 802), (7, 164, 0, 115, 806), (8, 72, 0, 119, 810), (7, 167, 0, 117, 814), (7, 170, 0, 118, 818), (8, 76, 0, 120, 822), (8, 80, 0, 121, 826), (8, 84, 0, 122, 830), (8, 88, 0, 123, 834), (8, 92, 0, 125, 838), (7, 176, 0, 124, 842), (8, 97, 0, 127, 846), (7, 182, 0, 126, 850), (8, 101, 0, 128, 854), (8, 109, 0, 130, 858), (7, 185, 0, 129, 862), (8, 114, 0, 131, 866), (7, 192, 0, 130, 872), (7, 195, 0, 119, 873)]
def zclT : List (Nat × Nat × Nat × Nat × Nat) := [(8, 7, 6, 50, 51), (6, 7, 4, 58, 59), (4, 9, 1, 64, 66), (6, 16, 5, 116, 117), (6, 25, 0, 133, 176), (6, 31, 2, 135, 136), (6, 38, 3, 159, 160), (8, 10, 7, 581, 582)]
def zlcT : List (Nat × Nat × Int64 × Nat) := [(6, 255, 17, 577), (6, 257, 31, 578), (7, 188, 17, 870), (7, 190, 31, 871)]
def zfl (a n : Nat) : Option (Nat × Nat) := (zflT.find? (fun e => e.1 == a && e.2.1 == n)).map (fun e => (e.2.2.1, e.2.2.2.1))
def zml (a n : Nat) : Option (Nat × Nat) := (zmlT.find? (fun e => e.1 == a && e.2.1 == n)).map (fun e => (e.2.2.1, e.2.2.2.1))
def zcl (a n : Nat) : Option Nat := (zclT.find? (fun e => e.1 == a && e.2.1 == n)).map (fun e => e.2.2.1)
def zlc (a n : Nat) : Option Int64 := (zlcT.find? (fun e => e.1 == a && e.2.1 == n)).map (fun e => e.2.2.1)
def zft (j pc : Nat) : Option (Instr × Nat) := match decode (zc j) pc with
  | .ok x => some x
  | .error _ => none
theorem zft_ok {j pc : Nat} {i : Instr} {len : Nat} (h : zft j pc = some (i, len)) : decode (zc j) pc = .ok (i, len) := by
  unfold zft at h
  split at h
  · next x e => rw [e]; cases h; rfl
  · cases h
def zW : List Cond := lw_tbl.filter goodWord
theorem zW_at {w : Cond} (i : Nat) (h : lw_tbl[i]? = some w) (g : goodWord w = true) : w ∈ zW := List.mem_filter.mpr ⟨List.mem_of_getElem? h, g⟩
theorem zW_good {w : Cond} (h : w ∈ zW) : w ∈ lw_tbl ∧ goodWord w = true := List.mem_filter.mp h
def zgw (i : Nat) (w : Cond) : Bool := decide (lw_tbl[i]? = some w) && goodWord w
theorem zgw_in {i : Nat} {w : Cond} (h : zgw i w = true) : w ∈ zW := by
  simp only [zgw, Bool.and_eq_true, decide_eq_true_eq] at h
  exact zW_at i h.1 h.2

set_option maxRecDepth 20000 in
theorem zcw0 : ∀ q ∈ zmT0, Cond.code q.1 q.2.1 q.2.2.1 q.2.2.2.1 ∈ lw_tbl := List.forall_mem_cons.mpr ⟨List.mem_of_getElem? (i := 179) rfl, List.forall_mem_cons.mpr ⟨List.mem_of_getElem? (i := 407) rfl, List.forall_mem_cons.mpr ⟨List.mem_of_getElem? (i := 378) rfl, List.forall_mem_cons.mpr ⟨List.mem_of_getElem? (i := 332) rfl, List.forall_mem_cons.mpr ⟨List.mem_of_getElem? (i := 327) rfl, List.forall_mem_cons.mpr ⟨List.mem_of_getElem? (i := 323) rfl, List.forall_mem_cons.mpr ⟨List.mem_of_getElem? (i := 319) rfl, List.forall_mem_cons.mpr ⟨List.mem_of_getElem? (i := 315) rfl, List.forall_mem_cons.mpr ⟨List.mem_of_getElem? (i := 524) rfl, List.forall_mem_cons.mpr ⟨List.mem_of_getElem? (i := 536) rfl, List.forall_mem_cons.mpr ⟨List.mem_of_getElem? (i := 466) rfl, List.forall_mem_cons.mpr ⟨List.mem_of_getElem? (i := 540) rfl, List.forall_mem_cons.mpr ⟨List.mem_of_getElem? (i := 69) rfl, List.forall_mem_cons.mpr ⟨List.mem_of_getElem? (i := 267) rfl, List.forall_mem_cons.mpr ⟨List.mem_of_getElem? (i := 299) rfl, List.forall_mem_cons.mpr ⟨List.mem_of_getElem? (i := 364) rfl, List.forall_mem_cons.mpr ⟨List.mem_of_getElem? (i := 311) rfl, List.forall_mem_cons.mpr ⟨List.mem_of_getElem? (i := 396) rfl, List.forall_mem_cons.mpr ⟨List.mem_of_getElem? (i := 390) rfl, List.forall_mem_cons.mpr ⟨List.mem_of_getElem? (i := 386) rfl, List.forall_mem_cons.mpr ⟨List.mem_of_getElem? (i := 347) rfl, List.forall_mem_cons.mpr ⟨List.mem_of_getElem? (i := 544) rfl, fun _ h => absurd h List.not_mem_nil⟩⟩⟩⟩⟩⟩⟩⟩⟩⟩⟩⟩⟩⟩⟩⟩⟩⟩⟩⟩⟩⟩
set_option maxRecDepth 20000 in
theorem zcw1 : ∀ q ∈ zmT1, Cond.code q.1 q.2.1 q.2.2.1 q.2.2.2.1 ∈ lw_tbl := List.forall_mem_cons.mpr ⟨List.mem_of_getElem? (i := 139) rfl, List.forall_mem_cons.mpr ⟨List.mem_of_getElem? (i := 478) rfl, List.forall_mem_cons.mpr ⟨List.mem_of_getElem? (i := 486) rfl, List.forall_mem_cons.mpr ⟨List.mem_of_getElem? (i := 568) rfl, List.forall_mem_cons.mpr ⟨List.mem_of_getElem? (i := 163) rfl, List.forall_mem_cons.mpr ⟨List.mem_of_getElem? (i := 560) rfl, List.forall_mem_cons.mpr ⟨List.mem_of_getElem? (i := 453) rfl, List.forall_mem_cons.mpr ⟨List.mem_of_getElem? (i := 62) rfl, List.forall_mem_cons.mpr ⟨List.mem_of_getElem? (i := 275) rfl, List.forall_mem_cons.mpr ⟨List.mem_of_getElem? (i := 263) rfl, List.forall_mem_cons.mpr ⟨List.mem_of_getElem? (i := 284) rfl, List.forall_mem_cons.mpr ⟨List.mem_of_getElem? (i := 280) rfl, List.forall_mem_cons.mpr ⟨List.mem_of_getElem? (i := 431) rfl, List.forall_mem_cons.mpr ⟨List.mem_of_getElem? (i := 462) rfl, List.forall_mem_cons.mpr ⟨List.mem_of_getElem? (i := 120) rfl, List.forall_mem_cons.mpr ⟨List.mem_of_getElem? (i := 351) rfl, List.forall_mem_cons.mpr ⟨List.mem_of_getElem? (i := 356) rfl, List.forall_mem_cons.mpr ⟨List.mem_of_getElem? (i := 360) rfl, List.forall_mem_cons.mpr ⟨List.mem_of_getElem? (i := 369) rfl, List.forall_mem_cons.mpr ⟨List.mem_of_getElem? (i := 374) rfl, List.forall_mem_cons.mpr ⟨List.mem_of_getElem? (i := 54) rfl, List.forall_mem_cons.mpr ⟨List.mem_of_getElem? (i := 256) rfl, fun _ h => absurd h List.not_mem_nil⟩⟩⟩⟩⟩⟩⟩⟩⟩⟩⟩⟩⟩⟩⟩⟩⟩⟩⟩⟩⟩⟩
set_option maxRecDepth 20000 in
theorem zcw2 : ∀ q ∈ zmT2, Cond.code q.1 q.2.1 q.2.2.1 q.2.2.2.1 ∈ lw_tbl := List.forall_mem_cons.mpr ⟨List.mem_of_getElem? (i := 271) rfl, List.forall_mem_cons.mpr ⟨List.mem_of_getElem? (i := 288) rfl, List.forall_mem_cons.mpr ⟨List.mem_of_getElem? (i := 292) rfl, List.forall_mem_cons.mpr ⟨List.mem_of_getElem? (i := 303) rfl, List.forall_mem_cons.mpr ⟨List.mem_of_getElem? (i := 307) rfl, List.forall_mem_cons.mpr ⟨List.mem_of_getElem? (i := 403) rfl, List.forall_mem_cons.mpr ⟨List.mem_of_getElem? (i := 411) rfl, List.forall_mem_cons.mpr ⟨List.mem_of_getElem? (i := 419) rfl, List.forall_mem_cons.mpr ⟨List.mem_of_getElem? (i := 437) rfl, List.forall_mem_cons.mpr ⟨List.mem_of_getElem? (i := 441) rfl, List.forall_mem_cons.mpr ⟨List.mem_of_getElem? (i := 445) rfl, List.forall_mem_cons.mpr ⟨List.mem_of_getElem? (i := 449) rfl, List.forall_mem_cons.mpr ⟨List.mem_of_getElem? (i := 457) rfl, List.forall_mem_cons.mpr ⟨List.mem_of_getElem? (i := 470) rfl, List.forall_mem_cons.mpr ⟨List.mem_of_getElem? (i := 474) rfl, List.forall_mem_cons.mpr ⟨List.mem_of_getElem? (i := 482) rfl, List.forall_mem_cons.mpr ⟨List.mem_of_getElem? (i := 494) rfl, List.forall_mem_cons.mpr ⟨List.mem_of_getElem? (i := 499) rfl, List.forall_mem_cons.mpr ⟨List.mem_of_getElem? (i := 516) rfl, List.forall_mem_cons.mpr ⟨List.mem_of_getElem? (i := 552) rfl, List.forall_mem_cons.mpr ⟨List.mem_of_getElem? (i := 556) rfl, List.forall_mem_cons.mpr ⟨List.mem_of_getElem? (i := 564) rfl, fun _ h => absurd h List.not_mem_nil⟩⟩⟩⟩⟩⟩⟩⟩⟩⟩⟩⟩⟩⟩⟩⟩⟩⟩⟩⟩⟩⟩
set_option maxRecDepth 20000 in
theorem zcw3 : ∀ q ∈ zmT3, Cond.code q.1 q.2.1 q.2.2.1 q.2.2.2.1 ∈ lw_tbl := List.forall_mem_cons.mpr ⟨List.mem_of_getElem? (i := 576) rfl, List.forall_mem_cons.mpr ⟨List.mem_of_getElem? (i := 259) rfl, List.forall_mem_cons.mpr ⟨List.mem_of_getElem? (i := 295) rfl, List.forall_mem_cons.mpr ⟨List.mem_of_getElem? (i := 415) rfl, List.forall_mem_cons.mpr ⟨List.mem_of_getElem? (i := 423) rfl, List.forall_mem_cons.mpr ⟨List.mem_of_getElem? (i := 572) rfl, List.forall_mem_cons.mpr ⟨List.mem_of_getElem? (i := 427) rfl, List.forall_mem_cons.mpr ⟨List.mem_of_getElem? (i := 490) rfl, List.forall_mem_cons.mpr ⟨List.mem_of_getElem? (i := 382) rfl, List.forall_mem_cons.mpr ⟨List.mem_of_getElem? (i := 343) rfl, List.forall_mem_cons.mpr ⟨List.mem_of_getElem? (i := 336) rfl, List.forall_mem_cons.mpr ⟨List.mem_of_getElem? (i := 507) rfl, List.forall_mem_cons.mpr ⟨List.mem_of_getElem? (i := 503) rfl, List.forall_mem_cons.mpr ⟨List.mem_of_getElem? (i := 512) rfl, List.forall_mem_cons.mpr ⟨List.mem_of_getElem? (i := 520) rfl, List.forall_mem_cons.mpr ⟨List.mem_of_getElem? (i := 528) rfl, List.forall_mem_cons.mpr ⟨List.mem_of_getElem? (i := 532) rfl, List.forall_mem_cons.mpr ⟨List.mem_of_getElem? (i := 548) rfl, List.forall_mem_cons.mpr ⟨List.mem_of_getElem? (i := 585) rfl, List.forall_mem_cons.mpr ⟨List.mem_of_getElem? (i := 690) rfl, List.forall_mem_cons.mpr ⟨List.mem_of_getElem? (i := 698) rfl, List.forall_mem_cons.mpr ⟨List.mem_of_getElem? (i := 709) rfl, fun _ h => absurd h List.not_mem_nil⟩⟩⟩⟩⟩⟩⟩⟩⟩⟩⟩⟩⟩⟩⟩⟩⟩⟩⟩⟩⟩⟩
set_option maxRecDepth 20000 in
theorem zcw4 : ∀ q ∈ zmT4, Cond.code q.1 q.2.1 q.2.2.1 q.2.2.2.1 ∈ lw_tbl := List.forall_mem_cons.mpr ⟨List.mem_of_getElem? (i := 737) rfl, List.forall_mem_cons.mpr ⟨List.mem_of_getElem? (i := 687) rfl, List.forall_mem_cons.mpr ⟨List.mem_of_getElem? (i := 694) rfl, List.forall_mem_cons.mpr ⟨List.mem_of_getElem? (i := 702) rfl, List.forall_mem_cons.mpr ⟨List.mem_of_getElem? (i := 721) rfl, List.forall_mem_cons.mpr ⟨List.mem_of_getElem? (i := 717) rfl, List.forall_mem_cons.mpr ⟨List.mem_of_getElem? (i := 713) rfl, List.forall_mem_cons.mpr ⟨List.mem_of_getElem? (i := 706) rfl, List.forall_mem_cons.mpr ⟨List.mem_of_getElem? (i := 725) rfl, List.forall_mem_cons.mpr ⟨List.mem_of_getElem? (i := 769) rfl, List.forall_mem_cons.mpr ⟨List.mem_of_getElem? (i := 765) rfl, List.forall_mem_cons.mpr ⟨List.mem_of_getElem? (i := 797) rfl, List.forall_mem_cons.mpr ⟨List.mem_of_getElem? (i := 729) rfl, List.forall_mem_cons.mpr ⟨List.mem_of_getElem? (i := 733) rfl, List.forall_mem_cons.mpr ⟨List.mem_of_getElem? (i := 753) rfl, List.forall_mem_cons.mpr ⟨List.mem_of_getElem? (i := 757) rfl, List.forall_mem_cons.mpr ⟨List.mem_of_getElem? (i := 749) rfl, List.forall_mem_cons.mpr ⟨List.mem_of_getElem? (i := 761) rfl, List.forall_mem_cons.mpr ⟨List.mem_of_getElem? (i := 745) rfl, List.forall_mem_cons.mpr ⟨List.mem_of_getElem? (i := 741) rfl, List.forall_mem_cons.mpr ⟨List.mem_of_getElem? (i := 777) rfl, List.forall_mem_cons.mpr ⟨List.mem_of_getElem? (i := 773) rfl, fun _ h => absurd h List.not_mem_nil⟩⟩⟩⟩⟩⟩⟩⟩⟩⟩⟩⟩⟩⟩⟩⟩⟩⟩⟩⟩⟩⟩
set_option maxRecDepth 20000 in
theorem zcw5 : ∀ q ∈ zmT5, Cond.code q.1 q.2.1 q.2.2.1 q.2.2.2.1 ∈ lw_tbl := List.forall_mem_cons.mpr ⟨List.mem_of_getElem? (i := 781) rfl, List.forall_mem_cons.mpr ⟨List.mem_of_getElem? (i := 785) rfl, List.forall_mem_cons.mpr ⟨List.mem_of_getElem? (i := 789) rfl, List.forall_mem_cons.mpr ⟨List.mem_of_getElem? (i := 793) rfl, List.forall_mem_cons.mpr ⟨List.mem_of_getElem? (i := 805) rfl, List.forall_mem_cons.mpr ⟨List.mem_of_getElem? (i := 809) rfl, List.forall_mem_cons.mpr ⟨List.mem_of_getElem? (i := 801) rfl, List.forall_mem_cons.mpr ⟨List.mem_of_getElem? (i := 817) rfl, List.forall_mem_cons.mpr ⟨List.mem_of_getElem? (i := 821) rfl, List.forall_mem_cons.mpr ⟨List.mem_of_getElem? (i := 813) rfl, List.forall_mem_cons.mpr ⟨List.mem_of_getElem? (i := 825) rfl, List.forall_mem_cons.mpr ⟨List.mem_of_getElem? (i := 829) rfl, List.forall_mem_cons.mpr ⟨List.mem_of_getElem? (i := 833) rfl, List.forall_mem_cons.mpr ⟨List.mem_of_getElem? (i := 837) rfl, List.forall_mem_cons.mpr ⟨List.mem_of_getElem? (i := 845) rfl, List.forall_mem_cons.mpr ⟨List.mem_of_getElem? (i := 841) rfl, List.forall_mem_cons.mpr ⟨List.mem_of_getElem? (i := 853) rfl, List.forall_mem_cons.mpr ⟨List.mem_of_getElem? (i := 849) rfl, List.forall_mem_cons.mpr ⟨List.mem_of_getElem? (i := 857) rfl, List.forall_mem_cons.mpr ⟨List.mem_of_getElem? (i := 865) rfl, List.forall_mem_cons.mpr ⟨List.mem_of_getElem? (i := 861) rfl, List.forall_mem_cons.mpr ⟨List.mem_of_getElem? (i := 869) rfl, fun _ h => absurd h List.not_mem_nil⟩⟩⟩⟩⟩⟩⟩⟩⟩⟩⟩⟩⟩⟩⟩⟩⟩⟩⟩⟩⟩⟩
theorem zcw : ∀ q ∈ zmT, Cond.code q.1 q.2.1 q.2.2.1 q.2.2.2.1 ∈ lw_tbl := List.forall_mem_append.mpr ⟨zcw0, List.forall_mem_append.mpr ⟨zcw1, List.forall_mem_append.mpr ⟨zcw2, List.forall_mem_append.mpr ⟨zcw3, List.forall_mem_append.mpr ⟨zcw4, zcw5⟩⟩⟩⟩⟩
theorem zm_at {j : Nat} (h : j < 132) : zm j ∈ zmT := by
  have h1 : j < zmT.length := h
  unfold zm
  rw [List.getD_eq_getElem?_getD, List.getElem?_eq_getElem h1]
  exact List.getElem_mem h1
set_option maxRecDepth 100000 in
theorem zflT_ok : zflT.all (fun e => decide (e.2.2.2.1 < zN e.2.2.1) && decide (e.2.2.1 < 8) && zgw e.2.2.2.2 (.fieldLink (zRn e.1) e.2.1 (zRn e.2.2.1) (zT e.2.2.1 e.2.2.2.1).2.1 (zT e.2.2.1 e.2.2.2.1).2.2.1)) = true := by decide +kernel
set_option maxRecDepth 100000 in
theorem zclT_ok : zclT.all (fun e => decide (e.2.2.1 < 8) && zgw e.2.2.2.1 (.classLink (zRn e.1) e.2.1 (zRn e.2.2.1)) && zgw e.2.2.2.2 (.instantiable (zRn e.2.2.1) (zN e.2.2.1))) = true := by decide +kernel
set_option maxRecDepth 100000 in
theorem zlcT_ok : zlcT.all (fun e => zgw e.2.2.2 (.constantLong (zRn e.1) e.2.1 e.2.2.1)) = true := by decide +kernel
end
section
/-! a small machine over numbered cells: what it answers, the JVM answers (part 05 on) -/
abbrev zV : Type := Int ⊕ (Option Int ⊕ Int64)
abbrev zK : Type := Nat ⊕ (Nat × Int)
abbrev zC : Type := zK × (Int → zV)
abbrev zM : Type := Nat × Nat × (Int → zC)
abbrev zL : Type := List (Option zV)
abbrev zX : Type := Nat × zL × List zV × zM
def z32 (x : Int) : Bool := decide (-2147483648 ≤ x) && decide (x ≤ 2147483647)
def zlg : Option (Option zV) → Bool
  | some (some (.inr (.inr _))) => true
  | _ => false
def zfree (ls : zL) (k : Nat) : Bool := decide (k < ls.length) && !(decide (0 < k) && zlg (ls[k - 1]?))
def zup (M : zM) (p : Int) (c : zC) : zM := (M.1, M.2.1, fun q => if q = p then c else M.2.2 q)
def zst (c : zC) (k : Int) (v : zV) : zC := (c.1, fun q => if q = k then v else c.2 q)
def znew (M : zM) (n : Nat) (c : zC) : zM := (M.1 + 1, M.2.1 + n, fun q => if q = (M.1 : Int) then c else M.2.2 q)
def zdef (ci : Nat) : Int → zV := fun k => if zty ci k.toNat = .int then .inl 0 else .inr (.inl none)
def zif (b : Bool) (pc : Nat) (o : Int) : Option Nat := if 0 ≤ (pc : Int) + o then (if b then some ((pc : Int) + o).toNat else some (pc + 3)) else none
def zel (t : Nat) : Nat := if t = 2 then 1 else 0
/-- lengths -/
def zlen : Instr → Nat
  | .aload _ | .astore _ | .iload _ | .istore _ | .bipush _ | .newarray _ => 2
  | .sipush _ | .iinc _ _ | .ldc2_w _ | .getfield _ | .putfield _ | .getstatic _ | .new _ | .anewarray _ => 3
  | .if_icmp _ _ | .ifCond _ _ | .goto _ => 3
  | .invokevirtual _ | .invokestatic _ | .invokespecial _ => 3
  | _ => 1
def zlk (i : Instr) (len : Nat) : Bool := match i with
  | .tableswitch _ _ _ _ => true
  | i => decide (len = zlen i)
/-- locals and constants -/
def zn1 (j : Nat) (i : Instr) (pc : Nat) (ls : zL) (st : List zV) (M : zM) : Option zX := match i with
  | .aload_n k => match ls[k.val]? with
    | some (some (.inr (.inl (some p)))) => some (pc + 1, ls, .inr (.inl (some p)) :: st, M)
    | _ => none
  | .aload k => match ls[k]? with
    | some (some (.inr (.inl (some p)))) => some (pc + 2, ls, .inr (.inl (some p)) :: st, M)
    | _ => none
  | .iload_n k => match ls[k.val]? with
    | some (some (.inl v)) => some (pc + 1, ls, .inl v :: st, M)
    | _ => none
  | .iload k => match ls[k]? with
    | some (some (.inl v)) => some (pc + 2, ls, .inl v :: st, M)
    | _ => none
  | .lload_n k => match ls[k.val]? with
    | some (some (.inr (.inr v))) => some (pc + 1, ls, .inr (.inr v) :: st, M)
    | _ => none
  | .istore_n k => match st with
    | .inl v :: r => if zfree ls k.val = true then some (pc + 1, ls.set k.val (some (.inl v)), r, M) else none
    | _ => none
  | .istore k => match st with
    | .inl v :: r => if zfree ls k = true then some (pc + 2, ls.set k (some (.inl v)), r, M) else none
    | _ => none
  | .astore_n k => match st with
    | .inr (.inl (some p)) :: r => if zfree ls k.val = true then some (pc + 1, ls.set k.val (some (.inr (.inl (some p)))), r, M) else none
    | _ => none
  | .astore k => match st with
    | .inr (.inl (some p)) :: r => if zfree ls k = true then some (pc + 2, ls.set k (some (.inr (.inl (some p)))), r, M) else none
    | _ => none
  | .lstore_n k => match st with
    | .inr (.inr v) :: r => if zfree ls k.val = true ∧ k.val + 1 < ls.length then some (pc + 1, (ls.set k.val (some (.inr (.inr v)))).set (k.val + 1) none, r, M) else none
    | _ => none
  | .iinc k c => match ls[k]? with
    | some (some (.inl v)) => if zfree ls k = true ∧ z32 (v + c) = true ∧ z32 c = true then some (pc + 3, ls.set k (some (.inl (v + c))), st, M) else none
    | _ => none
  | .iconst c => if z32 c = true then some (pc + 1, ls, .inl c :: st, M) else none
  | .bipush c => if -128 ≤ c ∧ c ≤ 127 then some (pc + 2, ls, .inl c :: st, M) else none
  | .sipush c => if -32768 ≤ c ∧ c ≤ 32767 then some (pc + 3, ls, .inl c :: st, M) else none
  | .ldc2_w k => match zlc (zo j) k with
    | some v => some (pc + 3, ls, .inr (.inr v) :: st, M)
    | none => none
  | _ => none
/-- the stack, numbers, branches -/
def zn2 (i : Instr) (pc : Nat) (ls : zL) (st : List zV) (M : zM) : Option zX := match i with
  | .dup => match st with
    | .inl v :: r => some (pc + 1, ls, .inl v :: .inl v :: r, M)
    | .inr (.inl (some p)) :: r => some (pc + 1, ls, .inr (.inl (some p)) :: .inr (.inl (some p)) :: r, M)
    | _ => none
  | .dup2 => match st with
    | .inl v :: .inr (.inl (some p)) :: r => some (pc + 1, ls, .inl v :: .inr (.inl (some p)) :: .inl v :: .inr (.inl (some p)) :: r, M)
    | _ => none
  | .iadd => match st with
    | .inl b :: .inl a :: r => if z32 (a + b) = true then some (pc + 1, ls, .inl (a + b) :: r, M) else none
    | _ => none
  | .isub => match st with
    | .inl b :: .inl a :: r => if z32 (a - b) = true then some (pc + 1, ls, .inl (a - b) :: r, M) else none
    | _ => none
  | .imul => match st with
    | .inl b :: .inl a :: r => if z32 (a * b) = true then some (pc + 1, ls, .inl (a * b) :: r, M) else none
    | _ => none
  | .idiv => match st with
    | .inl b :: .inl a :: r => if 0 ≤ a ∧ 0 < b then some (pc + 1, ls, .inl (a / b) :: r, M) else none
    | _ => none
  | .iand => match st with
    | .inl b :: .inl a :: r => some (pc + 1, ls, .inl (Int32.ofInt a &&& Int32.ofInt b).toInt :: r, M)
    | _ => none
  | .ishr => match st with
    | .inl b :: .inl a :: r => some (pc + 1, ls, .inl (Int32.ofInt a >>> (Int32.ofInt b &&& 31)).toInt :: r, M)
    | _ => none
  | .i2l => match st with
    | .inl a :: r => some (pc + 1, ls, .inr (.inr (Int64.ofInt a)) :: r, M)
    | _ => none
  | .lmul => match st with
    | .inr (.inr b) :: .inr (.inr a) :: r => some (pc + 1, ls, .inr (.inr (a * b)) :: r, M)
    | _ => none
  | .ladd => match st with
    | .inr (.inr b) :: .inr (.inr a) :: r => some (pc + 1, ls, .inr (.inr (a + b)) :: r, M)
    | _ => none
  | .lcmp => match st with
    | .inr (.inr b) :: .inr (.inr a) :: r => some (pc + 1, ls, .inl (lg_cmp a b).toInt :: r, M)
    | _ => none
  | .if_icmp c o => match st with
    | .inl b :: .inl a :: r => (zif (match c with
        | .eq => decide (a = b)
        | .ne => decide (a ≠ b)
        | .lt => decide (a < b)
        | .ge => decide (b ≤ a)
        | .gt => decide (b < a)
        | .le => decide (a ≤ b)) pc o).map (fun q => (q, ls, r, M))
    | _ => none
  | .ifCond c o => match st with
    | .inl a :: r => (zif (match c with
        | .eq => decide (a = 0)
        | .ne => decide (a ≠ 0)
        | .lt => decide (a < 0)
        | .ge => decide (0 ≤ a)
        | .gt => decide (0 < a)
        | .le => decide (a ≤ 0)) pc o).map (fun q => (q, ls, r, M))
    | _ => none
  | .goto o => if 0 ≤ (pc : Int) + o then some (((pc : Int) + o).toNat, ls, st, M) else none
  | .tableswitch dflt lo hi offs => match st with
    | .inl a :: r => if a < lo ∨ hi < a then (if 0 ≤ (pc : Int) + dflt then some (((pc : Int) + dflt).toNat, ls, r, M) else none) else
      match offs[(a - lo).toNat]? with
      | some o => if 0 ≤ (pc : Int) + o then some (((pc : Int) + o).toNat, ls, r, M) else none
      | none => none
    | _ => none
  | _ => none
/-- cells -/
def zn3 (j : Nat) (i : Instr) (pc : Nat) (ls : zL) (st : List zV) (M : zM) : Option zX := match i with
  | .getfield n => match st, zfl (zo j) n with
    | .inr (.inl (some p)) :: r, some (ci, k) => if (M.2.2 p).1 = .inl ci then (match (M.2.2 p).2 k with
      | .inl v => some (pc + 3, ls, .inl v :: r, M)
      | .inr (.inl (some q)) => some (pc + 3, ls, .inr (.inl (some q)) :: r, M)
      | _ => none) else none
    | _, _ => none
  | .putfield n => match st, zfl (zo j) n with
    | .inl v :: .inr (.inl (some p)) :: r, some (ci, k) => if (M.2.2 p).1 = .inl ci ∧ zty ci k = .int ∧ (zT ci k).2.2.2 = false then some (pc + 3, ls, r, zup M p (zst (M.2.2 p) k (.inl v))) else none
    | .inr (.inl (some q)) :: .inr (.inl (some p)) :: r, some (ci, k) => if (M.2.2 p).1 = .inl ci ∧ zty ci k ≠ .int ∧ (zT ci k).2.2.2 = true ∧ zo j = ci ∧ (zy j).name = "<init>" then some (pc + 3, ls, r, zup M p (zst (M.2.2 p) k (.inr (.inl (some q))))) else none
    | _, _ => none
  | .iaload => match st with
    | .inl a :: .inr (.inl (some p)) :: r => match (M.2.2 p).1 with
      | .inr (0, len) => if 0 ≤ a ∧ a < len then (match (M.2.2 p).2 a with
        | .inl v => some (pc + 1, ls, .inl v :: r, M)
        | _ => none) else none
      | _ => none
    | _ => none
  | .baload => match st with
    | .inl a :: .inr (.inl (some p)) :: r => match (M.2.2 p).1 with
      | .inr (1, len) => if 0 ≤ a ∧ a < len then (match (M.2.2 p).2 a with
        | .inl v => some (pc + 1, ls, .inl v :: r, M)
        | _ => none) else none
      | _ => none
    | _ => none
  | .aaload => match st with
    | .inl a :: .inr (.inl (some p)) :: r => match (M.2.2 p).1 with
      | .inr (t, len) => if (t = 2 ∨ t = 3) ∧ 0 ≤ a ∧ a < len then (match (M.2.2 p).2 a with
        | .inr (.inl (some q)) => some (pc + 1, ls, .inr (.inl (some q)) :: r, M)
        | _ => none) else none
      | _ => none
    | _ => none
  | .iastore => match st with
    | .inl v :: .inl a :: .inr (.inl (some p)) :: r => match (M.2.2 p).1 with
      | .inr (0, len) => if 0 ≤ p ∧ 0 ≤ a ∧ a < len then some (pc + 1, ls, r, zup M p (zst (M.2.2 p) a (.inl v))) else none
      | _ => none
    | _ => none
  | .bastore => match st with
    | .inl v :: .inl a :: .inr (.inl (some p)) :: r => match (M.2.2 p).1 with
      | .inr (1, len) => if 0 ≤ p ∧ 0 ≤ a ∧ a < len ∧ (v = 0 ∨ v = 1) then some (pc + 1, ls, r, zup M p (zst (M.2.2 p) a (.inl v))) else none
      | _ => none
    | _ => none
  | .aastore => match st with
    | .inr (.inl (some q)) :: .inl a :: .inr (.inl (some p)) :: r => match (M.2.2 p).1 with
      | .inr (t, len) => if (t = 2 ∨ t = 3) ∧ 0 ≤ p ∧ 0 ≤ a ∧ a < len ∧ (M.2.2 q).1 = .inl (zel t) then some (pc + 1, ls, r, zup M p (zst (M.2.2 p) a (.inr (.inl (some q))))) else none
      | _ => none
    | _ => none
  | .arraylength => match st with
    | .inr (.inl (some p)) :: r => match (M.2.2 p).1 with
      | .inr (0, len) => some (pc + 1, ls, .inl len :: r, M)
      | _ => none
    | _ => none
  | .getstatic n => if zo j = 1 ∧ n = 26 then some (pc + 3, ls, .inr (.inl (some (-2))) :: st, M) else none
  | .new n => match zcl (zo j) n with
    | some ci => some (pc + 3, ls, .inr (.inl (some (M.1 : Int))) :: st, znew M (zN ci) (.inl ci, zdef ci))
    | none => none
  | .newarray t => match st with
    | .inl a :: r => if 0 ≤ a ∧ a ≤ 65536 then (match t with
      | .int => some (pc + 2, ls, .inr (.inl (some (M.1 : Int))) :: r, znew M a.toNat (.inr (0, a), fun _ => .inl 0))
      | .boolean => some (pc + 2, ls, .inr (.inl (some (M.1 : Int))) :: r, znew M a.toNat (.inr (1, a), fun _ => .inl 0))
      | _ => none) else none
    | _ => none
  | .anewarray n => match st, zcl (zo j) n with
    | .inl a :: r, some ci => if 0 ≤ a ∧ a ≤ 65536 ∧ ci < 2 then some (pc + 3, ls, .inr (.inl (some (M.1 : Int))) :: r, znew M a.toNat (.inr (3 - ci, a), fun _ => .inr (.inl none))) else none
    | _, _ => none
  | _ => none
/-- calls that are steps -/
def zn4 (d j : Nat) (i : Instr) (pc : Nat) (ls : zL) (st : List zV) (M : zM) : Option zX := match i with
  | .invokespecial n => match st, zml (zo j) n with
    | .inr (.inl (some p)) :: r, some (5, _) => if 1 ≤ d ∧ r.length ≤ 4 then some (pc + 3, ls, r, M) else none
    | _, _ => none
  | .invokestatic n => match st, zml (zo j) n with
    | .inl b :: .inl a :: r, some (6, _) => if 1 ≤ d ∧ r.length ≤ 4 then some (pc + 3, ls, .inl (if a < b then b else a) :: r, M) else none
    | .inl b :: .inl a :: r, some (7, _) => if 1 ≤ d ∧ r.length ≤ 4 then some (pc + 3, ls, .inl (if b < a then b else a) :: r, M) else none
    | _, _ => none
  | _ => none
def znx (d j : Nat) (i : Instr) (pc : Nat) (ls : zL) (st : List zV) (M : zM) : Option zX :=
  match zn1 j i pc ls st M with
  | some c => some c
  | none => match zn2 i pc ls st M with
    | some c => some c
    | none => match zn3 j i pc ls st M with
      | some c => some c
      | none => zn4 d j i pc ls st M
def zsm (as : List zV) : Bool := as.all (fun v => match v with
  | .inr (.inr _) => false
  | _ => true)
/-- calls: the method, its arguments, what stays -/
def zca (j : Nat) (i : Instr) (st : List zV) (M : zM) : Option (Nat × List zV × List zV) := match i with
  | .invokevirtual n => match zml (zo j) n with
    | some (0, q) => match st.drop (zp q) with
      | .inr (.inl (some p)) :: r => if (M.2.2 p).1 = .inl (zo q) ∧ r.length ≤ 4 ∧ zp q ≤ st.length ∧ zsm (st.take (zp q)) = true then some (q, .inr (.inl (some p)) :: (st.take (zp q)).reverse, r) else none
      | _ => none
    | _ => none
  | .invokestatic n => match zml (zo j) n with
    | some (k, q) => if (k = 1 ∨ k = 3) ∧ zp q ≤ st.length ∧ (st.drop (zp q)).length ≤ 4 ∧ zsm (st.take (zp q)) = true then some (q, (st.take (zp q)).reverse, st.drop (zp q)) else none
    | _ => none
  | .invokespecial n => match zml (zo j) n with
    | some (k, q) => if k = 2 ∨ k = 4 then (match st.drop (zp q) with
      | .inr (.inl (some p)) :: r => if r.length ≤ 4 ∧ zp q ≤ st.length ∧ zsm (st.take (zp q)) = true then some (q, .inr (.inl (some p)) :: (st.take (zp q)).reverse, r) else none
      | _ => none) else none
    | _ => none
  | _ => none
/-- ends -/
def zre (j : Nat) (i : Instr) (st : List zV) : Option (Option zV) := match i, st with
  | .ireturn, [.inl v] => if zr j = some .int ∨ (zr j = some .boolean ∧ (v = 0 ∨ v = 1)) then some (some (.inl v)) else none
  | .lreturn, [.inr (.inr v)] => if zr j = some .long then some (some (.inr (.inr v))) else none
  | .return_, [] => if zr j = none then some none else none
  | _, _ => none
def zent (j : Nat) (as : List zV) : zL := as.map some ++ List.replicate (zn j - as.length) none
def zrun : Nat → Nat → Nat → Nat → zL → List zV → zM → Option (Option zV × zM)
  | 0, _, _, _, _, _, _ => none
  | n + 1, d, j, pc, ls, st, M => match zft j pc with
    | none => none
    | some (i, len) => if zlk i len = true then (match zre j i st with
      | some r => some (r, M)
      | none => match zca j i st M with
        | some c => (match d with
          | 0 => none
          | d' + 1 => match zrun n d' c.1 0 (zent c.1 c.2.1) [] M with
            | none => none
            | some x => zrun n (d' + 1) j (pc + 3) ls (x.1.toList ++ c.2.2) x.2)
        | none => match znx d j i pc ls st M with
          | some c => zrun n d j c.1 c.2.1 c.2.2.1 c.2.2.2
          | none => none) else none
end
section
/-! the small machine's cells in the JVM's heap -/
def zad (base b t0 : Nat) (p : Int) : Nat := if p = -1 then b else if p = -2 then t0 else base + p.toNat
def zcv (f : Int → Nat) : zV → Value
  | .inl i => .int (Int32.ofInt i)
  | .inr (.inl none) => .null
  | .inr (.inl (some q)) => .ref (f q)
  | .inr (.inr x) => .long x
def zi : zV → Int32
  | .inl i => Int32.ofInt i
  | _ => 0
def zq (f : Int → Nat) : zV → Option Nat
  | .inr (.inl (some q)) => some (f q)
  | _ => none
def zce (f : Int → Nat) (cA : Nat → ClassId) (K : zC) : va_E := match K.1 with
  | .inl ci => .inr (ci, (List.range (zN ci)).map (fun k : Nat => zcv f (K.2 (k : Int))))
  | .inr (t, len) => .inl (cA t, len.toNat, if t < 2 then .inl (fun k : Nat => zi (K.2 (k : Int))) else .inr (.inr (.inr (.inr (fun k : Nat => zq f (K.2 (k : Int)))))))
def zws (f : Int → Nat) (base : Nat) (cA : Nat → ClassId) (M : zM) : va_W := (List.range M.1).map (fun k : Nat => (base + k, zce f cA (M.2.2 (k : Int))))
def zvk : zK → Prop
  | .inl ci => ci < 8
  | .inr (t, _) => t < 4
def zok : zV → Prop
  | .inl i => -2147483648 ≤ i ∧ i ≤ 2147483647
  | _ => True
def zdv (k : Int) : Int := if k = 0 then 1 else if k = 1 then 2 else if k = 2 then 4 else if k = 3 then 3 else if k = 4 then 5 else if k = 5 then 6 else 7
def zds : zC := (.inr (0, 7), fun k => .inl (zdv k))
def zA (base : Nat) : Nat → Prop := fun q => base ≤ q
def zsc (L : Nat) (xs : Nat → Int32) : zC := (.inr (0, (L : Int)), fun k => .inl (xs k.toNat).toInt)
def zWd (dC : Nat → ClassId) (dI : Nat → Nat → Nat) (cA : Nat → ClassId) (base b t0 L : Nat) (xs : Nat → Int32) (M : zM) (H : Heap) : Prop :=
  va_P (dC, dI) zCl (zws (zad base b t0) base cA M) H ∧ H.size = base + M.1 ∧ (∀ q : Int, zvk (M.2.2 q).1 → (0 ≤ q ∧ q < (M.1 : Int)) ∨ q = -1 ∨ q = -2) ∧
  M.2.2 (-1) = zsc L xs ∧ M.2.2 (-2) = zds ∧ (∀ q k : Int, zok ((M.2.2 q).2 k)) ∧ (∀ (q : Int) (t : Nat) (len : Int), (M.2.2 q).1 = .inr (t, len) → 0 ≤ len ∧ len ≤ 65536)
def zas (f : Int → Nat) : Nat → zL → List (Nat × Value)
  | _, [] => []
  | k, some v :: t => (k, zcv f v) :: zas f (k + 1) t
  | k, none :: t => zas f (k + 1) t
theorem zas_mem {f : Int → Nat} : ∀ (ls : zL) (k : Nat) (q : Nat × Value), q ∈ zas f k ls ↔ ∃ (j : Nat) (v : zV), q.1 = k + j ∧ ls[j]? = some (some v) ∧ q.2 = zcv f v
  | [], k, q => by simp [zas]
  | some v :: t, k, q => by
    rw [zas, List.mem_cons, zas_mem t (k + 1) q]
    constructor
    · rintro (rfl | ⟨j, w, h1, h2, h3⟩)
      · exact ⟨0, v, rfl, rfl, rfl⟩
      · exact ⟨j + 1, w, by omega, by simpa using h2, h3⟩
    · rintro ⟨j, w, h1, h2, h3⟩
      cases j with
      | zero =>
        left
        simp at h2
        subst h2
        exact Prod.ext h1 h3
      | succ j =>
        right
        exact ⟨j, w, by omega, by simpa using h2, h3⟩
  | none :: t, k, q => by
    rw [zas, zas_mem t (k + 1) q]
    constructor
    · rintro ⟨j, w, h1, h2, h3⟩
      exact ⟨j + 1, w, by omega, by simpa using h2, h3⟩
    · rintro ⟨j, w, h1, h2, h3⟩
      cases j with
      | zero => simp at h2
      | succ j => exact ⟨j, w, by omega, by simpa using h2, h3⟩
def zLR (f : Int → Nat) (nL : Nat) (ls : zL) (A : Array Slot) : Prop := lv_has A nL (zas f 0 ls) ∧ ls.length = nL ∧ ∀ v, some v ∈ ls → zok v
theorem zLR.at {f : Int → Nat} {nL : Nat} {ls : zL} {A : Array Slot} (h : zLR f nL ls A) {i : Nat} {v : zV} (hi : ls[i]? = some (some v)) : A[i]? = some (.val (zcv f v)) :=
  h.1.2.2 (i, zcv f v) ((zas_mem ls 0 (i, zcv f v)).mpr ⟨i, v, (Nat.zero_add i).symm, hi, rfl⟩)
theorem zLR.ok {f : Int → Nat} {nL : Nat} {ls : zL} {A : Array Slot} (h : zLR f nL ls A) {i : Nat} {v : zV} (hi : ls[i]? = some (some v)) : zok v := h.2.2 v (List.mem_of_getElem? hi)
theorem zcat {f : Int → Nat} (v : zV) : (zcv f v).category = 2 ↔ ∃ x, v = .inr (.inr x) := by
  rcases v with i | o | x
  · simp [zcv, Value.category]
  · cases o <;> simp [zcv, Value.category]
  · simp [zcv, Value.category]
/-- behind a store of one word -/
theorem zLR.set {f : Int → Nat} {nL : Nat} {ls : zL} {A A' : Array Slot} {i : Nat} {v : zV} (h : zLR f nL ls A) (hf : zfree ls i = true) (hv : zok v)
    (h' : lv_has A' nL ((i, zcv f v) :: (zas f 0 ls).filter (fun q => !(q.1 == i) && !(q.1 + 1 == i && q.2.category == 2)))) : zLR f nL (ls.set i (some v)) A' := by
  refine ⟨⟨h'.1, h'.2.1, fun q hq => ?_⟩, by rw [List.length_set]; exact h.2.1, fun w hw => ?_⟩
  · obtain ⟨j, w, h1, h2, h3⟩ := (zas_mem _ 0 q).mp hq
    rw [Nat.zero_add] at h1
    by_cases hij : j = i
    · subst hij
      have hlt : j < ls.length := by
        have := (List.getElem?_eq_some_iff.mp h2).1
        rwa [List.length_set] at this
      rw [List.getElem?_set_self hlt] at h2
      have hw : v = w := by simpa using h2
      subst hw
      exact h'.2.2 q (by rw [List.mem_cons]; left; exact Prod.ext h1 h3)
    · rw [List.getElem?_set_ne (fun e => hij e.symm)] at h2
      refine h'.2.2 q (List.mem_cons_of_mem _ (List.mem_filter.mpr ⟨(zas_mem ls 0 q).mpr ⟨j, w, by omega, h2, h3⟩, ?_⟩))
      have e1 : (q.1 == i) = false := by rw [h1]; simpa using hij
      rw [e1]
      simp only [Bool.not_false, Bool.true_and]
      by_cases e2 : q.1 + 1 = i
      · have : ¬ q.2.category = 2 := by
          rw [h3, zcat]
          rintro ⟨x, rfl⟩
          have hz : zlg (ls[i - 1]?) = true := by
            rw [show i - 1 = j by omega, h2]; rfl
          have hpos : 0 < i := by omega
          simp [zfree, hz, hpos] at hf
        simp [this]
      · simp [e2]
  · obtain ⟨j, hj⟩ := List.getElem?_of_mem hw
    by_cases hij : j = i
    · subst hij
      have hlt : j < ls.length := by
        have := (List.getElem?_eq_some_iff.mp hj).1
        rwa [List.length_set] at this
      rw [List.getElem?_set_self hlt] at hj
      have e : v = w := by simpa using hj
      rw [← e]; exact hv
    · rw [List.getElem?_set_ne (fun e => hij e.symm)] at hj
      exact h.ok hj
theorem zLR.set2 {f : Int → Nat} {nL : Nat} {ls : zL} {A A' : Array Slot} {i : Nat} {x : Int64} (h : zLR f nL ls A) (hf : zfree ls i = true)
    (h' : lv_has A' nL ((i, Value.long x) :: (zas f 0 ls).filter (fun q => !(q.1 == i) && (!(q.1 == i + 1) && !(q.1 + 1 == i && q.2.category == 2))))) : zLR f nL ((ls.set i (some (.inr (.inr x)))).set (i + 1) none) A' := by
  refine ⟨⟨h'.1, h'.2.1, fun q hq => ?_⟩, by rw [List.length_set, List.length_set]; exact h.2.1, fun w hw => ?_⟩
  · obtain ⟨j, w, h1, h2, h3⟩ := (zas_mem _ 0 q).mp hq
    rw [Nat.zero_add] at h1
    by_cases hi1 : j = i + 1
    · subst hi1
      have hlt : i + 1 < (ls.set i (some (.inr (.inr x) : zV))).length := by
        have := (List.getElem?_eq_some_iff.mp h2).1
        rwa [List.length_set] at this
      rw [List.getElem?_set_self hlt] at h2
      simp at h2
    · rw [List.getElem?_set_ne (fun e => hi1 e.symm)] at h2
      by_cases hij : j = i
      · subst hij
        have hlt : j < ls.length := by
          have := (List.getElem?_eq_some_iff.mp h2).1
          rwa [List.length_set] at this
        rw [List.getElem?_set_self hlt] at h2
        have hw : (.inr (.inr x) : zV) = w := by simpa using h2
        subst hw
        exact h'.2.2 q (by rw [List.mem_cons]; left; exact Prod.ext h1 h3)
      · rw [List.getElem?_set_ne (fun e => hij e.symm)] at h2
        refine h'.2.2 q (List.mem_cons_of_mem _ (List.mem_filter.mpr ⟨(zas_mem ls 0 q).mpr ⟨j, w, by omega, h2, h3⟩, ?_⟩))
        have e1 : (q.1 == i) = false := by rw [h1]; simpa using hij
        have e3 : (q.1 == i + 1) = false := by rw [h1]; simpa using hi1
        rw [e1, e3]
        simp only [Bool.not_false, Bool.true_and]
        by_cases e2 : q.1 + 1 = i
        · have : ¬ q.2.category = 2 := by
            rw [h3, zcat]
            rintro ⟨y, rfl⟩
            have hz : zlg (ls[i - 1]?) = true := by
              rw [show i - 1 = j by omega, h2]; rfl
            have hpos : 0 < i := by omega
            simp [zfree, hz, hpos] at hf
          simp [this]
        · simp [e2]
  · obtain ⟨j, hj⟩ := List.getElem?_of_mem hw
    by_cases hi1 : j = i + 1
    · subst hi1
      have hlt : i + 1 < (ls.set i (some (.inr (.inr x) : zV))).length := by
        have := (List.getElem?_eq_some_iff.mp hj).1
        rwa [List.length_set] at this
      rw [List.getElem?_set_self hlt] at hj
      simp at hj
    · rw [List.getElem?_set_ne (fun e => hi1 e.symm)] at hj
      by_cases hij : j = i
      · subst hij
        have hlt : j < ls.length := by
          have := (List.getElem?_eq_some_iff.mp hj).1
          rwa [List.length_set] at this
        rw [List.getElem?_set_self hlt] at hj
        have e : (.inr (.inr x) : zV) = w := by simpa using hj
        rw [← e]; exact trivial
      · rw [List.getElem?_set_ne (fun e => hij e.symm)] at hj
        exact h.ok hj
/-- numbers -/
theorem z32_iff {x : Int} : z32 x = true ↔ -2147483648 ≤ x ∧ x ≤ 2147483647 := by simp [z32]
theorem zti {i : Int} (h : -2147483648 ≤ i ∧ i ≤ 2147483647) : (Int32.ofInt i).toInt = i := by
  rw [Int32.toInt_ofInt]
  have e : Int32.size = 4294967296 := rfl
  rw [e]
  exact Int.bmod_eq_of_le (by omega) (by omega)
theorem zto (z : Int32) : -2147483648 ≤ z.toInt ∧ z.toInt ≤ 2147483647 := by
  have h1 := Int32.minValue_le_toInt z
  have h2 := Int32.toInt_le z
  have e1 : Int32.minValue.toInt = -2147483648 := by decide
  have e2 : Int32.maxValue.toInt = 2147483647 := by decide
  omega
theorem zinj {a b : Int} (ha : -2147483648 ≤ a ∧ a ≤ 2147483647) (hb : -2147483648 ≤ b ∧ b ≤ 2147483647) : Int32.ofInt a = Int32.ofInt b ↔ a = b := by
  constructor
  · intro h
    have := congrArg Int32.toInt h
    rwa [zti ha, zti hb] at this
  · rintro rfl; rfl
theorem zlt {a b : Int} (ha : -2147483648 ≤ a ∧ a ≤ 2147483647) (hb : -2147483648 ≤ b ∧ b ≤ 2147483647) : Int32.ofInt a < Int32.ofInt b ↔ a < b := by
  rw [Int32.lt_iff_toInt_lt, zti ha, zti hb]
theorem zle {a b : Int} (ha : -2147483648 ≤ a ∧ a ≤ 2147483647) (hb : -2147483648 ≤ b ∧ b ≤ 2147483647) : Int32.ofInt a ≤ Int32.ofInt b ↔ a ≤ b := by
  rw [Int32.le_iff_toInt_le, zti ha, zti hb]
theorem zcl_nat {i : Int} (h : 0 ≤ i ∧ i ≤ 2147483647) : (Int32.ofInt i).toNatClampNeg = i.toNat := by
  have h1 : (Int32.ofInt i).toInt = i := zti ⟨by omega, h.2⟩
  show (Int32.ofInt i).toInt.toNat = i.toNat
  rw [h1]
theorem zvin {i : Int} {n : Nat} (h : 0 ≤ i) (h2 : i < n) (hn : n ≤ 65536) : vp_in (Int32.ofInt i) n := by
  rw [vp_in_iff, zti ⟨by omega, by omega⟩]
  omega
end
section
/-! each step of the small machine is a step of the JVM: locals, numbers, branches -/
section SIM1
variable {p : Program} {l : Launch} {e : Env} {R : Room} {s : State} {m : MethodId} {args : Array Value} {below : List Frame} {meth : Method} {c : Code} {H : Heap} {locs : List Loc} {cells slots : Nat} {Q : State → Prop}
theorem zlen_of {i : Instr} {len : Nat} (h : zlk i len = true) (hi : ∀ a b c d, i ≠ .tableswitch a b c d) : len = zlen i := by
  unfold zlk at h
  split at h
  · exact absurd rfl (hi _ _ _ _)
  · exact of_decide_eq_true h
theorem zn1_M {j : Nat} {i : Instr} {pc : Nat} {ls : zL} {st : List zV} {M : zM} {x : zX} (h : zn1 j i pc ls st M = some x) : x.2.2.2 = M := by
  unfold zn1 at h
  repeat' split at h
  all_goals first | (cases h; rfl) | cases h
theorem zn2_M {i : Instr} {pc : Nat} {ls : zL} {st : List zV} {M : zM} {x : zX} (h : zn2 i pc ls st M = some x) : x.2.2.2 = M := by
  unfold zn2 at h
  repeat' split at h
  all_goals first | (cases h; rfl) | (cases h; done) | (obtain ⟨q, -, rfl⟩ := Option.map_eq_some_iff.mp h; rfl)
theorem z_n1 {f : Int → Nat} {j : Nat} {i : Instr} {len pc : Nat} {ls : zL} {st : List zV} {M : zM} {x : zX} {A : Array Slot} (hx : p.tables.exec = Jvm.exec) (hb : c.code = zc j) (hown : s.vm.findClass (zRn (zo j)) = some m.cls) (hts : ∀ w ∈ zW, w.before args s = true)
    (hL : zLR f (zn j) ls A) (hS : ∀ v ∈ st, zok v) (hd : decode (zc j) pc = .ok (i, len)) (hl : zlk i len = true) (h : zn1 j i pc ls st M = some x)
    (kk : ∀ A', zLR f (zn j) x.2.1 A' → (∀ v ∈ x.2.2.1, zok v) → W p l e R s m args below meth c H locs cells slots Q (F0 m x.1 A' (x.2.2.1.map (zcv f)))) : W p l e R s m args below meth c H locs cells slots Q (F0 m pc A (st.map (zcv f))) := by
  unfold zn1 at h
  split at h
  · next k =>
    have hn := zlen_of hl (by intros; simp); simp only [zlen] at hn; subst hn
    split at h
    · next q hk => cases h; exact lv_aload_n hx hb hd rfl (hL.at hk) (kk A hL (by simpa [zok] using hS))
    · cases h
  · next k =>
    have hn := zlen_of hl (by intros; simp); simp only [zlen] at hn; subst hn
    split at h
    · next q hk => cases h; exact lv_aload hx hb hd (hL.at hk) (kk A hL (by simpa [zok] using hS))
    · cases h
  · next k =>
    have hn := zlen_of hl (by intros; simp); simp only [zlen] at hn; subst hn
    split at h
    · next q hk => cases h; exact lv_iload_n hx hb hd rfl (hL.at hk) (kk A hL (List.forall_mem_cons.mpr ⟨hL.ok hk, hS⟩))
    · cases h
  · next k =>
    have hn := zlen_of hl (by intros; simp); simp only [zlen] at hn; subst hn
    split at h
    · next q hk => cases h; exact lv_iload hx hb hd (hL.at hk) (kk A hL (List.forall_mem_cons.mpr ⟨hL.ok hk, hS⟩))
    · cases h
  · next k =>
    have hn := zlen_of hl (by intros; simp); simp only [zlen] at hn; subst hn
    split at h
    · next q hk => cases h; exact lv_lload_n hx hb hd rfl (hL.at hk) (kk A hL (List.forall_mem_cons.mpr ⟨hL.ok hk, hS⟩))
    · cases h
  · next k =>
    have hn := zlen_of hl (by intros; simp); simp only [zlen] at hn; subst hn
    split at h
    · next v r =>
      split at h
      · next hf =>
        cases h
        have hv := List.forall_mem_cons.mp hS
        refine lv_istore_n hx hb hd rfl hL.1 (by rw [← hL.2.1]; simp [zfree] at hf; exact hf.1) rfl (fun A' hA' => kk A' (hL.set hf hv.1 hA') hv.2)
      · cases h
    · cases h
  · next k =>
    have hn := zlen_of hl (by intros; simp); simp only [zlen] at hn; subst hn
    split at h
    · next v r =>
      split at h
      · next hf =>
        cases h
        have hv := List.forall_mem_cons.mp hS
        refine lv_istore hx hb hd hL.1 (by rw [← hL.2.1]; simp [zfree] at hf; exact hf.1) rfl (fun A' hA' => kk A' (hL.set hf hv.1 hA') hv.2)
      · cases h
    · cases h
  · next k =>
    have hn := zlen_of hl (by intros; simp); simp only [zlen] at hn; subst hn
    split at h
    · next v r =>
      split at h
      · next hf =>
        cases h
        have hv := List.forall_mem_cons.mp hS
        refine lv_astore_n hx hb hd rfl hL.1 (by rw [← hL.2.1]; simp [zfree] at hf; exact hf.1) rfl (fun A' hA' => kk A' (hL.set hf hv.1 hA') hv.2)
      · cases h
    · cases h
  · next k =>
    have hn := zlen_of hl (by intros; simp); simp only [zlen] at hn; subst hn
    split at h
    · next v r =>
      split at h
      · next hf =>
        cases h
        have hv := List.forall_mem_cons.mp hS
        refine lv_astore hx hb hd hL.1 (by rw [← hL.2.1]; simp [zfree] at hf; exact hf.1) rfl (fun A' hA' => kk A' (hL.set hf hv.1 hA') hv.2)
      · cases h
    · cases h
  · next k =>
    have hn := zlen_of hl (by intros; simp); simp only [zlen] at hn; subst hn
    split at h
    · next v r =>
      split at h
      · next hf =>
        cases h
        have hv := List.forall_mem_cons.mp hS
        refine lv_lstore_n hx hb hd rfl hL.1 (by rw [← hL.2.1]; exact hf.2) rfl (fun A' hA' => kk A' (hL.set2 hf.1 hA') hv.2)
      · cases h
    · cases h
  · next k n =>
    have hn := zlen_of hl (by intros; simp); simp only [zlen] at hn; subst hn
    split at h
    · next v hk =>
      split at h
      · next hf =>
        cases h
        have hm := (zas_mem (f := f) ls 0 (k, zcv f (.inl v))).mpr ⟨k, .inl v, (Nat.zero_add k).symm, hk, rfl⟩
        obtain ⟨i0, hi0⟩ := List.getElem?_of_mem hm
        refine lv_iinc hx hb hd hL.1 (k := i0) hi0 (v := Int32.ofInt (v + n)) (by rw [Int32.ofInt_add]) (by rw [← hL.2.1]; exact (List.getElem?_eq_some_iff.mp hk).1) rfl (fun A' hA' => kk A' (hL.set hf.1 (v := .inl (v + n)) (z32_iff.mp hf.2.1) hA') hS)
      · cases h
    · cases h
  · next n =>
    have hn := zlen_of hl (by intros; simp); simp only [zlen] at hn; subst hn
    split at h
    · next hv => cases h; exact lv_iconst hx hb hd rfl (kk A hL (List.forall_mem_cons.mpr ⟨z32_iff.mp hv, hS⟩))
    · cases h
  · next n =>
    have hn := zlen_of hl (by intros; simp); simp only [zlen] at hn; subst hn
    split at h
    · next hv =>
      cases h
      refine lv_bipush hx hb hd (v := Int32.ofInt n) ?_ (kk A hL (List.forall_mem_cons.mpr ⟨⟨by omega, by omega⟩, hS⟩))
      apply Int32.toInt_inj.mp
      rw [zti ⟨by omega, by omega⟩, Int8.toInt_toInt32, Int8.toInt_ofInt]
      have e : Int8.size = 256 := rfl
      rw [e]
      exact Int.bmod_eq_of_le (by omega) (by omega)
    · cases h
  · next n =>
    have hn := zlen_of hl (by intros; simp); simp only [zlen] at hn; subst hn
    split at h
    · next hv =>
      cases h
      refine lv_sipush hx hb hd (v := Int32.ofInt n) ?_ (kk A hL (List.forall_mem_cons.mpr ⟨⟨by omega, by omega⟩, hS⟩))
      apply Int32.toInt_inj.mp
      rw [zti ⟨by omega, by omega⟩, Int16.toInt_toInt32, Int16.toInt_ofInt]
      have e : Int16.size = 65536 := rfl
      rw [e]
      exact Int.bmod_eq_of_le (by omega) (by omega)
    · cases h
  · next k =>
    have hn := zlen_of hl (by intros; simp); simp only [zlen] at hn; subst hn
    split at h
    · next v hv =>
      cases h
      have hw : Cond.constantLong (zRn (zo j)) k v ∈ zW := by
        unfold zlc at hv
        obtain ⟨q, hq, rfl⟩ := Option.map_eq_some_iff.mp hv
        have h1 := List.find?_some hq
        simp only [Bool.and_eq_true, beq_iff_eq] at h1
        have h2 := List.all_eq_true.mp zlcT_ok q (List.mem_of_find?_eq_some hq)
        have h3 := zgw_in h2
        rw [h1.1, h1.2] at h3
        exact h3
      exact lv_ldc2 hx hb hown (hts _ hw) hd (kk A hL (List.forall_mem_cons.mpr ⟨trivial, hS⟩))
    · cases h
  · cases h
end SIM1
end
section
/-! numbers and branches -/
section SIM2
variable {p : Program} {l : Launch} {e : Env} {R : Room} {s : State} {m : MethodId} {args : Array Value} {below : List Frame} {meth : Method} {c : Code} {H : Heap} {locs : List Loc} {cells slots : Nat} {Q : State → Prop}
theorem zif_t {b : Bool} {pc : Nat} {o : Int} {q : Nat} (h : zif b pc o = some q) : ∃ t : Nat, (pc : Int) + o = (t : Int) ∧ (b = true → q = t) ∧ (b = false → q = pc + 3) := by
  unfold zif at h
  split at h
  · next h0 =>
    refine ⟨_, (Int.toNat_of_nonneg h0).symm, ?_⟩
    split at h
    · next hb => cases h; exact ⟨fun _ => rfl, fun e => by rw [hb] at e; cases e⟩
    · next hb => cases h; exact ⟨fun e => absurd e hb, fun _ => rfl⟩
  · cases h
theorem zdiv {a b : Int} (ha : 0 ≤ a) (ha2 : a ≤ 2147483647) (hb : 0 < b) (hb2 : b ≤ 2147483647) : Int32.ofInt a / Int32.ofInt b = Int32.ofInt (a / b) := by
  have e1 : Int32.ofInt a = nI a.toNat := by show _ = Int32.ofNat a.toNat; rw [← Int32.ofInt_eq_ofNat]; congr 1; omega
  have e2 : Int32.ofInt b = nI b.toNat := by show _ = Int32.ofNat b.toNat; rw [← Int32.ofInt_eq_ofNat]; congr 1; omega
  rw [e1, e2, pk_div (by omega) (by omega) (by omega)]
  show Int32.ofNat _ = _
  rw [← Int32.ofInt_eq_ofNat]
  congr 1
  rw [Int.natCast_ediv, Int.toNat_of_nonneg ha, Int.toNat_of_nonneg (by omega)]
theorem zi2l {a : Int} (h : -2147483648 ≤ a ∧ a ≤ 2147483647) : (Int32.ofInt a).toInt64 = Int64.ofInt a := by
  apply Int64.toInt_inj.mp
  rw [Int32.toInt_toInt64, zti h, Int64.toInt_ofInt]
  have e : Int64.size = 18446744073709551616 := rfl
  rw [e]
  exact (Int.bmod_eq_of_le (by omega) (by omega)).symm
set_option maxHeartbeats 1000000 in
theorem z_n2 {f : Int → Nat} {j : Nat} {i : Instr} {len pc : Nat} {ls : zL} {st : List zV} {M : zM} {x : zX} {A : Array Slot} (hx : p.tables.exec = Jvm.exec) (hb : c.code = zc j)
    (hL : zLR f (zn j) ls A) (hS : ∀ v ∈ st, zok v) (hd : decode (zc j) pc = .ok (i, len)) (hl : zlk i len = true) (h : zn2 i pc ls st M = some x)
    (kk : ∀ A', zLR f (zn j) x.2.1 A' → (∀ v ∈ x.2.2.1, zok v) → W p l e R s m args below meth c H locs cells slots Q (F0 m x.1 A' (x.2.2.1.map (zcv f)))) : W p l e R s m args below meth c H locs cells slots Q (F0 m pc A (st.map (zcv f))) := by
  unfold zn2 at h
  split at h
  ·
    have hn := zlen_of hl (by intros; simp); simp only [zlen] at hn; subst hn
    split at h
    · next v r => cases h; have hv := List.forall_mem_cons.mp hS; exact lv_dup hx hb hd rfl (kk A hL (List.forall_mem_cons.mpr ⟨hv.1, hS⟩))
    · next v r => cases h; have hv := List.forall_mem_cons.mp hS; exact lv_dup hx hb hd rfl (kk A hL (List.forall_mem_cons.mpr ⟨hv.1, hS⟩))
    · cases h
  ·
    have hn := zlen_of hl (by intros; simp); simp only [zlen] at hn; subst hn
    split at h
    · next v q r => cases h; have hv := List.forall_mem_cons.mp hS; have hw := List.forall_mem_cons.mp hv.2; exact lv_dup2_11 hx hb hd rfl rfl (kk A hL (List.forall_mem_cons.mpr ⟨hv.1, List.forall_mem_cons.mpr ⟨hw.1, hS⟩⟩))
    · cases h
  ·
    have hn := zlen_of hl (by intros; simp); simp only [zlen] at hn; subst hn
    split at h
    · next y0 x0 r =>
      split at h
      · next hz =>
        cases h
        have hv := List.forall_mem_cons.mp hS
        have hw := List.forall_mem_cons.mp hv.2
        refine lv_iadd hx hb hd ?_
        rw [← Int32.ofInt_add]
        exact kk A hL (List.forall_mem_cons.mpr ⟨z32_iff.mp hz, hw.2⟩)
      · cases h
    · cases h
  ·
    have hn := zlen_of hl (by intros; simp); simp only [zlen] at hn; subst hn
    split at h
    · next y0 x0 r =>
      split at h
      · next hz =>
        cases h
        have hv := List.forall_mem_cons.mp hS
        have hw := List.forall_mem_cons.mp hv.2
        refine lv_isub hx hb hd ?_
        rw [← Int32.ofInt_sub]
        exact kk A hL (List.forall_mem_cons.mpr ⟨z32_iff.mp hz, hw.2⟩)
      · cases h
    · cases h
  ·
    have hn := zlen_of hl (by intros; simp); simp only [zlen] at hn; subst hn
    split at h
    · next y0 x0 r =>
      split at h
      · next hz =>
        cases h
        have hv := List.forall_mem_cons.mp hS
        have hw := List.forall_mem_cons.mp hv.2
        refine lv_imul hx hb hd ?_
        rw [← Int32.ofInt_mul]
        exact kk A hL (List.forall_mem_cons.mpr ⟨z32_iff.mp hz, hw.2⟩)
      · cases h
    · cases h
  ·
    have hn := zlen_of hl (by intros; simp); simp only [zlen] at hn; subst hn
    split at h
    · next y0 x0 r =>
      split at h
      · next hz =>
        cases h
        have hv := List.forall_mem_cons.mp hS
        have hw := List.forall_mem_cons.mp hv.2
        have b1 : -2147483648 ≤ y0 ∧ y0 ≤ 2147483647 := hv.1
        have b2 : -2147483648 ≤ x0 ∧ x0 ≤ 2147483647 := hw.1
        refine lv_idiv hx hb hd ?_ ?_
        · intro e0
          have := (zinj (b := 0) b1 ⟨by omega, by omega⟩).mp e0
          omega
        · rw [zdiv hz.1 b2.2 hz.2 b1.2]
          have g1 : 0 ≤ x0 / y0 := Int.ediv_nonneg hz.1 (by omega)
          have g2 : x0 / y0 ≤ x0 := Int.ediv_le_self _ hz.1
          exact kk A hL (List.forall_mem_cons.mpr ⟨⟨by omega, by omega⟩, hw.2⟩)
      · cases h
    · cases h
  ·
    have hn := zlen_of hl (by intros; simp); simp only [zlen] at hn; subst hn
    split at h
    · next y0 x0 r =>
      cases h
      have hv := List.forall_mem_cons.mp hS
      have hw := List.forall_mem_cons.mp hv.2
      refine lv_iand hx hb hd ?_
      rw [← Int32.ofInt_toInt (Int32.ofInt x0 &&& Int32.ofInt y0)]
      exact kk A hL (List.forall_mem_cons.mpr ⟨zto _, hw.2⟩)
    · cases h
  ·
    have hn := zlen_of hl (by intros; simp); simp only [zlen] at hn; subst hn
    split at h
    · next y0 x0 r =>
      cases h
      have hv := List.forall_mem_cons.mp hS
      have hw := List.forall_mem_cons.mp hv.2
      refine lv_ishr hx hb hd ?_
      rw [← Int32.ofInt_toInt (Int32.ofInt x0 >>> (Int32.ofInt y0 &&& 31))]
      exact kk A hL (List.forall_mem_cons.mpr ⟨zto _, hw.2⟩)
    · cases h
  ·
    have hn := zlen_of hl (by intros; simp); simp only [zlen] at hn; subst hn
    split at h
    · next x0 r =>
      cases h
      have hv := List.forall_mem_cons.mp hS
      exact lv_i2l hx hb hd (zi2l hv.1) (kk A hL (List.forall_mem_cons.mpr ⟨trivial, hv.2⟩))
    · cases h
  ·
    have hn := zlen_of hl (by intros; simp); simp only [zlen] at hn; subst hn
    split at h
    · next y0 x0 r =>
      cases h
      have hv := List.forall_mem_cons.mp hS
      have hw := List.forall_mem_cons.mp hv.2
      exact lv_lmul hx hb hd (kk A hL (List.forall_mem_cons.mpr ⟨trivial, hw.2⟩))
    · cases h
  ·
    have hn := zlen_of hl (by intros; simp); simp only [zlen] at hn; subst hn
    split at h
    · next y0 x0 r =>
      cases h
      have hv := List.forall_mem_cons.mp hS
      have hw := List.forall_mem_cons.mp hv.2
      exact lv_ladd hx hb hd (kk A hL (List.forall_mem_cons.mpr ⟨trivial, hw.2⟩))
    · cases h
  ·
    have hn := zlen_of hl (by intros; simp); simp only [zlen] at hn; subst hn
    split at h
    · next y0 x0 r =>
      cases h
      have hv := List.forall_mem_cons.mp hS
      have hw := List.forall_mem_cons.mp hv.2
      refine W.lcmp hx hb hd ?_
      rw [← Int32.ofInt_toInt (lg_cmp x0 y0)]
      exact kk A hL (List.forall_mem_cons.mpr ⟨zto _, hw.2⟩)
    · cases h
  ·
    have hn := zlen_of hl (by intros; simp); simp only [zlen] at hn; subst hn
    split at h
    · next y0 x0 r =>
      obtain ⟨q, hq, rfl⟩ := Option.map_eq_some_iff.mp h
      obtain ⟨t, ht, htt, hff⟩ := zif_t hq
      have hv := List.forall_mem_cons.mp hS
      have hw := List.forall_mem_cons.mp hv.2
      have b1 : -2147483648 ≤ y0 ∧ y0 ≤ 2147483647 := hv.1
      have b2 : -2147483648 ≤ x0 ∧ x0 ≤ 2147483647 := hw.1
      have hr := hw.2
      split at hq
      · have hc := zinj b2 b1
        by_cases hz : x0 = y0
        · have hp := htt (decide_eq_true hz)
          subst hp
          exact lv_icmp_eq hx hb hd ht (fun _ => kk A hL hr) (fun g => absurd (hc.mpr hz) g)
        · have hp := hff (decide_eq_false hz)
          rw [hp] at kk
          exact lv_icmp_eq hx hb hd ht (fun g => absurd (hc.mp g) hz) (fun _ => kk A hL hr)
      · have hc := not_congr (zinj b2 b1)
        by_cases hz : x0 ≠ y0
        · have hp := htt (decide_eq_true hz)
          subst hp
          exact lv_icmp_ne hx hb hd ht (fun _ => kk A hL hr) (fun g => absurd g (hc.mpr hz))
        · have hp := hff (decide_eq_false hz)
          rw [hp] at kk
          exact lv_icmp_ne hx hb hd ht (fun g => absurd (hc.mp g) hz) (fun _ => kk A hL hr)
      · have hc := zlt b2 b1
        by_cases hz : x0 < y0
        · have hp := htt (decide_eq_true hz)
          subst hp
          exact lv_icmp_lt hx hb hd ht (fun _ => kk A hL hr) (fun g => absurd (hc.mpr hz) g)
        · have hp := hff (decide_eq_false hz)
          rw [hp] at kk
          exact lv_icmp_lt hx hb hd ht (fun g => absurd (hc.mp g) hz) (fun _ => kk A hL hr)
      · have hc := zle b1 b2
        by_cases hz : y0 ≤ x0
        · have hp := htt (decide_eq_true hz)
          subst hp
          exact lv_icmp_ge hx hb hd ht (fun _ => kk A hL hr) (fun g => absurd (hc.mpr hz) g)
        · have hp := hff (decide_eq_false hz)
          rw [hp] at kk
          exact lv_icmp_ge hx hb hd ht (fun g => absurd (hc.mp g) hz) (fun _ => kk A hL hr)
      · have hc := zlt b1 b2
        by_cases hz : y0 < x0
        · have hp := htt (decide_eq_true hz)
          subst hp
          exact lv_icmp_gt hx hb hd ht (fun _ => kk A hL hr) (fun g => absurd (hc.mpr hz) g)
        · have hp := hff (decide_eq_false hz)
          rw [hp] at kk
          exact lv_icmp_gt hx hb hd ht (fun g => absurd (hc.mp g) hz) (fun _ => kk A hL hr)
      · have hc := zle b2 b1
        by_cases hz : x0 ≤ y0
        · have hp := htt (decide_eq_true hz)
          subst hp
          exact lv_icmp_le hx hb hd ht (fun _ => kk A hL hr) (fun g => absurd (hc.mpr hz) g)
        · have hp := hff (decide_eq_false hz)
          rw [hp] at kk
          exact lv_icmp_le hx hb hd ht (fun g => absurd (hc.mp g) hz) (fun _ => kk A hL hr)
    · cases h
  ·
    have hn := zlen_of hl (by intros; simp); simp only [zlen] at hn; subst hn
    split at h
    · next x0 r =>
      obtain ⟨q, hq, rfl⟩ := Option.map_eq_some_iff.mp h
      obtain ⟨t, ht, htt, hff⟩ := zif_t hq
      have hv := List.forall_mem_cons.mp hS
      have b2 : -2147483648 ≤ x0 ∧ x0 ≤ 2147483647 := hv.1
      have b1 : -2147483648 ≤ (0 : Int) ∧ (0 : Int) ≤ 2147483647 := ⟨by omega, by omega⟩
      have hr := hv.2
      split at hq
      · have hc := zinj b2 b1
        by_cases hz : x0 = 0
        · have hp := htt (decide_eq_true hz)
          subst hp
          exact lv_if_eq hx hb hd ht (fun _ => kk A hL hr) (fun g => absurd (hc.mpr hz) g)
        · have hp := hff (decide_eq_false hz)
          rw [hp] at kk
          exact lv_if_eq hx hb hd ht (fun g => absurd (hc.mp g) hz) (fun _ => kk A hL hr)
      · have hc := not_congr (zinj b2 b1)
        by_cases hz : x0 ≠ 0
        · have hp := htt (decide_eq_true hz)
          subst hp
          exact lv_if_ne hx hb hd ht (fun _ => kk A hL hr) (fun g => absurd g (hc.mpr hz))
        · have hp := hff (decide_eq_false hz)
          rw [hp] at kk
          exact lv_if_ne hx hb hd ht (fun g => absurd (hc.mp g) hz) (fun _ => kk A hL hr)
      · have hc := zlt b2 b1
        by_cases hz : x0 < 0
        · have hp := htt (decide_eq_true hz)
          subst hp
          exact lv_if_lt hx hb hd ht (fun _ => kk A hL hr) (fun g => absurd (hc.mpr hz) g)
        · have hp := hff (decide_eq_false hz)
          rw [hp] at kk
          exact lv_if_lt hx hb hd ht (fun g => absurd (hc.mp g) hz) (fun _ => kk A hL hr)
      · have hc := zle b1 b2
        by_cases hz : 0 ≤ x0
        · have hp := htt (decide_eq_true hz)
          subst hp
          exact lv_if_ge hx hb hd ht (fun _ => kk A hL hr) (fun g => absurd (hc.mpr hz) g)
        · have hp := hff (decide_eq_false hz)
          rw [hp] at kk
          exact lv_if_ge hx hb hd ht (fun g => absurd (hc.mp g) hz) (fun _ => kk A hL hr)
      · have hc := zlt b1 b2
        by_cases hz : 0 < x0
        · have hp := htt (decide_eq_true hz)
          subst hp
          exact lv_if_gt hx hb hd ht (fun _ => kk A hL hr) (fun g => absurd (hc.mpr hz) g)
        · have hp := hff (decide_eq_false hz)
          rw [hp] at kk
          exact lv_if_gt hx hb hd ht (fun g => absurd (hc.mp g) hz) (fun _ => kk A hL hr)
      · have hc := zle b2 b1
        by_cases hz : x0 ≤ 0
        · have hp := htt (decide_eq_true hz)
          subst hp
          exact lv_if_le hx hb hd ht (fun _ => kk A hL hr) (fun g => absurd (hc.mpr hz) g)
        · have hp := hff (decide_eq_false hz)
          rw [hp] at kk
          exact lv_if_le hx hb hd ht (fun g => absurd (hc.mp g) hz) (fun _ => kk A hL hr)
    · cases h
  ·
    have hn := zlen_of hl (by intros; simp); simp only [zlen] at hn; subst hn
    split at h
    · next hz => cases h; exact lv_goto hx hb hd (Int.toNat_of_nonneg hz).symm (kk A hL hS)
    · cases h
  · split at h
    · next x0 r =>
      have hv := List.forall_mem_cons.mp hS
      have b2 : -2147483648 ≤ x0 ∧ x0 ≤ 2147483647 := hv.1
      split at h
      · next hz =>
        split at h
        · next h0 => cases h; exact lv_tableOut hx hb hd (by rw [zti b2]; exact hz) (Int.toNat_of_nonneg h0).symm (kk A hL hv.2)
        · cases h
      · next hz =>
        split at h
        · next o ho =>
          split at h
          · next h0 => cases h; exact lv_tableIn hx hb hd (by rw [zti b2]; omega) (by rw [zti b2]; omega) (by rw [zti b2]; exact ho) (Int.toNat_of_nonneg h0).symm (kk A hL hv.2)
          · cases h
        · cases h
    · cases h
  · cases h
end SIM2
end
section
/-! stores and makings that also tell the heap's size -/
section ZROWS
variable {p : Program} {l : Launch} {e : Env} {R : Room} {s : State} {m : MethodId} {args : Array Value} {below : List Frame} {meth : Method} {c : Code} {H : Heap} {locs : List Loc} {cells slots : Nat} {Q : State → Prop}
variable {cc : ByteArray} {pc : Nat} {ls : Array Slot} {rest : List Value} {D : va_G} {cl : List vw_C} {A : Nat → Prop} {a : Nat} {tys : List (ClassId × FieldType)} {ws : va_W} {H0 : Heap}
theorem zw_put (hx : p.tables.exec = Jvm.exec) (hb : c.code = cc) {own C : String} {T : u_T} {N ci index : Nat} {Ts : List Cond} (hts : ∀ w ∈ Ts, w.before args s = true) (hin : ∀ w ∈ u_ws C T N, w ∈ Ts) (ty0 : Nat → FieldType) (hty : ∀ k, k < N → parseFieldDescriptor (T k).2.2.1 = some (ty0 k)) (hnm : ∀ a, a < N → ∀ b, b < N → a ≠ b → (T a).2.1 ≠ (T b).2.1) (hown : s.vm.findClass own = some m.cls) (hK : va_K D cl tys s) (hP : va_P D cl ws H) (hD : va_D A ws) (hS0 : va_S A H0 H locs) (q0 : Nat) {fs : List Value} (he : ws[q0]? = some (a, .inr (ci, fs))) (hc : cl[ci]? = some (C, T, N)) (k : Nat) (hk : k < N) (hdc : (T k).1 = C) (hlink : (Cond.fieldLink own index C (T k).2.1 (T k).2.2.1).before args s = true) (hf : (T k).2.2.2 = false ∨ ((T k).2.2.2 = true ∧ meth.name = "<init>" ∧ C = own)) {v : Value} (hn : narrow (ty0 k) v = v) (hfit : fits (ty0 k) v = true) (hl : k < fs.length)
    (hdg : decode cc pc = .ok (.putfield index, 3)) (kk : ∀ (H1 : Heap) (locs1 : List Loc), H1.size = H.size → va_P D cl (ws.set q0 (a, .inr (ci, fs.set k v))) H1 → va_S A H0 H1 locs1 → W p l e R s m args below meth c H1 locs1 cells slots Q (F0 m (pc + 3) ls rest)) : W p l e R s m args below meth c H locs cells slots Q (F0 m pc ls (v :: .ref a :: rest)) := by
  have hap := va_apart (own := own) hts hin ty0 hty hnm hK hc
  obtain ⟨r, h1, cell, q1, q2, q3, q4⟩ := hP q0 _ he
  obtain rfl : r = (C, T, N) := Option.some.inj (h1.symm.trans hc)
  obtain ⟨hS, hfc, kC, hkC, hkind⟩ := hK.1 ci _ hc
  obtain ⟨cf, kf, fi, f, hi, hsl⟩ := hS k hk
  have hi' : s.fieldFound? C (T k).2.1 (T k).2.2.1 = some (cf, kf, fi, f) := by rw [← hdc]; exact hi
  have hlay := hts _ (hin _ (u_in_lay hk))
  unfold u_lay at hlay
  have hst := (u_facts hfc hkC (u_lays hts hin hk) hi).1
  have fin : ∀ H' : Heap, H'[a]? = some (cell.setSlot (D.2 ci k) v) → H'.size = H.size → (∀ q, q ≠ a → H'[q]? = H[q]?) → W p l e R s m args below meth c H' (locs ++ [⟨a, D.2 ci k⟩]) cells slots Q (F0 m (pc + 3) ls rest) := fun H' e1 e2 e3 =>
    kk H' _ e2 (hP.set hD he ⟨_, hc, t_OB.to (V := updV (vp_V fs) k v) ⟨_, e1, q2, q3, t_set q4 hap hk v⟩ (fun j _ => vp_updV_set hl v j)⟩ e3) (hS0.put e2 e3 (hD.2 q0 _ he))
  have hsl' : f.slot = D.2 ci k := hsl
  rcases hf with hf | ⟨hf, hin2, hdecl⟩
  · rw [if_neg (by rw [hf]; decide)] at hlay
    have h6 := u_store hfc hkC hkind hlay hi (hty k hk) hn hfit
    refine W.putK hx hb (f := f) ⟨hown, hlink, ⟨_, _, _, hi'⟩, hst⟩ (by rw [q2]; exact h6) q1 q3 (by rw [hsl']; exact k2_hasslot (q4 k hk)) rfl rfl hdg fun H' e1 e2 e3 => ?_
    rw [hsl'] at e1 ⊢
    exact fin H' e1 e2 e3
  · rw [if_pos hf] at hlay
    have hcf : m.cls = cf := by
      obtain ⟨_, _, c', _, _, _, -, -, hf', -, -, -, hown2, -⟩ := Cond.laysFinal_spec hlay
      have e1 : c' = cf := by have := hi.symm.trans hf'; simp at this; exact this.1.symm
      rw [hdc, hdecl] at hown2
      rw [← e1]; exact Option.some.inj (hown.symm.trans hown2)
    have h6 := u_fits hfc hkC hkind (Or.inr hlay) hi (hty k hk) hn hfit
    refine W.putFinK hx hb hown hlink hi' hst hcf hin2 (by rw [q2]; exact h6) q1 q3 (by rw [hsl']; exact k2_hasslot (q4 k hk)) rfl rfl hdg fun H' e1 e2 e3 => ?_
    rw [hsl'] at e1 ⊢
    exact fin H' e1 e2 e3
theorem zw_iast (hx : p.tables.exec = Jvm.exec) (hb : c.code = cc) (hK : va_K D cl tys s) (hP : va_P D cl ws H) (hD : va_D A ws) (hS : va_S A H0 H locs) (q0 t0 : Nat) {cA : ClassId} {n : Nat} {f : Nat → Int32} (ha : ws[q0]? = some (a, .inl (cA, n, .inl f))) (ht : tys[t0]? = some (cA, .int)) {i x : Int32} (hin : vp_in i n) (hdg : decode cc pc = .ok (.iastore, 1))
    (kk : ∀ (H1 : Heap) (locs1 : List Loc), H1.size = H.size → va_P D cl (ws.set q0 (a, .inl (cA, n, .inl (upd f i.toNatClampNeg x)))) H1 → va_S A H0 H1 locs1 → W p l e R s m args below meth c H1 locs1 cells slots Q (F0 m (pc + 1) ls rest)) : W p l e R s m args below meth c H locs cells slots Q (F0 m pc ls (.int x :: .int i :: .ref a :: rest)) := by
  refine W.iast hx hb (hP q0 _ ha) ((hK.2 t0 _ ht).1 n (fun j => .int (f j))) (fun q => by cases q) (by show ¬ (i < 0 ∨ (arrV _ _ _).slots.size ≤ _); rw [arrV_size]; exact hin) rfl rfl hdg fun H1 e z oq => ?_
  refine kk H1 _ z (hP.set hD ha ?_ oq) (hS.put z oq (hD.2 q0 _ ha))
  show H1[a]? = some (vp_cell _ _)
  rw [e, vp_cell_i, vp_cell_i, arrV_store]
  congr 2
  funext q
  by_cases hq : q = i.toNatClampNeg
  · subst hq; simp [updV, upd]
  · simp [updV, upd, hq]
theorem zw_zast (hx : p.tables.exec = Jvm.exec) (hb : c.code = cc) (hK : va_K D cl tys s) (hP : va_P D cl ws H) (hD : va_D A ws) (hS : va_S A H0 H locs) (q0 t0 : Nat) {cA : ClassId} {n : Nat} {f : Nat → Int32} (ha : ws[q0]? = some (a, .inl (cA, n, .inl f))) (ht : tys[t0]? = some (cA, .boolean)) {i x : Int32} (hx1 : narrow .boolean (.int x) = .int x) (hin : vp_in i n) (hdg : decode cc pc = .ok (.bastore, 1))
    (kk : ∀ (H1 : Heap) (locs1 : List Loc), H1.size = H.size → va_P D cl (ws.set q0 (a, .inl (cA, n, .inl (upd f i.toNatClampNeg x)))) H1 → va_S A H0 H1 locs1 → W p l e R s m args below meth c H1 locs1 cells slots Q (F0 m (pc + 1) ls rest)) : W p l e R s m args below meth c H locs cells slots Q (F0 m pc ls (.int x :: .int i :: .ref a :: rest)) := by
  refine W.zast hx hb (hP q0 _ ha) ((hK.2 t0 _ ht).1 n (fun j => .int (f j))) (fun q => by cases q) (by show ¬ (i < 0 ∨ (arrV _ _ _).slots.size ≤ _); rw [arrV_size]; exact hin) rfl rfl hdg fun H1 e z oq => ?_
  refine kk H1 _ z (hP.set hD ha ?_ oq) (hS.put z oq (hD.2 q0 _ ha))
  show H1[a]? = some (vp_cell _ _)
  rw [e, hx1, vp_cell_i, vp_cell_i, arrV_store]
  congr 2
  funext q
  by_cases hq : q = i.toNatClampNeg
  · subst hq; simp [updV, upd]
  · simp [updV, upd, hq]
theorem zw_astq (hx : p.tables.exec = Jvm.exec) (hb : c.code = cc) (hK : va_K D cl tys s) (hP : va_P D cl ws H) (hD : va_D A ws) (hS : va_S A H0 H locs) (q0 t0 qk ci : Nat) {cA : ClassId} {r : vw_C} {n v : Nat} {vs : List Value} {f : Nat → Option Nat} (ha : ws[q0]? = some (a, .inl (cA, n, .inr (.inr (.inr (.inr f)))))) (ht : tys[t0]? = some (cA, .object r.1)) (hv : ws[qk]? = some (v, .inr (ci, vs))) (hc : cl[ci]? = some r) {i : Int32} (hin : vp_in i n) (hdg : decode cc pc = .ok (.aastore, 1))
    (kk : ∀ (H1 : Heap) (locs1 : List Loc), H1.size = H.size → va_P D cl (ws.set q0 (a, .inl (cA, n, .inr (.inr (.inr (.inr (va_up f i.toNatClampNeg (some v)))))))) H1 → va_S A H0 H1 locs1 → W p l e R s m args below meth c H1 locs1 cells slots Q (F0 m (pc + 1) ls rest)) : W p l e R s m args below meth c H locs cells slots Q (F0 m pc ls (.ref v :: .int i :: .ref a :: rest)) := by
  have hlt : i.toNatClampNeg < n := Nat.not_le.mp fun q => hin (Or.inr q)
  have h0 : ¬ i < 0 := fun q => hin (Or.inl q)
  obtain ⟨r', hr', cellV, g1, g2, g3, -⟩ := hP qk _ hv
  have hcls := (hK.1 ci r hc).2
  obtain ⟨kA, comp, k1, k2, k3, -⟩ := (hK.2 t0 _ ht).2
  obtain rfl : comp = D.1 ci := Option.some.inj (k3.symm.trans hcls.1)
  obtain ⟨kC, hkC, -⟩ := hcls.2
  refine W.aast hx hb (hP q0 _ ha) (fun q h => by cases h) (fun h => by cases h) k1 k2 rfl hkC ⟨h0, by show _ < (arrV _ _ _).slots.size; rw [arrV_size]; exact hlt⟩ g1 (fun q h => by rw [g3] at h; cases h) (by rw [g2]; exact hkC) (by rw [g2]; exact va_assign hcls) rfl rfl hdg fun H1 e z oq => ?_
  refine kk H1 _ z (hP.set hD ha ?_ oq) (hS.put z oq (hD.2 q0 _ ha))
  show H1[a]? = some (vp_cell _ _)
  rw [e, vp_cell_q, vp_cell_q, arrV_store]
  congr 2
  funext q
  by_cases hq : q = i.toNatClampNeg
  · subst hq; simp [updV, va_up, va_rf]
  · simp [updV, va_up, hq]
theorem zw_one {q : Nat} {en : va_E} (h : ∀ {H1 : Heap}, va_at D cl (q, en) H1 → va_P D cl [(q, en)] H1) : True := trivial
theorem zw_sing {q : Nat} {en : va_E} {H1 : Heap} (h : va_at D cl (q, en) H1) : va_P D cl [(q, en)] H1 := by
  intro k x hx
  have hz : k < 1 := (List.getElem?_eq_some_iff.mp hx).1
  rw [show k = 0 by omega] at hx
  cases hx
  exact h
theorem zw_new (hx : p.tables.exec = Jvm.exec) (hb : c.code = cc) {own C : String} {T : u_T} {N ci index : Nat} {Ts : List Cond} (hts : ∀ w ∈ Ts, w.before args s = true) (hin : ∀ w ∈ u_ws C T N, w ∈ Ts) (ty : Nat → FieldType) (hty : ∀ k, k < N → parseFieldDescriptor (T k).2.2.1 = some (ty k)) (hown : s.vm.findClass own = some m.cls) (hcl : (Cond.classLink own index C).before args s = true) (hinst : (Cond.instantiable C N).before args s = true) (hini : (Cond.initialized C).before args s = true)
    (hK : va_K D cl tys s) (hP : va_P D cl ws H) (hS : va_S A H0 H locs) (hc : cl[ci]? = some (C, T, N)) {fs : List Value} (hfs : ∀ j, j < N → defaultValue (ty j) = vp_V fs j) (hcells : cells + 1 ≤ R.cells) (hslots : slots + N ≤ R.slots) (hdg : decode cc pc = .ok (.new index, 3))
    (kk : ∀ (H1 : Heap), H1.size = H.size + 1 → va_P D cl (ws ++ [(H.size, .inr (ci, fs))]) H1 → va_S A H0 H1 locs →
      W p l e R s m args below meth c H1 locs (cells + 1) (slots + N) Q (F0 m (pc + 3) ls (.ref H.size :: rest))) : W p l e R s m args below meth c H locs cells slots Q (F0 m pc ls rest) := by
  have hKn := hK.1 ci _ hc
  refine W.newcK hx hb hown hcl hinst hini rfl hdg hcells hslots hKn.2.1 rfl fun H1 kC hkC e1 z1 o1 => ?_
  have hk : ∀ (k : Nat) (x : Nat × va_E), ws[k]? = some x → H1[x.1]? = H[x.1]? := fun k x hx => o1 x.1 ((hP k x hx).lt)
  exact kk H1 z1 ((hP.kept hk).app (zw_sing ⟨_, hc, (u_born ty hts hin hKn hkC e1 hty).to hfs⟩)) ⟨Nat.le_trans hS.1 (by omega), fun x h1 h2 => (o1 x (Nat.lt_of_lt_of_le h1 hS.1)).trans (hS.2.1 x h1 h2), hS.2.2⟩
theorem zw_newa (hx : p.tables.exec = Jvm.exec) (hb : c.code = cc) {atype : ArrayType} (harr : (Cond.arrayClass (newarray.typeOf atype)).before args s = true) {cA : ClassId} (hfc : s.vm.findClass ("[" ++ (newarray.typeOf atype).toString) = some cA) (hP : va_P D cl ws H) (hS : va_S A H0 H locs)
    {n : Int32} {N : Nat} {a0 : vp_A} (ha : vp_cell cA a0 = arrV cA N (fun _ => defaultValue (newarray.typeOf atype))) (hn : ¬ n < 0) (hN : n.toNatClampNeg = N) (hbytes : N * componentBytes (newarray.typeOf atype) ≤ 536870912) (hcells : cells + 1 ≤ R.cells) (hslots : slots + N ≤ R.slots) (hdg : decode cc pc = .ok (.newarray atype, 2))
    (kk : ∀ (H1 : Heap), H1.size = H.size + 1 → va_P D cl (ws ++ [(H.size, .inl (cA, a0))]) H1 → va_S A H0 H1 locs →
      W p l e R s m args below meth c H1 locs (cells + 1) (slots + N) Q (F0 m (pc + 2) ls (.ref H.size :: rest))) : W p l e R s m args below meth c H locs cells slots Q (F0 m pc ls (.int n :: rest)) := by
  refine va_newaK hx hb harr rfl hdg rfl hn hN hbytes hcells hslots rfl fun H1 cA' e1 z1 o1 hAr hNm => ?_
  obtain rfl : cA' = cA := Option.some.inj (hNm.symm.trans hfc)
  have hk : ∀ (k : Nat) (x : Nat × va_E), ws[k]? = some x → H1[x.1]? = H[x.1]? := fun k x hx => o1 x.1 ((hP k x hx).lt)
  refine kk H1 z1 ((hP.kept hk).app (zw_sing ?_)) ⟨Nat.le_trans hS.1 (by omega), fun x h1 h2 => (o1 x (Nat.lt_of_lt_of_le h1 hS.1)).trans (hS.2.1 x h1 h2), hS.2.2⟩
  show H1[H.size]? = some (vp_cell _ _)
  rw [ha]
  exact e1
theorem zw_newq (hx : p.tables.exec = Jvm.exec) (hb : c.code = cc) {own C : String} {index : Nat} (hown : s.vm.findClass own = some m.cls) (hclink : (Cond.classLink own index C).before args s = true) (hover : va_AO C s) {cA : ClassId} (hfc : s.vm.findClass ("[" ++ (FieldType.object C).toString) = some cA) (hP : va_P D cl ws H) (hS : va_S A H0 H locs)
    {n : Int32} {N : Nat} (hn : ¬ n < 0) (hN : n.toNatClampNeg = N) (hbytes : N * 4 ≤ 536870912) (hcells : cells + 1 ≤ R.cells) (hslots : slots + N ≤ R.slots) (hdg : decode cc pc = .ok (.anewarray index, 3))
    (kk : ∀ (H1 : Heap), H1.size = H.size + 1 → va_P D cl (ws ++ [(H.size, .inl (cA, N, .inr (.inr (.inr (.inr (fun _ => none))))))]) H1 → va_S A H0 H1 locs →
      W p l e R s m args below meth c H1 locs (cells + 1) (slots + N) Q (F0 m (pc + 3) ls (.ref H.size :: rest))) : W p l e R s m args below meth c H locs cells slots Q (F0 m pc ls (.int n :: rest)) := by
  subst hN
  refine W.anew hx hb hown hclink (va_AO.use hover) rfl hdg rfl hn hbytes hcells hslots fun cA' kA comp f1 f2 f3 f4 => ?_
  obtain rfl : cA' = cA := Option.some.inj (f1.symm.trans hfc)
  generalize hH1 : H.push ({ cls := cA', slots := Array.replicate n.toNatClampNeg .null, vm := .none } : Cell) = H1
  have z1 : H1.size = H.size + 1 := by rw [← hH1, Array.size_push]
  have e1 : H1[H.size]? = some (arrV cA' n.toNatClampNeg (fun _ => .null)) := by rw [← hH1, Array.getElem?_push_size, ← arrV_new]
  have o1 : ∀ q : Nat, q < H.size → H1[q]? = H[q]? := fun q hq => by rw [← hH1, Array.getElem?_push, if_neg (Nat.ne_of_lt hq)]
  have hk : ∀ (k : Nat) (x : Nat × va_E), ws[k]? = some x → H1[x.1]? = H[x.1]? := fun k x hx => o1 x.1 ((hP k x hx).lt)
  refine kk H1 z1 ((hP.kept hk).app (zw_sing ?_)) ⟨Nat.le_trans hS.1 (by omega), fun x h1 h2 => (o1 x (Nat.lt_of_lt_of_le h1 hS.1)).trans (hS.2.1 x h1 h2), hS.2.2⟩
  show H1[H.size]? = some (vp_cell _ _)
  rw [vp_cell_q]
  exact e1
end ZROWS
end
section
/-! the machine's cells as the world's list -/
theorem zCl_at {ci : Nat} (h : ci < 8) : zCl[ci]? = some (zRn ci, zT ci, zN ci) := by
  rcases (show ci = 0 ∨ ci = 1 ∨ ci = 2 ∨ ci = 3 ∨ ci = 4 ∨ ci = 5 ∨ ci = 6 ∨ ci = 7 by omega) with rfl | rfl | rfl | rfl | rfl | rfl | rfl | rfl <;> rfl
set_option maxRecDepth 100000 in
theorem zin_0 : (List.range 8).all (fun ci => (u_ws (zRn ci) (zT ci) (zN ci)).all (fun w => decide (w ∈ lw_tbl) && goodWord w)) = true := by decide +kernel
theorem zin {ci : Nat} (h : ci < 8) : ∀ w ∈ u_ws (zRn ci) (zT ci) (zN ci), w ∈ zW := by
  intro w hw
  have h1 := List.all_eq_true.mp (List.all_eq_true.mp zin_0 ci (List.mem_range.mpr h)) w hw
  simp only [Bool.and_eq_true, decide_eq_true_eq] at h1
  exact List.mem_filter.mpr h1
theorem zty_p {ci : Nat} (h : ci < 8) : ∀ k, k < zN ci → parseFieldDescriptor (zT ci k).2.2.1 = some (zty ci k) := by
  rcases (show ci = 0 ∨ ci = 1 ∨ ci = 2 ∨ ci = 3 ∨ ci = 4 ∨ ci = 5 ∨ ci = 6 ∨ ci = 7 by omega) with rfl | rfl | rfl | rfl | rfl | rfl | rfl | rfl
  · exact tyX0_ok
  · exact tyX1_ok
  · exact tyX2_ok
  · exact tyX3_ok
  · exact tyX4_ok
  · exact tyX5_ok
  · exact tyX6_ok
  · exact tyX7_ok
theorem znm_p {ci : Nat} (h : ci < 8) : ∀ a, a < zN ci → ∀ b, b < zN ci → a ≠ b → (zT ci a).2.1 ≠ (zT ci b).2.1 := by
  rcases (show ci = 0 ∨ ci = 1 ∨ ci = 2 ∨ ci = 3 ∨ ci = 4 ∨ ci = 5 ∨ ci = 6 ∨ ci = 7 by omega) with rfl | rfl | rfl | rfl | rfl | rfl | rfl | rfl
  · exact nmX0
  · exact nmX1
  · exact nmX2
  · exact nmX3
  · exact nmX4
  · exact nmX5
  · exact nmX6
  · exact nmX7
theorem zdc_0 : (List.range 8).all (fun ci => (List.range (zN ci)).all (fun k => decide ((zT ci k).1 = zRn ci))) = true := by decide +kernel
theorem zdc {ci k : Nat} (h : ci < 8) (hk : k < zN ci) : (zT ci k).1 = zRn ci := of_decide_eq_true (List.all_eq_true.mp (List.all_eq_true.mp zdc_0 ci (List.mem_range.mpr h)) k (List.mem_range.mpr hk))
/-- object fields: int, or a reference -/
theorem zfk_0 : (List.range 8).all (fun ci => (List.range (zN ci)).all (fun k => match zty ci k with
  | .int => true
  | .array _ => true
  | .object _ => true
  | _ => false)) = true := by decide +kernel
theorem zfk {ci k : Nat} (h : ci < 8) (hk : k < zN ci) : zty ci k = .int ∨ (∃ t, zty ci k = .array t) ∨ ∃ n, zty ci k = .object n := by
  have h1 := List.all_eq_true.mp (List.all_eq_true.mp zfk_0 ci (List.mem_range.mpr h)) k (List.mem_range.mpr hk)
  cases hz : zty ci k with
  | int => exact Or.inl rfl
  | array t => exact Or.inr (Or.inl ⟨t, rfl⟩)
  | object n => exact Or.inr (Or.inr ⟨n, rfl⟩)
  | _ => rw [hz] at h1; simp at h1
theorem zfl_in {a n ci k : Nat} (h : zfl a n = some (ci, k)) : ci < 8 ∧ k < zN ci ∧ Cond.fieldLink (zRn a) n (zRn ci) (zT ci k).2.1 (zT ci k).2.2.1 ∈ zW := by
  unfold zfl at h
  obtain ⟨q, hq, he⟩ := Option.map_eq_some_iff.mp h
  have h1 := List.find?_some hq
  simp only [Bool.and_eq_true, beq_iff_eq] at h1
  have h2 := List.all_eq_true.mp zflT_ok q (List.mem_of_find?_eq_some hq)
  simp only [Bool.and_eq_true, decide_eq_true_eq] at h2
  obtain ⟨⟨h3, h4⟩, h5⟩ := h2
  cases he
  refine ⟨h4, h3, ?_⟩
  have h6 := zgw_in h5
  rw [h1.1, h1.2] at h6
  exact h6
theorem zcl_in {a n ci : Nat} (h : zcl a n = some ci) : ci < 8 ∧ Cond.classLink (zRn a) n (zRn ci) ∈ zW ∧ Cond.instantiable (zRn ci) (zN ci) ∈ zW := by
  unfold zcl at h
  obtain ⟨q, hq, he⟩ := Option.map_eq_some_iff.mp h
  have h1 := List.find?_some hq
  simp only [Bool.and_eq_true, beq_iff_eq] at h1
  have h2 := List.all_eq_true.mp zclT_ok q (List.mem_of_find?_eq_some hq)
  simp only [Bool.and_eq_true, decide_eq_true_eq] at h2
  obtain ⟨⟨h3, h4⟩, h5⟩ := h2
  cases he
  have h6 := zgw_in h4
  rw [h1.1, h1.2] at h6
  exact ⟨h3, h6, zgw_in h5⟩
theorem zini_0 : (List.range 9).all (fun ci => decide (Cond.initialized (zRn ci) ∈ lw_tbl) && goodWord (Cond.initialized (zRn ci))) = true := by decide +kernel
theorem zini {ci : Nat} (h : ci < 9) : Cond.initialized (zRn ci) ∈ zW := by
  have h1 := List.all_eq_true.mp zini_0 ci (List.mem_range.mpr h)
  simp only [Bool.and_eq_true, decide_eq_true_eq] at h1
  exact List.mem_filter.mpr h1
section ZCELL
variable {dC : Nat → ClassId} {dI : Nat → Nat → Nat} {cA : Nat → ClassId} {base b t0 L : Nat} {xs : Nat → Int32} {M : zM} {H H1 : Heap}
theorem zad_of {q : Int} (h : 0 ≤ q) : zad base b t0 q = base + q.toNat := by
  unfold zad
  rw [if_neg (by omega), if_neg (by omega)]
theorem zws_at {f : Int → Nat} {q : Int} (h : 0 ≤ q) (h2 : q < (M.1 : Int)) : (zws f base cA M)[q.toNat]? = some (base + q.toNat, zce f cA (M.2.2 q)) := by
  have h3 : q.toNat < M.1 := by omega
  unfold zws
  rw [List.getElem?_map, List.getElem?_range h3]
  show some (base + q.toNat, zce f cA (M.2.2 (q.toNat : Int))) = _
  rw [Int.toNat_of_nonneg h]
theorem zws_D {f : Int → Nat} : va_D (zA base) (zws f base cA M) := by
  have key : ∀ (k : Nat) (x : Nat × va_E), (zws f base cA M)[k]? = some x → x.1 = base + k := by
    intro k x hx
    unfold zws at hx
    rw [List.getElem?_map] at hx
    obtain ⟨y, hy, rfl⟩ := Option.map_eq_some_iff.mp hx
    have := (List.getElem?_eq_some_iff.mp hy).2
    rw [List.getElem_range] at this
    subst this
    rfl
  refine ⟨fun i j x y hi hj e => ?_, fun k x hx => ?_⟩
  · have h1 := key i x hi
    have h2 := key j y hj
    omega
  · rw [key k x hx]
    exact Nat.le_add_right base k
theorem zws_set {f : Int → Nat} {q : Int} {c : zC} (h : 0 ≤ q) : zws f base cA (zup M q c) = (zws f base cA M).set q.toNat (base + q.toNat, zce f cA c) := by
  apply List.ext_getElem?
  intro k
  by_cases hk : k < M.1
  · have e1 : (zws f base cA (zup M q c))[k]? = some (base + k, zce f cA ((zup M q c).2.2 (k : Int))) := by
      unfold zws
      rw [List.getElem?_map, List.getElem?_range (show k < (zup M q c).1 from hk)]
      rfl
    rw [e1]
    by_cases hq : k = q.toNat
    · subst hq
      rw [List.getElem?_set_self (by unfold zws; rw [List.length_map, List.length_range]; exact hk)]
      show some (_, zce f cA (if ((q.toNat : Nat) : Int) = q then c else _)) = _
      rw [Int.toNat_of_nonneg h, if_pos rfl]
    · rw [List.getElem?_set_ne (fun e => hq e.symm)]
      unfold zws
      rw [List.getElem?_map, List.getElem?_range hk]
      have : ¬ (k : Int) = q := by omega
      simp [zup, this]
  · rw [List.getElem?_eq_none_iff.mpr (by unfold zws; rw [List.length_map, List.length_range]; exact Nat.not_lt.mp hk)]
    rw [List.getElem?_eq_none_iff.mpr (by rw [List.length_set]; unfold zws; rw [List.length_map, List.length_range]; exact Nat.not_lt.mp hk)]
theorem zws_new {f : Int → Nat} {n : Nat} {c : zC} : zws f base cA (znew M n c) = zws f base cA M ++ [(base + M.1, zce f cA c)] := by
  unfold zws
  show (List.range (M.1 + 1)).map _ = _
  rw [List.range_succ, List.map_append]
  congr 1
  · apply List.map_congr_left
    intro k hk
    have : ¬ (k : Int) = (M.1 : Int) := by have := List.mem_range.mp hk; omega
    simp [znew, this]
  · simp [znew]
theorem zWd.lt (h : zWd dC dI cA base b t0 L xs M H) {q : Int} (hv : zvk (M.2.2 q).1) (hn : ∀ len, (M.2.2 q).1 ≠ .inr (0, len)) : 0 ≤ q ∧ q < (M.1 : Int) := by
  obtain ⟨-, -, h3, h4, h5, -, -⟩ := h
  rcases h3 q hv with h | h | h
  · exact h
  · subst h; rw [h4] at hn; exact absurd rfl (hn _)
  · subst h; rw [h5] at hn; exact absurd rfl (hn _)
theorem zWd.set (h : zWd dC dI cA base b t0 L xs M H) {q : Int} (h0 : 0 ≤ q) {k : Int} {v : zV} (hv : zok v) (hz : H1.size = H.size) (hP : va_P (dC, dI) zCl ((zws (zad base b t0) base cA M).set q.toNat (base + q.toNat, zce (zad base b t0) cA (zst (M.2.2 q) k v))) H1) : zWd dC dI cA base b t0 L xs (zup M q (zst (M.2.2 q) k v)) H1 := by
  obtain ⟨h1, h2, h3, h4, h5, h6, h7⟩ := h
  refine ⟨by rw [zws_set h0]; exact hP, by rw [hz]; exact h2, fun r hr => ?_, ?_, ?_, fun r i => ?_, fun r t len hr => ?_⟩
  · by_cases e : r = q
    · subst e; apply h3; simpa [zup, zst] using hr
    · apply h3; simpa [zup, e] using hr
  · have : ¬ (-1 : Int) = q := by omega
    simp [zup, this, h4]
  · have : ¬ (-2 : Int) = q := by omega
    simp [zup, this, h5]
  · by_cases e : r = q
    · subst e
      by_cases e2 : i = k
      · simp [zup, zst, e2]; exact hv
      · simp [zup, zst, e2]; exact h6 r i
    · simp [zup, e]; exact h6 r i
  · by_cases e : r = q
    · subst e; exact h7 r t len (by simpa [zup, zst] using hr)
    · exact h7 r t len (by simpa [zup, e] using hr)
theorem zWd.new (h : zWd dC dI cA base b t0 L xs M H) {n : Nat} {c : zC} (hv : ∀ k, zok (c.2 k)) (hc : ∀ t len, c.1 = .inr (t, len) → 0 ≤ len ∧ len ≤ 65536) (hz : H1.size = H.size + 1) (hP : va_P (dC, dI) zCl (zws (zad base b t0) base cA M ++ [(H.size, zce (zad base b t0) cA c)]) H1) : zWd dC dI cA base b t0 L xs (znew M n c) H1 := by
  obtain ⟨h1, h2, h3, h4, h5, h6, h7⟩ := h
  refine ⟨by rw [zws_new, ← h2]; exact hP, by rw [hz, h2]; rfl, fun r hr => ?_, ?_, ?_, fun r i => ?_, fun r t len hr => ?_⟩
  · show (0 ≤ r ∧ r < ((M.1 + 1 : Nat) : Int)) ∨ _
    by_cases e : r = (M.1 : Int)
    · left; omega
    · rcases h3 r (by simpa [znew, e] using hr) with h | h
      · left; omega
      · right; exact h
  · have : ¬ (-1 : Int) = (M.1 : Int) := by omega
    simp [znew, this, h4]
  · have : ¬ (-2 : Int) = (M.1 : Int) := by omega
    simp [znew, this, h5]
  · by_cases e : r = (M.1 : Int)
    · simp [znew, e]; exact hv i
    · simp [znew, e]; exact h6 r i
  · by_cases e : r = (M.1 : Int)
    · exact hc t len (by simpa [znew, e] using hr)
    · exact h7 r t len (by simpa [znew, e] using hr)
theorem zce_obj {f : Int → Nat} {cl : zC} {ci : Nat} (h : cl.1 = .inl ci) : zce f cA cl = .inr (ci, (List.range (zN ci)).map (fun k : Nat => zcv f (cl.2 (k : Int)))) := by
  unfold zce; rw [h]
theorem zce_int {f : Int → Nat} {cl : zC} {t : Nat} {len : Int} (h : cl.1 = .inr (t, len)) (ht : t < 2) : zce f cA cl = .inl (cA t, len.toNat, .inl (fun k : Nat => zi (cl.2 (k : Int)))) := by
  unfold zce; rw [h]; simp [ht]
theorem zce_ref {f : Int → Nat} {cl : zC} {t : Nat} {len : Int} (h : cl.1 = .inr (t, len)) (ht : ¬ t < 2) : zce f cA cl = .inl (cA t, len.toNat, .inr (.inr (.inr (.inr (fun k : Nat => zq f (cl.2 (k : Int))))))) := by
  unfold zce; rw [h]; simp [ht]
theorem zce_objset {f : Int → Nat} {cl : zC} {ci k : Nat} {v : zV} (h : cl.1 = .inl ci) : zce f cA (zst cl (k : Int) v) = .inr (ci, ((List.range (zN ci)).map (fun k : Nat => zcv f (cl.2 (k : Int)))).set k (zcv f v)) := by
  rw [zce_obj (cl := zst cl k v) (ci := ci) h]
  congr 2
  apply List.ext_getElem?
  intro i
  rw [List.getElem?_map]
  by_cases hi : i < zN ci
  · rw [List.getElem?_range hi]
    by_cases e : i = k
    · subst e
      rw [List.getElem?_set_self (by rw [List.length_map, List.length_range]; exact hi)]
      simp [zst]
    · rw [List.getElem?_set_ne (fun x => e x.symm), List.getElem?_map, List.getElem?_range hi]
      have : ¬ (i : Int) = (k : Int) := by omega
      simp [zst, this]
  · rw [List.getElem?_eq_none_iff.mpr (by rw [List.length_range]; omega)]
    rw [List.getElem?_eq_none_iff.mpr (by rw [List.length_set, List.length_map, List.length_range]; omega)]
    rfl
theorem zce_intset {f : Int → Nat} {cl : zC} {t : Nat} {len a v : Int} (h : cl.1 = .inr (t, len)) (ht : t < 2) (h0 : 0 ≤ a) (h1 : a ≤ 2147483647) : zce f cA (zst cl a (.inl v)) = .inl (cA t, len.toNat, .inl (upd (fun k : Nat => zi (cl.2 (k : Int))) (Int32.ofInt a).toNatClampNeg (Int32.ofInt v))) := by
  rw [zce_int (cl := zst cl a (.inl v)) h ht, zcl_nat ⟨h0, h1⟩]
  congr 4
  funext k
  by_cases e : (k : Int) = a
  · subst e
    simp [zst, upd, zi]
  · have e2 : ¬ k = a.toNat := by omega
    simp [zst, upd, e, e2]
theorem zce_refset {f : Int → Nat} {cl : zC} {t : Nat} {len a q : Int} (h : cl.1 = .inr (t, len)) (ht : ¬ t < 2) (h0 : 0 ≤ a) (h1 : a ≤ 2147483647) : zce f cA (zst cl a (.inr (.inl (some q)))) = .inl (cA t, len.toNat, .inr (.inr (.inr (.inr (va_up (fun k : Nat => zq f (cl.2 (k : Int))) (Int32.ofInt a).toNatClampNeg (some (f q))))))) := by
  rw [zce_ref (cl := zst cl a (.inr (.inl (some q)))) h ht, zcl_nat ⟨h0, h1⟩]
  congr 7
  funext k
  by_cases e : (k : Int) = a
  · subst e
    simp [zst, va_up, zq]
  · have e2 : ¬ k = a.toNat := by omega
    simp [zst, va_up, e, e2]
end ZCELL
end
section
/-! what stays true of the tables and of the old cells; steps over cells -/
def zEv (dC : Nat → ClassId) (dI : Nat → Nat → Nat) (cA : Nat → ClassId) (base b t0 L : Nat) (xs : Nat → Int32) (U : State) (H : Heap) : Prop :=
  va_K (dC, dI) zCl [(cA 0, .int), (cA 1, .boolean), (cA 2, .object RX1), (cA 3, .object RX0)] U ∧
  (∀ q ∈ zmlT, (q.2.2.1 = 3 ∨ q.2.2.1 = 4) → va_Nw (.methodLinkNest (zRn q.1) q.2.1 (zy q.2.2.2.1) "WalkHouses") U) ∧
  va_Nw (.fieldLinkNest RX1 26 "WalkHouses" "DORM_SETS" "[I" "WalkHouses") U ∧ va_AO RX1 U ∧ va_AO RX0 U ∧ va_X b L xs U H ∧ b < base ∧ L ≤ 65536 ∧
  va_Z "WalkHouses" "DORM_SETS" "[I" (.ref t0) (zA base) U H ∧ va_T .int t0 7 (fun k : Nat => .int (Int32.ofInt (zdv (k : Int)))) (zA base) U H
theorem zac_i : lw_tbl[99]? = some (Cond.arrayClass .int) := by decide +kernel
theorem zac_z : lw_tbl[100]? = some (Cond.arrayClass .boolean) := by decide +kernel
section ZEV
variable {dC : Nat → ClassId} {dI : Nat → Nat → Nat} {cA : Nat → ClassId} {base b t0 L : Nat} {xs : Nat → Int32}
theorem zEv.same {u U : State} {H : Heap} (hvm : u.vm = U.vm) (h : zEv dC dI cA base b t0 L xs u H) : zEv dC dI cA base b t0 L xs U H := by
  have ha : u.vm.Alike U.vm := by rw [hvm]; exact Vm.Alike.refl _
  obtain ⟨h1, h2, h3, h4, h5, h6, h7, h8, h9, h10⟩ := h
  exact ⟨h1.moved ha, fun q hq hk => (h2 q hq hk).same rfl hvm, h3.same rfl hvm, h4.moved ha, h5.moved ha, h6.moved ha, h7, h8, h9.moved ha, h10.moved ha⟩
theorem zEv.go {s U : State} {H : Heap} {locs : List Loc} (hW : s.WarmedH U.vm) (hbs : base ≤ s.heap.size) (hS : va_S (zA base) s.heap H locs) (h : zEv dC dI cA base b t0 L xs s s.heap) : zEv dC dI cA base b t0 L xs U H := by
  have ha : s.vm.Alike U.vm := hW.alike
  obtain ⟨h1, h2, h3, h4, h5, h6, h7, h8, h9, h10⟩ := h
  have hk : ∀ a : Nat, a < s.heap.size → ¬ zA base a → H[a]? = s.heap[a]? := fun a h1 h2 => hS.2.1 a h1 h2
  exact ⟨h1.moved ha, fun q hq hz => (h2 q hq hz).warmM hW, h3.warmF hW, h4.moved ha, h5.moved ha, (h6.moved ha).kept (hk b (by omega) (Nat.not_le.mpr h7)), h7, h8, (h9.moved ha).kept hk, (h10.moved ha).kept hk⟩
end ZEV
theorem zdef_ok (ci : Nat) (k : Int) : zok (zdef ci k) := by
  unfold zdef
  split
  · exact ⟨by omega, by omega⟩
  · exact trivial
theorem zdef_v {f : Int → Nat} {ci k : Nat} (h : ci < 8) (hk : k < zN ci) : defaultValue (zty ci k) = zcv f (zdef ci (k : Int)) := by
  unfold zdef
  rw [Int.toNat_natCast]
  rcases zfk h hk with e | ⟨t, e⟩ | ⟨t, e⟩
  · rw [if_pos e, e]; rfl
  · rw [if_neg (by rw [e]; simp), e]; rfl
  · rw [if_neg (by rw [e]; simp), e]; rfl
section SIM3
variable {p : Program} {l : Launch} {e : Env} {R : Room} {s : State} {m : MethodId} {args : Array Value} {below : List Frame} {meth : Method} {c : Code} {H : Heap} {locs : List Loc} {cells slots : Nat} {Q : State → Prop}
variable {dC : Nat → ClassId} {dI : Nat → Nat → Nat} {cA : Nat → ClassId} {base b t0 L : Nat} {xs : Nat → Int32}
set_option maxHeartbeats 2000000 in
theorem z_n3 {j : Nat} {i : Instr} {len pc : Nat} {ls : zL} {st : List zV} {M : zM} {x : zX} {A : Array Slot} (hx : p.tables.exec = Jvm.exec) (hb : c.code = zc j) (hown : s.vm.findClass (zRn (zo j)) = some m.cls) (hts : ∀ w ∈ zW, w.before args s = true) (hE : zEv dC dI cA base b t0 L xs s s.heap) (hbs : base ≤ s.heap.size) (hin : (zy j).name = "<init>" → meth.name = "<init>")
    (hW : zWd dC dI cA base b t0 L xs M H) (hV : va_S (zA base) s.heap H locs) (hS : ∀ v ∈ st, zok v) (hd : decode (zc j) pc = .ok (i, len)) (hl : zlk i len = true) (h : zn3 j i pc ls st M = some x)
    (hc1 : cells + x.2.2.2.1 ≤ R.cells + M.1) (hc2 : slots + x.2.2.2.2.1 ≤ R.slots + M.2.1)
    (kk : ∀ (H' : Heap) (locs' : List Loc) (cells' slots' : Nat), zWd dC dI cA base b t0 L xs x.2.2.2 H' → va_S (zA base) s.heap H' locs' → (∀ v ∈ x.2.2.1, zok v) → x.2.1 = ls → cells' + M.1 = cells + x.2.2.2.1 → slots' + M.2.1 = slots + x.2.2.2.2.1 →
      W p l e R s m args below meth c H' locs' cells' slots' Q (F0 m x.1 A (x.2.2.1.map (zcv (zad base b t0))))) : W p l e R s m args below meth c H locs cells slots Q (F0 m pc A (st.map (zcv (zad base b t0)))) := by
  obtain ⟨hK, hN, hNf, hO1, hO0, hX, hbb, hLL, hZ, hT⟩ := hE
  have hP := hW.1
  have hD : va_D (zA base) (zws (zad base b t0) base cA M) := zws_D
  unfold zn3 at h
  split at h
  · -- getfield
    next n =>
    have hn := zlen_of hl (by intros; simp); simp only [zlen] at hn; subst hn
    split at h
    · next q r ci k hz =>
      obtain ⟨g1, g2, g3⟩ := zfl_in hz
      have hv := List.forall_mem_cons.mp hS
      split at h
      · next hk =>
        have hr := hW.lt (q := q) (by rw [hk]; exact g1) (by intro len; rw [hk]; simp)
        have hat := zws_at (f := zad base b t0) (base := base) (cA := cA) hr.1 hr.2
        rw [zce_obj hk, ← zad_of (b := b) (t0 := t0) hr.1] at hat
        have hfk : ((List.range (zN ci)).map (fun k : Nat => zcv (zad base b t0) ((M.2.2 q).2 (k : Int))))[k]? = some (zcv (zad base b t0) ((M.2.2 q).2 (k : Int))) := by
          rw [List.getElem?_map, List.getElem?_range g2]; rfl
        have row := fun kk => va_get (pc := pc) (ls := A) (locs := locs) (cells := cells) (slots := slots) (Q := Q) (R := R) (l := l) (e := e) (below := below) (meth := meth) (rest := r.map (zcv (zad base b t0))) hx hb hts (zin g1) hown hK hP q.toNat hat (zCl_at g1) k g2 (hts _ g3) (fun y hy => by rw [zdc g1 g2] at hy; exact hy) hfk hd kk
        split at h
        · next v hvv => cases h; refine row ?_; rw [hvv]; exact kk H locs cells slots hW hV (List.forall_mem_cons.mpr ⟨by have := hW.2.2.2.2.2.1 q k; rw [hvv] at this; exact this, hv.2⟩) rfl rfl rfl
        · next v hvv => cases h; refine row ?_; rw [hvv]; exact kk H locs cells slots hW hV (List.forall_mem_cons.mpr ⟨trivial, hv.2⟩) rfl rfl rfl
        · cases h
      · cases h
    · cases h
  · -- putfield
    next n =>
    have hn := zlen_of hl (by intros; simp); simp only [zlen] at hn; subst hn
    split at h
    · next v q r ci k hz =>
      obtain ⟨g1, g2, g3⟩ := zfl_in hz
      have hv := List.forall_mem_cons.mp hS
      have hw := List.forall_mem_cons.mp hv.2
      split at h
      · next hk =>
        cases h
        obtain ⟨hk, hk2, hk3⟩ := hk
        have hr := hW.lt (q := q) (by rw [hk]; exact g1) (by intro len; rw [hk]; simp)
        have hat := zws_at (f := zad base b t0) (base := base) (cA := cA) hr.1 hr.2
        rw [zce_obj hk, ← zad_of (b := b) (t0 := t0) hr.1] at hat
        refine zw_put hx hb hts (zin g1) (zty ci) (zty_p g1) (znm_p g1) hown hK hP hD hV q.toNat hat (zCl_at g1) k g2 (zdc g1 g2) (hts _ g3) (Or.inl hk3) (v := .int (Int32.ofInt v)) (by rw [hk2]; rfl) (by rw [hk2]; rfl) (by rw [List.length_map, List.length_range]; exact g2) hd (fun H1 locs1 z1 hP1 hV1 => ?_)
        refine kk H1 locs1 cells slots (hW.set hr.1 (k := k) (v := .inl v) hv.1 z1 ?_) hV1 hw.2 rfl rfl rfl
        rw [zce_objset hk, ← zad_of (b := b) (t0 := t0) hr.1]
        exact hP1
      · cases h
    · next q2 q r ci k hz =>
      obtain ⟨g1, g2, g3⟩ := zfl_in hz
      have hv := List.forall_mem_cons.mp hS
      have hw := List.forall_mem_cons.mp hv.2
      split at h
      · next hk =>
        cases h
        obtain ⟨hk, hk2, hk3, hk4, hk5⟩ := hk
        have hr := hW.lt (q := q) (by rw [hk]; exact g1) (by intro len; rw [hk]; simp)
        have hat := zws_at (f := zad base b t0) (base := base) (cA := cA) hr.1 hr.2
        rw [zce_obj hk, ← zad_of (b := b) (t0 := t0) hr.1] at hat
        have hty : (∃ t, zty ci k = .array t) ∨ ∃ n, zty ci k = .object n := by
          rcases zfk g1 g2 with h | h
          · exact absurd h hk2
          · exact h
        refine zw_put hx hb hts (zin g1) (zty ci) (zty_p g1) (znm_p g1) hown hK hP hD hV q.toNat hat (zCl_at g1) k g2 (zdc g1 g2) (hts _ g3) (Or.inr ⟨hk3, hin hk5, by rw [hk4]⟩) (v := .ref (zad base b t0 q2)) (by rcases hty with ⟨t, h⟩ | ⟨t, h⟩ <;> rw [h] <;> rfl) (by rcases hty with ⟨t, h⟩ | ⟨t, h⟩ <;> rw [h] <;> rfl) (by rw [List.length_map, List.length_range]; exact g2) hd (fun H1 locs1 z1 hP1 hV1 => ?_)
        refine kk H1 locs1 cells slots (hW.set hr.1 (k := k) (v := .inr (.inl (some q2))) trivial z1 ?_) hV1 hw.2 rfl rfl rfl
        rw [zce_objset hk, ← zad_of (b := b) (t0 := t0) hr.1]
        exact hP1
      · cases h
    · cases h
  · -- iaload
    have hn := zlen_of hl (by intros; simp); simp only [zlen] at hn; subst hn
    split at h
    · next a q r =>
      have hv := List.forall_mem_cons.mp hS
      have hw := List.forall_mem_cons.mp hv.2
      split at h
      · next ln hk =>
        split at h
        · next ha =>
          have hlen := hW.2.2.2.2.2.2 q 0 ln hk
          split at h
          · next v hvv =>
            cases h
            have okv : zok (.inl v) := by have := hW.2.2.2.2.2.1 q a; rw [hvv] at this; exact this
            have kk' := kk H locs cells slots hW hV (List.forall_mem_cons.mpr ⟨okv, hw.2⟩) rfl rfl rfl
            rcases hW.2.2.1 q (by rw [hk]; show (0 : Nat) < 4; decide) with hr | hr | hr
            · have hat := zws_at (f := zad base b t0) (base := base) (cA := cA) hr.1 hr.2
              rw [zce_int hk (by decide), ← zad_of (b := b) (t0 := t0) hr.1] at hat
              refine va_iald hx hb hK hP q.toNat 0 hat rfl (i := Int32.ofInt a) (zvin ha.1 (by omega) (by omega)) hd ?_
              rw [zcl_nat ⟨ha.1, by omega⟩, Int.toNat_of_nonneg ha.1, hvv]
              exact kk'
            · subst hr
              rw [hW.2.2.2.1] at hk hvv
              have hL1 : ln = (L : Int) := by simp [zsc] at hk; exact hk.symm
              have hv1 : v = (xs a.toNat).toInt := by simp [zsc] at hvv; exact hvv.symm
              refine va_sld (b := b) hx hb hX (by omega) (Nat.not_le.mpr hbb) hV (i := Int32.ofInt a) (zvin ha.1 (by omega) hLL) hd ?_
              rw [zcl_nat ⟨ha.1, by omega⟩]
              rw [hv1] at kk'
              simp only [List.map_cons, zcv, Int32.ofInt_toInt] at kk'
              exact kk'
            · subst hr
              rw [hW.2.2.2.2.1] at hk hvv
              have hL1 : ln = 7 := by simp [zds] at hk; exact hk.symm
              have hv1 : v = zdv a := by simp [zds] at hvv; exact hvv.symm
              refine va_ti (t := t0) hx hb hT hV (i := Int32.ofInt a) (zvin ha.1 (by omega) (by omega)) (v := .int (Int32.ofInt v)) ?_ hd ?_
              · show Value.int (Int32.ofInt (zdv ((Int32.ofInt a).toNatClampNeg : Int))) = _
                rw [zcl_nat ⟨ha.1, by omega⟩, Int.toNat_of_nonneg ha.1, hv1]
              · exact kk'
          · cases h
        · cases h
      · cases h
    · cases h
  · -- baload
    have hn := zlen_of hl (by intros; simp); simp only [zlen] at hn; subst hn
    split at h
    · next a q r =>
      have hv := List.forall_mem_cons.mp hS
      have hw := List.forall_mem_cons.mp hv.2
      split at h
      · next ln hk =>
        split at h
        · next ha =>
          have hlen := hW.2.2.2.2.2.2 q 1 ln hk
          split at h
          · next v hvv =>
            cases h
            have okv : zok (.inl v) := by have := hW.2.2.2.2.2.1 q a; rw [hvv] at this; exact this
            have hr := hW.lt (q := q) (by rw [hk]; show (1 : Nat) < 4; decide) (by intro len; rw [hk]; simp)
            have hat := zws_at (f := zad base b t0) (base := base) (cA := cA) hr.1 hr.2
            rw [zce_int hk (by decide), ← zad_of (b := b) (t0 := t0) hr.1] at hat
            refine va_zald hx hb hK hP q.toNat 1 hat rfl (i := Int32.ofInt a) (zvin ha.1 (by omega) (by omega)) hd ?_
            rw [zcl_nat ⟨ha.1, by omega⟩, Int.toNat_of_nonneg ha.1, hvv]
            exact kk H locs cells slots hW hV (List.forall_mem_cons.mpr ⟨okv, hw.2⟩) rfl rfl rfl
          · cases h
        · cases h
      · cases h
    · cases h
  · -- aaload
    have hn := zlen_of hl (by intros; simp); simp only [zlen] at hn; subst hn
    split at h
    · next a q r =>
      have hv := List.forall_mem_cons.mp hS
      have hw := List.forall_mem_cons.mp hv.2
      split at h
      · next t ln hk =>
        split at h
        · next ha =>
          have hlen := hW.2.2.2.2.2.2 q t ln hk
          split at h
          · next v hvv =>
            cases h
            have ht2 : ¬ t < 2 := by omega
            have hr := hW.lt (q := q) (by rw [hk]; show t < 4; omega) (by intro len; rw [hk]; simp; omega)
            have hat := zws_at (f := zad base b t0) (base := base) (cA := cA) hr.1 hr.2
            rw [zce_ref hk ht2, ← zad_of (b := b) (t0 := t0) hr.1] at hat
            have kk' := kk H locs cells slots hW hV (List.forall_mem_cons.mpr ⟨trivial, hw.2⟩) rfl rfl rfl
            rcases ha.1 with rfl | rfl
            · refine va_aldq hx hb hK hP q.toNat 2 hat rfl (i := Int32.ofInt a) (zvin ha.2.1 (by omega) (by omega)) hd ?_
              rw [zcl_nat ⟨ha.2.1, by omega⟩, Int.toNat_of_nonneg ha.2.1, hvv]
              exact kk'
            · refine va_aldq hx hb hK hP q.toNat 3 hat rfl (i := Int32.ofInt a) (zvin ha.2.1 (by omega) (by omega)) hd ?_
              rw [zcl_nat ⟨ha.2.1, by omega⟩, Int.toNat_of_nonneg ha.2.1, hvv]
              exact kk'
          · cases h
        · cases h
      · cases h
    · cases h
  · -- iastore
    have hn := zlen_of hl (by intros; simp); simp only [zlen] at hn; subst hn
    split at h
    · next v a q r =>
      have hv := List.forall_mem_cons.mp hS
      have hw := List.forall_mem_cons.mp hv.2
      have hu := List.forall_mem_cons.mp hw.2
      split at h
      · next ln hk =>
        split at h
        · next ha =>
          cases h
          have hlen := hW.2.2.2.2.2.2 q 0 ln hk
          have hr : 0 ≤ q ∧ q < (M.1 : Int) := by
            rcases hW.2.2.1 q (by rw [hk]; show (0 : Nat) < 4; decide) with hr | hr | hr <;> omega
          have hat := zws_at (f := zad base b t0) (base := base) (cA := cA) hr.1 hr.2
          rw [zce_int hk (by decide), ← zad_of (b := b) (t0 := t0) hr.1] at hat
          refine zw_iast hx hb hK hP hD hV q.toNat 0 hat rfl (i := Int32.ofInt a) (x := Int32.ofInt v) (zvin ha.2.1 (by omega) (by omega)) hd (fun H1 locs1 z1 hP1 hV1 => ?_)
          refine kk H1 locs1 cells slots (hW.set hr.1 (k := a) (v := .inl v) hv.1 z1 ?_) hV1 hu.2 rfl rfl rfl
          rw [zce_intset hk (by decide) ha.2.1 (by omega), ← zad_of (b := b) (t0 := t0) hr.1]
          exact hP1
        · cases h
      · cases h
    · cases h
  · -- bastore
    have hn := zlen_of hl (by intros; simp); simp only [zlen] at hn; subst hn
    split at h
    · next v a q r =>
      have hv := List.forall_mem_cons.mp hS
      have hw := List.forall_mem_cons.mp hv.2
      have hu := List.forall_mem_cons.mp hw.2
      split at h
      · next ln hk =>
        split at h
        · next ha =>
          cases h
          have hlen := hW.2.2.2.2.2.2 q 1 ln hk
          have hr := hW.lt (q := q) (by rw [hk]; show (1 : Nat) < 4; decide) (by intro len; rw [hk]; simp)
          have hat := zws_at (f := zad base b t0) (base := base) (cA := cA) hr.1 hr.2
          rw [zce_int hk (by decide), ← zad_of (b := b) (t0 := t0) hr.1] at hat
          refine zw_zast hx hb hK hP hD hV q.toNat 1 hat rfl (i := Int32.ofInt a) (x := Int32.ofInt v) (by rcases ha.2.2.2 with rfl | rfl <;> rfl) (zvin ha.2.1 (by omega) (by omega)) hd (fun H1 locs1 z1 hP1 hV1 => ?_)
          refine kk H1 locs1 cells slots (hW.set hr.1 (k := a) (v := .inl v) hv.1 z1 ?_) hV1 hu.2 rfl rfl rfl
          rw [zce_intset hk (by decide) ha.2.1 (by omega), ← zad_of (b := b) (t0 := t0) hr.1]
          exact hP1
        · cases h
      · cases h
    · cases h
  · -- aastore
    have hn := zlen_of hl (by intros; simp); simp only [zlen] at hn; subst hn
    split at h
    · next q2 a q r =>
      have hv := List.forall_mem_cons.mp hS
      have hw := List.forall_mem_cons.mp hv.2
      have hu := List.forall_mem_cons.mp hw.2
      split at h
      · next t ln hk =>
        split at h
        · next ha =>
          cases h
          obtain ⟨ht, h0, ha0, ha1, hk2⟩ := ha
          have hlen := hW.2.2.2.2.2.2 q t ln hk
          have ht2 : ¬ t < 2 := by omega
          have hel : zel t < 8 := by rcases ht with rfl | rfl <;> decide
          have hr := hW.lt (q := q) (by rw [hk]; show t < 4; omega) (by intro len; rw [hk]; simp; omega)
          have hr2 := hW.lt (q := q2) (by rw [hk2]; exact hel) (by intro len; rw [hk2]; simp)
          have hat := zws_at (f := zad base b t0) (base := base) (cA := cA) hr.1 hr.2
          rw [zce_ref hk ht2, ← zad_of (b := b) (t0 := t0) hr.1] at hat
          have hat2 := zws_at (f := zad base b t0) (base := base) (cA := cA) hr2.1 hr2.2
          rw [zce_obj hk2, ← zad_of (b := b) (t0 := t0) hr2.1] at hat2
          have fin : ∀ (H1 : Heap) (locs1 : List Loc), H1.size = H.size → va_P (dC, dI) zCl ((zws (zad base b t0) base cA M).set q.toNat (zad base b t0 q, .inl (cA t, ln.toNat, .inr (.inr (.inr (.inr (va_up (fun k : Nat => zq (zad base b t0) ((M.2.2 q).2 (k : Int))) (Int32.ofInt a).toNatClampNeg (some (zad base b t0 q2))))))))) H1 → va_S (zA base) s.heap H1 locs1 → W p l e R s m args below meth c H1 locs1 cells slots Q (F0 m (pc + 1) A (r.map (zcv (zad base b t0)))) := by
            intro H1 locs1 z1 hP1 hV1
            refine kk H1 locs1 cells slots (hW.set hr.1 (k := a) (v := .inr (.inl (some q2))) trivial z1 ?_) hV1 hu.2 rfl rfl rfl
            rw [zce_refset hk ht2 ha0 (by omega), ← zad_of (b := b) (t0 := t0) hr.1]
            exact hP1
          rcases ht with rfl | rfl
          · exact zw_astq hx hb hK hP hD hV q.toNat 2 q2.toNat 1 (r := (zRn 1, zT 1, zN 1)) hat rfl hat2 (zCl_at (by decide)) (i := Int32.ofInt a) (zvin ha0 (by omega) (by omega)) hd fin
          · exact zw_astq hx hb hK hP hD hV q.toNat 3 q2.toNat 0 (r := (zRn 0, zT 0, zN 0)) hat rfl hat2 (zCl_at (by decide)) (i := Int32.ofInt a) (zvin ha0 (by omega) (by omega)) hd fin
        · cases h
      · cases h
    · cases h
  · -- arraylength
    have hn := zlen_of hl (by intros; simp); simp only [zlen] at hn; subst hn
    split at h
    · next q r =>
      have hv := List.forall_mem_cons.mp hS
      split at h
      · next ln hk =>
        cases h
        have hlen := hW.2.2.2.2.2.2 q 0 ln hk
        have kk' := kk H locs cells slots hW hV (List.forall_mem_cons.mpr ⟨⟨by omega, by omega⟩, hv.2⟩) rfl rfl rfl
        have eln : Int32.ofNat ln.toNat = Int32.ofInt ln := by rw [← Int32.ofInt_eq_ofNat]; congr 1; omega
        rcases hW.2.2.1 q (by rw [hk]; show (0 : Nat) < 4; decide) with hr | hr | hr
        · have hat := zws_at (f := zad base b t0) (base := base) (cA := cA) hr.1 hr.2
          rw [zce_int hk (by decide), ← zad_of (b := b) (t0 := t0) hr.1] at hat
          exact va_alen hx hb hK hP q.toNat 0 hat rfl eln hd kk'
        · subst hr
          rw [hW.2.2.2.1] at hk
          have hL1 : ln = (L : Int) := by simp [zsc] at hk; exact hk.symm
          refine va_slen (b := b) hx hb hX (by omega) (Nat.not_le.mpr hbb) hV hd ?_
          rw [hL1] at kk'
          simp only [List.map_cons, zcv, Int32.ofInt_eq_ofNat] at kk'
          exact kk'
        · subst hr
          rw [hW.2.2.2.2.1] at hk
          have hL1 : ln = 7 := by simp [zds] at hk; exact hk.symm
          subst hL1
          exact va_tlen (t := t0) hx hb hT hV rfl hd kk'
      · cases h
    · cases h
  · -- getstatic
    next n =>
    have hn := zlen_of hl (by intros; simp); simp only [zlen] at hn; subst hn
    split at h
    · next hz =>
      cases h
      obtain ⟨hz1, rfl⟩ := hz
      rw [hz1] at hown
      exact va_getsN hx hb hZ hV hown (hNf.use rfl) (fun _ h9 => h9) hd (kk H locs cells slots hW hV (List.forall_mem_cons.mpr ⟨trivial, hS⟩) rfl rfl rfl)
    · cases h
  · -- new
    next n =>
    have hn := zlen_of hl (by intros; simp); simp only [zlen] at hn; subst hn
    split at h
    · next ci hz =>
      obtain ⟨g1, g2, g3⟩ := zcl_in hz
      cases h
      have hc1' : cells + (M.1 + 1) ≤ R.cells + M.1 := hc1
      have hc2' : slots + (M.2.1 + zN ci) ≤ R.slots + M.2.1 := hc2
      have had : zad base b t0 (M.1 : Int) = H.size := by rw [zad_of (by omega), hW.2.1]; simp
      refine zw_new hx hb hts (zin g1) (zty ci) (zty_p g1) hown (hts _ g2) (hts _ g3) (hts _ (zini (by omega))) hK hP hV (zCl_at g1) (fs := (List.range (zN ci)).map (fun k : Nat => zcv (zad base b t0) (zdef ci (k : Int)))) (fun k hk => ?_) (by omega) (by omega) hd (fun H1 z1 hP1 hV1 => ?_)
      · simp only [vp_V, List.getD_eq_getElem?_getD, List.getElem?_map, List.getElem?_range hk, Option.map_some, Option.getD_some]
        exact zdef_v g1 hk
      · rw [← had]
        refine kk H1 locs (cells + 1) (slots + zN ci) (hW.new (fun k => ?_) (fun t len h => by cases h) z1 ?_) hV1 (List.forall_mem_cons.mpr ⟨trivial, hS⟩) rfl ?_ ?_
        · exact zdef_ok ci k
        · rw [zce_obj (ci := ci) rfl]; exact hP1
        · show cells + 1 + M.1 = cells + (M.1 + 1); omega
        · show slots + zN ci + M.2.1 = slots + (M.2.1 + zN ci); omega
    · cases h
  · -- newarray
    next t =>
    have hn := zlen_of hl (by intros; simp); simp only [zlen] at hn; subst hn
    split at h
    · next a r =>
      have hv := List.forall_mem_cons.mp hS
      split at h
      · next ha =>
        have had : zad base b t0 (M.1 : Int) = H.size := by rw [zad_of (by omega), hW.2.1]; simp
        have hneg : ¬ Int32.ofInt a < 0 := by
          intro g
          have := (zlt (b := 0) (⟨by omega, by omega⟩ : -2147483648 ≤ a ∧ a ≤ 2147483647) ⟨by omega, by omega⟩).mp g
          omega
        split at h
        · cases h
          have hc1' : cells + (M.1 + 1) ≤ R.cells + M.1 := hc1
          have hc2' : slots + (M.2.1 + a.toNat) ≤ R.slots + M.2.1 := hc2
          have hw0 : Cond.arrayClass .int ∈ zW := zW_at _ zac_i rfl
          refine zw_newa hx hb (atype := .int) (hts _ hw0) (hK.2 0 _ rfl).2 hP hV (a0 := (a.toNat, .inl (fun _ => 0))) rfl hneg (zcl_nat ⟨ha.1, by omega⟩) (by show a.toNat * 4 ≤ _; omega) (by omega) (by omega) hd (fun H1 z1 hP1 hV1 => ?_)
          rw [← had]
          refine kk H1 locs (cells + 1) (slots + a.toNat) (hW.new (fun k => ⟨by omega, by omega⟩) (fun t len h => by cases h; exact ha) z1 ?_) hV1 (List.forall_mem_cons.mpr ⟨trivial, hv.2⟩) rfl ?_ ?_
          · rw [zce_int (t := 0) (len := a) rfl (by decide)]; exact hP1
          · show cells + 1 + M.1 = cells + (M.1 + 1); omega
          · show slots + a.toNat + M.2.1 = slots + (M.2.1 + a.toNat); omega
        · cases h
          have hc1' : cells + (M.1 + 1) ≤ R.cells + M.1 := hc1
          have hc2' : slots + (M.2.1 + a.toNat) ≤ R.slots + M.2.1 := hc2
          have hw0 : Cond.arrayClass .boolean ∈ zW := zW_at _ zac_z rfl
          refine zw_newa hx hb (atype := .boolean) (hts _ hw0) (hK.2 1 _ rfl).2 hP hV (a0 := (a.toNat, .inl (fun _ => 0))) rfl hneg (zcl_nat ⟨ha.1, by omega⟩) (by show a.toNat * 1 ≤ _; omega) (by omega) (by omega) hd (fun H1 z1 hP1 hV1 => ?_)
          rw [← had]
          refine kk H1 locs (cells + 1) (slots + a.toNat) (hW.new (fun k => ⟨by omega, by omega⟩) (fun t len h => by cases h; exact ha) z1 ?_) hV1 (List.forall_mem_cons.mpr ⟨trivial, hv.2⟩) rfl ?_ ?_
          · rw [zce_int (t := 1) (len := a) rfl (by decide)]; exact hP1
          · show cells + 1 + M.1 = cells + (M.1 + 1); omega
          · show slots + a.toNat + M.2.1 = slots + (M.2.1 + a.toNat); omega
        · cases h
      · cases h
    · cases h
  · -- anewarray
    next n =>
    have hn := zlen_of hl (by intros; simp); simp only [zlen] at hn; subst hn
    split at h
    · next a r ci hz =>
      obtain ⟨g1, g2, g3⟩ := zcl_in hz
      have hv := List.forall_mem_cons.mp hS
      split at h
      · next ha =>
        cases h
        have had : zad base b t0 (M.1 : Int) = H.size := by rw [zad_of (by omega), hW.2.1]; simp
        have hneg : ¬ Int32.ofInt a < 0 := by
          intro g
          have := (zlt (b := 0) (⟨by omega, by omega⟩ : -2147483648 ≤ a ∧ a ≤ 2147483647) ⟨by omega, by omega⟩).mp g
          omega
        have hc1' : cells + (M.1 + 1) ≤ R.cells + M.1 := hc1
        have hc2' : slots + (M.2.1 + a.toNat) ≤ R.slots + M.2.1 := hc2
        have fin : ∀ (H1 : Heap), H1.size = H.size + 1 → va_P (dC, dI) zCl (zws (zad base b t0) base cA M ++ [(H.size, .inl (cA (3 - ci), a.toNat, .inr (.inr (.inr (.inr (fun _ => none))))))]) H1 → va_S (zA base) s.heap H1 locs → W p l e R s m args below meth c H1 locs (cells + 1) (slots + a.toNat) Q (F0 m (pc + 3) A (.ref H.size :: r.map (zcv (zad base b t0)))) := by
          intro H1 z1 hP1 hV1
          rw [← had]
          refine kk H1 locs (cells + 1) (slots + a.toNat) (hW.new (fun k => trivial) (fun t len h => by cases h; exact ⟨ha.1, ha.2.1⟩) z1 ?_) hV1 (List.forall_mem_cons.mpr ⟨trivial, hv.2⟩) rfl ?_ ?_
          · rw [zce_ref (t := 3 - ci) (len := a) rfl (by omega)]; exact hP1
          · show cells + 1 + M.1 = cells + (M.1 + 1); omega
          · show slots + a.toNat + M.2.1 = slots + (M.2.1 + a.toNat); omega
        rcases (show ci = 0 ∨ ci = 1 by omega) with rfl | rfl
        · obtain ⟨kA, comp, k1, k2, k3, k4⟩ := (hK.2 3 _ rfl).2
          exact zw_newq hx hb hown (hts _ g2) hO0 k4 hP hV hneg (zcl_nat ⟨ha.1, by omega⟩) (by omega) (by omega) (by omega) hd fin
        · obtain ⟨kA, comp, k1, k2, k3, k4⟩ := (hK.2 2 _ rfl).2
          exact zw_newq hx hb hown (hts _ g2) hO1 k4 hP hV hneg (zcl_nat ⟨ha.1, by omega⟩) (by omega) (by omega) (by omega) hd fin
      · cases h
    · cases h
  · cases h
end SIM3
end
section
/-! calls: words, entry, contracts -/
def zpl (j : Nat) : Nat × Nat × Nat × Nat := (zm j).2.2.2.2.2.2
def zmtc (j : Nat) : Bool := zgw (zpl j).2.2.2 (.initialized (zRn (zo j))) && decide ((zy j).cls = zRn (zo j)) && decide ((zy j).cls ≠ "java/lang/invoke/MethodHandle") && decide ((zy j).cls ≠ "java/lang/invoke/VarHandle") && decide ((parseMethodDescriptor (zy j).desc).map (fun d => d.parameters.length) = some (zp j)) && decide (zn j ≤ 24) && plainName (zy j).cls && decide (zo j < 8)
set_option maxRecDepth 100000 in
theorem zmtc_0 : (List.range 132).all zmtc = true := by decide +kernel
theorem zmt_in {j : Nat} (h : j < 132) : Cond.code (zy j) (zc j) (zn j) (zr j) ∈ zW ∧ Cond.initialized (zRn (zo j)) ∈ zW ∧ (zy j).cls = zRn (zo j) ∧ ((zy j).cls ≠ "java/lang/invoke/MethodHandle" ∧ (zy j).cls ≠ "java/lang/invoke/VarHandle" ∧ (parseMethodDescriptor (zy j).desc).map (fun d => d.parameters.length) = some (zp j)) ∧ zn j ≤ 24 ∧ plainName (zy j).cls = true ∧ zo j < 8 := by
  have h1 := List.all_eq_true.mp zmtc_0 j (List.mem_range.mpr h)
  simp only [zmtc, Bool.and_eq_true, decide_eq_true_eq] at h1
  obtain ⟨⟨⟨⟨⟨⟨⟨a2, a3⟩, a4⟩, a5⟩, a6⟩, a7⟩, a8⟩, a9⟩ := h1
  exact ⟨List.mem_filter.mpr ⟨zcw _ (zm_at h), rfl⟩, zgw_in a2, a3, ⟨a4, a5, a6⟩, a7, a8, a9⟩
def zmlc (q : Nat × Nat × Nat × Nat × Nat) : Bool := match q.2.2.1 with
  | 0 => zgw q.2.2.2.2 (.methodLink (zRn q.1) q.2.1 (zy q.2.2.2.1)) && zgw (zpl q.2.2.2.1).2.1 (.instanceMethod (zy q.2.2.2.1)) && zgw (zpl q.2.2.2.1).2.2.1 (.selects (zRn (zo q.2.2.2.1)) (zy q.2.2.2.1) (zy q.2.2.2.1)) && decide (q.2.2.2.1 < 132) && decide (zp q.2.2.2.1 + 1 ≤ zn q.2.2.2.1)
  | 1 => zgw q.2.2.2.2 (.methodLink (zRn q.1) q.2.1 (zy q.2.2.2.1)) && zgw (zpl q.2.2.2.1).2.1 (.static (zy q.2.2.2.1)) && decide (q.1 = zo q.2.2.2.1) && decide (q.2.2.2.1 < 132) && decide (zp q.2.2.2.1 ≤ zn q.2.2.2.1)
  | 2 => zgw q.2.2.2.2 (.methodLink (zRn q.1) q.2.1 (zy q.2.2.2.1)) && zgw (zpl q.2.2.2.1).2.1 (.instanceMethod (zy q.2.2.2.1)) && decide ((zy q.2.2.2.1).name = "<init>") && decide (zr q.2.2.2.1 = none) && decide (q.2.2.2.1 < 132) && decide (zp q.2.2.2.1 + 1 ≤ zn q.2.2.2.1)
  | 3 => zgw (zpl q.2.2.2.1).2.1 (.static (zy q.2.2.2.1)) && decide (q.2.2.2.1 < 132) && decide (zp q.2.2.2.1 ≤ zn q.2.2.2.1)
  | 4 => zgw (zpl q.2.2.2.1).2.1 (.instanceMethod (zy q.2.2.2.1)) && decide ((zy q.2.2.2.1).name = "<init>") && decide (zr q.2.2.2.1 = none) && decide (q.2.2.2.1 < 132) && decide (zp q.2.2.2.1 + 1 ≤ zn q.2.2.2.1)
  | 5 => zgw q.2.2.2.2 (.methodLink (zRn q.1) q.2.1 objectInit)
  | 6 => zgw q.2.2.2.2 (.methodLink (zRn q.1) q.2.1 Lib.Math.max.name)
  | _ => zgw q.2.2.2.2 (.methodLink (zRn q.1) q.2.1 Lib.Math.min.name)
set_option maxRecDepth 100000 in
theorem zmlc_0 : zmlT.all zmlc = true := by decide +kernel
theorem zml_in {a n k j : Nat} (h : zml a n = some (k, j)) : ∃ i, (a, n, k, j, i) ∈ zmlT ∧ zmlc (a, n, k, j, i) = true := by
  unfold zml at h
  obtain ⟨q, hq, he⟩ := Option.map_eq_some_iff.mp h
  have h1 := List.find?_some hq
  simp only [Bool.and_eq_true, beq_iff_eq] at h1
  have hm := List.mem_of_find?_eq_some hq
  obtain ⟨q1, q2, q3, q4, q5⟩ := q
  simp only [Prod.mk.injEq] at he h1
  obtain ⟨rfl, rfl⟩ := h1
  obtain ⟨rfl, rfl⟩ := he
  exact ⟨q5, hm, List.all_eq_true.mp zmlc_0 _ hm⟩
theorem zW_sub {ws : List Cond} (h : ∀ w ∈ ws, w ∈ zW) : GoodIn zW ws := fun w hw => ⟨h w hw, good_of_word (zW_good (h w hw)).2⟩
abbrev zwsj (j : Nat) : List Cond := .code (zy j) (zc j) (zn j) (zr j) :: zW
theorem zwsj_in {j : Nat} (h : j < 132) : ∀ w ∈ zwsj j, w ∈ zW := by
  intro w hw
  rcases List.mem_cons.mp hw with rfl | hw
  · exact (zmt_in h).1
  · exact hw
def zrm (d mc ms : Nat) : Room := { frames := d, cells := mc, slots := ms, locals := 43 * d }
/-- a method's entry -/
theorem zsl_eq {f : Int → Nat} : ∀ (as : List zV), zsm as = true → lg_sl (as.map (zcv f)) = as.map (fun v => Slot.val (zcv f v))
  | [], _ => rfl
  | v :: t, h => by
    simp only [zsm, List.all_cons, Bool.and_eq_true] at h
    have ih := zsl_eq (f := f) t h.2
    have hc : ¬ (zcv f v).category = 2 := by
      rw [zcat]
      rintro ⟨x, rfl⟩
      simp at h
    show (lg_sl (zcv f v :: t.map (zcv f))) = _
    unfold lg_sl at ih ⊢
    rw [List.flatMap_cons, if_neg hc, ih]
    rfl
theorem zargs_mem {f : Int → Nat} : ∀ (as : List zV) (k : Nat), zsm as = true → ∀ (j : Nat) (v : zV), as[j]? = some v → (k + j, zcv f v) ∈ lv_args k (as.map (zcv f))
  | [], _, _, j, v, hj => by simp at hj
  | w :: t, k, h, j, v, hj => by
    simp only [zsm, List.all_cons, Bool.and_eq_true] at h
    have hc : ¬ (zcv f w).category = 2 := by
      rw [zcat]
      rintro ⟨x, rfl⟩
      simp at h
    rw [List.map_cons, lv_args, if_neg hc]
    cases j with
    | zero =>
      simp at hj
      subst hj
      exact List.mem_cons_self
    | succ j =>
      have ih := zargs_mem (f := f) t (k + 1) h.2 j v (by simpa using hj)
      rw [show k + (j + 1) = k + 1 + j by omega]
      exact List.mem_cons_of_mem _ ih
theorem zent_LR {f : Int → Nat} {j : Nat} {as : List zV} (hs : zsm as = true) (hl : as.length ≤ zn j) (hk : ∀ v ∈ as, zok v) : zLR f (zn j) (zent j as) ((lg_sl (as.map (zcv f)) ++ List.replicate (zn j - (lg_sl (as.map (zcv f))).length) Slot.unset).toArray) := by
  have hlen : (lg_sl (as.map (zcv f))).length = as.length := by rw [zsl_eq as hs, List.length_map]
  have h1 := lv_entry (as.map (zcv f)) (n := zn j) (by rw [hlen]; exact hl)
  have key : ∀ (i : Nat) (v : zV), (zent j as)[i]? = some (some v) → as[i]? = some v := by
    intro i v hi
    unfold zent at hi
    by_cases hil : i < as.length
    · rw [List.getElem?_append_left (by rw [List.length_map]; exact hil), List.getElem?_map] at hi
      obtain ⟨w, hw, e⟩ := Option.map_eq_some_iff.mp hi
      cases e
      exact hw
    · rw [List.getElem?_append_right (by rw [List.length_map]; omega)] at hi
      have := List.mem_of_getElem? hi
      rw [List.mem_replicate] at this
      cases this.2
  refine ⟨⟨h1.1, h1.2.1, fun q hq => ?_⟩, ?_, fun v hv => ?_⟩
  · obtain ⟨i, v, e1, e2, e3⟩ := (zas_mem _ 0 q).mp hq
    have := zargs_mem (f := f) as 0 hs i v (key i v e2)
    rw [← e1, ← e3] at this
    exact h1.2.2 q this
  · simp [zent]; omega
  · obtain ⟨i, hi⟩ := List.getElem?_of_mem hv
    exact hk v (List.mem_of_getElem? (key i v hi))
theorem zrest {f : Int → Nat} : ∀ (r : List zV), ((r.map (zcv f)).map fun v => v.category).sum ≤ 2 * r.length
  | [] => by simp
  | v :: t => by
    have ih := zrest (f := f) t
    have hc := lv_cat (zcv f v)
    simp only [List.map_cons, List.sum_cons, List.length_cons]
    omega
section ZCALL
variable {p : Program} {l : Launch} {e : Env} {R : Room} {s : State} {m : MethodId} {args : Array Value} {below : List Frame} {meth : Method} {c : Code} {H : Heap} {locs : List Loc} {cells slots : Nat} {Q : State → Prop}
variable {dC : Nat → ClassId} {dI : Nat → Nat → Nat} {cA : Nat → ClassId} {base b t0 L : Nat} {xs : Nat → Int32}
/-- what a method of ours ends with -/
def zQ (dC : Nat → ClassId) (dI : Nat → Nat → Nat) (cA : Nat → ClassId) (base b t0 L : Nat) (xs : Nat → Int32) (r : Option zV) (M' : zM) : Array Value → State → Outcome → State → Prop := fun _ st o t => o = .returned (r.map (zcv (zad base b t0))) ∧ zWd dC dI cA base b t0 L xs M' t.heap ∧ (∀ v ∈ r.toList, zok v) ∧ va_F (zA base) st t
def zP (dC : Nat → ClassId) (dI : Nat → Nat → Nat) (cA : Nat → ClassId) (base b t0 L : Nat) (xs : Nat → Int32) (as : List zV) (M : zM) : Array Value → State → Prop := va_Pc (as.map (zcv (zad base b t0))) (fun U => zEv dC dI cA base b t0 L xs U U.heap ∧ zWd dC dI cA base b t0 L xs M U.heap ∧ base ≤ U.heap.size)
abbrev zMet (l : Launch) (dC : Nat → ClassId) (dI : Nat → Nat → Nat) (cA : Nat → ClassId) (base b t0 L : Nat) (xs : Nat → Int32) (d j : Nat) (as : List zV) (M : zM) (r : Option zV) (M' : zM) : Prop := Met l (zy j) (zwsj j) (zrm d (M'.1 - M.1) (M'.2.1 - M.2.1)) (zP dC dI cA base b t0 L xs as M) (zQ dC dI cA base b t0 L xs r M') (M'.1 - M.1) (M'.2.1 - M.2.1) (zA base)
theorem zP_blind {as : List zV} {M : zM} : FrameBlind (zP dC dI cA base b t0 L xs as M) := by
  intro a U g mk h
  obtain ⟨h1, h2, h3, h4⟩ := h
  exact ⟨h1, zEv.same (u := U) (U := U.calling g mk a) rfl h2, h3, h4⟩
theorem zP_now {as : List zV} {M : zM} (hE : zEv dC dI cA base b t0 L xs s s.heap) (hbs : base ≤ s.heap.size) (hW : zWd dC dI cA base b t0 L xs M H) (hV : va_S (zA base) s.heap H locs) : ∀ U : State, U.heap = H → s.WarmedH U.vm → zP dC dI cA base b t0 L xs as M (as.map (zcv (zad base b t0))).toArray U := by
  intro U hU hw
  refine ⟨rfl, ?_, ?_, ?_⟩
  · rw [hU]; exact zEv.go hw hbs hV hE
  · rw [hU]; exact hW
  · rw [hU]; exact Nat.le_trans hbs hV.1
theorem z_call {pc : Nat} {ls : Array Slot} {rest st0 : List Value} {a : Array Value} {mc ms : Nat} {r : Option zV} {M' : zM} (hr : va_Run p l e R s m args below meth c H locs cells slots mc ms (F0 m pc ls st0) rest (zQ dC dI cA base b t0 L xs r M' a) (zA base)) (hS : va_S (zA base) s.heap H locs)
    (kk : ∀ (H1 : Heap) (locs1 : List Loc), zWd dC dI cA base b t0 L xs M' H1 → (∀ v ∈ r.toList, zok v) → va_S (zA base) s.heap H1 locs1 → W p l e R s m args below meth c H1 locs1 (cells + mc) (slots + ms) Q (F0 m (pc + 3) ls ((r.map (zcv (zad base b t0))).toList ++ rest))) : W p l e R s m args below meth c H locs cells slots Q (F0 m pc ls st0) := by
  intro T hT X
  obtain ⟨v, st₀, t, T', Lc, h0, X', hL, e1, e2, ⟨hv, hw, hok, hz, hk⟩, st⟩ := hr T hT X
  cases hv
  rw [h0] at hz hk
  obtain ⟨t2, a1, b1⟩ := kk T'.heap (locs ++ Lc) (by rw [e1]; exact hw) hok ⟨Nat.le_trans hS.1 (by rw [e1]; exact hz), fun q h1 h2 => by rw [e1, hk q (Nat.lt_of_lt_of_le h1 hS.1) h2]; exact hS.2.1 q h1 h2, fun q hq => by
      rcases List.mem_append.mp hq with h | h
      · exact hS.2.2 q h
      · exact hL q h⟩ T' rfl X'
  exact ⟨t2, st t2 a1, b1⟩
set_option maxHeartbeats 1000000 in
/-- a call's run -/
theorem z_run {j pc d' : Nat} {i : Instr} {len : Nat} {st : List zV} {M M1 : zM} {x : Nat × List zV × List zV} {v : Option zV} {A : Array Slot} {ls : zL} (hx : p.tables.exec = Jvm.exec) (hb : c.code = zc j) (hml : c.maxLocals = zn j) (hown : s.vm.findClass (zRn (zo j)) = some m.cls) (hts : ∀ w ∈ zW, w.before args s = true) (hE : zEv dC dI cA base b t0 L xs s s.heap) (hbs : base ≤ s.heap.size)
    (hW : zWd dC dI cA base b t0 L xs M H) (hV : va_S (zA base) s.heap H locs) (hL : zLR (zad base b t0) (zn j) ls A) (hd : decode (zc j) pc = .ok (i, len)) (hl : zlk i len = true) (h : zca j i st M = some x)
    (hM : x.1 < 132 → zMet l dC dI cA base b t0 L xs d' x.1 x.2.1 M v M1) (hfr : d' + 1 ≤ R.frames) (hlo : 43 * (d' + 1) ≤ R.locals) (hc1 : cells + (M1.1 - M.1) ≤ R.cells) (hc2 : slots + (M1.2.1 - M.2.1) ≤ R.slots)
    (kk : ∀ (H1 : Heap) (locs1 : List Loc), zWd dC dI cA base b t0 L xs M1 H1 → (∀ w ∈ v.toList, zok w) → va_S (zA base) s.heap H1 locs1 → W p l e R s m args below meth c H1 locs1 (cells + (M1.1 - M.1)) (slots + (M1.2.1 - M.2.1)) Q (F0 m (pc + 3) A ((v.map (zcv (zad base b t0))).toList ++ x.2.2.map (zcv (zad base b t0))))) : W p l e R s m args below meth c H locs cells slots Q (F0 m pc A (st.map (zcv (zad base b t0)))) := by
  have hfix : CallFix p m c (zc j) (zn j) s args zW (zRn (zo j)) := ⟨hx, hb, hml, hown, hts⟩
  unfold zca at h
  split at h
  · next n =>
    have hn := zlen_of hl (by intros; simp); simp only [zlen] at hn; subst hn
    split at h
    · next q hz =>
      split at h
      · next pp r hst =>
        split at h
        · next hk =>
          cases h
          obtain ⟨hk1, hk2, hk3, hk4⟩ := hk
          obtain ⟨iw, hi1, hi2⟩ := zml_in hz
          simp only [zmlc, Bool.and_eq_true, decide_eq_true_eq] at hi2
          obtain ⟨⟨⟨⟨w1, w2⟩, w3⟩, w4⟩, w5⟩ := hi2
          obtain ⟨m1, m2, m3, m4, m5, m6, m7⟩ := zmt_in w4
          have hr := hW.lt (q := pp) (by rw [hk1]; exact m7) (by intro ln; rw [hk1]; simp)
          have hat := zws_at (f := zad base b t0) (base := base) (cA := cA) hr.1 hr.2
          rw [zce_obj hk1, ← zad_of (b := b) (t0 := t0) hr.1] at hat
          have hstk : st.map (zcv (zad base b t0)) = (((st.take (zp q)).reverse).map (zcv (zad base b t0))).reverse ++ .ref (zad base b t0 pp) :: r.map (zcv (zad base b t0)) := by
            rw [← List.map_reverse, List.reverse_reverse]
            conv => lhs; rw [← List.take_append_drop (zp q) st, hst, List.map_append]
            rfl
          refine z_call (va_runV (b := zad base b t0 pp) (As := ((st.take (zp q)).reverse).map (zcv (zad base b t0))) (rest := r.map (zcv (zad base b t0))) (n := zp q) (C := zRn (zo q)) hfix (hM w4) (cwV (zp q) hts (zW_sub ?_) rfl rfl rfl ⟨m3, m4⟩ ⟨hfr, ?_⟩) ⟨zP_blind, va_recv hE.1 hW.1 (zCl_at m7) hat, fun U hU hw => zP_now (as := .inr (.inl (some pp)) :: (st.take (zp q)).reverse) hE hbs hW hV U hU hw⟩ rfl ?_ hL.1.1 hstk (lv_room ?_) hd ⟨hc1, hc2⟩) hV kk
          · intro w hw
            simp only [wsV, List.cons_append, List.nil_append, List.mem_cons] at hw
            rcases hw with rfl | rfl | rfl | rfl | hw
            · exact zgw_in w1
            · exact zgw_in w2
            · exact zgw_in w3
            · exact m2
            · exact zwsj_in w4 w (List.mem_cons.mpr hw)
          · show 8 + (zn q + 11) + 43 * d' ≤ R.locals; omega
          · rw [List.length_map, List.length_reverse, List.length_take]; omega
          · have := zrest (f := zad base b t0) r; omega
        · cases h
      · cases h
    · cases h
  · next n =>
    have hn := zlen_of hl (by intros; simp); simp only [zlen] at hn; subst hn
    split at h
    · next k q hz =>
      split at h
      · next hk =>
        cases h
        obtain ⟨hk1, hk2, hk3, hk4⟩ := hk
        obtain ⟨iw, hi1, hi2⟩ := zml_in hz
        have hstk : st.map (zcv (zad base b t0)) = (((st.take (zp q)).reverse).map (zcv (zad base b t0))).reverse ++ (st.drop (zp q)).map (zcv (zad base b t0)) := by
          rw [← List.map_reverse, List.reverse_reverse, ← List.map_append, List.take_append_drop]
        have hsum : (((st.drop (zp q)).map (zcv (zad base b t0))).map fun v => v.category).sum ≤ 8 := by
          have := zrest (f := zad base b t0) (st.drop (zp q)); omega
        have hln : (((st.take (zp q)).reverse).map (zcv (zad base b t0))).length = zp q := by
          rw [List.length_map, List.length_reverse, List.length_take]; omega
        rcases hk1 with rfl | rfl
        · simp only [zmlc, Bool.and_eq_true, decide_eq_true_eq] at hi2
          obtain ⟨⟨⟨⟨w1, w2⟩, w3⟩, w4⟩, w5⟩ := hi2
          obtain ⟨m1, m2, m3, m4, m5, m6, m7⟩ := zmt_in w4
          refine z_call (va_runS (As := ((st.take (zp q)).reverse).map (zcv (zad base b t0))) (rest := (st.drop (zp q)).map (zcv (zad base b t0))) (n := zp q) hfix (hM w4) (cwS (zp q) hts (zW_sub ?_) rfl rfl rfl ⟨by rw [m3, w3], m4⟩ ⟨hfr, ?_⟩) ⟨zP_blind, fun U hU hw => zP_now (as := (st.take (zp q)).reverse) hE hbs hW hV U hU hw⟩ rfl hln hL.1.1 hstk (lv_room hsum) hd ⟨hc1, hc2⟩) hV kk
          · intro w hw
            simp only [wsS, List.cons_append, List.nil_append, List.mem_cons] at hw
            rcases hw with rfl | rfl | rfl | hw
            · exact zgw_in w1
            · exact zgw_in w2
            · rw [w3]; exact m2
            · exact zwsj_in w4 w (List.mem_cons.mpr hw)
          · show 8 + (zn q + 11) + 43 * d' ≤ R.locals; omega
        · simp only [zmlc, Bool.and_eq_true, decide_eq_true_eq] at hi2
          obtain ⟨⟨w2, w4⟩, w5⟩ := hi2
          obtain ⟨m1, m2, m3, m4, m5, m6, m7⟩ := zmt_in w4
          have hl0 : va_Nw (.methodLinkNest (zRn (zo j)) n (zy q) "WalkHouses") s := hE.2.1 (zo j, n, 3, q, iw) hi1 (Or.inl rfl)
          exact z_call (va_runSN (host := "WalkHouses") (As := ((st.take (zp q)).reverse).map (zcv (zad base b t0))) (rest := (st.drop (zp q)).map (zcv (zad base b t0))) (n := zp q) hfix (hM w4) ⟨va_cnB (ws' := zW) (zp q) hts (zW_sub (zwsj_in w4)) rfl rfl rfl hl0 (by rw [m3]; exact hts _ m2) m4 ⟨hfr, (by show 8 + (zn q + 11) + 43 * d' ≤ R.locals; omega)⟩, hts _ (zgw_in w2), trivial⟩ ⟨zP_blind, fun U hU hw => zP_now (as := (st.take (zp q)).reverse) hE hbs hW hV U hU hw⟩ rfl hln hL.1.1 hstk (lv_room hsum) hd ⟨hc1, hc2⟩) hV kk
      · cases h
    · cases h
  · next n =>
    have hn := zlen_of hl (by intros; simp); simp only [zlen] at hn; subst hn
    split at h
    · next k q hz =>
      split at h
      · next hk1 =>
        split at h
        · next pp r hst =>
          split at h
          · next hk =>
            cases h
            obtain ⟨hk2, hk3, hk4⟩ := hk
            obtain ⟨iw, hi1, hi2⟩ := zml_in hz
            have hstk : st.map (zcv (zad base b t0)) = (((st.take (zp q)).reverse).map (zcv (zad base b t0))).reverse ++ .ref (zad base b t0 pp) :: r.map (zcv (zad base b t0)) := by
              rw [← List.map_reverse, List.reverse_reverse]
              conv => lhs; rw [← List.take_append_drop (zp q) st, hst, List.map_append]
              rfl
            have hsum : ((r.map (zcv (zad base b t0))).map fun v => v.category).sum ≤ 8 := by
              have := zrest (f := zad base b t0) r; omega
            have hln : (((st.take (zp q)).reverse).map (zcv (zad base b t0))).length = zp q := by
              rw [List.length_map, List.length_reverse, List.length_take]; omega
            rcases hk1 with rfl | rfl
            · simp only [zmlc, Bool.and_eq_true, decide_eq_true_eq] at hi2
              obtain ⟨⟨⟨⟨⟨w1, w2⟩, w3⟩, w6⟩, w4⟩, w5⟩ := hi2
              obtain ⟨m1, m2, m3, m4, m5, m6, m7⟩ := zmt_in w4
              exact z_call (va_runI (b := zad base b t0 pp) (As := ((st.take (zp q)).reverse).map (zcv (zad base b t0))) (rest := r.map (zcv (zad base b t0))) (n := zp q) hfix (hM w4) (cwI (ws' := zW) (zp q) hts (zW_sub (zwsj_in w4)) (by rw [← w6]) rfl rfl (by rw [m3]; exact hts _ m2) (hts _ (zgw_in w1)) (hts _ (zgw_in w2)) w3 m4 ⟨hfr, (by show 8 + (zn q + 11) + 43 * d' ≤ R.locals; omega)⟩) ⟨zP_blind, fun U hU hw => zP_now (as := .inr (.inl (some pp)) :: (st.take (zp q)).reverse) hE hbs hW hV U hU hw⟩ rfl hln hL.1.1 hstk (lv_room hsum) hd ⟨hc1, hc2⟩) hV kk
            · simp only [zmlc, Bool.and_eq_true, decide_eq_true_eq] at hi2
              obtain ⟨⟨⟨⟨w2, w3⟩, w6⟩, w4⟩, w5⟩ := hi2
              obtain ⟨m1, m2, m3, m4, m5, m6, m7⟩ := zmt_in w4
              have hl0 : va_Nw (.methodLinkNest (zRn (zo j)) n (zy q) "WalkHouses") s := hE.2.1 (zo j, n, 4, q, iw) hi1 (Or.inr rfl)
              exact z_call (va_runIN (host := "WalkHouses") (b := zad base b t0 pp) (As := ((st.take (zp q)).reverse).map (zcv (zad base b t0))) (rest := r.map (zcv (zad base b t0))) (n := zp q) hfix (hM w4) ⟨va_cnB (ws' := zW) (zp q) hts (zW_sub (zwsj_in w4)) (by rw [← w6]) rfl rfl hl0 (by rw [m3]; exact hts _ m2) m4 ⟨hfr, (by show 8 + (zn q + 11) + 43 * d' ≤ R.locals; omega)⟩, w3, hts _ (zgw_in w2)⟩ ⟨zP_blind, fun U hU hw => zP_now (as := .inr (.inl (some pp)) :: (st.take (zp q)).reverse) hE hbs hW hV U hU hw⟩ rfl hln hL.1.1 hstk (lv_room hsum) hd ⟨hc1, hc2⟩) hV kk
          · cases h
        · cases h
      · cases h
    · cases h
  · cases h
end ZCALL
end
section
/-! the whole: a run of the small machine is a run of the JVM -/
theorem zwo1 : Cond.instanceMethod objectInit ∈ zW := List.mem_filter.mpr ⟨List.mem_of_getElem? (i := 56) rfl, rfl⟩
theorem zwo2 : Cond.code objectInit ⟨#[0xb1]⟩ 1 none ∈ zW := List.mem_filter.mpr ⟨List.mem_of_getElem? (i := 57) rfl, rfl⟩
theorem zwx1 : Cond.static Lib.Math.max.name ∈ zW := List.mem_filter.mpr ⟨List.mem_of_getElem? (i := 338) rfl, rfl⟩
theorem zwx2 : Cond.code Lib.Math.max.name Lib.Math.max.code 2 (some .int) ∈ zW := List.mem_filter.mpr ⟨List.mem_of_getElem? (i := 339) rfl, rfl⟩
theorem zwn1 : Cond.static Lib.Math.min.name ∈ zW := List.mem_filter.mpr ⟨List.mem_of_getElem? (i := 398) rfl, rfl⟩
theorem zwn2 : Cond.code Lib.Math.min.name Lib.Math.min.code 2 (some .int) ∈ zW := List.mem_filter.mpr ⟨List.mem_of_getElem? (i := 399) rfl, rfl⟩
theorem zwmi : Cond.initialized "java/lang/Math" ∈ zW := List.mem_filter.mpr ⟨List.mem_of_getElem? (i := 49) rfl, rfl⟩
theorem zn4_M {d j : Nat} {i : Instr} {pc : Nat} {ls : zL} {st : List zV} {M : zM} {x : zX} (h : zn4 d j i pc ls st M = some x) : x.2.2.2 = M ∧ x.2.1 = ls := by
  unfold zn4 at h
  repeat' split at h
  all_goals first | (cases h; exact ⟨rfl, rfl⟩) | cases h
theorem zn3_M {j : Nat} {i : Instr} {pc : Nat} {ls : zL} {st : List zV} {M : zM} {x : zX} (h : zn3 j i pc ls st M = some x) : M.1 ≤ x.2.2.2.1 ∧ M.2.1 ≤ x.2.2.2.2.1 := by
  unfold zn3 at h
  repeat' split at h
  all_goals first | (cases h; exact ⟨Nat.le_refl _, Nat.le_refl _⟩) | (cases h; exact ⟨Nat.le_succ _, Nat.le_add_right _ _⟩) | cases h
theorem znx_M {d j : Nat} {i : Instr} {pc : Nat} {ls : zL} {st : List zV} {M : zM} {x : zX} (h : znx d j i pc ls st M = some x) : M.1 ≤ x.2.2.2.1 ∧ M.2.1 ≤ x.2.2.2.2.1 := by
  unfold znx at h
  split at h
  · next y e => cases h; rw [zn1_M e]; exact ⟨Nat.le_refl _, Nat.le_refl _⟩
  · split at h
    · next y e => cases h; rw [zn2_M e]; exact ⟨Nat.le_refl _, Nat.le_refl _⟩
    · split at h
      · next y e => cases h; exact zn3_M e
      · rw [(zn4_M h).1]; exact ⟨Nat.le_refl _, Nat.le_refl _⟩
/-- a run, taken apart -/
theorem zrun_s {n d j pc : Nat} {ls : zL} {st : List zV} {M : zM} {y : Option zV × zM} (h : zrun (n + 1) d j pc ls st M = some y) : ∃ i len, zft j pc = some (i, len) ∧ zlk i len = true ∧
    ((∃ r, zre j i st = some r ∧ y = (r, M)) ∨ (∃ x d' z, zca j i st M = some x ∧ d = d' + 1 ∧ zrun n d' x.1 0 (zent x.1 x.2.1) [] M = some z ∧ zrun n d j (pc + 3) ls (z.1.toList ++ x.2.2) z.2 = some y) ∨ ∃ x, znx d j i pc ls st M = some x ∧ zrun n d j x.1 x.2.1 x.2.2.1 x.2.2.2 = some y) := by
  unfold zrun at h
  split at h
  · cases h
  · next i len hf =>
    split at h
    · next hl =>
      refine ⟨i, len, hf, hl, ?_⟩
      split at h
      · next r hr => cases h; exact Or.inl ⟨r, hr, rfl⟩
      · split at h
        · next x hx =>
          cases d with
          | zero => simp at h
          | succ d' =>
            simp only at h
            split at h
            · cases h
            · next z hz => exact Or.inr (Or.inl ⟨x, d', z, hx, rfl, hz, h⟩)
        · split at h
          · next x hx => exact Or.inr (Or.inr ⟨x, hx, h⟩)
          · cases h
    · cases h
theorem zrun_M : ∀ {n d j pc : Nat} {ls : zL} {st : List zV} {M : zM} {y : Option zV × zM}, zrun n d j pc ls st M = some y → M.1 ≤ y.2.1 ∧ M.2.1 ≤ y.2.2.1 := by
  intro n
  induction n with
  | zero => intro d j pc ls st M y h; simp [zrun] at h
  | succ n ih =>
    intro d j pc ls st M y h
    obtain ⟨i, len, -, -, h | ⟨x, d', z, -, -, h1, h2⟩ | ⟨x, h1, h2⟩⟩ := zrun_s h
    · obtain ⟨r, -, rfl⟩ := h; exact ⟨Nat.le_refl _, Nat.le_refl _⟩
    · have a1 := ih h1; have a2 := ih h2; exact ⟨Nat.le_trans a1.1 a2.1, Nat.le_trans a1.2 a2.2⟩
    · have a1 := znx_M h1; have a2 := ih h2; exact ⟨Nat.le_trans a1.1 a2.1, Nat.le_trans a1.2 a2.2⟩
section SIM4
variable {p : Program} {l : Launch} {e : Env} {R : Room} {s : State} {m : MethodId} {args : Array Value} {below : List Frame} {meth : Method} {c : Code} {H : Heap} {locs : List Loc} {cells slots : Nat} {Q : State → Prop}
theorem z_n4 {f : Int → Nat} {d j : Nat} {i : Instr} {len pc : Nat} {ls : zL} {st : List zV} {M : zM} {x : zX} {A : Array Slot} (hx : p.tables.exec = Jvm.exec) (hb : c.code = zc j) (hml : c.maxLocals = zn j) (hown : s.vm.findClass (zRn (zo j)) = some m.cls) (hts : ∀ w ∈ zW, w.before args s = true)
    (hL : zLR f (zn j) ls A) (hS : ∀ v ∈ st, zok v) (hd : decode (zc j) pc = .ok (i, len)) (hl : zlk i len = true) (h : zn4 d j i pc ls st M = some x) (hfr : d ≤ R.frames) (hlo : 43 * d ≤ R.locals) (hc1 : cells ≤ R.cells) (hc2 : slots ≤ R.slots)
    (kk : (∀ v ∈ x.2.2.1, zok v) → W p l e R s m args below meth c H locs cells slots Q (F0 m x.1 A (x.2.2.1.map (zcv f)))) : W p l e R s m args below meth c H locs cells slots Q (F0 m pc A (st.map (zcv f))) := by
  unfold zn4 at h
  split at h
  · next n =>
    have hn := zlen_of hl (by intros; simp); simp only [zlen] at hn; subst hn
    split at h
    · next q r k hz =>
      split at h
      · next hk =>
        cases h
        obtain ⟨iw, hi1, hi2⟩ := zml_in hz
        have hw := zgw_in (show zgw iw (.methodLink (zRn (zo j)) n objectInit) = true from hi2)
        have hr := zrest (f := f) r
        refine W.objInit (a := f q) (rest := r.map (zcv f)) hx hb hown (hts _ hw) (hts _ zwo1) (hts _ zwo2) rfl (by show A.size = _; rw [hml]; exact hL.1.1) rfl hd (by omega) (by show 2 * 0 + _ + 12 ≤ _; omega) ?_
        exact W.eq (g2 := F0 m (pc + 3) A (r.map (zcv f))) rfl (kk (List.forall_mem_cons.mp hS).2)
      · cases h
    · cases h
  · next n =>
    have hn := zlen_of hl (by intros; simp); simp only [zlen] at hn; subst hn
    split at h
    · next y0 x0 r k hz =>
      split at h
      · next hk =>
        cases h
        obtain ⟨iw, hi1, hi2⟩ := zml_in hz
        have hw := zgw_in (show zgw iw (.methodLink (zRn (zo j)) n Lib.Math.max.name) = true from hi2)
        have hr := zrest (f := f) r
        have hv := List.forall_mem_cons.mp hS
        have hu := List.forall_mem_cons.mp hv.2
        refine va_mmax hx hb (by rw [hml]; exact hL.1.1.symm) hown (hts _ hw) (hts _ zwx1) (hts _ zwmi) (hts _ zwx2) (by omega) (by omega) hc1 hc2 hd ?_
        have := kk (List.forall_mem_cons.mpr ⟨by split; exact hv.1; exact hu.1, hu.2⟩)
        have ei : (if Int32.ofInt x0 < Int32.ofInt y0 then Int32.ofInt y0 else Int32.ofInt x0) = Int32.ofInt (if x0 < y0 then y0 else x0) := by
          by_cases g : x0 < y0
          · rw [if_pos g, if_pos ((zlt hu.1 hv.1).mpr g)]
          · rw [if_neg g, if_neg (fun g2 => g ((zlt hu.1 hv.1).mp g2))]
        rw [ei]
        exact this
      · cases h
    · next y0 x0 r k hz =>
      split at h
      · next hk =>
        cases h
        obtain ⟨iw, hi1, hi2⟩ := zml_in hz
        have hw := zgw_in (show zgw iw (.methodLink (zRn (zo j)) n Lib.Math.min.name) = true from hi2)
        have hr := zrest (f := f) r
        have hv := List.forall_mem_cons.mp hS
        have hu := List.forall_mem_cons.mp hv.2
        refine va_mmin hx hb (by rw [hml]; exact hL.1.1.symm) hown (hts _ hw) (hts _ zwn1) (hts _ zwmi) (hts _ zwn2) (by omega) (by omega) hc1 hc2 hd ?_
        have := kk (List.forall_mem_cons.mpr ⟨by split; exact hv.1; exact hu.1, hu.2⟩)
        have ei : (if Int32.ofInt y0 < Int32.ofInt x0 then Int32.ofInt y0 else Int32.ofInt x0) = Int32.ofInt (if y0 < x0 then y0 else x0) := by
          by_cases g : y0 < x0
          · rw [if_pos g, if_pos ((zlt hv.1 hu.1).mpr g)]
          · rw [if_neg g, if_neg (fun g2 => g ((zlt hv.1 hu.1).mp g2))]
        first
          | (rw [ei]; exact this)
          | (refine W.eq ?_ this; congr 1; simp only [List.map_cons, zcv]; congr 2; rw [← ei]; split <;> split <;> first | rfl | (rename_i g1 g2; rcases Int32.lt_trichotomy (Int32.ofInt x0) (Int32.ofInt y0) with t | t | t <;> simp_all))
      · cases h
    · cases h
  · cases h
end SIM4
/-- the frame of a run: the machine, the code, the tables -/
def zCx (dC : Nat → ClassId) (dI : Nat → Nat → Nat) (cA : Nat → ClassId) (base b t0 L : Nat) (xs : Nat → Int32) (j : Nat) (p : Program) (s : State) (m : MethodId) (args : Array Value) (meth : Method) (c : Code) : Prop :=
  p.tables.exec = Jvm.exec ∧ c.code = zc j ∧ c.maxLocals = zn j ∧ s.vm.findClass (zRn (zo j)) = some m.cls ∧ (∀ w ∈ zW, w.before args s = true) ∧ zEv dC dI cA base b t0 L xs s s.heap ∧ base ≤ s.heap.size ∧ ((zy j).name = "<init>" → meth.name = "<init>")
theorem zca_ok {j : Nat} {i : Instr} {st : List zV} {M : zM} {x : Nat × List zV × List zV} (hS : ∀ v ∈ st, zok v) (h : zca j i st M = some x) : (x.1 < 132 ∧ x.2.1.length ≤ zn x.1) ∧ zsm x.2.1 = true ∧ (∀ v ∈ x.2.1, zok v) ∧ ∀ v ∈ x.2.2, zok v := by
  have hsm : ∀ (t : List zV), zsm t = true → zsm t.reverse = true := by
    intro t ht
    unfold zsm at ht ⊢
    rw [List.all_reverse]
    exact ht
  have ht : ∀ k, ∀ v ∈ (st.take k).reverse, zok v := fun k v hv => hS v (List.mem_of_mem_take (List.mem_reverse.mp hv))
  have hdr : ∀ k, ∀ v ∈ st.drop k, zok v := fun k v hv => hS v (List.mem_of_mem_drop hv)
  unfold zca at h
  split at h
  · split at h
    · next q hz =>
      split at h
      · next pp r hst =>
        split at h
        · next hk =>
          cases h
          obtain ⟨iw, hi1, hi2⟩ := zml_in hz
          simp only [zmlc, Bool.and_eq_true, decide_eq_true_eq] at hi2
          refine ⟨⟨hi2.1.2, ?_⟩, ?_, List.forall_mem_cons.mpr ⟨trivial, ht _⟩, fun v hv => hdr (zp q) v (by rw [hst]; exact List.mem_cons_of_mem _ hv)⟩
          · have := hi2.2; simp only [List.length_cons, List.length_reverse, List.length_take]; omega
          · show (true && zsm (st.take (zp q)).reverse) = true; rw [hsm _ hk.2.2.2]; rfl
        · cases h
      · cases h
    · cases h
  · split at h
    · next k q hz =>
      split at h
      · next hk =>
        cases h
        obtain ⟨iw, hi1, hi2⟩ := zml_in hz
        have hq : q < 132 ∧ zp q ≤ zn q := by
          rcases hk.1 with rfl | rfl
          · simp only [zmlc, Bool.and_eq_true, decide_eq_true_eq] at hi2; exact ⟨hi2.1.2, hi2.2⟩
          · simp only [zmlc, Bool.and_eq_true, decide_eq_true_eq] at hi2; exact ⟨hi2.1.2, hi2.2⟩
        refine ⟨⟨hq.1, ?_⟩, hsm _ hk.2.2.2, ht _, hdr _⟩
        simp only [List.length_reverse, List.length_take]; omega
      · cases h
    · cases h
  · split at h
    · next k q hz =>
      split at h
      · next hk1 =>
        split at h
        · next pp r hst =>
          split at h
          · next hk =>
            cases h
            obtain ⟨iw, hi1, hi2⟩ := zml_in hz
            have hq : q < 132 ∧ zp q + 1 ≤ zn q := by
              rcases hk1 with rfl | rfl
              · simp only [zmlc, Bool.and_eq_true, decide_eq_true_eq] at hi2; exact ⟨hi2.1.2, hi2.2⟩
              · simp only [zmlc, Bool.and_eq_true, decide_eq_true_eq] at hi2; exact ⟨hi2.1.2, hi2.2⟩
            refine ⟨⟨hq.1, ?_⟩, ?_, List.forall_mem_cons.mpr ⟨trivial, ht _⟩, fun v hv => hdr (zp q) v (by rw [hst]; exact List.mem_cons_of_mem _ hv)⟩
            · simp only [List.length_cons, List.length_reverse, List.length_take]; omega
            · show (true && zsm (st.take (zp q)).reverse) = true; rw [hsm _ hk.2.2]; rfl
          · cases h
        · cases h
      · cases h
    · cases h
  · cases h
theorem zre_st {j : Nat} {i : Instr} {st : List zV} {r : Option zV} (h : zre j i st = some r) : st = r.toList := by
  unfold zre at h
  repeat' split at h
  all_goals first | (cases h; rfl) | cases h
set_option maxHeartbeats 1000000 in
theorem z_sim (l : Launch) {dC : Nat → ClassId} {dI : Nat → Nat → Nat} {cA : Nat → ClassId} {base b t0 L : Nat} {xs : Nat → Int32} : ∀ (n : Nat) {d j pc : Nat} {ls : zL} {st : List zV} {M : zM} {y : Option zV × zM}, zrun n d j pc ls st M = some y →
    ∀ {p : Program} {e : Env} {R : Room} {s : State} {m : MethodId} {args : Array Value} {below : List Frame} {meth : Method} {c : Code} {H : Heap} {locs : List Loc} {cells slots : Nat} {Q : State → Prop} {A : Array Slot}, zCx dC dI cA base b t0 L xs j p s m args meth c → zWd dC dI cA base b t0 L xs M H → va_S (zA base) s.heap H locs → zLR (zad base b t0) (zn j) ls A → (∀ v ∈ st, zok v) → d ≤ R.frames → 43 * d ≤ R.locals → cells + y.2.1 ≤ R.cells + M.1 → slots + y.2.2.1 ≤ R.slots + M.2.1 →
    (∀ (H' : Heap) (locs' : List Loc) (A' : Array Slot) (pc' cells' slots' : Nat) (i : Instr) (len : Nat), decode (zc j) pc' = .ok (i, len) → zlk i len = true → zre j i y.1.toList = some y.1 → (∀ v ∈ y.1.toList, zok v) → zWd dC dI cA base b t0 L xs y.2 H' → va_S (zA base) s.heap H' locs' → cells' + M.1 = cells + y.2.1 → slots' + M.2.1 = slots + y.2.2.1 → W p l e R s m args below meth c H' locs' cells' slots' Q (F0 m pc' A' (y.1.toList.map (zcv (zad base b t0))))) →
    W p l e R s m args below meth c H locs cells slots Q (F0 m pc A (st.map (zcv (zad base b t0)))) := by
  intro n
  induction n with
  | zero => intro d j pc ls st M y h; simp [zrun] at h
  | succ n ih =>
    intro d j pc ls st M y h p e R s m args below meth c H locs cells slots Q A hC hW hV hL hS hfr hlo hc1 hc2 hend
    obtain ⟨hx, hb, hml, hown, hts, hE, hbs, hin⟩ := id hC
    obtain ⟨i, len, hf, hlk, h⟩ := zrun_s h
    have hd := zft_ok hf
    rcases h with ⟨r, hr, rfl⟩ | ⟨x, d', z, hx1, rfl, h1, h2⟩ | ⟨x, h1, h2⟩
    · have hst := zre_st hr
      subst hst
      exact hend H locs A pc cells slots i len hd hlk hr hS hW hV rfl rfl
    · obtain ⟨⟨k1, k2⟩, k3, k4, k5⟩ := zca_ok hS hx1
      have m1 := zrun_M h1
      have m2 := zrun_M h2
      have hMet : x.1 < 132 → zMet l dC dI cA base b t0 L xs d' x.1 x.2.1 M z.1 z.2 := by
        intro _
        obtain ⟨q1, q2, q3, q4, q5, q6, q7⟩ := zmt_in k1
        refine Met.ofW (cc := zc x.1) (maxL := zn x.1) (ret := zr x.1) q6 rfl ?_
        intro p e s m args below meth c s₁ B hml' hv
        obtain ⟨rfl, hE', hW', hbs'⟩ := hv
        have hts' := atoms_spec (ws := zwsj x.1) B.pre
        have hown' : s.vm.findClass (zRn (zo x.1)) = some m.cls := by rw [← q3]; exact findClass_of_methodNamed B.named
        have hlocks := B.notSynchronized
        have hret := B.returns
        rw [lg_entry_eq]
        refine ih h1 (s := s) (H := s.heap) (locs := []) (cells := 0) (slots := 0) ⟨B.exec, B.bytes, hml', hown', fun w hw => hts' w (List.mem_cons_of_mem _ hw), hE', hbs', fun hn => by rw [(name_of_methodNamed B.named B.method).1]; exact hn⟩ hW' va_S.rf (zent_LR k3 k2 k4) (fun v hv => by cases hv) (Nat.le_refl d') (Nat.le_refl _) (by show 0 + z.2.1 ≤ (z.2.1 - M.1) + M.1; omega) (by show 0 + z.2.2.1 ≤ (z.2.2.1 - M.2.1) + M.2.1; omega) ?_
        intro H' locs' A' pc' cells' slots' i' len' hd' hl' hz' hok2 hW2 hV2 e1 e2
        obtain rfl : cells' = z.2.1 - M.1 := by omega
        obtain rfl : slots' = z.2.2.1 - M.2.1 := by omega
        obtain ⟨zr0, zM0⟩ := z
        have hq : ∀ t : State, t.heap = H' → zQ dC dI cA base b t0 L xs zr0 zM0 (x.2.1.map (zcv (zad base b t0))).toArray s (.returned (zr0.map (zcv (zad base b t0)))) t := fun t ht => ⟨rfl, by rw [ht]; exact hW2, hok2, hV2.F ht⟩
        unfold zre at hz'
        split at hz'
        · next v hst =>
          split at hz'
          · next hk =>
            have hn' := zlen_of hl' (by intros; simp); simp only [zlen] at hn'; subst hn'
            cases hz'
            rcases hk with hk | ⟨hk, hv01⟩
            · rw [hk] at hret
              exact W.zret B.exec B.bytes hret rfl (fun t ht _ => hq t ht) hV2.2.2 hd'
            · rw [hk] at hret
              exact W.zret B.exec B.bytes hret (by rcases hv01 with rfl | rfl <;> rfl) (fun t ht _ => hq t ht) hV2.2.2 hd'
          · cases hz'
        · next v hst =>
          split at hz'
          · next hk =>
            have hn' := zlen_of hl' (by intros; simp); simp only [zlen] at hn'; subst hn'
            cases hz'
            rw [hk] at hret
            exact W.lret B.exec B.bytes hret (fun t ht _ => hq t ht) hV2.2.2 hd'
          · cases hz'
        · next hst =>
          split at hz'
          · next hk =>
            have hn' := zlen_of hl' (by intros; simp); simp only [zlen] at hn'; subst hn'
            cases hz'
            rw [hk] at hret
            exact W.vret B.exec B.bytes hret (fun t ht _ => hq t ht) hV2.2.2 hd'
          · cases hz'
        · cases hz'
      refine z_run hx hb hml hown hts hE hbs hW hV hL hd hlk hx1 hMet hfr hlo (by omega) (by omega) (fun H1 locs1 hW1 hok1 hV1 => ?_)
      have hst : (z.1.map (zcv (zad base b t0))).toList ++ x.2.2.map (zcv (zad base b t0)) = (z.1.toList ++ x.2.2).map (zcv (zad base b t0)) := by
        cases z.1 <;> rfl
      rw [hst]
      refine ih h2 hC hW1 hV1 hL ?_ hfr hlo (by omega) (by omega) (fun H' locs' A' pc' cells' slots' i' len' g1 g2 g3 g0 g4 g5 g6 g7 => hend H' locs' A' pc' cells' slots' i' len' g1 g2 g3 g0 g4 g5 (by omega) (by omega))
      intro v hv
      rcases List.mem_append.mp hv with hv | hv
      · exact hok1 v hv
      · exact k5 v hv
    · have m1 := znx_M h1
      have m2 := zrun_M h2
      unfold znx at h1
      split at h1
      · next y0 e0 =>
        cases h1
        have eM := zn1_M e0
        refine z_n1 hx hb hown hts hL hS hd hlk e0 (fun A' hL' hS' => ?_)
        rw [eM] at h2
        exact ih h2 hC hW hV hL' hS' hfr hlo hc1 hc2 hend
      · split at h1
        · next y0 e0 =>
          cases h1
          have eM := zn2_M e0
          refine z_n2 hx hb hL hS hd hlk e0 (fun A' hL' hS' => ?_)
          rw [eM] at h2
          exact ih h2 hC hW hV hL' hS' hfr hlo hc1 hc2 hend
        · split at h1
          · next y0 e0 =>
            cases h1
            refine z_n3 hx hb hown hts hE hbs hin hW hV hS hd hlk e0 (by omega) (by omega) (fun H' locs' cells' slots' hW' hV' hS' els g1 g2 => ?_)
            rw [els] at h2
            exact ih h2 hC hW' hV' hL hS' hfr hlo (by omega) (by omega) (fun H' locs' A' pc' cells' slots' i' len' f1 f2 f3 f0 f4 f5 f6 f7 => hend H' locs' A' pc' cells' slots' i' len' f1 f2 f3 f0 f4 f5 (by omega) (by omega))
          · obtain ⟨eM, els⟩ := zn4_M h1
            refine z_n4 hx hb hml hown hts hL hS hd hlk h1 hfr hlo (by omega) (by omega) (fun hS' => ?_)
            rw [eM, els] at h2
            exact ih h2 hC hW hV hL hS' hfr hlo hc1 hc2 hend
end
section
def zM0 (L : Nat) (xs : Nat → Int32) : zM := (0, 0, fun q => if q = -1 then zsc L xs else if q = -2 then zds else (.inl 99, fun _ => .inl 0))
theorem zM0_W {dC : Nat → ClassId} {dI : Nat → Nat → Nat} {cA : Nat → ClassId} {base b t0 L : Nat} {xs : Nat → Int32} {H : Heap} (hL : L ≤ 65536) (h : H.size = base) : zWd dC dI cA base b t0 L xs (zM0 L xs) H := by
  refine ⟨fun k q hk => by simp [zws, zM0] at hk, by rw [h]; rfl, fun q hq => ?_, rfl, rfl, fun q k => ?_, fun q t len hq => ?_⟩
  · by_cases e1 : q = -1
    · exact Or.inr (Or.inl e1)
    · by_cases e2 : q = -2
      · exact Or.inr (Or.inr e2)
      · simp [zM0, e1, e2, zvk] at hq
  · by_cases e1 : q = -1
    · simp [zM0, e1, zsc, zok]; exact zto _
    · by_cases e2 : q = -2
      · simp [zM0, e2, zds, zok, zdv]
        repeat' split
        all_goals exact ⟨by omega, by omega⟩
      · simp [zM0, e1, e2, zok]
  · by_cases e1 : q = -1
    · simp [zM0, e1, zsc] at hq; omega
    · by_cases e2 : q = -2
      · simp [zM0, e2, zds] at hq; omega
      · simp [zM0, e1, e2] at hq
theorem zlaw_runs (L : Nat) (hL : L ≤ 2560) (xs : Nat → Int32) : ∃ (n : Nat) (M' : zM), zrun n 9 zlaw 0 (zent zlaw [.inr (.inl (some (-1)))]) [] (zM0 L xs) = some (some (.inl 1), M') ∧ M'.1 ≤ 600000 ∧ M'.2.1 ≤ 7302250 := sorry
end
section
/-! THE CLAIM OUT OF ONE WALK OF THE LAW'S BODY. Your part is whole_start (and what it stands on); all else here is the same for every law, but numbers. -/
def R_law : String := "WalkHousesLaw"
def lw_P (b : Addr) (xs : List Int32) (args : Array Value) (s : State) : Prop := args = #[.ref b] ∧ s.IntsAt b xs ∧ xs.length ≤ 2560 ∧ (Jvm.Cond.and given_1 narrow_1).before args s = true
def lw_Q (_ : Array Value) (s : State) (o : Outcome) (t : State) : Prop := o = .returned (some (.int 1)) ∧ Framed s o t [] 600000 7302250
def lw_Z (below : List Frame) (a : Array Value) (s : State) : State → Prop := fun t => ∃ o, t.status = .running ∧ Ended t below o ∧ lw_Q a s o t
/-- the law's own end, with 1 on the stack, nothing written that was there before, its room as the claim has it -/
theorem lw_ret {p : Program} {l : Launch} {e : Env} {s : State} {m : MethodId} {below : List Frame} {meth : Method} {c : Code} {b : Nat} (hx : p.tables.exec = Jvm.exec) (hb : c.code = code) (hr : meth.sig.returnType = ret) (hlocks : meth.locks = false) {pc : Nat} {H : Heap} {ls : Array Slot} (hdg : decode code pc = .ok (.ireturn, 1)) : W p l e room_1 s m #[Value.ref b] below meth c H [] 600000 7302250 (lw_Z below #[Value.ref b] s) (F0 m pc ls [.int 1]) := by
  intro T hT X
  obtain ⟨fs, hret, hrun, hended, hW, hframe⟩ := X.leave (v := some (.int 1)) (hlocks := hlocks) (fun h => by rw [hr] at h; cases h)
  have hmeth' : T.vm.method? m = some meth := X.method'
  refine ⟨T.setFrames fs, ?_, .returned (some (.int 1)), hrun, hended, rfl, ⟨_, rfl⟩, hW, hframe⟩
  jvm_step X.here [X.here.top, hx, hb, hdg, hmeth', hr, ret, narrow_b1]
  (try refine ⟨rfl, ?_⟩); (try refine ⟨rfl, ?_⟩)
  first | (intro acts; rw [hret _ acts rfl rfl rfl]) | rw [hret _ _ rfl rfl rfl]
  exact Steps.refl _
/-- what holds at the law's entry: the machine, the code, the tables' words (any of lw_tbl by 'hts w (by decide +kernel)'), the script of L ints xs at the cell b, what the Statement gives of the start (any of its parts by flat_of_before) -/
def lw_At (p : Program) (s : State) (m : MethodId) (meth : Method) (c : Code) (b L : Nat) (xs : Nat → Int32) : Prop :=
  p.tables.exec = Jvm.exec ∧ c.code = code ∧ meth.sig.returnType = ret ∧ c.maxLocals = 4 ∧ s.vm.findClass R_law = some m.cls ∧ (∀ w ∈ lw_tbl, w.before #[Value.ref b] s = true) ∧ va_X b L xs s s.heap ∧ b < s.heap.size ∧ meth.locks = false ∧ (Jvm.Cond.and given_1 narrow_1).before #[Value.ref b] s = true
theorem zK_of {s : State} {args : Array Value} (hts : ∀ w ∈ lw_tbl, w.before args s = true) : ∃ (dC : Nat → ClassId) (dI : Nat → Nat → Nat) (cA : Nat → ClassId), va_K (dC, dI) zCl [(cA 0, .int), (cA 1, .boolean), (cA 2, .object RX1), (cA 3, .object RX0)] s := by
  have h1 : ∀ ci : Nat, ∃ (cc : ClassId) (iS : Nat → Nat), ci < 8 → u_Kn s (zRn ci) (zT ci) (zN ci) cc iS := by
    intro ci
    by_cases h : ci < 8
    · have hi : Cond.instantiable (zRn ci) (zN ci) ∈ lw_tbl := by
        have h0 : (List.range 8).all (fun ci => decide (Cond.instantiable (zRn ci) (zN ci) ∈ lw_tbl)) = true := by decide +kernel
        exact of_decide_eq_true (List.all_eq_true.mp h0 ci (List.mem_range.mpr h))
      obtain ⟨c0, iS, hk⟩ := u_known (C := zRn ci) (T := zT ci) (N := zN ci) (n := zN ci) hts (fun w hw => (zW_good (zin h w hw)).1) (hts _ hi)
      exact ⟨c0, iS, fun _ => hk⟩
    · exact ⟨0, fun _ => 0, fun g => absurd g h⟩
  obtain ⟨dC, h2⟩ := Classical.skolem.mp h1
  obtain ⟨dI, h3⟩ := Classical.skolem.mp h2
  obtain ⟨c0, k0, p0, a1, a2, a3⟩ := Cond.arrayClass_spec (hts _ (List.mem_of_getElem? zac_i))
  obtain ⟨c1, k1, p1, b1, b2, b3⟩ := Cond.arrayClass_spec (hts _ (List.mem_of_getElem? zac_z))
  obtain ⟨p2, c2, k2, d1, d2, d3, d4, d5⟩ := Cond.arrayOver_spec (hts (Cond.arrayOver (.object RX1)) (List.mem_of_getElem? (i := 65) rfl))
  obtain ⟨p3, c3, k3, f1, f2, f3, f4, f5⟩ := Cond.arrayOver_spec (hts (Cond.arrayOver (.object RX0)) (List.mem_of_getElem? (i := 134) rfl))
  refine ⟨dC, dI, fun k => if k = 0 then c0 else if k = 1 then c1 else if k = 2 then c2 else c3, ⟨fun k q hk => ?_, fun k q hk => ?_⟩⟩
  · by_cases h : k < 8
    · rw [zCl_at h] at hk
      cases hk
      exact h3 k h
    · rw [List.getElem?_eq_none_iff.mpr (by show 8 ≤ k; omega)] at hk
      cases hk
  · match k, hk with
    | 0, hk => cases hk; exact ⟨fun n z => ⟨fun k h => (by cases h), k0, a2, p0, a3⟩, a1⟩
    | 1, hk => cases hk; exact ⟨fun n z => ⟨fun k h => (by cases h), k1, b2, p1, b3⟩, b1⟩
    | 2, hk => cases hk; exact ⟨fun n z => ⟨fun k h => (by cases h), k2, d3, p2, d4⟩, k2, p2, d3, d4, d1, d5⟩
    | 3, hk => cases hk; exact ⟨fun n z => ⟨fun k h => (by cases h), k3, f3, p3, f4⟩, k3, p3, f3, f4, f1, f5⟩
    | k + 4, hk => simp at hk
theorem zds_of {s : State} {args : Array Value} (hts : ∀ w ∈ lw_tbl, w.before args s = true) (h : (Jvm.Cond.and given_1 narrow_1).before args s = true) {A : Nat → Prop} (hA : ∀ a : Nat, a < s.heap.size → ¬ A a) : ∃ t0 : Nat, va_Z "WalkHouses" "DORM_SETS" "[I" (.ref t0) A s s.heap ∧ va_T .int t0 7 (fun k : Nat => .int (Int32.ofInt (zdv (k : Int)))) A s s.heap := by
  have hs := flat_of_before _ h
  have e0 := va_eqt (hs (Cond.eq (.elem (.static "WalkHouses" "DORM_SETS" "[I") (.int 0)) (.int 1)) (by decide +kernel))
  have e1 := va_eqt (hs (Cond.eq (.elem (.static "WalkHouses" "DORM_SETS" "[I") (.int 1)) (.int 2)) (by decide +kernel))
  have e2 := va_eqt (hs (Cond.eq (.elem (.static "WalkHouses" "DORM_SETS" "[I") (.int 2)) (.int 4)) (by decide +kernel))
  have e3 := va_eqt (hs (Cond.eq (.elem (.static "WalkHouses" "DORM_SETS" "[I") (.int 3)) (.int 3)) (by decide +kernel))
  have e4 := va_eqt (hs (Cond.eq (.elem (.static "WalkHouses" "DORM_SETS" "[I") (.int 4)) (.int 5)) (by decide +kernel))
  have e5 := va_eqt (hs (Cond.eq (.elem (.static "WalkHouses" "DORM_SETS" "[I") (.int 5)) (.int 6)) (by decide +kernel))
  have e6 := va_eqt (hs (Cond.eq (.elem (.static "WalkHouses" "DORM_SETS" "[I") (.int 6)) (.int 7)) (by decide +kernel))
  have el := va_eqt (hs (Cond.eq (.length (.static "WalkHouses" "DORM_SETS" "[I")) (.int 7)) (by decide +kernel))
  obtain ⟨t0, ht, hT⟩ := va_Tof (N := 7) (f := fun k : Nat => .int (Int32.ofInt (zdv (k : Int)))) (A := A) (by decide) (hs (Cond.arrayOf (.static "WalkHouses" "DORM_SETS" "[I") .int) (by decide +kernel)) el (fun j hj => by
    rcases (show j = 0 ∨ j = 1 ∨ j = 2 ∨ j = 3 ∨ j = 4 ∨ j = 5 ∨ j = 6 by omega) with rfl | rfl | rfl | rfl | rfl | rfl | rfl
    · exact e0
    · exact e1
    · exact e2
    · exact e3
    · exact e4
    · exact e5
    · exact e6) hA
  exact ⟨t0, va_Zof (hts (Cond.laysStatic "WalkHouses" "DORM_SETS" "[I") (List.mem_of_getElem? (i := 392) rfl)) (hts (Cond.initialized "WalkHouses") (List.mem_of_getElem? (i := 41) rfl)) ht hA, hT⟩
set_option maxRecDepth 20000 in
theorem zEv_of {s : State} {args : Array Value} {b L : Nat} {xs : Nat → Int32} (hL : L ≤ 65536) (hts : ∀ w ∈ lw_tbl, w.before args s = true) (h : (Jvm.Cond.and given_1 narrow_1).before args s = true) (hX : va_X b L xs s s.heap) (hbl : b < s.heap.size) : ∃ (dC : Nat → ClassId) (dI : Nat → Nat → Nat) (cA : Nat → ClassId) (t0 : Nat), zEv dC dI cA s.heap.size b t0 L xs s s.heap := by
  obtain ⟨dC, dI, cA, hK⟩ := zK_of hts
  obtain ⟨t0, hZ, hT⟩ := zds_of (A := zA s.heap.size) hts h (fun a ha => Nat.not_le.mpr ha)
  have hn : ∀ q ∈ zmlT, (q.2.2.1 = 3 ∨ q.2.2.1 = 4) → Cond.methodLinkNest (zRn q.1) q.2.1 (zy q.2.2.2.1) "WalkHouses" ∈ lw_tbl := by
    have h0 : zmlT.all (fun q => !(q.2.2.1 == 3 || q.2.2.1 == 4) || decide (lw_tbl[q.2.2.2.2]? = some (Cond.methodLinkNest (zRn q.1) q.2.1 (zy q.2.2.2.1) "WalkHouses"))) = true := by decide +kernel
    intro q hq hk
    have h1 := List.all_eq_true.mp h0 q hq
    have h2 : (q.2.2.1 == 3 || q.2.2.1 == 4) = true := by rcases hk with hk | hk <;> simp [hk]
    rw [h2] at h1
    simp only [Bool.not_true, Bool.false_or, decide_eq_true_eq] at h1
    exact List.mem_of_getElem? h1
  exact ⟨dC, dI, cA, t0, hK, fun q hq hk => va_Nw.of rfl (hts _ (hn q hq hk)), va_Nw.of rfl (hts (Cond.fieldLinkNest RX1 26 "WalkHouses" "DORM_SETS" "[I" "WalkHouses") (List.mem_of_getElem? (i := 391) rfl)), va_AO.of (hts (Cond.arrayOver (.object RX1)) (List.mem_of_getElem? (i := 65) rfl)), va_AO.of (hts (Cond.arrayOver (.object RX0)) (List.mem_of_getElem? (i := 134) rfl)), hX, hbl, hL, hZ, hT⟩
set_option maxHeartbeats 1000000 in
/-- THE LAW, from its entry: what the small machine answers -/
theorem whole_start {p : Program} {e : Env} {s : State} {m : MethodId} {below : List Frame} {meth : Method} {c : Code} (l : Launch) {b L : Nat} {xs : Nat → Int32} (hL : L ≤ 2560) (C0 : lw_At p s m meth c b L xs) : W p l e room_1 s m #[Value.ref b] below meth c s.heap [] 0 0 (lw_Z below #[Value.ref b] s) (entryFrame m ([Value.ref b] : List Value).toArray 4) := by
  obtain ⟨hx, hb, hr, hml, hown, hts, hX, hbl, hlocks, hgv⟩ := id C0
  obtain ⟨dC, dI, cA, t0, hE⟩ := zEv_of (by omega) hts hgv hX hbl
  obtain ⟨n, M', hrun, hm1, hm2⟩ := zlaw_runs L hL xs
  have hl := zent_LR (f := zad s.heap.size b t0) (j := zlaw) (as := [.inr (.inl (some (-1)))]) rfl (by decide) (fun v hv => by rw [List.mem_singleton.mp hv]; exact trivial)
  rw [lg_entry_eq]
  refine z_sim l n hrun (base := s.heap.size) (b := b) (t0 := t0) (L := L) (xs := xs) (dC := dC) (dI := dI) (cA := cA) (st := []) ⟨hx, hb, hml, hown, fun w hw => hts w (zW_good hw).1, hE, Nat.le_refl _, fun hn => absurd hn (by decide)⟩ (zM0_W (by omega) rfl) va_S.rf hl (fun v hv => by cases hv) (by decide) (by decide) (by show 0 + M'.1 ≤ 600000 + 0; omega) (by show 0 + M'.2.1 ≤ 7302250 + 0; omega) ?_
  intro H' locs' A' pc' cells' slots' i len hd hlk hz hok hW hV e1 e2
  have e1' : cells' + 0 = 0 + M'.1 := e1
  have e2' : slots' + 0 = 0 + M'.2.1 := e2
  have hi : i = .ireturn ∧ len = 1 := by
    have g : i = .ireturn := by
      cases i <;> first | rfl | (simp [zre] at hz)
    subst g
    exact ⟨rfl, zlen_of hlk (by intros; simp)⟩
  obtain ⟨rfl, rfl⟩ := hi
  refine va_forget (fun q hq => hV.2.2 q hq) ?_
  refine W.widen (k := 600000) (n := 7302250) (by omega) (by omega) ?_
  exact lw_ret hx hb hr hlocks hd
set_option maxHeartbeats 4000000 in
theorem lw_walk (l : Launch) (b : Addr) (xs : List Int32) : MetFree l x (headSpec (Jvm.Cond.code x code maxLocals ret :: tables_1) room_1) (lw_P b xs) (fun _ _ _ _ _ => True) lw_Q := by
  refine MetFree.of_bodyS (code := code) (maxLocals := maxLocals) (ret := ret) (by decide) ?_ ?_
  · intro args s m h hn
    obtain ⟨meth, c, h1, h2, h3, h4, h5, h6, -, -⟩ := Cond.code_spec hn (atoms_spec (ws := Jvm.Cond.code x code maxLocals ret :: tables_1) h _ List.mem_cons_self)
    exact ⟨meth, c, h1, h2, h3, h4, h5, h6⟩
  · intro p e s m args below meth c s₁ B hml0 hP _
    obtain ⟨rfl, hx, hbd, hgv⟩ := hP
    obtain ⟨scr, harrAt, hlist, hof, hsmall⟩ := hx
    obtain ⟨hcb, hkn, -, -⟩ := State.arrayAt?_spec harrAt
    have hown : s.vm.findClass R_law = some m.cls := findClass_of_methodNamed B.named
    have hts0 : ∀ c ∈ (Jvm.Cond.code x code maxLocals ret :: tables_1), c.before #[Value.ref b] s = true := atoms_spec (ws := Jvm.Cond.code x code maxLocals ret :: tables_1) B.pre
    have hts : ∀ w ∈ lw_tbl, w.before #[Value.ref b] s = true := k2_hts_sels lw_privs (fun w hw => hts0 w (List.mem_cons_of_mem _ hw)) lw_privs_ok
    have hml : c.maxLocals = 4 := B.maxLocals_eq (hts0 _ List.mem_cons_self)
    have X₀ : Stand p l e room_1 s m #[Value.ref b] below meth c s₁ [] 0 0 := Stand.of_body B
    have hh0 : s₁.heap = s.heap := by rw [B.state]; rfl
    have hsz : scr.slots.size = xs.length := by rw [← Array.length_toList, hlist, List.length_map]
    have hval : ∀ j : Nat, j < xs.length → scr.slots[j]? = some (.int (xs.getD j 0)) := fun j hj => by
      rw [← Array.getElem?_toList, hlist]
      simp [hj]
    have hbl : b < s.heap.size := (Array.getElem?_eq_some_iff.mp hcb).1
    have hX : va_X b xs.length (fun j => xs.getD j 0) s s.heap := ⟨scr, hcb, hof, hkn, hsz, hval⟩
    have K : W p l e room_1 s m #[Value.ref b] below meth c s₁.heap [] 0 0 (lw_Z below #[Value.ref b] s) (entryFrame m ([Value.ref b] : List Value).toArray 4) := by
      rw [hh0]
      exact whole_start l hbd ⟨B.exec, B.bytes, B.returns, hml, hown, hts, hX, hbl, B.notSynchronized, hgv⟩
    obtain ⟨t, a1, o, b1, b2, b3⟩ := K s₁ rfl X₀
    exact ⟨t, o, a1, b1, b2, b3⟩
theorem lw_pre_spec {args : Array Value} {s : State} (h : (Jvm.Cond.and given_1 narrow_1).before args s = true) (hr : rest_1_c.before args s = true) : ∃ (b : Addr) (xs : List Int32), lw_P b xs args s := by
  have hs := flat_of_before _ h
  have hq := flat_of_before _ hr
  have hc : (Cond.count 1).before args s = true := hs _ (by decide +kernel)
  have harr : (Cond.arrayOf (.arg 0) .int).before args s = true := hs _ (by decide +kernel)
  have hle : (Cond.le (.length (.arg 0)) (.int 2560)).before args s = true := hs _ (by decide +kernel)
  have hlen : (Cond.isInt (.length (.arg 0))).before args s = true := hq _ (by decide +kernel)
  have hall : (Cond.all (.arg 0) (.isInt (.elem (.arg 0) (.index 0)))).before args s = true := hq _ (by decide +kernel)
  obtain ⟨b, xs, hb, hx⟩ := State.ints_of_pre rfl harr hlen hall
  have hsm : xs.length < 2 ^ 31 := hx.choose_spec.2.2.2
  have hev : (Term.length (.arg 0)).eval args s none [] s = some (.int xs.length.toInt32) := hx.length_eval hb
  have hv := Cond.le_ints hev (show (Term.int 2560).eval args s none [] s = some (.int 2560) from rfl)
  have hd : xs.length.toInt32 ≤ 2560 := by
    simpa [Cond.before, Cond.holds, hv] using hle
  have hN : xs.length ≤ 2560 := (Int32.ofNat_le_ofNat hsm (by decide)).mp (show Int32.ofNat xs.length ≤ Int32.ofNat 2560 from hd)
  exact ⟨b, xs, Cond.one_arg hc (show args[0]? = some (.ref b) from hb), hx, hN, h⟩
theorem lw_comes (l : Launch) : Comes l x (Jvm.Cond.code x code maxLocals ret :: tables_1) room_1 (fun tb e args s => Calls_1 tb e args s ∧ rest_1 tb e args s ∧ Pre_1 tb e args s)
    (fun _ _ args s o t => lw_Q args s o t) := by
  intro p e ha hc hk s m args below hf hfit hheap happ hpre
  obtain ⟨b, xs, hP⟩ := lw_pre_spec hpre.2.2 hpre.2.1
  obtain ⟨k, o, h1, h2, h3, hQ⟩ := lw_walk l b xs p e ha hc hk s m args below hf ((Spec.applies_iff_loose hf).mp happ).1 hP trivial
  exact ⟨k, o, h1, h2, h3, hQ⟩
theorem lw_frame {s t : State} {o : Outcome} {args : Array Value} (h : Framed s o t [] 600000 7302250) :
    Framed s o t (fieldLocs frame_1_writes args s ++ arrayLocs frame_1_arrays args s ++ staticLocs frame_1_statics s) 600000 7302250 := h
theorem lw_limb (L : Cond) (hL : ∀ (args : Array Value) (s t : State), L.after args s (.returned (some (.int 1))) t = true) :
    ArmFor flags0 classFile x code maxLocals ret World_1 tables_1 room_1 Calls_1 rest_1 Pre_1
      (fun tb e a s o t => postC L tb e a s o t ∧ Framed s o t (fieldLocs frame_1_writes a s ++ arrayLocs frame_1_arrays a s ++ staticLocs frame_1_statics s) 600000 7302250) := by
  intro l _ _ _ p e ha hc hk s m args below hf hfit hheap happ hpre
  obtain ⟨k, o, h1, h2, h3, rfl, hF⟩ := lw_comes l p e ha hc hk s m args below hf hfit hheap happ hpre
  exact ⟨k, _, h1, h2, h3, hL args s _, lw_frame hF⟩
theorem i_vc : Claimed_1_1 ∧ Claimed_1_2 := ⟨lw_limb limb_1_1 (fun args s t => by simp [limb_1_1, Cond.after, Cond.holds, Cond.value]), lw_limb limb_1_2 (fun args s t => Cond.after_iff.mpr (by
  first | (rw [show limb_1_2 = Cond.eq .result (.int 1) from rfl, Cond.eq_ints (x := 1) (y := 1) rfl rfl]; simp; done) | (simp [limb_1_2, Cond.value, Term.eval]; done)))⟩
end
