section
-- ===== PART A: goes FIRST, ahead of the names: the tables' words, and 'selects' of the private methods out of them =====
/-- a private method of a class that the tables say can be made, by its rows of tables_1 -/
def lw_okq (q : MethodName × Nat) : Prop := (q.1.cls ≠ "java/lang/invoke/MethodHandle" ∧ q.1.cls ≠ "java/lang/invoke/VarHandle") ∧ Cond.instantiable q.1.cls q.2 ∈ tables_1 ∧ Cond.privateMethod q.1 ∈ tables_1 ∧ Cond.instanceMethod q.1 ∈ tables_1
theorem lw_p0 : lw_okq (⟨"WalkHouses", "leadRound", "(LWalkHouses$Chain;)Z"⟩, 9) := ⟨⟨by decide +kernel, by decide +kernel⟩, List.mem_of_getElem? (i := 11) (by decide +kernel), List.mem_of_getElem? (i := 294) (by decide +kernel), List.mem_of_getElem? (i := 295) (by decide +kernel)⟩
theorem lw_p1 : lw_okq (⟨"WalkHouses", "liftFrom", "(LWalkHouses$Chain;I)V"⟩, 9) := ⟨⟨by decide +kernel, by decide +kernel⟩, List.mem_of_getElem? (i := 11) (by decide +kernel), List.mem_of_getElem? (i := 301) (by decide +kernel), List.mem_of_getElem? (i := 302) (by decide +kernel)⟩
theorem lw_p2 : lw_okq (⟨"WalkHouses$WayFinder", "leastParting", "(LWalkHouses$Chain;III)I"⟩, 3) := ⟨⟨by decide +kernel, by decide +kernel⟩, List.mem_of_getElem? (i := 77) (by decide +kernel), List.mem_of_getElem? (i := 314) (by decide +kernel), List.mem_of_getElem? (i := 315) (by decide +kernel)⟩
theorem lw_p3 : lw_okq (⟨"WalkHouses$WayFinder", "canBeIn", "(LWalkHouses$Chain;III)Z"⟩, 3) := ⟨⟨by decide +kernel, by decide +kernel⟩, List.mem_of_getElem? (i := 77) (by decide +kernel), List.mem_of_getElem? (i := 318) (by decide +kernel), List.mem_of_getElem? (i := 319) (by decide +kernel)⟩
theorem lw_p4 : lw_okq (⟨"WalkHouses$WayFinder", "leastNext", "(II)I"⟩, 3) := ⟨⟨by decide +kernel, by decide +kernel⟩, List.mem_of_getElem? (i := 77) (by decide +kernel), List.mem_of_getElem? (i := 327) (by decide +kernel), List.mem_of_getElem? (i := 328) (by decide +kernel)⟩
theorem lw_p5 : lw_okq (⟨"WalkHouses$WayFinder", "trace", "(LWalkHouses$Chain;I)V"⟩, 3) := ⟨⟨by decide +kernel, by decide +kernel⟩, List.mem_of_getElem? (i := 77) (by decide +kernel), List.mem_of_getElem? (i := 332) (by decide +kernel), List.mem_of_getElem? (i := 333) (by decide +kernel)⟩
theorem lw_p6 : lw_okq (⟨"WalkHouses", "layFrom", "(LWalkHouses$Chain;I)V"⟩, 9) := ⟨⟨by decide +kernel, by decide +kernel⟩, List.mem_of_getElem? (i := 11) (by decide +kernel), List.mem_of_getElem? (i := 340) (by decide +kernel), List.mem_of_getElem? (i := 341) (by decide +kernel)⟩
theorem lw_p7 : lw_okq (⟨"WalkHouses", "isChain", "(I)Z"⟩, 9) := ⟨⟨by decide +kernel, by decide +kernel⟩, List.mem_of_getElem? (i := 11) (by decide +kernel), List.mem_of_getElem? (i := 373) (by decide +kernel), List.mem_of_getElem? (i := 374) (by decide +kernel)⟩
theorem lw_p8 : lw_okq (⟨"WalkHouses", "canBeGiven", "(LWalkHouses$Chain;)Z"⟩, 9) := ⟨⟨by decide +kernel, by decide +kernel⟩, List.mem_of_getElem? (i := 11) (by decide +kernel), List.mem_of_getElem? (i := 381) (by decide +kernel), List.mem_of_getElem? (i := 382) (by decide +kernel)⟩
theorem lw_p9 : lw_okq (⟨"WalkHouses", "giveOwnWay", "(LWalkHouses$Chain;)I"⟩, 9) := ⟨⟨by decide +kernel, by decide +kernel⟩, List.mem_of_getElem? (i := 11) (by decide +kernel), List.mem_of_getElem? (i := 385) (by decide +kernel), List.mem_of_getElem? (i := 386) (by decide +kernel)⟩
theorem lw_p10 : lw_okq (⟨"WalkHouses", "answer", "(LWalkHouses$Chain;)Z"⟩, 9) := ⟨⟨by decide +kernel, by decide +kernel⟩, List.mem_of_getElem? (i := 11) (by decide +kernel), List.mem_of_getElem? (i := 448) (by decide +kernel), List.mem_of_getElem? (i := 449) (by decide +kernel)⟩
theorem lw_p11 : lw_okq (⟨"WalkHouses", "bedsOfLate", "(I)I"⟩, 9) := ⟨⟨by decide +kernel, by decide +kernel⟩, List.mem_of_getElem? (i := 11) (by decide +kernel), List.mem_of_getElem? (i := 461) (by decide +kernel), List.mem_of_getElem? (i := 462) (by decide +kernel)⟩
theorem lw_p12 : lw_okq (⟨"WalkHouses", "isLate", "(LWalkHouses$Chain;I)Z"⟩, 9) := ⟨⟨by decide +kernel, by decide +kernel⟩, List.mem_of_getElem? (i := 11) (by decide +kernel), List.mem_of_getElem? (i := 465) (by decide +kernel), List.mem_of_getElem? (i := 466) (by decide +kernel)⟩
theorem lw_p13 : lw_okq (⟨"WalkHouses", "clearLate", "(II)I"⟩, 9) := ⟨⟨by decide +kernel, by decide +kernel⟩, List.mem_of_getElem? (i := 11) (by decide +kernel), List.mem_of_getElem? (i := 470) (by decide +kernel), List.mem_of_getElem? (i := 471) (by decide +kernel)⟩
theorem lw_p14 : lw_okq (⟨"WalkHouses", "sleepTonight", "()I"⟩, 9) := ⟨⟨by decide +kernel, by decide +kernel⟩, List.mem_of_getElem? (i := 11) (by decide +kernel), List.mem_of_getElem? (i := 478) (by decide +kernel), List.mem_of_getElem? (i := 479) (by decide +kernel)⟩
theorem lw_p15 : lw_okq (⟨"WalkHouses", "doChores", "(I)V"⟩, 9) := ⟨⟨by decide +kernel, by decide +kernel⟩, List.mem_of_getElem? (i := 11) (by decide +kernel), List.mem_of_getElem? (i := 486) (by decide +kernel), List.mem_of_getElem? (i := 487) (by decide +kernel)⟩
def lw_privs_1 : List (MethodName × Nat) := [(⟨"WalkHouses", "leadRound", "(LWalkHouses$Chain;)Z"⟩, 9), (⟨"WalkHouses", "liftFrom", "(LWalkHouses$Chain;I)V"⟩, 9), (⟨"WalkHouses$WayFinder", "leastParting", "(LWalkHouses$Chain;III)I"⟩, 3), (⟨"WalkHouses$WayFinder", "canBeIn", "(LWalkHouses$Chain;III)Z"⟩, 3), (⟨"WalkHouses$WayFinder", "leastNext", "(II)I"⟩, 3), (⟨"WalkHouses$WayFinder", "trace", "(LWalkHouses$Chain;I)V"⟩, 3), (⟨"WalkHouses", "layFrom", "(LWalkHouses$Chain;I)V"⟩, 9), (⟨"WalkHouses", "isChain", "(I)Z"⟩, 9), (⟨"WalkHouses", "canBeGiven", "(LWalkHouses$Chain;)Z"⟩, 9), (⟨"WalkHouses", "giveOwnWay", "(LWalkHouses$Chain;)I"⟩, 9), (⟨"WalkHouses", "answer", "(LWalkHouses$Chain;)Z"⟩, 9), (⟨"WalkHouses", "bedsOfLate", "(I)I"⟩, 9), (⟨"WalkHouses", "isLate", "(LWalkHouses$Chain;I)Z"⟩, 9), (⟨"WalkHouses", "clearLate", "(II)I"⟩, 9), (⟨"WalkHouses", "sleepTonight", "()I"⟩, 9), (⟨"WalkHouses", "doChores", "(I)V"⟩, 9)]
theorem lw_r1 : ∀ q ∈ lw_privs_1, lw_okq q := List.forall_mem_cons.mpr ⟨lw_p0, List.forall_mem_cons.mpr ⟨lw_p1, List.forall_mem_cons.mpr ⟨lw_p2, List.forall_mem_cons.mpr ⟨lw_p3, List.forall_mem_cons.mpr ⟨lw_p4, List.forall_mem_cons.mpr ⟨lw_p5, List.forall_mem_cons.mpr ⟨lw_p6, List.forall_mem_cons.mpr ⟨lw_p7, List.forall_mem_cons.mpr ⟨lw_p8, List.forall_mem_cons.mpr ⟨lw_p9, List.forall_mem_cons.mpr ⟨lw_p10, List.forall_mem_cons.mpr ⟨lw_p11, List.forall_mem_cons.mpr ⟨lw_p12, List.forall_mem_cons.mpr ⟨lw_p13, List.forall_mem_cons.mpr ⟨lw_p14, List.forall_mem_cons.mpr ⟨lw_p15, fun _ h => absurd h List.not_mem_nil⟩⟩⟩⟩⟩⟩⟩⟩⟩⟩⟩⟩⟩⟩⟩⟩
theorem lw_p16 : lw_okq (⟨"WalkHouses", "leastDone", "(I)I"⟩, 9) := ⟨⟨by decide +kernel, by decide +kernel⟩, List.mem_of_getElem? (i := 11) (by decide +kernel), List.mem_of_getElem? (i := 490) (by decide +kernel), List.mem_of_getElem? (i := 491) (by decide +kernel)⟩
theorem lw_p17 : lw_okq (⟨"WalkHouses", "endChains", "()V"⟩, 9) := ⟨⟨by decide +kernel, by decide +kernel⟩, List.mem_of_getElem? (i := 11) (by decide +kernel), List.mem_of_getElem? (i := 506) (by decide +kernel), List.mem_of_getElem? (i := 507) (by decide +kernel)⟩
theorem lw_p18 : lw_okq (⟨"WalkHouses", "chainsThatAre", "(I)I"⟩, 9) := ⟨⟨by decide +kernel, by decide +kernel⟩, List.mem_of_getElem? (i := 11) (by decide +kernel), List.mem_of_getElem? (i := 530) (by decide +kernel), List.mem_of_getElem? (i := 531) (by decide +kernel)⟩
theorem lw_p19 : lw_okq (⟨"WalkHousesModel", "isHouse", "(I)Z"⟩, 32) := ⟨⟨by decide +kernel, by decide +kernel⟩, List.mem_of_getElem? (i := 542) (by decide +kernel), List.mem_of_getElem? (i := 656) (by decide +kernel), List.mem_of_getElem? (i := 657) (by decide +kernel)⟩
theorem lw_p20 : lw_okq (⟨"WalkHousesModel", "freeOf", "(II)I"⟩, 32) := ⟨⟨by decide +kernel, by decide +kernel⟩, List.mem_of_getElem? (i := 542) (by decide +kernel), List.mem_of_getElem? (i := 671) (by decide +kernel), List.mem_of_getElem? (i := 672) (by decide +kernel)⟩
theorem lw_p21 : lw_okq (⟨"WalkHousesModel", "freeIn", "(III)I"⟩, 32) := ⟨⟨by decide +kernel, by decide +kernel⟩, List.mem_of_getElem? (i := 542) (by decide +kernel), List.mem_of_getElem? (i := 675) (by decide +kernel), List.mem_of_getElem? (i := 676) (by decide +kernel)⟩
theorem lw_p22 : lw_okq (⟨"WalkHousesModel", "placeOf", "(II)I"⟩, 32) := ⟨⟨by decide +kernel, by decide +kernel⟩, List.mem_of_getElem? (i := 542) (by decide +kernel), List.mem_of_getElem? (i := 679) (by decide +kernel), List.mem_of_getElem? (i := 680) (by decide +kernel)⟩
theorem lw_p23 : lw_okq (⟨"WalkHousesModel", "isChain", "(I)Z"⟩, 32) := ⟨⟨by decide +kernel, by decide +kernel⟩, List.mem_of_getElem? (i := 542) (by decide +kernel), List.mem_of_getElem? (i := 695) (by decide +kernel), List.mem_of_getElem? (i := 696) (by decide +kernel)⟩
theorem lw_p24 : lw_okq (⟨"WalkHousesModel", "refuses", "(I)I"⟩, 32) := ⟨⟨by decide +kernel, by decide +kernel⟩, List.mem_of_getElem? (i := 542) (by decide +kernel), List.mem_of_getElem? (i := 703) (by decide +kernel), List.mem_of_getElem? (i := 704) (by decide +kernel)⟩
theorem lw_p25 : lw_okq (⟨"WalkHousesModel", "bar", "(I)I"⟩, 32) := ⟨⟨by decide +kernel, by decide +kernel⟩, List.mem_of_getElem? (i := 542) (by decide +kernel), List.mem_of_getElem? (i := 707) (by decide +kernel), List.mem_of_getElem? (i := 708) (by decide +kernel)⟩
theorem lw_p26 : lw_okq (⟨"WalkHousesModel", "areJoined", "(II)Z"⟩, 32) := ⟨⟨by decide +kernel, by decide +kernel⟩, List.mem_of_getElem? (i := 542) (by decide +kernel), List.mem_of_getElem? (i := 711) (by decide +kernel), List.mem_of_getElem? (i := 712) (by decide +kernel)⟩
theorem lw_p27 : lw_okq (⟨"WalkHousesModel", "isOpen", "(III)Z"⟩, 32) := ⟨⟨by decide +kernel, by decide +kernel⟩, List.mem_of_getElem? (i := 542) (by decide +kernel), List.mem_of_getElem? (i := 715) (by decide +kernel), List.mem_of_getElem? (i := 716) (by decide +kernel)⟩
theorem lw_p28 : lw_okq (⟨"WalkHousesModel", "gives", "(I)V"⟩, 32) := ⟨⟨by decide +kernel, by decide +kernel⟩, List.mem_of_getElem? (i := 542) (by decide +kernel), List.mem_of_getElem? (i := 719) (by decide +kernel), List.mem_of_getElem? (i := 720) (by decide +kernel)⟩
theorem lw_p29 : lw_okq (⟨"WalkHousesModel", "lays", "(II)V"⟩, 32) := ⟨⟨by decide +kernel, by decide +kernel⟩, List.mem_of_getElem? (i := 542) (by decide +kernel), List.mem_of_getElem? (i := 723) (by decide +kernel), List.mem_of_getElem? (i := 724) (by decide +kernel)⟩
theorem lw_p30 : lw_okq (⟨"WalkHousesModel", "parts", "(III)V"⟩, 32) := ⟨⟨by decide +kernel, by decide +kernel⟩, List.mem_of_getElem? (i := 542) (by decide +kernel), List.mem_of_getElem? (i := 727) (by decide +kernel), List.mem_of_getElem? (i := 728) (by decide +kernel)⟩
theorem lw_p31 : lw_okq (⟨"WalkHousesModel", "ways", "(IIZ)I"⟩, 32) := ⟨⟨by decide +kernel, by decide +kernel⟩, List.mem_of_getElem? (i := 542) (by decide +kernel), List.mem_of_getElem? (i := 735) (by decide +kernel), List.mem_of_getElem? (i := 736) (by decide +kernel)⟩
def lw_privs_2 : List (MethodName × Nat) := [(⟨"WalkHouses", "leastDone", "(I)I"⟩, 9), (⟨"WalkHouses", "endChains", "()V"⟩, 9), (⟨"WalkHouses", "chainsThatAre", "(I)I"⟩, 9), (⟨"WalkHousesModel", "isHouse", "(I)Z"⟩, 32), (⟨"WalkHousesModel", "freeOf", "(II)I"⟩, 32), (⟨"WalkHousesModel", "freeIn", "(III)I"⟩, 32), (⟨"WalkHousesModel", "placeOf", "(II)I"⟩, 32), (⟨"WalkHousesModel", "isChain", "(I)Z"⟩, 32), (⟨"WalkHousesModel", "refuses", "(I)I"⟩, 32), (⟨"WalkHousesModel", "bar", "(I)I"⟩, 32), (⟨"WalkHousesModel", "areJoined", "(II)Z"⟩, 32), (⟨"WalkHousesModel", "isOpen", "(III)Z"⟩, 32), (⟨"WalkHousesModel", "gives", "(I)V"⟩, 32), (⟨"WalkHousesModel", "lays", "(II)V"⟩, 32), (⟨"WalkHousesModel", "parts", "(III)V"⟩, 32), (⟨"WalkHousesModel", "ways", "(IIZ)I"⟩, 32)]
theorem lw_r2 : ∀ q ∈ lw_privs_2, lw_okq q := List.forall_mem_cons.mpr ⟨lw_p16, List.forall_mem_cons.mpr ⟨lw_p17, List.forall_mem_cons.mpr ⟨lw_p18, List.forall_mem_cons.mpr ⟨lw_p19, List.forall_mem_cons.mpr ⟨lw_p20, List.forall_mem_cons.mpr ⟨lw_p21, List.forall_mem_cons.mpr ⟨lw_p22, List.forall_mem_cons.mpr ⟨lw_p23, List.forall_mem_cons.mpr ⟨lw_p24, List.forall_mem_cons.mpr ⟨lw_p25, List.forall_mem_cons.mpr ⟨lw_p26, List.forall_mem_cons.mpr ⟨lw_p27, List.forall_mem_cons.mpr ⟨lw_p28, List.forall_mem_cons.mpr ⟨lw_p29, List.forall_mem_cons.mpr ⟨lw_p30, List.forall_mem_cons.mpr ⟨lw_p31, fun _ h => absurd h List.not_mem_nil⟩⟩⟩⟩⟩⟩⟩⟩⟩⟩⟩⟩⟩⟩⟩⟩
theorem lw_p32 : lw_okq (⟨"WalkHousesModel", "takesOut", "(II)V"⟩, 32) := ⟨⟨by decide +kernel, by decide +kernel⟩, List.mem_of_getElem? (i := 542) (by decide +kernel), List.mem_of_getElem? (i := 755) (by decide +kernel), List.mem_of_getElem? (i := 756) (by decide +kernel)⟩
theorem lw_p33 : lw_okq (⟨"WalkHousesModel", "isLaidThere", "(IIII)Z"⟩, 32) := ⟨⟨by decide +kernel, by decide +kernel⟩, List.mem_of_getElem? (i := 542) (by decide +kernel), List.mem_of_getElem? (i := 763) (by decide +kernel), List.mem_of_getElem? (i := 764) (by decide +kernel)⟩
theorem lw_p34 : lw_okq (⟨"WalkHousesModel", "leads", "(I)Z"⟩, 32) := ⟨⟨by decide +kernel, by decide +kernel⟩, List.mem_of_getElem? (i := 542) (by decide +kernel), List.mem_of_getElem? (i := 767) (by decide +kernel), List.mem_of_getElem? (i := 768) (by decide +kernel)⟩
theorem lw_p35 : lw_okq (⟨"WalkHousesModel", "milesOf", "(I)I"⟩, 32) := ⟨⟨by decide +kernel, by decide +kernel⟩, List.mem_of_getElem? (i := 542) (by decide +kernel), List.mem_of_getElem? (i := 775) (by decide +kernel), List.mem_of_getElem? (i := 776) (by decide +kernel)⟩
theorem lw_p36 : lw_okq (⟨"WalkHousesModel", "nightsSlept", "(I)I"⟩, 32) := ⟨⟨by decide +kernel, by decide +kernel⟩, List.mem_of_getElem? (i := 542) (by decide +kernel), List.mem_of_getElem? (i := 779) (by decide +kernel), List.mem_of_getElem? (i := 780) (by decide +kernel)⟩
theorem lw_p37 : lw_okq (⟨"WalkHousesModel", "mayLose", "(II)Z"⟩, 32) := ⟨⟨by decide +kernel, by decide +kernel⟩, List.mem_of_getElem? (i := 542) (by decide +kernel), List.mem_of_getElem? (i := 803) (by decide +kernel), List.mem_of_getElem? (i := 804) (by decide +kernel)⟩
theorem lw_p38 : lw_okq (⟨"WalkHousesModel", "worker", "(I)I"⟩, 32) := ⟨⟨by decide +kernel, by decide +kernel⟩, List.mem_of_getElem? (i := 542) (by decide +kernel), List.mem_of_getElem? (i := 811) (by decide +kernel), List.mem_of_getElem? (i := 812) (by decide +kernel)⟩
theorem lw_p39 : lw_okq (⟨"WalkHousesModel", "inStatus", "(I)I"⟩, 32) := ⟨⟨by decide +kernel, by decide +kernel⟩, List.mem_of_getElem? (i := 542) (by decide +kernel), List.mem_of_getElem? (i := 823) (by decide +kernel), List.mem_of_getElem? (i := 824) (by decide +kernel)⟩
def lw_privs_3 : List (MethodName × Nat) := [(⟨"WalkHousesModel", "takesOut", "(II)V"⟩, 32), (⟨"WalkHousesModel", "isLaidThere", "(IIII)Z"⟩, 32), (⟨"WalkHousesModel", "leads", "(I)Z"⟩, 32), (⟨"WalkHousesModel", "milesOf", "(I)I"⟩, 32), (⟨"WalkHousesModel", "nightsSlept", "(I)I"⟩, 32), (⟨"WalkHousesModel", "mayLose", "(II)Z"⟩, 32), (⟨"WalkHousesModel", "worker", "(I)I"⟩, 32), (⟨"WalkHousesModel", "inStatus", "(I)I"⟩, 32)]
theorem lw_r3 : ∀ q ∈ lw_privs_3, lw_okq q := List.forall_mem_cons.mpr ⟨lw_p32, List.forall_mem_cons.mpr ⟨lw_p33, List.forall_mem_cons.mpr ⟨lw_p34, List.forall_mem_cons.mpr ⟨lw_p35, List.forall_mem_cons.mpr ⟨lw_p36, List.forall_mem_cons.mpr ⟨lw_p37, List.forall_mem_cons.mpr ⟨lw_p38, List.forall_mem_cons.mpr ⟨lw_p39, fun _ h => absurd h List.not_mem_nil⟩⟩⟩⟩⟩⟩⟩⟩
def lw_privs : List (MethodName × Nat) := lw_privs_1 ++ (lw_privs_2 ++ (lw_privs_3))
def lw_tbl : List Cond := k2_sels lw_privs ++ tables_1
theorem lw_privs_ok : ∀ q ∈ lw_privs, lw_okq q := by
  show ∀ q ∈ lw_privs_1 ++ (lw_privs_2 ++ (lw_privs_3)), lw_okq q
  exact List.forall_mem_append.mpr ⟨lw_r1, List.forall_mem_append.mpr ⟨lw_r2, lw_r3⟩⟩
end
section
/-! ===== BEGIN words of one list among another's, by their places ===== -/
theorem goodIn_r {big : List Cond} (ws : List Cond) (ps : List Nat) (hp : ws = ps.filterMap (fun i => big[i]?)) (h : ws.all goodWord = true) : GoodIn big ws := by
  intro w hw
  have h1 := List.all_eq_true.mp h w hw
  rw [hp] at hw
  obtain ⟨i, -, hi⟩ := List.mem_filterMap.mp hw
  have hm : w ∈ big := by first | exact List.mem_of_getElem? hi | exact List.getElem?_mem hi
  exact ⟨hm, good_of_word h1⟩
theorem goodIn_app {big a b : List Cond} (ha : GoodIn big a) (hb : GoodIn big b) : GoodIn big (a ++ b) := fun w h => (List.mem_append.mp h).elim (ha w) (hb w)
theorem goodIn_ca {big a b : List Cond} {c : Cond} (ha : GoodIn big (c :: a)) (hb : GoodIn big b) : GoodIn big (c :: (a ++ b)) := fun w h => (List.mem_cons.mp h).elim (fun e => ha w (List.mem_cons.mpr (Or.inl e))) (fun h => (List.mem_append.mp h).elim (fun h => ha w (List.mem_cons.mpr (Or.inr h))) (hb w))
theorem goodIn_sub {big ws : List Cond} (hm : ∀ w ∈ ws, w ∈ big) (h : ws.all goodWord = true) : GoodIn big ws := fun w hw => ⟨hm w hw, good_of_word (List.all_eq_true.mp h w hw)⟩
/-! ===== END ===== -/

/-! ===== BEGIN printed: names, fields, word lists, decode rows ===== -/
def RX0 : String := "WalkHouses$Chain"
def TX0 : u_T := fun k => match k with
  | 0 => ("WalkHouses$Chain", "way", "[I", true)
  | 1 => ("WalkHouses$Chain", "laidIn", "[I", true)
  | 2 => ("WalkHouses$Chain", "arrived", "[Z", true)
  | 3 => ("WalkHouses$Chain", "slept", "[Z", true)
  | 4 => ("WalkHouses$Chain", "size", "I", false)
  | 5 => ("WalkHouses$Chain", "first", "I", false)
  | 6 => ("WalkHouses$Chain", "length", "I", false)
  | 7 => ("WalkHouses$Chain", "state", "I", false)
  | _ => ("WalkHouses$Chain", "done", "I", false)
def tyX0 : Nat → FieldType := fun k => match k with
  | 0 => .array .int
  | 1 => .array .int
  | 2 => .array .boolean
  | 3 => .array .boolean
  | 4 => .int
  | 5 => .int
  | 6 => .int
  | 7 => .int
  | _ => .int
abbrev wsX00 : List Cond := u_ws RX0 TX0 9
theorem nmX0 : ∀ a, a < 9 → ∀ b, b < 9 → a ≠ b → (TX0 a).2.1 ≠ (TX0 b).2.1 := by decide +kernel
theorem tyX0_ok : ∀ k, k < 9 → parseFieldDescriptor (TX0 k).2.2.1 = some (tyX0 k) := by decide +kernel
abbrev cX0_init : ByteArray := prog_2_method_1_code
def yX0_init : MethodName := ⟨RX0, "<init>", "()V"⟩
abbrev cX0_ask : ByteArray := prog_2_method_2_code
def yX0_ask : MethodName := ⟨RX0, "ask", "(III)V"⟩
abbrev cX0_follow : ByteArray := prog_2_method_3_code
def yX0_follow : MethodName := ⟨RX0, "follow", "([II)V"⟩
abbrev cX0_isLaid : ByteArray := prog_2_method_4_code
def yX0_isLaid : MethodName := ⟨RX0, "isLaid", "(I)Z"⟩
abbrev cX0_has : ByteArray := prog_2_method_5_code
def yX0_has : MethodName := ⟨RX0, "has", "(I)Z"⟩
abbrev cX0_isLaidOn : ByteArray := prog_2_method_6_code
def yX0_isLaidOn : MethodName := ⟨RX0, "isLaidOn", "(I)Z"⟩
abbrev cX0_isLaidAt : ByteArray := prog_2_method_7_code
def yX0_isLaidAt : MethodName := ⟨RX0, "isLaidAt", "(II)Z"⟩
abbrev cX0_isLaidBetween : ByteArray := prog_2_method_8_code
def yX0_isLaidBetween : MethodName := ⟨RX0, "isLaidBetween", "(III)Z"⟩
abbrev cX0_sleep : ByteArray := prog_2_method_9_code
def yX0_sleep : MethodName := ⟨RX0, "sleep", "(I)Z"⟩
abbrev cX0_sleptAt : ByteArray := prog_2_method_10_code
def yX0_sleptAt : MethodName := ⟨RX0, "sleptAt", "(II)Z"⟩
abbrev cX0_nightsSlept : ByteArray := prog_2_method_11_code
def yX0_nightsSlept : MethodName := ⟨RX0, "nightsSlept", "()I"⟩
abbrev cX0_didLessThan : ByteArray := prog_2_method_12_code
def yX0_didLessThan : MethodName := ⟨RX0, "didLessThan", "(LWalkHouses$Chain;)Z"⟩
def RX1 : String := "WalkHouses$House"
def TX1 : u_T := fun k => match k with
  | 0 => ("WalkHouses$House", "freeIn", "[I", true)
  | 1 => ("WalkHouses$House", "shut", "[Z", true)
  | 2 => ("WalkHouses$House", "milesTo", "[I", true)
  | 3 => ("WalkHouses$House", "hour", "I", false)
  | 4 => ("WalkHouses$House", "chores", "I", false)
  | 5 => ("WalkHouses$House", "walkersTonight", "I", false)
  | _ => ("WalkHouses$House", "walkersPassed", "I", false)
def tyX1 : Nat → FieldType := fun k => match k with
  | 0 => .array .int
  | 1 => .array .boolean
  | 2 => .array .int
  | 3 => .int
  | 4 => .int
  | 5 => .int
  | _ => .int
abbrev wsX10 : List Cond := u_ws RX1 TX1 7
theorem nmX1 : ∀ a, a < 7 → ∀ b, b < 7 → a ≠ b → (TX1 a).2.1 ≠ (TX1 b).2.1 := by decide +kernel
theorem tyX1_ok : ∀ k, k < 7 → parseFieldDescriptor (TX1 k).2.2.1 = some (tyX1 k) := by decide +kernel
abbrev cX1_init : ByteArray := prog_3_method_1_code
def yX1_init : MethodName := ⟨RX1, "<init>", "()V"⟩
abbrev cX1_furnish : ByteArray := prog_3_method_2_code
def yX1_furnish : MethodName := ⟨RX1, "furnish", "(II)V"⟩
abbrev cX1_freeBeds : ByteArray := prog_3_method_3_code
def yX1_freeBeds : MethodName := ⟨RX1, "freeBeds", "(I)I"⟩
abbrev cX1_hasRoom : ByteArray := prog_3_method_4_code
def yX1_hasRoom : MethodName := ⟨RX1, "hasRoom", "(II)Z"⟩
abbrev cX1_close : ByteArray := prog_3_method_5_code
def yX1_close : MethodName := ⟨RX1, "close", "(II)V"⟩
abbrev cX1_freeInSet : ByteArray := prog_3_method_6_code
def yX1_freeInSet : MethodName := ⟨RX1, "freeInSet", "(II)I"⟩
abbrev cX1_dormsFor : ByteArray := prog_3_method_7_code
def yX1_dormsFor : MethodName := ⟨RX1, "dormsFor", "(II)I"⟩
abbrev cX1_fill : ByteArray := prog_3_method_8_code
def yX1_fill : MethodName := ⟨RX1, "fill", "(II[II)V"⟩
abbrev cX1_clear : ByteArray := prog_3_method_9_code
def yX1_clear : MethodName := ⟨RX1, "clear", "(I[II)V"⟩
abbrev cX1_endNight : ByteArray := prog_3_method_10_code
def yX1_endNight : MethodName := ⟨RX1, "endNight", "()V"⟩
def RX2 : String := "WalkHouses$Letters"
def TX2 : u_T := fun k => match k with
  | 0 => ("WalkHouses$Letters", "chain", "[I", true)
  | 1 => ("WalkHouses$Letters", "mark", "[I", true)
  | 2 => ("WalkHouses$Letters", "day", "[I", true)
  | 3 => ("WalkHouses$Letters", "opened", "[Z", true)
  | _ => ("WalkHouses$Letters", "letterCount", "I", false)
def tyX2 : Nat → FieldType := fun k => match k with
  | 0 => .array .int
  | 1 => .array .int
  | 2 => .array .int
  | 3 => .array .boolean
  | _ => .int
abbrev wsX20 : List Cond := u_ws RX2 TX2 5
theorem nmX2 : ∀ a, a < 5 → ∀ b, b < 5 → a ≠ b → (TX2 a).2.1 ≠ (TX2 b).2.1 := by decide +kernel
theorem tyX2_ok : ∀ k, k < 5 → parseFieldDescriptor (TX2 k).2.2.1 = some (tyX2 k) := by decide +kernel
abbrev cX2_init : ByteArray := prog_4_method_1_code
def yX2_init : MethodName := ⟨RX2, "<init>", "()V"⟩
abbrev cX2_receive : ByteArray := prog_4_method_2_code
def yX2_receive : MethodName := ⟨RX2, "receive", "(III)I"⟩
abbrev cX2_nextToOpen : ByteArray := prog_4_method_3_code
def yX2_nextToOpen : MethodName := ⟨RX2, "nextToOpen", "(I)I"⟩
abbrev cX2_unopened : ByteArray := prog_4_method_4_code
def yX2_unopened : MethodName := ⟨RX2, "unopened", "()I"⟩
def RX3 : String := "WalkHouses$PayBack"
def TX3 : u_T := fun k => match k with
  | 0 => ("WalkHouses$PayBack", "notice", "[I", true)
  | 1 => ("WalkHouses$PayBack", "hundredths", "[I", true)
  | _ => ("WalkHouses$PayBack", "lineCount", "I", false)
def tyX3 : Nat → FieldType := fun k => match k with
  | 0 => .array .int
  | 1 => .array .int
  | _ => .int
abbrev wsX30 : List Cond := u_ws RX3 TX3 3
theorem nmX3 : ∀ a, a < 3 → ∀ b, b < 3 → a ≠ b → (TX3 a).2.1 ≠ (TX3 b).2.1 := by decide +kernel
theorem tyX3_ok : ∀ k, k < 3 → parseFieldDescriptor (TX3 k).2.2.1 = some (tyX3 k) := by decide +kernel
abbrev cX3_init : ByteArray := prog_5_method_1_code
def yX3_init : MethodName := ⟨RX3, "<init>", "()V"⟩
abbrev cX3_write : ByteArray := prog_5_method_2_code
def yX3_write : MethodName := ⟨RX3, "write", "(II)I"⟩
abbrev cX3_hundredthsFor : ByteArray := prog_5_method_3_code
def yX3_hundredthsFor : MethodName := ⟨RX3, "hundredthsFor", "(I)I"⟩
def RX4 : String := "WalkHouses$Road"
def TX4 : u_T := fun k => match k with
  | 0 => ("WalkHouses$Road", "houses", "[LWalkHouses$House;", true)
  | 1 => ("WalkHouses$Road", "houseCount", "I", false)
  | _ => ("WalkHouses$Road", "stageCount", "I", false)
def tyX4 : Nat → FieldType := fun k => match k with
  | 0 => .array (.object "WalkHouses$House")
  | 1 => .int
  | _ => .int
abbrev wsX40 : List Cond := u_ws RX4 TX4 3
theorem nmX4 : ∀ a, a < 3 → ∀ b, b < 3 → a ≠ b → (TX4 a).2.1 ≠ (TX4 b).2.1 := by decide +kernel
theorem tyX4_ok : ∀ k, k < 3 → parseFieldDescriptor (TX4 k).2.2.1 = some (tyX4 k) := by decide +kernel
abbrev cX4_init : ByteArray := prog_6_method_1_code
def yX4_init : MethodName := ⟨RX4, "<init>", "()V"⟩
abbrev cX4_hasHouse : ByteArray := prog_6_method_2_code
def yX4_hasHouse : MethodName := ⟨RX4, "hasHouse", "(I)Z"⟩
abbrev cX4_build : ByteArray := prog_6_method_3_code
def yX4_build : MethodName := ⟨RX4, "build", "(IIII)I"⟩
abbrev cX4_join : ByteArray := prog_6_method_4_code
def yX4_join : MethodName := ⟨RX4, "join", "(III)I"⟩
abbrev cX4_joined : ByteArray := prog_6_method_5_code
def yX4_joined : MethodName := ⟨RX4, "joined", "(II)Z"⟩
abbrev cX4_firstBar : ByteArray := prog_6_method_6_code
def yX4_firstBar : MethodName := ⟨RX4, "firstBar", "(LWalkHouses$Chain;)I"⟩
abbrev cX4_milesSlept : ByteArray := prog_6_method_7_code
def yX4_milesSlept : MethodName := ⟨RX4, "milesSlept", "(LWalkHouses$Chain;)I"⟩
def RX5 : String := "WalkHouses$WayFinder"
def TX5 : u_T := fun k => match k with
  | 0 => ("WalkHouses$WayFinder", "road", "LWalkHouses$Road;", true)
  | 1 => ("WalkHouses$WayFinder", "parting", "[I", true)
  | _ => ("WalkHouses$WayFinder", "found", "[I", true)
def tyX5 : Nat → FieldType := fun k => match k with
  | 0 => .object "WalkHouses$Road"
  | 1 => .array .int
  | _ => .array .int
abbrev wsX50 : List Cond := u_ws RX5 TX5 3
theorem nmX5 : ∀ a, a < 3 → ∀ b, b < 3 → a ≠ b → (TX5 a).2.1 ≠ (TX5 b).2.1 := by decide +kernel
theorem tyX5_ok : ∀ k, k < 3 → parseFieldDescriptor (TX5 k).2.2.1 = some (tyX5 k) := by decide +kernel
abbrev cX5_init : ByteArray := prog_7_method_1_code
def yX5_init : MethodName := ⟨RX5, "<init>", "(LWalkHouses$Road;)V"⟩
abbrev cX5_find : ByteArray := prog_7_method_2_code
def yX5_find : MethodName := ⟨RX5, "find", "(LWalkHouses$Chain;I)I"⟩
abbrev cX5_leastParting : ByteArray := prog_7_method_3_code
def yX5_leastParting : MethodName := ⟨RX5, "leastParting", "(LWalkHouses$Chain;III)I"⟩
abbrev cX5_canBeIn : ByteArray := prog_7_method_4_code
def yX5_canBeIn : MethodName := ⟨RX5, "canBeIn", "(LWalkHouses$Chain;III)Z"⟩
abbrev cX5_leastNext : ByteArray := prog_7_method_5_code
def yX5_leastNext : MethodName := ⟨RX5, "leastNext", "(II)I"⟩
abbrev cX5_trace : ByteArray := prog_7_method_6_code
def yX5_trace : MethodName := ⟨RX5, "trace", "(LWalkHouses$Chain;I)V"⟩
def RX6 : String := "WalkHouses"
def TX6 : u_T := fun k => match k with
  | 0 => ("WalkHouses", "road", "LWalkHouses$Road;", true)
  | 1 => ("WalkHouses", "finder", "LWalkHouses$WayFinder;", true)
  | 2 => ("WalkHouses", "chains", "[LWalkHouses$Chain;", true)
  | 3 => ("WalkHouses", "letters", "LWalkHouses$Letters;", true)
  | 4 => ("WalkHouses", "payBack", "LWalkHouses$PayBack;", true)
  | 5 => ("WalkHouses", "bedsOfWalkers", "[I", true)
  | 6 => ("WalkHouses", "chainCount", "I", false)
  | 7 => ("WalkHouses", "now", "I", false)
  | _ => ("WalkHouses", "walkersSoFar", "I", false)
def tyX6 : Nat → FieldType := fun k => match k with
  | 0 => .object "WalkHouses$Road"
  | 1 => .object "WalkHouses$WayFinder"
  | 2 => .array (.object "WalkHouses$Chain")
  | 3 => .object "WalkHouses$Letters"
  | 4 => .object "WalkHouses$PayBack"
  | 5 => .array .int
  | 6 => .int
  | 7 => .int
  | _ => .int
abbrev wsX60 : List Cond := u_ws RX6 TX6 9
theorem nmX6 : ∀ a, a < 9 → ∀ b, b < 9 → a ≠ b → (TX6 a).2.1 ≠ (TX6 b).2.1 := by decide +kernel
theorem tyX6_ok : ∀ k, k < 9 → parseFieldDescriptor (TX6 k).2.2.1 = some (tyX6 k) := by decide +kernel
abbrev cX6_init : ByteArray := prog_1_method_1_code
def yX6_init : MethodName := ⟨RX6, "<init>", "()V"⟩
abbrev cX6_house : ByteArray := prog_1_method_2_code
def yX6_house : MethodName := ⟨RX6, "house", "(IIII)I"⟩
abbrev cX6_stage : ByteArray := prog_1_method_3_code
def yX6_stage : MethodName := ⟨RX6, "stage", "(III)I"⟩
abbrev cX6_chores : ByteArray := prog_1_method_4_code
def yX6_chores : MethodName := ⟨RX6, "chores", "(II)I"⟩
abbrev cX6_free : ByteArray := prog_1_method_5_code
def yX6_free : MethodName := ⟨RX6, "free", "(III)I"⟩
abbrev cX6_isShut : ByteArray := prog_1_method_6_code
def yX6_isShut : MethodName := ⟨RX6, "isShut", "(II)I"⟩
abbrev cX6_shut : ByteArray := prog_1_method_7_code
def yX6_shut : MethodName := ⟨RX6, "shut", "(III)I"⟩
abbrev cX6_chain : ByteArray := prog_1_method_8_code
def yX6_chain : MethodName := ⟨RX6, "chain", "(III)I"⟩
abbrev cX6_add : ByteArray := prog_1_method_9_code
def yX6_add : MethodName := ⟨RX6, "add", "(II)I"⟩
abbrev cX6_give : ByteArray := prog_1_method_10_code
def yX6_give : MethodName := ⟨RX6, "give", "(I)I"⟩
abbrev cX6_other : ByteArray := prog_1_method_11_code
def yX6_other : MethodName := ⟨RX6, "other", "(I)I"⟩
abbrev cX6_offered : ByteArray := prog_1_method_12_code
def yX6_offered : MethodName := ⟨RX6, "offered", "(II)I"⟩
abbrev cX6_take : ByteArray := prog_1_method_13_code
def yX6_take : MethodName := ⟨RX6, "take", "(I)I"⟩
abbrev cX6_giveUp : ByteArray := prog_1_method_14_code
def yX6_giveUp : MethodName := ⟨RX6, "giveUp", "(I)I"⟩
abbrev cX6_about : ByteArray := prog_1_method_15_code
def yX6_about : MethodName := ⟨RX6, "about", "(II)I"⟩
abbrev cX6_laid : ByteArray := prog_1_method_16_code
def yX6_laid : MethodName := ⟨RX6, "laid", "(III)I"⟩
abbrev cX6_letter : ByteArray := prog_1_method_17_code
def yX6_letter : MethodName := ⟨RX6, "letter", "(III)I"⟩
abbrev cX6_open : ByteArray := prog_1_method_18_code
def yX6_open : MethodName := ⟨RX6, "open", "(I)I"⟩
abbrev cX6_arrive : ByteArray := prog_1_method_19_code
def yX6_arrive : MethodName := ⟨RX6, "arrive", "(I)I"⟩
abbrev cX6_door : ByteArray := prog_1_method_20_code
def yX6_door : MethodName := ⟨RX6, "door", "(III)I"⟩
abbrev cX6_pass : ByteArray := prog_1_method_21_code
def yX6_pass : MethodName := ⟨RX6, "pass", "()I"⟩
abbrev cX6_suppers : ByteArray := prog_1_method_22_code
def yX6_suppers : MethodName := ⟨RX6, "suppers", "(II)I"⟩
abbrev cX6_list : ByteArray := prog_1_method_23_code
def yX6_list : MethodName := ⟨RX6, "list", "(II)I"⟩
abbrev cX6_count : ByteArray := prog_1_method_24_code
def yX6_count : MethodName := ⟨RX6, "count", "(I)I"⟩
abbrev cX6_digest : ByteArray := prog_1_method_25_code
def yX6_digest : MethodName := ⟨RX6, "digest", "()J"⟩
abbrev cX6_within : ByteArray := prog_1_method_26_code
def yX6_within : MethodName := ⟨RX6, "within", "(III)Z"⟩
abbrev cX6_isNight : ByteArray := prog_1_method_27_code
def yX6_isNight : MethodName := ⟨RX6, "isNight", "(I)Z"⟩
abbrev cX6_isChain : ByteArray := prog_1_method_28_code
def yX6_isChain : MethodName := ⟨RX6, "isChain", "(I)Z"⟩
abbrev cX6_canBeGiven : ByteArray := prog_1_method_29_code
def yX6_canBeGiven : MethodName := ⟨RX6, "canBeGiven", "(LWalkHouses$Chain;)Z"⟩
abbrev cX6_chainsThatAre : ByteArray := prog_1_method_30_code
def yX6_chainsThatAre : MethodName := ⟨RX6, "chainsThatAre", "(I)I"⟩
abbrev cX6_giveOwnWay : ByteArray := prog_1_method_31_code
def yX6_giveOwnWay : MethodName := ⟨RX6, "giveOwnWay", "(LWalkHouses$Chain;)I"⟩
abbrev cX6_answer : ByteArray := prog_1_method_32_code
def yX6_answer : MethodName := ⟨RX6, "answer", "(LWalkHouses$Chain;)Z"⟩
abbrev cX6_layFrom : ByteArray := prog_1_method_33_code
def yX6_layFrom : MethodName := ⟨RX6, "layFrom", "(LWalkHouses$Chain;I)V"⟩
abbrev cX6_liftFrom : ByteArray := prog_1_method_34_code
def yX6_liftFrom : MethodName := ⟨RX6, "liftFrom", "(LWalkHouses$Chain;I)V"⟩
abbrev cX6_leadRound : ByteArray := prog_1_method_35_code
def yX6_leadRound : MethodName := ⟨RX6, "leadRound", "(LWalkHouses$Chain;)Z"⟩
abbrev cX6_isLate : ByteArray := prog_1_method_36_code
def yX6_isLate : MethodName := ⟨RX6, "isLate", "(LWalkHouses$Chain;I)Z"⟩
abbrev cX6_bedsOfLate : ByteArray := prog_1_method_37_code
def yX6_bedsOfLate : MethodName := ⟨RX6, "bedsOfLate", "(I)I"⟩
abbrev cX6_clearLate : ByteArray := prog_1_method_38_code
def yX6_clearLate : MethodName := ⟨RX6, "clearLate", "(II)I"⟩
abbrev cX6_sleepTonight : ByteArray := prog_1_method_39_code
def yX6_sleepTonight : MethodName := ⟨RX6, "sleepTonight", "()I"⟩
abbrev cX6_doChores : ByteArray := prog_1_method_40_code
def yX6_doChores : MethodName := ⟨RX6, "doChores", "(I)V"⟩
abbrev cX6_leastDone : ByteArray := prog_1_method_41_code
def yX6_leastDone : MethodName := ⟨RX6, "leastDone", "(I)I"⟩
abbrev cX6_endChains : ByteArray := prog_1_method_42_code
def yX6_endChains : MethodName := ⟨RX6, "endChains", "()V"⟩
def RX7 : String := "WalkHousesModel"
def TX7 : u_T := fun k => match k with
  | 0 => ("WalkHousesModel", "houses", "I", false)
  | 1 => ("WalkHousesModel", "beds", "[I", true)
  | 2 => ("WalkHousesModel", "hours", "[I", true)
  | 3 => ("WalkHousesModel", "choresOf", "[I", true)
  | 4 => ("WalkHousesModel", "isShut", "[Z", true)
  | 5 => ("WalkHousesModel", "doorLaid", "[I", true)
  | 6 => ("WalkHousesModel", "walkers", "I", false)
  | 7 => ("WalkHousesModel", "stages", "I", false)
  | 8 => ("WalkHousesModel", "miles", "[I", true)
  | 9 => ("WalkHousesModel", "now", "I", false)
  | 10 => ("WalkHousesModel", "chains", "I", false)
  | 11 => ("WalkHousesModel", "size", "[I", true)
  | 12 => ("WalkHousesModel", "first", "[I", true)
  | 13 => ("WalkHousesModel", "many", "[I", true)
  | 14 => ("WalkHousesModel", "way", "[I", true)
  | 15 => ("WalkHousesModel", "status", "[I", true)
  | 16 => ("WalkHousesModel", "isLaid", "[Z", true)
  | 17 => ("WalkHousesModel", "laidIn", "[I", true)
  | 18 => ("WalkHousesModel", "slept", "[Z", true)
  | 19 => ("WalkHousesModel", "done", "[I", true)
  | 20 => ("WalkHousesModel", "arrived", "[Z", true)
  | 21 => ("WalkHousesModel", "share", "[I", true)
  | 22 => ("WalkHousesModel", "changes", "[I", true)
  | 23 => ("WalkHousesModel", "found", "[I", true)
  | 24 => ("WalkHousesModel", "lists", "I", false)
  | 25 => ("WalkHousesModel", "notice", "[I", true)
  | 26 => ("WalkHousesModel", "hundredths", "[I", true)
  | 27 => ("WalkHousesModel", "letters", "I", false)
  | 28 => ("WalkHousesModel", "letterChain", "[I", true)
  | 29 => ("WalkHousesModel", "marks", "[I", true)
  | 30 => ("WalkHousesModel", "days", "[I", true)
  | _ => ("WalkHousesModel", "isOpened", "[Z", true)
def tyX7 : Nat → FieldType := fun k => match k with
  | 0 => .int
  | 1 => .array .int
  | 2 => .array .int
  | 3 => .array .int
  | 4 => .array .boolean
  | 5 => .array .int
  | 6 => .int
  | 7 => .int
  | 8 => .array .int
  | 9 => .int
  | 10 => .int
  | 11 => .array .int
  | 12 => .array .int
  | 13 => .array .int
  | 14 => .array .int
  | 15 => .array .int
  | 16 => .array .boolean
  | 17 => .array .int
  | 18 => .array .boolean
  | 19 => .array .int
  | 20 => .array .boolean
  | 21 => .array .int
  | 22 => .array .int
  | 23 => .array .int
  | 24 => .int
  | 25 => .array .int
  | 26 => .array .int
  | 27 => .int
  | 28 => .array .int
  | 29 => .array .int
  | 30 => .array .int
  | _ => .array .boolean
abbrev wsX70 : List Cond := u_ws RX7 TX7 32
theorem nmX7 : ∀ a, a < 32 → ∀ b, b < 32 → a ≠ b → (TX7 a).2.1 ≠ (TX7 b).2.1 := by decide +kernel
theorem tyX7_ok : ∀ k, k < 32 → parseFieldDescriptor (TX7 k).2.2.1 = some (tyX7 k) := by decide +kernel
abbrev cX7_init : ByteArray := prog_9_method_1_code
def yX7_init : MethodName := ⟨RX7, "<init>", "()V"⟩
abbrev cX7_in : ByteArray := prog_9_method_3_code
def yX7_in : MethodName := ⟨RX7, "in", "(III)Z"⟩
abbrev cX7_isHouse : ByteArray := prog_9_method_4_code
def yX7_isHouse : MethodName := ⟨RX7, "isHouse", "(I)Z"⟩
abbrev cX7_isNight : ByteArray := prog_9_method_5_code
def yX7_isNight : MethodName := ⟨RX7, "isNight", "(I)Z"⟩
abbrev cX7_isChain : ByteArray := prog_9_method_6_code
def yX7_isChain : MethodName := ⟨RX7, "isChain", "(I)Z"⟩
abbrev cX7_house : ByteArray := prog_9_method_7_code
def yX7_house : MethodName := ⟨RX7, "house", "(IIII)I"⟩
abbrev cX7_stage : ByteArray := prog_9_method_8_code
def yX7_stage : MethodName := ⟨RX7, "stage", "(III)I"⟩
abbrev cX7_chores : ByteArray := prog_9_method_9_code
def yX7_chores : MethodName := ⟨RX7, "chores", "(II)I"⟩
abbrev cX7_placeOf : ByteArray := prog_9_method_10_code
def yX7_placeOf : MethodName := ⟨RX7, "placeOf", "(II)I"⟩
abbrev cX7_freeIn : ByteArray := prog_9_method_11_code
def yX7_freeIn : MethodName := ⟨RX7, "freeIn", "(III)I"⟩
abbrev cX7_freeOf : ByteArray := prog_9_method_12_code
def yX7_freeOf : MethodName := ⟨RX7, "freeOf", "(II)I"⟩
abbrev cX7_free : ByteArray := prog_9_method_13_code
def yX7_free : MethodName := ⟨RX7, "free", "(III)I"⟩
abbrev cX7_isShut : ByteArray := prog_9_method_14_code
def yX7_isShut : MethodName := ⟨RX7, "isShut", "(II)I"⟩
abbrev cX7_parts : ByteArray := prog_9_method_15_code
def yX7_parts : MethodName := ⟨RX7, "parts", "(III)V"⟩
abbrev cX7_lays : ByteArray := prog_9_method_16_code
def yX7_lays : MethodName := ⟨RX7, "lays", "(II)V"⟩
abbrev cX7_takesOut : ByteArray := prog_9_method_17_code
def yX7_takesOut : MethodName := ⟨RX7, "takesOut", "(II)V"⟩
abbrev cX7_chain : ByteArray := prog_9_method_18_code
def yX7_chain : MethodName := ⟨RX7, "chain", "(III)I"⟩
abbrev cX7_add : ByteArray := prog_9_method_19_code
def yX7_add : MethodName := ⟨RX7, "add", "(II)I"⟩
abbrev cX7_areJoined : ByteArray := prog_9_method_20_code
def yX7_areJoined : MethodName := ⟨RX7, "areJoined", "(II)Z"⟩
abbrev cX7_isOpen : ByteArray := prog_9_method_21_code
def yX7_isOpen : MethodName := ⟨RX7, "isOpen", "(III)Z"⟩
abbrev cX7_bar : ByteArray := prog_9_method_22_code
def yX7_bar : MethodName := ⟨RX7, "bar", "(I)I"⟩
abbrev cX7_gives : ByteArray := prog_9_method_23_code
def yX7_gives : MethodName := ⟨RX7, "gives", "(I)V"⟩
abbrev cX7_refuses : ByteArray := prog_9_method_24_code
def yX7_refuses : MethodName := ⟨RX7, "refuses", "(I)I"⟩
abbrev cX7_give : ByteArray := prog_9_method_25_code
def yX7_give : MethodName := ⟨RX7, "give", "(I)I"⟩
abbrev cX7_ways : ByteArray := prog_9_method_26_code
def yX7_ways : MethodName := ⟨RX7, "ways", "(IIZ)I"⟩
abbrev cX7_other : ByteArray := prog_9_method_27_code
def yX7_other : MethodName := ⟨RX7, "other", "(I)I"⟩
abbrev cX7_offered : ByteArray := prog_9_method_28_code
def yX7_offered : MethodName := ⟨RX7, "offered", "(II)I"⟩
abbrev cX7_take : ByteArray := prog_9_method_29_code
def yX7_take : MethodName := ⟨RX7, "take", "(I)I"⟩
abbrev cX7_list : ByteArray := prog_9_method_30_code
def yX7_list : MethodName := ⟨RX7, "list", "(II)I"⟩
abbrev cX7_giveUp : ByteArray := prog_9_method_31_code
def yX7_giveUp : MethodName := ⟨RX7, "giveUp", "(I)I"⟩
abbrev cX7_isLaidThere : ByteArray := prog_9_method_32_code
def yX7_isLaidThere : MethodName := ⟨RX7, "isLaidThere", "(IIII)Z"⟩
abbrev cX7_leads : ByteArray := prog_9_method_33_code
def yX7_leads : MethodName := ⟨RX7, "leads", "(I)Z"⟩
abbrev cX7_shut : ByteArray := prog_9_method_34_code
def yX7_shut : MethodName := ⟨RX7, "shut", "(III)I"⟩
abbrev cX7_milesOf : ByteArray := prog_9_method_35_code
def yX7_milesOf : MethodName := ⟨RX7, "milesOf", "(I)I"⟩
abbrev cX7_nightsSlept : ByteArray := prog_9_method_36_code
def yX7_nightsSlept : MethodName := ⟨RX7, "nightsSlept", "(I)I"⟩
abbrev cX7_about : ByteArray := prog_9_method_37_code
def yX7_about : MethodName := ⟨RX7, "about", "(II)I"⟩
abbrev cX7_laid : ByteArray := prog_9_method_38_code
def yX7_laid : MethodName := ⟨RX7, "laid", "(III)I"⟩
abbrev cX7_letter : ByteArray := prog_9_method_39_code
def yX7_letter : MethodName := ⟨RX7, "letter", "(III)I"⟩
abbrev cX7_open : ByteArray := prog_9_method_40_code
def yX7_open : MethodName := ⟨RX7, "open", "(I)I"⟩
abbrev cX7_arrive : ByteArray := prog_9_method_41_code
def yX7_arrive : MethodName := ⟨RX7, "arrive", "(I)I"⟩
abbrev cX7_mayLose : ByteArray := prog_9_method_42_code
def yX7_mayLose : MethodName := ⟨RX7, "mayLose", "(II)Z"⟩
abbrev cX7_door : ByteArray := prog_9_method_43_code
def yX7_door : MethodName := ⟨RX7, "door", "(III)I"⟩
abbrev cX7_worker : ByteArray := prog_9_method_44_code
def yX7_worker : MethodName := ⟨RX7, "worker", "(I)I"⟩
abbrev cX7_pass : ByteArray := prog_9_method_45_code
def yX7_pass : MethodName := ⟨RX7, "pass", "()I"⟩
abbrev cX7_suppers : ByteArray := prog_9_method_46_code
def yX7_suppers : MethodName := ⟨RX7, "suppers", "(II)I"⟩
abbrev cX7_inStatus : ByteArray := prog_9_method_47_code
def yX7_inStatus : MethodName := ⟨RX7, "inStatus", "(I)I"⟩
abbrev cX7_count : ByteArray := prog_9_method_48_code
def yX7_count : MethodName := ⟨RX7, "count", "(I)I"⟩
abbrev cX7_digest : ByteArray := prog_9_method_49_code
def yX7_digest : MethodName := ⟨RX7, "digest", "()J"⟩
def RJ9 : String := "java/lang/Math"
def TJ9 : u_T := fun k => match k with
  | _ => ("", "", "", false)
def tyJ9 : Nat → FieldType := fun k => match k with
  | _ => .int
abbrev wsJ90 : List Cond := u_ws RJ9 TJ9 0
theorem nmJ9 : ∀ a, a < 0 → ∀ b, b < 0 → a ≠ b → (TJ9 a).2.1 ≠ (TJ9 b).2.1 := by decide +kernel
theorem tyJ9_ok : ∀ k, k < 0 → parseFieldDescriptor (TJ9 k).2.2.1 = some (tyJ9 k) := by decide +kernel
abbrev cJ9_max_7cf53 : ByteArray := prog_10_method_65_code
def yJ9_max_7cf53 : MethodName := ⟨RJ9, "max", "(II)I"⟩
abbrev cJ9_min_7cf53 : ByteArray := prog_10_method_69_code
def yJ9_min_7cf53 : MethodName := ⟨RJ9, "min", "(II)I"⟩
def RL : String := "WalkHousesLaw"
abbrev cL_law : ByteArray := code
def yL_law : MethodName := ⟨RL, "law", "([I)Z"⟩
end
section
/-! tables of the program: classes, methods, pool entries, with their places in lw_tbl -/
def zRn : Nat → String := fun c => match c with
  | 0 => RX0
  | 1 => RX1
  | 2 => RX2
  | 3 => RX3
  | 4 => RX4
  | 5 => RX5
  | 6 => RX6
  | 7 => RX7
  | _ => RL
def zT : Nat → u_T := fun c => match c with
  | 0 => TX0
  | 1 => TX1
  | 2 => TX2
  | 3 => TX3
  | 4 => TX4
  | 5 => TX5
  | 6 => TX6
  | _ => TX7
def zty : Nat → Nat → FieldType := fun c => match c with
  | 0 => tyX0
  | 1 => tyX1
  | 2 => tyX2
  | 3 => tyX3
  | 4 => tyX4
  | 5 => tyX5
  | 6 => tyX6
  | _ => tyX7
def zN : Nat → Nat := fun c => match c with
  | 0 => 9
  | 1 => 7
  | 2 => 5
  | 3 => 3
  | 4 => 3
  | 5 => 3
  | 6 => 9
  | 7 => 32
  | _ => 0
abbrev zCl : List vw_C := [(RX0, TX0, 9), (RX1, TX1, 7), (RX2, TX2, 5), (RX3, TX3, 3), (RX4, TX4, 3), (RX5, TX5, 3), (RX6, TX6, 9), (RX7, TX7, 32)]
abbrev zE : Type := MethodName × ByteArray × Nat × Option FieldType × Nat × Nat × Nat × Nat × Nat × Nat
def zmT0 : List zE := [
  (yX0_init, cX0_init, 1, none, 0, 0, 179, 178, 0, 47),
  (yX0_ask, cX0_ask, 4, none, 0, 3, 407, 405, 406, 47),
  (yX0_follow, cX0_follow, 4, none, 0, 2, 378, 376, 377, 47),
  (yX0_isLaid, cX0_isLaid, 4, (some .boolean), 0, 1, 332, 330, 331, 47),
  (yX0_has, cX0_has, 2, (some .boolean), 0, 1, 327, 325, 326, 47),
  (yX0_isLaidOn, cX0_isLaidOn, 2, (some .boolean), 0, 1, 323, 321, 322, 47),
  (yX0_isLaidAt, cX0_isLaidAt, 3, (some .boolean), 0, 2, 319, 317, 318, 47),
  (yX0_isLaidBetween, cX0_isLaidBetween, 5, (some .boolean), 0, 3, 315, 313, 314, 47),
  (yX0_sleep, cX0_sleep, 2, (some .boolean), 0, 1, 524, 522, 523, 47),
  (yX0_sleptAt, cX0_sleptAt, 3, (some .boolean), 0, 2, 536, 534, 535, 47),
  (yX0_nightsSlept, cX0_nightsSlept, 3, (some .int), 0, 0, 466, 464, 465, 47),
  (yX0_didLessThan, cX0_didLessThan, 2, (some .boolean), 0, 1, 540, 538, 539, 47),
  (yX1_init, cX1_init, 1, none, 1, 0, 69, 68, 0, 43),
  (yX1_furnish, cX1_furnish, 4, none, 1, 2, 267, 265, 266, 43),
  (yX1_freeBeds, cX1_freeBeds, 4, (some .int), 1, 1, 299, 297, 298, 43),
  (yX1_hasRoom, cX1_hasRoom, 3, (some .boolean), 1, 2, 364, 362, 363, 43),
  (yX1_close, cX1_close, 4, none, 1, 2, 311, 309, 310, 43),
  (yX1_freeInSet, cX1_freeInSet, 5, (some .int), 1, 2, 396, 394, 395, 43),
  (yX1_dormsFor, cX1_dormsFor, 4, (some .int), 1, 2, 390, 388, 389, 43),
  (yX1_fill, cX1_fill, 9, none, 1, 4, 386, 384, 385, 43),
  (yX1_clear, cX1_clear, 5, none, 1, 3, 347, 345, 346, 43),
  (yX1_endNight, cX1_endNight, 1, none, 1, 0, 544, 542, 543, 43)]
def zmT1 : List zE := [
  (yX2_init, cX2_init, 1, none, 2, 0, 139, 138, 0, 45),
  (yX2_receive, cX2_receive, 4, (some .int), 2, 3, 478, 476, 477, 45),
  (yX2_nextToOpen, cX2_nextToOpen, 5, (some .int), 2, 1, 486, 484, 485, 45),
  (yX2_unopened, cX2_unopened, 3, (some .int), 2, 0, 568, 566, 567, 45),
  (yX3_init, cX3_init, 1, none, 3, 0, 163, 162, 0, 46),
  (yX3_write, cX3_write, 3, (some .int), 3, 2, 560, 558, 559, 46),
  (yX3_hundredthsFor, cX3_hundredthsFor, 4, (some .int), 3, 1, 453, 451, 452, 46),
  (yX4_init, cX4_init, 2, none, 4, 0, 62, 61, 0, 42),
  (yX4_hasHouse, cX4_hasHouse, 2, (some .boolean), 4, 1, 275, 273, 274, 42),
  (yX4_build, cX4_build, 6, (some .int), 4, 4, 263, 261, 262, 42),
  (yX4_join, cX4_join, 4, (some .int), 4, 3, 284, 282, 283, 42),
  (yX4_joined, cX4_joined, 3, (some .boolean), 4, 2, 280, 278, 279, 42),
  (yX4_firstBar, cX4_firstBar, 4, (some .int), 4, 1, 431, 429, 430, 42),
  (yX4_milesSlept, cX4_milesSlept, 4, (some .int), 4, 1, 462, 460, 461, 42),
  (yX5_init, cX5_init, 2, none, 5, 1, 120, 119, 0, 44),
  (yX5_find, cX5_find, 6, (some .int), 5, 2, 351, 349, 350, 44),
  (yX5_leastParting, cX5_leastParting, 7, (some .int), 5, 4, 356, 355, 2, 44),
  (yX5_canBeIn, cX5_canBeIn, 5, (some .boolean), 5, 4, 360, 359, 3, 44),
  (yX5_leastNext, cX5_leastNext, 7, (some .int), 5, 2, 369, 368, 4, 44),
  (yX5_trace, cX5_trace, 5, none, 5, 2, 374, 373, 5, 44),
  (yX6_init, cX6_init, 2, none, 6, 0, 54, 53, 0, 41),
  (yX6_house, cX6_house, 6, (some .int), 6, 4, 256, 254, 255, 41)]
def zmT2 : List zE := [
  (yX6_stage, cX6_stage, 4, (some .int), 6, 3, 271, 269, 270, 41),
  (yX6_chores, cX6_chores, 5, (some .int), 6, 2, 288, 286, 287, 41),
  (yX6_free, cX6_free, 5, (some .int), 6, 3, 292, 290, 291, 41),
  (yX6_isShut, cX6_isShut, 3, (some .int), 6, 2, 303, 301, 302, 41),
  (yX6_shut, cX6_shut, 7, (some .int), 6, 3, 307, 305, 306, 41),
  (yX6_chain, cX6_chain, 4, (some .int), 6, 3, 403, 401, 402, 41),
  (yX6_add, cX6_add, 4, (some .int), 6, 2, 411, 409, 410, 41),
  (yX6_give, cX6_give, 2, (some .int), 6, 1, 419, 417, 418, 41),
  (yX6_other, cX6_other, 2, (some .int), 6, 1, 437, 435, 436, 41),
  (yX6_offered, cX6_offered, 3, (some .int), 6, 2, 441, 439, 440, 41),
  (yX6_take, cX6_take, 4, (some .int), 6, 1, 445, 443, 444, 41),
  (yX6_giveUp, cX6_giveUp, 3, (some .int), 6, 1, 449, 447, 448, 41),
  (yX6_about, cX6_about, 4, (some .int), 6, 2, 457, 455, 456, 41),
  (yX6_laid, cX6_laid, 4, (some .int), 6, 3, 470, 468, 469, 41),
  (yX6_letter, cX6_letter, 4, (some .int), 6, 3, 474, 472, 473, 41),
  (yX6_open, cX6_open, 5, (some .int), 6, 1, 482, 480, 481, 41),
  (yX6_arrive, cX6_arrive, 3, (some .int), 6, 1, 494, 492, 493, 41),
  (yX6_door, cX6_door, 6, (some .int), 6, 3, 499, 497, 498, 41),
  (yX6_pass, cX6_pass, 3, (some .int), 6, 0, 516, 514, 515, 41),
  (yX6_suppers, cX6_suppers, 5, (some .int), 6, 2, 552, 550, 551, 41),
  (yX6_list, cX6_list, 3, (some .int), 6, 2, 556, 554, 555, 41),
  (yX6_count, cX6_count, 2, (some .int), 6, 1, 564, 562, 563, 41)]
def zmT3 : List zE := [
  (yX6_digest, cX6_digest, 5, (some .long), 6, 0, 576, 574, 575, 41),
  (yX6_within, cX6_within, 3, (some .boolean), 6, 3, 259, 258, 0, 41),
  (yX6_isNight, cX6_isNight, 1, (some .boolean), 6, 1, 295, 294, 0, 41),
  (yX6_isChain, cX6_isChain, 2, (some .boolean), 6, 1, 415, 414, 7, 41),
  (yX6_canBeGiven, cX6_canBeGiven, 2, (some .boolean), 6, 1, 423, 422, 8, 41),
  (yX6_chainsThatAre, cX6_chainsThatAre, 4, (some .int), 6, 1, 572, 571, 18, 41),
  (yX6_giveOwnWay, cX6_giveOwnWay, 3, (some .int), 6, 1, 427, 426, 9, 41),
  (yX6_answer, cX6_answer, 2, (some .boolean), 6, 1, 490, 489, 10, 41),
  (yX6_layFrom, cX6_layFrom, 4, none, 6, 2, 382, 381, 6, 41),
  (yX6_liftFrom, cX6_liftFrom, 4, none, 6, 2, 343, 342, 1, 41),
  (yX6_leadRound, cX6_leadRound, 3, (some .boolean), 6, 1, 336, 335, 0, 41),
  (yX6_isLate, cX6_isLate, 3, (some .boolean), 6, 2, 507, 506, 12, 41),
  (yX6_bedsOfLate, cX6_bedsOfLate, 4, (some .int), 6, 1, 503, 502, 11, 41),
  (yX6_clearLate, cX6_clearLate, 6, (some .int), 6, 2, 512, 511, 13, 41),
  (yX6_sleepTonight, cX6_sleepTonight, 3, (some .int), 6, 0, 520, 519, 14, 41),
  (yX6_doChores, cX6_doChores, 4, none, 6, 1, 528, 527, 15, 41),
  (yX6_leastDone, cX6_leastDone, 4, (some .int), 6, 1, 532, 531, 16, 41),
  (yX6_endChains, cX6_endChains, 3, none, 6, 0, 548, 547, 17, 41),
  (yX7_init, cX7_init, 1, none, 7, 0, 585, 584, 0, 48),
  (yX7_in, cX7_in, 3, (some .boolean), 7, 3, 690, 689, 0, 48),
  (yX7_isHouse, cX7_isHouse, 2, (some .boolean), 7, 1, 698, 697, 19, 48),
  (yX7_isNight, cX7_isNight, 1, (some .boolean), 7, 1, 709, 708, 0, 48)]
def zmT4 : List zE := [
  (yX7_isChain, cX7_isChain, 2, (some .boolean), 7, 1, 737, 736, 23, 48),
  (yX7_house, cX7_house, 5, (some .int), 7, 4, 687, 685, 686, 48),
  (yX7_stage, cX7_stage, 4, (some .int), 7, 3, 694, 692, 693, 48),
  (yX7_chores, cX7_chores, 4, (some .int), 7, 2, 702, 700, 701, 48),
  (yX7_placeOf, cX7_placeOf, 4, (some .int), 7, 2, 721, 720, 22, 48),
  (yX7_freeIn, cX7_freeIn, 7, (some .int), 7, 3, 717, 716, 21, 48),
  (yX7_freeOf, cX7_freeOf, 3, (some .int), 7, 2, 713, 712, 20, 48),
  (yX7_free, cX7_free, 4, (some .int), 7, 3, 706, 704, 705, 48),
  (yX7_isShut, cX7_isShut, 3, (some .int), 7, 2, 725, 723, 724, 48),
  (yX7_parts, cX7_parts, 10, none, 7, 3, 769, 768, 30, 48),
  (yX7_lays, cX7_lays, 5, none, 7, 2, 765, 764, 29, 48),
  (yX7_takesOut, cX7_takesOut, 3, none, 7, 2, 797, 796, 32, 48),
  (yX7_chain, cX7_chain, 4, (some .int), 7, 3, 729, 727, 728, 48),
  (yX7_add, cX7_add, 3, (some .int), 7, 2, 733, 731, 732, 48),
  (yX7_areJoined, cX7_areJoined, 3, (some .boolean), 7, 2, 753, 752, 26, 48),
  (yX7_isOpen, cX7_isOpen, 4, (some .boolean), 7, 3, 757, 756, 27, 48),
  (yX7_bar, cX7_bar, 4, (some .int), 7, 1, 749, 748, 25, 48),
  (yX7_gives, cX7_gives, 3, none, 7, 1, 761, 760, 28, 48),
  (yX7_refuses, cX7_refuses, 2, (some .int), 7, 1, 745, 744, 24, 48),
  (yX7_give, cX7_give, 4, (some .int), 7, 1, 741, 739, 740, 48),
  (yX7_ways, cX7_ways, 12, (some .int), 7, 3, 777, 776, 31, 48),
  (yX7_other, cX7_other, 3, (some .int), 7, 1, 773, 771, 772, 48)]
def zmT5 : List zE := [
  (yX7_offered, cX7_offered, 4, (some .int), 7, 2, 781, 779, 780, 48),
  (yX7_take, cX7_take, 5, (some .int), 7, 1, 785, 783, 784, 48),
  (yX7_list, cX7_list, 3, (some .int), 7, 2, 789, 787, 788, 48),
  (yX7_giveUp, cX7_giveUp, 5, (some .int), 7, 1, 793, 791, 792, 48),
  (yX7_isLaidThere, cX7_isLaidThere, 6, (some .boolean), 7, 4, 805, 804, 33, 48),
  (yX7_leads, cX7_leads, 6, (some .boolean), 7, 1, 809, 808, 34, 48),
  (yX7_shut, cX7_shut, 6, (some .int), 7, 3, 801, 799, 800, 48),
  (yX7_milesOf, cX7_milesOf, 5, (some .int), 7, 1, 817, 816, 35, 48),
  (yX7_nightsSlept, cX7_nightsSlept, 4, (some .int), 7, 1, 821, 820, 36, 48),
  (yX7_about, cX7_about, 3, (some .int), 7, 2, 813, 811, 812, 48),
  (yX7_laid, cX7_laid, 5, (some .int), 7, 3, 825, 823, 824, 48),
  (yX7_letter, cX7_letter, 4, (some .int), 7, 3, 829, 827, 828, 48),
  (yX7_open, cX7_open, 5, (some .int), 7, 1, 833, 831, 832, 48),
  (yX7_arrive, cX7_arrive, 3, (some .int), 7, 1, 837, 835, 836, 48),
  (yX7_mayLose, cX7_mayLose, 4, (some .boolean), 7, 2, 845, 844, 37, 48),
  (yX7_door, cX7_door, 8, (some .int), 7, 3, 841, 839, 840, 48),
  (yX7_worker, cX7_worker, 5, (some .int), 7, 1, 853, 852, 38, 48),
  (yX7_pass, cX7_pass, 5, (some .int), 7, 0, 849, 847, 848, 48),
  (yX7_suppers, cX7_suppers, 6, (some .int), 7, 2, 857, 855, 856, 48),
  (yX7_inStatus, cX7_inStatus, 4, (some .int), 7, 1, 865, 864, 39, 48),
  (yX7_count, cX7_count, 4, (some .int), 7, 1, 861, 859, 860, 48),
  (yX7_digest, cX7_digest, 5, (some .long), 7, 0, 869, 867, 868, 48)]
def zmT : List zE := zmT0 ++ (zmT1 ++ (zmT2 ++ (zmT3 ++ (zmT4 ++ (zmT5)))))
/-- the law itself stands behind the others -/
def zm0 : zE := (yL_law, cL_law, 4, some .boolean, 8, 1, 0, 0, 0, 0)
def zm (j : Nat) : zE := zmT.getD j zm0
def zy (j : Nat) : MethodName := (zm j).1
def zc (j : Nat) : ByteArray := (zm j).2.1
def zn (j : Nat) : Nat := (zm j).2.2.1
def zr (j : Nat) : Option FieldType := (zm j).2.2.2.1
def zo (j : Nat) : Nat := (zm j).2.2.2.2.1
def zp (j : Nat) : Nat := (zm j).2.2.2.2.2.1
def zlaw : Nat := 132
def zflT : List (Nat × Nat × Nat × Nat × Nat) := [(1, 9, 1, 0, 71), (6, 87, 1, 0, 72), (1, 15, 1, 1, 73), (6, 90, 1, 1, 74), (1, 19, 1, 2, 75), (4, 36, 1, 2, 76), (4, 30, 1, 3, 77), (6, 198, 1, 3, 78), (6, 74, 1, 4, 79), (1, 45, 1, 5, 80), (6, 212, 1, 5, 81), (1, 41, 1, 6, 82), (6, 237, 1, 6, 83), (4, 11, 4, 0, 101), (6, 70, 4, 0, 102), (5, 57, 4, 0, 103), (4, 18, 4, 1, 104), (5, 34, 4, 1, 105), (6, 221, 4, 1, 106), (4, 33, 4, 2, 107), (6, 243, 4, 2, 108), (5, 18, 5, 0, 122), (5, 9, 5, 1, 123), (5, 15, 5, 2, 124), (6, 141, 5, 2, 125), (2, 9, 2, 0, 141), (6, 186, 2, 0, 142), (2, 15, 2, 1, 143), (2, 18, 2, 2, 144), (2, 21, 2, 3, 145), (6, 183, 2, 3, 146), (2, 25, 2, 4, 147), (3, 9, 3, 0, 165), (3, 15, 3, 1, 166), (3, 18, 3, 2, 167), (6, 252, 3, 2, 168), (0, 9, 0, 0, 181), (5, 43, 0, 0, 182), (4, 45, 0, 0, 183), (6, 127, 0, 0, 184), (0, 15, 0, 1, 185), (6, 174, 0, 1, 186), (0, 18, 0, 2, 187), (6, 195, 0, 2, 188), (0, 22, 0, 3, 189), (4, 61, 0, 3, 190), (0, 25, 0, 4, 191), (5, 64, 0, 4, 192), (4, 55, 0, 4, 193), (6, 161, 0, 4, 194), (0, 29, 0, 5, 195), (5, 61, 0, 5, 196), (4, 52, 0, 5, 197), (6, 121, 0, 5, 198), (5, 28, 0, 6, 199), (0, 32, 0, 6, 200), (4, 40, 0, 6, 201), (6, 124, 0, 6, 202), (6, 104, 0, 7, 203), (0, 53, 0, 8, 204), (6, 167, 0, 8, 205), (6, 10, 6, 0, 225), (6, 21, 6, 1, 226), (6, 27, 6, 2, 227), (6, 34, 6, 3, 228), (6, 41, 6, 4, 229), (6, 45, 6, 5, 230), (6, 101, 6, 6, 231), (6, 94, 6, 7, 232), (6, 215, 6, 8, 233), (7, 86, 7, 0, 587), (7, 7, 7, 1, 588), (7, 13, 7, 2, 589), (7, 16, 7, 3, 590), (7, 19, 7, 4, 591), (7, 23, 7, 5, 592), (7, 179, 7, 6, 593), (7, 101, 7, 7, 594), (7, 26, 7, 8, 595), (7, 122, 7, 9, 596), (7, 94, 7, 10, 597), (7, 29, 7, 11, 598), (7, 32, 7, 12, 599), (7, 35, 7, 13, 600), (7, 38, 7, 14, 601), (7, 41, 7, 15, 602), (7, 44, 7, 16, 603), (7, 47, 7, 17, 604), (7, 50, 7, 18, 605), (7, 53, 7, 19, 606), (7, 56, 7, 20, 607), (7, 59, 7, 21, 608), (7, 62, 7, 22, 609), (7, 65, 7, 23, 610), (7, 154, 7, 24, 611), (7, 68, 7, 25, 612), (7, 71, 7, 26, 613), (7, 173, 7, 27, 614), (7, 74, 7, 28, 615), (7, 77, 7, 29, 616), (7, 80, 7, 30, 617), (7, 83, 7, 31, 618)]
/-- own, place, kind (0 virtual, 1 static, 2 init, 3 static of a nest mate, 4 init of a nest mate, 5 Object.init, 6 max, 7 min), method, word -/
def zmlT : List (Nat × Nat × Nat × Nat × Nat) := [(8, 9, 2, 42, 52), (6, 1, 5, 0, 55), (6, 9, 2, 29, 60), (4, 3, 5, 0, 63), (4, 17, 4, 12, 67), (1, 3, 5, 0, 70), (6, 18, 2, 36, 118), (5, 3, 5, 0, 121), (6, 33, 4, 22, 137), (2, 3, 5, 0, 140), (6, 40, 4, 26, 161), (3, 3, 5, 0, 164), (6, 49, 4, 0, 177), (0, 3, 5, 0, 180), (8, 13, 0, 43, 253), (6, 50, 1, 67, 257), (6, 54, 0, 31, 260), (4, 26, 0, 13, 264), (8, 18, 0, 44, 268), (6, 58, 0, 30, 272), (4, 22, 3, 67, 276), (6, 62, 0, 33, 277), (6, 66, 0, 32, 281), (8, 23, 0, 45, 285), (8, 28, 0, 46, 289), (6, 80, 1, 68, 293), (6, 83, 0, 14, 296), (8, 32, 0, 47, 300), (8, 36, 0, 48, 304), (6, 97, 0, 16, 308), (6, 107, 0, 7, 312), (0, 49, 0, 6, 316), (0, 46, 0, 5, 320), (0, 39, 0, 4, 324), (0, 35, 3, 67, 328), (0, 43, 0, 3, 329), (6, 110, 0, 76, 333), (6, 272, 6, 0, 337), (6, 152, 0, 75, 340), (6, 268, 0, 20, 344), (6, 137, 0, 37, 348), (5, 22, 6, 0, 352), (5, 39, 0, 38, 353), (5, 50, 0, 39, 357), (5, 67, 0, 15, 361), (1, 22, 0, 14, 365), (5, 54, 0, 40, 366), (5, 73, 0, 33, 370), (5, 46, 0, 41, 371), (6, 144, 0, 2, 375), (6, 148, 0, 74, 379), (6, 208, 0, 19, 383), (1, 33, 0, 18, 387), (1, 29, 0, 17, 393), (1, 36, 7, 0, 397), (8, 40, 0, 49, 400), (6, 114, 0, 1, 404), (8, 44, 0, 50, 408), (6, 118, 0, 69, 412), (8, 48, 0, 51, 416), (6, 130, 0, 70, 420), (6, 133, 0, 72, 424), (6, 265, 0, 34, 428), (4, 48, 0, 33, 432), (4, 58, 0, 15, 433), (8, 53, 0, 52, 434), (8, 57, 0, 53, 438), (8, 61, 0, 54, 442), (8, 65, 0, 55, 446), (6, 155, 0, 28, 450), (8, 69, 0, 56, 454), (6, 158, 0, 3, 458), (6, 164, 0, 35, 459), (6, 170, 0, 10, 463), (8, 73, 0, 57, 467), (8, 77, 0, 58, 471), (6, 177, 0, 23, 475), (8, 81, 0, 59, 479), (6, 180, 0, 24, 483), (6, 189, 0, 73, 487), (8, 85, 0, 60, 491), (6, 192, 0, 5, 495), (8, 89, 0, 61, 496), (6, 201, 0, 78, 500), (6, 277, 0, 77, 504), (6, 234, 0, 6, 508), (6, 204, 0, 79, 509), (8, 93, 0, 62, 513), (6, 218, 0, 80, 517), (6, 281, 0, 8, 521), (6, 224, 0, 81, 525), (6, 284, 0, 82, 529), (6, 287, 0, 9, 533), (6, 290, 0, 11, 537), (6, 228, 0, 21, 541), (6, 231, 0, 83, 545), (8, 98, 0, 63, 549), (8, 102, 0, 64, 553), (6, 240, 0, 27, 557), (8, 106, 0, 65, 561), (6, 246, 0, 25, 565), (6, 249, 0, 71, 569), (8, 110, 0, 66, 573), (6, 259, 0, 65, 579), (6, 262, 0, 56, 580), (8, 12, 2, 84, 583), (7, 1, 5, 0, 586), (8, 17, 0, 89, 684), (7, 90, 1, 85, 688), (8, 22, 0, 90, 691), (7, 97, 0, 86, 695), (8, 27, 0, 91, 699), (8, 31, 0, 95, 703), (7, 112, 1, 87, 707), (7, 115, 0, 94, 710), (7, 108, 0, 93, 714), (7, 104, 0, 92, 718), (8, 35, 0, 96, 722), (8, 43, 0, 100, 726), (8, 47, 0, 101, 730), (7, 125, 0, 88, 734), (8, 52, 0, 107, 738), (7, 139, 0, 106, 742), (7, 143, 0, 104, 746), (7, 128, 0, 102, 750), (7, 132, 0, 103, 754), (7, 146, 0, 105, 758), (7, 135, 0, 98, 762), (7, 118, 0, 97, 766), (8, 56, 0, 109, 770), (7, 150, 0, 108, 774), (8, 60, 0, 110, 778), (8, 64, 0, 111, 782), (8, 105, 0, 112, 786), (8, 68, 0, 113, 790), (7, 157, 0, 99, 794), (8, 39, 0, 116, 798), (7, 160, 0, 114, 802), (7, 164, 0, 115, 806), (8, 72, 0, 119, 810), (7, 167, 0, 117, 814), (7, 170, 0, 118, 818), (8, 76, 0, 120, 822), (8, 80, 0, 121, 826), (8, 84, 0, 122, 830), (8, 88, 0, 123, 834), (8, 92, 0, 125, 838), (7, 176, 0, 124, 842), (8, 97, 0, 127, 846), (7, 182, 0, 126, 850), (8, 101, 0, 128, 854), (8, 109, 0, 130, 858), (7, 185, 0, 129, 862), (8, 114, 0, 131, 866), (7, 192, 0, 130, 872), (7, 195, 0, 119, 873)]
def zclT : List (Nat × Nat × Nat × Nat × Nat) := [(8, 7, 6, 50, 51), (6, 7, 4, 58, 59), (4, 9, 1, 64, 66), (6, 16, 5, 116, 117), (6, 25, 0, 133, 176), (6, 31, 2, 135, 136), (6, 38, 3, 159, 160), (8, 10, 7, 581, 582)]
def zlcT : List (Nat × Nat × Int64 × Nat) := [(6, 255, 17, 577), (6, 257, 31, 578), (7, 188, 17, 870), (7, 190, 31, 871)]
def zfl (a n : Nat) : Option (Nat × Nat) := (zflT.find? (fun e => e.1 == a && e.2.1 == n)).map (fun e => (e.2.2.1, e.2.2.2.1))
def zml (a n : Nat) : Option (Nat × Nat) := (zmlT.find? (fun e => e.1 == a && e.2.1 == n)).map (fun e => (e.2.2.1, e.2.2.2.1))
def zcl (a n : Nat) : Option Nat := (zclT.find? (fun e => e.1 == a && e.2.1 == n)).map (fun e => e.2.2.1)
def zlc (a n : Nat) : Option Int64 := (zlcT.find? (fun e => e.1 == a && e.2.1 == n)).map (fun e => e.2.2.1)
def zft (j pc : Nat) : Option (Instr × Nat) := match decode (zc j) pc with
  | .ok x => some x
  | .error _ => none
theorem zft_ok {j pc : Nat} {i : Instr} {len : Nat} (h : zft j pc = some (i, len)) : decode (zc j) pc = .ok (i, len) := by
  unfold zft at h
  split at h
  · next x e => rw [e]; cases h; rfl
  · cases h
def zW : List Cond := lw_tbl.filter goodWord
theorem zW_at {w : Cond} (i : Nat) (h : lw_tbl[i]? = some w) (g : goodWord w = true) : w ∈ zW := List.mem_filter.mpr ⟨List.mem_of_getElem? h, g⟩
theorem zW_good {w : Cond} (h : w ∈ zW) : w ∈ lw_tbl ∧ goodWord w = true := List.mem_filter.mp h
def zgw (i : Nat) (w : Cond) : Bool := decide (lw_tbl[i]? = some w) && goodWord w
theorem zgw_in {i : Nat} {w : Cond} (h : zgw i w = true) : w ∈ zW := by
  simp only [zgw, Bool.and_eq_true, decide_eq_true_eq] at h
  exact zW_at i h.1 h.2

set_option maxRecDepth 20000 in
theorem zcw0 : ∀ q ∈ zmT0, Cond.code q.1 q.2.1 q.2.2.1 q.2.2.2.1 ∈ lw_tbl := List.forall_mem_cons.mpr ⟨List.mem_of_getElem? (i := 179) rfl, List.forall_mem_cons.mpr ⟨List.mem_of_getElem? (i := 407) rfl, List.forall_mem_cons.mpr ⟨List.mem_of_getElem? (i := 378) rfl, List.forall_mem_cons.mpr ⟨List.mem_of_getElem? (i := 332) rfl, List.forall_mem_cons.mpr ⟨List.mem_of_getElem? (i := 327) rfl, List.forall_mem_cons.mpr ⟨List.mem_of_getElem? (i := 323) rfl, List.forall_mem_cons.mpr ⟨List.mem_of_getElem? (i := 319) rfl, List.forall_mem_cons.mpr ⟨List.mem_of_getElem? (i := 315) rfl, List.forall_mem_cons.mpr ⟨List.mem_of_getElem? (i := 524) rfl, List.forall_mem_cons.mpr ⟨List.mem_of_getElem? (i := 536) rfl, List.forall_mem_cons.mpr ⟨List.mem_of_getElem? (i := 466) rfl, List.forall_mem_cons.mpr ⟨List.mem_of_getElem? (i := 540) rfl, List.forall_mem_cons.mpr ⟨List.mem_of_getElem? (i := 69) rfl, List.forall_mem_cons.mpr ⟨List.mem_of_getElem? (i := 267) rfl, List.forall_mem_cons.mpr ⟨List.mem_of_getElem? (i := 299) rfl, List.forall_mem_cons.mpr ⟨List.mem_of_getElem? (i := 364) rfl, List.forall_mem_cons.mpr ⟨List.mem_of_getElem? (i := 311) rfl, List.forall_mem_cons.mpr ⟨List.mem_of_getElem? (i := 396) rfl, List.forall_mem_cons.mpr ⟨List.mem_of_getElem? (i := 390) rfl, List.forall_mem_cons.mpr ⟨List.mem_of_getElem? (i := 386) rfl, List.forall_mem_cons.mpr ⟨List.mem_of_getElem? (i := 347) rfl, List.forall_mem_cons.mpr ⟨List.mem_of_getElem? (i := 544) rfl, fun _ h => absurd h List.not_mem_nil⟩⟩⟩⟩⟩⟩⟩⟩⟩⟩⟩⟩⟩⟩⟩⟩⟩⟩⟩⟩⟩⟩
set_option maxRecDepth 20000 in
theorem zcw1 : ∀ q ∈ zmT1, Cond.code q.1 q.2.1 q.2.2.1 q.2.2.2.1 ∈ lw_tbl := List.forall_mem_cons.mpr ⟨List.mem_of_getElem? (i := 139) rfl, List.forall_mem_cons.mpr ⟨List.mem_of_getElem? (i := 478) rfl, List.forall_mem_cons.mpr ⟨List.mem_of_getElem? (i := 486) rfl, List.forall_mem_cons.mpr ⟨List.mem_of_getElem? (i := 568) rfl, List.forall_mem_cons.mpr ⟨List.mem_of_getElem? (i := 163) rfl, List.forall_mem_cons.mpr ⟨List.mem_of_getElem? (i := 560) rfl, List.forall_mem_cons.mpr ⟨List.mem_of_getElem? (i := 453) rfl, List.forall_mem_cons.mpr ⟨List.mem_of_getElem? (i := 62) rfl, List.forall_mem_cons.mpr ⟨List.mem_of_getElem? (i := 275) rfl, List.forall_mem_cons.mpr ⟨List.mem_of_getElem? (i := 263) rfl, List.forall_mem_cons.mpr ⟨List.mem_of_getElem? (i := 284) rfl, List.forall_mem_cons.mpr ⟨List.mem_of_getElem? (i := 280) rfl, List.forall_mem_cons.mpr ⟨List.mem_of_getElem? (i := 431) rfl, List.forall_mem_cons.mpr ⟨List.mem_of_getElem? (i := 462) rfl, List.forall_mem_cons.mpr ⟨List.mem_of_getElem? (i := 120) rfl, List.forall_mem_cons.mpr ⟨List.mem_of_getElem? (i := 351) rfl, List.forall_mem_cons.mpr ⟨List.mem_of_getElem? (i := 356) rfl, List.forall_mem_cons.mpr ⟨List.mem_of_getElem? (i := 360) rfl, List.forall_mem_cons.mpr ⟨List.mem_of_getElem? (i := 369) rfl, List.forall_mem_cons.mpr ⟨List.mem_of_getElem? (i := 374) rfl, List.forall_mem_cons.mpr ⟨List.mem_of_getElem? (i := 54) rfl, List.forall_mem_cons.mpr ⟨List.mem_of_getElem? (i := 256) rfl, fun _ h => absurd h List.not_mem_nil⟩⟩⟩⟩⟩⟩⟩⟩⟩⟩⟩⟩⟩⟩⟩⟩⟩⟩⟩⟩⟩⟩
set_option maxRecDepth 20000 in
theorem zcw2 : ∀ q ∈ zmT2, Cond.code q.1 q.2.1 q.2.2.1 q.2.2.2.1 ∈ lw_tbl := List.forall_mem_cons.mpr ⟨List.mem_of_getElem? (i := 271) rfl, List.forall_mem_cons.mpr ⟨List.mem_of_getElem? (i := 288) rfl, List.forall_mem_cons.mpr ⟨List.mem_of_getElem? (i := 292) rfl, List.forall_mem_cons.mpr ⟨List.mem_of_getElem? (i := 303) rfl, List.forall_mem_cons.mpr ⟨List.mem_of_getElem? (i := 307) rfl, List.forall_mem_cons.mpr ⟨List.mem_of_getElem? (i := 403) rfl, List.forall_mem_cons.mpr ⟨List.mem_of_getElem? (i := 411) rfl, List.forall_mem_cons.mpr ⟨List.mem_of_getElem? (i := 419) rfl, List.forall_mem_cons.mpr ⟨List.mem_of_getElem? (i := 437) rfl, List.forall_mem_cons.mpr ⟨List.mem_of_getElem? (i := 441) rfl, List.forall_mem_cons.mpr ⟨List.mem_of_getElem? (i := 445) rfl, List.forall_mem_cons.mpr ⟨List.mem_of_getElem? (i := 449) rfl, List.forall_mem_cons.mpr ⟨List.mem_of_getElem? (i := 457) rfl, List.forall_mem_cons.mpr ⟨List.mem_of_getElem? (i := 470) rfl, List.forall_mem_cons.mpr ⟨List.mem_of_getElem? (i := 474) rfl, List.forall_mem_cons.mpr ⟨List.mem_of_getElem? (i := 482) rfl, List.forall_mem_cons.mpr ⟨List.mem_of_getElem? (i := 494) rfl, List.forall_mem_cons.mpr ⟨List.mem_of_getElem? (i := 499) rfl, List.forall_mem_cons.mpr ⟨List.mem_of_getElem? (i := 516) rfl, List.forall_mem_cons.mpr ⟨List.mem_of_getElem? (i := 552) rfl, List.forall_mem_cons.mpr ⟨List.mem_of_getElem? (i := 556) rfl, List.forall_mem_cons.mpr ⟨List.mem_of_getElem? (i := 564) rfl, fun _ h => absurd h List.not_mem_nil⟩⟩⟩⟩⟩⟩⟩⟩⟩⟩⟩⟩⟩⟩⟩⟩⟩⟩⟩⟩⟩⟩
set_option maxRecDepth 20000 in
theorem zcw3 : ∀ q ∈ zmT3, Cond.code q.1 q.2.1 q.2.2.1 q.2.2.2.1 ∈ lw_tbl := List.forall_mem_cons.mpr ⟨List.mem_of_getElem? (i := 576) rfl, List.forall_mem_cons.mpr ⟨List.mem_of_getElem? (i := 259) rfl, List.forall_mem_cons.mpr ⟨List.mem_of_getElem? (i := 295) rfl, List.forall_mem_cons.mpr ⟨List.mem_of_getElem? (i := 415) rfl, List.forall_mem_cons.mpr ⟨List.mem_of_getElem? (i := 423) rfl, List.forall_mem_cons.mpr ⟨List.mem_of_getElem? (i := 572) rfl, List.forall_mem_cons.mpr ⟨List.mem_of_getElem? (i := 427) rfl, List.forall_mem_cons.mpr ⟨List.mem_of_getElem? (i := 490) rfl, List.forall_mem_cons.mpr ⟨List.mem_of_getElem? (i := 382) rfl, List.forall_mem_cons.mpr ⟨List.mem_of_getElem? (i := 343) rfl, List.forall_mem_cons.mpr ⟨List.mem_of_getElem? (i := 336) rfl, List.forall_mem_cons.mpr ⟨List.mem_of_getElem? (i := 507) rfl, List.forall_mem_cons.mpr ⟨List.mem_of_getElem? (i := 503) rfl, List.forall_mem_cons.mpr ⟨List.mem_of_getElem? (i := 512) rfl, List.forall_mem_cons.mpr ⟨List.mem_of_getElem? (i := 520) rfl, List.forall_mem_cons.mpr ⟨List.mem_of_getElem? (i := 528) rfl, List.forall_mem_cons.mpr ⟨List.mem_of_getElem? (i := 532) rfl, List.forall_mem_cons.mpr ⟨List.mem_of_getElem? (i := 548) rfl, List.forall_mem_cons.mpr ⟨List.mem_of_getElem? (i := 585) rfl, List.forall_mem_cons.mpr ⟨List.mem_of_getElem? (i := 690) rfl, List.forall_mem_cons.mpr ⟨List.mem_of_getElem? (i := 698) rfl, List.forall_mem_cons.mpr ⟨List.mem_of_getElem? (i := 709) rfl, fun _ h => absurd h List.not_mem_nil⟩⟩⟩⟩⟩⟩⟩⟩⟩⟩⟩⟩⟩⟩⟩⟩⟩⟩⟩⟩⟩⟩
set_option maxRecDepth 20000 in
theorem zcw4 : ∀ q ∈ zmT4, Cond.code q.1 q.2.1 q.2.2.1 q.2.2.2.1 ∈ lw_tbl := List.forall_mem_cons.mpr ⟨List.mem_of_getElem? (i := 737) rfl, List.forall_mem_cons.mpr ⟨List.mem_of_getElem? (i := 687) rfl, List.forall_mem_cons.mpr ⟨List.mem_of_getElem? (i := 694) rfl, List.forall_mem_cons.mpr ⟨List.mem_of_getElem? (i := 702) rfl, List.forall_mem_cons.mpr ⟨List.mem_of_getElem? (i := 721) rfl, List.forall_mem_cons.mpr ⟨List.mem_of_getElem? (i := 717) rfl, List.forall_mem_cons.mpr ⟨List.mem_of_getElem? (i := 713) rfl, List.forall_mem_cons.mpr ⟨List.mem_of_getElem? (i := 706) rfl, List.forall_mem_cons.mpr ⟨List.mem_of_getElem? (i := 725) rfl, List.forall_mem_cons.mpr ⟨List.mem_of_getElem? (i := 769) rfl, List.forall_mem_cons.mpr ⟨List.mem_of_getElem? (i := 765) rfl, List.forall_mem_cons.mpr ⟨List.mem_of_getElem? (i := 797) rfl, List.forall_mem_cons.mpr ⟨List.mem_of_getElem? (i := 729) rfl, List.forall_mem_cons.mpr ⟨List.mem_of_getElem? (i := 733) rfl, List.forall_mem_cons.mpr ⟨List.mem_of_getElem? (i := 753) rfl, List.forall_mem_cons.mpr ⟨List.mem_of_getElem? (i := 757) rfl, List.forall_mem_cons.mpr ⟨List.mem_of_getElem? (i := 749) rfl, List.forall_mem_cons.mpr ⟨List.mem_of_getElem? (i := 761) rfl, List.forall_mem_cons.mpr ⟨List.mem_of_getElem? (i := 745) rfl, List.forall_mem_cons.mpr ⟨List.mem_of_getElem? (i := 741) rfl, List.forall_mem_cons.mpr ⟨List.mem_of_getElem? (i := 777) rfl, List.forall_mem_cons.mpr ⟨List.mem_of_getElem? (i := 773) rfl, fun _ h => absurd h List.not_mem_nil⟩⟩⟩⟩⟩⟩⟩⟩⟩⟩⟩⟩⟩⟩⟩⟩⟩⟩⟩⟩⟩⟩
set_option maxRecDepth 20000 in
theorem zcw5 : ∀ q ∈ zmT5, Cond.code q.1 q.2.1 q.2.2.1 q.2.2.2.1 ∈ lw_tbl := List.forall_mem_cons.mpr ⟨List.mem_of_getElem? (i := 781) rfl, List.forall_mem_cons.mpr ⟨List.mem_of_getElem? (i := 785) rfl, List.forall_mem_cons.mpr ⟨List.mem_of_getElem? (i := 789) rfl, List.forall_mem_cons.mpr ⟨List.mem_of_getElem? (i := 793) rfl, List.forall_mem_cons.mpr ⟨List.mem_of_getElem? (i := 805) rfl, List.forall_mem_cons.mpr ⟨List.mem_of_getElem? (i := 809) rfl, List.forall_mem_cons.mpr ⟨List.mem_of_getElem? (i := 801) rfl, List.forall_mem_cons.mpr ⟨List.mem_of_getElem? (i := 817) rfl, List.forall_mem_cons.mpr ⟨List.mem_of_getElem? (i := 821) rfl, List.forall_mem_cons.mpr ⟨List.mem_of_getElem? (i := 813) rfl, List.forall_mem_cons.mpr ⟨List.mem_of_getElem? (i := 825) rfl, List.forall_mem_cons.mpr ⟨List.mem_of_getElem? (i := 829) rfl, List.forall_mem_cons.mpr ⟨List.mem_of_getElem? (i := 833) rfl, List.forall_mem_cons.mpr ⟨List.mem_of_getElem? (i := 837) rfl, List.forall_mem_cons.mpr ⟨List.mem_of_getElem? (i := 845) rfl, List.forall_mem_cons.mpr ⟨List.mem_of_getElem? (i := 841) rfl, List.forall_mem_cons.mpr ⟨List.mem_of_getElem? (i := 853) rfl, List.forall_mem_cons.mpr ⟨List.mem_of_getElem? (i := 849) rfl, List.forall_mem_cons.mpr ⟨List.mem_of_getElem? (i := 857) rfl, List.forall_mem_cons.mpr ⟨List.mem_of_getElem? (i := 865) rfl, List.forall_mem_cons.mpr ⟨List.mem_of_getElem? (i := 861) rfl, List.forall_mem_cons.mpr ⟨List.mem_of_getElem? (i := 869) rfl, fun _ h => absurd h List.not_mem_nil⟩⟩⟩⟩⟩⟩⟩⟩⟩⟩⟩⟩⟩⟩⟩⟩⟩⟩⟩⟩⟩⟩
theorem zcw : ∀ q ∈ zmT, Cond.code q.1 q.2.1 q.2.2.1 q.2.2.2.1 ∈ lw_tbl := List.forall_mem_append.mpr ⟨zcw0, List.forall_mem_append.mpr ⟨zcw1, List.forall_mem_append.mpr ⟨zcw2, List.forall_mem_append.mpr ⟨zcw3, List.forall_mem_append.mpr ⟨zcw4, zcw5⟩⟩⟩⟩⟩
theorem zm_at {j : Nat} (h : j < 132) : zm j ∈ zmT := by
  have h1 : j < zmT.length := h
  unfold zm
  rw [List.getD_eq_getElem?_getD, List.getElem?_eq_getElem h1]
  exact List.getElem_mem h1
set_option maxRecDepth 100000 in
theorem zflT_ok : zflT.all (fun e => decide (e.2.2.2.1 < zN e.2.2.1) && decide (e.2.2.1 < 8) && zgw e.2.2.2.2 (.fieldLink (zRn e.1) e.2.1 (zRn e.2.2.1) (zT e.2.2.1 e.2.2.2.1).2.1 (zT e.2.2.1 e.2.2.2.1).2.2.1)) = true := by decide +kernel
set_option maxRecDepth 100000 in
theorem zclT_ok : zclT.all (fun e => decide (e.2.2.1 < 8) && zgw e.2.2.2.1 (.classLink (zRn e.1) e.2.1 (zRn e.2.2.1)) && zgw e.2.2.2.2 (.instantiable (zRn e.2.2.1) (zN e.2.2.1))) = true := by decide +kernel
set_option maxRecDepth 100000 in
theorem zlcT_ok : zlcT.all (fun e => zgw e.2.2.2 (.constantLong (zRn e.1) e.2.1 e.2.2.1)) = true := by decide +kernel
end
section
/-! a small machine over numbered cells: what it answers, the JVM answers (part 05 on) -/
abbrev zV : Type := Int ⊕ (Option Int ⊕ Int64)
abbrev zK : Type := Nat ⊕ (Nat × Int)
abbrev zC : Type := zK × (Int → zV)
abbrev zM : Type := Nat × Nat × (Int → zC)
abbrev zL : Type := List (Option zV)
abbrev zX : Type := Nat × zL × List zV × zM
def z32 (x : Int) : Bool := decide (-2147483648 ≤ x) && decide (x ≤ 2147483647)
def zlg : Option (Option zV) → Bool
  | some (some (.inr (.inr _))) => true
  | _ => false
def zfree (ls : zL) (k : Nat) : Bool := decide (k < ls.length) && !(decide (0 < k) && zlg (ls[k - 1]?))
def zup (M : zM) (p : Int) (c : zC) : zM := (M.1, M.2.1, fun q => if q = p then c else M.2.2 q)
def zst (c : zC) (k : Int) (v : zV) : zC := (c.1, fun q => if q = k then v else c.2 q)
def znew (M : zM) (n : Nat) (c : zC) : zM := (M.1 + 1, M.2.1 + n, fun q => if q = (M.1 : Int) then c else M.2.2 q)
def zdef (ci : Nat) : Int → zV := fun k => if zty ci k.toNat = .int then .inl 0 else .inr (.inl none)
def zif (b : Bool) (pc : Nat) (o : Int) : Option Nat := if 0 ≤ (pc : Int) + o then (if b then some ((pc : Int) + o).toNat else some (pc + 3)) else none
def zel (t : Nat) : Nat := if t = 2 then 1 else 0
/-- lengths -/
def zlen : Instr → Nat
  | .aload _ | .astore _ | .iload _ | .istore _ | .bipush _ | .newarray _ => 2
  | .sipush _ | .iinc _ _ | .ldc2_w _ | .getfield _ | .putfield _ | .getstatic _ | .new _ | .anewarray _ => 3
  | .if_icmp _ _ | .ifCond _ _ | .goto _ => 3
  | .invokevirtual _ | .invokestatic _ | .invokespecial _ => 3
  | _ => 1
def zlk (i : Instr) (len : Nat) : Bool := match i with
  | .tableswitch _ _ _ _ => true
  | i => decide (len = zlen i)
/-- locals and constants -/
def zn1 (j : Nat) (i : Instr) (pc : Nat) (ls : zL) (st : List zV) (M : zM) : Option zX := match i with
  | .aload_n k => match ls[k.val]? with
    | some (some (.inr (.inl (some p)))) => some (pc + 1, ls, .inr (.inl (some p)) :: st, M)
    | _ => none
  | .aload k => match ls[k]? with
    | some (some (.inr (.inl (some p)))) => some (pc + 2, ls, .inr (.inl (some p)) :: st, M)
    | _ => none
  | .iload_n k => match ls[k.val]? with
    | some (some (.inl v)) => some (pc + 1, ls, .inl v :: st, M)
    | _ => none
  | .iload k => match ls[k]? with
    | some (some (.inl v)) => some (pc + 2, ls, .inl v :: st, M)
    | _ => none
  | .lload_n k => match ls[k.val]? with
    | some (some (.inr (.inr v))) => some (pc + 1, ls, .inr (.inr v) :: st, M)
    | _ => none
  | .istore_n k => match st with
    | .inl v :: r => if zfree ls k.val = true then some (pc + 1, ls.set k.val (some (.inl v)), r, M) else none
    | _ => none
  | .istore k => match st with
    | .inl v :: r => if zfree ls k = true then some (pc + 2, ls.set k (some (.inl v)), r, M) else none
    | _ => none
  | .astore_n k => match st with
    | .inr (.inl (some p)) :: r => if zfree ls k.val = true then some (pc + 1, ls.set k.val (some (.inr (.inl (some p)))), r, M) else none
    | _ => none
  | .astore k => match st with
    | .inr (.inl (some p)) :: r => if zfree ls k = true then some (pc + 2, ls.set k (some (.inr (.inl (some p)))), r, M) else none
    | _ => none
  | .lstore_n k => match st with
    | .inr (.inr v) :: r => if zfree ls k.val = true ∧ k.val + 1 < ls.length then some (pc + 1, (ls.set k.val (some (.inr (.inr v)))).set (k.val + 1) none, r, M) else none
    | _ => none
  | .iinc k c => match ls[k]? with
    | some (some (.inl v)) => if zfree ls k = true ∧ z32 (v + c) = true ∧ z32 c = true then some (pc + 3, ls.set k (some (.inl (v + c))), st, M) else none
    | _ => none
  | .iconst c => if z32 c = true then some (pc + 1, ls, .inl c :: st, M) else none
  | .bipush c => if -128 ≤ c ∧ c ≤ 127 then some (pc + 2, ls, .inl c :: st, M) else none
  | .sipush c => if -32768 ≤ c ∧ c ≤ 32767 then some (pc + 3, ls, .inl c :: st, M) else none
  | .ldc2_w k => match zlc (zo j) k with
    | some v => some (pc + 3, ls, .inr (.inr v) :: st, M)
    | none => none
  | _ => none
/-- the stack, numbers, branches -/
def zn2 (i : Instr) (pc : Nat) (ls : zL) (st : List zV) (M : zM) : Option zX := match i with
  | .dup => match st with
    | .inl v :: r => some (pc + 1, ls, .inl v :: .inl v :: r, M)
    | .inr (.inl (some p)) :: r => some (pc + 1, ls, .inr (.inl (some p)) :: .inr (.inl (some p)) :: r, M)
    | _ => none
  | .dup2 => match st with
    | .inl v :: .inr (.inl (some p)) :: r => some (pc + 1, ls, .inl v :: .inr (.inl (some p)) :: .inl v :: .inr (.inl (some p)) :: r, M)
    | _ => none
  | .iadd => match st with
    | .inl b :: .inl a :: r => if z32 (a + b) = true then some (pc + 1, ls, .inl (a + b) :: r, M) else none
    | _ => none
  | .isub => match st with
    | .inl b :: .inl a :: r => if z32 (a - b) = true then some (pc + 1, ls, .inl (a - b) :: r, M) else none
    | _ => none
  | .imul => match st with
    | .inl b :: .inl a :: r => if z32 (a * b) = true then some (pc + 1, ls, .inl (a * b) :: r, M) else none
    | _ => none
  | .idiv => match st with
    | .inl b :: .inl a :: r => if 0 ≤ a ∧ 0 < b then some (pc + 1, ls, .inl (a / b) :: r, M) else none
    | _ => none
  | .iand => match st with
    | .inl b :: .inl a :: r => some (pc + 1, ls, .inl (Int32.ofInt a &&& Int32.ofInt b).toInt :: r, M)
    | _ => none
  | .ishr => match st with
    | .inl b :: .inl a :: r => some (pc + 1, ls, .inl (Int32.ofInt a >>> (Int32.ofInt b &&& 31)).toInt :: r, M)
    | _ => none
  | .i2l => match st with
    | .inl a :: r => some (pc + 1, ls, .inr (.inr (Int64.ofInt a)) :: r, M)
    | _ => none
  | .lmul => match st with
    | .inr (.inr b) :: .inr (.inr a) :: r => some (pc + 1, ls, .inr (.inr (a * b)) :: r, M)
    | _ => none
  | .ladd => match st with
    | .inr (.inr b) :: .inr (.inr a) :: r => some (pc + 1, ls, .inr (.inr (a + b)) :: r, M)
    | _ => none
  | .lcmp => match st with
    | .inr (.inr b) :: .inr (.inr a) :: r => some (pc + 1, ls, .inl (lg_cmp a b).toInt :: r, M)
    | _ => none
  | .if_icmp c o => match st with
    | .inl b :: .inl a :: r => (zif (match c with
        | .eq => decide (a = b)
        | .ne => decide (a ≠ b)
        | .lt => decide (a < b)
        | .ge => decide (b ≤ a)
        | .gt => decide (b < a)
        | .le => decide (a ≤ b)) pc o).map (fun q => (q, ls, r, M))
    | _ => none
  | .ifCond c o => match st with
    | .inl a :: r => (zif (match c with
        | .eq => decide (a = 0)
        | .ne => decide (a ≠ 0)
        | .lt => decide (a < 0)
        | .ge => decide (0 ≤ a)
        | .gt => decide (0 < a)
        | .le => decide (a ≤ 0)) pc o).map (fun q => (q, ls, r, M))
    | _ => none
  | .goto o => if 0 ≤ (pc : Int) + o then some (((pc : Int) + o).toNat, ls, st, M) else none
  | .tableswitch dflt lo hi offs => match st with
    | .inl a :: r => if a < lo ∨ hi < a then (if 0 ≤ (pc : Int) + dflt then some (((pc : Int) + dflt).toNat, ls, r, M) else none) else
      match offs[(a - lo).toNat]? with
      | some o => if 0 ≤ (pc : Int) + o then some (((pc : Int) + o).toNat, ls, r, M) else none
      | none => none
    | _ => none
  | _ => none
/-- cells -/
def zn3 (j : Nat) (i : Instr) (pc : Nat) (ls : zL) (st : List zV) (M : zM) : Option zX := match i with
  | .getfield n => match st, zfl (zo j) n with
    | .inr (.inl (some p)) :: r, some (ci, k) => if (M.2.2 p).1 = .inl ci then (match (M.2.2 p).2 k with
      | .inl v => some (pc + 3, ls, .inl v :: r, M)
      | .inr (.inl (some q)) => some (pc + 3, ls, .inr (.inl (some q)) :: r, M)
      | _ => none) else none
    | _, _ => none
  | .putfield n => match st, zfl (zo j) n with
    | .inl v :: .inr (.inl (some p)) :: r, some (ci, k) => if (M.2.2 p).1 = .inl ci ∧ zty ci k = .int ∧ (zT ci k).2.2.2 = false then some (pc + 3, ls, r, zup M p (zst (M.2.2 p) k (.inl v))) else none
    | .inr (.inl (some q)) :: .inr (.inl (some p)) :: r, some (ci, k) => if (M.2.2 p).1 = .inl ci ∧ zty ci k ≠ .int ∧ (zT ci k).2.2.2 = true ∧ zo j = ci ∧ (zy j).name = "<init>" then some (pc + 3, ls, r, zup M p (zst (M.2.2 p) k (.inr (.inl (some q))))) else none
    | _, _ => none
  | .iaload => match st with
    | .inl a :: .inr (.inl (some p)) :: r => match (M.2.2 p).1 with
      | .inr (0, len) => if 0 ≤ a ∧ a < len then (match (M.2.2 p).2 a with
        | .inl v => some (pc + 1, ls, .inl v :: r, M)
        | _ => none) else none
      | _ => none
    | _ => none
  | .baload => match st with
    | .inl a :: .inr (.inl (some p)) :: r => match (M.2.2 p).1 with
      | .inr (1, len) => if 0 ≤ a ∧ a < len then (match (M.2.2 p).2 a with
        | .inl v => some (pc + 1, ls, .inl v :: r, M)
        | _ => none) else none
      | _ => none
    | _ => none
  | .aaload => match st with
    | .inl a :: .inr (.inl (some p)) :: r => match (M.2.2 p).1 with
      | .inr (t, len) => if (t = 2 ∨ t = 3) ∧ 0 ≤ a ∧ a < len then (match (M.2.2 p).2 a with
        | .inr (.inl (some q)) => some (pc + 1, ls, .inr (.inl (some q)) :: r, M)
        | _ => none) else none
      | _ => none
    | _ => none
  | .iastore => match st with
    | .inl v :: .inl a :: .inr (.inl (some p)) :: r => match (M.2.2 p).1 with
      | .inr (0, len) => if 0 ≤ p ∧ 0 ≤ a ∧ a < len then some (pc + 1, ls, r, zup M p (zst (M.2.2 p) a (.inl v))) else none
      | _ => none
    | _ => none
  | .bastore => match st with
    | .inl v :: .inl a :: .inr (.inl (some p)) :: r => match (M.2.2 p).1 with
      | .inr (1, len) => if 0 ≤ p ∧ 0 ≤ a ∧ a < len ∧ (v = 0 ∨ v = 1) then some (pc + 1, ls, r, zup M p (zst (M.2.2 p) a (.inl v))) else none
      | _ => none
    | _ => none
  | .aastore => match st with
    | .inr (.inl (some q)) :: .inl a :: .inr (.inl (some p)) :: r => match (M.2.2 p).1 with
      | .inr (t, len) => if (t = 2 ∨ t = 3) ∧ 0 ≤ p ∧ 0 ≤ a ∧ a < len ∧ (M.2.2 q).1 = .inl (zel t) then some (pc + 1, ls, r, zup M p (zst (M.2.2 p) a (.inr (.inl (some q))))) else none
      | _ => none
    | _ => none
  | .arraylength => match st with
    | .inr (.inl (some p)) :: r => match (M.2.2 p).1 with
      | .inr (0, len) => some (pc + 1, ls, .inl len :: r, M)
      | _ => none
    | _ => none
  | .getstatic n => if zo j = 1 ∧ n = 26 then some (pc + 3, ls, .inr (.inl (some (-2))) :: st, M) else none
  | .new n => match zcl (zo j) n with
    | some ci => some (pc + 3, ls, .inr (.inl (some (M.1 : Int))) :: st, znew M (zN ci) (.inl ci, zdef ci))
    | none => none
  | .newarray t => match st with
    | .inl a :: r => if 0 ≤ a ∧ a ≤ 65536 then (match t with
      | .int => some (pc + 2, ls, .inr (.inl (some (M.1 : Int))) :: r, znew M a.toNat (.inr (0, a), fun _ => .inl 0))
      | .boolean => some (pc + 2, ls, .inr (.inl (some (M.1 : Int))) :: r, znew M a.toNat (.inr (1, a), fun _ => .inl 0))
      | _ => none) else none
    | _ => none
  | .anewarray n => match st, zcl (zo j) n with
    | .inl a :: r, some ci => if 0 ≤ a ∧ a ≤ 65536 ∧ ci < 2 then some (pc + 3, ls, .inr (.inl (some (M.1 : Int))) :: r, znew M a.toNat (.inr (3 - ci, a), fun _ => .inr (.inl none))) else none
    | _, _ => none
  | _ => none
/-- calls that are steps -/
def zn4 (d j : Nat) (i : Instr) (pc : Nat) (ls : zL) (st : List zV) (M : zM) : Option zX := match i with
  | .invokespecial n => match st, zml (zo j) n with
    | .inr (.inl (some p)) :: r, some (5, _) => if 1 ≤ d ∧ r.length ≤ 4 then some (pc + 3, ls, r, M) else none
    | _, _ => none
  | .invokestatic n => match st, zml (zo j) n with
    | .inl b :: .inl a :: r, some (6, _) => if 1 ≤ d ∧ r.length ≤ 4 then some (pc + 3, ls, .inl (if a < b then b else a) :: r, M) else none
    | .inl b :: .inl a :: r, some (7, _) => if 1 ≤ d ∧ r.length ≤ 4 then some (pc + 3, ls, .inl (if b < a then b else a) :: r, M) else none
    | _, _ => none
  | _ => none
def znx (d j : Nat) (i : Instr) (pc : Nat) (ls : zL) (st : List zV) (M : zM) : Option zX :=
  match zn1 j i pc ls st M with
  | some c => some c
  | none => match zn2 i pc ls st M with
    | some c => some c
    | none => match zn3 j i pc ls st M with
      | some c => some c
      | none => zn4 d j i pc ls st M
def zsm (as : List zV) : Bool := as.all (fun v => match v with
  | .inr (.inr _) => false
  | _ => true)
/-- calls: the method, its arguments, what stays -/
def zca (j : Nat) (i : Instr) (st : List zV) (M : zM) : Option (Nat × List zV × List zV) := match i with
  | .invokevirtual n => match zml (zo j) n with
    | some (0, q) => match st.drop (zp q) with
      | .inr (.inl (some p)) :: r => if (M.2.2 p).1 = .inl (zo q) ∧ r.length ≤ 4 ∧ zp q ≤ st.length ∧ zsm (st.take (zp q)) = true then some (q, .inr (.inl (some p)) :: (st.take (zp q)).reverse, r) else none
      | _ => none
    | _ => none
  | .invokestatic n => match zml (zo j) n with
    | some (k, q) => if (k = 1 ∨ k = 3) ∧ zp q ≤ st.length ∧ (st.drop (zp q)).length ≤ 4 ∧ zsm (st.take (zp q)) = true then some (q, (st.take (zp q)).reverse, st.drop (zp q)) else none
    | _ => none
  | .invokespecial n => match zml (zo j) n with
    | some (k, q) => if k = 2 ∨ k = 4 then (match st.drop (zp q) with
      | .inr (.inl (some p)) :: r => if r.length ≤ 4 ∧ zp q ≤ st.length ∧ zsm (st.take (zp q)) = true then some (q, .inr (.inl (some p)) :: (st.take (zp q)).reverse, r) else none
      | _ => none) else none
    | _ => none
  | _ => none
/-- ends -/
def zre (j : Nat) (i : Instr) (st : List zV) : Option (Option zV) := match i, st with
  | .ireturn, [.inl v] => if zr j = some .int ∨ (zr j = some .boolean ∧ (v = 0 ∨ v = 1)) then some (some (.inl v)) else none
  | .lreturn, [.inr (.inr v)] => if zr j = some .long then some (some (.inr (.inr v))) else none
  | .return_, [] => if zr j = none then some none else none
  | _, _ => none
def zent (j : Nat) (as : List zV) : zL := as.map some ++ List.replicate (zn j - as.length) none
def zrun : Nat → Nat → Nat → Nat → zL → List zV → zM → Option (Option zV × zM)
  | 0, _, _, _, _, _, _ => none
  | n + 1, d, j, pc, ls, st, M => match zft j pc with
    | none => none
    | some (i, len) => if zlk i len = true then (match zre j i st with
      | some r => some (r, M)
      | none => match zca j i st M with
        | some c => (match d with
          | 0 => none
          | d' + 1 => match zrun n d' c.1 0 (zent c.1 c.2.1) [] M with
            | none => none
            | some x => zrun n (d' + 1) j (pc + 3) ls (x.1.toList ++ c.2.2) x.2)
        | none => match znx d j i pc ls st M with
          | some c => zrun n d j c.1 c.2.1 c.2.2.1 c.2.2.2
          | none => none) else none
end
section
/-! the small machine's cells in the JVM's heap -/
def zad (base b t0 : Nat) (p : Int) : Nat := if p = -1 then b else if p = -2 then t0 else base + p.toNat
def zcv (f : Int → Nat) : zV → Value
  | .inl i => .int (Int32.ofInt i)
  | .inr (.inl none) => .null
  | .inr (.inl (some q)) => .ref (f q)
  | .inr (.inr x) => .long x
def zi : zV → Int32
  | .inl i => Int32.ofInt i
  | _ => 0
def zq (f : Int → Nat) : zV → Option Nat
  | .inr (.inl (some q)) => some (f q)
  | _ => none
def zce (f : Int → Nat) (cA : Nat → ClassId) (K : zC) : va_E := match K.1 with
  | .inl ci => .inr (ci, (List.range (zN ci)).map (fun k : Nat => zcv f (K.2 (k : Int))))
  | .inr (t, len) => .inl (cA t, len.toNat, if t < 2 then .inl (fun k : Nat => zi (K.2 (k : Int))) else .inr (.inr (.inr (.inr (fun k : Nat => zq f (K.2 (k : Int)))))))
def zws (f : Int → Nat) (base : Nat) (cA : Nat → ClassId) (M : zM) : va_W := (List.range M.1).map (fun k : Nat => (base + k, zce f cA (M.2.2 (k : Int))))
def zvk : zK → Prop
  | .inl ci => ci < 8
  | .inr (t, _) => t < 4
def zok : zV → Prop
  | .inl i => -2147483648 ≤ i ∧ i ≤ 2147483647
  | _ => True
def zdv (k : Int) : Int := if k = 0 then 1 else if k = 1 then 2 else if k = 2 then 4 else if k = 3 then 3 else if k = 4 then 5 else if k = 5 then 6 else 7
def zds : zC := (.inr (0, 7), fun k => .inl (zdv k))
def zA (base : Nat) : Nat → Prop := fun q => base ≤ q
def zsc (L : Nat) (xs : Nat → Int32) : zC := (.inr (0, (L : Int)), fun k => .inl (xs k.toNat).toInt)
def zWd (dC : Nat → ClassId) (dI : Nat → Nat → Nat) (cA : Nat → ClassId) (base b t0 L : Nat) (xs : Nat → Int32) (M : zM) (H : Heap) : Prop :=
  va_P (dC, dI) zCl (zws (zad base b t0) base cA M) H ∧ H.size = base + M.1 ∧ (∀ q : Int, zvk (M.2.2 q).1 → (0 ≤ q ∧ q < (M.1 : Int)) ∨ q = -1 ∨ q = -2) ∧
  M.2.2 (-1) = zsc L xs ∧ M.2.2 (-2) = zds ∧ (∀ q k : Int, zok ((M.2.2 q).2 k)) ∧ (∀ (q : Int) (t : Nat) (len : Int), (M.2.2 q).1 = .inr (t, len) → 0 ≤ len ∧ len ≤ 65536)
def zas (f : Int → Nat) : Nat → zL → List (Nat × Value)
  | _, [] => []
  | k, some v :: t => (k, zcv f v) :: zas f (k + 1) t
  | k, none :: t => zas f (k + 1) t
theorem zas_mem {f : Int → Nat} : ∀ (ls : zL) (k : Nat) (q : Nat × Value), q ∈ zas f k ls ↔ ∃ (j : Nat) (v : zV), q.1 = k + j ∧ ls[j]? = some (some v) ∧ q.2 = zcv f v
  | [], k, q => by simp [zas]
  | some v :: t, k, q => by
    rw [zas, List.mem_cons, zas_mem t (k + 1) q]
    constructor
    · rintro (rfl | ⟨j, w, h1, h2, h3⟩)
      · exact ⟨0, v, rfl, rfl, rfl⟩
      · exact ⟨j + 1, w, by omega, by simpa using h2, h3⟩
    · rintro ⟨j, w, h1, h2, h3⟩
      cases j with
      | zero =>
        left
        simp at h2
        subst h2
        exact Prod.ext h1 h3
      | succ j =>
        right
        exact ⟨j, w, by omega, by simpa using h2, h3⟩
  | none :: t, k, q => by
    rw [zas, zas_mem t (k + 1) q]
    constructor
    · rintro ⟨j, w, h1, h2, h3⟩
      exact ⟨j + 1, w, by omega, by simpa using h2, h3⟩
    · rintro ⟨j, w, h1, h2, h3⟩
      cases j with
      | zero => simp at h2
      | succ j => exact ⟨j, w, by omega, by simpa using h2, h3⟩
def zLR (f : Int → Nat) (nL : Nat) (ls : zL) (A : Array Slot) : Prop := lv_has A nL (zas f 0 ls) ∧ ls.length = nL ∧ ∀ v, some v ∈ ls → zok v
theorem zLR.at {f : Int → Nat} {nL : Nat} {ls : zL} {A : Array Slot} (h : zLR f nL ls A) {i : Nat} {v : zV} (hi : ls[i]? = some (some v)) : A[i]? = some (.val (zcv f v)) :=
  h.1.2.2 (i, zcv f v) ((zas_mem ls 0 (i, zcv f v)).mpr ⟨i, v, (Nat.zero_add i).symm, hi, rfl⟩)
theorem zLR.ok {f : Int → Nat} {nL : Nat} {ls : zL} {A : Array Slot} (h : zLR f nL ls A) {i : Nat} {v : zV} (hi : ls[i]? = some (some v)) : zok v := h.2.2 v (List.mem_of_getElem? hi)
theorem zcat {f : Int → Nat} (v : zV) : (zcv f v).category = 2 ↔ ∃ x, v = .inr (.inr x) := by
  rcases v with i | o | x
  · simp [zcv, Value.category]
  · cases o <;> simp [zcv, Value.category]
  · simp [zcv, Value.category]
/-- behind a store of one word -/
theorem zLR.set {f : Int → Nat} {nL : Nat} {ls : zL} {A A' : Array Slot} {i : Nat} {v : zV} (h : zLR f nL ls A) (hf : zfree ls i = true) (hv : zok v)
    (h' : lv_has A' nL ((i, zcv f v) :: (zas f 0 ls).filter (fun q => !(q.1 == i) && !(q.1 + 1 == i && q.2.category == 2)))) : zLR f nL (ls.set i (some v)) A' := by
  refine ⟨⟨h'.1, h'.2.1, fun q hq => ?_⟩, by rw [List.length_set]; exact h.2.1, fun w hw => ?_⟩
  · obtain ⟨j, w, h1, h2, h3⟩ := (zas_mem _ 0 q).mp hq
    rw [Nat.zero_add] at h1
    by_cases hij : j = i
    · subst hij
      have hlt : j < ls.length := by
        have := (List.getElem?_eq_some_iff.mp h2).1
        rwa [List.length_set] at this
      rw [List.getElem?_set_self hlt] at h2
      have hw : v = w := by simpa using h2
      subst hw
      exact h'.2.2 q (by rw [List.mem_cons]; left; exact Prod.ext h1 h3)
    · rw [List.getElem?_set_ne (fun e => hij e.symm)] at h2
      refine h'.2.2 q (List.mem_cons_of_mem _ (List.mem_filter.mpr ⟨(zas_mem ls 0 q).mpr ⟨j, w, by omega, h2, h3⟩, ?_⟩))
      have e1 : (q.1 == i) = false := by rw [h1]; simpa using hij
      rw [e1]
      simp only [Bool.not_false, Bool.true_and]
      by_cases e2 : q.1 + 1 = i
      · have : ¬ q.2.category = 2 := by
          rw [h3, zcat]
          rintro ⟨x, rfl⟩
          have hz : zlg (ls[i - 1]?) = true := by
            rw [show i - 1 = j by omega, h2]; rfl
          have hpos : 0 < i := by omega
          simp [zfree, hz, hpos] at hf
        simp [this]
      · simp [e2]
  · obtain ⟨j, hj⟩ := List.getElem?_of_mem hw
    by_cases hij : j = i
    · subst hij
      have hlt : j < ls.length := by
        have := (List.getElem?_eq_some_iff.mp hj).1
        rwa [List.length_set] at this
      rw [List.getElem?_set_self hlt] at hj
      have e : v = w := by simpa using hj
      rw [← e]; exact hv
    · rw [List.getElem?_set_ne (fun e => hij e.symm)] at hj
      exact h.ok hj
theorem zLR.set2 {f : Int → Nat} {nL : Nat} {ls : zL} {A A' : Array Slot} {i : Nat} {x : Int64} (h : zLR f nL ls A) (hf : zfree ls i = true)
    (h' : lv_has A' nL ((i, Value.long x) :: (zas f 0 ls).filter (fun q => !(q.1 == i) && (!(q.1 == i + 1) && !(q.1 + 1 == i && q.2.category == 2))))) : zLR f nL ((ls.set i (some (.inr (.inr x)))).set (i + 1) none) A' := by
  refine ⟨⟨h'.1, h'.2.1, fun q hq => ?_⟩, by rw [List.length_set, List.length_set]; exact h.2.1, fun w hw => ?_⟩
  · obtain ⟨j, w, h1, h2, h3⟩ := (zas_mem _ 0 q).mp hq
    rw [Nat.zero_add] at h1
    by_cases hi1 : j = i + 1
    · subst hi1
      have hlt : i + 1 < (ls.set i (some (.inr (.inr x) : zV))).length := by
        have := (List.getElem?_eq_some_iff.mp h2).1
        rwa [List.length_set] at this
      rw [List.getElem?_set_self hlt] at h2
      simp at h2
    · rw [List.getElem?_set_ne (fun e => hi1 e.symm)] at h2
      by_cases hij : j = i
      · subst hij
        have hlt : j < ls.length := by
          have := (List.getElem?_eq_some_iff.mp h2).1
          rwa [List.length_set] at this
        rw [List.getElem?_set_self hlt] at h2
        have hw : (.inr (.inr x) : zV) = w := by simpa using h2
        subst hw
        exact h'.2.2 q (by rw [List.mem_cons]; left; exact Prod.ext h1 h3)
      · rw [List.getElem?_set_ne (fun e => hij e.symm)] at h2
        refine h'.2.2 q (List.mem_cons_of_mem _ (List.mem_filter.mpr ⟨(zas_mem ls 0 q).mpr ⟨j, w, by omega, h2, h3⟩, ?_⟩))
        have e1 : (q.1 == i) = false := by rw [h1]; simpa using hij
        have e3 : (q.1 == i + 1) = false := by rw [h1]; simpa using hi1
        rw [e1, e3]
        simp only [Bool.not_false, Bool.true_and]
        by_cases e2 : q.1 + 1 = i
        · have : ¬ q.2.category = 2 := by
            rw [h3, zcat]
            rintro ⟨y, rfl⟩
            have hz : zlg (ls[i - 1]?) = true := by
              rw [show i - 1 = j by omega, h2]; rfl
            have hpos : 0 < i := by omega
            simp [zfree, hz, hpos] at hf
          simp [this]
        · simp [e2]
  · obtain ⟨j, hj⟩ := List.getElem?_of_mem hw
    by_cases hi1 : j = i + 1
    · subst hi1
      have hlt : i + 1 < (ls.set i (some (.inr (.inr x) : zV))).length := by
        have := (List.getElem?_eq_some_iff.mp hj).1
        rwa [List.length_set] at this
      rw [List.getElem?_set_self hlt] at hj
      simp at hj
    · rw [List.getElem?_set_ne (fun e => hi1 e.symm)] at hj
      by_cases hij : j = i
      · subst hij
        have hlt : j < ls.length := by
          have := (List.getElem?_eq_some_iff.mp hj).1
          rwa [List.length_set] at this
        rw [List.getElem?_set_self hlt] at hj
        have e : (.inr (.inr x) : zV) = w := by simpa using hj
        rw [← e]; exact trivial
      · rw [List.getElem?_set_ne (fun e => hij e.symm)] at hj
        exact h.ok hj
/-- numbers -/
theorem z32_iff {x : Int} : z32 x = true ↔ -2147483648 ≤ x ∧ x ≤ 2147483647 := by simp [z32]
theorem zti {i : Int} (h : -2147483648 ≤ i ∧ i ≤ 2147483647) : (Int32.ofInt i).toInt = i := by
  rw [Int32.toInt_ofInt]
  have e : Int32.size = 4294967296 := rfl
  rw [e]
  exact Int.bmod_eq_of_le (by omega) (by omega)
theorem zto (z : Int32) : -2147483648 ≤ z.toInt ∧ z.toInt ≤ 2147483647 := by
  have h1 := Int32.minValue_le_toInt z
  have h2 := Int32.toInt_le z
  have e1 : Int32.minValue.toInt = -2147483648 := by decide
  have e2 : Int32.maxValue.toInt = 2147483647 := by decide
  omega
theorem zinj {a b : Int} (ha : -2147483648 ≤ a ∧ a ≤ 2147483647) (hb : -2147483648 ≤ b ∧ b ≤ 2147483647) : Int32.ofInt a = Int32.ofInt b ↔ a = b := by
  constructor
  · intro h
    have := congrArg Int32.toInt h
    rwa [zti ha, zti hb] at this
  · rintro rfl; rfl
theorem zlt {a b : Int} (ha : -2147483648 ≤ a ∧ a ≤ 2147483647) (hb : -2147483648 ≤ b ∧ b ≤ 2147483647) : Int32.ofInt a < Int32.ofInt b ↔ a < b := by
  rw [Int32.lt_iff_toInt_lt, zti ha, zti hb]
theorem zle {a b : Int} (ha : -2147483648 ≤ a ∧ a ≤ 2147483647) (hb : -2147483648 ≤ b ∧ b ≤ 2147483647) : Int32.ofInt a ≤ Int32.ofInt b ↔ a ≤ b := by
  rw [Int32.le_iff_toInt_le, zti ha, zti hb]
theorem zcl_nat {i : Int} (h : 0 ≤ i ∧ i ≤ 2147483647) : (Int32.ofInt i).toNatClampNeg = i.toNat := by
  have h1 : (Int32.ofInt i).toInt = i := zti ⟨by omega, h.2⟩
  show (Int32.ofInt i).toInt.toNat = i.toNat
  rw [h1]
theorem zvin {i : Int} {n : Nat} (h : 0 ≤ i) (h2 : i < n) (hn : n ≤ 65536) : vp_in (Int32.ofInt i) n := by
  rw [vp_in_iff, zti ⟨by omega, by omega⟩]
  omega
end
section
/-! each step of the small machine is a step of the JVM: locals, numbers, branches -/
section SIM1
variable {p : Program} {l : Launch} {e : Env} {R : Room} {s : State} {m : MethodId} {args : Array Value} {below : List Frame} {meth : Method} {c : Code} {H : Heap} {locs : List Loc} {cells slots : Nat} {Q : State → Prop}
theorem zlen_of {i : Instr} {len : Nat} (h : zlk i len = true) (hi : ∀ a b c d, i ≠ .tableswitch a b c d) : len = zlen i := by
  unfold zlk at h
  split at h
  · exact absurd rfl (hi _ _ _ _)
  · exact of_decide_eq_true h
theorem zn1_M {j : Nat} {i : Instr} {pc : Nat} {ls : zL} {st : List zV} {M : zM} {x : zX} (h : zn1 j i pc ls st M = some x) : x.2.2.2 = M := by
  unfold zn1 at h
  repeat' split at h
  all_goals first | (cases h; rfl) | cases h
theorem zn2_M {i : Instr} {pc : Nat} {ls : zL} {st : List zV} {M : zM} {x : zX} (h : zn2 i pc ls st M = some x) : x.2.2.2 = M := by
  unfold zn2 at h
  repeat' split at h
  all_goals first | (cases h; rfl) | (cases h; done) | (obtain ⟨q, -, rfl⟩ := Option.map_eq_some_iff.mp h; rfl)
theorem z_n1 {f : Int → Nat} {j : Nat} {i : Instr} {len pc : Nat} {ls : zL} {st : List zV} {M : zM} {x : zX} {A : Array Slot} (hx : p.tables.exec = Jvm.exec) (hb : c.code = zc j) (hown : s.vm.findClass (zRn (zo j)) = some m.cls) (hts : ∀ w ∈ zW, w.before args s = true)
    (hL : zLR f (zn j) ls A) (hS : ∀ v ∈ st, zok v) (hd : decode (zc j) pc = .ok (i, len)) (hl : zlk i len = true) (h : zn1 j i pc ls st M = some x)
    (kk : ∀ A', zLR f (zn j) x.2.1 A' → (∀ v ∈ x.2.2.1, zok v) → W p l e R s m args below meth c H locs cells slots Q (F0 m x.1 A' (x.2.2.1.map (zcv f)))) : W p l e R s m args below meth c H locs cells slots Q (F0 m pc A (st.map (zcv f))) := by
  unfold zn1 at h
  split at h
  · next k =>
    have hn := zlen_of hl (by intros; simp); simp only [zlen] at hn; subst hn
    split at h
    · next q hk => cases h; exact lv_aload_n hx hb hd rfl (hL.at hk) (kk A hL (by simpa [zok] using hS))
    · cases h
  · next k =>
    have hn := zlen_of hl (by intros; simp); simp only [zlen] at hn; subst hn
    split at h
    · next q hk => cases h; exact lv_aload hx hb hd (hL.at hk) (kk A hL (by simpa [zok] using hS))
    · cases h
  · next k =>
    have hn := zlen_of hl (by intros; simp); simp only [zlen] at hn; subst hn
    split at h
    · next q hk => cases h; exact lv_iload_n hx hb hd rfl (hL.at hk) (kk A hL (List.forall_mem_cons.mpr ⟨hL.ok hk, hS⟩))
    · cases h
  · next k =>
    have hn := zlen_of hl (by intros; simp); simp only [zlen] at hn; subst hn
    split at h
    · next q hk => cases h; exact lv_iload hx hb hd (hL.at hk) (kk A hL (List.forall_mem_cons.mpr ⟨hL.ok hk, hS⟩))
    · cases h
  · next k =>
    have hn := zlen_of hl (by intros; simp); simp only [zlen] at hn; subst hn
    split at h
    · next q hk => cases h; exact lv_lload_n hx hb hd rfl (hL.at hk) (kk A hL (List.forall_mem_cons.mpr ⟨hL.ok hk, hS⟩))
    · cases h
  · next k =>
    have hn := zlen_of hl (by intros; simp); simp only [zlen] at hn; subst hn
    split at h
    · next v r =>
      split at h
      · next hf =>
        cases h
        have hv := List.forall_mem_cons.mp hS
        refine lv_istore_n hx hb hd rfl hL.1 (by rw [← hL.2.1]; simp [zfree] at hf; exact hf.1) rfl (fun A' hA' => kk A' (hL.set hf hv.1 hA') hv.2)
      · cases h
    · cases h
  · next k =>
    have hn := zlen_of hl (by intros; simp); simp only [zlen] at hn; subst hn
    split at h
    · next v r =>
      split at h
      · next hf =>
        cases h
        have hv := List.forall_mem_cons.mp hS
        refine lv_istore hx hb hd hL.1 (by rw [← hL.2.1]; simp [zfree] at hf; exact hf.1) rfl (fun A' hA' => kk A' (hL.set hf hv.1 hA') hv.2)
      · cases h
    · cases h
  · next k =>
    have hn := zlen_of hl (by intros; simp); simp only [zlen] at hn; subst hn
    split at h
    · next v r =>
      split at h
      · next hf =>
        cases h
        have hv := List.forall_mem_cons.mp hS
        refine lv_astore_n hx hb hd rfl hL.1 (by rw [← hL.2.1]; simp [zfree] at hf; exact hf.1) rfl (fun A' hA' => kk A' (hL.set hf hv.1 hA') hv.2)
      · cases h
    · cases h
  · next k =>
    have hn := zlen_of hl (by intros; simp); simp only [zlen] at hn; subst hn
    split at h
    · next v r =>
      split at h
      · next hf =>
        cases h
        have hv := List.forall_mem_cons.mp hS
        refine lv_astore hx hb hd hL.1 (by rw [← hL.2.1]; simp [zfree] at hf; exact hf.1) rfl (fun A' hA' => kk A' (hL.set hf hv.1 hA') hv.2)
      · cases h
    · cases h
  · next k =>
    have hn := zlen_of hl (by intros; simp); simp only [zlen] at hn; subst hn
    split at h
    · next v r =>
      split at h
      · next hf =>
        cases h
        have hv := List.forall_mem_cons.mp hS
        refine lv_lstore_n hx hb hd rfl hL.1 (by rw [← hL.2.1]; exact hf.2) rfl (fun A' hA' => kk A' (hL.set2 hf.1 hA') hv.2)
      · cases h
    · cases h
  · next k n =>
    have hn := zlen_of hl (by intros; simp); simp only [zlen] at hn; subst hn
    split at h
    · next v hk =>
      split at h
      · next hf =>
        cases h
        have hm := (zas_mem (f := f) ls 0 (k, zcv f (.inl v))).mpr ⟨k, .inl v, (Nat.zero_add k).symm, hk, rfl⟩
        obtain ⟨i0, hi0⟩ := List.getElem?_of_mem hm
        refine lv_iinc hx hb hd hL.1 (k := i0) hi0 (v := Int32.ofInt (v + n)) (by rw [Int32.ofInt_add]) (by rw [← hL.2.1]; exact (List.getElem?_eq_some_iff.mp hk).1) rfl (fun A' hA' => kk A' (hL.set hf.1 (v := .inl (v + n)) (z32_iff.mp hf.2.1) hA') hS)
      · cases h
    · cases h
  · next n =>
    have hn := zlen_of hl (by intros; simp); simp only [zlen] at hn; subst hn
    split at h
    · next hv => cases h; exact lv_iconst hx hb hd rfl (kk A hL (List.forall_mem_cons.mpr ⟨z32_iff.mp hv, hS⟩))
    · cases h
  · next n =>
    have hn := zlen_of hl (by intros; simp); simp only [zlen] at hn; subst hn
    split at h
    · next hv =>
      cases h
      refine lv_bipush hx hb hd (v := Int32.ofInt n) ?_ (kk A hL (List.forall_mem_cons.mpr ⟨⟨by omega, by omega⟩, hS⟩))
      apply Int32.toInt_inj.mp
      rw [zti ⟨by omega, by omega⟩, Int8.toInt_toInt32, Int8.toInt_ofInt]
      have e : Int8.size = 256 := rfl
      rw [e]
      exact Int.bmod_eq_of_le (by omega) (by omega)
    · cases h
  · next n =>
    have hn := zlen_of hl (by intros; simp); simp only [zlen] at hn; subst hn
    split at h
    · next hv =>
      cases h
      refine lv_sipush hx hb hd (v := Int32.ofInt n) ?_ (kk A hL (List.forall_mem_cons.mpr ⟨⟨by omega, by omega⟩, hS⟩))
      apply Int32.toInt_inj.mp
      rw [zti ⟨by omega, by omega⟩, Int16.toInt_toInt32, Int16.toInt_ofInt]
      have e : Int16.size = 65536 := rfl
      rw [e]
      exact Int.bmod_eq_of_le (by omega) (by omega)
    · cases h
  · next k =>
    have hn := zlen_of hl (by intros; simp); simp only [zlen] at hn; subst hn
    split at h
    · next v hv =>
      cases h
      have hw : Cond.constantLong (zRn (zo j)) k v ∈ zW := by
        unfold zlc at hv
        obtain ⟨q, hq, rfl⟩ := Option.map_eq_some_iff.mp hv
        have h1 := List.find?_some hq
        simp only [Bool.and_eq_true, beq_iff_eq] at h1
        have h2 := List.all_eq_true.mp zlcT_ok q (List.mem_of_find?_eq_some hq)
        have h3 := zgw_in h2
        rw [h1.1, h1.2] at h3
        exact h3
      exact lv_ldc2 hx hb hown (hts _ hw) hd (kk A hL (List.forall_mem_cons.mpr ⟨trivial, hS⟩))
    · cases h
  · cases h
end SIM1
end
section
/-! numbers and branches -/
section SIM2
variable {p : Program} {l : Launch} {e : Env} {R : Room} {s : State} {m : MethodId} {args : Array Value} {below : List Frame} {meth : Method} {c : Code} {H : Heap} {locs : List Loc} {cells slots : Nat} {Q : State → Prop}
theorem zif_t {b : Bool} {pc : Nat} {o : Int} {q : Nat} (h : zif b pc o = some q) : ∃ t : Nat, (pc : Int) + o = (t : Int) ∧ (b = true → q = t) ∧ (b = false → q = pc + 3) := by
  unfold zif at h
  split at h
  · next h0 =>
    refine ⟨_, (Int.toNat_of_nonneg h0).symm, ?_⟩
    split at h
    · next hb => cases h; exact ⟨fun _ => rfl, fun e => by rw [hb] at e; cases e⟩
    · next hb => cases h; exact ⟨fun e => absurd e hb, fun _ => rfl⟩
  · cases h
theorem zdiv {a b : Int} (ha : 0 ≤ a) (ha2 : a ≤ 2147483647) (hb : 0 < b) (hb2 : b ≤ 2147483647) : Int32.ofInt a / Int32.ofInt b = Int32.ofInt (a / b) := by
  have e1 : Int32.ofInt a = nI a.toNat := by show _ = Int32.ofNat a.toNat; rw [← Int32.ofInt_eq_ofNat]; congr 1; omega
  have e2 : Int32.ofInt b = nI b.toNat := by show _ = Int32.ofNat b.toNat; rw [← Int32.ofInt_eq_ofNat]; congr 1; omega
  rw [e1, e2, pk_div (by omega) (by omega) (by omega)]
  show Int32.ofNat _ = _
  rw [← Int32.ofInt_eq_ofNat]
  congr 1
  rw [Int.natCast_ediv, Int.toNat_of_nonneg ha, Int.toNat_of_nonneg (by omega)]
theorem zi2l {a : Int} (h : -2147483648 ≤ a ∧ a ≤ 2147483647) : (Int32.ofInt a).toInt64 = Int64.ofInt a := by
  apply Int64.toInt_inj.mp
  rw [Int32.toInt_toInt64, zti h, Int64.toInt_ofInt]
  have e : Int64.size = 18446744073709551616 := rfl
  rw [e]
  exact (Int.bmod_eq_of_le (by omega) (by omega)).symm
set_option maxHeartbeats 1000000 in
theorem z_n2 {f : Int → Nat} {j : Nat} {i : Instr} {len pc : Nat} {ls : zL} {st : List zV} {M : zM} {x : zX} {A : Array Slot} (hx : p.tables.exec = Jvm.exec) (hb : c.code = zc j)
    (hL : zLR f (zn j) ls A) (hS : ∀ v ∈ st, zok v) (hd : decode (zc j) pc = .ok (i, len)) (hl : zlk i len = true) (h : zn2 i pc ls st M = some x)
    (kk : ∀ A', zLR f (zn j) x.2.1 A' → (∀ v ∈ x.2.2.1, zok v) → W p l e R s m args below meth c H locs cells slots Q (F0 m x.1 A' (x.2.2.1.map (zcv f)))) : W p l e R s m args below meth c H locs cells slots Q (F0 m pc A (st.map (zcv f))) := by
  unfold zn2 at h
  split at h
  ·
    have hn := zlen_of hl (by intros; simp); simp only [zlen] at hn; subst hn
    split at h
    · next v r => cases h; have hv := List.forall_mem_cons.mp hS; exact lv_dup hx hb hd rfl (kk A hL (List.forall_mem_cons.mpr ⟨hv.1, hS⟩))
    · next v r => cases h; have hv := List.forall_mem_cons.mp hS; exact lv_dup hx hb hd rfl (kk A hL (List.forall_mem_cons.mpr ⟨hv.1, hS⟩))
    · cases h
  ·
    have hn := zlen_of hl (by intros; simp); simp only [zlen] at hn; subst hn
    split at h
    · next v q r => cases h; have hv := List.forall_mem_cons.mp hS; have hw := List.forall_mem_cons.mp hv.2; exact lv_dup2_11 hx hb hd rfl rfl (kk A hL (List.forall_mem_cons.mpr ⟨hv.1, List.forall_mem_cons.mpr ⟨hw.1, hS⟩⟩))
    · cases h
  ·
    have hn := zlen_of hl (by intros; simp); simp only [zlen] at hn; subst hn
    split at h
    · next y0 x0 r =>
      split at h
      · next hz =>
        cases h
        have hv := List.forall_mem_cons.mp hS
        have hw := List.forall_mem_cons.mp hv.2
        refine lv_iadd hx hb hd ?_
        rw [← Int32.ofInt_add]
        exact kk A hL (List.forall_mem_cons.mpr ⟨z32_iff.mp hz, hw.2⟩)
      · cases h
    · cases h
  ·
    have hn := zlen_of hl (by intros; simp); simp only [zlen] at hn; subst hn
    split at h
    · next y0 x0 r =>
      split at h
      · next hz =>
        cases h
        have hv := List.forall_mem_cons.mp hS
        have hw := List.forall_mem_cons.mp hv.2
        refine lv_isub hx hb hd ?_
        rw [← Int32.ofInt_sub]
        exact kk A hL (List.forall_mem_cons.mpr ⟨z32_iff.mp hz, hw.2⟩)
      · cases h
    · cases h
  ·
    have hn := zlen_of hl (by intros; simp); simp only [zlen] at hn; subst hn
    split at h
    · next y0 x0 r =>
      split at h
      · next hz =>
        cases h
        have hv := List.forall_mem_cons.mp hS
        have hw := List.forall_mem_cons.mp hv.2
        refine lv_imul hx hb hd ?_
        rw [← Int32.ofInt_mul]
        exact kk A hL (List.forall_mem_cons.mpr ⟨z32_iff.mp hz, hw.2⟩)
      · cases h
    · cases h
  ·
    have hn := zlen_of hl (by intros; simp); simp only [zlen] at hn; subst hn
    split at h
    · next y0 x0 r =>
      split at h
      · next hz =>
        cases h
        have hv := List.forall_mem_cons.mp hS
        have hw := List.forall_mem_cons.mp hv.2
        have b1 : -2147483648 ≤ y0 ∧ y0 ≤ 2147483647 := hv.1
        have b2 : -2147483648 ≤ x0 ∧ x0 ≤ 2147483647 := hw.1
        refine lv_idiv hx hb hd ?_ ?_
        · intro e0
          have := (zinj (b := 0) b1 ⟨by omega, by omega⟩).mp e0
          omega
        · rw [zdiv hz.1 b2.2 hz.2 b1.2]
          have g1 : 0 ≤ x0 / y0 := Int.ediv_nonneg hz.1 (by omega)
          have g2 : x0 / y0 ≤ x0 := Int.ediv_le_self _ hz.1
          exact kk A hL (List.forall_mem_cons.mpr ⟨⟨by omega, by omega⟩, hw.2⟩)
      · cases h
    · cases h
  ·
    have hn := zlen_of hl (by intros; simp); simp only [zlen] at hn; subst hn
    split at h
    · next y0 x0 r =>
      cases h
      have hv := List.forall_mem_cons.mp hS
      have hw := List.forall_mem_cons.mp hv.2
      refine lv_iand hx hb hd ?_
      rw [← Int32.ofInt_toInt (Int32.ofInt x0 &&& Int32.ofInt y0)]
      exact kk A hL (List.forall_mem_cons.mpr ⟨zto _, hw.2⟩)
    · cases h
  ·
    have hn := zlen_of hl (by intros; simp); simp only [zlen] at hn; subst hn
    split at h
    · next y0 x0 r =>
      cases h
      have hv := List.forall_mem_cons.mp hS
      have hw := List.forall_mem_cons.mp hv.2
      refine lv_ishr hx hb hd ?_
      rw [← Int32.ofInt_toInt (Int32.ofInt x0 >>> (Int32.ofInt y0 &&& 31))]
      exact kk A hL (List.forall_mem_cons.mpr ⟨zto _, hw.2⟩)
    · cases h
  ·
    have hn := zlen_of hl (by intros; simp); simp only [zlen] at hn; subst hn
    split at h
    · next x0 r =>
      cases h
      have hv := List.forall_mem_cons.mp hS
      exact lv_i2l hx hb hd (zi2l hv.1) (kk A hL (List.forall_mem_cons.mpr ⟨trivial, hv.2⟩))
    · cases h
  ·
    have hn := zlen_of hl (by intros; simp); simp only [zlen] at hn; subst hn
    split at h
    · next y0 x0 r =>
      cases h
      have hv := List.forall_mem_cons.mp hS
      have hw := List.forall_mem_cons.mp hv.2
      exact lv_lmul hx hb hd (kk A hL (List.forall_mem_cons.mpr ⟨trivial, hw.2⟩))
    · cases h
  ·
    have hn := zlen_of hl (by intros; simp); simp only [zlen] at hn; subst hn
    split at h
    · next y0 x0 r =>
      cases h
      have hv := List.forall_mem_cons.mp hS
      have hw := List.forall_mem_cons.mp hv.2
      exact lv_ladd hx hb hd (kk A hL (List.forall_mem_cons.mpr ⟨trivial, hw.2⟩))
    · cases h
  ·
    have hn := zlen_of hl (by intros; simp); simp only [zlen] at hn; subst hn
    split at h
    · next y0 x0 r =>
      cases h
      have hv := List.forall_mem_cons.mp hS
      have hw := List.forall_mem_cons.mp hv.2
      refine W.lcmp hx hb hd ?_
      rw [← Int32.ofInt_toInt (lg_cmp x0 y0)]
      exact kk A hL (List.forall_mem_cons.mpr ⟨zto _, hw.2⟩)
    · cases h
  ·
    have hn := zlen_of hl (by intros; simp); simp only [zlen] at hn; subst hn
    split at h
    · next y0 x0 r =>
      obtain ⟨q, hq, rfl⟩ := Option.map_eq_some_iff.mp h
      obtain ⟨t, ht, htt, hff⟩ := zif_t hq
      have hv := List.forall_mem_cons.mp hS
      have hw := List.forall_mem_cons.mp hv.2
      have b1 : -2147483648 ≤ y0 ∧ y0 ≤ 2147483647 := hv.1
      have b2 : -2147483648 ≤ x0 ∧ x0 ≤ 2147483647 := hw.1
      have hr := hw.2
      split at hq
      · have hc := zinj b2 b1
        by_cases hz : x0 = y0
        · have hp := htt (decide_eq_true hz)
          subst hp
          exact lv_icmp_eq hx hb hd ht (fun _ => kk A hL hr) (fun g => absurd (hc.mpr hz) g)
        · have hp := hff (decide_eq_false hz)
          rw [hp] at kk
          exact lv_icmp_eq hx hb hd ht (fun g => absurd (hc.mp g) hz) (fun _ => kk A hL hr)
      · have hc := not_congr (zinj b2 b1)
        by_cases hz : x0 ≠ y0
        · have hp := htt (decide_eq_true hz)
          subst hp
          exact lv_icmp_ne hx hb hd ht (fun _ => kk A hL hr) (fun g => absurd g (hc.mpr hz))
        · have hp := hff (decide_eq_false hz)
          rw [hp] at kk
          exact lv_icmp_ne hx hb hd ht (fun g => absurd (hc.mp g) hz) (fun _ => kk A hL hr)
      · have hc := zlt b2 b1
        by_cases hz : x0 < y0
        · have hp := htt (decide_eq_true hz)
          subst hp
          exact lv_icmp_lt hx hb hd ht (fun _ => kk A hL hr) (fun g => absurd (hc.mpr hz) g)
        · have hp := hff (decide_eq_false hz)
          rw [hp] at kk
          exact lv_icmp_lt hx hb hd ht (fun g => absurd (hc.mp g) hz) (fun _ => kk A hL hr)
      · have hc := zle b1 b2
        by_cases hz : y0 ≤ x0
        · have hp := htt (decide_eq_true hz)
          subst hp
          exact lv_icmp_ge hx hb hd ht (fun _ => kk A hL hr) (fun g => absurd (hc.mpr hz) g)
        · have hp := hff (decide_eq_false hz)
          rw [hp] at kk
          exact lv_icmp_ge hx hb hd ht (fun g => absurd (hc.mp g) hz) (fun _ => kk A hL hr)
      · have hc := zlt b1 b2
        by_cases hz : y0 < x0
        · have hp := htt (decide_eq_true hz)
          subst hp
          exact lv_icmp_gt hx hb hd ht (fun _ => kk A hL hr) (fun g => absurd (hc.mpr hz) g)
        · have hp := hff (decide_eq_false hz)
          rw [hp] at kk
          exact lv_icmp_gt hx hb hd ht (fun g => absurd (hc.mp g) hz) (fun _ => kk A hL hr)
      · have hc := zle b2 b1
        by_cases hz : x0 ≤ y0
        · have hp := htt (decide_eq_true hz)
          subst hp
          exact lv_icmp_le hx hb hd ht (fun _ => kk A hL hr) (fun g => absurd (hc.mpr hz) g)
        · have hp := hff (decide_eq_false hz)
          rw [hp] at kk
          exact lv_icmp_le hx hb hd ht (fun g => absurd (hc.mp g) hz) (fun _ => kk A hL hr)
    · cases h
  ·
    have hn := zlen_of hl (by intros; simp); simp only [zlen] at hn; subst hn
    split at h
    · next x0 r =>
      obtain ⟨q, hq, rfl⟩ := Option.map_eq_some_iff.mp h
      obtain ⟨t, ht, htt, hff⟩ := zif_t hq
      have hv := List.forall_mem_cons.mp hS
      have b2 : -2147483648 ≤ x0 ∧ x0 ≤ 2147483647 := hv.1
      have b1 : -2147483648 ≤ (0 : Int) ∧ (0 : Int) ≤ 2147483647 := ⟨by omega, by omega⟩
      have hr := hv.2
      split at hq
      · have hc := zinj b2 b1
        by_cases hz : x0 = 0
        · have hp := htt (decide_eq_true hz)
          subst hp
          exact lv_if_eq hx hb hd ht (fun _ => kk A hL hr) (fun g => absurd (hc.mpr hz) g)
        · have hp := hff (decide_eq_false hz)
          rw [hp] at kk
          exact lv_if_eq hx hb hd ht (fun g => absurd (hc.mp g) hz) (fun _ => kk A hL hr)
      · have hc := not_congr (zinj b2 b1)
        by_cases hz : x0 ≠ 0
        · have hp := htt (decide_eq_true hz)
          subst hp
          exact lv_if_ne hx hb hd ht (fun _ => kk A hL hr) (fun g => absurd g (hc.mpr hz))
        · have hp := hff (decide_eq_false hz)
          rw [hp] at kk
          exact lv_if_ne hx hb hd ht (fun g => absurd (hc.mp g) hz) (fun _ => kk A hL hr)
      · have hc := zlt b2 b1
        by_cases hz : x0 < 0
        · have hp := htt (decide_eq_true hz)
          subst hp
          exact lv_if_lt hx hb hd ht (fun _ => kk A hL hr) (fun g => absurd (hc.mpr hz) g)
        · have hp := hff (decide_eq_false hz)
          rw [hp] at kk
          exact lv_if_lt hx hb hd ht (fun g => absurd (hc.mp g) hz) (fun _ => kk A hL hr)
      · have hc := zle b1 b2
        by_cases hz : 0 ≤ x0
        · have hp := htt (decide_eq_true hz)
          subst hp
          exact lv_if_ge hx hb hd ht (fun _ => kk A hL hr) (fun g => absurd (hc.mpr hz) g)
        · have hp := hff (decide_eq_false hz)
          rw [hp] at kk
          exact lv_if_ge hx hb hd ht (fun g => absurd (hc.mp g) hz) (fun _ => kk A hL hr)
      · have hc := zlt b1 b2
        by_cases hz : 0 < x0
        · have hp := htt (decide_eq_true hz)
          subst hp
          exact lv_if_gt hx hb hd ht (fun _ => kk A hL hr) (fun g => absurd (hc.mpr hz) g)
        · have hp := hff (decide_eq_false hz)
          rw [hp] at kk
          exact lv_if_gt hx hb hd ht (fun g => absurd (hc.mp g) hz) (fun _ => kk A hL hr)
      · have hc := zle b2 b1
        by_cases hz : x0 ≤ 0
        · have hp := htt (decide_eq_true hz)
          subst hp
          exact lv_if_le hx hb hd ht (fun _ => kk A hL hr) (fun g => absurd (hc.mpr hz) g)
        · have hp := hff (decide_eq_false hz)
          rw [hp] at kk
          exact lv_if_le hx hb hd ht (fun g => absurd (hc.mp g) hz) (fun _ => kk A hL hr)
    · cases h
  ·
    have hn := zlen_of hl (by intros; simp); simp only [zlen] at hn; subst hn
    split at h
    · next hz => cases h; exact lv_goto hx hb hd (Int.toNat_of_nonneg hz).symm (kk A hL hS)
    · cases h
  · split at h
    · next x0 r =>
      have hv := List.forall_mem_cons.mp hS
      have b2 : -2147483648 ≤ x0 ∧ x0 ≤ 2147483647 := hv.1
      split at h
      · next hz =>
        split at h
        · next h0 => cases h; exact lv_tableOut hx hb hd (by rw [zti b2]; exact hz) (Int.toNat_of_nonneg h0).symm (kk A hL hv.2)
        · cases h
      · next hz =>
        split at h
        · next o ho =>
          split at h
          · next h0 => cases h; exact lv_tableIn hx hb hd (by rw [zti b2]; omega) (by rw [zti b2]; omega) (by rw [zti b2]; exact ho) (Int.toNat_of_nonneg h0).symm (kk A hL hv.2)
          · cases h
        · cases h
    · cases h
  · cases h
end SIM2
end
section
/-! stores and makings that also tell the heap's size -/
section ZROWS
variable {p : Program} {l : Launch} {e : Env} {R : Room} {s : State} {m : MethodId} {args : Array Value} {below : List Frame} {meth : Method} {c : Code} {H : Heap} {locs : List Loc} {cells slots : Nat} {Q : State → Prop}
variable {cc : ByteArray} {pc : Nat} {ls : Array Slot} {rest : List Value} {D : va_G} {cl : List vw_C} {A : Nat → Prop} {a : Nat} {tys : List (ClassId × FieldType)} {ws : va_W} {H0 : Heap}
theorem zw_put (hx : p.tables.exec = Jvm.exec) (hb : c.code = cc) {own C : String} {T : u_T} {N ci index : Nat} {Ts : List Cond} (hts : ∀ w ∈ Ts, w.before args s = true) (hin : ∀ w ∈ u_ws C T N, w ∈ Ts) (ty0 : Nat → FieldType) (hty : ∀ k, k < N → parseFieldDescriptor (T k).2.2.1 = some (ty0 k)) (hnm : ∀ a, a < N → ∀ b, b < N → a ≠ b → (T a).2.1 ≠ (T b).2.1) (hown : s.vm.findClass own = some m.cls) (hK : va_K D cl tys s) (hP : va_P D cl ws H) (hD : va_D A ws) (hS0 : va_S A H0 H locs) (q0 : Nat) {fs : List Value} (he : ws[q0]? = some (a, .inr (ci, fs))) (hc : cl[ci]? = some (C, T, N)) (k : Nat) (hk : k < N) (hdc : (T k).1 = C) (hlink : (Cond.fieldLink own index C (T k).2.1 (T k).2.2.1).before args s = true) (hf : (T k).2.2.2 = false ∨ ((T k).2.2.2 = true ∧ meth.name = "<init>" ∧ C = own)) {v : Value} (hn : narrow (ty0 k) v = v) (hfit : fits (ty0 k) v = true) (hl : k < fs.length)
    (hdg : decode cc pc = .ok (.putfield index, 3)) (kk : ∀ (H1 : Heap) (locs1 : List Loc), H1.size = H.size → va_P D cl (ws.set q0 (a, .inr (ci, fs.set k v))) H1 → va_S A H0 H1 locs1 → W p l e R s m args below meth c H1 locs1 cells slots Q (F0 m (pc + 3) ls rest)) : W p l e R s m args below meth c H locs cells slots Q (F0 m pc ls (v :: .ref a :: rest)) := by
  have hap := va_apart (own := own) hts hin ty0 hty hnm hK hc
  obtain ⟨r, h1, cell, q1, q2, q3, q4⟩ := hP q0 _ he
  obtain rfl : r = (C, T, N) := Option.some.inj (h1.symm.trans hc)
  obtain ⟨hS, hfc, kC, hkC, hkind⟩ := hK.1 ci _ hc
  obtain ⟨cf, kf, fi, f, hi, hsl⟩ := hS k hk
  have hi' : s.fieldFound? C (T k).2.1 (T k).2.2.1 = some (cf, kf, fi, f) := by rw [← hdc]; exact hi
  have hlay := hts _ (hin _ (u_in_lay hk))
  unfold u_lay at hlay
  have hst := (u_facts hfc hkC (u_lays hts hin hk) hi).1
  have fin : ∀ H' : Heap, H'[a]? = some (cell.setSlot (D.2 ci k) v) → H'.size = H.size → (∀ q, q ≠ a → H'[q]? = H[q]?) → W p l e R s m args below meth c H' (locs ++ [⟨a, D.2 ci k⟩]) cells slots Q (F0 m (pc + 3) ls rest) := fun H' e1 e2 e3 =>
    kk H' _ e2 (hP.set hD he ⟨_, hc, t_OB.to (V := updV (vp_V fs) k v) ⟨_, e1, q2, q3, t_set q4 hap hk v⟩ (fun j _ => vp_updV_set hl v j)⟩ e3) (hS0.put e2 e3 (hD.2 q0 _ he))
  have hsl' : f.slot = D.2 ci k := hsl
  rcases hf with hf | ⟨hf, hin2, hdecl⟩
  · rw [if_neg (by rw [hf]; decide)] at hlay
    have h6 := u_store hfc hkC hkind hlay hi (hty k hk) hn hfit
    refine W.putK hx hb (f := f) ⟨hown, hlink, ⟨_, _, _, hi'⟩, hst⟩ (by rw [q2]; exact h6) q1 q3 (by rw [hsl']; exact k2_hasslot (q4 k hk)) rfl rfl hdg fun H' e1 e2 e3 => ?_
    rw [hsl'] at e1 ⊢
    exact fin H' e1 e2 e3
  · rw [if_pos hf] at hlay
    have hcf : m.cls = cf := by
      obtain ⟨_, _, c', _, _, _, -, -, hf', -, -, -, hown2, -⟩ := Cond.laysFinal_spec hlay
      have e1 : c' = cf := by have := hi.symm.trans hf'; simp at this; exact this.1.symm
      rw [hdc, hdecl] at hown2
      rw [← e1]; exact Option.some.inj (hown.symm.trans hown2)
    have h6 := u_fits hfc hkC hkind (Or.inr hlay) hi (hty k hk) hn hfit
    refine W.putFinK hx hb hown hlink hi' hst hcf hin2 (by rw [q2]; exact h6) q1 q3 (by rw [hsl']; exact k2_hasslot (q4 k hk)) rfl rfl hdg fun H' e1 e2 e3 => ?_
    rw [hsl'] at e1 ⊢
    exact fin H' e1 e2 e3
theorem zw_iast (hx : p.tables.exec = Jvm.exec) (hb : c.code = cc) (hK : va_K D cl tys s) (hP : va_P D cl ws H) (hD : va_D A ws) (hS : va_S A H0 H locs) (q0 t0 : Nat) {cA : ClassId} {n : Nat} {f : Nat → Int32} (ha : ws[q0]? = some (a, .inl (cA, n, .inl f))) (ht : tys[t0]? = some (cA, .int)) {i x : Int32} (hin : vp_in i n) (hdg : decode cc pc = .ok (.iastore, 1))
    (kk : ∀ (H1 : Heap) (locs1 : List Loc), H1.size = H.size → va_P D cl (ws.set q0 (a, .inl (cA, n, .inl (upd f i.toNatClampNeg x)))) H1 → va_S A H0 H1 locs1 → W p l e R s m args below meth c H1 locs1 cells slots Q (F0 m (pc + 1) ls rest)) : W p l e R s m args below meth c H locs cells slots Q (F0 m pc ls (.int x :: .int i :: .ref a :: rest)) := by
  refine W.iast hx hb (hP q0 _ ha) ((hK.2 t0 _ ht).1 n (fun j => .int (f j))) (fun q => by cases q) (by show ¬ (i < 0 ∨ (arrV _ _ _).slots.size ≤ _); rw [arrV_size]; exact hin) rfl rfl hdg fun H1 e z oq => ?_
  refine kk H1 _ z (hP.set hD ha ?_ oq) (hS.put z oq (hD.2 q0 _ ha))
  show H1[a]? = some (vp_cell _ _)
  rw [e, vp_cell_i, vp_cell_i, arrV_store]
  congr 2
  funext q
  by_cases hq : q = i.toNatClampNeg
  · subst hq; simp [updV, upd]
  · simp [updV, upd, hq]
theorem zw_zast (hx : p.tables.exec = Jvm.exec) (hb : c.code = cc) (hK : va_K D cl tys s) (hP : va_P D cl ws H) (hD : va_D A ws) (hS : va_S A H0 H locs) (q0 t0 : Nat) {cA : ClassId} {n : Nat} {f : Nat → Int32} (ha : ws[q0]? = some (a, .inl (cA, n, .inl f))) (ht : tys[t0]? = some (cA, .boolean)) {i x : Int32} (hx1 : narrow .boolean (.int x) = .int x) (hin : vp_in i n) (hdg : decode cc pc = .ok (.bastore, 1))
    (kk : ∀ (H1 : Heap) (locs1 : List Loc), H1.size = H.size → va_P D cl (ws.set q0 (a, .inl (cA, n, .inl (upd f i.toNatClampNeg x)))) H1 → va_S A H0 H1 locs1 → W p l e R s m args below meth c H1 locs1 cells slots Q (F0 m (pc + 1) ls rest)) : W p l e R s m args below meth c H locs cells slots Q (F0 m pc ls (.int x :: .int i :: .ref a :: rest)) := by
  refine W.zast hx hb (hP q0 _ ha) ((hK.2 t0 _ ht).1 n (fun j => .int (f j))) (fun q => by cases q) (by show ¬ (i < 0 ∨ (arrV _ _ _).slots.size ≤ _); rw [arrV_size]; exact hin) rfl rfl hdg fun H1 e z oq => ?_
  refine kk H1 _ z (hP.set hD ha ?_ oq) (hS.put z oq (hD.2 q0 _ ha))
  show H1[a]? = some (vp_cell _ _)
  rw [e, hx1, vp_cell_i, vp_cell_i, arrV_store]
  congr 2
  funext q
  by_cases hq : q = i.toNatClampNeg
  · subst hq; simp [updV, upd]
  · simp [updV, upd, hq]
theorem zw_astq (hx : p.tables.exec = Jvm.exec) (hb : c.code = cc) (hK : va_K D cl tys s) (hP : va_P D cl ws H) (hD : va_D A ws) (hS : va_S A H0 H locs) (q0 t0 qk ci : Nat) {cA : ClassId} {r : vw_C} {n v : Nat} {vs : List Value} {f : Nat → Option Nat} (ha : ws[q0]? = some (a, .inl (cA, n, .inr (.inr (.inr (.inr f)))))) (ht : tys[t0]? = some (cA, .object r.1)) (hv : ws[qk]? = some (v, .inr (ci, vs))) (hc : cl[ci]? = some r) {i : Int32} (hin : vp_in i n) (hdg : decode cc pc = .ok (.aastore, 1))
    (kk : ∀ (H1 : Heap) (locs1 : List Loc), H1.size = H.size → va_P D cl (ws.set q0 (a, .inl (cA, n, .inr (.inr (.inr (.inr (va_up f i.toNatClampNeg (some v)))))))) H1 → va_S A H0 H1 locs1 → W p l e R s m args below meth c H1 locs1 cells slots Q (F0 m (pc + 1) ls rest)) : W p l e R s m args below meth c H locs cells slots Q (F0 m pc ls (.ref v :: .int i :: .ref a :: rest)) := by
  have hlt : i.toNatClampNeg < n := Nat.not_le.mp fun q => hin (Or.inr q)
  have h0 : ¬ i < 0 := fun q => hin (Or.inl q)
  obtain ⟨r', hr', cellV, g1, g2, g3, -⟩ := hP qk _ hv
  have hcls := (hK.1 ci r hc).2
  obtain ⟨kA, comp, k1, k2, k3, -⟩ := (hK.2 t0 _ ht).2
  obtain rfl : comp = D.1 ci := Option.some.inj (k3.symm.trans hcls.1)
  obtain ⟨kC, hkC, -⟩ := hcls.2
  refine W.aast hx hb (hP q0 _ ha) (fun q h => by cases h) (fun h => by cases h) k1 k2 rfl hkC ⟨h0, by show _ < (arrV _ _ _).slots.size; rw [arrV_size]; exact hlt⟩ g1 (fun q h => by rw [g3] at h; cases h) (by rw [g2]; exact hkC) (by rw [g2]; exact va_assign hcls) rfl rfl hdg fun H1 e z oq => ?_
  refine kk H1 _ z (hP.set hD ha ?_ oq) (hS.put z oq (hD.2 q0 _ ha))
  show H1[a]? = some (vp_cell _ _)
  rw [e, vp_cell_q, vp_cell_q, arrV_store]
  congr 2
  funext q
  by_cases hq : q = i.toNatClampNeg
  · subst hq; simp [updV, va_up, va_rf]
  · simp [updV, va_up, hq]
theorem zw_one {q : Nat} {en : va_E} (h : ∀ {H1 : Heap}, va_at D cl (q, en) H1 → va_P D cl [(q, en)] H1) : True := trivial
theorem zw_sing {q : Nat} {en : va_E} {H1 : Heap} (h : va_at D cl (q, en) H1) : va_P D cl [(q, en)] H1 := by
  intro k x hx
  have hz : k < 1 := (List.getElem?_eq_some_iff.mp hx).1
  rw [show k = 0 by omega] at hx
  cases hx
  exact h
theorem zw_new (hx : p.tables.exec = Jvm.exec) (hb : c.code = cc) {own C : String} {T : u_T} {N ci index : Nat} {Ts : List Cond} (hts : ∀ w ∈ Ts, w.before args s = true) (hin : ∀ w ∈ u_ws C T N, w ∈ Ts) (ty : Nat → FieldType) (hty : ∀ k, k < N → parseFieldDescriptor (T k).2.2.1 = some (ty k)) (hown : s.vm.findClass own = some m.cls) (hcl : (Cond.classLink own index C).before args s = true) (hinst : (Cond.instantiable C N).before args s = true) (hini : (Cond.initialized C).before args s = true)
    (hK : va_K D cl tys s) (hP : va_P D cl ws H) (hS : va_S A H0 H locs) (hc : cl[ci]? = some (C, T, N)) {fs : List Value} (hfs : ∀ j, j < N → defaultValue (ty j) = vp_V fs j) (hcells : cells + 1 ≤ R.cells) (hslots : slots + N ≤ R.slots) (hdg : decode cc pc = .ok (.new index, 3))
    (kk : ∀ (H1 : Heap), H1.size = H.size + 1 → va_P D cl (ws ++ [(H.size, .inr (ci, fs))]) H1 → va_S A H0 H1 locs →
      W p l e R s m args below meth c H1 locs (cells + 1) (slots + N) Q (F0 m (pc + 3) ls (.ref H.size :: rest))) : W p l e R s m args below meth c H locs cells slots Q (F0 m pc ls rest) := by
  have hKn := hK.1 ci _ hc
  refine W.newcK hx hb hown hcl hinst hini rfl hdg hcells hslots hKn.2.1 rfl fun H1 kC hkC e1 z1 o1 => ?_
  have hk : ∀ (k : Nat) (x : Nat × va_E), ws[k]? = some x → H1[x.1]? = H[x.1]? := fun k x hx => o1 x.1 ((hP k x hx).lt)
  exact kk H1 z1 ((hP.kept hk).app (zw_sing ⟨_, hc, (u_born ty hts hin hKn hkC e1 hty).to hfs⟩)) ⟨Nat.le_trans hS.1 (by omega), fun x h1 h2 => (o1 x (Nat.lt_of_lt_of_le h1 hS.1)).trans (hS.2.1 x h1 h2), hS.2.2⟩
theorem zw_newa (hx : p.tables.exec = Jvm.exec) (hb : c.code = cc) {atype : ArrayType} (harr : (Cond.arrayClass (newarray.typeOf atype)).before args s = true) {cA : ClassId} (hfc : s.vm.findClass ("[" ++ (newarray.typeOf atype).toString) = some cA) (hP : va_P D cl ws H) (hS : va_S A H0 H locs)
    {n : Int32} {N : Nat} {a0 : vp_A} (ha : vp_cell cA a0 = arrV cA N (fun _ => defaultValue (newarray.typeOf atype))) (hn : ¬ n < 0) (hN : n.toNatClampNeg = N) (hbytes : N * componentBytes (newarray.typeOf atype) ≤ 536870912) (hcells : cells + 1 ≤ R.cells) (hslots : slots + N ≤ R.slots) (hdg : decode cc pc = .ok (.newarray atype, 2))
    (kk : ∀ (H1 : Heap), H1.size = H.size + 1 → va_P D cl (ws ++ [(H.size, .inl (cA, a0))]) H1 → va_S A H0 H1 locs →
      W p l e R s m args below meth c H1 locs (cells + 1) (slots + N) Q (F0 m (pc + 2) ls (.ref H.size :: rest))) : W p l e R s m args below meth c H locs cells slots Q (F0 m pc ls (.int n :: rest)) := by
  refine va_newaK hx hb harr rfl hdg rfl hn hN hbytes hcells hslots rfl fun H1 cA' e1 z1 o1 hAr hNm => ?_
  obtain rfl : cA' = cA := Option.some.inj (hNm.symm.trans hfc)
  have hk : ∀ (k : Nat) (x : Nat × va_E), ws[k]? = some x → H1[x.1]? = H[x.1]? := fun k x hx => o1 x.1 ((hP k x hx).lt)
  refine kk H1 z1 ((hP.kept hk).app (zw_sing ?_)) ⟨Nat.le_trans hS.1 (by omega), fun x h1 h2 => (o1 x (Nat.lt_of_lt_of_le h1 hS.1)).trans (hS.2.1 x h1 h2), hS.2.2⟩
  show H1[H.size]? = some (vp_cell _ _)
  rw [ha]
  exact e1
theorem zw_newq (hx : p.tables.exec = Jvm.exec) (hb : c.code = cc) {own C : String} {index : Nat} (hown : s.vm.findClass own = some m.cls) (hclink : (Cond.classLink own index C).before args s = true) (hover : va_AO C s) {cA : ClassId} (hfc : s.vm.findClass ("[" ++ (FieldType.object C).toString) = some cA) (hP : va_P D cl ws H) (hS : va_S A H0 H locs)
    {n : Int32} {N : Nat} (hn : ¬ n < 0) (hN : n.toNatClampNeg = N) (hbytes : N * 4 ≤ 536870912) (hcells : cells + 1 ≤ R.cells) (hslots : slots + N ≤ R.slots) (hdg : decode cc pc = .ok (.anewarray index, 3))
    (kk : ∀ (H1 : Heap), H1.size = H.size + 1 → va_P D cl (ws ++ [(H.size, .inl (cA, N, .inr (.inr (.inr (.inr (fun _ => none))))))]) H1 → va_S A H0 H1 locs →
      W p l e R s m args below meth c H1 locs (cells + 1) (slots + N) Q (F0 m (pc + 3) ls (.ref H.size :: rest))) : W p l e R s m args below meth c H locs cells slots Q (F0 m pc ls (.int n :: rest)) := by
  subst hN
  refine W.anew hx hb hown hclink (va_AO.use hover) rfl hdg rfl hn hbytes hcells hslots fun cA' kA comp f1 f2 f3 f4 => ?_
  obtain rfl : cA' = cA := Option.some.inj (f1.symm.trans hfc)
  generalize hH1 : H.push ({ cls := cA', slots := Array.replicate n.toNatClampNeg .null, vm := .none } : Cell) = H1
  have z1 : H1.size = H.size + 1 := by rw [← hH1, Array.size_push]
  have e1 : H1[H.size]? = some (arrV cA' n.toNatClampNeg (fun _ => .null)) := by rw [← hH1, Array.getElem?_push_size, ← arrV_new]
  have o1 : ∀ q : Nat, q < H.size → H1[q]? = H[q]? := fun q hq => by rw [← hH1, Array.getElem?_push, if_neg (Nat.ne_of_lt hq)]
  have hk : ∀ (k : Nat) (x : Nat × va_E), ws[k]? = some x → H1[x.1]? = H[x.1]? := fun k x hx => o1 x.1 ((hP k x hx).lt)
  refine kk H1 z1 ((hP.kept hk).app (zw_sing ?_)) ⟨Nat.le_trans hS.1 (by omega), fun x h1 h2 => (o1 x (Nat.lt_of_lt_of_le h1 hS.1)).trans (hS.2.1 x h1 h2), hS.2.2⟩
  show H1[H.size]? = some (vp_cell _ _)
  rw [vp_cell_q]
  exact e1
end ZROWS
end
section
/-! the machine's cells as the world's list -/
theorem zCl_at {ci : Nat} (h : ci < 8) : zCl[ci]? = some (zRn ci, zT ci, zN ci) := by
  rcases (show ci = 0 ∨ ci = 1 ∨ ci = 2 ∨ ci = 3 ∨ ci = 4 ∨ ci = 5 ∨ ci = 6 ∨ ci = 7 by omega) with rfl | rfl | rfl | rfl | rfl | rfl | rfl | rfl <;> rfl
set_option maxRecDepth 100000 in
theorem zin_0 : (List.range 8).all (fun ci => (u_ws (zRn ci) (zT ci) (zN ci)).all (fun w => decide (w ∈ lw_tbl) && goodWord w)) = true := by decide +kernel
theorem zin {ci : Nat} (h : ci < 8) : ∀ w ∈ u_ws (zRn ci) (zT ci) (zN ci), w ∈ zW := by
  intro w hw
  have h1 := List.all_eq_true.mp (List.all_eq_true.mp zin_0 ci (List.mem_range.mpr h)) w hw
  simp only [Bool.and_eq_true, decide_eq_true_eq] at h1
  exact List.mem_filter.mpr h1
theorem zty_p {ci : Nat} (h : ci < 8) : ∀ k, k < zN ci → parseFieldDescriptor (zT ci k).2.2.1 = some (zty ci k) := by
  rcases (show ci = 0 ∨ ci = 1 ∨ ci = 2 ∨ ci = 3 ∨ ci = 4 ∨ ci = 5 ∨ ci = 6 ∨ ci = 7 by omega) with rfl | rfl | rfl | rfl | rfl | rfl | rfl | rfl
  · exact tyX0_ok
  · exact tyX1_ok
  · exact tyX2_ok
  · exact tyX3_ok
  · exact tyX4_ok
  · exact tyX5_ok
  · exact tyX6_ok
  · exact tyX7_ok
theorem znm_p {ci : Nat} (h : ci < 8) : ∀ a, a < zN ci → ∀ b, b < zN ci → a ≠ b → (zT ci a).2.1 ≠ (zT ci b).2.1 := by
  rcases (show ci = 0 ∨ ci = 1 ∨ ci = 2 ∨ ci = 3 ∨ ci = 4 ∨ ci = 5 ∨ ci = 6 ∨ ci = 7 by omega) with rfl | rfl | rfl | rfl | rfl | rfl | rfl | rfl
  · exact nmX0
  · exact nmX1
  · exact nmX2
  · exact nmX3
  · exact nmX4
  · exact nmX5
  · exact nmX6
  · exact nmX7
theorem zdc_0 : (List.range 8).all (fun ci => (List.range (zN ci)).all (fun k => decide ((zT ci k).1 = zRn ci))) = true := by decide +kernel
theorem zdc {ci k : Nat} (h : ci < 8) (hk : k < zN ci) : (zT ci k).1 = zRn ci := of_decide_eq_true (List.all_eq_true.mp (List.all_eq_true.mp zdc_0 ci (List.mem_range.mpr h)) k (List.mem_range.mpr hk))
/-- object fields: int, or a reference -/
theorem zfk_0 : (List.range 8).all (fun ci => (List.range (zN ci)).all (fun k => match zty ci k with
  | .int => true
  | .array _ => true
  | .object _ => true
  | _ => false)) = true := by decide +kernel
theorem zfk {ci k : Nat} (h : ci < 8) (hk : k < zN ci) : zty ci k = .int ∨ (∃ t, zty ci k = .array t) ∨ ∃ n, zty ci k = .object n := by
  have h1 := List.all_eq_true.mp (List.all_eq_true.mp zfk_0 ci (List.mem_range.mpr h)) k (List.mem_range.mpr hk)
  cases hz : zty ci k with
  | int => exact Or.inl rfl
  | array t => exact Or.inr (Or.inl ⟨t, rfl⟩)
  | object n => exact Or.inr (Or.inr ⟨n, rfl⟩)
  | _ => rw [hz] at h1; simp at h1
theorem zfl_in {a n ci k : Nat} (h : zfl a n = some (ci, k)) : ci < 8 ∧ k < zN ci ∧ Cond.fieldLink (zRn a) n (zRn ci) (zT ci k).2.1 (zT ci k).2.2.1 ∈ zW := by
  unfold zfl at h
  obtain ⟨q, hq, he⟩ := Option.map_eq_some_iff.mp h
  have h1 := List.find?_some hq
  simp only [Bool.and_eq_true, beq_iff_eq] at h1
  have h2 := List.all_eq_true.mp zflT_ok q (List.mem_of_find?_eq_some hq)
  simp only [Bool.and_eq_true, decide_eq_true_eq] at h2
  obtain ⟨⟨h3, h4⟩, h5⟩ := h2
  cases he
  refine ⟨h4, h3, ?_⟩
  have h6 := zgw_in h5
  rw [h1.1, h1.2] at h6
  exact h6
theorem zcl_in {a n ci : Nat} (h : zcl a n = some ci) : ci < 8 ∧ Cond.classLink (zRn a) n (zRn ci) ∈ zW ∧ Cond.instantiable (zRn ci) (zN ci) ∈ zW := by
  unfold zcl at h
  obtain ⟨q, hq, he⟩ := Option.map_eq_some_iff.mp h
  have h1 := List.find?_some hq
  simp only [Bool.and_eq_true, beq_iff_eq] at h1
  have h2 := List.all_eq_true.mp zclT_ok q (List.mem_of_find?_eq_some hq)
  simp only [Bool.and_eq_true, decide_eq_true_eq] at h2
  obtain ⟨⟨h3, h4⟩, h5⟩ := h2
  cases he
  have h6 := zgw_in h4
  rw [h1.1, h1.2] at h6
  exact ⟨h3, h6, zgw_in h5⟩
theorem zini_0 : (List.range 9).all (fun ci => decide (Cond.initialized (zRn ci) ∈ lw_tbl) && goodWord (Cond.initialized (zRn ci))) = true := by decide +kernel
theorem zini {ci : Nat} (h : ci < 9) : Cond.initialized (zRn ci) ∈ zW := by
  have h1 := List.all_eq_true.mp zini_0 ci (List.mem_range.mpr h)
  simp only [Bool.and_eq_true, decide_eq_true_eq] at h1
  exact List.mem_filter.mpr h1
section ZCELL
variable {dC : Nat → ClassId} {dI : Nat → Nat → Nat} {cA : Nat → ClassId} {base b t0 L : Nat} {xs : Nat → Int32} {M : zM} {H H1 : Heap}
theorem zad_of {q : Int} (h : 0 ≤ q) : zad base b t0 q = base + q.toNat := by
  unfold zad
  rw [if_neg (by omega), if_neg (by omega)]
theorem zws_at {f : Int → Nat} {q : Int} (h : 0 ≤ q) (h2 : q < (M.1 : Int)) : (zws f base cA M)[q.toNat]? = some (base + q.toNat, zce f cA (M.2.2 q)) := by
  have h3 : q.toNat < M.1 := by omega
  unfold zws
  rw [List.getElem?_map, List.getElem?_range h3]
  show some (base + q.toNat, zce f cA (M.2.2 (q.toNat : Int))) = _
  rw [Int.toNat_of_nonneg h]
theorem zws_D {f : Int → Nat} : va_D (zA base) (zws f base cA M) := by
  have key : ∀ (k : Nat) (x : Nat × va_E), (zws f base cA M)[k]? = some x → x.1 = base + k := by
    intro k x hx
    unfold zws at hx
    rw [List.getElem?_map] at hx
    obtain ⟨y, hy, rfl⟩ := Option.map_eq_some_iff.mp hx
    have := (List.getElem?_eq_some_iff.mp hy).2
    rw [List.getElem_range] at this
    subst this
    rfl
  refine ⟨fun i j x y hi hj e => ?_, fun k x hx => ?_⟩
  · have h1 := key i x hi
    have h2 := key j y hj
    omega
  · rw [key k x hx]
    exact Nat.le_add_right base k
theorem zws_set {f : Int → Nat} {q : Int} {c : zC} (h : 0 ≤ q) : zws f base cA (zup M q c) = (zws f base cA M).set q.toNat (base + q.toNat, zce f cA c) := by
  apply List.ext_getElem?
  intro k
  by_cases hk : k < M.1
  · have e1 : (zws f base cA (zup M q c))[k]? = some (base + k, zce f cA ((zup M q c).2.2 (k : Int))) := by
      unfold zws
      rw [List.getElem?_map, List.getElem?_range (show k < (zup M q c).1 from hk)]
      rfl
    rw [e1]
    by_cases hq : k = q.toNat
    · subst hq
      rw [List.getElem?_set_self (by unfold zws; rw [List.length_map, List.length_range]; exact hk)]
      show some (_, zce f cA (if ((q.toNat : Nat) : Int) = q then c else _)) = _
      rw [Int.toNat_of_nonneg h, if_pos rfl]
    · rw [List.getElem?_set_ne (fun e => hq e.symm)]
      unfold zws
      rw [List.getElem?_map, List.getElem?_range hk]
      have : ¬ (k : Int) = q := by omega
      simp [zup, this]
  · rw [List.getElem?_eq_none_iff.mpr (by unfold zws; rw [List.length_map, List.length_range]; exact Nat.not_lt.mp hk)]
    rw [List.getElem?_eq_none_iff.mpr (by rw [List.length_set]; unfold zws; rw [List.length_map, List.length_range]; exact Nat.not_lt.mp hk)]
theorem zws_new {f : Int → Nat} {n : Nat} {c : zC} : zws f base cA (znew M n c) = zws f base cA M ++ [(base + M.1, zce f cA c)] := by
  unfold zws
  show (List.range (M.1 + 1)).map _ = _
  rw [List.range_succ, List.map_append]
  congr 1
  · apply List.map_congr_left
    intro k hk
    have : ¬ (k : Int) = (M.1 : Int) := by have := List.mem_range.mp hk; omega
    simp [znew, this]
  · simp [znew]
theorem zWd.lt (h : zWd dC dI cA base b t0 L xs M H) {q : Int} (hv : zvk (M.2.2 q).1) (hn : ∀ len, (M.2.2 q).1 ≠ .inr (0, len)) : 0 ≤ q ∧ q < (M.1 : Int) := by
  obtain ⟨-, -, h3, h4, h5, -, -⟩ := h
  rcases h3 q hv with h | h | h
  · exact h
  · subst h; rw [h4] at hn; exact absurd rfl (hn _)
  · subst h; rw [h5] at hn; exact absurd rfl (hn _)
theorem zWd.set (h : zWd dC dI cA base b t0 L xs M H) {q : Int} (h0 : 0 ≤ q) {k : Int} {v : zV} (hv : zok v) (hz : H1.size = H.size) (hP : va_P (dC, dI) zCl ((zws (zad base b t0) base cA M).set q.toNat (base + q.toNat, zce (zad base b t0) cA (zst (M.2.2 q) k v))) H1) : zWd dC dI cA base b t0 L xs (zup M q (zst (M.2.2 q) k v)) H1 := by
  obtain ⟨h1, h2, h3, h4, h5, h6, h7⟩ := h
  refine ⟨by rw [zws_set h0]; exact hP, by rw [hz]; exact h2, fun r hr => ?_, ?_, ?_, fun r i => ?_, fun r t len hr => ?_⟩
  · by_cases e : r = q
    · subst e; apply h3; simpa [zup, zst] using hr
    · apply h3; simpa [zup, e] using hr
  · have : ¬ (-1 : Int) = q := by omega
    simp [zup, this, h4]
  · have : ¬ (-2 : Int) = q := by omega
    simp [zup, this, h5]
  · by_cases e : r = q
    · subst e
      by_cases e2 : i = k
      · simp [zup, zst, e2]; exact hv
      · simp [zup, zst, e2]; exact h6 r i
    · simp [zup, e]; exact h6 r i
  · by_cases e : r = q
    · subst e; exact h7 r t len (by simpa [zup, zst] using hr)
    · exact h7 r t len (by simpa [zup, e] using hr)
theorem zWd.new (h : zWd dC dI cA base b t0 L xs M H) {n : Nat} {c : zC} (hv : ∀ k, zok (c.2 k)) (hc : ∀ t len, c.1 = .inr (t, len) → 0 ≤ len ∧ len ≤ 65536) (hz : H1.size = H.size + 1) (hP : va_P (dC, dI) zCl (zws (zad base b t0) base cA M ++ [(H.size, zce (zad base b t0) cA c)]) H1) : zWd dC dI cA base b t0 L xs (znew M n c) H1 := by
  obtain ⟨h1, h2, h3, h4, h5, h6, h7⟩ := h
  refine ⟨by rw [zws_new, ← h2]; exact hP, by rw [hz, h2]; rfl, fun r hr => ?_, ?_, ?_, fun r i => ?_, fun r t len hr => ?_⟩
  · show (0 ≤ r ∧ r < ((M.1 + 1 : Nat) : Int)) ∨ _
    by_cases e : r = (M.1 : Int)
    · left; omega
    · rcases h3 r (by simpa [znew, e] using hr) with h | h
      · left; omega
      · right; exact h
  · have : ¬ (-1 : Int) = (M.1 : Int) := by omega
    simp [znew, this, h4]
  · have : ¬ (-2 : Int) = (M.1 : Int) := by omega
    simp [znew, this, h5]
  · by_cases e : r = (M.1 : Int)
    · simp [znew, e]; exact hv i
    · simp [znew, e]; exact h6 r i
  · by_cases e : r = (M.1 : Int)
    · exact hc t len (by simpa [znew, e] using hr)
    · exact h7 r t len (by simpa [znew, e] using hr)
theorem zce_obj {f : Int → Nat} {cl : zC} {ci : Nat} (h : cl.1 = .inl ci) : zce f cA cl = .inr (ci, (List.range (zN ci)).map (fun k : Nat => zcv f (cl.2 (k : Int)))) := by
  unfold zce; rw [h]
theorem zce_int {f : Int → Nat} {cl : zC} {t : Nat} {len : Int} (h : cl.1 = .inr (t, len)) (ht : t < 2) : zce f cA cl = .inl (cA t, len.toNat, .inl (fun k : Nat => zi (cl.2 (k : Int)))) := by
  unfold zce; rw [h]; simp [ht]
theorem zce_ref {f : Int → Nat} {cl : zC} {t : Nat} {len : Int} (h : cl.1 = .inr (t, len)) (ht : ¬ t < 2) : zce f cA cl = .inl (cA t, len.toNat, .inr (.inr (.inr (.inr (fun k : Nat => zq f (cl.2 (k : Int))))))) := by
  unfold zce; rw [h]; simp [ht]
theorem zce_objset {f : Int → Nat} {cl : zC} {ci k : Nat} {v : zV} (h : cl.1 = .inl ci) : zce f cA (zst cl (k : Int) v) = .inr (ci, ((List.range (zN ci)).map (fun k : Nat => zcv f (cl.2 (k : Int)))).set k (zcv f v)) := by
  rw [zce_obj (cl := zst cl k v) (ci := ci) h]
  congr 2
  apply List.ext_getElem?
  intro i
  rw [List.getElem?_map]
  by_cases hi : i < zN ci
  · rw [List.getElem?_range hi]
    by_cases e : i = k
    · subst e
      rw [List.getElem?_set_self (by rw [List.length_map, List.length_range]; exact hi)]
      simp [zst]
    · rw [List.getElem?_set_ne (fun x => e x.symm), List.getElem?_map, List.getElem?_range hi]
      have : ¬ (i : Int) = (k : Int) := by omega
      simp [zst, this]
  · rw [List.getElem?_eq_none_iff.mpr (by rw [List.length_range]; omega)]
    rw [List.getElem?_eq_none_iff.mpr (by rw [List.length_set, List.length_map, List.length_range]; omega)]
    rfl
theorem zce_intset {f : Int → Nat} {cl : zC} {t : Nat} {len a v : Int} (h : cl.1 = .inr (t, len)) (ht : t < 2) (h0 : 0 ≤ a) (h1 : a ≤ 2147483647) : zce f cA (zst cl a (.inl v)) = .inl (cA t, len.toNat, .inl (upd (fun k : Nat => zi (cl.2 (k : Int))) (Int32.ofInt a).toNatClampNeg (Int32.ofInt v))) := by
  rw [zce_int (cl := zst cl a (.inl v)) h ht, zcl_nat ⟨h0, h1⟩]
  congr 4
  funext k
  by_cases e : (k : Int) = a
  · subst e
    simp [zst, upd, zi]
  · have e2 : ¬ k = a.toNat := by omega
    simp [zst, upd, e, e2]
theorem zce_refset {f : Int → Nat} {cl : zC} {t : Nat} {len a q : Int} (h : cl.1 = .inr (t, len)) (ht : ¬ t < 2) (h0 : 0 ≤ a) (h1 : a ≤ 2147483647) : zce f cA (zst cl a (.inr (.inl (some q)))) = .inl (cA t, len.toNat, .inr (.inr (.inr (.inr (va_up (fun k : Nat => zq f (cl.2 (k : Int))) (Int32.ofInt a).toNatClampNeg (some (f q))))))) := by
  rw [zce_ref (cl := zst cl a (.inr (.inl (some q)))) h ht, zcl_nat ⟨h0, h1⟩]
  congr 7
  funext k
  by_cases e : (k : Int) = a
  · subst e
    simp [zst, va_up, zq]
  · have e2 : ¬ k = a.toNat := by omega
    simp [zst, va_up, e, e2]
end ZCELL
end
section
/-! what stays true of the tables and of the old cells; steps over cells -/
def zEv (dC : Nat → ClassId) (dI : Nat → Nat → Nat) (cA : Nat → ClassId) (base b t0 L : Nat) (xs : Nat → Int32) (U : State) (H : Heap) : Prop :=
  va_K (dC, dI) zCl [(cA 0, .int), (cA 1, .boolean), (cA 2, .object RX1), (cA 3, .object RX0)] U ∧
  (∀ q ∈ zmlT, (q.2.2.1 = 3 ∨ q.2.2.1 = 4) → va_Nw (.methodLinkNest (zRn q.1) q.2.1 (zy q.2.2.2.1) "WalkHouses") U) ∧
  va_Nw (.fieldLinkNest RX1 26 "WalkHouses" "DORM_SETS" "[I" "WalkHouses") U ∧ va_AO RX1 U ∧ va_AO RX0 U ∧ va_X b L xs U H ∧ b < base ∧ L ≤ 65536 ∧
  va_Z "WalkHouses" "DORM_SETS" "[I" (.ref t0) (zA base) U H ∧ va_T .int t0 7 (fun k : Nat => .int (Int32.ofInt (zdv (k : Int)))) (zA base) U H
theorem zac_i : lw_tbl[99]? = some (Cond.arrayClass .int) := by decide +kernel
theorem zac_z : lw_tbl[100]? = some (Cond.arrayClass .boolean) := by decide +kernel
section ZEV
variable {dC : Nat → ClassId} {dI : Nat → Nat → Nat} {cA : Nat → ClassId} {base b t0 L : Nat} {xs : Nat → Int32}
theorem zEv.same {u U : State} {H : Heap} (hvm : u.vm = U.vm) (h : zEv dC dI cA base b t0 L xs u H) : zEv dC dI cA base b t0 L xs U H := by
  have ha : u.vm.Alike U.vm := by rw [hvm]; exact Vm.Alike.refl _
  obtain ⟨h1, h2, h3, h4, h5, h6, h7, h8, h9, h10⟩ := h
  exact ⟨h1.moved ha, fun q hq hk => (h2 q hq hk).same rfl hvm, h3.same rfl hvm, h4.moved ha, h5.moved ha, h6.moved ha, h7, h8, h9.moved ha, h10.moved ha⟩
theorem zEv.go {s U : State} {H : Heap} {locs : List Loc} (hW : s.WarmedH U.vm) (hbs : base ≤ s.heap.size) (hS : va_S (zA base) s.heap H locs) (h : zEv dC dI cA base b t0 L xs s s.heap) : zEv dC dI cA base b t0 L xs U H := by
  have ha : s.vm.Alike U.vm := hW.alike
  obtain ⟨h1, h2, h3, h4, h5, h6, h7, h8, h9, h10⟩ := h
  have hk : ∀ a : Nat, a < s.heap.size → ¬ zA base a → H[a]? = s.heap[a]? := fun a h1 h2 => hS.2.1 a h1 h2
  exact ⟨h1.moved ha, fun q hq hz => (h2 q hq hz).warmM hW, h3.warmF hW, h4.moved ha, h5.moved ha, (h6.moved ha).kept (hk b (by omega) (Nat.not_le.mpr h7)), h7, h8, (h9.moved ha).kept hk, (h10.moved ha).kept hk⟩
end ZEV
theorem zdef_ok (ci : Nat) (k : Int) : zok (zdef ci k) := by
  unfold zdef
  split
  · exact ⟨by omega, by omega⟩
  · exact trivial
theorem zdef_v {f : Int → Nat} {ci k : Nat} (h : ci < 8) (hk : k < zN ci) : defaultValue (zty ci k) = zcv f (zdef ci (k : Int)) := by
  unfold zdef
  rw [Int.toNat_natCast]
  rcases zfk h hk with e | ⟨t, e⟩ | ⟨t, e⟩
  · rw [if_pos e, e]; rfl
  · rw [if_neg (by rw [e]; simp), e]; rfl
  · rw [if_neg (by rw [e]; simp), e]; rfl
section SIM3
variable {p : Program} {l : Launch} {e : Env} {R : Room} {s : State} {m : MethodId} {args : Array Value} {below : List Frame} {meth : Method} {c : Code} {H : Heap} {locs : List Loc} {cells slots : Nat} {Q : State → Prop}
variable {dC : Nat → ClassId} {dI : Nat → Nat → Nat} {cA : Nat → ClassId} {base b t0 L : Nat} {xs : Nat → Int32}
set_option maxHeartbeats 2000000 in
theorem z_n3 {j : Nat} {i : Instr} {len pc : Nat} {ls : zL} {st : List zV} {M : zM} {x : zX} {A : Array Slot} (hx : p.tables.exec = Jvm.exec) (hb : c.code = zc j) (hown : s.vm.findClass (zRn (zo j)) = some m.cls) (hts : ∀ w ∈ zW, w.before args s = true) (hE : zEv dC dI cA base b t0 L xs s s.heap) (hbs : base ≤ s.heap.size) (hin : (zy j).name = "<init>" → meth.name = "<init>")
    (hW : zWd dC dI cA base b t0 L xs M H) (hV : va_S (zA base) s.heap H locs) (hS : ∀ v ∈ st, zok v) (hd : decode (zc j) pc = .ok (i, len)) (hl : zlk i len = true) (h : zn3 j i pc ls st M = some x)
    (hc1 : cells + x.2.2.2.1 ≤ R.cells + M.1) (hc2 : slots + x.2.2.2.2.1 ≤ R.slots + M.2.1)
    (kk : ∀ (H' : Heap) (locs' : List Loc) (cells' slots' : Nat), zWd dC dI cA base b t0 L xs x.2.2.2 H' → va_S (zA base) s.heap H' locs' → (∀ v ∈ x.2.2.1, zok v) → x.2.1 = ls → cells' + M.1 = cells + x.2.2.2.1 → slots' + M.2.1 = slots + x.2.2.2.2.1 →
      W p l e R s m args below meth c H' locs' cells' slots' Q (F0 m x.1 A (x.2.2.1.map (zcv (zad base b t0))))) : W p l e R s m args below meth c H locs cells slots Q (F0 m pc A (st.map (zcv (zad base b t0)))) := by
  obtain ⟨hK, hN, hNf, hO1, hO0, hX, hbb, hLL, hZ, hT⟩ := hE
  have hP := hW.1
  have hD : va_D (zA base) (zws (zad base b t0) base cA M) := zws_D
  unfold zn3 at h
  split at h
  · -- getfield
    next n =>
    have hn := zlen_of hl (by intros; simp); simp only [zlen] at hn; subst hn
    split at h
    · next q r ci k hz =>
      obtain ⟨g1, g2, g3⟩ := zfl_in hz
      have hv := List.forall_mem_cons.mp hS
      split at h
      · next hk =>
        have hr := hW.lt (q := q) (by rw [hk]; exact g1) (by intro len; rw [hk]; simp)
        have hat := zws_at (f := zad base b t0) (base := base) (cA := cA) hr.1 hr.2
        rw [zce_obj hk, ← zad_of (b := b) (t0 := t0) hr.1] at hat
        have hfk : ((List.range (zN ci)).map (fun k : Nat => zcv (zad base b t0) ((M.2.2 q).2 (k : Int))))[k]? = some (zcv (zad base b t0) ((M.2.2 q).2 (k : Int))) := by
          rw [List.getElem?_map, List.getElem?_range g2]; rfl
        have row := fun kk => va_get (pc := pc) (ls := A) (locs := locs) (cells := cells) (slots := slots) (Q := Q) (R := R) (l := l) (e := e) (below := below) (meth := meth) (rest := r.map (zcv (zad base b t0))) hx hb hts (zin g1) hown hK hP q.toNat hat (zCl_at g1) k g2 (hts _ g3) (fun y hy => by rw [zdc g1 g2] at hy; exact hy) hfk hd kk
        split at h
        · next v hvv => cases h; refine row ?_; rw [hvv]; exact kk H locs cells slots hW hV (List.forall_mem_cons.mpr ⟨by have := hW.2.2.2.2.2.1 q k; rw [hvv] at this; exact this, hv.2⟩) rfl rfl rfl
        · next v hvv => cases h; refine row ?_; rw [hvv]; exact kk H locs cells slots hW hV (List.forall_mem_cons.mpr ⟨trivial, hv.2⟩) rfl rfl rfl
        · cases h
      · cases h
    · cases h
  · -- putfield
    next n =>
    have hn := zlen_of hl (by intros; simp); simp only [zlen] at hn; subst hn
    split at h
    · next v q r ci k hz =>
      obtain ⟨g1, g2, g3⟩ := zfl_in hz
      have hv := List.forall_mem_cons.mp hS
      have hw := List.forall_mem_cons.mp hv.2
      split at h
      · next hk =>
        cases h
        obtain ⟨hk, hk2, hk3⟩ := hk
        have hr := hW.lt (q := q) (by rw [hk]; exact g1) (by intro len; rw [hk]; simp)
        have hat := zws_at (f := zad base b t0) (base := base) (cA := cA) hr.1 hr.2
        rw [zce_obj hk, ← zad_of (b := b) (t0 := t0) hr.1] at hat
        refine zw_put hx hb hts (zin g1) (zty ci) (zty_p g1) (znm_p g1) hown hK hP hD hV q.toNat hat (zCl_at g1) k g2 (zdc g1 g2) (hts _ g3) (Or.inl hk3) (v := .int (Int32.ofInt v)) (by rw [hk2]; rfl) (by rw [hk2]; rfl) (by rw [List.length_map, List.length_range]; exact g2) hd (fun H1 locs1 z1 hP1 hV1 => ?_)
        refine kk H1 locs1 cells slots (hW.set hr.1 (k := k) (v := .inl v) hv.1 z1 ?_) hV1 hw.2 rfl rfl rfl
        rw [zce_objset hk, ← zad_of (b := b) (t0 := t0) hr.1]
        exact hP1
      · cases h
    · next q2 q r ci k hz =>
      obtain ⟨g1, g2, g3⟩ := zfl_in hz
      have hv := List.forall_mem_cons.mp hS
      have hw := List.forall_mem_cons.mp hv.2
      split at h
      · next hk =>
        cases h
        obtain ⟨hk, hk2, hk3, hk4, hk5⟩ := hk
        have hr := hW.lt (q := q) (by rw [hk]; exact g1) (by intro len; rw [hk]; simp)
        have hat := zws_at (f := zad base b t0) (base := base) (cA := cA) hr.1 hr.2
        rw [zce_obj hk, ← zad_of (b := b) (t0 := t0) hr.1] at hat
        have hty : (∃ t, zty ci k = .array t) ∨ ∃ n, zty ci k = .object n := by
          rcases zfk g1 g2 with h | h
          · exact absurd h hk2
          · exact h
        refine zw_put hx hb hts (zin g1) (zty ci) (zty_p g1) (znm_p g1) hown hK hP hD hV q.toNat hat (zCl_at g1) k g2 (zdc g1 g2) (hts _ g3) (Or.inr ⟨hk3, hin hk5, by rw [hk4]⟩) (v := .ref (zad base b t0 q2)) (by rcases hty with ⟨t, h⟩ | ⟨t, h⟩ <;> rw [h] <;> rfl) (by rcases hty with ⟨t, h⟩ | ⟨t, h⟩ <;> rw [h] <;> rfl) (by rw [List.length_map, List.length_range]; exact g2) hd (fun H1 locs1 z1 hP1 hV1 => ?_)
        refine kk H1 locs1 cells slots (hW.set hr.1 (k := k) (v := .inr (.inl (some q2))) trivial z1 ?_) hV1 hw.2 rfl rfl rfl
        rw [zce_objset hk, ← zad_of (b := b) (t0 := t0) hr.1]
        exact hP1
      · cases h
    · cases h
  · -- iaload
    have hn := zlen_of hl (by intros; simp); simp only [zlen] at hn; subst hn
    split at h
    · next a q r =>
      have hv := List.forall_mem_cons.mp hS
      have hw := List.forall_mem_cons.mp hv.2
      split at h
      · next ln hk =>
        split at h
        · next ha =>
          have hlen := hW.2.2.2.2.2.2 q 0 ln hk
          split at h
          · next v hvv =>
            cases h
            have okv : zok (.inl v) := by have := hW.2.2.2.2.2.1 q a; rw [hvv] at this; exact this
            have kk' := kk H locs cells slots hW hV (List.forall_mem_cons.mpr ⟨okv, hw.2⟩) rfl rfl rfl
            rcases hW.2.2.1 q (by rw [hk]; show (0 : Nat) < 4; decide) with hr | hr | hr
            · have hat := zws_at (f := zad base b t0) (base := base) (cA := cA) hr.1 hr.2
              rw [zce_int hk (by decide), ← zad_of (b := b) (t0 := t0) hr.1] at hat
              refine va_iald hx hb hK hP q.toNat 0 hat rfl (i := Int32.ofInt a) (zvin ha.1 (by omega) (by omega)) hd ?_
              rw [zcl_nat ⟨ha.1, by omega⟩, Int.toNat_of_nonneg ha.1, hvv]
              exact kk'
            · subst hr
              rw [hW.2.2.2.1] at hk hvv
              have hL1 : ln = (L : Int) := by simp [zsc] at hk; exact hk.symm
              have hv1 : v = (xs a.toNat).toInt := by simp [zsc] at hvv; exact hvv.symm
              refine va_sld (b := b) hx hb hX (by omega) (Nat.not_le.mpr hbb) hV (i := Int32.ofInt a) (zvin ha.1 (by omega) hLL) hd ?_
              rw [zcl_nat ⟨ha.1, by omega⟩]
              rw [hv1] at kk'
              simp only [List.map_cons, zcv, Int32.ofInt_toInt] at kk'
              exact kk'
            · subst hr
              rw [hW.2.2.2.2.1] at hk hvv
              have hL1 : ln = 7 := by simp [zds] at hk; exact hk.symm
              have hv1 : v = zdv a := by simp [zds] at hvv; exact hvv.symm
              refine va_ti (t := t0) hx hb hT hV (i := Int32.ofInt a) (zvin ha.1 (by omega) (by omega)) (v := .int (Int32.ofInt v)) ?_ hd ?_
              · show Value.int (Int32.ofInt (zdv ((Int32.ofInt a).toNatClampNeg : Int))) = _
                rw [zcl_nat ⟨ha.1, by omega⟩, Int.toNat_of_nonneg ha.1, hv1]
              · exact kk'
          · cases h
        · cases h
      · cases h
    · cases h
  · -- baload
    have hn := zlen_of hl (by intros; simp); simp only [zlen] at hn; subst hn
    split at h
    · next a q r =>
      have hv := List.forall_mem_cons.mp hS
      have hw := List.forall_mem_cons.mp hv.2
      split at h
      · next ln hk =>
        split at h
        · next ha =>
          have hlen := hW.2.2.2.2.2.2 q 1 ln hk
          split at h
          · next v hvv =>
            cases h
            have okv : zok (.inl v) := by have := hW.2.2.2.2.2.1 q a; rw [hvv] at this; exact this
            have hr := hW.lt (q := q) (by rw [hk]; show (1 : Nat) < 4; decide) (by intro len; rw [hk]; simp)
            have hat := zws_at (f := zad base b t0) (base := base) (cA := cA) hr.1 hr.2
            rw [zce_int hk (by decide), ← zad_of (b := b) (t0 := t0) hr.1] at hat
            refine va_zald hx hb hK hP q.toNat 1 hat rfl (i := Int32.ofInt a) (zvin ha.1 (by omega) (by omega)) hd ?_
            rw [zcl_nat ⟨ha.1, by omega⟩, Int.toNat_of_nonneg ha.1, hvv]
            exact kk H locs cells slots hW hV (List.forall_mem_cons.mpr ⟨okv, hw.2⟩) rfl rfl rfl
          · cases h
        · cases h
      · cases h
    · cases h
  · -- aaload
    have hn := zlen_of hl (by intros; simp); simp only [zlen] at hn; subst hn
    split at h
    · next a q r =>
      have hv := List.forall_mem_cons.mp hS
      have hw := List.forall_mem_cons.mp hv.2
      split at h
      · next t ln hk =>
        split at h
        · next ha =>
          have hlen := hW.2.2.2.2.2.2 q t ln hk
          split at h
          · next v hvv =>
            cases h
            have ht2 : ¬ t < 2 := by omega
            have hr := hW.lt (q := q) (by rw [hk]; show t < 4; omega) (by intro len; rw [hk]; simp; omega)
            have hat := zws_at (f := zad base b t0) (base := base) (cA := cA) hr.1 hr.2
            rw [zce_ref hk ht2, ← zad_of (b := b) (t0 := t0) hr.1] at hat
            have kk' := kk H locs cells slots hW hV (List.forall_mem_cons.mpr ⟨trivial, hw.2⟩) rfl rfl rfl
            rcases ha.1 with rfl | rfl
            · refine va_aldq hx hb hK hP q.toNat 2 hat rfl (i := Int32.ofInt a) (zvin ha.2.1 (by omega) (by omega)) hd ?_
              rw [zcl_nat ⟨ha.2.1, by omega⟩, Int.toNat_of_nonneg ha.2.1, hvv]
              exact kk'
            · refine va_aldq hx hb hK hP q.toNat 3 hat rfl (i := Int32.ofInt a) (zvin ha.2.1 (by omega) (by omega)) hd ?_
              rw [zcl_nat ⟨ha.2.1, by omega⟩, Int.toNat_of_nonneg ha.2.1, hvv]
              exact kk'
          · cases h
        · cases h
      · cases h
    · cases h
  · -- iastore
    have hn := zlen_of hl (by intros; simp); simp only [zlen] at hn; subst hn
    split at h
    · next v a q r =>
      have hv := List.forall_mem_cons.mp hS
      have hw := List.forall_mem_cons.mp hv.2
      have hu := List.forall_mem_cons.mp hw.2
      split at h
      · next ln hk =>
        split at h
        · next ha =>
          cases h
          have hlen := hW.2.2.2.2.2.2 q 0 ln hk
          have hr : 0 ≤ q ∧ q < (M.1 : Int) := by
            rcases hW.2.2.1 q (by rw [hk]; show (0 : Nat) < 4; decide) with hr | hr | hr <;> omega
          have hat := zws_at (f := zad base b t0) (base := base) (cA := cA) hr.1 hr.2
          rw [zce_int hk (by decide), ← zad_of (b := b) (t0 := t0) hr.1] at hat
          refine zw_iast hx hb hK hP hD hV q.toNat 0 hat rfl (i := Int32.ofInt a) (x := Int32.ofInt v) (zvin ha.2.1 (by omega) (by omega)) hd (fun H1 locs1 z1 hP1 hV1 => ?_)
          refine kk H1 locs1 cells slots (hW.set hr.1 (k := a) (v := .inl v) hv.1 z1 ?_) hV1 hu.2 rfl rfl rfl
          rw [zce_intset hk (by decide) ha.2.1 (by omega), ← zad_of (b := b) (t0 := t0) hr.1]
          exact hP1
        · cases h
      · cases h
    · cases h
  · -- bastore
    have hn := zlen_of hl (by intros; simp); simp only [zlen] at hn; subst hn
    split at h
    · next v a q r =>
      have hv := List.forall_mem_cons.mp hS
      have hw := List.forall_mem_cons.mp hv.2
      have hu := List.forall_mem_cons.mp hw.2
      split at h
      · next ln hk =>
        split at h
        · next ha =>
          cases h
          have hlen := hW.2.2.2.2.2.2 q 1 ln hk
          have hr := hW.lt (q := q) (by rw [hk]; show (1 : Nat) < 4; decide) (by intro len; rw [hk]; simp)
          have hat := zws_at (f := zad base b t0) (base := base) (cA := cA) hr.1 hr.2
          rw [zce_int hk (by decide), ← zad_of (b := b) (t0 := t0) hr.1] at hat
          refine zw_zast hx hb hK hP hD hV q.toNat 1 hat rfl (i := Int32.ofInt a) (x := Int32.ofInt v) (by rcases ha.2.2.2 with rfl | rfl <;> rfl) (zvin ha.2.1 (by omega) (by omega)) hd (fun H1 locs1 z1 hP1 hV1 => ?_)
          refine kk H1 locs1 cells slots (hW.set hr.1 (k := a) (v := .inl v) hv.1 z1 ?_) hV1 hu.2 rfl rfl rfl
          rw [zce_intset hk (by decide) ha.2.1 (by omega), ← zad_of (b := b) (t0 := t0) hr.1]
          exact hP1
        · cases h
      · cases h
    · cases h
  · -- aastore
    have hn := zlen_of hl (by intros; simp); simp only [zlen] at hn; subst hn
    split at h
    · next q2 a q r =>
      have hv := List.forall_mem_cons.mp hS
      have hw := List.forall_mem_cons.mp hv.2
      have hu := List.forall_mem_cons.mp hw.2
      split at h
      · next t ln hk =>
        split at h
        · next ha =>
          cases h
          obtain ⟨ht, h0, ha0, ha1, hk2⟩ := ha
          have hlen := hW.2.2.2.2.2.2 q t ln hk
          have ht2 : ¬ t < 2 := by omega
          have hel : zel t < 8 := by rcases ht with rfl | rfl <;> decide
          have hr := hW.lt (q := q) (by rw [hk]; show t < 4; omega) (by intro len; rw [hk]; simp; omega)
          have hr2 := hW.lt (q := q2) (by rw [hk2]; exact hel) (by intro len; rw [hk2]; simp)
          have hat := zws_at (f := zad base b t0) (base := base) (cA := cA) hr.1 hr.2
          rw [zce_ref hk ht2, ← zad_of (b := b) (t0 := t0) hr.1] at hat
          have hat2 := zws_at (f := zad base b t0) (base := base) (cA := cA) hr2.1 hr2.2
          rw [zce_obj hk2, ← zad_of (b := b) (t0 := t0) hr2.1] at hat2
          have fin : ∀ (H1 : Heap) (locs1 : List Loc), H1.size = H.size → va_P (dC, dI) zCl ((zws (zad base b t0) base cA M).set q.toNat (zad base b t0 q, .inl (cA t, ln.toNat, .inr (.inr (.inr (.inr (va_up (fun k : Nat => zq (zad base b t0) ((M.2.2 q).2 (k : Int))) (Int32.ofInt a).toNatClampNeg (some (zad base b t0 q2))))))))) H1 → va_S (zA base) s.heap H1 locs1 → W p l e R s m args below meth c H1 locs1 cells slots Q (F0 m (pc + 1) A (r.map (zcv (zad base b t0)))) := by
            intro H1 locs1 z1 hP1 hV1
            refine kk H1 locs1 cells slots (hW.set hr.1 (k := a) (v := .inr (.inl (some q2))) trivial z1 ?_) hV1 hu.2 rfl rfl rfl
            rw [zce_refset hk ht2 ha0 (by omega), ← zad_of (b := b) (t0 := t0) hr.1]
            exact hP1
          rcases ht with rfl | rfl
          · exact zw_astq hx hb hK hP hD hV q.toNat 2 q2.toNat 1 (r := (zRn 1, zT 1, zN 1)) hat rfl hat2 (zCl_at (by decide)) (i := Int32.ofInt a) (zvin ha0 (by omega) (by omega)) hd fin
          · exact zw_astq hx hb hK hP hD hV q.toNat 3 q2.toNat 0 (r := (zRn 0, zT 0, zN 0)) hat rfl hat2 (zCl_at (by decide)) (i := Int32.ofInt a) (zvin ha0 (by omega) (by omega)) hd fin
        · cases h
      · cases h
    · cases h
  · -- arraylength
    have hn := zlen_of hl (by intros; simp); simp only [zlen] at hn; subst hn
    split at h
    · next q r =>
      have hv := List.forall_mem_cons.mp hS
      split at h
      · next ln hk =>
        cases h
        have hlen := hW.2.2.2.2.2.2 q 0 ln hk
        have kk' := kk H locs cells slots hW hV (List.forall_mem_cons.mpr ⟨⟨by omega, by omega⟩, hv.2⟩) rfl rfl rfl
        have eln : Int32.ofNat ln.toNat = Int32.ofInt ln := by rw [← Int32.ofInt_eq_ofNat]; congr 1; omega
        rcases hW.2.2.1 q (by rw [hk]; show (0 : Nat) < 4; decide) with hr | hr | hr
        · have hat := zws_at (f := zad base b t0) (base := base) (cA := cA) hr.1 hr.2
          rw [zce_int hk (by decide), ← zad_of (b := b) (t0 := t0) hr.1] at hat
          exact va_alen hx hb hK hP q.toNat 0 hat rfl eln hd kk'
        · subst hr
          rw [hW.2.2.2.1] at hk
          have hL1 : ln = (L : Int) := by simp [zsc] at hk; exact hk.symm
          refine va_slen (b := b) hx hb hX (by omega) (Nat.not_le.mpr hbb) hV hd ?_
          rw [hL1] at kk'
          simp only [List.map_cons, zcv, Int32.ofInt_eq_ofNat] at kk'
          exact kk'
        · subst hr
          rw [hW.2.2.2.2.1] at hk
          have hL1 : ln = 7 := by simp [zds] at hk; exact hk.symm
          subst hL1
          exact va_tlen (t := t0) hx hb hT hV rfl hd kk'
      · cases h
    · cases h
  · -- getstatic
    next n =>
    have hn := zlen_of hl (by intros; simp); simp only [zlen] at hn; subst hn
    split at h
    · next hz =>
      cases h
      obtain ⟨hz1, rfl⟩ := hz
      rw [hz1] at hown
      exact va_getsN hx hb hZ hV hown (hNf.use rfl) (fun _ h9 => h9) hd (kk H locs cells slots hW hV (List.forall_mem_cons.mpr ⟨trivial, hS⟩) rfl rfl rfl)
    · cases h
  · -- new
    next n =>
    have hn := zlen_of hl (by intros; simp); simp only [zlen] at hn; subst hn
    split at h
    · next ci hz =>
      obtain ⟨g1, g2, g3⟩ := zcl_in hz
      cases h
      have hc1' : cells + (M.1 + 1) ≤ R.cells + M.1 := hc1
      have hc2' : slots + (M.2.1 + zN ci) ≤ R.slots + M.2.1 := hc2
      have had : zad base b t0 (M.1 : Int) = H.size := by rw [zad_of (by omega), hW.2.1]; simp
      refine zw_new hx hb hts (zin g1) (zty ci) (zty_p g1) hown (hts _ g2) (hts _ g3) (hts _ (zini (by omega))) hK hP hV (zCl_at g1) (fs := (List.range (zN ci)).map (fun k : Nat => zcv (zad base b t0) (zdef ci (k : Int)))) (fun k hk => ?_) (by omega) (by omega) hd (fun H1 z1 hP1 hV1 => ?_)
      · simp only [vp_V, List.getD_eq_getElem?_getD, List.getElem?_map, List.getElem?_range hk, Option.map_some, Option.getD_some]
        exact zdef_v g1 hk
      · rw [← had]
        refine kk H1 locs (cells + 1) (slots + zN ci) (hW.new (fun k => ?_) (fun t len h => by cases h) z1 ?_) hV1 (List.forall_mem_cons.mpr ⟨trivial, hS⟩) rfl ?_ ?_
        · exact zdef_ok ci k
        · rw [zce_obj (ci := ci) rfl]; exact hP1
        · show cells + 1 + M.1 = cells + (M.1 + 1); omega
        · show slots + zN ci + M.2.1 = slots + (M.2.1 + zN ci); omega
    · cases h
  · -- newarray
    next t =>
    have hn := zlen_of hl (by intros; simp); simp only [zlen] at hn; subst hn
    split at h
    · next a r =>
      have hv := List.forall_mem_cons.mp hS
      split at h
      · next ha =>
        have had : zad base b t0 (M.1 : Int) = H.size := by rw [zad_of (by omega), hW.2.1]; simp
        have hneg : ¬ Int32.ofInt a < 0 := by
          intro g
          have := (zlt (b := 0) (⟨by omega, by omega⟩ : -2147483648 ≤ a ∧ a ≤ 2147483647) ⟨by omega, by omega⟩).mp g
          omega
        split at h
        · cases h
          have hc1' : cells + (M.1 + 1) ≤ R.cells + M.1 := hc1
          have hc2' : slots + (M.2.1 + a.toNat) ≤ R.slots + M.2.1 := hc2
          have hw0 : Cond.arrayClass .int ∈ zW := zW_at _ zac_i rfl
          refine zw_newa hx hb (atype := .int) (hts _ hw0) (hK.2 0 _ rfl).2 hP hV (a0 := (a.toNat, .inl (fun _ => 0))) rfl hneg (zcl_nat ⟨ha.1, by omega⟩) (by show a.toNat * 4 ≤ _; omega) (by omega) (by omega) hd (fun H1 z1 hP1 hV1 => ?_)
          rw [← had]
          refine kk H1 locs (cells + 1) (slots + a.toNat) (hW.new (fun k => ⟨by omega, by omega⟩) (fun t len h => by cases h; exact ha) z1 ?_) hV1 (List.forall_mem_cons.mpr ⟨trivial, hv.2⟩) rfl ?_ ?_
          · rw [zce_int (t := 0) (len := a) rfl (by decide)]; exact hP1
          · show cells + 1 + M.1 = cells + (M.1 + 1); omega
          · show slots + a.toNat + M.2.1 = slots + (M.2.1 + a.toNat); omega
        · cases h
          have hc1' : cells + (M.1 + 1) ≤ R.cells + M.1 := hc1
          have hc2' : slots + (M.2.1 + a.toNat) ≤ R.slots + M.2.1 := hc2
          have hw0 : Cond.arrayClass .boolean ∈ zW := zW_at _ zac_z rfl
          refine zw_newa hx hb (atype := .boolean) (hts _ hw0) (hK.2 1 _ rfl).2 hP hV (a0 := (a.toNat, .inl (fun _ => 0))) rfl hneg (zcl_nat ⟨ha.1, by omega⟩) (by show a.toNat * 1 ≤ _; omega) (by omega) (by omega) hd (fun H1 z1 hP1 hV1 => ?_)
          rw [← had]
          refine kk H1 locs (cells + 1) (slots + a.toNat) (hW.new (fun k => ⟨by omega, by omega⟩) (fun t len h => by cases h; exact ha) z1 ?_) hV1 (List.forall_mem_cons.mpr ⟨trivial, hv.2⟩) rfl ?_ ?_
          · rw [zce_int (t := 1) (len := a) rfl (by decide)]; exact hP1
          · show cells + 1 + M.1 = cells + (M.1 + 1); omega
          · show slots + a.toNat + M.2.1 = slots + (M.2.1 + a.toNat); omega
        · cases h
      · cases h
    · cases h
  · -- anewarray
    next n =>
    have hn := zlen_of hl (by intros; simp); simp only [zlen] at hn; subst hn
    split at h
    · next a r ci hz =>
      obtain ⟨g1, g2, g3⟩ := zcl_in hz
      have hv := List.forall_mem_cons.mp hS
      split at h
      · next ha =>
        cases h
        have had : zad base b t0 (M.1 : Int) = H.size := by rw [zad_of (by omega), hW.2.1]; simp
        have hneg : ¬ Int32.ofInt a < 0 := by
          intro g
          have := (zlt (b := 0) (⟨by omega, by omega⟩ : -2147483648 ≤ a ∧ a ≤ 2147483647) ⟨by omega, by omega⟩).mp g
          omega
        have hc1' : cells + (M.1 + 1) ≤ R.cells + M.1 := hc1
        have hc2' : slots + (M.2.1 + a.toNat) ≤ R.slots + M.2.1 := hc2
        have fin : ∀ (H1 : Heap), H1.size = H.size + 1 → va_P (dC, dI) zCl (zws (zad base b t0) base cA M ++ [(H.size, .inl (cA (3 - ci), a.toNat, .inr (.inr (.inr (.inr (fun _ => none))))))]) H1 → va_S (zA base) s.heap H1 locs → W p l e R s m args below meth c H1 locs (cells + 1) (slots + a.toNat) Q (F0 m (pc + 3) A (.ref H.size :: r.map (zcv (zad base b t0)))) := by
          intro H1 z1 hP1 hV1
          rw [← had]
          refine kk H1 locs (cells + 1) (slots + a.toNat) (hW.new (fun k => trivial) (fun t len h => by cases h; exact ⟨ha.1, ha.2.1⟩) z1 ?_) hV1 (List.forall_mem_cons.mpr ⟨trivial, hv.2⟩) rfl ?_ ?_
          · rw [zce_ref (t := 3 - ci) (len := a) rfl (by omega)]; exact hP1
          · show cells + 1 + M.1 = cells + (M.1 + 1); omega
          · show slots + a.toNat + M.2.1 = slots + (M.2.1 + a.toNat); omega
        rcases (show ci = 0 ∨ ci = 1 by omega) with rfl | rfl
        · obtain ⟨kA, comp, k1, k2, k3, k4⟩ := (hK.2 3 _ rfl).2
          exact zw_newq hx hb hown (hts _ g2) hO0 k4 hP hV hneg (zcl_nat ⟨ha.1, by omega⟩) (by omega) (by omega) (by omega) hd fin
        · obtain ⟨kA, comp, k1, k2, k3, k4⟩ := (hK.2 2 _ rfl).2
          exact zw_newq hx hb hown (hts _ g2) hO1 k4 hP hV hneg (zcl_nat ⟨ha.1, by omega⟩) (by omega) (by omega) (by omega) hd fin
      · cases h
    · cases h
  · cases h
end SIM3
end
section
/-! calls: words, entry, contracts -/
def zpl (j : Nat) : Nat × Nat × Nat × Nat := (zm j).2.2.2.2.2.2
def zmtc (j : Nat) : Bool := zgw (zpl j).2.2.2 (.initialized (zRn (zo j))) && decide ((zy j).cls = zRn (zo j)) && decide ((zy j).cls ≠ "java/lang/invoke/MethodHandle") && decide ((zy j).cls ≠ "java/lang/invoke/VarHandle") && decide ((parseMethodDescriptor (zy j).desc).map (fun d => d.parameters.length) = some (zp j)) && decide (zn j ≤ 24) && plainName (zy j).cls && decide (zo j < 8)
set_option maxRecDepth 100000 in
theorem zmtc_0 : (List.range 132).all zmtc = true := by decide +kernel
theorem zmt_in {j : Nat} (h : j < 132) : Cond.code (zy j) (zc j) (zn j) (zr j) ∈ zW ∧ Cond.initialized (zRn (zo j)) ∈ zW ∧ (zy j).cls = zRn (zo j) ∧ ((zy j).cls ≠ "java/lang/invoke/MethodHandle" ∧ (zy j).cls ≠ "java/lang/invoke/VarHandle" ∧ (parseMethodDescriptor (zy j).desc).map (fun d => d.parameters.length) = some (zp j)) ∧ zn j ≤ 24 ∧ plainName (zy j).cls = true ∧ zo j < 8 := by
  have h1 := List.all_eq_true.mp zmtc_0 j (List.mem_range.mpr h)
  simp only [zmtc, Bool.and_eq_true, decide_eq_true_eq] at h1
  obtain ⟨⟨⟨⟨⟨⟨⟨a2, a3⟩, a4⟩, a5⟩, a6⟩, a7⟩, a8⟩, a9⟩ := h1
  exact ⟨List.mem_filter.mpr ⟨zcw _ (zm_at h), rfl⟩, zgw_in a2, a3, ⟨a4, a5, a6⟩, a7, a8, a9⟩
def zmlc (q : Nat × Nat × Nat × Nat × Nat) : Bool := match q.2.2.1 with
  | 0 => zgw q.2.2.2.2 (.methodLink (zRn q.1) q.2.1 (zy q.2.2.2.1)) && zgw (zpl q.2.2.2.1).2.1 (.instanceMethod (zy q.2.2.2.1)) && zgw (zpl q.2.2.2.1).2.2.1 (.selects (zRn (zo q.2.2.2.1)) (zy q.2.2.2.1) (zy q.2.2.2.1)) && decide (q.2.2.2.1 < 132) && decide (zp q.2.2.2.1 + 1 ≤ zn q.2.2.2.1)
  | 1 => zgw q.2.2.2.2 (.methodLink (zRn q.1) q.2.1 (zy q.2.2.2.1)) && zgw (zpl q.2.2.2.1).2.1 (.static (zy q.2.2.2.1)) && decide (q.1 = zo q.2.2.2.1) && decide (q.2.2.2.1 < 132) && decide (zp q.2.2.2.1 ≤ zn q.2.2.2.1)
  | 2 => zgw q.2.2.2.2 (.methodLink (zRn q.1) q.2.1 (zy q.2.2.2.1)) && zgw (zpl q.2.2.2.1).2.1 (.instanceMethod (zy q.2.2.2.1)) && decide ((zy q.2.2.2.1).name = "<init>") && decide (zr q.2.2.2.1 = none) && decide (q.2.2.2.1 < 132) && decide (zp q.2.2.2.1 + 1 ≤ zn q.2.2.2.1)
  | 3 => zgw (zpl q.2.2.2.1).2.1 (.static (zy q.2.2.2.1)) && decide (q.2.2.2.1 < 132) && decide (zp q.2.2.2.1 ≤ zn q.2.2.2.1)
  | 4 => zgw (zpl q.2.2.2.1).2.1 (.instanceMethod (zy q.2.2.2.1)) && decide ((zy q.2.2.2.1).name = "<init>") && decide (zr q.2.2.2.1 = none) && decide (q.2.2.2.1 < 132) && decide (zp q.2.2.2.1 + 1 ≤ zn q.2.2.2.1)
  | 5 => zgw q.2.2.2.2 (.methodLink (zRn q.1) q.2.1 objectInit)
  | 6 => zgw q.2.2.2.2 (.methodLink (zRn q.1) q.2.1 Lib.Math.max.name)
  | _ => zgw q.2.2.2.2 (.methodLink (zRn q.1) q.2.1 Lib.Math.min.name)
set_option maxRecDepth 100000 in
theorem zmlc_0 : zmlT.all zmlc = true := by decide +kernel
theorem zml_in {a n k j : Nat} (h : zml a n = some (k, j)) : ∃ i, (a, n, k, j, i) ∈ zmlT ∧ zmlc (a, n, k, j, i) = true := by
  unfold zml at h
  obtain ⟨q, hq, he⟩ := Option.map_eq_some_iff.mp h
  have h1 := List.find?_some hq
  simp only [Bool.and_eq_true, beq_iff_eq] at h1
  have hm := List.mem_of_find?_eq_some hq
  obtain ⟨q1, q2, q3, q4, q5⟩ := q
  simp only [Prod.mk.injEq] at he h1
  obtain ⟨rfl, rfl⟩ := h1
  obtain ⟨rfl, rfl⟩ := he
  exact ⟨q5, hm, List.all_eq_true.mp zmlc_0 _ hm⟩
theorem zW_sub {ws : List Cond} (h : ∀ w ∈ ws, w ∈ zW) : GoodIn zW ws := fun w hw => ⟨h w hw, good_of_word (zW_good (h w hw)).2⟩
abbrev zwsj (j : Nat) : List Cond := .code (zy j) (zc j) (zn j) (zr j) :: zW
theorem zwsj_in {j : Nat} (h : j < 132) : ∀ w ∈ zwsj j, w ∈ zW := by
  intro w hw
  rcases List.mem_cons.mp hw with rfl | hw
  · exact (zmt_in h).1
  · exact hw
def zrm (d mc ms : Nat) : Room := { frames := d, cells := mc, slots := ms, locals := 43 * d }
/-- a method's entry -/
theorem zsl_eq {f : Int → Nat} : ∀ (as : List zV), zsm as = true → lg_sl (as.map (zcv f)) = as.map (fun v => Slot.val (zcv f v))
  | [], _ => rfl
  | v :: t, h => by
    simp only [zsm, List.all_cons, Bool.and_eq_true] at h
    have ih := zsl_eq (f := f) t h.2
    have hc : ¬ (zcv f v).category = 2 := by
      rw [zcat]
      rintro ⟨x, rfl⟩
      simp at h
    show (lg_sl (zcv f v :: t.map (zcv f))) = _
    unfold lg_sl at ih ⊢
    rw [List.flatMap_cons, if_neg hc, ih]
    rfl
theorem zargs_mem {f : Int → Nat} : ∀ (as : List zV) (k : Nat), zsm as = true → ∀ (j : Nat) (v : zV), as[j]? = some v → (k + j, zcv f v) ∈ lv_args k (as.map (zcv f))
  | [], _, _, j, v, hj => by simp at hj
  | w :: t, k, h, j, v, hj => by
    simp only [zsm, List.all_cons, Bool.and_eq_true] at h
    have hc : ¬ (zcv f w).category = 2 := by
      rw [zcat]
      rintro ⟨x, rfl⟩
      simp at h
    rw [List.map_cons, lv_args, if_neg hc]
    cases j with
    | zero =>
      simp at hj
      subst hj
      exact List.mem_cons_self
    | succ j =>
      have ih := zargs_mem (f := f) t (k + 1) h.2 j v (by simpa using hj)
      rw [show k + (j + 1) = k + 1 + j by omega]
      exact List.mem_cons_of_mem _ ih
theorem zent_LR {f : Int → Nat} {j : Nat} {as : List zV} (hs : zsm as = true) (hl : as.length ≤ zn j) (hk : ∀ v ∈ as, zok v) : zLR f (zn j) (zent j as) ((lg_sl (as.map (zcv f)) ++ List.replicate (zn j - (lg_sl (as.map (zcv f))).length) Slot.unset).toArray) := by
  have hlen : (lg_sl (as.map (zcv f))).length = as.length := by rw [zsl_eq as hs, List.length_map]
  have h1 := lv_entry (as.map (zcv f)) (n := zn j) (by rw [hlen]; exact hl)
  have key : ∀ (i : Nat) (v : zV), (zent j as)[i]? = some (some v) → as[i]? = some v := by
    intro i v hi
    unfold zent at hi
    by_cases hil : i < as.length
    · rw [List.getElem?_append_left (by rw [List.length_map]; exact hil), List.getElem?_map] at hi
      obtain ⟨w, hw, e⟩ := Option.map_eq_some_iff.mp hi
      cases e
      exact hw
    · rw [List.getElem?_append_right (by rw [List.length_map]; omega)] at hi
      have := List.mem_of_getElem? hi
      rw [List.mem_replicate] at this
      cases this.2
  refine ⟨⟨h1.1, h1.2.1, fun q hq => ?_⟩, ?_, fun v hv => ?_⟩
  · obtain ⟨i, v, e1, e2, e3⟩ := (zas_mem _ 0 q).mp hq
    have := zargs_mem (f := f) as 0 hs i v (key i v e2)
    rw [← e1, ← e3] at this
    exact h1.2.2 q this
  · simp [zent]; omega
  · obtain ⟨i, hi⟩ := List.getElem?_of_mem hv
    exact hk v (List.mem_of_getElem? (key i v hi))
theorem zrest {f : Int → Nat} : ∀ (r : List zV), ((r.map (zcv f)).map fun v => v.category).sum ≤ 2 * r.length
  | [] => by simp
  | v :: t => by
    have ih := zrest (f := f) t
    have hc := lv_cat (zcv f v)
    simp only [List.map_cons, List.sum_cons, List.length_cons]
    omega
section ZCALL
variable {p : Program} {l : Launch} {e : Env} {R : Room} {s : State} {m : MethodId} {args : Array Value} {below : List Frame} {meth : Method} {c : Code} {H : Heap} {locs : List Loc} {cells slots : Nat} {Q : State → Prop}
variable {dC : Nat → ClassId} {dI : Nat → Nat → Nat} {cA : Nat → ClassId} {base b t0 L : Nat} {xs : Nat → Int32}
/-- what a method of ours ends with -/
def zQ (dC : Nat → ClassId) (dI : Nat → Nat → Nat) (cA : Nat → ClassId) (base b t0 L : Nat) (xs : Nat → Int32) (r : Option zV) (M' : zM) : Array Value → State → Outcome → State → Prop := fun _ st o t => o = .returned (r.map (zcv (zad base b t0))) ∧ zWd dC dI cA base b t0 L xs M' t.heap ∧ (∀ v ∈ r.toList, zok v) ∧ va_F (zA base) st t
def zP (dC : Nat → ClassId) (dI : Nat → Nat → Nat) (cA : Nat → ClassId) (base b t0 L : Nat) (xs : Nat → Int32) (as : List zV) (M : zM) : Array Value → State → Prop := va_Pc (as.map (zcv (zad base b t0))) (fun U => zEv dC dI cA base b t0 L xs U U.heap ∧ zWd dC dI cA base b t0 L xs M U.heap ∧ base ≤ U.heap.size)
abbrev zMet (l : Launch) (dC : Nat → ClassId) (dI : Nat → Nat → Nat) (cA : Nat → ClassId) (base b t0 L : Nat) (xs : Nat → Int32) (d j : Nat) (as : List zV) (M : zM) (r : Option zV) (M' : zM) : Prop := Met l (zy j) (zwsj j) (zrm d (M'.1 - M.1) (M'.2.1 - M.2.1)) (zP dC dI cA base b t0 L xs as M) (zQ dC dI cA base b t0 L xs r M') (M'.1 - M.1) (M'.2.1 - M.2.1) (zA base)
theorem zP_blind {as : List zV} {M : zM} : FrameBlind (zP dC dI cA base b t0 L xs as M) := by
  intro a U g mk h
  obtain ⟨h1, h2, h3, h4⟩ := h
  exact ⟨h1, zEv.same (u := U) (U := U.calling g mk a) rfl h2, h3, h4⟩
theorem zP_now {as : List zV} {M : zM} (hE : zEv dC dI cA base b t0 L xs s s.heap) (hbs : base ≤ s.heap.size) (hW : zWd dC dI cA base b t0 L xs M H) (hV : va_S (zA base) s.heap H locs) : ∀ U : State, U.heap = H → s.WarmedH U.vm → zP dC dI cA base b t0 L xs as M (as.map (zcv (zad base b t0))).toArray U := by
  intro U hU hw
  refine ⟨rfl, ?_, ?_, ?_⟩
  · rw [hU]; exact zEv.go hw hbs hV hE
  · rw [hU]; exact hW
  · rw [hU]; exact Nat.le_trans hbs hV.1
theorem z_call {pc : Nat} {ls : Array Slot} {rest st0 : List Value} {a : Array Value} {mc ms : Nat} {r : Option zV} {M' : zM} (hr : va_Run p l e R s m args below meth c H locs cells slots mc ms (F0 m pc ls st0) rest (zQ dC dI cA base b t0 L xs r M' a) (zA base)) (hS : va_S (zA base) s.heap H locs)
    (kk : ∀ (H1 : Heap) (locs1 : List Loc), zWd dC dI cA base b t0 L xs M' H1 → (∀ v ∈ r.toList, zok v) → va_S (zA base) s.heap H1 locs1 → W p l e R s m args below meth c H1 locs1 (cells + mc) (slots + ms) Q (F0 m (pc + 3) ls ((r.map (zcv (zad base b t0))).toList ++ rest))) : W p l e R s m args below meth c H locs cells slots Q (F0 m pc ls st0) := by
  intro T hT X
  obtain ⟨v, st₀, t, T', Lc, h0, X', hL, e1, e2, ⟨hv, hw, hok, hz, hk⟩, st⟩ := hr T hT X
  cases hv
  rw [h0] at hz hk
  obtain ⟨t2, a1, b1⟩ := kk T'.heap (locs ++ Lc) (by rw [e1]; exact hw) hok ⟨Nat.le_trans hS.1 (by rw [e1]; exact hz), fun q h1 h2 => by rw [e1, hk q (Nat.lt_of_lt_of_le h1 hS.1) h2]; exact hS.2.1 q h1 h2, fun q hq => by
      rcases List.mem_append.mp hq with h | h
      · exact hS.2.2 q h
      · exact hL q h⟩ T' rfl X'
  exact ⟨t2, st t2 a1, b1⟩
set_option maxHeartbeats 1000000 in
/-- a call's run -/
theorem z_run {j pc d' : Nat} {i : Instr} {len : Nat} {st : List zV} {M M1 : zM} {x : Nat × List zV × List zV} {v : Option zV} {A : Array Slot} {ls : zL} (hx : p.tables.exec = Jvm.exec) (hb : c.code = zc j) (hml : c.maxLocals = zn j) (hown : s.vm.findClass (zRn (zo j)) = some m.cls) (hts : ∀ w ∈ zW, w.before args s = true) (hE : zEv dC dI cA base b t0 L xs s s.heap) (hbs : base ≤ s.heap.size)
    (hW : zWd dC dI cA base b t0 L xs M H) (hV : va_S (zA base) s.heap H locs) (hL : zLR (zad base b t0) (zn j) ls A) (hd : decode (zc j) pc = .ok (i, len)) (hl : zlk i len = true) (h : zca j i st M = some x)
    (hM : x.1 < 132 → zMet l dC dI cA base b t0 L xs d' x.1 x.2.1 M v M1) (hfr : d' + 1 ≤ R.frames) (hlo : 43 * (d' + 1) ≤ R.locals) (hc1 : cells + (M1.1 - M.1) ≤ R.cells) (hc2 : slots + (M1.2.1 - M.2.1) ≤ R.slots)
    (kk : ∀ (H1 : Heap) (locs1 : List Loc), zWd dC dI cA base b t0 L xs M1 H1 → (∀ w ∈ v.toList, zok w) → va_S (zA base) s.heap H1 locs1 → W p l e R s m args below meth c H1 locs1 (cells + (M1.1 - M.1)) (slots + (M1.2.1 - M.2.1)) Q (F0 m (pc + 3) A ((v.map (zcv (zad base b t0))).toList ++ x.2.2.map (zcv (zad base b t0))))) : W p l e R s m args below meth c H locs cells slots Q (F0 m pc A (st.map (zcv (zad base b t0)))) := by
  have hfix : CallFix p m c (zc j) (zn j) s args zW (zRn (zo j)) := ⟨hx, hb, hml, hown, hts⟩
  unfold zca at h
  split at h
  · next n =>
    have hn := zlen_of hl (by intros; simp); simp only [zlen] at hn; subst hn
    split at h
    · next q hz =>
      split at h
      · next pp r hst =>
        split at h
        · next hk =>
          cases h
          obtain ⟨hk1, hk2, hk3, hk4⟩ := hk
          obtain ⟨iw, hi1, hi2⟩ := zml_in hz
          simp only [zmlc, Bool.and_eq_true, decide_eq_true_eq] at hi2
          obtain ⟨⟨⟨⟨w1, w2⟩, w3⟩, w4⟩, w5⟩ := hi2
          obtain ⟨m1, m2, m3, m4, m5, m6, m7⟩ := zmt_in w4
          have hr := hW.lt (q := pp) (by rw [hk1]; exact m7) (by intro ln; rw [hk1]; simp)
          have hat := zws_at (f := zad base b t0) (base := base) (cA := cA) hr.1 hr.2
          rw [zce_obj hk1, ← zad_of (b := b) (t0 := t0) hr.1] at hat
          have hstk : st.map (zcv (zad base b t0)) = (((st.take (zp q)).reverse).map (zcv (zad base b t0))).reverse ++ .ref (zad base b t0 pp) :: r.map (zcv (zad base b t0)) := by
            rw [← List.map_reverse, List.reverse_reverse]
            conv => lhs; rw [← List.take_append_drop (zp q) st, hst, List.map_append]
            rfl
          refine z_call (va_runV (b := zad base b t0 pp) (As := ((st.take (zp q)).reverse).map (zcv (zad base b t0))) (rest := r.map (zcv (zad base b t0))) (n := zp q) (C := zRn (zo q)) hfix (hM w4) (cwV (zp q) hts (zW_sub ?_) rfl rfl rfl ⟨m3, m4⟩ ⟨hfr, ?_⟩) ⟨zP_blind, va_recv hE.1 hW.1 (zCl_at m7) hat, fun U hU hw => zP_now (as := .inr (.inl (some pp)) :: (st.take (zp q)).reverse) hE hbs hW hV U hU hw⟩ rfl ?_ hL.1.1 hstk (lv_room ?_) hd ⟨hc1, hc2⟩) hV kk
          · intro w hw
            simp only [wsV, List.cons_append, List.nil_append, List.mem_cons] at hw
            rcases hw with rfl | rfl | rfl | rfl | hw
            · exact zgw_in w1
            · exact zgw_in w2
            · exact zgw_in w3
            · exact m2
            · exact zwsj_in w4 w (List.mem_cons.mpr hw)
          · show 8 + (zn q + 11) + 43 * d' ≤ R.locals; omega
          · rw [List.length_map, List.length_reverse, List.length_take]; omega
          · have := zrest (f := zad base b t0) r; omega
        · cases h
      · cases h
    · cases h
  · next n =>
    have hn := zlen_of hl (by intros; simp); simp only [zlen] at hn; subst hn
    split at h
    · next k q hz =>
      split at h
      · next hk =>
        cases h
        obtain ⟨hk1, hk2, hk3, hk4⟩ := hk
        obtain ⟨iw, hi1, hi2⟩ := zml_in hz
        have hstk : st.map (zcv (zad base b t0)) = (((st.take (zp q)).reverse).map (zcv (zad base b t0))).reverse ++ (st.drop (zp q)).map (zcv (zad base b t0)) := by
          rw [← List.map_reverse, List.reverse_reverse, ← List.map_append, List.take_append_drop]
        have hsum : (((st.drop (zp q)).map (zcv (zad base b t0))).map fun v => v.category).sum ≤ 8 := by
          have := zrest (f := zad base b t0) (st.drop (zp q)); omega
        have hln : (((st.take (zp q)).reverse).map (zcv (zad base b t0))).length = zp q := by
          rw [List.length_map, List.length_reverse, List.length_take]; omega
        rcases hk1 with rfl | rfl
        · simp only [zmlc, Bool.and_eq_true, decide_eq_true_eq] at hi2
          obtain ⟨⟨⟨⟨w1, w2⟩, w3⟩, w4⟩, w5⟩ := hi2
          obtain ⟨m1, m2, m3, m4, m5, m6, m7⟩ := zmt_in w4
          refine z_call (va_runS (As := ((st.take (zp q)).reverse).map (zcv (zad base b t0))) (rest := (st.drop (zp q)).map (zcv (zad base b t0))) (n := zp q) hfix (hM w4) (cwS (zp q) hts (zW_sub ?_) rfl rfl rfl ⟨by rw [m3, w3], m4⟩ ⟨hfr, ?_⟩) ⟨zP_blind, fun U hU hw => zP_now (as := (st.take (zp q)).reverse) hE hbs hW hV U hU hw⟩ rfl hln hL.1.1 hstk (lv_room hsum) hd ⟨hc1, hc2⟩) hV kk
          · intro w hw
            simp only [wsS, List.cons_append, List.nil_append, List.mem_cons] at hw
            rcases hw with rfl | rfl | rfl | hw
            · exact zgw_in w1
            · exact zgw_in w2
            · rw [w3]; exact m2
            · exact zwsj_in w4 w (List.mem_cons.mpr hw)
          · show 8 + (zn q + 11) + 43 * d' ≤ R.locals; omega
        · simp only [zmlc, Bool.and_eq_true, decide_eq_true_eq] at hi2
          obtain ⟨⟨w2, w4⟩, w5⟩ := hi2
          obtain ⟨m1, m2, m3, m4, m5, m6, m7⟩ := zmt_in w4
          have hl0 : va_Nw (.methodLinkNest (zRn (zo j)) n (zy q) "WalkHouses") s := hE.2.1 (zo j, n, 3, q, iw) hi1 (Or.inl rfl)
          exact z_call (va_runSN (host := "WalkHouses") (As := ((st.take (zp q)).reverse).map (zcv (zad base b t0))) (rest := (st.drop (zp q)).map (zcv (zad base b t0))) (n := zp q) hfix (hM w4) ⟨va_cnB (ws' := zW) (zp q) hts (zW_sub (zwsj_in w4)) rfl rfl rfl hl0 (by rw [m3]; exact hts _ m2) m4 ⟨hfr, (by show 8 + (zn q + 11) + 43 * d' ≤ R.locals; omega)⟩, hts _ (zgw_in w2), trivial⟩ ⟨zP_blind, fun U hU hw => zP_now (as := (st.take (zp q)).reverse) hE hbs hW hV U hU hw⟩ rfl hln hL.1.1 hstk (lv_room hsum) hd ⟨hc1, hc2⟩) hV kk
      · cases h
    · cases h
  · next n =>
    have hn := zlen_of hl (by intros; simp); simp only [zlen] at hn; subst hn
    split at h
    · next k q hz =>
      split at h
      · next hk1 =>
        split at h
        · next pp r hst =>
          split at h
          · next hk =>
            cases h
            obtain ⟨hk2, hk3, hk4⟩ := hk
            obtain ⟨iw, hi1, hi2⟩ := zml_in hz
            have hstk : st.map (zcv (zad base b t0)) = (((st.take (zp q)).reverse).map (zcv (zad base b t0))).reverse ++ .ref (zad base b t0 pp) :: r.map (zcv (zad base b t0)) := by
              rw [← List.map_reverse, List.reverse_reverse]
              conv => lhs; rw [← List.take_append_drop (zp q) st, hst, List.map_append]
              rfl
            have hsum : ((r.map (zcv (zad base b t0))).map fun v => v.category).sum ≤ 8 := by
              have := zrest (f := zad base b t0) r; omega
            have hln : (((st.take (zp q)).reverse).map (zcv (zad base b t0))).length = zp q := by
              rw [List.length_map, List.length_reverse, List.length_take]; omega
            rcases hk1 with rfl | rfl
            · simp only [zmlc, Bool.and_eq_true, decide_eq_true_eq] at hi2
              obtain ⟨⟨⟨⟨⟨w1, w2⟩, w3⟩, w6⟩, w4⟩, w5⟩ := hi2
              obtain ⟨m1, m2, m3, m4, m5, m6, m7⟩ := zmt_in w4
              exact z_call (va_runI (b := zad base b t0 pp) (As := ((st.take (zp q)).reverse).map (zcv (zad base b t0))) (rest := r.map (zcv (zad base b t0))) (n := zp q) hfix (hM w4) (cwI (ws' := zW) (zp q) hts (zW_sub (zwsj_in w4)) (by rw [← w6]) rfl rfl (by rw [m3]; exact hts _ m2) (hts _ (zgw_in w1)) (hts _ (zgw_in w2)) w3 m4 ⟨hfr, (by show 8 + (zn q + 11) + 43 * d' ≤ R.locals; omega)⟩) ⟨zP_blind, fun U hU hw => zP_now (as := .inr (.inl (some pp)) :: (st.take (zp q)).reverse) hE hbs hW hV U hU hw⟩ rfl hln hL.1.1 hstk (lv_room hsum) hd ⟨hc1, hc2⟩) hV kk
            · simp only [zmlc, Bool.and_eq_true, decide_eq_true_eq] at hi2
              obtain ⟨⟨⟨⟨w2, w3⟩, w6⟩, w4⟩, w5⟩ := hi2
              obtain ⟨m1, m2, m3, m4, m5, m6, m7⟩ := zmt_in w4
              have hl0 : va_Nw (.methodLinkNest (zRn (zo j)) n (zy q) "WalkHouses") s := hE.2.1 (zo j, n, 4, q, iw) hi1 (Or.inr rfl)
              exact z_call (va_runIN (host := "WalkHouses") (b := zad base b t0 pp) (As := ((st.take (zp q)).reverse).map (zcv (zad base b t0))) (rest := r.map (zcv (zad base b t0))) (n := zp q) hfix (hM w4) ⟨va_cnB (ws' := zW) (zp q) hts (zW_sub (zwsj_in w4)) (by rw [← w6]) rfl rfl hl0 (by rw [m3]; exact hts _ m2) m4 ⟨hfr, (by show 8 + (zn q + 11) + 43 * d' ≤ R.locals; omega)⟩, w3, hts _ (zgw_in w2)⟩ ⟨zP_blind, fun U hU hw => zP_now (as := .inr (.inl (some pp)) :: (st.take (zp q)).reverse) hE hbs hW hV U hU hw⟩ rfl hln hL.1.1 hstk (lv_room hsum) hd ⟨hc1, hc2⟩) hV kk
          · cases h
        · cases h
      · cases h
    · cases h
  · cases h
end ZCALL
end
section
/-! the whole: a run of the small machine is a run of the JVM -/
theorem zwo1 : Cond.instanceMethod objectInit ∈ zW := List.mem_filter.mpr ⟨List.mem_of_getElem? (i := 56) rfl, rfl⟩
theorem zwo2 : Cond.code objectInit ⟨#[0xb1]⟩ 1 none ∈ zW := List.mem_filter.mpr ⟨List.mem_of_getElem? (i := 57) rfl, rfl⟩
theorem zwx1 : Cond.static Lib.Math.max.name ∈ zW := List.mem_filter.mpr ⟨List.mem_of_getElem? (i := 338) rfl, rfl⟩
theorem zwx2 : Cond.code Lib.Math.max.name Lib.Math.max.code 2 (some .int) ∈ zW := List.mem_filter.mpr ⟨List.mem_of_getElem? (i := 339) rfl, rfl⟩
theorem zwn1 : Cond.static Lib.Math.min.name ∈ zW := List.mem_filter.mpr ⟨List.mem_of_getElem? (i := 398) rfl, rfl⟩
theorem zwn2 : Cond.code Lib.Math.min.name Lib.Math.min.code 2 (some .int) ∈ zW := List.mem_filter.mpr ⟨List.mem_of_getElem? (i := 399) rfl, rfl⟩
theorem zwmi : Cond.initialized "java/lang/Math" ∈ zW := List.mem_filter.mpr ⟨List.mem_of_getElem? (i := 49) rfl, rfl⟩
theorem zn4_M {d j : Nat} {i : Instr} {pc : Nat} {ls : zL} {st : List zV} {M : zM} {x : zX} (h : zn4 d j i pc ls st M = some x) : x.2.2.2 = M ∧ x.2.1 = ls := by
  unfold zn4 at h
  repeat' split at h
  all_goals first | (cases h; exact ⟨rfl, rfl⟩) | cases h
theorem zn3_M {j : Nat} {i : Instr} {pc : Nat} {ls : zL} {st : List zV} {M : zM} {x : zX} (h : zn3 j i pc ls st M = some x) : M.1 ≤ x.2.2.2.1 ∧ M.2.1 ≤ x.2.2.2.2.1 := by
  unfold zn3 at h
  repeat' split at h
  all_goals first | (cases h; exact ⟨Nat.le_refl _, Nat.le_refl _⟩) | (cases h; exact ⟨Nat.le_succ _, Nat.le_add_right _ _⟩) | cases h
theorem znx_M {d j : Nat} {i : Instr} {pc : Nat} {ls : zL} {st : List zV} {M : zM} {x : zX} (h : znx d j i pc ls st M = some x) : M.1 ≤ x.2.2.2.1 ∧ M.2.1 ≤ x.2.2.2.2.1 := by
  unfold znx at h
  split at h
  · next y e => cases h; rw [zn1_M e]; exact ⟨Nat.le_refl _, Nat.le_refl _⟩
  · split at h
    · next y e => cases h; rw [zn2_M e]; exact ⟨Nat.le_refl _, Nat.le_refl _⟩
    · split at h
      · next y e => cases h; exact zn3_M e
      · rw [(zn4_M h).1]; exact ⟨Nat.le_refl _, Nat.le_refl _⟩
/-- a run, taken apart -/
theorem zrun_s {n d j pc : Nat} {ls : zL} {st : List zV} {M : zM} {y : Option zV × zM} (h : zrun (n + 1) d j pc ls st M = some y) : ∃ i len, zft j pc = some (i, len) ∧ zlk i len = true ∧
    ((∃ r, zre j i st = some r ∧ y = (r, M)) ∨ (∃ x d' z, zca j i st M = some x ∧ d = d' + 1 ∧ zrun n d' x.1 0 (zent x.1 x.2.1) [] M = some z ∧ zrun n d j (pc + 3) ls (z.1.toList ++ x.2.2) z.2 = some y) ∨ ∃ x, znx d j i pc ls st M = some x ∧ zrun n d j x.1 x.2.1 x.2.2.1 x.2.2.2 = some y) := by
  unfold zrun at h
  split at h
  · cases h
  · next i len hf =>
    split at h
    · next hl =>
      refine ⟨i, len, hf, hl, ?_⟩
      split at h
      · next r hr => cases h; exact Or.inl ⟨r, hr, rfl⟩
      · split at h
        · next x hx =>
          cases d with
          | zero => simp at h
          | succ d' =>
            simp only at h
            split at h
            · cases h
            · next z hz => exact Or.inr (Or.inl ⟨x, d', z, hx, rfl, hz, h⟩)
        · split at h
          · next x hx => exact Or.inr (Or.inr ⟨x, hx, h⟩)
          · cases h
    · cases h
theorem zrun_M : ∀ {n d j pc : Nat} {ls : zL} {st : List zV} {M : zM} {y : Option zV × zM}, zrun n d j pc ls st M = some y → M.1 ≤ y.2.1 ∧ M.2.1 ≤ y.2.2.1 := by
  intro n
  induction n with
  | zero => intro d j pc ls st M y h; simp [zrun] at h
  | succ n ih =>
    intro d j pc ls st M y h
    obtain ⟨i, len, -, -, h | ⟨x, d', z, -, -, h1, h2⟩ | ⟨x, h1, h2⟩⟩ := zrun_s h
    · obtain ⟨r, -, rfl⟩ := h; exact ⟨Nat.le_refl _, Nat.le_refl _⟩
    · have a1 := ih h1; have a2 := ih h2; exact ⟨Nat.le_trans a1.1 a2.1, Nat.le_trans a1.2 a2.2⟩
    · have a1 := znx_M h1; have a2 := ih h2; exact ⟨Nat.le_trans a1.1 a2.1, Nat.le_trans a1.2 a2.2⟩
section SIM4
variable {p : Program} {l : Launch} {e : Env} {R : Room} {s : State} {m : MethodId} {args : Array Value} {below : List Frame} {meth : Method} {c : Code} {H : Heap} {locs : List Loc} {cells slots : Nat} {Q : State → Prop}
theorem z_n4 {f : Int → Nat} {d j : Nat} {i : Instr} {len pc : Nat} {ls : zL} {st : List zV} {M : zM} {x : zX} {A : Array Slot} (hx : p.tables.exec = Jvm.exec) (hb : c.code = zc j) (hml : c.maxLocals = zn j) (hown : s.vm.findClass (zRn (zo j)) = some m.cls) (hts : ∀ w ∈ zW, w.before args s = true)
    (hL : zLR f (zn j) ls A) (hS : ∀ v ∈ st, zok v) (hd : decode (zc j) pc = .ok (i, len)) (hl : zlk i len = true) (h : zn4 d j i pc ls st M = some x) (hfr : d ≤ R.frames) (hlo : 43 * d ≤ R.locals) (hc1 : cells ≤ R.cells) (hc2 : slots ≤ R.slots)
    (kk : (∀ v ∈ x.2.2.1, zok v) → W p l e R s m args below meth c H locs cells slots Q (F0 m x.1 A (x.2.2.1.map (zcv f)))) : W p l e R s m args below meth c H locs cells slots Q (F0 m pc A (st.map (zcv f))) := by
  unfold zn4 at h
  split at h
  · next n =>
    have hn := zlen_of hl (by intros; simp); simp only [zlen] at hn; subst hn
    split at h
    · next q r k hz =>
      split at h
      · next hk =>
        cases h
        obtain ⟨iw, hi1, hi2⟩ := zml_in hz
        have hw := zgw_in (show zgw iw (.methodLink (zRn (zo j)) n objectInit) = true from hi2)
        have hr := zrest (f := f) r
        refine W.objInit (a := f q) (rest := r.map (zcv f)) hx hb hown (hts _ hw) (hts _ zwo1) (hts _ zwo2) rfl (by show A.size = _; rw [hml]; exact hL.1.1) rfl hd (by omega) (by show 2 * 0 + _ + 12 ≤ _; omega) ?_
        exact W.eq (g2 := F0 m (pc + 3) A (r.map (zcv f))) rfl (kk (List.forall_mem_cons.mp hS).2)
      · cases h
    · cases h
  · next n =>
    have hn := zlen_of hl (by intros; simp); simp only [zlen] at hn; subst hn
    split at h
    · next y0 x0 r k hz =>
      split at h
      · next hk =>
        cases h
        obtain ⟨iw, hi1, hi2⟩ := zml_in hz
        have hw := zgw_in (show zgw iw (.methodLink (zRn (zo j)) n Lib.Math.max.name) = true from hi2)
        have hr := zrest (f := f) r
        have hv := List.forall_mem_cons.mp hS
        have hu := List.forall_mem_cons.mp hv.2
        refine va_mmax hx hb (by rw [hml]; exact hL.1.1.symm) hown (hts _ hw) (hts _ zwx1) (hts _ zwmi) (hts _ zwx2) (by omega) (by omega) hc1 hc2 hd ?_
        have := kk (List.forall_mem_cons.mpr ⟨by split; exact hv.1; exact hu.1, hu.2⟩)
        have ei : (if Int32.ofInt x0 < Int32.ofInt y0 then Int32.ofInt y0 else Int32.ofInt x0) = Int32.ofInt (if x0 < y0 then y0 else x0) := by
          by_cases g : x0 < y0
          · rw [if_pos g, if_pos ((zlt hu.1 hv.1).mpr g)]
          · rw [if_neg g, if_neg (fun g2 => g ((zlt hu.1 hv.1).mp g2))]
        rw [ei]
        exact this
      · cases h
    · next y0 x0 r k hz =>
      split at h
      · next hk =>
        cases h
        obtain ⟨iw, hi1, hi2⟩ := zml_in hz
        have hw := zgw_in (show zgw iw (.methodLink (zRn (zo j)) n Lib.Math.min.name) = true from hi2)
        have hr := zrest (f := f) r
        have hv := List.forall_mem_cons.mp hS
        have hu := List.forall_mem_cons.mp hv.2
        refine va_mmin hx hb (by rw [hml]; exact hL.1.1.symm) hown (hts _ hw) (hts _ zwn1) (hts _ zwmi) (hts _ zwn2) (by omega) (by omega) hc1 hc2 hd ?_
        have := kk (List.forall_mem_cons.mpr ⟨by split; exact hv.1; exact hu.1, hu.2⟩)
        have ei : (if Int32.ofInt y0 < Int32.ofInt x0 then Int32.ofInt y0 else Int32.ofInt x0) = Int32.ofInt (if y0 < x0 then y0 else x0) := by
          by_cases g : y0 < x0
          · rw [if_pos g, if_pos ((zlt hv.1 hu.1).mpr g)]
          · rw [if_neg g, if_neg (fun g2 => g ((zlt hv.1 hu.1).mp g2))]
        first
          | (rw [ei]; exact this)
          | (refine W.eq ?_ this; congr 1; simp only [List.map_cons, zcv]; congr 2; rw [← ei]; split <;> split <;> first | rfl | (rename_i g1 g2; rcases Int32.lt_trichotomy (Int32.ofInt x0) (Int32.ofInt y0) with t | t | t <;> simp_all))
      · cases h
    · cases h
  · cases h
end SIM4
/-- the frame of a run: the machine, the code, the tables -/
def zCx (dC : Nat → ClassId) (dI : Nat → Nat → Nat) (cA : Nat → ClassId) (base b t0 L : Nat) (xs : Nat → Int32) (j : Nat) (p : Program) (s : State) (m : MethodId) (args : Array Value) (meth : Method) (c : Code) : Prop :=
  p.tables.exec = Jvm.exec ∧ c.code = zc j ∧ c.maxLocals = zn j ∧ s.vm.findClass (zRn (zo j)) = some m.cls ∧ (∀ w ∈ zW, w.before args s = true) ∧ zEv dC dI cA base b t0 L xs s s.heap ∧ base ≤ s.heap.size ∧ ((zy j).name = "<init>" → meth.name = "<init>")
theorem zca_ok {j : Nat} {i : Instr} {st : List zV} {M : zM} {x : Nat × List zV × List zV} (hS : ∀ v ∈ st, zok v) (h : zca j i st M = some x) : (x.1 < 132 ∧ x.2.1.length ≤ zn x.1) ∧ zsm x.2.1 = true ∧ (∀ v ∈ x.2.1, zok v) ∧ ∀ v ∈ x.2.2, zok v := by
  have hsm : ∀ (t : List zV), zsm t = true → zsm t.reverse = true := by
    intro t ht
    unfold zsm at ht ⊢
    rw [List.all_reverse]
    exact ht
  have ht : ∀ k, ∀ v ∈ (st.take k).reverse, zok v := fun k v hv => hS v (List.mem_of_mem_take (List.mem_reverse.mp hv))
  have hdr : ∀ k, ∀ v ∈ st.drop k, zok v := fun k v hv => hS v (List.mem_of_mem_drop hv)
  unfold zca at h
  split at h
  · split at h
    · next q hz =>
      split at h
      · next pp r hst =>
        split at h
        · next hk =>
          cases h
          obtain ⟨iw, hi1, hi2⟩ := zml_in hz
          simp only [zmlc, Bool.and_eq_true, decide_eq_true_eq] at hi2
          refine ⟨⟨hi2.1.2, ?_⟩, ?_, List.forall_mem_cons.mpr ⟨trivial, ht _⟩, fun v hv => hdr (zp q) v (by rw [hst]; exact List.mem_cons_of_mem _ hv)⟩
          · have := hi2.2; simp only [List.length_cons, List.length_reverse, List.length_take]; omega
          · show (true && zsm (st.take (zp q)).reverse) = true; rw [hsm _ hk.2.2.2]; rfl
        · cases h
      · cases h
    · cases h
  · split at h
    · next k q hz =>
      split at h
      · next hk =>
        cases h
        obtain ⟨iw, hi1, hi2⟩ := zml_in hz
        have hq : q < 132 ∧ zp q ≤ zn q := by
          rcases hk.1 with rfl | rfl
          · simp only [zmlc, Bool.and_eq_true, decide_eq_true_eq] at hi2; exact ⟨hi2.1.2, hi2.2⟩
          · simp only [zmlc, Bool.and_eq_true, decide_eq_true_eq] at hi2; exact ⟨hi2.1.2, hi2.2⟩
        refine ⟨⟨hq.1, ?_⟩, hsm _ hk.2.2.2, ht _, hdr _⟩
        simp only [List.length_reverse, List.length_take]; omega
      · cases h
    · cases h
  · split at h
    · next k q hz =>
      split at h
      · next hk1 =>
        split at h
        · next pp r hst =>
          split at h
          · next hk =>
            cases h
            obtain ⟨iw, hi1, hi2⟩ := zml_in hz
            have hq : q < 132 ∧ zp q + 1 ≤ zn q := by
              rcases hk1 with rfl | rfl
              · simp only [zmlc, Bool.and_eq_true, decide_eq_true_eq] at hi2; exact ⟨hi2.1.2, hi2.2⟩
              · simp only [zmlc, Bool.and_eq_true, decide_eq_true_eq] at hi2; exact ⟨hi2.1.2, hi2.2⟩
            refine ⟨⟨hq.1, ?_⟩, ?_, List.forall_mem_cons.mpr ⟨trivial, ht _⟩, fun v hv => hdr (zp q) v (by rw [hst]; exact List.mem_cons_of_mem _ hv)⟩
            · simp only [List.length_cons, List.length_reverse, List.length_take]; omega
            · show (true && zsm (st.take (zp q)).reverse) = true; rw [hsm _ hk.2.2]; rfl
          · cases h
        · cases h
      · cases h
    · cases h
  · cases h
theorem zre_st {j : Nat} {i : Instr} {st : List zV} {r : Option zV} (h : zre j i st = some r) : st = r.toList := by
  unfold zre at h
  repeat' split at h
  all_goals first | (cases h; rfl) | cases h
set_option maxHeartbeats 1000000 in
theorem z_sim (l : Launch) {dC : Nat → ClassId} {dI : Nat → Nat → Nat} {cA : Nat → ClassId} {base b t0 L : Nat} {xs : Nat → Int32} : ∀ (n : Nat) {d j pc : Nat} {ls : zL} {st : List zV} {M : zM} {y : Option zV × zM}, zrun n d j pc ls st M = some y →
    ∀ {p : Program} {e : Env} {R : Room} {s : State} {m : MethodId} {args : Array Value} {below : List Frame} {meth : Method} {c : Code} {H : Heap} {locs : List Loc} {cells slots : Nat} {Q : State → Prop} {A : Array Slot}, zCx dC dI cA base b t0 L xs j p s m args meth c → zWd dC dI cA base b t0 L xs M H → va_S (zA base) s.heap H locs → zLR (zad base b t0) (zn j) ls A → (∀ v ∈ st, zok v) → d ≤ R.frames → 43 * d ≤ R.locals → cells + y.2.1 ≤ R.cells + M.1 → slots + y.2.2.1 ≤ R.slots + M.2.1 →
    (∀ (H' : Heap) (locs' : List Loc) (A' : Array Slot) (pc' cells' slots' : Nat) (i : Instr) (len : Nat), decode (zc j) pc' = .ok (i, len) → zlk i len = true → zre j i y.1.toList = some y.1 → (∀ v ∈ y.1.toList, zok v) → zWd dC dI cA base b t0 L xs y.2 H' → va_S (zA base) s.heap H' locs' → cells' + M.1 = cells + y.2.1 → slots' + M.2.1 = slots + y.2.2.1 → W p l e R s m args below meth c H' locs' cells' slots' Q (F0 m pc' A' (y.1.toList.map (zcv (zad base b t0))))) →
    W p l e R s m args below meth c H locs cells slots Q (F0 m pc A (st.map (zcv (zad base b t0)))) := by
  intro n
  induction n with
  | zero => intro d j pc ls st M y h; simp [zrun] at h
  | succ n ih =>
    intro d j pc ls st M y h p e R s m args below meth c H locs cells slots Q A hC hW hV hL hS hfr hlo hc1 hc2 hend
    obtain ⟨hx, hb, hml, hown, hts, hE, hbs, hin⟩ := id hC
    obtain ⟨i, len, hf, hlk, h⟩ := zrun_s h
    have hd := zft_ok hf
    rcases h with ⟨r, hr, rfl⟩ | ⟨x, d', z, hx1, rfl, h1, h2⟩ | ⟨x, h1, h2⟩
    · have hst := zre_st hr
      subst hst
      exact hend H locs A pc cells slots i len hd hlk hr hS hW hV rfl rfl
    · obtain ⟨⟨k1, k2⟩, k3, k4, k5⟩ := zca_ok hS hx1
      have m1 := zrun_M h1
      have m2 := zrun_M h2
      have hMet : x.1 < 132 → zMet l dC dI cA base b t0 L xs d' x.1 x.2.1 M z.1 z.2 := by
        intro _
        obtain ⟨q1, q2, q3, q4, q5, q6, q7⟩ := zmt_in k1
        refine Met.ofW (cc := zc x.1) (maxL := zn x.1) (ret := zr x.1) q6 rfl ?_
        intro p e s m args below meth c s₁ B hml' hv
        obtain ⟨rfl, hE', hW', hbs'⟩ := hv
        have hts' := atoms_spec (ws := zwsj x.1) B.pre
        have hown' : s.vm.findClass (zRn (zo x.1)) = some m.cls := by rw [← q3]; exact findClass_of_methodNamed B.named
        have hlocks := B.notSynchronized
        have hret := B.returns
        rw [lg_entry_eq]
        refine ih h1 (s := s) (H := s.heap) (locs := []) (cells := 0) (slots := 0) ⟨B.exec, B.bytes, hml', hown', fun w hw => hts' w (List.mem_cons_of_mem _ hw), hE', hbs', fun hn => by rw [(name_of_methodNamed B.named B.method).1]; exact hn⟩ hW' va_S.rf (zent_LR k3 k2 k4) (fun v hv => by cases hv) (Nat.le_refl d') (Nat.le_refl _) (by show 0 + z.2.1 ≤ (z.2.1 - M.1) + M.1; omega) (by show 0 + z.2.2.1 ≤ (z.2.2.1 - M.2.1) + M.2.1; omega) ?_
        intro H' locs' A' pc' cells' slots' i' len' hd' hl' hz' hok2 hW2 hV2 e1 e2
        obtain rfl : cells' = z.2.1 - M.1 := by omega
        obtain rfl : slots' = z.2.2.1 - M.2.1 := by omega
        obtain ⟨zr0, zM0⟩ := z
        have hq : ∀ t : State, t.heap = H' → zQ dC dI cA base b t0 L xs zr0 zM0 (x.2.1.map (zcv (zad base b t0))).toArray s (.returned (zr0.map (zcv (zad base b t0)))) t := fun t ht => ⟨rfl, by rw [ht]; exact hW2, hok2, hV2.F ht⟩
        unfold zre at hz'
        split at hz'
        · next v hst =>
          split at hz'
          · next hk =>
            have hn' := zlen_of hl' (by intros; simp); simp only [zlen] at hn'; subst hn'
            cases hz'
            rcases hk with hk | ⟨hk, hv01⟩
            · rw [hk] at hret
              exact W.zret B.exec B.bytes hret rfl (fun t ht _ => hq t ht) hV2.2.2 hd'
            · rw [hk] at hret
              exact W.zret B.exec B.bytes hret (by rcases hv01 with rfl | rfl <;> rfl) (fun t ht _ => hq t ht) hV2.2.2 hd'
          · cases hz'
        · next v hst =>
          split at hz'
          · next hk =>
            have hn' := zlen_of hl' (by intros; simp); simp only [zlen] at hn'; subst hn'
            cases hz'
            rw [hk] at hret
            exact W.lret B.exec B.bytes hret (fun t ht _ => hq t ht) hV2.2.2 hd'
          · cases hz'
        · next hst =>
          split at hz'
          · next hk =>
            have hn' := zlen_of hl' (by intros; simp); simp only [zlen] at hn'; subst hn'
            cases hz'
            rw [hk] at hret
            exact W.vret B.exec B.bytes hret (fun t ht _ => hq t ht) hV2.2.2 hd'
          · cases hz'
        · cases hz'
      refine z_run hx hb hml hown hts hE hbs hW hV hL hd hlk hx1 hMet hfr hlo (by omega) (by omega) (fun H1 locs1 hW1 hok1 hV1 => ?_)
      have hst : (z.1.map (zcv (zad base b t0))).toList ++ x.2.2.map (zcv (zad base b t0)) = (z.1.toList ++ x.2.2).map (zcv (zad base b t0)) := by
        cases z.1 <;> rfl
      rw [hst]
      refine ih h2 hC hW1 hV1 hL ?_ hfr hlo (by omega) (by omega) (fun H' locs' A' pc' cells' slots' i' len' g1 g2 g3 g0 g4 g5 g6 g7 => hend H' locs' A' pc' cells' slots' i' len' g1 g2 g3 g0 g4 g5 (by omega) (by omega))
      intro v hv
      rcases List.mem_append.mp hv with hv | hv
      · exact hok1 v hv
      · exact k5 v hv
    · have m1 := znx_M h1
      have m2 := zrun_M h2
      unfold znx at h1
      split at h1
      · next y0 e0 =>
        cases h1
        have eM := zn1_M e0
        refine z_n1 hx hb hown hts hL hS hd hlk e0 (fun A' hL' hS' => ?_)
        rw [eM] at h2
        exact ih h2 hC hW hV hL' hS' hfr hlo hc1 hc2 hend
      · split at h1
        · next y0 e0 =>
          cases h1
          have eM := zn2_M e0
          refine z_n2 hx hb hL hS hd hlk e0 (fun A' hL' hS' => ?_)
          rw [eM] at h2
          exact ih h2 hC hW hV hL' hS' hfr hlo hc1 hc2 hend
        · split at h1
          · next y0 e0 =>
            cases h1
            refine z_n3 hx hb hown hts hE hbs hin hW hV hS hd hlk e0 (by omega) (by omega) (fun H' locs' cells' slots' hW' hV' hS' els g1 g2 => ?_)
            rw [els] at h2
            exact ih h2 hC hW' hV' hL hS' hfr hlo (by omega) (by omega) (fun H' locs' A' pc' cells' slots' i' len' f1 f2 f3 f0 f4 f5 f6 f7 => hend H' locs' A' pc' cells' slots' i' len' f1 f2 f3 f0 f4 f5 (by omega) (by omega))
          · obtain ⟨eM, els⟩ := zn4_M h1
            refine z_n4 hx hb hml hown hts hL hS hd hlk h1 hfr hlo (by omega) (by omega) (fun hS' => ?_)
            rw [eM, els] at h2
            exact ih h2 hC hW hV hL hS' hfr hlo hc1 hc2 hend
end
section
theorem f0_0 : zft 0 0 = some (.aload_n 0, 1) := by decide +kernel
theorem f0_1 : zft 0 1 = some (.invokespecial 3, 3) := by decide +kernel
theorem f0_4 : zft 0 4 = some (.aload_n 0, 1) := by decide +kernel
theorem f0_5 : zft 0 5 = some (.bipush 7, 2) := by decide +kernel
theorem f0_7 : zft 0 7 = some (.newarray .int, 2) := by decide +kernel
theorem f0_9 : zft 0 9 = some (.putfield 9, 3) := by decide +kernel
theorem f0_12 : zft 0 12 = some (.aload_n 0, 1) := by decide +kernel
theorem f0_13 : zft 0 13 = some (.bipush 21, 2) := by decide +kernel
theorem f0_15 : zft 0 15 = some (.newarray .int, 2) := by decide +kernel
theorem f0_17 : zft 0 17 = some (.putfield 15, 3) := by decide +kernel
theorem f0_20 : zft 0 20 = some (.aload_n 0, 1) := by decide +kernel
theorem f0_21 : zft 0 21 = some (.bipush 7, 2) := by decide +kernel
theorem f0_23 : zft 0 23 = some (.newarray .boolean, 2) := by decide +kernel
theorem f0_25 : zft 0 25 = some (.putfield 18, 3) := by decide +kernel
theorem f0_28 : zft 0 28 = some (.aload_n 0, 1) := by decide +kernel
theorem f0_29 : zft 0 29 = some (.bipush 7, 2) := by decide +kernel
theorem f0_31 : zft 0 31 = some (.newarray .boolean, 2) := by decide +kernel
theorem f0_33 : zft 0 33 = some (.putfield 22, 3) := by decide +kernel
theorem f0_36 : zft 0 36 = some (.return_, 1) := by decide +kernel
theorem o0 : zo 0 = 0 := by decide +kernel
theorem p0 : zp 0 = 0 := by decide +kernel
theorem n0 : zn 0 = 1 := by decide +kernel
theorem v0 : zr 0 = none := by decide +kernel
theorem f1_0 : zft 1 0 = some (.aload_n 0, 1) := by decide +kernel
theorem f1_1 : zft 1 1 = some (.iload_n 1, 1) := by decide +kernel
theorem f1_2 : zft 1 2 = some (.putfield 25, 3) := by decide +kernel
theorem f1_5 : zft 1 5 = some (.aload_n 0, 1) := by decide +kernel
theorem f1_6 : zft 1 6 = some (.iload_n 2, 1) := by decide +kernel
theorem f1_7 : zft 1 7 = some (.putfield 29, 3) := by decide +kernel
theorem f1_10 : zft 1 10 = some (.aload_n 0, 1) := by decide +kernel
theorem f1_11 : zft 1 11 = some (.getfield 9, 3) := by decide +kernel
theorem f1_14 : zft 1 14 = some (.iconst 0, 1) := by decide +kernel
theorem f1_15 : zft 1 15 = some (.iload_n 3, 1) := by decide +kernel
theorem f1_16 : zft 1 16 = some (.iastore, 1) := by decide +kernel
theorem f1_17 : zft 1 17 = some (.aload_n 0, 1) := by decide +kernel
theorem f1_18 : zft 1 18 = some (.iconst 1, 1) := by decide +kernel
theorem f1_19 : zft 1 19 = some (.putfield 32, 3) := by decide +kernel
theorem f1_22 : zft 1 22 = some (.return_, 1) := by decide +kernel
theorem o1 : zo 1 = 0 := by decide +kernel
theorem p1 : zp 1 = 3 := by decide +kernel
theorem n1 : zn 1 = 4 := by decide +kernel
theorem v1 : zr 1 = none := by decide +kernel
theorem f2_0 : zft 2 0 = some (.iload_n 2, 1) := by decide +kernel
theorem f2_1 : zft 2 1 = some (.istore_n 3, 1) := by decide +kernel
theorem f2_2 : zft 2 2 = some (.iload_n 3, 1) := by decide +kernel
theorem f2_3 : zft 2 3 = some (.aload_n 0, 1) := by decide +kernel
theorem f2_4 : zft 2 4 = some (.getfield 32, 3) := by decide +kernel
theorem f2_7 : zft 2 7 = some (.if_icmp .ge 18, 3) := by decide +kernel
theorem f2_10 : zft 2 10 = some (.aload_n 0, 1) := by decide +kernel
theorem f2_11 : zft 2 11 = some (.getfield 9, 3) := by decide +kernel
theorem f2_14 : zft 2 14 = some (.iload_n 3, 1) := by decide +kernel
theorem f2_15 : zft 2 15 = some (.aload_n 1, 1) := by decide +kernel
theorem f2_16 : zft 2 16 = some (.iload_n 3, 1) := by decide +kernel
theorem f2_17 : zft 2 17 = some (.iaload, 1) := by decide +kernel
theorem f2_18 : zft 2 18 = some (.iastore, 1) := by decide +kernel
theorem f2_19 : zft 2 19 = some (.iinc 3 1, 3) := by decide +kernel
theorem f2_22 : zft 2 22 = some (.goto (-20), 3) := by decide +kernel
theorem f2_25 : zft 2 25 = some (.return_, 1) := by decide +kernel
theorem o2 : zo 2 = 0 := by decide +kernel
theorem p2 : zp 2 = 2 := by decide +kernel
theorem n2 : zn 2 = 4 := by decide +kernel
theorem v2 : zr 2 = none := by decide +kernel
theorem f3_0 : zft 3 0 = some (.iconst 0, 1) := by decide +kernel
theorem f3_1 : zft 3 1 = some (.istore_n 2, 1) := by decide +kernel
theorem f3_2 : zft 3 2 = some (.iconst 0, 1) := by decide +kernel
theorem f3_3 : zft 3 3 = some (.istore_n 3, 1) := by decide +kernel
theorem f3_4 : zft 3 4 = some (.iload_n 3, 1) := by decide +kernel
theorem f3_5 : zft 3 5 = some (.iconst 3, 1) := by decide +kernel
theorem f3_6 : zft 3 6 = some (.if_icmp .ge 22, 3) := by decide +kernel
theorem f3_9 : zft 3 9 = some (.iload_n 2, 1) := by decide +kernel
theorem f3_10 : zft 3 10 = some (.aload_n 0, 1) := by decide +kernel
theorem f3_11 : zft 3 11 = some (.getfield 15, 3) := by decide +kernel
theorem f3_14 : zft 3 14 = some (.iload_n 1, 1) := by decide +kernel
theorem f3_15 : zft 3 15 = some (.iconst 3, 1) := by decide +kernel
theorem f3_16 : zft 3 16 = some (.imul, 1) := by decide +kernel
theorem f3_17 : zft 3 17 = some (.iload_n 3, 1) := by decide +kernel
theorem f3_18 : zft 3 18 = some (.iadd, 1) := by decide +kernel
theorem f3_19 : zft 3 19 = some (.iaload, 1) := by decide +kernel
theorem f3_20 : zft 3 20 = some (.iadd, 1) := by decide +kernel
theorem f3_21 : zft 3 21 = some (.istore_n 2, 1) := by decide +kernel
theorem f3_22 : zft 3 22 = some (.iinc 3 1, 3) := by decide +kernel
theorem f3_25 : zft 3 25 = some (.goto (-21), 3) := by decide +kernel
theorem f3_28 : zft 3 28 = some (.iload_n 2, 1) := by decide +kernel
theorem f3_29 : zft 3 29 = some (.ifCond .le 7, 3) := by decide +kernel
theorem f3_32 : zft 3 32 = some (.iconst 1, 1) := by decide +kernel
theorem f3_33 : zft 3 33 = some (.goto 4, 3) := by decide +kernel
theorem f3_36 : zft 3 36 = some (.iconst 0, 1) := by decide +kernel
theorem f3_37 : zft 3 37 = some (.ireturn, 1) := by decide +kernel
theorem o3 : zo 3 = 0 := by decide +kernel
theorem p3 : zp 3 = 1 := by decide +kernel
theorem n3 : zn 3 = 4 := by decide +kernel
theorem v3 : zr 3 = (some .boolean) := by decide +kernel
theorem f4_0 : zft 4 0 = some (.iload_n 1, 1) := by decide +kernel
theorem f4_1 : zft 4 1 = some (.aload_n 0, 1) := by decide +kernel
theorem f4_2 : zft 4 2 = some (.getfield 29, 3) := by decide +kernel
theorem f4_5 : zft 4 5 = some (.isub, 1) := by decide +kernel
theorem f4_6 : zft 4 6 = some (.iconst 0, 1) := by decide +kernel
theorem f4_7 : zft 4 7 = some (.aload_n 0, 1) := by decide +kernel
theorem f4_8 : zft 4 8 = some (.getfield 32, 3) := by decide +kernel
theorem f4_11 : zft 4 11 = some (.iconst 1, 1) := by decide +kernel
theorem f4_12 : zft 4 12 = some (.isub, 1) := by decide +kernel
theorem f4_13 : zft 4 13 = some (.invokestatic 35, 3) := by decide +kernel
theorem f4_16 : zft 4 16 = some (.ireturn, 1) := by decide +kernel
theorem o4 : zo 4 = 0 := by decide +kernel
theorem p4 : zp 4 = 1 := by decide +kernel
theorem n4 : zn 4 = 2 := by decide +kernel
theorem v4 : zr 4 = (some .boolean) := by decide +kernel
theorem f5_0 : zft 5 0 = some (.aload_n 0, 1) := by decide +kernel
theorem f5_1 : zft 5 1 = some (.iload_n 1, 1) := by decide +kernel
theorem f5_2 : zft 5 2 = some (.invokevirtual 39, 3) := by decide +kernel
theorem f5_5 : zft 5 5 = some (.ifCond .eq 20, 3) := by decide +kernel
theorem f5_8 : zft 5 8 = some (.aload_n 0, 1) := by decide +kernel
theorem f5_9 : zft 5 9 = some (.iload_n 1, 1) := by decide +kernel
theorem f5_10 : zft 5 10 = some (.aload_n 0, 1) := by decide +kernel
theorem f5_11 : zft 5 11 = some (.getfield 29, 3) := by decide +kernel
theorem f5_14 : zft 5 14 = some (.isub, 1) := by decide +kernel
theorem f5_15 : zft 5 15 = some (.invokevirtual 43, 3) := by decide +kernel
theorem f5_18 : zft 5 18 = some (.ifCond .eq 7, 3) := by decide +kernel
theorem f5_21 : zft 5 21 = some (.iconst 1, 1) := by decide +kernel
theorem f5_22 : zft 5 22 = some (.goto 4, 3) := by decide +kernel
theorem f5_25 : zft 5 25 = some (.iconst 0, 1) := by decide +kernel
theorem f5_26 : zft 5 26 = some (.ireturn, 1) := by decide +kernel
theorem o5 : zo 5 = 0 := by decide +kernel
theorem p5 : zp 5 = 1 := by decide +kernel
theorem n5 : zn 5 = 2 := by decide +kernel
theorem v5 : zr 5 = (some .boolean) := by decide +kernel
theorem f6_0 : zft 6 0 = some (.aload_n 0, 1) := by decide +kernel
theorem f6_1 : zft 6 1 = some (.iload_n 2, 1) := by decide +kernel
theorem f6_2 : zft 6 2 = some (.invokevirtual 46, 3) := by decide +kernel
theorem f6_5 : zft 6 5 = some (.ifCond .eq 22, 3) := by decide +kernel
theorem f6_8 : zft 6 8 = some (.aload_n 0, 1) := by decide +kernel
theorem f6_9 : zft 6 9 = some (.getfield 9, 3) := by decide +kernel
theorem f6_12 : zft 6 12 = some (.iload_n 2, 1) := by decide +kernel
theorem f6_13 : zft 6 13 = some (.aload_n 0, 1) := by decide +kernel
theorem f6_14 : zft 6 14 = some (.getfield 29, 3) := by decide +kernel
theorem f6_17 : zft 6 17 = some (.isub, 1) := by decide +kernel
theorem f6_18 : zft 6 18 = some (.iaload, 1) := by decide +kernel
theorem f6_19 : zft 6 19 = some (.iload_n 1, 1) := by decide +kernel
theorem f6_20 : zft 6 20 = some (.if_icmp .ne 7, 3) := by decide +kernel
theorem f6_23 : zft 6 23 = some (.iconst 1, 1) := by decide +kernel
theorem f6_24 : zft 6 24 = some (.goto 4, 3) := by decide +kernel
theorem f6_27 : zft 6 27 = some (.iconst 0, 1) := by decide +kernel
theorem f6_28 : zft 6 28 = some (.ireturn, 1) := by decide +kernel
theorem o6 : zo 6 = 0 := by decide +kernel
theorem p6 : zp 6 = 2 := by decide +kernel
theorem n6 : zn 6 = 3 := by decide +kernel
theorem v6 : zr 6 = (some .boolean) := by decide +kernel
theorem f7_0 : zft 7 0 = some (.iload_n 2, 1) := by decide +kernel
theorem f7_1 : zft 7 1 = some (.istore 4, 2) := by decide +kernel
theorem f7_3 : zft 7 3 = some (.iload 4, 2) := by decide +kernel
theorem f7_5 : zft 7 5 = some (.iload_n 3, 1) := by decide +kernel
theorem f7_6 : zft 7 6 = some (.if_icmp .gt 21, 3) := by decide +kernel
theorem f7_9 : zft 7 9 = some (.aload_n 0, 1) := by decide +kernel
theorem f7_10 : zft 7 10 = some (.iload_n 1, 1) := by decide +kernel
theorem f7_11 : zft 7 11 = some (.iload 4, 2) := by decide +kernel
theorem f7_13 : zft 7 13 = some (.invokevirtual 49, 3) := by decide +kernel
theorem f7_16 : zft 7 16 = some (.ifCond .eq 5, 3) := by decide +kernel
theorem f7_19 : zft 7 19 = some (.iconst 1, 1) := by decide +kernel
theorem f7_20 : zft 7 20 = some (.ireturn, 1) := by decide +kernel
theorem f7_21 : zft 7 21 = some (.iinc 4 1, 3) := by decide +kernel
theorem f7_24 : zft 7 24 = some (.goto (-21), 3) := by decide +kernel
theorem f7_27 : zft 7 27 = some (.iconst 0, 1) := by decide +kernel
theorem f7_28 : zft 7 28 = some (.ireturn, 1) := by decide +kernel
theorem o7 : zo 7 = 0 := by decide +kernel
theorem p7 : zp 7 = 3 := by decide +kernel
theorem n7 : zn 7 = 5 := by decide +kernel
theorem v7 : zr 7 = (some .boolean) := by decide +kernel
theorem f8_0 : zft 8 0 = some (.aload_n 0, 1) := by decide +kernel
theorem f8_1 : zft 8 1 = some (.iload_n 1, 1) := by decide +kernel
theorem f8_2 : zft 8 2 = some (.invokevirtual 39, 3) := by decide +kernel
theorem f8_5 : zft 8 5 = some (.ifCond .eq 17, 3) := by decide +kernel
theorem f8_8 : zft 8 8 = some (.aload_n 0, 1) := by decide +kernel
theorem f8_9 : zft 8 9 = some (.getfield 18, 3) := by decide +kernel
theorem f8_12 : zft 8 12 = some (.iload_n 1, 1) := by decide +kernel
theorem f8_13 : zft 8 13 = some (.aload_n 0, 1) := by decide +kernel
theorem f8_14 : zft 8 14 = some (.getfield 29, 3) := by decide +kernel
theorem f8_17 : zft 8 17 = some (.isub, 1) := by decide +kernel
theorem f8_18 : zft 8 18 = some (.baload, 1) := by decide +kernel
theorem f8_19 : zft 8 19 = some (.ifCond .ne 5, 3) := by decide +kernel
theorem f8_22 : zft 8 22 = some (.iconst 0, 1) := by decide +kernel
theorem f8_23 : zft 8 23 = some (.ireturn, 1) := by decide +kernel
theorem f8_24 : zft 8 24 = some (.aload_n 0, 1) := by decide +kernel
theorem f8_25 : zft 8 25 = some (.getfield 22, 3) := by decide +kernel
theorem f8_28 : zft 8 28 = some (.iload_n 1, 1) := by decide +kernel
theorem f8_29 : zft 8 29 = some (.aload_n 0, 1) := by decide +kernel
theorem f8_30 : zft 8 30 = some (.getfield 29, 3) := by decide +kernel
theorem f8_33 : zft 8 33 = some (.isub, 1) := by decide +kernel
theorem f8_34 : zft 8 34 = some (.iconst 1, 1) := by decide +kernel
theorem f8_35 : zft 8 35 = some (.bastore, 1) := by decide +kernel
theorem f8_36 : zft 8 36 = some (.iconst 1, 1) := by decide +kernel
theorem f8_37 : zft 8 37 = some (.ireturn, 1) := by decide +kernel
theorem o8 : zo 8 = 0 := by decide +kernel
theorem p8 : zp 8 = 1 := by decide +kernel
theorem n8 : zn 8 = 2 := by decide +kernel
theorem v8 : zr 8 = (some .boolean) := by decide +kernel
theorem f9_0 : zft 9 0 = some (.aload_n 0, 1) := by decide +kernel
theorem f9_1 : zft 9 1 = some (.iload_n 2, 1) := by decide +kernel
theorem f9_2 : zft 9 2 = some (.invokevirtual 39, 3) := by decide +kernel
theorem f9_5 : zft 9 5 = some (.ifCond .eq 36, 3) := by decide +kernel
theorem f9_8 : zft 9 8 = some (.aload_n 0, 1) := by decide +kernel
theorem f9_9 : zft 9 9 = some (.getfield 22, 3) := by decide +kernel
theorem f9_12 : zft 9 12 = some (.iload_n 2, 1) := by decide +kernel
theorem f9_13 : zft 9 13 = some (.aload_n 0, 1) := by decide +kernel
theorem f9_14 : zft 9 14 = some (.getfield 29, 3) := by decide +kernel
theorem f9_17 : zft 9 17 = some (.isub, 1) := by decide +kernel
theorem f9_18 : zft 9 18 = some (.baload, 1) := by decide +kernel
theorem f9_19 : zft 9 19 = some (.ifCond .eq 22, 3) := by decide +kernel
theorem f9_22 : zft 9 22 = some (.aload_n 0, 1) := by decide +kernel
theorem f9_23 : zft 9 23 = some (.getfield 9, 3) := by decide +kernel
theorem f9_26 : zft 9 26 = some (.iload_n 2, 1) := by decide +kernel
theorem f9_27 : zft 9 27 = some (.aload_n 0, 1) := by decide +kernel
theorem f9_28 : zft 9 28 = some (.getfield 29, 3) := by decide +kernel
theorem f9_31 : zft 9 31 = some (.isub, 1) := by decide +kernel
theorem f9_32 : zft 9 32 = some (.iaload, 1) := by decide +kernel
theorem f9_33 : zft 9 33 = some (.iload_n 1, 1) := by decide +kernel
theorem f9_34 : zft 9 34 = some (.if_icmp .ne 7, 3) := by decide +kernel
theorem f9_37 : zft 9 37 = some (.iconst 1, 1) := by decide +kernel
theorem f9_38 : zft 9 38 = some (.goto 4, 3) := by decide +kernel
theorem f9_41 : zft 9 41 = some (.iconst 0, 1) := by decide +kernel
theorem f9_42 : zft 9 42 = some (.ireturn, 1) := by decide +kernel
theorem o9 : zo 9 = 0 := by decide +kernel
theorem p9 : zp 9 = 2 := by decide +kernel
theorem n9 : zn 9 = 3 := by decide +kernel
theorem v9 : zr 9 = (some .boolean) := by decide +kernel
theorem f10_0 : zft 10 0 = some (.iconst 0, 1) := by decide +kernel
theorem f10_1 : zft 10 1 = some (.istore_n 1, 1) := by decide +kernel
theorem f10_2 : zft 10 2 = some (.iconst 0, 1) := by decide +kernel
theorem f10_3 : zft 10 3 = some (.istore_n 2, 1) := by decide +kernel
theorem f10_4 : zft 10 4 = some (.iload_n 2, 1) := by decide +kernel
theorem f10_5 : zft 10 5 = some (.aload_n 0, 1) := by decide +kernel
theorem f10_6 : zft 10 6 = some (.getfield 32, 3) := by decide +kernel
theorem f10_9 : zft 10 9 = some (.if_icmp .ge 21, 3) := by decide +kernel
theorem f10_12 : zft 10 12 = some (.aload_n 0, 1) := by decide +kernel
theorem f10_13 : zft 10 13 = some (.getfield 22, 3) := by decide +kernel
theorem f10_16 : zft 10 16 = some (.iload_n 2, 1) := by decide +kernel
theorem f10_17 : zft 10 17 = some (.baload, 1) := by decide +kernel
theorem f10_18 : zft 10 18 = some (.ifCond .eq 6, 3) := by decide +kernel
theorem f10_21 : zft 10 21 = some (.iinc 1 1, 3) := by decide +kernel
theorem f10_24 : zft 10 24 = some (.iinc 2 1, 3) := by decide +kernel
theorem f10_27 : zft 10 27 = some (.goto (-23), 3) := by decide +kernel
theorem f10_30 : zft 10 30 = some (.iload_n 1, 1) := by decide +kernel
theorem f10_31 : zft 10 31 = some (.ireturn, 1) := by decide +kernel
theorem o10 : zo 10 = 0 := by decide +kernel
theorem p10 : zp 10 = 0 := by decide +kernel
theorem n10 : zn 10 = 3 := by decide +kernel
theorem v10 : zr 10 = (some .int) := by decide +kernel
theorem f11_0 : zft 11 0 = some (.aload_n 0, 1) := by decide +kernel
theorem f11_1 : zft 11 1 = some (.getfield 53, 3) := by decide +kernel
theorem f11_4 : zft 11 4 = some (.aload_n 1, 1) := by decide +kernel
theorem f11_5 : zft 11 5 = some (.getfield 25, 3) := by decide +kernel
theorem f11_8 : zft 11 8 = some (.imul, 1) := by decide +kernel
theorem f11_9 : zft 11 9 = some (.aload_n 1, 1) := by decide +kernel
theorem f11_10 : zft 11 10 = some (.getfield 53, 3) := by decide +kernel
theorem f11_13 : zft 11 13 = some (.aload_n 0, 1) := by decide +kernel
theorem f11_14 : zft 11 14 = some (.getfield 25, 3) := by decide +kernel
theorem f11_17 : zft 11 17 = some (.imul, 1) := by decide +kernel
theorem f11_18 : zft 11 18 = some (.if_icmp .ge 7, 3) := by decide +kernel
theorem f11_21 : zft 11 21 = some (.iconst 1, 1) := by decide +kernel
theorem f11_22 : zft 11 22 = some (.goto 4, 3) := by decide +kernel
theorem f11_25 : zft 11 25 = some (.iconst 0, 1) := by decide +kernel
theorem f11_26 : zft 11 26 = some (.ireturn, 1) := by decide +kernel
theorem o11 : zo 11 = 0 := by decide +kernel
theorem p11 : zp 11 = 1 := by decide +kernel
theorem n11 : zn 11 = 2 := by decide +kernel
theorem v11 : zr 11 = (some .boolean) := by decide +kernel
theorem f12_0 : zft 12 0 = some (.aload_n 0, 1) := by decide +kernel
theorem f12_1 : zft 12 1 = some (.invokespecial 3, 3) := by decide +kernel
theorem f12_4 : zft 12 4 = some (.aload_n 0, 1) := by decide +kernel
theorem f12_5 : zft 12 5 = some (.bipush 120, 2) := by decide +kernel
theorem f12_7 : zft 12 7 = some (.newarray .int, 2) := by decide +kernel
theorem f12_9 : zft 12 9 = some (.putfield 9, 3) := by decide +kernel
theorem f12_12 : zft 12 12 = some (.aload_n 0, 1) := by decide +kernel
theorem f12_13 : zft 12 13 = some (.bipush 40, 2) := by decide +kernel
theorem f12_15 : zft 12 15 = some (.newarray .boolean, 2) := by decide +kernel
theorem f12_17 : zft 12 17 = some (.putfield 15, 3) := by decide +kernel
theorem f12_20 : zft 12 20 = some (.aload_n 0, 1) := by decide +kernel
theorem f12_21 : zft 12 21 = some (.bipush 12, 2) := by decide +kernel
theorem f12_23 : zft 12 23 = some (.newarray .int, 2) := by decide +kernel
theorem f12_25 : zft 12 25 = some (.putfield 19, 3) := by decide +kernel
theorem f12_28 : zft 12 28 = some (.return_, 1) := by decide +kernel
theorem o12 : zo 12 = 1 := by decide +kernel
theorem p12 : zp 12 = 0 := by decide +kernel
theorem n12 : zn 12 = 1 := by decide +kernel
theorem v12 : zr 12 = none := by decide +kernel
theorem f13_0 : zft 13 0 = some (.iconst 0, 1) := by decide +kernel
theorem f13_1 : zft 13 1 = some (.istore_n 3, 1) := by decide +kernel
theorem f13_2 : zft 13 2 = some (.iload_n 3, 1) := by decide +kernel
theorem f13_3 : zft 13 3 = some (.bipush 40, 2) := by decide +kernel
theorem f13_5 : zft 13 5 = some (.if_icmp .ge 20, 3) := by decide +kernel
theorem f13_8 : zft 13 8 = some (.aload_n 0, 1) := by decide +kernel
theorem f13_9 : zft 13 9 = some (.getfield 9, 3) := by decide +kernel
theorem f13_12 : zft 13 12 = some (.iload_n 3, 1) := by decide +kernel
theorem f13_13 : zft 13 13 = some (.iconst 3, 1) := by decide +kernel
theorem f13_14 : zft 13 14 = some (.imul, 1) := by decide +kernel
theorem f13_15 : zft 13 15 = some (.iload_n 1, 1) := by decide +kernel
theorem f13_16 : zft 13 16 = some (.iadd, 1) := by decide +kernel
theorem f13_17 : zft 13 17 = some (.iload_n 2, 1) := by decide +kernel
theorem f13_18 : zft 13 18 = some (.iastore, 1) := by decide +kernel
theorem f13_19 : zft 13 19 = some (.iinc 3 1, 3) := by decide +kernel
theorem f13_22 : zft 13 22 = some (.goto (-20), 3) := by decide +kernel
theorem f13_25 : zft 13 25 = some (.return_, 1) := by decide +kernel
theorem o13 : zo 13 = 1 := by decide +kernel
theorem p13 : zp 13 = 2 := by decide +kernel
theorem n13 : zn 13 = 4 := by decide +kernel
theorem v13 : zr 13 = none := by decide +kernel
theorem f14_0 : zft 14 0 = some (.iconst 0, 1) := by decide +kernel
theorem f14_1 : zft 14 1 = some (.istore_n 2, 1) := by decide +kernel
theorem f14_2 : zft 14 2 = some (.iconst 0, 1) := by decide +kernel
theorem f14_3 : zft 14 3 = some (.istore_n 3, 1) := by decide +kernel
theorem f14_4 : zft 14 4 = some (.iload_n 3, 1) := by decide +kernel
theorem f14_5 : zft 14 5 = some (.iconst 3, 1) := by decide +kernel
theorem f14_6 : zft 14 6 = some (.if_icmp .ge 22, 3) := by decide +kernel
theorem f14_9 : zft 14 9 = some (.iload_n 2, 1) := by decide +kernel
theorem f14_10 : zft 14 10 = some (.aload_n 0, 1) := by decide +kernel
theorem f14_11 : zft 14 11 = some (.getfield 9, 3) := by decide +kernel
theorem f14_14 : zft 14 14 = some (.iload_n 1, 1) := by decide +kernel
theorem f14_15 : zft 14 15 = some (.iconst 3, 1) := by decide +kernel
theorem f14_16 : zft 14 16 = some (.imul, 1) := by decide +kernel
theorem f14_17 : zft 14 17 = some (.iload_n 3, 1) := by decide +kernel
theorem f14_18 : zft 14 18 = some (.iadd, 1) := by decide +kernel
theorem f14_19 : zft 14 19 = some (.iaload, 1) := by decide +kernel
theorem f14_20 : zft 14 20 = some (.iadd, 1) := by decide +kernel
theorem f14_21 : zft 14 21 = some (.istore_n 2, 1) := by decide +kernel
theorem f14_22 : zft 14 22 = some (.iinc 3 1, 3) := by decide +kernel
theorem f14_25 : zft 14 25 = some (.goto (-21), 3) := by decide +kernel
theorem f14_28 : zft 14 28 = some (.iload_n 2, 1) := by decide +kernel
theorem f14_29 : zft 14 29 = some (.ireturn, 1) := by decide +kernel
theorem o14 : zo 14 = 1 := by decide +kernel
theorem p14 : zp 14 = 1 := by decide +kernel
theorem n14 : zn 14 = 4 := by decide +kernel
theorem v14 : zr 14 = (some .int) := by decide +kernel
theorem f15_0 : zft 15 0 = some (.aload_n 0, 1) := by decide +kernel
theorem f15_1 : zft 15 1 = some (.getfield 15, 3) := by decide +kernel
theorem f15_4 : zft 15 4 = some (.iload_n 1, 1) := by decide +kernel
theorem f15_5 : zft 15 5 = some (.baload, 1) := by decide +kernel
theorem f15_6 : zft 15 6 = some (.ifCond .ne 16, 3) := by decide +kernel
theorem f15_9 : zft 15 9 = some (.aload_n 0, 1) := by decide +kernel
theorem f15_10 : zft 15 10 = some (.iload_n 1, 1) := by decide +kernel
theorem f15_11 : zft 15 11 = some (.invokevirtual 22, 3) := by decide +kernel
theorem f15_14 : zft 15 14 = some (.iload_n 2, 1) := by decide +kernel
theorem f15_15 : zft 15 15 = some (.if_icmp .lt 7, 3) := by decide +kernel
theorem f15_18 : zft 15 18 = some (.iconst 1, 1) := by decide +kernel
theorem f15_19 : zft 15 19 = some (.goto 4, 3) := by decide +kernel
theorem f15_22 : zft 15 22 = some (.iconst 0, 1) := by decide +kernel
theorem f15_23 : zft 15 23 = some (.ireturn, 1) := by decide +kernel
theorem o15 : zo 15 = 1 := by decide +kernel
theorem p15 : zp 15 = 2 := by decide +kernel
theorem n15 : zn 15 = 3 := by decide +kernel
theorem v15 : zr 15 = (some .boolean) := by decide +kernel
theorem f16_0 : zft 16 0 = some (.iload_n 1, 1) := by decide +kernel
theorem f16_1 : zft 16 1 = some (.istore_n 3, 1) := by decide +kernel
theorem f16_2 : zft 16 2 = some (.iload_n 3, 1) := by decide +kernel
theorem f16_3 : zft 16 3 = some (.iload_n 2, 1) := by decide +kernel
theorem f16_4 : zft 16 4 = some (.if_icmp .gt 16, 3) := by decide +kernel
theorem f16_7 : zft 16 7 = some (.aload_n 0, 1) := by decide +kernel
theorem f16_8 : zft 16 8 = some (.getfield 15, 3) := by decide +kernel
theorem f16_11 : zft 16 11 = some (.iload_n 3, 1) := by decide +kernel
theorem f16_12 : zft 16 12 = some (.iconst 1, 1) := by decide +kernel
theorem f16_13 : zft 16 13 = some (.bastore, 1) := by decide +kernel
theorem f16_14 : zft 16 14 = some (.iinc 3 1, 3) := by decide +kernel
theorem f16_17 : zft 16 17 = some (.goto (-15), 3) := by decide +kernel
theorem f16_20 : zft 16 20 = some (.return_, 1) := by decide +kernel
theorem o16 : zo 16 = 1 := by decide +kernel
theorem p16 : zp 16 = 2 := by decide +kernel
theorem n16 : zn 16 = 4 := by decide +kernel
theorem v16 : zr 16 = none := by decide +kernel
theorem f17_0 : zft 17 0 = some (.iconst 0, 1) := by decide +kernel
theorem f17_1 : zft 17 1 = some (.istore_n 3, 1) := by decide +kernel
theorem f17_2 : zft 17 2 = some (.iconst 0, 1) := by decide +kernel
theorem f17_3 : zft 17 3 = some (.istore 4, 2) := by decide +kernel
theorem f17_5 : zft 17 5 = some (.iload 4, 2) := by decide +kernel
theorem f17_7 : zft 17 7 = some (.iconst 3, 1) := by decide +kernel
theorem f17_8 : zft 17 8 = some (.if_icmp .ge 33, 3) := by decide +kernel
theorem f17_11 : zft 17 11 = some (.iload_n 1, 1) := by decide +kernel
theorem f17_12 : zft 17 12 = some (.iload 4, 2) := by decide +kernel
theorem f17_14 : zft 17 14 = some (.ishr, 1) := by decide +kernel
theorem f17_15 : zft 17 15 = some (.iconst 1, 1) := by decide +kernel
theorem f17_16 : zft 17 16 = some (.iand, 1) := by decide +kernel
theorem f17_17 : zft 17 17 = some (.iconst 1, 1) := by decide +kernel
theorem f17_18 : zft 17 18 = some (.if_icmp .ne 17, 3) := by decide +kernel
theorem f17_21 : zft 17 21 = some (.iload_n 3, 1) := by decide +kernel
theorem f17_22 : zft 17 22 = some (.aload_n 0, 1) := by decide +kernel
theorem f17_23 : zft 17 23 = some (.getfield 9, 3) := by decide +kernel
theorem f17_26 : zft 17 26 = some (.iload_n 2, 1) := by decide +kernel
theorem f17_27 : zft 17 27 = some (.iconst 3, 1) := by decide +kernel
theorem f17_28 : zft 17 28 = some (.imul, 1) := by decide +kernel
theorem f17_29 : zft 17 29 = some (.iload 4, 2) := by decide +kernel
theorem f17_31 : zft 17 31 = some (.iadd, 1) := by decide +kernel
theorem f17_32 : zft 17 32 = some (.iaload, 1) := by decide +kernel
theorem f17_33 : zft 17 33 = some (.iadd, 1) := by decide +kernel
theorem f17_34 : zft 17 34 = some (.istore_n 3, 1) := by decide +kernel
theorem f17_35 : zft 17 35 = some (.iinc 4 1, 3) := by decide +kernel
theorem f17_38 : zft 17 38 = some (.goto (-33), 3) := by decide +kernel
theorem f17_41 : zft 17 41 = some (.iload_n 3, 1) := by decide +kernel
theorem f17_42 : zft 17 42 = some (.ireturn, 1) := by decide +kernel
theorem o17 : zo 17 = 1 := by decide +kernel
theorem p17 : zp 17 = 2 := by decide +kernel
theorem n17 : zn 17 = 5 := by decide +kernel
theorem v17 : zr 17 = (some .int) := by decide +kernel
theorem f18_0 : zft 18 0 = some (.iconst 0, 1) := by decide +kernel
theorem f18_1 : zft 18 1 = some (.istore_n 3, 1) := by decide +kernel
theorem f18_2 : zft 18 2 = some (.iload_n 3, 1) := by decide +kernel
theorem f18_3 : zft 18 3 = some (.getstatic 26, 3) := by decide +kernel
theorem f18_6 : zft 18 6 = some (.arraylength, 1) := by decide +kernel
theorem f18_7 : zft 18 7 = some (.if_icmp .ge 29, 3) := by decide +kernel
theorem f18_10 : zft 18 10 = some (.aload_n 0, 1) := by decide +kernel
theorem f18_11 : zft 18 11 = some (.getstatic 26, 3) := by decide +kernel
theorem f18_14 : zft 18 14 = some (.iload_n 3, 1) := by decide +kernel
theorem f18_15 : zft 18 15 = some (.iaload, 1) := by decide +kernel
theorem f18_16 : zft 18 16 = some (.iload_n 1, 1) := by decide +kernel
theorem f18_17 : zft 18 17 = some (.invokevirtual 29, 3) := by decide +kernel
theorem f18_20 : zft 18 20 = some (.iload_n 2, 1) := by decide +kernel
theorem f18_21 : zft 18 21 = some (.if_icmp .lt 9, 3) := by decide +kernel
theorem f18_24 : zft 18 24 = some (.getstatic 26, 3) := by decide +kernel
theorem f18_27 : zft 18 27 = some (.iload_n 3, 1) := by decide +kernel
theorem f18_28 : zft 18 28 = some (.iaload, 1) := by decide +kernel
theorem f18_29 : zft 18 29 = some (.ireturn, 1) := by decide +kernel
theorem f18_30 : zft 18 30 = some (.iinc 3 1, 3) := by decide +kernel
theorem f18_33 : zft 18 33 = some (.goto (-31), 3) := by decide +kernel
theorem f18_36 : zft 18 36 = some (.iconst 0, 1) := by decide +kernel
theorem f18_37 : zft 18 37 = some (.ireturn, 1) := by decide +kernel
theorem o18 : zo 18 = 1 := by decide +kernel
theorem p18 : zp 18 = 2 := by decide +kernel
theorem n18 : zn 18 = 4 := by decide +kernel
theorem v18 : zr 18 = (some .int) := by decide +kernel
theorem f19_0 : zft 19 0 = some (.aload_n 0, 1) := by decide +kernel
theorem f19_1 : zft 19 1 = some (.iload_n 1, 1) := by decide +kernel
theorem f19_2 : zft 19 2 = some (.iload_n 2, 1) := by decide +kernel
theorem f19_3 : zft 19 3 = some (.invokevirtual 33, 3) := by decide +kernel
theorem f19_6 : zft 19 6 = some (.istore 5, 2) := by decide +kernel
theorem f19_8 : zft 19 8 = some (.iload_n 2, 1) := by decide +kernel
theorem f19_9 : zft 19 9 = some (.istore 6, 2) := by decide +kernel
theorem f19_11 : zft 19 11 = some (.iconst 0, 1) := by decide +kernel
theorem f19_12 : zft 19 12 = some (.istore 7, 2) := by decide +kernel
theorem f19_14 : zft 19 14 = some (.iload 7, 2) := by decide +kernel
theorem f19_16 : zft 19 16 = some (.iconst 3, 1) := by decide +kernel
theorem f19_17 : zft 19 17 = some (.if_icmp .ge 74, 3) := by decide +kernel
theorem f19_20 : zft 19 20 = some (.iload 5, 2) := by decide +kernel
theorem f19_22 : zft 19 22 = some (.iload 7, 2) := by decide +kernel
theorem f19_24 : zft 19 24 = some (.ishr, 1) := by decide +kernel
theorem f19_25 : zft 19 25 = some (.iconst 1, 1) := by decide +kernel
theorem f19_26 : zft 19 26 = some (.iand, 1) := by decide +kernel
theorem f19_27 : zft 19 27 = some (.iconst 1, 1) := by decide +kernel
theorem f19_28 : zft 19 28 = some (.if_icmp .ne 22, 3) := by decide +kernel
theorem f19_31 : zft 19 31 = some (.iload 6, 2) := by decide +kernel
theorem f19_33 : zft 19 33 = some (.aload_n 0, 1) := by decide +kernel
theorem f19_34 : zft 19 34 = some (.getfield 9, 3) := by decide +kernel
theorem f19_37 : zft 19 37 = some (.iload_n 1, 1) := by decide +kernel
theorem f19_38 : zft 19 38 = some (.iconst 3, 1) := by decide +kernel
theorem f19_39 : zft 19 39 = some (.imul, 1) := by decide +kernel
theorem f19_40 : zft 19 40 = some (.iload 7, 2) := by decide +kernel
theorem f19_42 : zft 19 42 = some (.iadd, 1) := by decide +kernel
theorem f19_43 : zft 19 43 = some (.iaload, 1) := by decide +kernel
theorem f19_44 : zft 19 44 = some (.invokestatic 36, 3) := by decide +kernel
theorem f19_47 : zft 19 47 = some (.goto 4, 3) := by decide +kernel
theorem f19_50 : zft 19 50 = some (.iconst 0, 1) := by decide +kernel
theorem f19_51 : zft 19 51 = some (.istore 8, 2) := by decide +kernel
theorem f19_53 : zft 19 53 = some (.aload_n 0, 1) := by decide +kernel
theorem f19_54 : zft 19 54 = some (.getfield 9, 3) := by decide +kernel
theorem f19_57 : zft 19 57 = some (.iload_n 1, 1) := by decide +kernel
theorem f19_58 : zft 19 58 = some (.iconst 3, 1) := by decide +kernel
theorem f19_59 : zft 19 59 = some (.imul, 1) := by decide +kernel
theorem f19_60 : zft 19 60 = some (.iload 7, 2) := by decide +kernel
theorem f19_62 : zft 19 62 = some (.iadd, 1) := by decide +kernel
theorem f19_63 : zft 19 63 = some (.dup2, 1) := by decide +kernel
theorem f19_64 : zft 19 64 = some (.iaload, 1) := by decide +kernel
theorem f19_65 : zft 19 65 = some (.iload 8, 2) := by decide +kernel
theorem f19_67 : zft 19 67 = some (.isub, 1) := by decide +kernel
theorem f19_68 : zft 19 68 = some (.iastore, 1) := by decide +kernel
theorem f19_69 : zft 19 69 = some (.aload_n 3, 1) := by decide +kernel
theorem f19_70 : zft 19 70 = some (.iload 4, 2) := by decide +kernel
theorem f19_72 : zft 19 72 = some (.iload 7, 2) := by decide +kernel
theorem f19_74 : zft 19 74 = some (.iadd, 1) := by decide +kernel
theorem f19_75 : zft 19 75 = some (.iload 8, 2) := by decide +kernel
theorem f19_77 : zft 19 77 = some (.iastore, 1) := by decide +kernel
theorem f19_78 : zft 19 78 = some (.iload 6, 2) := by decide +kernel
theorem f19_80 : zft 19 80 = some (.iload 8, 2) := by decide +kernel
theorem f19_82 : zft 19 82 = some (.isub, 1) := by decide +kernel
theorem f19_83 : zft 19 83 = some (.istore 6, 2) := by decide +kernel
theorem f19_85 : zft 19 85 = some (.iinc 7 1, 3) := by decide +kernel
theorem f19_88 : zft 19 88 = some (.goto (-74), 3) := by decide +kernel
theorem f19_91 : zft 19 91 = some (.return_, 1) := by decide +kernel
theorem o19 : zo 19 = 1 := by decide +kernel
theorem p19 : zp 19 = 4 := by decide +kernel
theorem n19 : zn 19 = 9 := by decide +kernel
theorem v19 : zr 19 = none := by decide +kernel
theorem f20_0 : zft 20 0 = some (.iconst 0, 1) := by decide +kernel
theorem f20_1 : zft 20 1 = some (.istore 4, 2) := by decide +kernel
theorem f20_3 : zft 20 3 = some (.iload 4, 2) := by decide +kernel
theorem f20_5 : zft 20 5 = some (.iconst 3, 1) := by decide +kernel
theorem f20_6 : zft 20 6 = some (.if_icmp .ge 36, 3) := by decide +kernel
theorem f20_9 : zft 20 9 = some (.aload_n 0, 1) := by decide +kernel
theorem f20_10 : zft 20 10 = some (.getfield 9, 3) := by decide +kernel
theorem f20_13 : zft 20 13 = some (.iload_n 1, 1) := by decide +kernel
theorem f20_14 : zft 20 14 = some (.iconst 3, 1) := by decide +kernel
theorem f20_15 : zft 20 15 = some (.imul, 1) := by decide +kernel
theorem f20_16 : zft 20 16 = some (.iload 4, 2) := by decide +kernel
theorem f20_18 : zft 20 18 = some (.iadd, 1) := by decide +kernel
theorem f20_19 : zft 20 19 = some (.dup2, 1) := by decide +kernel
theorem f20_20 : zft 20 20 = some (.iaload, 1) := by decide +kernel
theorem f20_21 : zft 20 21 = some (.aload_n 2, 1) := by decide +kernel
theorem f20_22 : zft 20 22 = some (.iload_n 3, 1) := by decide +kernel
theorem f20_23 : zft 20 23 = some (.iload 4, 2) := by decide +kernel
theorem f20_25 : zft 20 25 = some (.iadd, 1) := by decide +kernel
theorem f20_26 : zft 20 26 = some (.iaload, 1) := by decide +kernel
theorem f20_27 : zft 20 27 = some (.iadd, 1) := by decide +kernel
theorem f20_28 : zft 20 28 = some (.iastore, 1) := by decide +kernel
theorem f20_29 : zft 20 29 = some (.aload_n 2, 1) := by decide +kernel
theorem f20_30 : zft 20 30 = some (.iload_n 3, 1) := by decide +kernel
theorem f20_31 : zft 20 31 = some (.iload 4, 2) := by decide +kernel
theorem f20_33 : zft 20 33 = some (.iadd, 1) := by decide +kernel
theorem f20_34 : zft 20 34 = some (.iconst 0, 1) := by decide +kernel
theorem f20_35 : zft 20 35 = some (.iastore, 1) := by decide +kernel
theorem f20_36 : zft 20 36 = some (.iinc 4 1, 3) := by decide +kernel
theorem f20_39 : zft 20 39 = some (.goto (-36), 3) := by decide +kernel
theorem f20_42 : zft 20 42 = some (.return_, 1) := by decide +kernel
theorem o20 : zo 20 = 1 := by decide +kernel
theorem p20 : zp 20 = 3 := by decide +kernel
theorem n20 : zn 20 = 5 := by decide +kernel
theorem v20 : zr 20 = none := by decide +kernel
theorem f21_0 : zft 21 0 = some (.aload_n 0, 1) := by decide +kernel
theorem f21_1 : zft 21 1 = some (.dup, 1) := by decide +kernel
theorem f21_2 : zft 21 2 = some (.getfield 41, 3) := by decide +kernel
theorem f21_5 : zft 21 5 = some (.aload_n 0, 1) := by decide +kernel
theorem f21_6 : zft 21 6 = some (.getfield 45, 3) := by decide +kernel
theorem f21_9 : zft 21 9 = some (.iadd, 1) := by decide +kernel
theorem f21_10 : zft 21 10 = some (.putfield 41, 3) := by decide +kernel
theorem f21_13 : zft 21 13 = some (.aload_n 0, 1) := by decide +kernel
theorem f21_14 : zft 21 14 = some (.iconst 0, 1) := by decide +kernel
theorem f21_15 : zft 21 15 = some (.putfield 45, 3) := by decide +kernel
theorem f21_18 : zft 21 18 = some (.return_, 1) := by decide +kernel
theorem o21 : zo 21 = 1 := by decide +kernel
theorem p21 : zp 21 = 0 := by decide +kernel
theorem n21 : zn 21 = 1 := by decide +kernel
theorem v21 : zr 21 = none := by decide +kernel
theorem f22_0 : zft 22 0 = some (.aload_n 0, 1) := by decide +kernel
theorem f22_1 : zft 22 1 = some (.invokespecial 3, 3) := by decide +kernel
theorem f22_4 : zft 22 4 = some (.aload_n 0, 1) := by decide +kernel
theorem f22_5 : zft 22 5 = some (.bipush 40, 2) := by decide +kernel
theorem f22_7 : zft 22 7 = some (.newarray .int, 2) := by decide +kernel
theorem f22_9 : zft 22 9 = some (.putfield 9, 3) := by decide +kernel
theorem f22_12 : zft 22 12 = some (.aload_n 0, 1) := by decide +kernel
theorem f22_13 : zft 22 13 = some (.bipush 40, 2) := by decide +kernel
theorem f22_15 : zft 22 15 = some (.newarray .int, 2) := by decide +kernel
theorem f22_17 : zft 22 17 = some (.putfield 15, 3) := by decide +kernel
theorem f22_20 : zft 22 20 = some (.aload_n 0, 1) := by decide +kernel
theorem f22_21 : zft 22 21 = some (.bipush 40, 2) := by decide +kernel
theorem f22_23 : zft 22 23 = some (.newarray .int, 2) := by decide +kernel
theorem f22_25 : zft 22 25 = some (.putfield 18, 3) := by decide +kernel
theorem f22_28 : zft 22 28 = some (.aload_n 0, 1) := by decide +kernel
theorem f22_29 : zft 22 29 = some (.bipush 40, 2) := by decide +kernel
theorem f22_31 : zft 22 31 = some (.newarray .boolean, 2) := by decide +kernel
theorem f22_33 : zft 22 33 = some (.putfield 21, 3) := by decide +kernel
theorem f22_36 : zft 22 36 = some (.return_, 1) := by decide +kernel
theorem o22 : zo 22 = 2 := by decide +kernel
theorem p22 : zp 22 = 0 := by decide +kernel
theorem n22 : zn 22 = 1 := by decide +kernel
theorem v22 : zr 22 = none := by decide +kernel
theorem f23_0 : zft 23 0 = some (.aload_n 0, 1) := by decide +kernel
theorem f23_1 : zft 23 1 = some (.getfield 25, 3) := by decide +kernel
theorem f23_4 : zft 23 4 = some (.bipush 40, 2) := by decide +kernel
theorem f23_6 : zft 23 6 = some (.if_icmp .lt 6, 3) := by decide +kernel
theorem f23_9 : zft 23 9 = some (.bipush (-4), 2) := by decide +kernel
theorem f23_11 : zft 23 11 = some (.ireturn, 1) := by decide +kernel
theorem f23_12 : zft 23 12 = some (.aload_n 0, 1) := by decide +kernel
theorem f23_13 : zft 23 13 = some (.getfield 9, 3) := by decide +kernel
theorem f23_16 : zft 23 16 = some (.aload_n 0, 1) := by decide +kernel
theorem f23_17 : zft 23 17 = some (.getfield 25, 3) := by decide +kernel
theorem f23_20 : zft 23 20 = some (.iload_n 1, 1) := by decide +kernel
theorem f23_21 : zft 23 21 = some (.iastore, 1) := by decide +kernel
theorem f23_22 : zft 23 22 = some (.aload_n 0, 1) := by decide +kernel
theorem f23_23 : zft 23 23 = some (.getfield 15, 3) := by decide +kernel
theorem f23_26 : zft 23 26 = some (.aload_n 0, 1) := by decide +kernel
theorem f23_27 : zft 23 27 = some (.getfield 25, 3) := by decide +kernel
theorem f23_30 : zft 23 30 = some (.iload_n 2, 1) := by decide +kernel
theorem f23_31 : zft 23 31 = some (.iastore, 1) := by decide +kernel
theorem f23_32 : zft 23 32 = some (.aload_n 0, 1) := by decide +kernel
theorem f23_33 : zft 23 33 = some (.getfield 18, 3) := by decide +kernel
theorem f23_36 : zft 23 36 = some (.aload_n 0, 1) := by decide +kernel
theorem f23_37 : zft 23 37 = some (.getfield 25, 3) := by decide +kernel
theorem f23_40 : zft 23 40 = some (.iload_n 3, 1) := by decide +kernel
theorem f23_41 : zft 23 41 = some (.iastore, 1) := by decide +kernel
theorem f23_42 : zft 23 42 = some (.aload_n 0, 1) := by decide +kernel
theorem f23_43 : zft 23 43 = some (.dup, 1) := by decide +kernel
theorem f23_44 : zft 23 44 = some (.getfield 25, 3) := by decide +kernel
theorem f23_47 : zft 23 47 = some (.iconst 1, 1) := by decide +kernel
theorem f23_48 : zft 23 48 = some (.iadd, 1) := by decide +kernel
theorem f23_49 : zft 23 49 = some (.putfield 25, 3) := by decide +kernel
theorem f23_52 : zft 23 52 = some (.aload_n 0, 1) := by decide +kernel
theorem f23_53 : zft 23 53 = some (.getfield 25, 3) := by decide +kernel
theorem f23_56 : zft 23 56 = some (.ireturn, 1) := by decide +kernel
theorem o23 : zo 23 = 2 := by decide +kernel
theorem p23 : zp 23 = 3 := by decide +kernel
theorem n23 : zn 23 = 4 := by decide +kernel
theorem v23 : zr 23 = (some .int) := by decide +kernel
theorem f24_0 : zft 24 0 = some (.iconst (-1), 1) := by decide +kernel
theorem f24_1 : zft 24 1 = some (.istore_n 2, 1) := by decide +kernel
theorem f24_2 : zft 24 2 = some (.iconst 0, 1) := by decide +kernel
theorem f24_3 : zft 24 3 = some (.istore_n 3, 1) := by decide +kernel
theorem f24_4 : zft 24 4 = some (.iload_n 3, 1) := by decide +kernel
theorem f24_5 : zft 24 5 = some (.aload_n 0, 1) := by decide +kernel
theorem f24_6 : zft 24 6 = some (.getfield 25, 3) := by decide +kernel
theorem f24_9 : zft 24 9 = some (.if_icmp .ge 62, 3) := by decide +kernel
theorem f24_12 : zft 24 12 = some (.aload_n 0, 1) := by decide +kernel
theorem f24_13 : zft 24 13 = some (.getfield 21, 3) := by decide +kernel
theorem f24_16 : zft 24 16 = some (.iload_n 3, 1) := by decide +kernel
theorem f24_17 : zft 24 17 = some (.baload, 1) := by decide +kernel
theorem f24_18 : zft 24 18 = some (.ifCond .ne 17, 3) := by decide +kernel
theorem f24_21 : zft 24 21 = some (.aload_n 0, 1) := by decide +kernel
theorem f24_22 : zft 24 22 = some (.getfield 18, 3) := by decide +kernel
theorem f24_25 : zft 24 25 = some (.iload_n 3, 1) := by decide +kernel
theorem f24_26 : zft 24 26 = some (.iaload, 1) := by decide +kernel
theorem f24_27 : zft 24 27 = some (.iload_n 1, 1) := by decide +kernel
theorem f24_28 : zft 24 28 = some (.if_icmp .gt 7, 3) := by decide +kernel
theorem f24_31 : zft 24 31 = some (.iconst 1, 1) := by decide +kernel
theorem f24_32 : zft 24 32 = some (.goto 4, 3) := by decide +kernel
theorem f24_35 : zft 24 35 = some (.iconst 0, 1) := by decide +kernel
theorem f24_36 : zft 24 36 = some (.istore 4, 2) := by decide +kernel
theorem f24_38 : zft 24 38 = some (.iload 4, 2) := by decide +kernel
theorem f24_40 : zft 24 40 = some (.ifCond .eq 25, 3) := by decide +kernel
theorem f24_43 : zft 24 43 = some (.iload_n 2, 1) := by decide +kernel
theorem f24_44 : zft 24 44 = some (.iconst (-1), 1) := by decide +kernel
theorem f24_45 : zft 24 45 = some (.if_icmp .eq 18, 3) := by decide +kernel
theorem f24_48 : zft 24 48 = some (.aload_n 0, 1) := by decide +kernel
theorem f24_49 : zft 24 49 = some (.getfield 15, 3) := by decide +kernel
theorem f24_52 : zft 24 52 = some (.iload_n 3, 1) := by decide +kernel
theorem f24_53 : zft 24 53 = some (.iaload, 1) := by decide +kernel
theorem f24_54 : zft 24 54 = some (.aload_n 0, 1) := by decide +kernel
theorem f24_55 : zft 24 55 = some (.getfield 15, 3) := by decide +kernel
theorem f24_58 : zft 24 58 = some (.iload_n 2, 1) := by decide +kernel
theorem f24_59 : zft 24 59 = some (.iaload, 1) := by decide +kernel
theorem f24_60 : zft 24 60 = some (.if_icmp .ge 5, 3) := by decide +kernel
theorem f24_63 : zft 24 63 = some (.iload_n 3, 1) := by decide +kernel
theorem f24_64 : zft 24 64 = some (.istore_n 2, 1) := by decide +kernel
theorem f24_65 : zft 24 65 = some (.iinc 3 1, 3) := by decide +kernel
theorem f24_68 : zft 24 68 = some (.goto (-64), 3) := by decide +kernel
theorem f24_71 : zft 24 71 = some (.iload_n 2, 1) := by decide +kernel
theorem f24_72 : zft 24 72 = some (.ireturn, 1) := by decide +kernel
theorem o24 : zo 24 = 2 := by decide +kernel
theorem p24 : zp 24 = 1 := by decide +kernel
theorem n24 : zn 24 = 5 := by decide +kernel
theorem v24 : zr 24 = (some .int) := by decide +kernel
theorem f25_0 : zft 25 0 = some (.iconst 0, 1) := by decide +kernel
theorem f25_1 : zft 25 1 = some (.istore_n 1, 1) := by decide +kernel
theorem f25_2 : zft 25 2 = some (.iconst 0, 1) := by decide +kernel
theorem f25_3 : zft 25 3 = some (.istore_n 2, 1) := by decide +kernel
theorem f25_4 : zft 25 4 = some (.iload_n 2, 1) := by decide +kernel
theorem f25_5 : zft 25 5 = some (.aload_n 0, 1) := by decide +kernel
theorem f25_6 : zft 25 6 = some (.getfield 25, 3) := by decide +kernel
theorem f25_9 : zft 25 9 = some (.if_icmp .ge 21, 3) := by decide +kernel
theorem f25_12 : zft 25 12 = some (.aload_n 0, 1) := by decide +kernel
theorem f25_13 : zft 25 13 = some (.getfield 21, 3) := by decide +kernel
theorem f25_16 : zft 25 16 = some (.iload_n 2, 1) := by decide +kernel
theorem f25_17 : zft 25 17 = some (.baload, 1) := by decide +kernel
theorem f25_18 : zft 25 18 = some (.ifCond .ne 6, 3) := by decide +kernel
theorem f25_21 : zft 25 21 = some (.iinc 1 1, 3) := by decide +kernel
theorem f25_24 : zft 25 24 = some (.iinc 2 1, 3) := by decide +kernel
theorem f25_27 : zft 25 27 = some (.goto (-23), 3) := by decide +kernel
theorem f25_30 : zft 25 30 = some (.iload_n 1, 1) := by decide +kernel
theorem f25_31 : zft 25 31 = some (.ireturn, 1) := by decide +kernel
theorem o25 : zo 25 = 2 := by decide +kernel
theorem p25 : zp 25 = 0 := by decide +kernel
theorem n25 : zn 25 = 3 := by decide +kernel
theorem v25 : zr 25 = (some .int) := by decide +kernel
theorem f26_0 : zft 26 0 = some (.aload_n 0, 1) := by decide +kernel
theorem f26_1 : zft 26 1 = some (.invokespecial 3, 3) := by decide +kernel
theorem f26_4 : zft 26 4 = some (.aload_n 0, 1) := by decide +kernel
theorem f26_5 : zft 26 5 = some (.bipush 20, 2) := by decide +kernel
theorem f26_7 : zft 26 7 = some (.newarray .int, 2) := by decide +kernel
theorem f26_9 : zft 26 9 = some (.putfield 9, 3) := by decide +kernel
theorem f26_12 : zft 26 12 = some (.aload_n 0, 1) := by decide +kernel
theorem f26_13 : zft 26 13 = some (.bipush 20, 2) := by decide +kernel
theorem f26_15 : zft 26 15 = some (.newarray .int, 2) := by decide +kernel
theorem f26_17 : zft 26 17 = some (.putfield 15, 3) := by decide +kernel
theorem f26_20 : zft 26 20 = some (.return_, 1) := by decide +kernel
theorem o26 : zo 26 = 3 := by decide +kernel
theorem p26 : zp 26 = 0 := by decide +kernel
theorem n26 : zn 26 = 1 := by decide +kernel
theorem v26 : zr 26 = none := by decide +kernel
theorem f27_0 : zft 27 0 = some (.aload_n 0, 1) := by decide +kernel
theorem f27_1 : zft 27 1 = some (.getfield 18, 3) := by decide +kernel
theorem f27_4 : zft 27 4 = some (.bipush 20, 2) := by decide +kernel
theorem f27_6 : zft 27 6 = some (.if_icmp .lt 6, 3) := by decide +kernel
theorem f27_9 : zft 27 9 = some (.bipush (-4), 2) := by decide +kernel
theorem f27_11 : zft 27 11 = some (.ireturn, 1) := by decide +kernel
theorem f27_12 : zft 27 12 = some (.aload_n 0, 1) := by decide +kernel
theorem f27_13 : zft 27 13 = some (.getfield 9, 3) := by decide +kernel
theorem f27_16 : zft 27 16 = some (.aload_n 0, 1) := by decide +kernel
theorem f27_17 : zft 27 17 = some (.getfield 18, 3) := by decide +kernel
theorem f27_20 : zft 27 20 = some (.iload_n 1, 1) := by decide +kernel
theorem f27_21 : zft 27 21 = some (.iastore, 1) := by decide +kernel
theorem f27_22 : zft 27 22 = some (.aload_n 0, 1) := by decide +kernel
theorem f27_23 : zft 27 23 = some (.getfield 15, 3) := by decide +kernel
theorem f27_26 : zft 27 26 = some (.aload_n 0, 1) := by decide +kernel
theorem f27_27 : zft 27 27 = some (.getfield 18, 3) := by decide +kernel
theorem f27_30 : zft 27 30 = some (.iload_n 2, 1) := by decide +kernel
theorem f27_31 : zft 27 31 = some (.iastore, 1) := by decide +kernel
theorem f27_32 : zft 27 32 = some (.aload_n 0, 1) := by decide +kernel
theorem f27_33 : zft 27 33 = some (.dup, 1) := by decide +kernel
theorem f27_34 : zft 27 34 = some (.getfield 18, 3) := by decide +kernel
theorem f27_37 : zft 27 37 = some (.iconst 1, 1) := by decide +kernel
theorem f27_38 : zft 27 38 = some (.iadd, 1) := by decide +kernel
theorem f27_39 : zft 27 39 = some (.putfield 18, 3) := by decide +kernel
theorem f27_42 : zft 27 42 = some (.aload_n 0, 1) := by decide +kernel
theorem f27_43 : zft 27 43 = some (.getfield 18, 3) := by decide +kernel
theorem f27_46 : zft 27 46 = some (.ireturn, 1) := by decide +kernel
theorem o27 : zo 27 = 3 := by decide +kernel
theorem p27 : zp 27 = 2 := by decide +kernel
theorem n27 : zn 27 = 3 := by decide +kernel
theorem v27 : zr 27 = (some .int) := by decide +kernel
theorem f28_0 : zft 28 0 = some (.iconst (-1), 1) := by decide +kernel
theorem f28_1 : zft 28 1 = some (.istore_n 2, 1) := by decide +kernel
theorem f28_2 : zft 28 2 = some (.iconst 0, 1) := by decide +kernel
theorem f28_3 : zft 28 3 = some (.istore_n 3, 1) := by decide +kernel
theorem f28_4 : zft 28 4 = some (.iload_n 3, 1) := by decide +kernel
theorem f28_5 : zft 28 5 = some (.aload_n 0, 1) := by decide +kernel
theorem f28_6 : zft 28 6 = some (.getfield 18, 3) := by decide +kernel
theorem f28_9 : zft 28 9 = some (.if_icmp .ge 41, 3) := by decide +kernel
theorem f28_12 : zft 28 12 = some (.aload_n 0, 1) := by decide +kernel
theorem f28_13 : zft 28 13 = some (.getfield 9, 3) := by decide +kernel
theorem f28_16 : zft 28 16 = some (.iload_n 3, 1) := by decide +kernel
theorem f28_17 : zft 28 17 = some (.iaload, 1) := by decide +kernel
theorem f28_18 : zft 28 18 = some (.iload_n 1, 1) := by decide +kernel
theorem f28_19 : zft 28 19 = some (.if_icmp .gt 25, 3) := by decide +kernel
theorem f28_22 : zft 28 22 = some (.iload_n 2, 1) := by decide +kernel
theorem f28_23 : zft 28 23 = some (.iconst (-1), 1) := by decide +kernel
theorem f28_24 : zft 28 24 = some (.if_icmp .eq 18, 3) := by decide +kernel
theorem f28_27 : zft 28 27 = some (.aload_n 0, 1) := by decide +kernel
theorem f28_28 : zft 28 28 = some (.getfield 9, 3) := by decide +kernel
theorem f28_31 : zft 28 31 = some (.iload_n 3, 1) := by decide +kernel
theorem f28_32 : zft 28 32 = some (.iaload, 1) := by decide +kernel
theorem f28_33 : zft 28 33 = some (.aload_n 0, 1) := by decide +kernel
theorem f28_34 : zft 28 34 = some (.getfield 9, 3) := by decide +kernel
theorem f28_37 : zft 28 37 = some (.iload_n 2, 1) := by decide +kernel
theorem f28_38 : zft 28 38 = some (.iaload, 1) := by decide +kernel
theorem f28_39 : zft 28 39 = some (.if_icmp .lt 5, 3) := by decide +kernel
theorem f28_42 : zft 28 42 = some (.iload_n 3, 1) := by decide +kernel
theorem f28_43 : zft 28 43 = some (.istore_n 2, 1) := by decide +kernel
theorem f28_44 : zft 28 44 = some (.iinc 3 1, 3) := by decide +kernel
theorem f28_47 : zft 28 47 = some (.goto (-43), 3) := by decide +kernel
theorem f28_50 : zft 28 50 = some (.iload_n 2, 1) := by decide +kernel
theorem f28_51 : zft 28 51 = some (.iconst (-1), 1) := by decide +kernel
theorem f28_52 : zft 28 52 = some (.if_icmp .ne 7, 3) := by decide +kernel
theorem f28_55 : zft 28 55 = some (.iconst 0, 1) := by decide +kernel
theorem f28_56 : zft 28 56 = some (.goto 9, 3) := by decide +kernel
theorem f28_59 : zft 28 59 = some (.aload_n 0, 1) := by decide +kernel
theorem f28_60 : zft 28 60 = some (.getfield 15, 3) := by decide +kernel
theorem f28_63 : zft 28 63 = some (.iload_n 2, 1) := by decide +kernel
theorem f28_64 : zft 28 64 = some (.iaload, 1) := by decide +kernel
theorem f28_65 : zft 28 65 = some (.ireturn, 1) := by decide +kernel
theorem o28 : zo 28 = 3 := by decide +kernel
theorem p28 : zp 28 = 1 := by decide +kernel
theorem n28 : zn 28 = 4 := by decide +kernel
theorem v28 : zr 28 = (some .int) := by decide +kernel
theorem f29_0 : zft 29 0 = some (.aload_n 0, 1) := by decide +kernel
theorem f29_1 : zft 29 1 = some (.invokespecial 3, 3) := by decide +kernel
theorem f29_4 : zft 29 4 = some (.aload_n 0, 1) := by decide +kernel
theorem f29_5 : zft 29 5 = some (.bipush 12, 2) := by decide +kernel
theorem f29_7 : zft 29 7 = some (.anewarray 9, 3) := by decide +kernel
theorem f29_10 : zft 29 10 = some (.putfield 11, 3) := by decide +kernel
theorem f29_13 : zft 29 13 = some (.iconst 0, 1) := by decide +kernel
theorem f29_14 : zft 29 14 = some (.istore_n 1, 1) := by decide +kernel
theorem f29_15 : zft 29 15 = some (.iload_n 1, 1) := by decide +kernel
theorem f29_16 : zft 29 16 = some (.bipush 12, 2) := by decide +kernel
theorem f29_18 : zft 29 18 = some (.if_icmp .ge 22, 3) := by decide +kernel
theorem f29_21 : zft 29 21 = some (.aload_n 0, 1) := by decide +kernel
theorem f29_22 : zft 29 22 = some (.getfield 11, 3) := by decide +kernel
theorem f29_25 : zft 29 25 = some (.iload_n 1, 1) := by decide +kernel
theorem f29_26 : zft 29 26 = some (.new 9, 3) := by decide +kernel
theorem f29_29 : zft 29 29 = some (.dup, 1) := by decide +kernel
theorem f29_30 : zft 29 30 = some (.invokespecial 17, 3) := by decide +kernel
theorem f29_33 : zft 29 33 = some (.aastore, 1) := by decide +kernel
theorem f29_34 : zft 29 34 = some (.iinc 1 1, 3) := by decide +kernel
theorem f29_37 : zft 29 37 = some (.goto (-22), 3) := by decide +kernel
theorem f29_40 : zft 29 40 = some (.return_, 1) := by decide +kernel
theorem o29 : zo 29 = 4 := by decide +kernel
theorem p29 : zp 29 = 0 := by decide +kernel
theorem n29 : zn 29 = 2 := by decide +kernel
theorem v29 : zr 29 = none := by decide +kernel
theorem f30_0 : zft 30 0 = some (.iload_n 1, 1) := by decide +kernel
theorem f30_1 : zft 30 1 = some (.iconst 0, 1) := by decide +kernel
theorem f30_2 : zft 30 2 = some (.aload_n 0, 1) := by decide +kernel
theorem f30_3 : zft 30 3 = some (.getfield 18, 3) := by decide +kernel
theorem f30_6 : zft 30 6 = some (.iconst 1, 1) := by decide +kernel
theorem f30_7 : zft 30 7 = some (.isub, 1) := by decide +kernel
theorem f30_8 : zft 30 8 = some (.invokestatic 22, 3) := by decide +kernel
theorem f30_11 : zft 30 11 = some (.ireturn, 1) := by decide +kernel
theorem o30 : zo 30 = 4 := by decide +kernel
theorem p30 : zp 30 = 1 := by decide +kernel
theorem n30 : zn 30 = 2 := by decide +kernel
theorem v30 : zr 30 = (some .boolean) := by decide +kernel
theorem f31_0 : zft 31 0 = some (.aload_n 0, 1) := by decide +kernel
theorem f31_1 : zft 31 1 = some (.getfield 18, 3) := by decide +kernel
theorem f31_4 : zft 31 4 = some (.bipush 12, 2) := by decide +kernel
theorem f31_6 : zft 31 6 = some (.if_icmp .lt 6, 3) := by decide +kernel
theorem f31_9 : zft 31 9 = some (.bipush (-4), 2) := by decide +kernel
theorem f31_11 : zft 31 11 = some (.ireturn, 1) := by decide +kernel
theorem f31_12 : zft 31 12 = some (.aload_n 0, 1) := by decide +kernel
theorem f31_13 : zft 31 13 = some (.getfield 11, 3) := by decide +kernel
theorem f31_16 : zft 31 16 = some (.aload_n 0, 1) := by decide +kernel
theorem f31_17 : zft 31 17 = some (.getfield 18, 3) := by decide +kernel
theorem f31_20 : zft 31 20 = some (.aaload, 1) := by decide +kernel
theorem f31_21 : zft 31 21 = some (.astore 5, 2) := by decide +kernel
theorem f31_23 : zft 31 23 = some (.aload 5, 2) := by decide +kernel
theorem f31_25 : zft 31 25 = some (.iconst 0, 1) := by decide +kernel
theorem f31_26 : zft 31 26 = some (.iload_n 1, 1) := by decide +kernel
theorem f31_27 : zft 31 27 = some (.invokevirtual 26, 3) := by decide +kernel
theorem f31_30 : zft 31 30 = some (.aload 5, 2) := by decide +kernel
theorem f31_32 : zft 31 32 = some (.iconst 1, 1) := by decide +kernel
theorem f31_33 : zft 31 33 = some (.iload_n 2, 1) := by decide +kernel
theorem f31_34 : zft 31 34 = some (.invokevirtual 26, 3) := by decide +kernel
theorem f31_37 : zft 31 37 = some (.aload 5, 2) := by decide +kernel
theorem f31_39 : zft 31 39 = some (.iconst 2, 1) := by decide +kernel
theorem f31_40 : zft 31 40 = some (.iload_n 3, 1) := by decide +kernel
theorem f31_41 : zft 31 41 = some (.invokevirtual 26, 3) := by decide +kernel
theorem f31_44 : zft 31 44 = some (.aload 5, 2) := by decide +kernel
theorem f31_46 : zft 31 46 = some (.iload 4, 2) := by decide +kernel
theorem f31_48 : zft 31 48 = some (.putfield 30, 3) := by decide +kernel
theorem f31_51 : zft 31 51 = some (.aload_n 0, 1) := by decide +kernel
theorem f31_52 : zft 31 52 = some (.dup, 1) := by decide +kernel
theorem f31_53 : zft 31 53 = some (.getfield 18, 3) := by decide +kernel
theorem f31_56 : zft 31 56 = some (.iconst 1, 1) := by decide +kernel
theorem f31_57 : zft 31 57 = some (.iadd, 1) := by decide +kernel
theorem f31_58 : zft 31 58 = some (.putfield 18, 3) := by decide +kernel
theorem f31_61 : zft 31 61 = some (.aload_n 0, 1) := by decide +kernel
theorem f31_62 : zft 31 62 = some (.getfield 18, 3) := by decide +kernel
theorem f31_65 : zft 31 65 = some (.iconst 1, 1) := by decide +kernel
theorem f31_66 : zft 31 66 = some (.isub, 1) := by decide +kernel
theorem f31_67 : zft 31 67 = some (.ireturn, 1) := by decide +kernel
theorem o31 : zo 31 = 4 := by decide +kernel
theorem p31 : zp 31 = 4 := by decide +kernel
theorem n31 : zn 31 = 6 := by decide +kernel
theorem v31 : zr 31 = (some .int) := by decide +kernel
theorem f32_0 : zft 32 0 = some (.aload_n 0, 1) := by decide +kernel
theorem f32_1 : zft 32 1 = some (.getfield 33, 3) := by decide +kernel
theorem f32_4 : zft 32 4 = some (.bipush 40, 2) := by decide +kernel
theorem f32_6 : zft 32 6 = some (.if_icmp .lt 6, 3) := by decide +kernel
theorem f32_9 : zft 32 9 = some (.bipush (-4), 2) := by decide +kernel
theorem f32_11 : zft 32 11 = some (.ireturn, 1) := by decide +kernel
theorem f32_12 : zft 32 12 = some (.aload_n 0, 1) := by decide +kernel
theorem f32_13 : zft 32 13 = some (.getfield 11, 3) := by decide +kernel
theorem f32_16 : zft 32 16 = some (.iload_n 1, 1) := by decide +kernel
theorem f32_17 : zft 32 17 = some (.aaload, 1) := by decide +kernel
theorem f32_18 : zft 32 18 = some (.getfield 36, 3) := by decide +kernel
theorem f32_21 : zft 32 21 = some (.iload_n 2, 1) := by decide +kernel
theorem f32_22 : zft 32 22 = some (.iload_n 3, 1) := by decide +kernel
theorem f32_23 : zft 32 23 = some (.iastore, 1) := by decide +kernel
theorem f32_24 : zft 32 24 = some (.aload_n 0, 1) := by decide +kernel
theorem f32_25 : zft 32 25 = some (.getfield 11, 3) := by decide +kernel
theorem f32_28 : zft 32 28 = some (.iload_n 2, 1) := by decide +kernel
theorem f32_29 : zft 32 29 = some (.aaload, 1) := by decide +kernel
theorem f32_30 : zft 32 30 = some (.getfield 36, 3) := by decide +kernel
theorem f32_33 : zft 32 33 = some (.iload_n 1, 1) := by decide +kernel
theorem f32_34 : zft 32 34 = some (.iload_n 3, 1) := by decide +kernel
theorem f32_35 : zft 32 35 = some (.iastore, 1) := by decide +kernel
theorem f32_36 : zft 32 36 = some (.aload_n 0, 1) := by decide +kernel
theorem f32_37 : zft 32 37 = some (.dup, 1) := by decide +kernel
theorem f32_38 : zft 32 38 = some (.getfield 33, 3) := by decide +kernel
theorem f32_41 : zft 32 41 = some (.iconst 1, 1) := by decide +kernel
theorem f32_42 : zft 32 42 = some (.iadd, 1) := by decide +kernel
theorem f32_43 : zft 32 43 = some (.putfield 33, 3) := by decide +kernel
theorem f32_46 : zft 32 46 = some (.aload_n 0, 1) := by decide +kernel
theorem f32_47 : zft 32 47 = some (.getfield 33, 3) := by decide +kernel
theorem f32_50 : zft 32 50 = some (.ireturn, 1) := by decide +kernel
theorem o32 : zo 32 = 4 := by decide +kernel
theorem p32 : zp 32 = 3 := by decide +kernel
theorem n32 : zn 32 = 4 := by decide +kernel
theorem v32 : zr 32 = (some .int) := by decide +kernel
theorem f33_0 : zft 33 0 = some (.iload_n 1, 1) := by decide +kernel
theorem f33_1 : zft 33 1 = some (.iload_n 2, 1) := by decide +kernel
theorem f33_2 : zft 33 2 = some (.if_icmp .eq 17, 3) := by decide +kernel
theorem f33_5 : zft 33 5 = some (.aload_n 0, 1) := by decide +kernel
theorem f33_6 : zft 33 6 = some (.getfield 11, 3) := by decide +kernel
theorem f33_9 : zft 33 9 = some (.iload_n 1, 1) := by decide +kernel
theorem f33_10 : zft 33 10 = some (.aaload, 1) := by decide +kernel
theorem f33_11 : zft 33 11 = some (.getfield 36, 3) := by decide +kernel
theorem f33_14 : zft 33 14 = some (.iload_n 2, 1) := by decide +kernel
theorem f33_15 : zft 33 15 = some (.iaload, 1) := by decide +kernel
theorem f33_16 : zft 33 16 = some (.ifCond .le 7, 3) := by decide +kernel
theorem f33_19 : zft 33 19 = some (.iconst 1, 1) := by decide +kernel
theorem f33_20 : zft 33 20 = some (.goto 4, 3) := by decide +kernel
theorem f33_23 : zft 33 23 = some (.iconst 0, 1) := by decide +kernel
theorem f33_24 : zft 33 24 = some (.ireturn, 1) := by decide +kernel
theorem o33 : zo 33 = 4 := by decide +kernel
theorem p33 : zp 33 = 2 := by decide +kernel
theorem n33 : zn 33 = 3 := by decide +kernel
theorem v33 : zr 33 = (some .boolean) := by decide +kernel
theorem f34_0 : zft 34 0 = some (.iconst 0, 1) := by decide +kernel
theorem f34_1 : zft 34 1 = some (.istore_n 2, 1) := by decide +kernel
theorem f34_2 : zft 34 2 = some (.iload_n 2, 1) := by decide +kernel
theorem f34_3 : zft 34 3 = some (.aload_n 1, 1) := by decide +kernel
theorem f34_4 : zft 34 4 = some (.getfield 40, 3) := by decide +kernel
theorem f34_7 : zft 34 7 = some (.if_icmp .ge 73, 3) := by decide +kernel
theorem f34_10 : zft 34 10 = some (.iload_n 2, 1) := by decide +kernel
theorem f34_11 : zft 34 11 = some (.ifCond .eq 24, 3) := by decide +kernel
theorem f34_14 : zft 34 14 = some (.aload_n 0, 1) := by decide +kernel
theorem f34_15 : zft 34 15 = some (.aload_n 1, 1) := by decide +kernel
theorem f34_16 : zft 34 16 = some (.getfield 45, 3) := by decide +kernel
theorem f34_19 : zft 34 19 = some (.iload_n 2, 1) := by decide +kernel
theorem f34_20 : zft 34 20 = some (.iconst 1, 1) := by decide +kernel
theorem f34_21 : zft 34 21 = some (.isub, 1) := by decide +kernel
theorem f34_22 : zft 34 22 = some (.iaload, 1) := by decide +kernel
theorem f34_23 : zft 34 23 = some (.aload_n 1, 1) := by decide +kernel
theorem f34_24 : zft 34 24 = some (.getfield 45, 3) := by decide +kernel
theorem f34_27 : zft 34 27 = some (.iload_n 2, 1) := by decide +kernel
theorem f34_28 : zft 34 28 = some (.iaload, 1) := by decide +kernel
theorem f34_29 : zft 34 29 = some (.invokevirtual 48, 3) := by decide +kernel
theorem f34_32 : zft 34 32 = some (.ifCond .eq 7, 3) := by decide +kernel
theorem f34_35 : zft 34 35 = some (.iconst 1, 1) := by decide +kernel
theorem f34_36 : zft 34 36 = some (.goto 4, 3) := by decide +kernel
theorem f34_39 : zft 34 39 = some (.iconst 0, 1) := by decide +kernel
theorem f34_40 : zft 34 40 = some (.istore_n 3, 1) := by decide +kernel
theorem f34_41 : zft 34 41 = some (.iload_n 3, 1) := by decide +kernel
theorem f34_42 : zft 34 42 = some (.ifCond .eq 30, 3) := by decide +kernel
theorem f34_45 : zft 34 45 = some (.aload_n 0, 1) := by decide +kernel
theorem f34_46 : zft 34 46 = some (.getfield 11, 3) := by decide +kernel
theorem f34_49 : zft 34 49 = some (.aload_n 1, 1) := by decide +kernel
theorem f34_50 : zft 34 50 = some (.getfield 45, 3) := by decide +kernel
theorem f34_53 : zft 34 53 = some (.iload_n 2, 1) := by decide +kernel
theorem f34_54 : zft 34 54 = some (.iaload, 1) := by decide +kernel
theorem f34_55 : zft 34 55 = some (.aaload, 1) := by decide +kernel
theorem f34_56 : zft 34 56 = some (.aload_n 1, 1) := by decide +kernel
theorem f34_57 : zft 34 57 = some (.getfield 52, 3) := by decide +kernel
theorem f34_60 : zft 34 60 = some (.iload_n 2, 1) := by decide +kernel
theorem f34_61 : zft 34 61 = some (.iadd, 1) := by decide +kernel
theorem f34_62 : zft 34 62 = some (.aload_n 1, 1) := by decide +kernel
theorem f34_63 : zft 34 63 = some (.getfield 55, 3) := by decide +kernel
theorem f34_66 : zft 34 66 = some (.invokevirtual 58, 3) := by decide +kernel
theorem f34_69 : zft 34 69 = some (.ifCond .ne 5, 3) := by decide +kernel
theorem f34_72 : zft 34 72 = some (.iload_n 2, 1) := by decide +kernel
theorem f34_73 : zft 34 73 = some (.ireturn, 1) := by decide +kernel
theorem f34_74 : zft 34 74 = some (.iinc 2 1, 3) := by decide +kernel
theorem f34_77 : zft 34 77 = some (.goto (-75), 3) := by decide +kernel
theorem f34_80 : zft 34 80 = some (.iconst (-1), 1) := by decide +kernel
theorem f34_81 : zft 34 81 = some (.ireturn, 1) := by decide +kernel
theorem o34 : zo 34 = 4 := by decide +kernel
theorem p34 : zp 34 = 1 := by decide +kernel
theorem n34 : zn 34 = 4 := by decide +kernel
theorem v34 : zr 34 = (some .int) := by decide +kernel
theorem f35_0 : zft 35 0 = some (.iconst 0, 1) := by decide +kernel
theorem f35_1 : zft 35 1 = some (.istore_n 2, 1) := by decide +kernel
theorem f35_2 : zft 35 2 = some (.iconst 1, 1) := by decide +kernel
theorem f35_3 : zft 35 3 = some (.istore_n 3, 1) := by decide +kernel
theorem f35_4 : zft 35 4 = some (.iload_n 3, 1) := by decide +kernel
theorem f35_5 : zft 35 5 = some (.aload_n 1, 1) := by decide +kernel
theorem f35_6 : zft 35 6 = some (.getfield 40, 3) := by decide +kernel
theorem f35_9 : zft 35 9 = some (.if_icmp .ge 55, 3) := by decide +kernel
theorem f35_12 : zft 35 12 = some (.aload_n 1, 1) := by decide +kernel
theorem f35_13 : zft 35 13 = some (.getfield 61, 3) := by decide +kernel
theorem f35_16 : zft 35 16 = some (.iload_n 3, 1) := by decide +kernel
theorem f35_17 : zft 35 17 = some (.iconst 1, 1) := by decide +kernel
theorem f35_18 : zft 35 18 = some (.isub, 1) := by decide +kernel
theorem f35_19 : zft 35 19 = some (.baload, 1) := by decide +kernel
theorem f35_20 : zft 35 20 = some (.ifCond .eq 38, 3) := by decide +kernel
theorem f35_23 : zft 35 23 = some (.aload_n 1, 1) := by decide +kernel
theorem f35_24 : zft 35 24 = some (.getfield 61, 3) := by decide +kernel
theorem f35_27 : zft 35 27 = some (.iload_n 3, 1) := by decide +kernel
theorem f35_28 : zft 35 28 = some (.baload, 1) := by decide +kernel
theorem f35_29 : zft 35 29 = some (.ifCond .eq 29, 3) := by decide +kernel
theorem f35_32 : zft 35 32 = some (.iload_n 2, 1) := by decide +kernel
theorem f35_33 : zft 35 33 = some (.aload_n 0, 1) := by decide +kernel
theorem f35_34 : zft 35 34 = some (.getfield 11, 3) := by decide +kernel
theorem f35_37 : zft 35 37 = some (.aload_n 1, 1) := by decide +kernel
theorem f35_38 : zft 35 38 = some (.getfield 45, 3) := by decide +kernel
theorem f35_41 : zft 35 41 = some (.iload_n 3, 1) := by decide +kernel
theorem f35_42 : zft 35 42 = some (.iconst 1, 1) := by decide +kernel
theorem f35_43 : zft 35 43 = some (.isub, 1) := by decide +kernel
theorem f35_44 : zft 35 44 = some (.iaload, 1) := by decide +kernel
theorem f35_45 : zft 35 45 = some (.aaload, 1) := by decide +kernel
theorem f35_46 : zft 35 46 = some (.getfield 36, 3) := by decide +kernel
theorem f35_49 : zft 35 49 = some (.aload_n 1, 1) := by decide +kernel
theorem f35_50 : zft 35 50 = some (.getfield 45, 3) := by decide +kernel
theorem f35_53 : zft 35 53 = some (.iload_n 3, 1) := by decide +kernel
theorem f35_54 : zft 35 54 = some (.iaload, 1) := by decide +kernel
theorem f35_55 : zft 35 55 = some (.iaload, 1) := by decide +kernel
theorem f35_56 : zft 35 56 = some (.iadd, 1) := by decide +kernel
theorem f35_57 : zft 35 57 = some (.istore_n 2, 1) := by decide +kernel
theorem f35_58 : zft 35 58 = some (.iinc 3 1, 3) := by decide +kernel
theorem f35_61 : zft 35 61 = some (.goto (-57), 3) := by decide +kernel
theorem f35_64 : zft 35 64 = some (.iload_n 2, 1) := by decide +kernel
theorem f35_65 : zft 35 65 = some (.ireturn, 1) := by decide +kernel
theorem o35 : zo 35 = 4 := by decide +kernel
theorem p35 : zp 35 = 1 := by decide +kernel
theorem n35 : zn 35 = 4 := by decide +kernel
theorem v35 : zr 35 = (some .int) := by decide +kernel
theorem f36_0 : zft 36 0 = some (.aload_n 0, 1) := by decide +kernel
theorem f36_1 : zft 36 1 = some (.invokespecial 3, 3) := by decide +kernel
theorem f36_4 : zft 36 4 = some (.aload_n 0, 1) := by decide +kernel
theorem f36_5 : zft 36 5 = some (.bipush 84, 2) := by decide +kernel
theorem f36_7 : zft 36 7 = some (.newarray .int, 2) := by decide +kernel
theorem f36_9 : zft 36 9 = some (.putfield 9, 3) := by decide +kernel
theorem f36_12 : zft 36 12 = some (.aload_n 0, 1) := by decide +kernel
theorem f36_13 : zft 36 13 = some (.bipush 7, 2) := by decide +kernel
theorem f36_15 : zft 36 15 = some (.newarray .int, 2) := by decide +kernel
theorem f36_17 : zft 36 17 = some (.putfield 15, 3) := by decide +kernel
theorem f36_20 : zft 36 20 = some (.aload_n 0, 1) := by decide +kernel
theorem f36_21 : zft 36 21 = some (.aload_n 1, 1) := by decide +kernel
theorem f36_22 : zft 36 22 = some (.putfield 18, 3) := by decide +kernel
theorem f36_25 : zft 36 25 = some (.return_, 1) := by decide +kernel
theorem o36 : zo 36 = 5 := by decide +kernel
theorem p36 : zp 36 = 1 := by decide +kernel
theorem n36 : zn 36 = 2 := by decide +kernel
theorem v36 : zr 36 = none := by decide +kernel
end
section
theorem f37_0 : zft 37 0 = some (.iload_n 2, 1) := by decide +kernel
theorem f37_1 : zft 37 1 = some (.iconst 0, 1) := by decide +kernel
theorem f37_2 : zft 37 2 = some (.invokestatic 22, 3) := by decide +kernel
theorem f37_5 : zft 37 5 = some (.istore_n 3, 1) := by decide +kernel
theorem f37_6 : zft 37 6 = some (.aload_n 1, 1) := by decide +kernel
theorem f37_7 : zft 37 7 = some (.getfield 28, 3) := by decide +kernel
theorem f37_10 : zft 37 10 = some (.iconst 1, 1) := by decide +kernel
theorem f37_11 : zft 37 11 = some (.isub, 1) := by decide +kernel
theorem f37_12 : zft 37 12 = some (.istore 4, 2) := by decide +kernel
theorem f37_14 : zft 37 14 = some (.iload 4, 2) := by decide +kernel
theorem f37_16 : zft 37 16 = some (.iload_n 3, 1) := by decide +kernel
theorem f37_17 : zft 37 17 = some (.if_icmp .lt 53, 3) := by decide +kernel
theorem f37_20 : zft 37 20 = some (.iconst 0, 1) := by decide +kernel
theorem f37_21 : zft 37 21 = some (.istore 5, 2) := by decide +kernel
theorem f37_23 : zft 37 23 = some (.iload 5, 2) := by decide +kernel
theorem f37_25 : zft 37 25 = some (.aload_n 0, 1) := by decide +kernel
theorem f37_26 : zft 37 26 = some (.getfield 18, 3) := by decide +kernel
theorem f37_29 : zft 37 29 = some (.getfield 34, 3) := by decide +kernel
theorem f37_32 : zft 37 32 = some (.if_icmp .ge 32, 3) := by decide +kernel
theorem f37_35 : zft 37 35 = some (.aload_n 0, 1) := by decide +kernel
theorem f37_36 : zft 37 36 = some (.getfield 9, 3) := by decide +kernel
theorem f37_39 : zft 37 39 = some (.iload 4, 2) := by decide +kernel
theorem f37_41 : zft 37 41 = some (.bipush 12, 2) := by decide +kernel
theorem f37_43 : zft 37 43 = some (.imul, 1) := by decide +kernel
theorem f37_44 : zft 37 44 = some (.iload 5, 2) := by decide +kernel
theorem f37_46 : zft 37 46 = some (.iadd, 1) := by decide +kernel
theorem f37_47 : zft 37 47 = some (.aload_n 0, 1) := by decide +kernel
theorem f37_48 : zft 37 48 = some (.aload_n 1, 1) := by decide +kernel
theorem f37_49 : zft 37 49 = some (.iload_n 2, 1) := by decide +kernel
theorem f37_50 : zft 37 50 = some (.iload 4, 2) := by decide +kernel
theorem f37_52 : zft 37 52 = some (.iload 5, 2) := by decide +kernel
theorem f37_54 : zft 37 54 = some (.invokevirtual 39, 3) := by decide +kernel
theorem f37_57 : zft 37 57 = some (.iastore, 1) := by decide +kernel
theorem f37_58 : zft 37 58 = some (.iinc 5 1, 3) := by decide +kernel
theorem f37_61 : zft 37 61 = some (.goto (-38), 3) := by decide +kernel
theorem f37_64 : zft 37 64 = some (.iinc 4 (-1), 3) := by decide +kernel
theorem f37_67 : zft 37 67 = some (.goto (-53), 3) := by decide +kernel
theorem f37_70 : zft 37 70 = some (.aload_n 0, 1) := by decide +kernel
theorem f37_71 : zft 37 71 = some (.getfield 9, 3) := by decide +kernel
theorem f37_74 : zft 37 74 = some (.iload_n 3, 1) := by decide +kernel
theorem f37_75 : zft 37 75 = some (.bipush 12, 2) := by decide +kernel
theorem f37_77 : zft 37 77 = some (.imul, 1) := by decide +kernel
theorem f37_78 : zft 37 78 = some (.aload_n 1, 1) := by decide +kernel
theorem f37_79 : zft 37 79 = some (.getfield 43, 3) := by decide +kernel
theorem f37_82 : zft 37 82 = some (.iload_n 3, 1) := by decide +kernel
theorem f37_83 : zft 37 83 = some (.iaload, 1) := by decide +kernel
theorem f37_84 : zft 37 84 = some (.iadd, 1) := by decide +kernel
theorem f37_85 : zft 37 85 = some (.iaload, 1) := by decide +kernel
theorem f37_86 : zft 37 86 = some (.istore 4, 2) := by decide +kernel
theorem f37_88 : zft 37 88 = some (.iload 4, 2) := by decide +kernel
theorem f37_90 : zft 37 90 = some (.sipush 1000, 3) := by decide +kernel
theorem f37_93 : zft 37 93 = some (.if_icmp .lt 5, 3) := by decide +kernel
theorem f37_96 : zft 37 96 = some (.iconst (-1), 1) := by decide +kernel
theorem f37_97 : zft 37 97 = some (.ireturn, 1) := by decide +kernel
theorem f37_98 : zft 37 98 = some (.aload_n 0, 1) := by decide +kernel
theorem f37_99 : zft 37 99 = some (.aload_n 1, 1) := by decide +kernel
theorem f37_100 : zft 37 100 = some (.iload_n 3, 1) := by decide +kernel
theorem f37_101 : zft 37 101 = some (.invokevirtual 46, 3) := by decide +kernel
theorem f37_104 : zft 37 104 = some (.iload 4, 2) := by decide +kernel
theorem f37_106 : zft 37 106 = some (.ireturn, 1) := by decide +kernel
theorem o37 : zo 37 = 5 := by decide +kernel
theorem p37 : zp 37 = 2 := by decide +kernel
theorem n37 : zn 37 = 6 := by decide +kernel
theorem v37 : zr 37 = (some .int) := by decide +kernel
theorem f38_0 : zft 38 0 = some (.aload_n 0, 1) := by decide +kernel
theorem f38_1 : zft 38 1 = some (.aload_n 1, 1) := by decide +kernel
theorem f38_2 : zft 38 2 = some (.iload_n 2, 1) := by decide +kernel
theorem f38_3 : zft 38 3 = some (.iload_n 3, 1) := by decide +kernel
theorem f38_4 : zft 38 4 = some (.iload 4, 2) := by decide +kernel
theorem f38_6 : zft 38 6 = some (.invokevirtual 50, 3) := by decide +kernel
theorem f38_9 : zft 38 9 = some (.ifCond .ne 7, 3) := by decide +kernel
theorem f38_12 : zft 38 12 = some (.sipush 1000, 3) := by decide +kernel
theorem f38_15 : zft 38 15 = some (.ireturn, 1) := by decide +kernel
theorem f38_16 : zft 38 16 = some (.aload_n 1, 1) := by decide +kernel
theorem f38_17 : zft 38 17 = some (.getfield 43, 3) := by decide +kernel
theorem f38_20 : zft 38 20 = some (.iload_n 3, 1) := by decide +kernel
theorem f38_21 : zft 38 21 = some (.iaload, 1) := by decide +kernel
theorem f38_22 : zft 38 22 = some (.iload 4, 2) := by decide +kernel
theorem f38_24 : zft 38 24 = some (.if_icmp .ne 7, 3) := by decide +kernel
theorem f38_27 : zft 38 27 = some (.iconst 0, 1) := by decide +kernel
theorem f38_28 : zft 38 28 = some (.goto 4, 3) := by decide +kernel
theorem f38_31 : zft 38 31 = some (.iconst 1, 1) := by decide +kernel
theorem f38_32 : zft 38 32 = some (.istore 5, 2) := by decide +kernel
theorem f38_34 : zft 38 34 = some (.iload_n 3, 1) := by decide +kernel
theorem f38_35 : zft 38 35 = some (.aload_n 1, 1) := by decide +kernel
theorem f38_36 : zft 38 36 = some (.getfield 28, 3) := by decide +kernel
theorem f38_39 : zft 38 39 = some (.iconst 1, 1) := by decide +kernel
theorem f38_40 : zft 38 40 = some (.isub, 1) := by decide +kernel
theorem f38_41 : zft 38 41 = some (.if_icmp .ne 6, 3) := by decide +kernel
theorem f38_44 : zft 38 44 = some (.iload 5, 2) := by decide +kernel
theorem f38_46 : zft 38 46 = some (.ireturn, 1) := by decide +kernel
theorem f38_47 : zft 38 47 = some (.aload_n 0, 1) := by decide +kernel
theorem f38_48 : zft 38 48 = some (.iload_n 3, 1) := by decide +kernel
theorem f38_49 : zft 38 49 = some (.iload 4, 2) := by decide +kernel
theorem f38_51 : zft 38 51 = some (.invokevirtual 54, 3) := by decide +kernel
theorem f38_54 : zft 38 54 = some (.istore 6, 2) := by decide +kernel
theorem f38_56 : zft 38 56 = some (.iload 6, 2) := by decide +kernel
theorem f38_58 : zft 38 58 = some (.iconst (-1), 1) := by decide +kernel
theorem f38_59 : zft 38 59 = some (.if_icmp .ne 9, 3) := by decide +kernel
theorem f38_62 : zft 38 62 = some (.sipush 1000, 3) := by decide +kernel
theorem f38_65 : zft 38 65 = some (.goto 20, 3) := by decide +kernel
theorem f38_68 : zft 38 68 = some (.iload 5, 2) := by decide +kernel
theorem f38_70 : zft 38 70 = some (.aload_n 0, 1) := by decide +kernel
theorem f38_71 : zft 38 71 = some (.getfield 9, 3) := by decide +kernel
theorem f38_74 : zft 38 74 = some (.iload_n 3, 1) := by decide +kernel
theorem f38_75 : zft 38 75 = some (.iconst 1, 1) := by decide +kernel
theorem f38_76 : zft 38 76 = some (.iadd, 1) := by decide +kernel
theorem f38_77 : zft 38 77 = some (.bipush 12, 2) := by decide +kernel
theorem f38_79 : zft 38 79 = some (.imul, 1) := by decide +kernel
theorem f38_80 : zft 38 80 = some (.iload 6, 2) := by decide +kernel
theorem f38_82 : zft 38 82 = some (.iadd, 1) := by decide +kernel
theorem f38_83 : zft 38 83 = some (.iaload, 1) := by decide +kernel
theorem f38_84 : zft 38 84 = some (.iadd, 1) := by decide +kernel
theorem f38_85 : zft 38 85 = some (.ireturn, 1) := by decide +kernel
theorem o38 : zo 38 = 5 := by decide +kernel
theorem p38 : zp 38 = 4 := by decide +kernel
theorem n38 : zn 38 = 7 := by decide +kernel
theorem v38 : zr 38 = (some .int) := by decide +kernel
theorem f39_0 : zft 39 0 = some (.iload_n 3, 1) := by decide +kernel
theorem f39_1 : zft 39 1 = some (.aload_n 1, 1) := by decide +kernel
theorem f39_2 : zft 39 2 = some (.getfield 28, 3) := by decide +kernel
theorem f39_5 : zft 39 5 = some (.iconst 1, 1) := by decide +kernel
theorem f39_6 : zft 39 6 = some (.isub, 1) := by decide +kernel
theorem f39_7 : zft 39 7 = some (.if_icmp .ne 16, 3) := by decide +kernel
theorem f39_10 : zft 39 10 = some (.aload_n 1, 1) := by decide +kernel
theorem f39_11 : zft 39 11 = some (.getfield 43, 3) := by decide +kernel
theorem f39_14 : zft 39 14 = some (.iload_n 3, 1) := by decide +kernel
theorem f39_15 : zft 39 15 = some (.iaload, 1) := by decide +kernel
theorem f39_16 : zft 39 16 = some (.iload 4, 2) := by decide +kernel
theorem f39_18 : zft 39 18 = some (.if_icmp .eq 5, 3) := by decide +kernel
theorem f39_21 : zft 39 21 = some (.iconst 0, 1) := by decide +kernel
theorem f39_22 : zft 39 22 = some (.ireturn, 1) := by decide +kernel
theorem f39_23 : zft 39 23 = some (.iload_n 3, 1) := by decide +kernel
theorem f39_24 : zft 39 24 = some (.iload_n 2, 1) := by decide +kernel
theorem f39_25 : zft 39 25 = some (.if_icmp .le 29, 3) := by decide +kernel
theorem f39_28 : zft 39 28 = some (.aload_n 0, 1) := by decide +kernel
theorem f39_29 : zft 39 29 = some (.getfield 18, 3) := by decide +kernel
theorem f39_32 : zft 39 32 = some (.getfield 57, 3) := by decide +kernel
theorem f39_35 : zft 39 35 = some (.iload 4, 2) := by decide +kernel
theorem f39_37 : zft 39 37 = some (.aaload, 1) := by decide +kernel
theorem f39_38 : zft 39 38 = some (.aload_n 1, 1) := by decide +kernel
theorem f39_39 : zft 39 39 = some (.getfield 61, 3) := by decide +kernel
theorem f39_42 : zft 39 42 = some (.iload_n 3, 1) := by decide +kernel
theorem f39_43 : zft 39 43 = some (.iadd, 1) := by decide +kernel
theorem f39_44 : zft 39 44 = some (.aload_n 1, 1) := by decide +kernel
theorem f39_45 : zft 39 45 = some (.getfield 64, 3) := by decide +kernel
theorem f39_48 : zft 39 48 = some (.invokevirtual 67, 3) := by decide +kernel
theorem f39_51 : zft 39 51 = some (.ifCond .eq 7, 3) := by decide +kernel
theorem f39_54 : zft 39 54 = some (.iconst 1, 1) := by decide +kernel
theorem f39_55 : zft 39 55 = some (.goto 4, 3) := by decide +kernel
theorem f39_58 : zft 39 58 = some (.iconst 0, 1) := by decide +kernel
theorem f39_59 : zft 39 59 = some (.ireturn, 1) := by decide +kernel
theorem o39 : zo 39 = 5 := by decide +kernel
theorem p39 : zp 39 = 4 := by decide +kernel
theorem n39 : zn 39 = 5 := by decide +kernel
theorem v39 : zr 39 = (some .boolean) := by decide +kernel
theorem f40_0 : zft 40 0 = some (.iconst (-1), 1) := by decide +kernel
theorem f40_1 : zft 40 1 = some (.istore_n 3, 1) := by decide +kernel
theorem f40_2 : zft 40 2 = some (.sipush 1000, 3) := by decide +kernel
theorem f40_5 : zft 40 5 = some (.istore 4, 2) := by decide +kernel
theorem f40_7 : zft 40 7 = some (.iconst 0, 1) := by decide +kernel
theorem f40_8 : zft 40 8 = some (.istore 5, 2) := by decide +kernel
theorem f40_10 : zft 40 10 = some (.iload 5, 2) := by decide +kernel
theorem f40_12 : zft 40 12 = some (.aload_n 0, 1) := by decide +kernel
theorem f40_13 : zft 40 13 = some (.getfield 18, 3) := by decide +kernel
theorem f40_16 : zft 40 16 = some (.getfield 34, 3) := by decide +kernel
theorem f40_19 : zft 40 19 = some (.if_icmp .ge 52, 3) := by decide +kernel
theorem f40_22 : zft 40 22 = some (.aload_n 0, 1) := by decide +kernel
theorem f40_23 : zft 40 23 = some (.getfield 9, 3) := by decide +kernel
theorem f40_26 : zft 40 26 = some (.iload_n 1, 1) := by decide +kernel
theorem f40_27 : zft 40 27 = some (.iconst 1, 1) := by decide +kernel
theorem f40_28 : zft 40 28 = some (.iadd, 1) := by decide +kernel
theorem f40_29 : zft 40 29 = some (.bipush 12, 2) := by decide +kernel
theorem f40_31 : zft 40 31 = some (.imul, 1) := by decide +kernel
theorem f40_32 : zft 40 32 = some (.iload 5, 2) := by decide +kernel
theorem f40_34 : zft 40 34 = some (.iadd, 1) := by decide +kernel
theorem f40_35 : zft 40 35 = some (.iaload, 1) := by decide +kernel
theorem f40_36 : zft 40 36 = some (.istore 6, 2) := by decide +kernel
theorem f40_38 : zft 40 38 = some (.iload 6, 2) := by decide +kernel
theorem f40_40 : zft 40 40 = some (.iload 4, 2) := by decide +kernel
theorem f40_42 : zft 40 42 = some (.if_icmp .ge 23, 3) := by decide +kernel
theorem f40_45 : zft 40 45 = some (.aload_n 0, 1) := by decide +kernel
theorem f40_46 : zft 40 46 = some (.getfield 18, 3) := by decide +kernel
theorem f40_49 : zft 40 49 = some (.iload_n 2, 1) := by decide +kernel
theorem f40_50 : zft 40 50 = some (.iload 5, 2) := by decide +kernel
theorem f40_52 : zft 40 52 = some (.invokevirtual 73, 3) := by decide +kernel
theorem f40_55 : zft 40 55 = some (.ifCond .eq 10, 3) := by decide +kernel
theorem f40_58 : zft 40 58 = some (.iload 5, 2) := by decide +kernel
theorem f40_60 : zft 40 60 = some (.istore_n 3, 1) := by decide +kernel
theorem f40_61 : zft 40 61 = some (.iload 6, 2) := by decide +kernel
theorem f40_63 : zft 40 63 = some (.istore 4, 2) := by decide +kernel
theorem f40_65 : zft 40 65 = some (.iinc 5 1, 3) := by decide +kernel
theorem f40_68 : zft 40 68 = some (.goto (-58), 3) := by decide +kernel
theorem f40_71 : zft 40 71 = some (.iload_n 3, 1) := by decide +kernel
theorem f40_72 : zft 40 72 = some (.ireturn, 1) := by decide +kernel
theorem o40 : zo 40 = 5 := by decide +kernel
theorem p40 : zp 40 = 2 := by decide +kernel
theorem n40 : zn 40 = 7 := by decide +kernel
theorem v40 : zr 40 = (some .int) := by decide +kernel
theorem f41_0 : zft 41 0 = some (.aload_n 0, 1) := by decide +kernel
theorem f41_1 : zft 41 1 = some (.getfield 15, 3) := by decide +kernel
theorem f41_4 : zft 41 4 = some (.iload_n 2, 1) := by decide +kernel
theorem f41_5 : zft 41 5 = some (.aload_n 1, 1) := by decide +kernel
theorem f41_6 : zft 41 6 = some (.getfield 43, 3) := by decide +kernel
theorem f41_9 : zft 41 9 = some (.iload_n 2, 1) := by decide +kernel
theorem f41_10 : zft 41 10 = some (.iaload, 1) := by decide +kernel
theorem f41_11 : zft 41 11 = some (.iastore, 1) := by decide +kernel
theorem f41_12 : zft 41 12 = some (.iload_n 2, 1) := by decide +kernel
theorem f41_13 : zft 41 13 = some (.iconst 1, 1) := by decide +kernel
theorem f41_14 : zft 41 14 = some (.iadd, 1) := by decide +kernel
theorem f41_15 : zft 41 15 = some (.istore_n 3, 1) := by decide +kernel
theorem f41_16 : zft 41 16 = some (.iload_n 3, 1) := by decide +kernel
theorem f41_17 : zft 41 17 = some (.aload_n 1, 1) := by decide +kernel
theorem f41_18 : zft 41 18 = some (.getfield 28, 3) := by decide +kernel
theorem f41_21 : zft 41 21 = some (.if_icmp .ge 49, 3) := by decide +kernel
theorem f41_24 : zft 41 24 = some (.aload_n 0, 1) := by decide +kernel
theorem f41_25 : zft 41 25 = some (.iload_n 3, 1) := by decide +kernel
theorem f41_26 : zft 41 26 = some (.iconst 1, 1) := by decide +kernel
theorem f41_27 : zft 41 27 = some (.isub, 1) := by decide +kernel
theorem f41_28 : zft 41 28 = some (.aload_n 0, 1) := by decide +kernel
theorem f41_29 : zft 41 29 = some (.getfield 15, 3) := by decide +kernel
theorem f41_32 : zft 41 32 = some (.iload_n 3, 1) := by decide +kernel
theorem f41_33 : zft 41 33 = some (.iconst 1, 1) := by decide +kernel
theorem f41_34 : zft 41 34 = some (.isub, 1) := by decide +kernel
theorem f41_35 : zft 41 35 = some (.iaload, 1) := by decide +kernel
theorem f41_36 : zft 41 36 = some (.invokevirtual 54, 3) := by decide +kernel
theorem f41_39 : zft 41 39 = some (.istore 4, 2) := by decide +kernel
theorem f41_41 : zft 41 41 = some (.aload_n 0, 1) := by decide +kernel
theorem f41_42 : zft 41 42 = some (.getfield 15, 3) := by decide +kernel
theorem f41_45 : zft 41 45 = some (.iload_n 3, 1) := by decide +kernel
theorem f41_46 : zft 41 46 = some (.iload 4, 2) := by decide +kernel
theorem f41_48 : zft 41 48 = some (.iconst (-1), 1) := by decide +kernel
theorem f41_49 : zft 41 49 = some (.if_icmp .ne 12, 3) := by decide +kernel
theorem f41_52 : zft 41 52 = some (.aload_n 1, 1) := by decide +kernel
theorem f41_53 : zft 41 53 = some (.getfield 43, 3) := by decide +kernel
theorem f41_56 : zft 41 56 = some (.iload_n 3, 1) := by decide +kernel
theorem f41_57 : zft 41 57 = some (.iaload, 1) := by decide +kernel
theorem f41_58 : zft 41 58 = some (.goto 5, 3) := by decide +kernel
theorem f41_61 : zft 41 61 = some (.iload 4, 2) := by decide +kernel
theorem f41_63 : zft 41 63 = some (.iastore, 1) := by decide +kernel
theorem f41_64 : zft 41 64 = some (.iinc 3 1, 3) := by decide +kernel
theorem f41_67 : zft 41 67 = some (.goto (-51), 3) := by decide +kernel
theorem f41_70 : zft 41 70 = some (.return_, 1) := by decide +kernel
theorem o41 : zo 41 = 5 := by decide +kernel
theorem p41 : zp 41 = 2 := by decide +kernel
theorem n41 : zn 41 = 5 := by decide +kernel
theorem v41 : zr 41 = none := by decide +kernel
theorem f42_0 : zft 42 0 = some (.aload_n 0, 1) := by decide +kernel
theorem f42_1 : zft 42 1 = some (.invokespecial 1, 3) := by decide +kernel
theorem f42_4 : zft 42 4 = some (.aload_n 0, 1) := by decide +kernel
theorem f42_5 : zft 42 5 = some (.new 7, 3) := by decide +kernel
theorem f42_8 : zft 42 8 = some (.dup, 1) := by decide +kernel
theorem f42_9 : zft 42 9 = some (.invokespecial 9, 3) := by decide +kernel
theorem f42_12 : zft 42 12 = some (.putfield 10, 3) := by decide +kernel
theorem f42_15 : zft 42 15 = some (.aload_n 0, 1) := by decide +kernel
theorem f42_16 : zft 42 16 = some (.new 16, 3) := by decide +kernel
theorem f42_19 : zft 42 19 = some (.dup, 1) := by decide +kernel
theorem f42_20 : zft 42 20 = some (.aload_n 0, 1) := by decide +kernel
theorem f42_21 : zft 42 21 = some (.getfield 10, 3) := by decide +kernel
theorem f42_24 : zft 42 24 = some (.invokespecial 18, 3) := by decide +kernel
theorem f42_27 : zft 42 27 = some (.putfield 21, 3) := by decide +kernel
theorem f42_30 : zft 42 30 = some (.aload_n 0, 1) := by decide +kernel
theorem f42_31 : zft 42 31 = some (.bipush 40, 2) := by decide +kernel
theorem f42_33 : zft 42 33 = some (.anewarray 25, 3) := by decide +kernel
theorem f42_36 : zft 42 36 = some (.putfield 27, 3) := by decide +kernel
theorem f42_39 : zft 42 39 = some (.aload_n 0, 1) := by decide +kernel
theorem f42_40 : zft 42 40 = some (.new 31, 3) := by decide +kernel
theorem f42_43 : zft 42 43 = some (.dup, 1) := by decide +kernel
theorem f42_44 : zft 42 44 = some (.invokespecial 33, 3) := by decide +kernel
theorem f42_47 : zft 42 47 = some (.putfield 34, 3) := by decide +kernel
theorem f42_50 : zft 42 50 = some (.aload_n 0, 1) := by decide +kernel
theorem f42_51 : zft 42 51 = some (.new 38, 3) := by decide +kernel
theorem f42_54 : zft 42 54 = some (.dup, 1) := by decide +kernel
theorem f42_55 : zft 42 55 = some (.invokespecial 40, 3) := by decide +kernel
theorem f42_58 : zft 42 58 = some (.putfield 41, 3) := by decide +kernel
theorem f42_61 : zft 42 61 = some (.aload_n 0, 1) := by decide +kernel
theorem f42_62 : zft 42 62 = some (.iconst 3, 1) := by decide +kernel
theorem f42_63 : zft 42 63 = some (.newarray .int, 2) := by decide +kernel
theorem f42_65 : zft 42 65 = some (.putfield 45, 3) := by decide +kernel
theorem f42_68 : zft 42 68 = some (.iconst 0, 1) := by decide +kernel
theorem f42_69 : zft 42 69 = some (.istore_n 1, 1) := by decide +kernel
theorem f42_70 : zft 42 70 = some (.iload_n 1, 1) := by decide +kernel
theorem f42_71 : zft 42 71 = some (.bipush 40, 2) := by decide +kernel
theorem f42_73 : zft 42 73 = some (.if_icmp .ge 22, 3) := by decide +kernel
theorem f42_76 : zft 42 76 = some (.aload_n 0, 1) := by decide +kernel
theorem f42_77 : zft 42 77 = some (.getfield 27, 3) := by decide +kernel
theorem f42_80 : zft 42 80 = some (.iload_n 1, 1) := by decide +kernel
theorem f42_81 : zft 42 81 = some (.new 25, 3) := by decide +kernel
theorem f42_84 : zft 42 84 = some (.dup, 1) := by decide +kernel
theorem f42_85 : zft 42 85 = some (.invokespecial 49, 3) := by decide +kernel
theorem f42_88 : zft 42 88 = some (.aastore, 1) := by decide +kernel
theorem f42_89 : zft 42 89 = some (.iinc 1 1, 3) := by decide +kernel
theorem f42_92 : zft 42 92 = some (.goto (-22), 3) := by decide +kernel
theorem f42_95 : zft 42 95 = some (.return_, 1) := by decide +kernel
theorem o42 : zo 42 = 6 := by decide +kernel
theorem p42 : zp 42 = 0 := by decide +kernel
theorem n42 : zn 42 = 2 := by decide +kernel
theorem v42 : zr 42 = none := by decide +kernel
theorem f43_0 : zft 43 0 = some (.iload_n 1, 1) := by decide +kernel
theorem f43_1 : zft 43 1 = some (.iconst 0, 1) := by decide +kernel
theorem f43_2 : zft 43 2 = some (.bipush 9, 2) := by decide +kernel
theorem f43_4 : zft 43 4 = some (.invokestatic 50, 3) := by decide +kernel
theorem f43_7 : zft 43 7 = some (.ifCond .eq 27, 3) := by decide +kernel
theorem f43_10 : zft 43 10 = some (.iload_n 2, 1) := by decide +kernel
theorem f43_11 : zft 43 11 = some (.iconst 0, 1) := by decide +kernel
theorem f43_12 : zft 43 12 = some (.bipush 9, 2) := by decide +kernel
theorem f43_14 : zft 43 14 = some (.invokestatic 50, 3) := by decide +kernel
theorem f43_17 : zft 43 17 = some (.ifCond .eq 17, 3) := by decide +kernel
theorem f43_20 : zft 43 20 = some (.iload_n 3, 1) := by decide +kernel
theorem f43_21 : zft 43 21 = some (.iconst 0, 1) := by decide +kernel
theorem f43_22 : zft 43 22 = some (.bipush 9, 2) := by decide +kernel
theorem f43_24 : zft 43 24 = some (.invokestatic 50, 3) := by decide +kernel
theorem f43_27 : zft 43 27 = some (.ifCond .eq 7, 3) := by decide +kernel
theorem f43_30 : zft 43 30 = some (.iconst 1, 1) := by decide +kernel
theorem f43_31 : zft 43 31 = some (.goto 4, 3) := by decide +kernel
theorem f43_34 : zft 43 34 = some (.iconst 0, 1) := by decide +kernel
theorem f43_35 : zft 43 35 = some (.istore 5, 2) := by decide +kernel
theorem f43_37 : zft 43 37 = some (.iload 5, 2) := by decide +kernel
theorem f43_39 : zft 43 39 = some (.ifCond .eq 22, 3) := by decide +kernel
theorem f43_42 : zft 43 42 = some (.iload_n 1, 1) := by decide +kernel
theorem f43_43 : zft 43 43 = some (.iload_n 2, 1) := by decide +kernel
theorem f43_44 : zft 43 44 = some (.iadd, 1) := by decide +kernel
theorem f43_45 : zft 43 45 = some (.iload_n 3, 1) := by decide +kernel
theorem f43_46 : zft 43 46 = some (.iadd, 1) := by decide +kernel
theorem f43_47 : zft 43 47 = some (.ifCond .eq 14, 3) := by decide +kernel
theorem f43_50 : zft 43 50 = some (.iload 4, 2) := by decide +kernel
theorem f43_52 : zft 43 52 = some (.iconst 0, 1) := by decide +kernel
theorem f43_53 : zft 43 53 = some (.bipush 23, 2) := by decide +kernel
theorem f43_55 : zft 43 55 = some (.invokestatic 50, 3) := by decide +kernel
theorem f43_58 : zft 43 58 = some (.ifCond .ne 6, 3) := by decide +kernel
theorem f43_61 : zft 43 61 = some (.bipush (-2), 2) := by decide +kernel
theorem f43_63 : zft 43 63 = some (.ireturn, 1) := by decide +kernel
theorem f43_64 : zft 43 64 = some (.aload_n 0, 1) := by decide +kernel
theorem f43_65 : zft 43 65 = some (.getfield 10, 3) := by decide +kernel
theorem f43_68 : zft 43 68 = some (.iload_n 1, 1) := by decide +kernel
theorem f43_69 : zft 43 69 = some (.iload_n 2, 1) := by decide +kernel
theorem f43_70 : zft 43 70 = some (.iload_n 3, 1) := by decide +kernel
theorem f43_71 : zft 43 71 = some (.iload 4, 2) := by decide +kernel
theorem f43_73 : zft 43 73 = some (.invokevirtual 54, 3) := by decide +kernel
theorem f43_76 : zft 43 76 = some (.ireturn, 1) := by decide +kernel
theorem o43 : zo 43 = 6 := by decide +kernel
theorem p43 : zp 43 = 4 := by decide +kernel
theorem n43 : zn 43 = 6 := by decide +kernel
theorem v43 : zr 43 = (some .int) := by decide +kernel
theorem f44_0 : zft 44 0 = some (.aload_n 0, 1) := by decide +kernel
theorem f44_1 : zft 44 1 = some (.getfield 10, 3) := by decide +kernel
theorem f44_4 : zft 44 4 = some (.iload_n 1, 1) := by decide +kernel
theorem f44_5 : zft 44 5 = some (.invokevirtual 58, 3) := by decide +kernel
theorem f44_8 : zft 44 8 = some (.ifCond .eq 24, 3) := by decide +kernel
theorem f44_11 : zft 44 11 = some (.aload_n 0, 1) := by decide +kernel
theorem f44_12 : zft 44 12 = some (.getfield 10, 3) := by decide +kernel
theorem f44_15 : zft 44 15 = some (.iload_n 2, 1) := by decide +kernel
theorem f44_16 : zft 44 16 = some (.invokevirtual 58, 3) := by decide +kernel
theorem f44_19 : zft 44 19 = some (.ifCond .eq 13, 3) := by decide +kernel
theorem f44_22 : zft 44 22 = some (.iload_n 3, 1) := by decide +kernel
theorem f44_23 : zft 44 23 = some (.iconst 1, 1) := by decide +kernel
theorem f44_24 : zft 44 24 = some (.bipush 40, 2) := by decide +kernel
theorem f44_26 : zft 44 26 = some (.invokestatic 50, 3) := by decide +kernel
theorem f44_29 : zft 44 29 = some (.ifCond .ne 6, 3) := by decide +kernel
theorem f44_32 : zft 44 32 = some (.bipush (-2), 2) := by decide +kernel
theorem f44_34 : zft 44 34 = some (.ireturn, 1) := by decide +kernel
theorem f44_35 : zft 44 35 = some (.aload_n 0, 1) := by decide +kernel
theorem f44_36 : zft 44 36 = some (.getfield 10, 3) := by decide +kernel
theorem f44_39 : zft 44 39 = some (.iload_n 1, 1) := by decide +kernel
theorem f44_40 : zft 44 40 = some (.iload_n 2, 1) := by decide +kernel
theorem f44_41 : zft 44 41 = some (.invokevirtual 62, 3) := by decide +kernel
theorem f44_44 : zft 44 44 = some (.ifCond .eq 6, 3) := by decide +kernel
theorem f44_47 : zft 44 47 = some (.bipush (-2), 2) := by decide +kernel
theorem f44_49 : zft 44 49 = some (.ireturn, 1) := by decide +kernel
theorem f44_50 : zft 44 50 = some (.aload_n 0, 1) := by decide +kernel
theorem f44_51 : zft 44 51 = some (.getfield 10, 3) := by decide +kernel
theorem f44_54 : zft 44 54 = some (.iload_n 1, 1) := by decide +kernel
theorem f44_55 : zft 44 55 = some (.iload_n 2, 1) := by decide +kernel
theorem f44_56 : zft 44 56 = some (.iload_n 3, 1) := by decide +kernel
theorem f44_57 : zft 44 57 = some (.invokevirtual 66, 3) := by decide +kernel
theorem f44_60 : zft 44 60 = some (.ireturn, 1) := by decide +kernel
theorem o44 : zo 44 = 6 := by decide +kernel
theorem p44 : zp 44 = 3 := by decide +kernel
theorem n44 : zn 44 = 4 := by decide +kernel
theorem v44 : zr 44 = (some .int) := by decide +kernel
theorem f45_0 : zft 45 0 = some (.aload_n 0, 1) := by decide +kernel
theorem f45_1 : zft 45 1 = some (.getfield 10, 3) := by decide +kernel
theorem f45_4 : zft 45 4 = some (.iload_n 1, 1) := by decide +kernel
theorem f45_5 : zft 45 5 = some (.invokevirtual 58, 3) := by decide +kernel
theorem f45_8 : zft 45 8 = some (.ifCond .eq 13, 3) := by decide +kernel
theorem f45_11 : zft 45 11 = some (.iload_n 2, 1) := by decide +kernel
theorem f45_12 : zft 45 12 = some (.iconst 0, 1) := by decide +kernel
theorem f45_13 : zft 45 13 = some (.bipush 9, 2) := by decide +kernel
theorem f45_15 : zft 45 15 = some (.invokestatic 50, 3) := by decide +kernel
theorem f45_18 : zft 45 18 = some (.ifCond .ne 6, 3) := by decide +kernel
theorem f45_21 : zft 45 21 = some (.bipush (-2), 2) := by decide +kernel
theorem f45_23 : zft 45 23 = some (.ireturn, 1) := by decide +kernel
theorem f45_24 : zft 45 24 = some (.aload_n 0, 1) := by decide +kernel
theorem f45_25 : zft 45 25 = some (.getfield 10, 3) := by decide +kernel
theorem f45_28 : zft 45 28 = some (.getfield 70, 3) := by decide +kernel
theorem f45_31 : zft 45 31 = some (.iload_n 1, 1) := by decide +kernel
theorem f45_32 : zft 45 32 = some (.aaload, 1) := by decide +kernel
theorem f45_33 : zft 45 33 = some (.astore_n 3, 1) := by decide +kernel
theorem f45_34 : zft 45 34 = some (.aload_n 3, 1) := by decide +kernel
theorem f45_35 : zft 45 35 = some (.getfield 74, 3) := by decide +kernel
theorem f45_38 : zft 45 38 = some (.istore 4, 2) := by decide +kernel
theorem f45_40 : zft 45 40 = some (.aload_n 3, 1) := by decide +kernel
theorem f45_41 : zft 45 41 = some (.iload_n 2, 1) := by decide +kernel
theorem f45_42 : zft 45 42 = some (.putfield 74, 3) := by decide +kernel
theorem f45_45 : zft 45 45 = some (.iload 4, 2) := by decide +kernel
theorem f45_47 : zft 45 47 = some (.ireturn, 1) := by decide +kernel
theorem o45 : zo 45 = 6 := by decide +kernel
theorem p45 : zp 45 = 2 := by decide +kernel
theorem n45 : zn 45 = 5 := by decide +kernel
theorem v45 : zr 45 = (some .int) := by decide +kernel
theorem f46_0 : zft 46 0 = some (.aload_n 0, 1) := by decide +kernel
theorem f46_1 : zft 46 1 = some (.getfield 10, 3) := by decide +kernel
theorem f46_4 : zft 46 4 = some (.iload_n 1, 1) := by decide +kernel
theorem f46_5 : zft 46 5 = some (.invokevirtual 58, 3) := by decide +kernel
theorem f46_8 : zft 46 8 = some (.ifCond .eq 19, 3) := by decide +kernel
theorem f46_11 : zft 46 11 = some (.iload_n 2, 1) := by decide +kernel
theorem f46_12 : zft 46 12 = some (.iconst (-1), 1) := by decide +kernel
theorem f46_13 : zft 46 13 = some (.iconst 2, 1) := by decide +kernel
theorem f46_14 : zft 46 14 = some (.invokestatic 50, 3) := by decide +kernel
theorem f46_17 : zft 46 17 = some (.ifCond .eq 10, 3) := by decide +kernel
theorem f46_20 : zft 46 20 = some (.iload_n 3, 1) := by decide +kernel
theorem f46_21 : zft 46 21 = some (.invokestatic 80, 3) := by decide +kernel
theorem f46_24 : zft 46 24 = some (.ifCond .ne 6, 3) := by decide +kernel
theorem f46_27 : zft 46 27 = some (.bipush (-2), 2) := by decide +kernel
theorem f46_29 : zft 46 29 = some (.ireturn, 1) := by decide +kernel
theorem f46_30 : zft 46 30 = some (.aload_n 0, 1) := by decide +kernel
theorem f46_31 : zft 46 31 = some (.getfield 10, 3) := by decide +kernel
theorem f46_34 : zft 46 34 = some (.getfield 70, 3) := by decide +kernel
theorem f46_37 : zft 46 37 = some (.iload_n 1, 1) := by decide +kernel
theorem f46_38 : zft 46 38 = some (.aaload, 1) := by decide +kernel
theorem f46_39 : zft 46 39 = some (.astore 4, 2) := by decide +kernel
theorem f46_41 : zft 46 41 = some (.iload_n 2, 1) := by decide +kernel
theorem f46_42 : zft 46 42 = some (.iconst (-1), 1) := by decide +kernel
theorem f46_43 : zft 46 43 = some (.if_icmp .ne 12, 3) := by decide +kernel
theorem f46_46 : zft 46 46 = some (.aload 4, 2) := by decide +kernel
theorem f46_48 : zft 46 48 = some (.iload_n 3, 1) := by decide +kernel
theorem f46_49 : zft 46 49 = some (.invokevirtual 83, 3) := by decide +kernel
theorem f46_52 : zft 46 52 = some (.goto 14, 3) := by decide +kernel
theorem f46_55 : zft 46 55 = some (.aload 4, 2) := by decide +kernel
theorem f46_57 : zft 46 57 = some (.getfield 87, 3) := by decide +kernel
theorem f46_60 : zft 46 60 = some (.iload_n 3, 1) := by decide +kernel
theorem f46_61 : zft 46 61 = some (.iconst 3, 1) := by decide +kernel
theorem f46_62 : zft 46 62 = some (.imul, 1) := by decide +kernel
theorem f46_63 : zft 46 63 = some (.iload_n 2, 1) := by decide +kernel
theorem f46_64 : zft 46 64 = some (.iadd, 1) := by decide +kernel
theorem f46_65 : zft 46 65 = some (.iaload, 1) := by decide +kernel
theorem f46_66 : zft 46 66 = some (.ireturn, 1) := by decide +kernel
theorem o46 : zo 46 = 6 := by decide +kernel
theorem p46 : zp 46 = 3 := by decide +kernel
theorem n46 : zn 46 = 5 := by decide +kernel
theorem v46 : zr 46 = (some .int) := by decide +kernel
theorem f47_0 : zft 47 0 = some (.aload_n 0, 1) := by decide +kernel
theorem f47_1 : zft 47 1 = some (.getfield 10, 3) := by decide +kernel
theorem f47_4 : zft 47 4 = some (.iload_n 1, 1) := by decide +kernel
theorem f47_5 : zft 47 5 = some (.invokevirtual 58, 3) := by decide +kernel
theorem f47_8 : zft 47 8 = some (.ifCond .eq 10, 3) := by decide +kernel
theorem f47_11 : zft 47 11 = some (.iload_n 2, 1) := by decide +kernel
theorem f47_12 : zft 47 12 = some (.invokestatic 80, 3) := by decide +kernel
theorem f47_15 : zft 47 15 = some (.ifCond .ne 6, 3) := by decide +kernel
theorem f47_18 : zft 47 18 = some (.bipush (-2), 2) := by decide +kernel
theorem f47_20 : zft 47 20 = some (.ireturn, 1) := by decide +kernel
theorem f47_21 : zft 47 21 = some (.aload_n 0, 1) := by decide +kernel
theorem f47_22 : zft 47 22 = some (.getfield 10, 3) := by decide +kernel
theorem f47_25 : zft 47 25 = some (.getfield 70, 3) := by decide +kernel
theorem f47_28 : zft 47 28 = some (.iload_n 1, 1) := by decide +kernel
theorem f47_29 : zft 47 29 = some (.aaload, 1) := by decide +kernel
theorem f47_30 : zft 47 30 = some (.getfield 90, 3) := by decide +kernel
theorem f47_33 : zft 47 33 = some (.iload_n 2, 1) := by decide +kernel
theorem f47_34 : zft 47 34 = some (.baload, 1) := by decide +kernel
theorem f47_35 : zft 47 35 = some (.ifCond .eq 7, 3) := by decide +kernel
theorem f47_38 : zft 47 38 = some (.iconst 1, 1) := by decide +kernel
theorem f47_39 : zft 47 39 = some (.goto 4, 3) := by decide +kernel
theorem f47_42 : zft 47 42 = some (.iconst 0, 1) := by decide +kernel
theorem f47_43 : zft 47 43 = some (.ireturn, 1) := by decide +kernel
theorem o47 : zo 47 = 6 := by decide +kernel
theorem p47 : zp 47 = 2 := by decide +kernel
theorem n47 : zn 47 = 3 := by decide +kernel
theorem v47 : zr 47 = (some .int) := by decide +kernel
theorem f48_0 : zft 48 0 = some (.aload_n 0, 1) := by decide +kernel
theorem f48_1 : zft 48 1 = some (.getfield 10, 3) := by decide +kernel
theorem f48_4 : zft 48 4 = some (.iload_n 1, 1) := by decide +kernel
theorem f48_5 : zft 48 5 = some (.invokevirtual 58, 3) := by decide +kernel
theorem f48_8 : zft 48 8 = some (.ifCond .eq 22, 3) := by decide +kernel
theorem f48_11 : zft 48 11 = some (.iload_n 2, 1) := by decide +kernel
theorem f48_12 : zft 48 12 = some (.aload_n 0, 1) := by decide +kernel
theorem f48_13 : zft 48 13 = some (.getfield 94, 3) := by decide +kernel
theorem f48_16 : zft 48 16 = some (.if_icmp .le 14, 3) := by decide +kernel
theorem f48_19 : zft 48 19 = some (.iload_n 3, 1) := by decide +kernel
theorem f48_20 : zft 48 20 = some (.bipush 40, 2) := by decide +kernel
theorem f48_22 : zft 48 22 = some (.if_icmp .ge 8, 3) := by decide +kernel
theorem f48_25 : zft 48 25 = some (.iload_n 2, 1) := by decide +kernel
theorem f48_26 : zft 48 26 = some (.iload_n 3, 1) := by decide +kernel
theorem f48_27 : zft 48 27 = some (.if_icmp .le 6, 3) := by decide +kernel
theorem f48_30 : zft 48 30 = some (.bipush (-2), 2) := by decide +kernel
theorem f48_32 : zft 48 32 = some (.ireturn, 1) := by decide +kernel
theorem f48_33 : zft 48 33 = some (.aload_n 0, 1) := by decide +kernel
theorem f48_34 : zft 48 34 = some (.getfield 10, 3) := by decide +kernel
theorem f48_37 : zft 48 37 = some (.getfield 70, 3) := by decide +kernel
theorem f48_40 : zft 48 40 = some (.iload_n 1, 1) := by decide +kernel
theorem f48_41 : zft 48 41 = some (.aaload, 1) := by decide +kernel
theorem f48_42 : zft 48 42 = some (.iload_n 2, 1) := by decide +kernel
theorem f48_43 : zft 48 43 = some (.iload_n 3, 1) := by decide +kernel
theorem f48_44 : zft 48 44 = some (.invokevirtual 97, 3) := by decide +kernel
theorem f48_47 : zft 48 47 = some (.iconst 0, 1) := by decide +kernel
theorem f48_48 : zft 48 48 = some (.istore 4, 2) := by decide +kernel
theorem f48_50 : zft 48 50 = some (.iconst 0, 1) := by decide +kernel
theorem f48_51 : zft 48 51 = some (.istore 5, 2) := by decide +kernel
theorem f48_53 : zft 48 53 = some (.iload 5, 2) := by decide +kernel
theorem f48_55 : zft 48 55 = some (.aload_n 0, 1) := by decide +kernel
theorem f48_56 : zft 48 56 = some (.getfield 101, 3) := by decide +kernel
theorem f48_59 : zft 48 59 = some (.if_icmp .ge 50, 3) := by decide +kernel
theorem f48_62 : zft 48 62 = some (.aload_n 0, 1) := by decide +kernel
theorem f48_63 : zft 48 63 = some (.getfield 27, 3) := by decide +kernel
theorem f48_66 : zft 48 66 = some (.iload 5, 2) := by decide +kernel
theorem f48_68 : zft 48 68 = some (.aaload, 1) := by decide +kernel
theorem f48_69 : zft 48 69 = some (.astore 6, 2) := by decide +kernel
theorem f48_71 : zft 48 71 = some (.aload 6, 2) := by decide +kernel
theorem f48_73 : zft 48 73 = some (.getfield 104, 3) := by decide +kernel
theorem f48_76 : zft 48 76 = some (.iconst 1, 1) := by decide +kernel
theorem f48_77 : zft 48 77 = some (.if_icmp .ne 26, 3) := by decide +kernel
theorem f48_80 : zft 48 80 = some (.aload 6, 2) := by decide +kernel
theorem f48_82 : zft 48 82 = some (.iload_n 1, 1) := by decide +kernel
theorem f48_83 : zft 48 83 = some (.iload_n 2, 1) := by decide +kernel
theorem f48_84 : zft 48 84 = some (.iload_n 3, 1) := by decide +kernel
theorem f48_85 : zft 48 85 = some (.invokevirtual 107, 3) := by decide +kernel
theorem f48_88 : zft 48 88 = some (.ifCond .eq 15, 3) := by decide +kernel
theorem f48_91 : zft 48 91 = some (.aload_n 0, 1) := by decide +kernel
theorem f48_92 : zft 48 92 = some (.aload 6, 2) := by decide +kernel
theorem f48_94 : zft 48 94 = some (.invokevirtual 110, 3) := by decide +kernel
theorem f48_97 : zft 48 97 = some (.ifCond .ne 6, 3) := by decide +kernel
theorem f48_100 : zft 48 100 = some (.iinc 4 1, 3) := by decide +kernel
theorem f48_103 : zft 48 103 = some (.iinc 5 1, 3) := by decide +kernel
theorem f48_106 : zft 48 106 = some (.goto (-53), 3) := by decide +kernel
theorem f48_109 : zft 48 109 = some (.iload 4, 2) := by decide +kernel
theorem f48_111 : zft 48 111 = some (.ireturn, 1) := by decide +kernel
theorem o48 : zo 48 = 6 := by decide +kernel
theorem p48 : zp 48 = 3 := by decide +kernel
theorem n48 : zn 48 = 7 := by decide +kernel
theorem v48 : zr 48 = (some .int) := by decide +kernel
theorem f49_0 : zft 49 0 = some (.iload_n 1, 1) := by decide +kernel
theorem f49_1 : zft 49 1 = some (.iconst 1, 1) := by decide +kernel
theorem f49_2 : zft 49 2 = some (.bipush 12, 2) := by decide +kernel
theorem f49_4 : zft 49 4 = some (.invokestatic 50, 3) := by decide +kernel
theorem f49_7 : zft 49 7 = some (.ifCond .eq 27, 3) := by decide +kernel
theorem f49_10 : zft 49 10 = some (.iload_n 2, 1) := by decide +kernel
theorem f49_11 : zft 49 11 = some (.aload_n 0, 1) := by decide +kernel
theorem f49_12 : zft 49 12 = some (.getfield 94, 3) := by decide +kernel
theorem f49_15 : zft 49 15 = some (.bipush 39, 2) := by decide +kernel
theorem f49_17 : zft 49 17 = some (.invokestatic 50, 3) := by decide +kernel
theorem f49_20 : zft 49 20 = some (.ifCond .eq 14, 3) := by decide +kernel
theorem f49_23 : zft 49 23 = some (.aload_n 0, 1) := by decide +kernel
theorem f49_24 : zft 49 24 = some (.getfield 10, 3) := by decide +kernel
theorem f49_27 : zft 49 27 = some (.iload_n 3, 1) := by decide +kernel
theorem f49_28 : zft 49 28 = some (.invokevirtual 58, 3) := by decide +kernel
theorem f49_31 : zft 49 31 = some (.ifCond .ne 6, 3) := by decide +kernel
theorem f49_34 : zft 49 34 = some (.bipush (-2), 2) := by decide +kernel
theorem f49_36 : zft 49 36 = some (.ireturn, 1) := by decide +kernel
theorem f49_37 : zft 49 37 = some (.aload_n 0, 1) := by decide +kernel
theorem f49_38 : zft 49 38 = some (.getfield 101, 3) := by decide +kernel
theorem f49_41 : zft 49 41 = some (.bipush 40, 2) := by decide +kernel
theorem f49_43 : zft 49 43 = some (.if_icmp .lt 6, 3) := by decide +kernel
theorem f49_46 : zft 49 46 = some (.bipush (-4), 2) := by decide +kernel
theorem f49_48 : zft 49 48 = some (.ireturn, 1) := by decide +kernel
theorem f49_49 : zft 49 49 = some (.aload_n 0, 1) := by decide +kernel
theorem f49_50 : zft 49 50 = some (.getfield 27, 3) := by decide +kernel
theorem f49_53 : zft 49 53 = some (.aload_n 0, 1) := by decide +kernel
theorem f49_54 : zft 49 54 = some (.getfield 101, 3) := by decide +kernel
theorem f49_57 : zft 49 57 = some (.aaload, 1) := by decide +kernel
theorem f49_58 : zft 49 58 = some (.iload_n 1, 1) := by decide +kernel
theorem f49_59 : zft 49 59 = some (.iload_n 2, 1) := by decide +kernel
theorem f49_60 : zft 49 60 = some (.iload_n 3, 1) := by decide +kernel
theorem f49_61 : zft 49 61 = some (.invokevirtual 114, 3) := by decide +kernel
theorem f49_64 : zft 49 64 = some (.aload_n 0, 1) := by decide +kernel
theorem f49_65 : zft 49 65 = some (.dup, 1) := by decide +kernel
theorem f49_66 : zft 49 66 = some (.getfield 101, 3) := by decide +kernel
theorem f49_69 : zft 49 69 = some (.iconst 1, 1) := by decide +kernel
theorem f49_70 : zft 49 70 = some (.iadd, 1) := by decide +kernel
theorem f49_71 : zft 49 71 = some (.putfield 101, 3) := by decide +kernel
theorem f49_74 : zft 49 74 = some (.aload_n 0, 1) := by decide +kernel
theorem f49_75 : zft 49 75 = some (.getfield 101, 3) := by decide +kernel
theorem f49_78 : zft 49 78 = some (.iconst 1, 1) := by decide +kernel
theorem f49_79 : zft 49 79 = some (.isub, 1) := by decide +kernel
theorem f49_80 : zft 49 80 = some (.ireturn, 1) := by decide +kernel
theorem o49 : zo 49 = 6 := by decide +kernel
theorem p49 : zp 49 = 3 := by decide +kernel
theorem n49 : zn 49 = 4 := by decide +kernel
theorem v49 : zr 49 = (some .int) := by decide +kernel
theorem f50_0 : zft 50 0 = some (.aload_n 0, 1) := by decide +kernel
theorem f50_1 : zft 50 1 = some (.iload_n 1, 1) := by decide +kernel
theorem f50_2 : zft 50 2 = some (.invokevirtual 118, 3) := by decide +kernel
theorem f50_5 : zft 50 5 = some (.ifCond .eq 14, 3) := by decide +kernel
theorem f50_8 : zft 50 8 = some (.aload_n 0, 1) := by decide +kernel
theorem f50_9 : zft 50 9 = some (.getfield 10, 3) := by decide +kernel
theorem f50_12 : zft 50 12 = some (.iload_n 2, 1) := by decide +kernel
theorem f50_13 : zft 50 13 = some (.invokevirtual 58, 3) := by decide +kernel
theorem f50_16 : zft 50 16 = some (.ifCond .ne 6, 3) := by decide +kernel
theorem f50_19 : zft 50 19 = some (.bipush (-2), 2) := by decide +kernel
theorem f50_21 : zft 50 21 = some (.ireturn, 1) := by decide +kernel
theorem f50_22 : zft 50 22 = some (.aload_n 0, 1) := by decide +kernel
theorem f50_23 : zft 50 23 = some (.getfield 27, 3) := by decide +kernel
theorem f50_26 : zft 50 26 = some (.iload_n 1, 1) := by decide +kernel
theorem f50_27 : zft 50 27 = some (.aaload, 1) := by decide +kernel
theorem f50_28 : zft 50 28 = some (.astore_n 3, 1) := by decide +kernel
theorem f50_29 : zft 50 29 = some (.aload_n 3, 1) := by decide +kernel
theorem f50_30 : zft 50 30 = some (.getfield 121, 3) := by decide +kernel
theorem f50_33 : zft 50 33 = some (.aload_n 3, 1) := by decide +kernel
theorem f50_34 : zft 50 34 = some (.getfield 124, 3) := by decide +kernel
theorem f50_37 : zft 50 37 = some (.iadd, 1) := by decide +kernel
theorem f50_38 : zft 50 38 = some (.bipush 40, 2) := by decide +kernel
theorem f50_40 : zft 50 40 = some (.if_icmp .lt 6, 3) := by decide +kernel
theorem f50_43 : zft 50 43 = some (.bipush (-2), 2) := by decide +kernel
theorem f50_45 : zft 50 45 = some (.ireturn, 1) := by decide +kernel
theorem f50_46 : zft 50 46 = some (.aload_n 3, 1) := by decide +kernel
theorem f50_47 : zft 50 47 = some (.getfield 104, 3) := by decide +kernel
theorem f50_50 : zft 50 50 = some (.ifCond .eq 6, 3) := by decide +kernel
theorem f50_53 : zft 50 53 = some (.bipush (-3), 2) := by decide +kernel
theorem f50_55 : zft 50 55 = some (.ireturn, 1) := by decide +kernel
theorem f50_56 : zft 50 56 = some (.aload_n 3, 1) := by decide +kernel
theorem f50_57 : zft 50 57 = some (.getfield 124, 3) := by decide +kernel
theorem f50_60 : zft 50 60 = some (.bipush 7, 2) := by decide +kernel
theorem f50_62 : zft 50 62 = some (.if_icmp .lt 6, 3) := by decide +kernel
theorem f50_65 : zft 50 65 = some (.bipush (-4), 2) := by decide +kernel
theorem f50_67 : zft 50 67 = some (.ireturn, 1) := by decide +kernel
theorem f50_68 : zft 50 68 = some (.aload_n 3, 1) := by decide +kernel
theorem f50_69 : zft 50 69 = some (.getfield 127, 3) := by decide +kernel
theorem f50_72 : zft 50 72 = some (.aload_n 3, 1) := by decide +kernel
theorem f50_73 : zft 50 73 = some (.getfield 124, 3) := by decide +kernel
theorem f50_76 : zft 50 76 = some (.iload_n 2, 1) := by decide +kernel
theorem f50_77 : zft 50 77 = some (.iastore, 1) := by decide +kernel
theorem f50_78 : zft 50 78 = some (.aload_n 3, 1) := by decide +kernel
theorem f50_79 : zft 50 79 = some (.dup, 1) := by decide +kernel
theorem f50_80 : zft 50 80 = some (.getfield 124, 3) := by decide +kernel
theorem f50_83 : zft 50 83 = some (.iconst 1, 1) := by decide +kernel
theorem f50_84 : zft 50 84 = some (.iadd, 1) := by decide +kernel
theorem f50_85 : zft 50 85 = some (.putfield 124, 3) := by decide +kernel
theorem f50_88 : zft 50 88 = some (.aload_n 3, 1) := by decide +kernel
theorem f50_89 : zft 50 89 = some (.getfield 124, 3) := by decide +kernel
theorem f50_92 : zft 50 92 = some (.ireturn, 1) := by decide +kernel
theorem o50 : zo 50 = 6 := by decide +kernel
theorem p50 : zp 50 = 2 := by decide +kernel
theorem n50 : zn 50 = 4 := by decide +kernel
theorem v50 : zr 50 = (some .int) := by decide +kernel
theorem f51_0 : zft 51 0 = some (.aload_n 0, 1) := by decide +kernel
theorem f51_1 : zft 51 1 = some (.iload_n 1, 1) := by decide +kernel
theorem f51_2 : zft 51 2 = some (.invokevirtual 118, 3) := by decide +kernel
theorem f51_5 : zft 51 5 = some (.ifCond .ne 6, 3) := by decide +kernel
theorem f51_8 : zft 51 8 = some (.bipush (-2), 2) := by decide +kernel
theorem f51_10 : zft 51 10 = some (.ireturn, 1) := by decide +kernel
theorem f51_11 : zft 51 11 = some (.aload_n 0, 1) := by decide +kernel
theorem f51_12 : zft 51 12 = some (.aload_n 0, 1) := by decide +kernel
theorem f51_13 : zft 51 13 = some (.getfield 27, 3) := by decide +kernel
theorem f51_16 : zft 51 16 = some (.iload_n 1, 1) := by decide +kernel
theorem f51_17 : zft 51 17 = some (.aaload, 1) := by decide +kernel
theorem f51_18 : zft 51 18 = some (.invokevirtual 130, 3) := by decide +kernel
theorem f51_21 : zft 51 21 = some (.ifCond .ne 6, 3) := by decide +kernel
theorem f51_24 : zft 51 24 = some (.bipush (-3), 2) := by decide +kernel
theorem f51_26 : zft 51 26 = some (.ireturn, 1) := by decide +kernel
theorem f51_27 : zft 51 27 = some (.aload_n 0, 1) := by decide +kernel
theorem f51_28 : zft 51 28 = some (.aload_n 0, 1) := by decide +kernel
theorem f51_29 : zft 51 29 = some (.getfield 27, 3) := by decide +kernel
theorem f51_32 : zft 51 32 = some (.iload_n 1, 1) := by decide +kernel
theorem f51_33 : zft 51 33 = some (.aaload, 1) := by decide +kernel
theorem f51_34 : zft 51 34 = some (.invokevirtual 133, 3) := by decide +kernel
theorem f51_37 : zft 51 37 = some (.ireturn, 1) := by decide +kernel
theorem o51 : zo 51 = 6 := by decide +kernel
theorem p51 : zp 51 = 1 := by decide +kernel
theorem n51 : zn 51 = 2 := by decide +kernel
theorem v51 : zr 51 = (some .int) := by decide +kernel
theorem f52_0 : zft 52 0 = some (.aload_n 0, 1) := by decide +kernel
theorem f52_1 : zft 52 1 = some (.iload_n 1, 1) := by decide +kernel
theorem f52_2 : zft 52 2 = some (.invokevirtual 118, 3) := by decide +kernel
theorem f52_5 : zft 52 5 = some (.ifCond .ne 6, 3) := by decide +kernel
theorem f52_8 : zft 52 8 = some (.bipush (-2), 2) := by decide +kernel
theorem f52_10 : zft 52 10 = some (.ireturn, 1) := by decide +kernel
theorem f52_11 : zft 52 11 = some (.aload_n 0, 1) := by decide +kernel
theorem f52_12 : zft 52 12 = some (.aload_n 0, 1) := by decide +kernel
theorem f52_13 : zft 52 13 = some (.getfield 27, 3) := by decide +kernel
theorem f52_16 : zft 52 16 = some (.iload_n 1, 1) := by decide +kernel
theorem f52_17 : zft 52 17 = some (.aaload, 1) := by decide +kernel
theorem f52_18 : zft 52 18 = some (.invokevirtual 130, 3) := by decide +kernel
theorem f52_21 : zft 52 21 = some (.ifCond .ne 6, 3) := by decide +kernel
theorem f52_24 : zft 52 24 = some (.bipush (-3), 2) := by decide +kernel
theorem f52_26 : zft 52 26 = some (.ireturn, 1) := by decide +kernel
theorem f52_27 : zft 52 27 = some (.aload_n 0, 1) := by decide +kernel
theorem f52_28 : zft 52 28 = some (.getfield 21, 3) := by decide +kernel
theorem f52_31 : zft 52 31 = some (.aload_n 0, 1) := by decide +kernel
theorem f52_32 : zft 52 32 = some (.getfield 27, 3) := by decide +kernel
theorem f52_35 : zft 52 35 = some (.iload_n 1, 1) := by decide +kernel
theorem f52_36 : zft 52 36 = some (.aaload, 1) := by decide +kernel
theorem f52_37 : zft 52 37 = some (.iconst (-1), 1) := by decide +kernel
theorem f52_38 : zft 52 38 = some (.invokevirtual 137, 3) := by decide +kernel
theorem f52_41 : zft 52 41 = some (.ireturn, 1) := by decide +kernel
theorem o52 : zo 52 = 6 := by decide +kernel
theorem p52 : zp 52 = 1 := by decide +kernel
theorem n52 : zn 52 = 2 := by decide +kernel
theorem v52 : zr 52 = (some .int) := by decide +kernel
theorem f53_0 : zft 53 0 = some (.aload_n 0, 1) := by decide +kernel
theorem f53_1 : zft 53 1 = some (.iload_n 1, 1) := by decide +kernel
theorem f53_2 : zft 53 2 = some (.invokevirtual 118, 3) := by decide +kernel
theorem f53_5 : zft 53 5 = some (.ifCond .eq 22, 3) := by decide +kernel
theorem f53_8 : zft 53 8 = some (.iload_n 2, 1) := by decide +kernel
theorem f53_9 : zft 53 9 = some (.iconst 0, 1) := by decide +kernel
theorem f53_10 : zft 53 10 = some (.aload_n 0, 1) := by decide +kernel
theorem f53_11 : zft 53 11 = some (.getfield 27, 3) := by decide +kernel
theorem f53_14 : zft 53 14 = some (.iload_n 1, 1) := by decide +kernel
theorem f53_15 : zft 53 15 = some (.aaload, 1) := by decide +kernel
theorem f53_16 : zft 53 16 = some (.getfield 124, 3) := by decide +kernel
theorem f53_19 : zft 53 19 = some (.iconst 1, 1) := by decide +kernel
theorem f53_20 : zft 53 20 = some (.isub, 1) := by decide +kernel
theorem f53_21 : zft 53 21 = some (.invokestatic 50, 3) := by decide +kernel
theorem f53_24 : zft 53 24 = some (.ifCond .ne 6, 3) := by decide +kernel
theorem f53_27 : zft 53 27 = some (.bipush (-2), 2) := by decide +kernel
theorem f53_29 : zft 53 29 = some (.ireturn, 1) := by decide +kernel
theorem f53_30 : zft 53 30 = some (.aload_n 0, 1) := by decide +kernel
theorem f53_31 : zft 53 31 = some (.aload_n 0, 1) := by decide +kernel
theorem f53_32 : zft 53 32 = some (.getfield 27, 3) := by decide +kernel
theorem f53_35 : zft 53 35 = some (.iload_n 1, 1) := by decide +kernel
theorem f53_36 : zft 53 36 = some (.aaload, 1) := by decide +kernel
theorem f53_37 : zft 53 37 = some (.invokevirtual 130, 3) := by decide +kernel
theorem f53_40 : zft 53 40 = some (.ifCond .ne 6, 3) := by decide +kernel
theorem f53_43 : zft 53 43 = some (.bipush (-3), 2) := by decide +kernel
theorem f53_45 : zft 53 45 = some (.ireturn, 1) := by decide +kernel
theorem f53_46 : zft 53 46 = some (.aload_n 0, 1) := by decide +kernel
theorem f53_47 : zft 53 47 = some (.getfield 21, 3) := by decide +kernel
theorem f53_50 : zft 53 50 = some (.aload_n 0, 1) := by decide +kernel
theorem f53_51 : zft 53 51 = some (.getfield 27, 3) := by decide +kernel
theorem f53_54 : zft 53 54 = some (.iload_n 1, 1) := by decide +kernel
theorem f53_55 : zft 53 55 = some (.aaload, 1) := by decide +kernel
theorem f53_56 : zft 53 56 = some (.iconst (-1), 1) := by decide +kernel
theorem f53_57 : zft 53 57 = some (.invokevirtual 137, 3) := by decide +kernel
theorem f53_60 : zft 53 60 = some (.iconst (-1), 1) := by decide +kernel
theorem f53_61 : zft 53 61 = some (.if_icmp .ne 7, 3) := by decide +kernel
theorem f53_64 : zft 53 64 = some (.iconst (-1), 1) := by decide +kernel
theorem f53_65 : zft 53 65 = some (.goto 12, 3) := by decide +kernel
theorem f53_68 : zft 53 68 = some (.aload_n 0, 1) := by decide +kernel
theorem f53_69 : zft 53 69 = some (.getfield 21, 3) := by decide +kernel
theorem f53_72 : zft 53 72 = some (.getfield 141, 3) := by decide +kernel
theorem f53_75 : zft 53 75 = some (.iload_n 2, 1) := by decide +kernel
theorem f53_76 : zft 53 76 = some (.iaload, 1) := by decide +kernel
theorem f53_77 : zft 53 77 = some (.ireturn, 1) := by decide +kernel
theorem o53 : zo 53 = 6 := by decide +kernel
theorem p53 : zp 53 = 2 := by decide +kernel
theorem n53 : zn 53 = 3 := by decide +kernel
theorem v53 : zr 53 = (some .int) := by decide +kernel
theorem f54_0 : zft 54 0 = some (.aload_n 0, 1) := by decide +kernel
theorem f54_1 : zft 54 1 = some (.iload_n 1, 1) := by decide +kernel
theorem f54_2 : zft 54 2 = some (.invokevirtual 118, 3) := by decide +kernel
theorem f54_5 : zft 54 5 = some (.ifCond .ne 6, 3) := by decide +kernel
theorem f54_8 : zft 54 8 = some (.bipush (-2), 2) := by decide +kernel
theorem f54_10 : zft 54 10 = some (.ireturn, 1) := by decide +kernel
theorem f54_11 : zft 54 11 = some (.aload_n 0, 1) := by decide +kernel
theorem f54_12 : zft 54 12 = some (.getfield 27, 3) := by decide +kernel
theorem f54_15 : zft 54 15 = some (.iload_n 1, 1) := by decide +kernel
theorem f54_16 : zft 54 16 = some (.aaload, 1) := by decide +kernel
theorem f54_17 : zft 54 17 = some (.astore_n 2, 1) := by decide +kernel
theorem f54_18 : zft 54 18 = some (.aload_n 0, 1) := by decide +kernel
theorem f54_19 : zft 54 19 = some (.aload_n 2, 1) := by decide +kernel
theorem f54_20 : zft 54 20 = some (.invokevirtual 130, 3) := by decide +kernel
theorem f54_23 : zft 54 23 = some (.ifCond .ne 6, 3) := by decide +kernel
theorem f54_26 : zft 54 26 = some (.bipush (-3), 2) := by decide +kernel
theorem f54_28 : zft 54 28 = some (.ireturn, 1) := by decide +kernel
theorem f54_29 : zft 54 29 = some (.aload_n 0, 1) := by decide +kernel
theorem f54_30 : zft 54 30 = some (.getfield 21, 3) := by decide +kernel
theorem f54_33 : zft 54 33 = some (.aload_n 2, 1) := by decide +kernel
theorem f54_34 : zft 54 34 = some (.iconst (-1), 1) := by decide +kernel
theorem f54_35 : zft 54 35 = some (.invokevirtual 137, 3) := by decide +kernel
theorem f54_38 : zft 54 38 = some (.istore_n 3, 1) := by decide +kernel
theorem f54_39 : zft 54 39 = some (.iload_n 3, 1) := by decide +kernel
theorem f54_40 : zft 54 40 = some (.iconst (-1), 1) := by decide +kernel
theorem f54_41 : zft 54 41 = some (.if_icmp .eq 26, 3) := by decide +kernel
theorem f54_44 : zft 54 44 = some (.aload_n 2, 1) := by decide +kernel
theorem f54_45 : zft 54 45 = some (.aload_n 0, 1) := by decide +kernel
theorem f54_46 : zft 54 46 = some (.getfield 21, 3) := by decide +kernel
theorem f54_49 : zft 54 49 = some (.getfield 141, 3) := by decide +kernel
theorem f54_52 : zft 54 52 = some (.iconst 0, 1) := by decide +kernel
theorem f54_53 : zft 54 53 = some (.invokevirtual 144, 3) := by decide +kernel
theorem f54_56 : zft 54 56 = some (.aload_n 0, 1) := by decide +kernel
theorem f54_57 : zft 54 57 = some (.aload_n 2, 1) := by decide +kernel
theorem f54_58 : zft 54 58 = some (.iconst 0, 1) := by decide +kernel
theorem f54_59 : zft 54 59 = some (.invokevirtual 148, 3) := by decide +kernel
theorem f54_62 : zft 54 62 = some (.aload_n 2, 1) := by decide +kernel
theorem f54_63 : zft 54 63 = some (.iconst 1, 1) := by decide +kernel
theorem f54_64 : zft 54 64 = some (.putfield 104, 3) := by decide +kernel
theorem f54_67 : zft 54 67 = some (.iload_n 3, 1) := by decide +kernel
theorem f54_68 : zft 54 68 = some (.ireturn, 1) := by decide +kernel
theorem o54 : zo 54 = 6 := by decide +kernel
theorem p54 : zp 54 = 1 := by decide +kernel
theorem n54 : zn 54 = 4 := by decide +kernel
theorem v54 : zr 54 = (some .int) := by decide +kernel
theorem f55_0 : zft 55 0 = some (.aload_n 0, 1) := by decide +kernel
theorem f55_1 : zft 55 1 = some (.iload_n 1, 1) := by decide +kernel
theorem f55_2 : zft 55 2 = some (.invokevirtual 118, 3) := by decide +kernel
theorem f55_5 : zft 55 5 = some (.ifCond .ne 6, 3) := by decide +kernel
theorem f55_8 : zft 55 8 = some (.bipush (-2), 2) := by decide +kernel
theorem f55_10 : zft 55 10 = some (.ireturn, 1) := by decide +kernel
theorem f55_11 : zft 55 11 = some (.aload_n 0, 1) := by decide +kernel
theorem f55_12 : zft 55 12 = some (.getfield 27, 3) := by decide +kernel
theorem f55_15 : zft 55 15 = some (.iload_n 1, 1) := by decide +kernel
theorem f55_16 : zft 55 16 = some (.aaload, 1) := by decide +kernel
theorem f55_17 : zft 55 17 = some (.astore_n 2, 1) := by decide +kernel
theorem f55_18 : zft 55 18 = some (.aload_n 2, 1) := by decide +kernel
theorem f55_19 : zft 55 19 = some (.getfield 104, 3) := by decide +kernel
theorem f55_22 : zft 55 22 = some (.iconst 1, 1) := by decide +kernel
theorem f55_23 : zft 55 23 = some (.if_icmp .ne 14, 3) := by decide +kernel
theorem f55_26 : zft 55 26 = some (.aload_n 2, 1) := by decide +kernel
theorem f55_27 : zft 55 27 = some (.getfield 121, 3) := by decide +kernel
theorem f55_30 : zft 55 30 = some (.aload_n 0, 1) := by decide +kernel
theorem f55_31 : zft 55 31 = some (.getfield 94, 3) := by decide +kernel
theorem f55_34 : zft 55 34 = some (.if_icmp .gt 6, 3) := by decide +kernel
theorem f55_37 : zft 55 37 = some (.bipush (-3), 2) := by decide +kernel
theorem f55_39 : zft 55 39 = some (.ireturn, 1) := by decide +kernel
theorem f55_40 : zft 55 40 = some (.aload_n 0, 1) := by decide +kernel
theorem f55_41 : zft 55 41 = some (.aload_n 2, 1) := by decide +kernel
theorem f55_42 : zft 55 42 = some (.iconst 0, 1) := by decide +kernel
theorem f55_43 : zft 55 43 = some (.invokevirtual 152, 3) := by decide +kernel
theorem f55_46 : zft 55 46 = some (.aload_n 2, 1) := by decide +kernel
theorem f55_47 : zft 55 47 = some (.iconst 2, 1) := by decide +kernel
theorem f55_48 : zft 55 48 = some (.putfield 104, 3) := by decide +kernel
theorem f55_51 : zft 55 51 = some (.aload_n 0, 1) := by decide +kernel
theorem f55_52 : zft 55 52 = some (.getfield 41, 3) := by decide +kernel
theorem f55_55 : zft 55 55 = some (.aload_n 2, 1) := by decide +kernel
theorem f55_56 : zft 55 56 = some (.getfield 121, 3) := by decide +kernel
theorem f55_59 : zft 55 59 = some (.aload_n 0, 1) := by decide +kernel
theorem f55_60 : zft 55 60 = some (.getfield 94, 3) := by decide +kernel
theorem f55_63 : zft 55 63 = some (.isub, 1) := by decide +kernel
theorem f55_64 : zft 55 64 = some (.invokevirtual 155, 3) := by decide +kernel
theorem f55_67 : zft 55 67 = some (.ireturn, 1) := by decide +kernel
theorem o55 : zo 55 = 6 := by decide +kernel
theorem p55 : zp 55 = 1 := by decide +kernel
theorem n55 : zn 55 = 3 := by decide +kernel
theorem v55 : zr 55 = (some .int) := by decide +kernel
theorem f56_0 : zft 56 0 = some (.aload_n 0, 1) := by decide +kernel
theorem f56_1 : zft 56 1 = some (.iload_n 1, 1) := by decide +kernel
theorem f56_2 : zft 56 2 = some (.invokevirtual 118, 3) := by decide +kernel
theorem f56_5 : zft 56 5 = some (.ifCond .ne 6, 3) := by decide +kernel
theorem f56_8 : zft 56 8 = some (.bipush (-2), 2) := by decide +kernel
theorem f56_10 : zft 56 10 = some (.ireturn, 1) := by decide +kernel
theorem f56_11 : zft 56 11 = some (.aload_n 0, 1) := by decide +kernel
theorem f56_12 : zft 56 12 = some (.getfield 27, 3) := by decide +kernel
theorem f56_15 : zft 56 15 = some (.iload_n 1, 1) := by decide +kernel
theorem f56_16 : zft 56 16 = some (.aaload, 1) := by decide +kernel
theorem f56_17 : zft 56 17 = some (.astore_n 3, 1) := by decide +kernel
theorem f56_18 : zft 56 18 = some (.iload_n 2, 1) := by decide +kernel
theorem f56_19 : zft 56 19 = some (.bipush 10, 2) := by decide +kernel
theorem f56_21 : zft 56 21 = some (.bipush 10, 2) := by decide +kernel
theorem f56_23 : zft 56 23 = some (.aload_n 3, 1) := by decide +kernel
theorem f56_24 : zft 56 24 = some (.getfield 124, 3) := by decide +kernel
theorem f56_27 : zft 56 27 = some (.iadd, 1) := by decide +kernel
theorem f56_28 : zft 56 28 = some (.iconst 1, 1) := by decide +kernel
theorem f56_29 : zft 56 29 = some (.isub, 1) := by decide +kernel
theorem f56_30 : zft 56 30 = some (.invokestatic 50, 3) := by decide +kernel
theorem f56_33 : zft 56 33 = some (.ifCond .eq 13, 3) := by decide +kernel
theorem f56_36 : zft 56 36 = some (.aload_n 3, 1) := by decide +kernel
theorem f56_37 : zft 56 37 = some (.getfield 127, 3) := by decide +kernel
theorem f56_40 : zft 56 40 = some (.iload_n 2, 1) := by decide +kernel
theorem f56_41 : zft 56 41 = some (.bipush 10, 2) := by decide +kernel
theorem f56_43 : zft 56 43 = some (.isub, 1) := by decide +kernel
theorem f56_44 : zft 56 44 = some (.iaload, 1) := by decide +kernel
theorem f56_45 : zft 56 45 = some (.ireturn, 1) := by decide +kernel
theorem f56_46 : zft 56 46 = some (.iload_n 2, 1) := by decide +kernel
theorem f56_47 : zft 56 47 = some (.bipush 20, 2) := by decide +kernel
theorem f56_49 : zft 56 49 = some (.bipush 20, 2) := by decide +kernel
theorem f56_51 : zft 56 51 = some (.aload_n 3, 1) := by decide +kernel
theorem f56_52 : zft 56 52 = some (.getfield 124, 3) := by decide +kernel
theorem f56_55 : zft 56 55 = some (.iadd, 1) := by decide +kernel
theorem f56_56 : zft 56 56 = some (.iconst 1, 1) := by decide +kernel
theorem f56_57 : zft 56 57 = some (.isub, 1) := by decide +kernel
theorem f56_58 : zft 56 58 = some (.invokestatic 50, 3) := by decide +kernel
theorem f56_61 : zft 56 61 = some (.ifCond .eq 20, 3) := by decide +kernel
theorem f56_64 : zft 56 64 = some (.aload_n 3, 1) := by decide +kernel
theorem f56_65 : zft 56 65 = some (.iload_n 2, 1) := by decide +kernel
theorem f56_66 : zft 56 66 = some (.bipush 20, 2) := by decide +kernel
theorem f56_68 : zft 56 68 = some (.isub, 1) := by decide +kernel
theorem f56_69 : zft 56 69 = some (.invokevirtual 158, 3) := by decide +kernel
theorem f56_72 : zft 56 72 = some (.ifCond .eq 7, 3) := by decide +kernel
theorem f56_75 : zft 56 75 = some (.iconst 1, 1) := by decide +kernel
theorem f56_76 : zft 56 76 = some (.goto 4, 3) := by decide +kernel
theorem f56_79 : zft 56 79 = some (.iconst 0, 1) := by decide +kernel
theorem f56_80 : zft 56 80 = some (.ireturn, 1) := by decide +kernel
theorem f56_81 : zft 56 81 = some (.iload_n 2, 1) := by decide +kernel
theorem f56_82 : zft 56 82 = some (.tableswitch 81 0 6 #[42, 47, 52, 57, 62, 71, 76], 42) := by decide +kernel
theorem f56_124 : zft 56 124 = some (.aload_n 3, 1) := by decide +kernel
theorem f56_125 : zft 56 125 = some (.getfield 161, 3) := by decide +kernel
theorem f56_128 : zft 56 128 = some (.ireturn, 1) := by decide +kernel
theorem f56_129 : zft 56 129 = some (.aload_n 3, 1) := by decide +kernel
theorem f56_130 : zft 56 130 = some (.getfield 121, 3) := by decide +kernel
theorem f56_133 : zft 56 133 = some (.ireturn, 1) := by decide +kernel
theorem f56_134 : zft 56 134 = some (.aload_n 3, 1) := by decide +kernel
theorem f56_135 : zft 56 135 = some (.getfield 124, 3) := by decide +kernel
theorem f56_138 : zft 56 138 = some (.ireturn, 1) := by decide +kernel
theorem f56_139 : zft 56 139 = some (.aload_n 3, 1) := by decide +kernel
theorem f56_140 : zft 56 140 = some (.getfield 104, 3) := by decide +kernel
theorem f56_143 : zft 56 143 = some (.ireturn, 1) := by decide +kernel
theorem f56_144 : zft 56 144 = some (.aload_n 0, 1) := by decide +kernel
theorem f56_145 : zft 56 145 = some (.getfield 10, 3) := by decide +kernel
theorem f56_148 : zft 56 148 = some (.aload_n 3, 1) := by decide +kernel
theorem f56_149 : zft 56 149 = some (.invokevirtual 164, 3) := by decide +kernel
theorem f56_152 : zft 56 152 = some (.ireturn, 1) := by decide +kernel
theorem f56_153 : zft 56 153 = some (.aload_n 3, 1) := by decide +kernel
theorem f56_154 : zft 56 154 = some (.getfield 167, 3) := by decide +kernel
theorem f56_157 : zft 56 157 = some (.ireturn, 1) := by decide +kernel
theorem f56_158 : zft 56 158 = some (.aload_n 3, 1) := by decide +kernel
theorem f56_159 : zft 56 159 = some (.invokevirtual 170, 3) := by decide +kernel
theorem f56_162 : zft 56 162 = some (.ireturn, 1) := by decide +kernel
theorem f56_163 : zft 56 163 = some (.bipush (-2), 2) := by decide +kernel
theorem f56_165 : zft 56 165 = some (.ireturn, 1) := by decide +kernel
theorem o56 : zo 56 = 6 := by decide +kernel
theorem p56 : zp 56 = 2 := by decide +kernel
theorem n56 : zn 56 = 4 := by decide +kernel
theorem v56 : zr 56 = (some .int) := by decide +kernel
theorem f57_0 : zft 57 0 = some (.aload_n 0, 1) := by decide +kernel
theorem f57_1 : zft 57 1 = some (.iload_n 1, 1) := by decide +kernel
theorem f57_2 : zft 57 2 = some (.invokevirtual 118, 3) := by decide +kernel
theorem f57_5 : zft 57 5 = some (.ifCond .eq 31, 3) := by decide +kernel
theorem f57_8 : zft 57 8 = some (.iload_n 2, 1) := by decide +kernel
theorem f57_9 : zft 57 9 = some (.iconst 0, 1) := by decide +kernel
theorem f57_10 : zft 57 10 = some (.aload_n 0, 1) := by decide +kernel
theorem f57_11 : zft 57 11 = some (.getfield 27, 3) := by decide +kernel
theorem f57_14 : zft 57 14 = some (.iload_n 1, 1) := by decide +kernel
theorem f57_15 : zft 57 15 = some (.aaload, 1) := by decide +kernel
theorem f57_16 : zft 57 16 = some (.getfield 124, 3) := by decide +kernel
theorem f57_19 : zft 57 19 = some (.iconst 1, 1) := by decide +kernel
theorem f57_20 : zft 57 20 = some (.isub, 1) := by decide +kernel
theorem f57_21 : zft 57 21 = some (.invokestatic 50, 3) := by decide +kernel
theorem f57_24 : zft 57 24 = some (.ifCond .eq 12, 3) := by decide +kernel
theorem f57_27 : zft 57 27 = some (.iload_n 3, 1) := by decide +kernel
theorem f57_28 : zft 57 28 = some (.iconst 0, 1) := by decide +kernel
theorem f57_29 : zft 57 29 = some (.iconst 2, 1) := by decide +kernel
theorem f57_30 : zft 57 30 = some (.invokestatic 50, 3) := by decide +kernel
theorem f57_33 : zft 57 33 = some (.ifCond .ne 6, 3) := by decide +kernel
theorem f57_36 : zft 57 36 = some (.bipush (-2), 2) := by decide +kernel
theorem f57_38 : zft 57 38 = some (.ireturn, 1) := by decide +kernel
theorem f57_39 : zft 57 39 = some (.aload_n 0, 1) := by decide +kernel
theorem f57_40 : zft 57 40 = some (.getfield 27, 3) := by decide +kernel
theorem f57_43 : zft 57 43 = some (.iload_n 1, 1) := by decide +kernel
theorem f57_44 : zft 57 44 = some (.aaload, 1) := by decide +kernel
theorem f57_45 : zft 57 45 = some (.getfield 174, 3) := by decide +kernel
theorem f57_48 : zft 57 48 = some (.iload_n 2, 1) := by decide +kernel
theorem f57_49 : zft 57 49 = some (.iconst 3, 1) := by decide +kernel
theorem f57_50 : zft 57 50 = some (.imul, 1) := by decide +kernel
theorem f57_51 : zft 57 51 = some (.iload_n 3, 1) := by decide +kernel
theorem f57_52 : zft 57 52 = some (.iadd, 1) := by decide +kernel
theorem f57_53 : zft 57 53 = some (.iaload, 1) := by decide +kernel
theorem f57_54 : zft 57 54 = some (.ireturn, 1) := by decide +kernel
theorem o57 : zo 57 = 6 := by decide +kernel
theorem p57 : zp 57 = 3 := by decide +kernel
theorem n57 : zn 57 = 4 := by decide +kernel
theorem v57 : zr 57 = (some .int) := by decide +kernel
theorem f58_0 : zft 58 0 = some (.aload_n 0, 1) := by decide +kernel
theorem f58_1 : zft 58 1 = some (.iload_n 1, 1) := by decide +kernel
theorem f58_2 : zft 58 2 = some (.invokevirtual 118, 3) := by decide +kernel
theorem f58_5 : zft 58 5 = some (.ifCond .eq 25, 3) := by decide +kernel
theorem f58_8 : zft 58 8 = some (.iload_n 2, 1) := by decide +kernel
theorem f58_9 : zft 58 9 = some (.iconst 0, 1) := by decide +kernel
theorem f58_10 : zft 58 10 = some (.sipush 999, 3) := by decide +kernel
theorem f58_13 : zft 58 13 = some (.invokestatic 50, 3) := by decide +kernel
theorem f58_16 : zft 58 16 = some (.ifCond .eq 14, 3) := by decide +kernel
theorem f58_19 : zft 58 19 = some (.iload_n 3, 1) := by decide +kernel
theorem f58_20 : zft 58 20 = some (.iload_n 2, 1) := by decide +kernel
theorem f58_21 : zft 58 21 = some (.sipush 999, 3) := by decide +kernel
theorem f58_24 : zft 58 24 = some (.invokestatic 50, 3) := by decide +kernel
theorem f58_27 : zft 58 27 = some (.ifCond .ne 6, 3) := by decide +kernel
theorem f58_30 : zft 58 30 = some (.bipush (-2), 2) := by decide +kernel
theorem f58_32 : zft 58 32 = some (.ireturn, 1) := by decide +kernel
theorem f58_33 : zft 58 33 = some (.aload_n 0, 1) := by decide +kernel
theorem f58_34 : zft 58 34 = some (.getfield 27, 3) := by decide +kernel
theorem f58_37 : zft 58 37 = some (.iload_n 1, 1) := by decide +kernel
theorem f58_38 : zft 58 38 = some (.aaload, 1) := by decide +kernel
theorem f58_39 : zft 58 39 = some (.getfield 104, 3) := by decide +kernel
theorem f58_42 : zft 58 42 = some (.ifCond .eq 6, 3) := by decide +kernel
theorem f58_45 : zft 58 45 = some (.bipush (-3), 2) := by decide +kernel
theorem f58_47 : zft 58 47 = some (.ireturn, 1) := by decide +kernel
theorem f58_48 : zft 58 48 = some (.aload_n 0, 1) := by decide +kernel
theorem f58_49 : zft 58 49 = some (.getfield 34, 3) := by decide +kernel
theorem f58_52 : zft 58 52 = some (.iload_n 1, 1) := by decide +kernel
theorem f58_53 : zft 58 53 = some (.iload_n 2, 1) := by decide +kernel
theorem f58_54 : zft 58 54 = some (.iload_n 3, 1) := by decide +kernel
theorem f58_55 : zft 58 55 = some (.invokevirtual 177, 3) := by decide +kernel
theorem f58_58 : zft 58 58 = some (.ireturn, 1) := by decide +kernel
theorem o58 : zo 58 = 6 := by decide +kernel
theorem p58 : zp 58 = 3 := by decide +kernel
theorem n58 : zn 58 = 4 := by decide +kernel
theorem v58 : zr 58 = (some .int) := by decide +kernel
end
section
theorem f59_0 : zft 59 0 = some (.iload_n 1, 1) := by decide +kernel
theorem f59_1 : zft 59 1 = some (.iconst 0, 1) := by decide +kernel
theorem f59_2 : zft 59 2 = some (.sipush 999, 3) := by decide +kernel
theorem f59_5 : zft 59 5 = some (.invokestatic 50, 3) := by decide +kernel
theorem f59_8 : zft 59 8 = some (.ifCond .ne 6, 3) := by decide +kernel
theorem f59_11 : zft 59 11 = some (.bipush (-2), 2) := by decide +kernel
theorem f59_13 : zft 59 13 = some (.ireturn, 1) := by decide +kernel
theorem f59_14 : zft 59 14 = some (.iconst 0, 1) := by decide +kernel
theorem f59_15 : zft 59 15 = some (.istore_n 2, 1) := by decide +kernel
theorem f59_16 : zft 59 16 = some (.iconst 0, 1) := by decide +kernel
theorem f59_17 : zft 59 17 = some (.istore_n 3, 1) := by decide +kernel
theorem f59_18 : zft 59 18 = some (.iload_n 3, 1) := by decide +kernel
theorem f59_19 : zft 59 19 = some (.bipush 40, 2) := by decide +kernel
theorem f59_21 : zft 59 21 = some (.if_icmp .ge 64, 3) := by decide +kernel
theorem f59_24 : zft 59 24 = some (.aload_n 0, 1) := by decide +kernel
theorem f59_25 : zft 59 25 = some (.getfield 34, 3) := by decide +kernel
theorem f59_28 : zft 59 28 = some (.iload_n 1, 1) := by decide +kernel
theorem f59_29 : zft 59 29 = some (.invokevirtual 180, 3) := by decide +kernel
theorem f59_32 : zft 59 32 = some (.istore 4, 2) := by decide +kernel
theorem f59_34 : zft 59 34 = some (.iload 4, 2) := by decide +kernel
theorem f59_36 : zft 59 36 = some (.iconst (-1), 1) := by decide +kernel
theorem f59_37 : zft 59 37 = some (.if_icmp .ne 6, 3) := by decide +kernel
theorem f59_40 : zft 59 40 = some (.goto 45, 3) := by decide +kernel
theorem f59_43 : zft 59 43 = some (.aload_n 0, 1) := by decide +kernel
theorem f59_44 : zft 59 44 = some (.getfield 34, 3) := by decide +kernel
theorem f59_47 : zft 59 47 = some (.getfield 183, 3) := by decide +kernel
theorem f59_50 : zft 59 50 = some (.iload 4, 2) := by decide +kernel
theorem f59_52 : zft 59 52 = some (.iconst 1, 1) := by decide +kernel
theorem f59_53 : zft 59 53 = some (.bastore, 1) := by decide +kernel
theorem f59_54 : zft 59 54 = some (.aload_n 0, 1) := by decide +kernel
theorem f59_55 : zft 59 55 = some (.aload_n 0, 1) := by decide +kernel
theorem f59_56 : zft 59 56 = some (.getfield 27, 3) := by decide +kernel
theorem f59_59 : zft 59 59 = some (.aload_n 0, 1) := by decide +kernel
theorem f59_60 : zft 59 60 = some (.getfield 34, 3) := by decide +kernel
theorem f59_63 : zft 59 63 = some (.getfield 186, 3) := by decide +kernel
theorem f59_66 : zft 59 66 = some (.iload 4, 2) := by decide +kernel
theorem f59_68 : zft 59 68 = some (.iaload, 1) := by decide +kernel
theorem f59_69 : zft 59 69 = some (.aaload, 1) := by decide +kernel
theorem f59_70 : zft 59 70 = some (.invokevirtual 189, 3) := by decide +kernel
theorem f59_73 : zft 59 73 = some (.ifCond .eq 6, 3) := by decide +kernel
theorem f59_76 : zft 59 76 = some (.iinc 2 1, 3) := by decide +kernel
theorem f59_79 : zft 59 79 = some (.iinc 3 1, 3) := by decide +kernel
theorem f59_82 : zft 59 82 = some (.goto (-64), 3) := by decide +kernel
theorem f59_85 : zft 59 85 = some (.iload_n 2, 1) := by decide +kernel
theorem f59_86 : zft 59 86 = some (.ireturn, 1) := by decide +kernel
theorem o59 : zo 59 = 6 := by decide +kernel
theorem p59 : zp 59 = 1 := by decide +kernel
theorem n59 : zn 59 = 5 := by decide +kernel
theorem v59 : zr 59 = (some .int) := by decide +kernel
theorem f60_0 : zft 60 0 = some (.aload_n 0, 1) := by decide +kernel
theorem f60_1 : zft 60 1 = some (.iload_n 1, 1) := by decide +kernel
theorem f60_2 : zft 60 2 = some (.invokevirtual 118, 3) := by decide +kernel
theorem f60_5 : zft 60 5 = some (.ifCond .ne 6, 3) := by decide +kernel
theorem f60_8 : zft 60 8 = some (.bipush (-2), 2) := by decide +kernel
theorem f60_10 : zft 60 10 = some (.ireturn, 1) := by decide +kernel
theorem f60_11 : zft 60 11 = some (.aload_n 0, 1) := by decide +kernel
theorem f60_12 : zft 60 12 = some (.getfield 27, 3) := by decide +kernel
theorem f60_15 : zft 60 15 = some (.iload_n 1, 1) := by decide +kernel
theorem f60_16 : zft 60 16 = some (.aaload, 1) := by decide +kernel
theorem f60_17 : zft 60 17 = some (.astore_n 2, 1) := by decide +kernel
theorem f60_18 : zft 60 18 = some (.aload_n 2, 1) := by decide +kernel
theorem f60_19 : zft 60 19 = some (.aload_n 0, 1) := by decide +kernel
theorem f60_20 : zft 60 20 = some (.getfield 94, 3) := by decide +kernel
theorem f60_23 : zft 60 23 = some (.invokevirtual 192, 3) := by decide +kernel
theorem f60_26 : zft 60 26 = some (.ifCond .eq 20, 3) := by decide +kernel
theorem f60_29 : zft 60 29 = some (.aload_n 2, 1) := by decide +kernel
theorem f60_30 : zft 60 30 = some (.getfield 195, 3) := by decide +kernel
theorem f60_33 : zft 60 33 = some (.aload_n 0, 1) := by decide +kernel
theorem f60_34 : zft 60 34 = some (.getfield 94, 3) := by decide +kernel
theorem f60_37 : zft 60 37 = some (.aload_n 2, 1) := by decide +kernel
theorem f60_38 : zft 60 38 = some (.getfield 121, 3) := by decide +kernel
theorem f60_41 : zft 60 41 = some (.isub, 1) := by decide +kernel
theorem f60_42 : zft 60 42 = some (.baload, 1) := by decide +kernel
theorem f60_43 : zft 60 43 = some (.ifCond .eq 6, 3) := by decide +kernel
theorem f60_46 : zft 60 46 = some (.bipush (-3), 2) := by decide +kernel
theorem f60_48 : zft 60 48 = some (.ireturn, 1) := by decide +kernel
theorem f60_49 : zft 60 49 = some (.aload_n 2, 1) := by decide +kernel
theorem f60_50 : zft 60 50 = some (.getfield 195, 3) := by decide +kernel
theorem f60_53 : zft 60 53 = some (.aload_n 0, 1) := by decide +kernel
theorem f60_54 : zft 60 54 = some (.getfield 94, 3) := by decide +kernel
theorem f60_57 : zft 60 57 = some (.aload_n 2, 1) := by decide +kernel
theorem f60_58 : zft 60 58 = some (.getfield 121, 3) := by decide +kernel
theorem f60_61 : zft 60 61 = some (.isub, 1) := by decide +kernel
theorem f60_62 : zft 60 62 = some (.iconst 1, 1) := by decide +kernel
theorem f60_63 : zft 60 63 = some (.bastore, 1) := by decide +kernel
theorem f60_64 : zft 60 64 = some (.iconst 1, 1) := by decide +kernel
theorem f60_65 : zft 60 65 = some (.ireturn, 1) := by decide +kernel
theorem o60 : zo 60 = 6 := by decide +kernel
theorem p60 : zp 60 = 1 := by decide +kernel
theorem n60 : zn 60 = 3 := by decide +kernel
theorem v60 : zr 60 = (some .int) := by decide +kernel
theorem f61_0 : zft 61 0 = some (.aload_n 0, 1) := by decide +kernel
theorem f61_1 : zft 61 1 = some (.getfield 10, 3) := by decide +kernel
theorem f61_4 : zft 61 4 = some (.iload_n 1, 1) := by decide +kernel
theorem f61_5 : zft 61 5 = some (.invokevirtual 58, 3) := by decide +kernel
theorem f61_8 : zft 61 8 = some (.ifCond .eq 23, 3) := by decide +kernel
theorem f61_11 : zft 61 11 = some (.iload_n 2, 1) := by decide +kernel
theorem f61_12 : zft 61 12 = some (.iconst 1, 1) := by decide +kernel
theorem f61_13 : zft 61 13 = some (.bipush 9, 2) := by decide +kernel
theorem f61_15 : zft 61 15 = some (.invokestatic 50, 3) := by decide +kernel
theorem f61_18 : zft 61 18 = some (.ifCond .eq 13, 3) := by decide +kernel
theorem f61_21 : zft 61 21 = some (.iload_n 3, 1) := by decide +kernel
theorem f61_22 : zft 61 22 = some (.iconst 0, 1) := by decide +kernel
theorem f61_23 : zft 61 23 = some (.bipush 23, 2) := by decide +kernel
theorem f61_25 : zft 61 25 = some (.invokestatic 50, 3) := by decide +kernel
theorem f61_28 : zft 61 28 = some (.ifCond .ne 6, 3) := by decide +kernel
theorem f61_31 : zft 61 31 = some (.bipush (-2), 2) := by decide +kernel
theorem f61_33 : zft 61 33 = some (.ireturn, 1) := by decide +kernel
theorem f61_34 : zft 61 34 = some (.aload_n 0, 1) := by decide +kernel
theorem f61_35 : zft 61 35 = some (.getfield 10, 3) := by decide +kernel
theorem f61_38 : zft 61 38 = some (.getfield 70, 3) := by decide +kernel
theorem f61_41 : zft 61 41 = some (.iload_n 1, 1) := by decide +kernel
theorem f61_42 : zft 61 42 = some (.aaload, 1) := by decide +kernel
theorem f61_43 : zft 61 43 = some (.astore 4, 2) := by decide +kernel
theorem f61_45 : zft 61 45 = some (.aload 4, 2) := by decide +kernel
theorem f61_47 : zft 61 47 = some (.getfield 90, 3) := by decide +kernel
theorem f61_50 : zft 61 50 = some (.aload_n 0, 1) := by decide +kernel
theorem f61_51 : zft 61 51 = some (.getfield 94, 3) := by decide +kernel
theorem f61_54 : zft 61 54 = some (.baload, 1) := by decide +kernel
theorem f61_55 : zft 61 55 = some (.ifCond .eq 6, 3) := by decide +kernel
theorem f61_58 : zft 61 58 = some (.bipush (-3), 2) := by decide +kernel
theorem f61_60 : zft 61 60 = some (.ireturn, 1) := by decide +kernel
theorem f61_61 : zft 61 61 = some (.iconst 0, 1) := by decide +kernel
theorem f61_62 : zft 61 62 = some (.istore 5, 2) := by decide +kernel
theorem f61_64 : zft 61 64 = some (.aload 4, 2) := by decide +kernel
theorem f61_66 : zft 61 66 = some (.aload_n 0, 1) := by decide +kernel
theorem f61_67 : zft 61 67 = some (.getfield 94, 3) := by decide +kernel
theorem f61_70 : zft 61 70 = some (.invokevirtual 83, 3) := by decide +kernel
theorem f61_73 : zft 61 73 = some (.iload_n 2, 1) := by decide +kernel
theorem f61_74 : zft 61 74 = some (.if_icmp .ge 41, 3) := by decide +kernel
theorem f61_77 : zft 61 77 = some (.iload_n 3, 1) := by decide +kernel
theorem f61_78 : zft 61 78 = some (.aload 4, 2) := by decide +kernel
theorem f61_80 : zft 61 80 = some (.getfield 198, 3) := by decide +kernel
theorem f61_83 : zft 61 83 = some (.if_icmp .lt 22, 3) := by decide +kernel
theorem f61_86 : zft 61 86 = some (.aload 4, 2) := by decide +kernel
theorem f61_88 : zft 61 88 = some (.aload_n 0, 1) := by decide +kernel
theorem f61_89 : zft 61 89 = some (.getfield 94, 3) := by decide +kernel
theorem f61_92 : zft 61 92 = some (.invokevirtual 83, 3) := by decide +kernel
theorem f61_95 : zft 61 95 = some (.aload_n 0, 1) := by decide +kernel
theorem f61_96 : zft 61 96 = some (.iload_n 1, 1) := by decide +kernel
theorem f61_97 : zft 61 97 = some (.invokevirtual 201, 3) := by decide +kernel
theorem f61_100 : zft 61 100 = some (.iadd, 1) := by decide +kernel
theorem f61_101 : zft 61 101 = some (.iload_n 2, 1) := by decide +kernel
theorem f61_102 : zft 61 102 = some (.if_icmp .ge 5, 3) := by decide +kernel
theorem f61_105 : zft 61 105 = some (.iconst (-1), 1) := by decide +kernel
theorem f61_106 : zft 61 106 = some (.ireturn, 1) := by decide +kernel
theorem f61_107 : zft 61 107 = some (.aload_n 0, 1) := by decide +kernel
theorem f61_108 : zft 61 108 = some (.iload_n 1, 1) := by decide +kernel
theorem f61_109 : zft 61 109 = some (.iload_n 2, 1) := by decide +kernel
theorem f61_110 : zft 61 110 = some (.invokevirtual 204, 3) := by decide +kernel
theorem f61_113 : zft 61 113 = some (.istore 5, 2) := by decide +kernel
theorem f61_115 : zft 61 115 = some (.aload 4, 2) := by decide +kernel
theorem f61_117 : zft 61 117 = some (.aload_n 0, 1) := by decide +kernel
theorem f61_118 : zft 61 118 = some (.getfield 94, 3) := by decide +kernel
theorem f61_121 : zft 61 121 = some (.iload_n 2, 1) := by decide +kernel
theorem f61_122 : zft 61 122 = some (.aload_n 0, 1) := by decide +kernel
theorem f61_123 : zft 61 123 = some (.getfield 45, 3) := by decide +kernel
theorem f61_126 : zft 61 126 = some (.iconst 0, 1) := by decide +kernel
theorem f61_127 : zft 61 127 = some (.invokevirtual 208, 3) := by decide +kernel
theorem f61_130 : zft 61 130 = some (.aload 4, 2) := by decide +kernel
theorem f61_132 : zft 61 132 = some (.dup, 1) := by decide +kernel
theorem f61_133 : zft 61 133 = some (.getfield 212, 3) := by decide +kernel
theorem f61_136 : zft 61 136 = some (.iload_n 2, 1) := by decide +kernel
theorem f61_137 : zft 61 137 = some (.iadd, 1) := by decide +kernel
theorem f61_138 : zft 61 138 = some (.putfield 212, 3) := by decide +kernel
theorem f61_141 : zft 61 141 = some (.aload_n 0, 1) := by decide +kernel
theorem f61_142 : zft 61 142 = some (.dup, 1) := by decide +kernel
theorem f61_143 : zft 61 143 = some (.getfield 215, 3) := by decide +kernel
theorem f61_146 : zft 61 146 = some (.iload_n 2, 1) := by decide +kernel
theorem f61_147 : zft 61 147 = some (.iadd, 1) := by decide +kernel
theorem f61_148 : zft 61 148 = some (.putfield 215, 3) := by decide +kernel
theorem f61_151 : zft 61 151 = some (.iload 5, 2) := by decide +kernel
theorem f61_153 : zft 61 153 = some (.ireturn, 1) := by decide +kernel
theorem o61 : zo 61 = 6 := by decide +kernel
theorem p61 : zp 61 = 3 := by decide +kernel
theorem n61 : zn 61 = 6 := by decide +kernel
theorem v61 : zr 61 = (some .int) := by decide +kernel
theorem f62_0 : zft 62 0 = some (.aload_n 0, 1) := by decide +kernel
theorem f62_1 : zft 62 1 = some (.getfield 94, 3) := by decide +kernel
theorem f62_4 : zft 62 4 = some (.bipush 39, 2) := by decide +kernel
theorem f62_6 : zft 62 6 = some (.if_icmp .lt 6, 3) := by decide +kernel
theorem f62_9 : zft 62 9 = some (.bipush (-4), 2) := by decide +kernel
theorem f62_11 : zft 62 11 = some (.ireturn, 1) := by decide +kernel
theorem f62_12 : zft 62 12 = some (.aload_n 0, 1) := by decide +kernel
theorem f62_13 : zft 62 13 = some (.invokevirtual 218, 3) := by decide +kernel
theorem f62_16 : zft 62 16 = some (.istore_n 1, 1) := by decide +kernel
theorem f62_17 : zft 62 17 = some (.iconst 0, 1) := by decide +kernel
theorem f62_18 : zft 62 18 = some (.istore_n 2, 1) := by decide +kernel
theorem f62_19 : zft 62 19 = some (.iload_n 2, 1) := by decide +kernel
theorem f62_20 : zft 62 20 = some (.aload_n 0, 1) := by decide +kernel
theorem f62_21 : zft 62 21 = some (.getfield 10, 3) := by decide +kernel
theorem f62_24 : zft 62 24 = some (.getfield 221, 3) := by decide +kernel
theorem f62_27 : zft 62 27 = some (.if_icmp .ge 26, 3) := by decide +kernel
theorem f62_30 : zft 62 30 = some (.aload_n 0, 1) := by decide +kernel
theorem f62_31 : zft 62 31 = some (.iload_n 2, 1) := by decide +kernel
theorem f62_32 : zft 62 32 = some (.invokevirtual 224, 3) := by decide +kernel
theorem f62_35 : zft 62 35 = some (.aload_n 0, 1) := by decide +kernel
theorem f62_36 : zft 62 36 = some (.getfield 10, 3) := by decide +kernel
theorem f62_39 : zft 62 39 = some (.getfield 70, 3) := by decide +kernel
theorem f62_42 : zft 62 42 = some (.iload_n 2, 1) := by decide +kernel
theorem f62_43 : zft 62 43 = some (.aaload, 1) := by decide +kernel
theorem f62_44 : zft 62 44 = some (.invokevirtual 228, 3) := by decide +kernel
theorem f62_47 : zft 62 47 = some (.iinc 2 1, 3) := by decide +kernel
theorem f62_50 : zft 62 50 = some (.goto (-31), 3) := by decide +kernel
theorem f62_53 : zft 62 53 = some (.aload_n 0, 1) := by decide +kernel
theorem f62_54 : zft 62 54 = some (.invokevirtual 231, 3) := by decide +kernel
theorem f62_57 : zft 62 57 = some (.aload_n 0, 1) := by decide +kernel
theorem f62_58 : zft 62 58 = some (.dup, 1) := by decide +kernel
theorem f62_59 : zft 62 59 = some (.getfield 94, 3) := by decide +kernel
theorem f62_62 : zft 62 62 = some (.iconst 1, 1) := by decide +kernel
theorem f62_63 : zft 62 63 = some (.iadd, 1) := by decide +kernel
theorem f62_64 : zft 62 64 = some (.putfield 94, 3) := by decide +kernel
theorem f62_67 : zft 62 67 = some (.iload_n 1, 1) := by decide +kernel
theorem f62_68 : zft 62 68 = some (.ireturn, 1) := by decide +kernel
theorem o62 : zo 62 = 6 := by decide +kernel
theorem p62 : zp 62 = 0 := by decide +kernel
theorem n62 : zn 62 = 3 := by decide +kernel
theorem v62 : zr 62 = (some .int) := by decide +kernel
theorem f63_0 : zft 63 0 = some (.aload_n 0, 1) := by decide +kernel
theorem f63_1 : zft 63 1 = some (.getfield 10, 3) := by decide +kernel
theorem f63_4 : zft 63 4 = some (.iload_n 1, 1) := by decide +kernel
theorem f63_5 : zft 63 5 = some (.invokevirtual 58, 3) := by decide +kernel
theorem f63_8 : zft 63 8 = some (.ifCond .eq 16, 3) := by decide +kernel
theorem f63_11 : zft 63 11 = some (.iload_n 2, 1) := by decide +kernel
theorem f63_12 : zft 63 12 = some (.aload_n 0, 1) := by decide +kernel
theorem f63_13 : zft 63 13 = some (.getfield 94, 3) := by decide +kernel
theorem f63_16 : zft 63 16 = some (.bipush 39, 2) := by decide +kernel
theorem f63_18 : zft 63 18 = some (.invokestatic 50, 3) := by decide +kernel
theorem f63_21 : zft 63 21 = some (.ifCond .ne 6, 3) := by decide +kernel
theorem f63_24 : zft 63 24 = some (.bipush (-2), 2) := by decide +kernel
theorem f63_26 : zft 63 26 = some (.ireturn, 1) := by decide +kernel
theorem f63_27 : zft 63 27 = some (.iconst 0, 1) := by decide +kernel
theorem f63_28 : zft 63 28 = some (.istore_n 3, 1) := by decide +kernel
theorem f63_29 : zft 63 29 = some (.iconst 0, 1) := by decide +kernel
theorem f63_30 : zft 63 30 = some (.istore 4, 2) := by decide +kernel
theorem f63_32 : zft 63 32 = some (.iload 4, 2) := by decide +kernel
theorem f63_34 : zft 63 34 = some (.aload_n 0, 1) := by decide +kernel
theorem f63_35 : zft 63 35 = some (.getfield 101, 3) := by decide +kernel
theorem f63_38 : zft 63 38 = some (.if_icmp .ge 37, 3) := by decide +kernel
theorem f63_41 : zft 63 41 = some (.aload_n 0, 1) := by decide +kernel
theorem f63_42 : zft 63 42 = some (.getfield 27, 3) := by decide +kernel
theorem f63_45 : zft 63 45 = some (.iload 4, 2) := by decide +kernel
theorem f63_47 : zft 63 47 = some (.aaload, 1) := by decide +kernel
theorem f63_48 : zft 63 48 = some (.iload_n 1, 1) := by decide +kernel
theorem f63_49 : zft 63 49 = some (.iload_n 2, 1) := by decide +kernel
theorem f63_50 : zft 63 50 = some (.invokevirtual 234, 3) := by decide +kernel
theorem f63_53 : zft 63 53 = some (.ifCond .eq 16, 3) := by decide +kernel
theorem f63_56 : zft 63 56 = some (.iload_n 3, 1) := by decide +kernel
theorem f63_57 : zft 63 57 = some (.aload_n 0, 1) := by decide +kernel
theorem f63_58 : zft 63 58 = some (.getfield 27, 3) := by decide +kernel
theorem f63_61 : zft 63 61 = some (.iload 4, 2) := by decide +kernel
theorem f63_63 : zft 63 63 = some (.aaload, 1) := by decide +kernel
theorem f63_64 : zft 63 64 = some (.getfield 161, 3) := by decide +kernel
theorem f63_67 : zft 63 67 = some (.iadd, 1) := by decide +kernel
theorem f63_68 : zft 63 68 = some (.istore_n 3, 1) := by decide +kernel
theorem f63_69 : zft 63 69 = some (.iinc 4 1, 3) := by decide +kernel
theorem f63_72 : zft 63 72 = some (.goto (-40), 3) := by decide +kernel
theorem f63_75 : zft 63 75 = some (.aload_n 0, 1) := by decide +kernel
theorem f63_76 : zft 63 76 = some (.getfield 94, 3) := by decide +kernel
theorem f63_79 : zft 63 79 = some (.ifCond .le 23, 3) := by decide +kernel
theorem f63_82 : zft 63 82 = some (.aload_n 0, 1) := by decide +kernel
theorem f63_83 : zft 63 83 = some (.getfield 10, 3) := by decide +kernel
theorem f63_86 : zft 63 86 = some (.getfield 70, 3) := by decide +kernel
theorem f63_89 : zft 63 89 = some (.iload_n 1, 1) := by decide +kernel
theorem f63_90 : zft 63 90 = some (.aaload, 1) := by decide +kernel
theorem f63_91 : zft 63 91 = some (.getfield 237, 3) := by decide +kernel
theorem f63_94 : zft 63 94 = some (.aload_n 0, 1) := by decide +kernel
theorem f63_95 : zft 63 95 = some (.getfield 94, 3) := by decide +kernel
theorem f63_98 : zft 63 98 = some (.idiv, 1) := by decide +kernel
theorem f63_99 : zft 63 99 = some (.goto 4, 3) := by decide +kernel
theorem f63_102 : zft 63 102 = some (.iconst 0, 1) := by decide +kernel
theorem f63_103 : zft 63 103 = some (.istore 4, 2) := by decide +kernel
theorem f63_105 : zft 63 105 = some (.iload_n 3, 1) := by decide +kernel
theorem f63_106 : zft 63 106 = some (.iload 4, 2) := by decide +kernel
theorem f63_108 : zft 63 108 = some (.iadd, 1) := by decide +kernel
theorem f63_109 : zft 63 109 = some (.ireturn, 1) := by decide +kernel
theorem o63 : zo 63 = 6 := by decide +kernel
theorem p63 : zp 63 = 2 := by decide +kernel
theorem n63 : zn 63 = 5 := by decide +kernel
theorem v63 : zr 63 = (some .int) := by decide +kernel
theorem f64_0 : zft 64 0 = some (.iload_n 1, 1) := by decide +kernel
theorem f64_1 : zft 64 1 = some (.invokestatic 80, 3) := by decide +kernel
theorem f64_4 : zft 64 4 = some (.ifCond .eq 13, 3) := by decide +kernel
theorem f64_7 : zft 64 7 = some (.iload_n 2, 1) := by decide +kernel
theorem f64_8 : zft 64 8 = some (.iconst 0, 1) := by decide +kernel
theorem f64_9 : zft 64 9 = some (.bipush 100, 2) := by decide +kernel
theorem f64_11 : zft 64 11 = some (.invokestatic 50, 3) := by decide +kernel
theorem f64_14 : zft 64 14 = some (.ifCond .ne 6, 3) := by decide +kernel
theorem f64_17 : zft 64 17 = some (.bipush (-2), 2) := by decide +kernel
theorem f64_19 : zft 64 19 = some (.ireturn, 1) := by decide +kernel
theorem f64_20 : zft 64 20 = some (.aload_n 0, 1) := by decide +kernel
theorem f64_21 : zft 64 21 = some (.getfield 41, 3) := by decide +kernel
theorem f64_24 : zft 64 24 = some (.iload_n 1, 1) := by decide +kernel
theorem f64_25 : zft 64 25 = some (.iload_n 2, 1) := by decide +kernel
theorem f64_26 : zft 64 26 = some (.invokevirtual 240, 3) := by decide +kernel
theorem f64_29 : zft 64 29 = some (.ireturn, 1) := by decide +kernel
theorem o64 : zo 64 = 6 := by decide +kernel
theorem p64 : zp 64 = 2 := by decide +kernel
theorem n64 : zn 64 = 3 := by decide +kernel
theorem v64 : zr 64 = (some .int) := by decide +kernel
theorem f65_0 : zft 65 0 = some (.iload_n 1, 1) := by decide +kernel
theorem f65_1 : zft 65 1 = some (.tableswitch 120 0 9 #[55, 63, 71, 76, 81, 89, 95, 101, 107, 115], 55) := by decide +kernel
theorem f65_56 : zft 65 56 = some (.aload_n 0, 1) := by decide +kernel
theorem f65_57 : zft 65 57 = some (.getfield 10, 3) := by decide +kernel
theorem f65_60 : zft 65 60 = some (.getfield 221, 3) := by decide +kernel
theorem f65_63 : zft 65 63 = some (.ireturn, 1) := by decide +kernel
theorem f65_64 : zft 65 64 = some (.aload_n 0, 1) := by decide +kernel
theorem f65_65 : zft 65 65 = some (.getfield 10, 3) := by decide +kernel
theorem f65_68 : zft 65 68 = some (.getfield 243, 3) := by decide +kernel
theorem f65_71 : zft 65 71 = some (.ireturn, 1) := by decide +kernel
theorem f65_72 : zft 65 72 = some (.aload_n 0, 1) := by decide +kernel
theorem f65_73 : zft 65 73 = some (.getfield 101, 3) := by decide +kernel
theorem f65_76 : zft 65 76 = some (.ireturn, 1) := by decide +kernel
theorem f65_77 : zft 65 77 = some (.aload_n 0, 1) := by decide +kernel
theorem f65_78 : zft 65 78 = some (.getfield 94, 3) := by decide +kernel
theorem f65_81 : zft 65 81 = some (.ireturn, 1) := by decide +kernel
theorem f65_82 : zft 65 82 = some (.aload_n 0, 1) := by decide +kernel
theorem f65_83 : zft 65 83 = some (.getfield 34, 3) := by decide +kernel
theorem f65_86 : zft 65 86 = some (.invokevirtual 246, 3) := by decide +kernel
theorem f65_89 : zft 65 89 = some (.ireturn, 1) := by decide +kernel
theorem f65_90 : zft 65 90 = some (.aload_n 0, 1) := by decide +kernel
theorem f65_91 : zft 65 91 = some (.iconst 1, 1) := by decide +kernel
theorem f65_92 : zft 65 92 = some (.invokevirtual 249, 3) := by decide +kernel
theorem f65_95 : zft 65 95 = some (.ireturn, 1) := by decide +kernel
theorem f65_96 : zft 65 96 = some (.aload_n 0, 1) := by decide +kernel
theorem f65_97 : zft 65 97 = some (.iconst 2, 1) := by decide +kernel
theorem f65_98 : zft 65 98 = some (.invokevirtual 249, 3) := by decide +kernel
theorem f65_101 : zft 65 101 = some (.ireturn, 1) := by decide +kernel
theorem f65_102 : zft 65 102 = some (.aload_n 0, 1) := by decide +kernel
theorem f65_103 : zft 65 103 = some (.iconst 3, 1) := by decide +kernel
theorem f65_104 : zft 65 104 = some (.invokevirtual 249, 3) := by decide +kernel
theorem f65_107 : zft 65 107 = some (.ireturn, 1) := by decide +kernel
theorem f65_108 : zft 65 108 = some (.aload_n 0, 1) := by decide +kernel
theorem f65_109 : zft 65 109 = some (.getfield 41, 3) := by decide +kernel
theorem f65_112 : zft 65 112 = some (.getfield 252, 3) := by decide +kernel
theorem f65_115 : zft 65 115 = some (.ireturn, 1) := by decide +kernel
theorem f65_116 : zft 65 116 = some (.aload_n 0, 1) := by decide +kernel
theorem f65_117 : zft 65 117 = some (.getfield 215, 3) := by decide +kernel
theorem f65_120 : zft 65 120 = some (.ireturn, 1) := by decide +kernel
theorem f65_121 : zft 65 121 = some (.bipush (-2), 2) := by decide +kernel
theorem f65_123 : zft 65 123 = some (.ireturn, 1) := by decide +kernel
theorem o65 : zo 65 = 6 := by decide +kernel
theorem p65 : zp 65 = 1 := by decide +kernel
theorem n65 : zn 65 = 2 := by decide +kernel
theorem v65 : zr 65 = (some .int) := by decide +kernel
theorem f66_0 : zft 66 0 = some (.ldc2_w 255, 3) := by decide +kernel
theorem f66_3 : zft 66 3 = some (.lstore_n 1, 1) := by decide +kernel
theorem f66_4 : zft 66 4 = some (.iconst 0, 1) := by decide +kernel
theorem f66_5 : zft 66 5 = some (.istore_n 3, 1) := by decide +kernel
theorem f66_6 : zft 66 6 = some (.iload_n 3, 1) := by decide +kernel
theorem f66_7 : zft 66 7 = some (.bipush 10, 2) := by decide +kernel
theorem f66_9 : zft 66 9 = some (.if_icmp .ge 22, 3) := by decide +kernel
theorem f66_12 : zft 66 12 = some (.ldc2_w 257, 3) := by decide +kernel
theorem f66_15 : zft 66 15 = some (.lload_n 1, 1) := by decide +kernel
theorem f66_16 : zft 66 16 = some (.lmul, 1) := by decide +kernel
theorem f66_17 : zft 66 17 = some (.aload_n 0, 1) := by decide +kernel
theorem f66_18 : zft 66 18 = some (.iload_n 3, 1) := by decide +kernel
theorem f66_19 : zft 66 19 = some (.invokevirtual 259, 3) := by decide +kernel
theorem f66_22 : zft 66 22 = some (.i2l, 1) := by decide +kernel
theorem f66_23 : zft 66 23 = some (.ladd, 1) := by decide +kernel
theorem f66_24 : zft 66 24 = some (.lstore_n 1, 1) := by decide +kernel
theorem f66_25 : zft 66 25 = some (.iinc 3 1, 3) := by decide +kernel
theorem f66_28 : zft 66 28 = some (.goto (-22), 3) := by decide +kernel
theorem f66_31 : zft 66 31 = some (.iconst 0, 1) := by decide +kernel
theorem f66_32 : zft 66 32 = some (.istore_n 3, 1) := by decide +kernel
theorem f66_33 : zft 66 33 = some (.iload_n 3, 1) := by decide +kernel
theorem f66_34 : zft 66 34 = some (.aload_n 0, 1) := by decide +kernel
theorem f66_35 : zft 66 35 = some (.getfield 101, 3) := by decide +kernel
theorem f66_38 : zft 66 38 = some (.if_icmp .ge 83, 3) := by decide +kernel
theorem f66_41 : zft 66 41 = some (.iconst 3, 1) := by decide +kernel
theorem f66_42 : zft 66 42 = some (.istore 4, 2) := by decide +kernel
theorem f66_44 : zft 66 44 = some (.iload 4, 2) := by decide +kernel
theorem f66_46 : zft 66 46 = some (.bipush 6, 2) := by decide +kernel
theorem f66_48 : zft 66 48 = some (.if_icmp .gt 24, 3) := by decide +kernel
theorem f66_51 : zft 66 51 = some (.ldc2_w 257, 3) := by decide +kernel
theorem f66_54 : zft 66 54 = some (.lload_n 1, 1) := by decide +kernel
theorem f66_55 : zft 66 55 = some (.lmul, 1) := by decide +kernel
theorem f66_56 : zft 66 56 = some (.aload_n 0, 1) := by decide +kernel
theorem f66_57 : zft 66 57 = some (.iload_n 3, 1) := by decide +kernel
theorem f66_58 : zft 66 58 = some (.iload 4, 2) := by decide +kernel
theorem f66_60 : zft 66 60 = some (.invokevirtual 262, 3) := by decide +kernel
theorem f66_63 : zft 66 63 = some (.i2l, 1) := by decide +kernel
theorem f66_64 : zft 66 64 = some (.ladd, 1) := by decide +kernel
theorem f66_65 : zft 66 65 = some (.lstore_n 1, 1) := by decide +kernel
theorem f66_66 : zft 66 66 = some (.iinc 4 1, 3) := by decide +kernel
theorem f66_69 : zft 66 69 = some (.goto (-25), 3) := by decide +kernel
theorem f66_72 : zft 66 72 = some (.iconst 0, 1) := by decide +kernel
theorem f66_73 : zft 66 73 = some (.istore 4, 2) := by decide +kernel
theorem f66_75 : zft 66 75 = some (.iload 4, 2) := by decide +kernel
theorem f66_77 : zft 66 77 = some (.aload_n 0, 1) := by decide +kernel
theorem f66_78 : zft 66 78 = some (.getfield 27, 3) := by decide +kernel
theorem f66_81 : zft 66 81 = some (.iload_n 3, 1) := by decide +kernel
theorem f66_82 : zft 66 82 = some (.aaload, 1) := by decide +kernel
theorem f66_83 : zft 66 83 = some (.getfield 124, 3) := by decide +kernel
theorem f66_86 : zft 66 86 = some (.if_icmp .ge 29, 3) := by decide +kernel
theorem f66_89 : zft 66 89 = some (.ldc2_w 257, 3) := by decide +kernel
theorem f66_92 : zft 66 92 = some (.lload_n 1, 1) := by decide +kernel
theorem f66_93 : zft 66 93 = some (.lmul, 1) := by decide +kernel
theorem f66_94 : zft 66 94 = some (.aload_n 0, 1) := by decide +kernel
theorem f66_95 : zft 66 95 = some (.getfield 27, 3) := by decide +kernel
theorem f66_98 : zft 66 98 = some (.iload_n 3, 1) := by decide +kernel
theorem f66_99 : zft 66 99 = some (.aaload, 1) := by decide +kernel
theorem f66_100 : zft 66 100 = some (.getfield 127, 3) := by decide +kernel
theorem f66_103 : zft 66 103 = some (.iload 4, 2) := by decide +kernel
theorem f66_105 : zft 66 105 = some (.iaload, 1) := by decide +kernel
theorem f66_106 : zft 66 106 = some (.i2l, 1) := by decide +kernel
theorem f66_107 : zft 66 107 = some (.ladd, 1) := by decide +kernel
theorem f66_108 : zft 66 108 = some (.lstore_n 1, 1) := by decide +kernel
theorem f66_109 : zft 66 109 = some (.iinc 4 1, 3) := by decide +kernel
theorem f66_112 : zft 66 112 = some (.goto (-37), 3) := by decide +kernel
theorem f66_115 : zft 66 115 = some (.iinc 3 1, 3) := by decide +kernel
theorem f66_118 : zft 66 118 = some (.goto (-85), 3) := by decide +kernel
theorem f66_121 : zft 66 121 = some (.iconst 0, 1) := by decide +kernel
theorem f66_122 : zft 66 122 = some (.istore_n 3, 1) := by decide +kernel
theorem f66_123 : zft 66 123 = some (.iload_n 3, 1) := by decide +kernel
theorem f66_124 : zft 66 124 = some (.aload_n 0, 1) := by decide +kernel
theorem f66_125 : zft 66 125 = some (.getfield 10, 3) := by decide +kernel
theorem f66_128 : zft 66 128 = some (.getfield 221, 3) := by decide +kernel
theorem f66_131 : zft 66 131 = some (.if_icmp .ge 50, 3) := by decide +kernel
theorem f66_134 : zft 66 134 = some (.aload_n 0, 1) := by decide +kernel
theorem f66_135 : zft 66 135 = some (.getfield 94, 3) := by decide +kernel
theorem f66_138 : zft 66 138 = some (.istore 4, 2) := by decide +kernel
theorem f66_140 : zft 66 140 = some (.iload 4, 2) := by decide +kernel
theorem f66_142 : zft 66 142 = some (.bipush 40, 2) := by decide +kernel
theorem f66_144 : zft 66 144 = some (.if_icmp .ge 31, 3) := by decide +kernel
theorem f66_147 : zft 66 147 = some (.ldc2_w 257, 3) := by decide +kernel
theorem f66_150 : zft 66 150 = some (.lload_n 1, 1) := by decide +kernel
theorem f66_151 : zft 66 151 = some (.lmul, 1) := by decide +kernel
theorem f66_152 : zft 66 152 = some (.aload_n 0, 1) := by decide +kernel
theorem f66_153 : zft 66 153 = some (.getfield 10, 3) := by decide +kernel
theorem f66_156 : zft 66 156 = some (.getfield 70, 3) := by decide +kernel
theorem f66_159 : zft 66 159 = some (.iload_n 3, 1) := by decide +kernel
theorem f66_160 : zft 66 160 = some (.aaload, 1) := by decide +kernel
theorem f66_161 : zft 66 161 = some (.iload 4, 2) := by decide +kernel
theorem f66_163 : zft 66 163 = some (.invokevirtual 83, 3) := by decide +kernel
theorem f66_166 : zft 66 166 = some (.i2l, 1) := by decide +kernel
theorem f66_167 : zft 66 167 = some (.ladd, 1) := by decide +kernel
theorem f66_168 : zft 66 168 = some (.lstore_n 1, 1) := by decide +kernel
theorem f66_169 : zft 66 169 = some (.iinc 4 1, 3) := by decide +kernel
theorem f66_172 : zft 66 172 = some (.goto (-32), 3) := by decide +kernel
theorem f66_175 : zft 66 175 = some (.iinc 3 1, 3) := by decide +kernel
theorem f66_178 : zft 66 178 = some (.goto (-55), 3) := by decide +kernel
theorem f66_181 : zft 66 181 = some (.lload_n 1, 1) := by decide +kernel
theorem f66_182 : zft 66 182 = some (.lreturn, 1) := by decide +kernel
theorem o66 : zo 66 = 6 := by decide +kernel
theorem p66 : zp 66 = 0 := by decide +kernel
theorem n66 : zn 66 = 5 := by decide +kernel
theorem v66 : zr 66 = (some .long) := by decide +kernel
theorem f67_0 : zft 67 0 = some (.iload_n 0, 1) := by decide +kernel
theorem f67_1 : zft 67 1 = some (.iload_n 1, 1) := by decide +kernel
theorem f67_2 : zft 67 2 = some (.if_icmp .lt 12, 3) := by decide +kernel
theorem f67_5 : zft 67 5 = some (.iload_n 0, 1) := by decide +kernel
theorem f67_6 : zft 67 6 = some (.iload_n 2, 1) := by decide +kernel
theorem f67_7 : zft 67 7 = some (.if_icmp .gt 7, 3) := by decide +kernel
theorem f67_10 : zft 67 10 = some (.iconst 1, 1) := by decide +kernel
theorem f67_11 : zft 67 11 = some (.goto 4, 3) := by decide +kernel
theorem f67_14 : zft 67 14 = some (.iconst 0, 1) := by decide +kernel
theorem f67_15 : zft 67 15 = some (.ireturn, 1) := by decide +kernel
theorem o67 : zo 67 = 6 := by decide +kernel
theorem p67 : zp 67 = 3 := by decide +kernel
theorem n67 : zn 67 = 3 := by decide +kernel
theorem v67 : zr 67 = (some .boolean) := by decide +kernel
theorem f68_0 : zft 68 0 = some (.iload_n 0, 1) := by decide +kernel
theorem f68_1 : zft 68 1 = some (.iconst 0, 1) := by decide +kernel
theorem f68_2 : zft 68 2 = some (.bipush 39, 2) := by decide +kernel
theorem f68_4 : zft 68 4 = some (.invokestatic 50, 3) := by decide +kernel
theorem f68_7 : zft 68 7 = some (.ireturn, 1) := by decide +kernel
theorem o68 : zo 68 = 6 := by decide +kernel
theorem p68 : zp 68 = 1 := by decide +kernel
theorem n68 : zn 68 = 1 := by decide +kernel
theorem v68 : zr 68 = (some .boolean) := by decide +kernel
theorem f69_0 : zft 69 0 = some (.iload_n 1, 1) := by decide +kernel
theorem f69_1 : zft 69 1 = some (.iconst 0, 1) := by decide +kernel
theorem f69_2 : zft 69 2 = some (.aload_n 0, 1) := by decide +kernel
theorem f69_3 : zft 69 3 = some (.getfield 101, 3) := by decide +kernel
theorem f69_6 : zft 69 6 = some (.iconst 1, 1) := by decide +kernel
theorem f69_7 : zft 69 7 = some (.isub, 1) := by decide +kernel
theorem f69_8 : zft 69 8 = some (.invokestatic 50, 3) := by decide +kernel
theorem f69_11 : zft 69 11 = some (.ireturn, 1) := by decide +kernel
theorem o69 : zo 69 = 6 := by decide +kernel
theorem p69 : zp 69 = 1 := by decide +kernel
theorem n69 : zn 69 = 2 := by decide +kernel
theorem v69 : zr 69 = (some .boolean) := by decide +kernel
theorem f70_0 : zft 70 0 = some (.aload_n 1, 1) := by decide +kernel
theorem f70_1 : zft 70 1 = some (.getfield 104, 3) := by decide +kernel
theorem f70_4 : zft 70 4 = some (.ifCond .ne 18, 3) := by decide +kernel
theorem f70_7 : zft 70 7 = some (.aload_n 1, 1) := by decide +kernel
theorem f70_8 : zft 70 8 = some (.getfield 121, 3) := by decide +kernel
theorem f70_11 : zft 70 11 = some (.aload_n 0, 1) := by decide +kernel
theorem f70_12 : zft 70 12 = some (.getfield 94, 3) := by decide +kernel
theorem f70_15 : zft 70 15 = some (.if_icmp .lt 7, 3) := by decide +kernel
theorem f70_18 : zft 70 18 = some (.iconst 1, 1) := by decide +kernel
theorem f70_19 : zft 70 19 = some (.goto 4, 3) := by decide +kernel
theorem f70_22 : zft 70 22 = some (.iconst 0, 1) := by decide +kernel
theorem f70_23 : zft 70 23 = some (.ireturn, 1) := by decide +kernel
theorem o70 : zo 70 = 6 := by decide +kernel
theorem p70 : zp 70 = 1 := by decide +kernel
theorem n70 : zn 70 = 2 := by decide +kernel
theorem v70 : zr 70 = (some .boolean) := by decide +kernel
theorem f71_0 : zft 71 0 = some (.iconst 0, 1) := by decide +kernel
theorem f71_1 : zft 71 1 = some (.istore_n 2, 1) := by decide +kernel
theorem f71_2 : zft 71 2 = some (.iconst 0, 1) := by decide +kernel
theorem f71_3 : zft 71 3 = some (.istore_n 3, 1) := by decide +kernel
theorem f71_4 : zft 71 4 = some (.iload_n 3, 1) := by decide +kernel
theorem f71_5 : zft 71 5 = some (.aload_n 0, 1) := by decide +kernel
theorem f71_6 : zft 71 6 = some (.getfield 101, 3) := by decide +kernel
theorem f71_9 : zft 71 9 = some (.if_icmp .ge 25, 3) := by decide +kernel
theorem f71_12 : zft 71 12 = some (.aload_n 0, 1) := by decide +kernel
theorem f71_13 : zft 71 13 = some (.getfield 27, 3) := by decide +kernel
theorem f71_16 : zft 71 16 = some (.iload_n 3, 1) := by decide +kernel
theorem f71_17 : zft 71 17 = some (.aaload, 1) := by decide +kernel
theorem f71_18 : zft 71 18 = some (.getfield 104, 3) := by decide +kernel
theorem f71_21 : zft 71 21 = some (.iload_n 1, 1) := by decide +kernel
theorem f71_22 : zft 71 22 = some (.if_icmp .ne 6, 3) := by decide +kernel
theorem f71_25 : zft 71 25 = some (.iinc 2 1, 3) := by decide +kernel
theorem f71_28 : zft 71 28 = some (.iinc 3 1, 3) := by decide +kernel
theorem f71_31 : zft 71 31 = some (.goto (-27), 3) := by decide +kernel
theorem f71_34 : zft 71 34 = some (.iload_n 2, 1) := by decide +kernel
theorem f71_35 : zft 71 35 = some (.ireturn, 1) := by decide +kernel
theorem o71 : zo 71 = 6 := by decide +kernel
theorem p71 : zp 71 = 1 := by decide +kernel
theorem n71 : zn 71 = 4 := by decide +kernel
theorem v71 : zr 71 = (some .int) := by decide +kernel
theorem f72_0 : zft 72 0 = some (.aload_n 0, 1) := by decide +kernel
theorem f72_1 : zft 72 1 = some (.getfield 10, 3) := by decide +kernel
theorem f72_4 : zft 72 4 = some (.aload_n 1, 1) := by decide +kernel
theorem f72_5 : zft 72 5 = some (.invokevirtual 265, 3) := by decide +kernel
theorem f72_8 : zft 72 8 = some (.istore_n 2, 1) := by decide +kernel
theorem f72_9 : zft 72 9 = some (.iload_n 2, 1) := by decide +kernel
theorem f72_10 : zft 72 10 = some (.iconst (-1), 1) := by decide +kernel
theorem f72_11 : zft 72 11 = some (.if_icmp .ne 14, 3) := by decide +kernel
theorem f72_14 : zft 72 14 = some (.aload_n 0, 1) := by decide +kernel
theorem f72_15 : zft 72 15 = some (.aload_n 1, 1) := by decide +kernel
theorem f72_16 : zft 72 16 = some (.iconst 0, 1) := by decide +kernel
theorem f72_17 : zft 72 17 = some (.invokevirtual 148, 3) := by decide +kernel
theorem f72_20 : zft 72 20 = some (.aload_n 1, 1) := by decide +kernel
theorem f72_21 : zft 72 21 = some (.iconst 1, 1) := by decide +kernel
theorem f72_22 : zft 72 22 = some (.putfield 104, 3) := by decide +kernel
theorem f72_25 : zft 72 25 = some (.iload_n 2, 1) := by decide +kernel
theorem f72_26 : zft 72 26 = some (.ireturn, 1) := by decide +kernel
theorem o72 : zo 72 = 6 := by decide +kernel
theorem p72 : zp 72 = 1 := by decide +kernel
theorem n72 : zn 72 = 3 := by decide +kernel
theorem v72 : zr 72 = (some .int) := by decide +kernel
theorem f73_0 : zft 73 0 = some (.aload_n 1, 1) := by decide +kernel
theorem f73_1 : zft 73 1 = some (.getfield 104, 3) := by decide +kernel
theorem f73_4 : zft 73 4 = some (.ifCond .eq 5, 3) := by decide +kernel
theorem f73_7 : zft 73 7 = some (.iconst 0, 1) := by decide +kernel
theorem f73_8 : zft 73 8 = some (.ireturn, 1) := by decide +kernel
theorem f73_9 : zft 73 9 = some (.aload_n 0, 1) := by decide +kernel
theorem f73_10 : zft 73 10 = some (.aload_n 1, 1) := by decide +kernel
theorem f73_11 : zft 73 11 = some (.invokevirtual 130, 3) := by decide +kernel
theorem f73_14 : zft 73 14 = some (.ifCond .eq 14, 3) := by decide +kernel
theorem f73_17 : zft 73 17 = some (.aload_n 0, 1) := by decide +kernel
theorem f73_18 : zft 73 18 = some (.aload_n 1, 1) := by decide +kernel
theorem f73_19 : zft 73 19 = some (.invokevirtual 133, 3) := by decide +kernel
theorem f73_22 : zft 73 22 = some (.iconst (-1), 1) := by decide +kernel
theorem f73_23 : zft 73 23 = some (.if_icmp .ne 5, 3) := by decide +kernel
theorem f73_26 : zft 73 26 = some (.iconst 1, 1) := by decide +kernel
theorem f73_27 : zft 73 27 = some (.ireturn, 1) := by decide +kernel
theorem f73_28 : zft 73 28 = some (.aload_n 1, 1) := by decide +kernel
theorem f73_29 : zft 73 29 = some (.iconst 2, 1) := by decide +kernel
theorem f73_30 : zft 73 30 = some (.putfield 104, 3) := by decide +kernel
theorem f73_33 : zft 73 33 = some (.iconst 0, 1) := by decide +kernel
theorem f73_34 : zft 73 34 = some (.ireturn, 1) := by decide +kernel
theorem o73 : zo 73 = 6 := by decide +kernel
theorem p73 : zp 73 = 1 := by decide +kernel
theorem n73 : zn 73 = 2 := by decide +kernel
theorem v73 : zr 73 = (some .boolean) := by decide +kernel
theorem f74_0 : zft 74 0 = some (.iload_n 2, 1) := by decide +kernel
theorem f74_1 : zft 74 1 = some (.istore_n 3, 1) := by decide +kernel
theorem f74_2 : zft 74 2 = some (.iload_n 3, 1) := by decide +kernel
theorem f74_3 : zft 74 3 = some (.aload_n 1, 1) := by decide +kernel
theorem f74_4 : zft 74 4 = some (.getfield 124, 3) := by decide +kernel
theorem f74_7 : zft 74 7 = some (.if_icmp .ge 43, 3) := by decide +kernel
theorem f74_10 : zft 74 10 = some (.aload_n 0, 1) := by decide +kernel
theorem f74_11 : zft 74 11 = some (.getfield 10, 3) := by decide +kernel
theorem f74_14 : zft 74 14 = some (.getfield 70, 3) := by decide +kernel
theorem f74_17 : zft 74 17 = some (.aload_n 1, 1) := by decide +kernel
theorem f74_18 : zft 74 18 = some (.getfield 127, 3) := by decide +kernel
theorem f74_21 : zft 74 21 = some (.iload_n 3, 1) := by decide +kernel
theorem f74_22 : zft 74 22 = some (.iaload, 1) := by decide +kernel
theorem f74_23 : zft 74 23 = some (.aaload, 1) := by decide +kernel
theorem f74_24 : zft 74 24 = some (.aload_n 1, 1) := by decide +kernel
theorem f74_25 : zft 74 25 = some (.getfield 121, 3) := by decide +kernel
theorem f74_28 : zft 74 28 = some (.iload_n 3, 1) := by decide +kernel
theorem f74_29 : zft 74 29 = some (.iadd, 1) := by decide +kernel
theorem f74_30 : zft 74 30 = some (.aload_n 1, 1) := by decide +kernel
theorem f74_31 : zft 74 31 = some (.getfield 161, 3) := by decide +kernel
theorem f74_34 : zft 74 34 = some (.aload_n 1, 1) := by decide +kernel
theorem f74_35 : zft 74 35 = some (.getfield 174, 3) := by decide +kernel
theorem f74_38 : zft 74 38 = some (.iload_n 3, 1) := by decide +kernel
theorem f74_39 : zft 74 39 = some (.iconst 3, 1) := by decide +kernel
theorem f74_40 : zft 74 40 = some (.imul, 1) := by decide +kernel
theorem f74_41 : zft 74 41 = some (.invokevirtual 208, 3) := by decide +kernel
theorem f74_44 : zft 74 44 = some (.iinc 3 1, 3) := by decide +kernel
theorem f74_47 : zft 74 47 = some (.goto (-45), 3) := by decide +kernel
theorem f74_50 : zft 74 50 = some (.return_, 1) := by decide +kernel
theorem o74 : zo 74 = 6 := by decide +kernel
theorem p74 : zp 74 = 2 := by decide +kernel
theorem n74 : zn 74 = 4 := by decide +kernel
theorem v74 : zr 74 = none := by decide +kernel
theorem f75_0 : zft 75 0 = some (.iload_n 2, 1) := by decide +kernel
theorem f75_1 : zft 75 1 = some (.istore_n 3, 1) := by decide +kernel
theorem f75_2 : zft 75 2 = some (.iload_n 3, 1) := by decide +kernel
theorem f75_3 : zft 75 3 = some (.aload_n 1, 1) := by decide +kernel
theorem f75_4 : zft 75 4 = some (.getfield 124, 3) := by decide +kernel
theorem f75_7 : zft 75 7 = some (.if_icmp .ge 39, 3) := by decide +kernel
theorem f75_10 : zft 75 10 = some (.aload_n 0, 1) := by decide +kernel
theorem f75_11 : zft 75 11 = some (.getfield 10, 3) := by decide +kernel
theorem f75_14 : zft 75 14 = some (.getfield 70, 3) := by decide +kernel
theorem f75_17 : zft 75 17 = some (.aload_n 1, 1) := by decide +kernel
theorem f75_18 : zft 75 18 = some (.getfield 127, 3) := by decide +kernel
theorem f75_21 : zft 75 21 = some (.iload_n 3, 1) := by decide +kernel
theorem f75_22 : zft 75 22 = some (.iaload, 1) := by decide +kernel
theorem f75_23 : zft 75 23 = some (.aaload, 1) := by decide +kernel
theorem f75_24 : zft 75 24 = some (.aload_n 1, 1) := by decide +kernel
theorem f75_25 : zft 75 25 = some (.getfield 121, 3) := by decide +kernel
theorem f75_28 : zft 75 28 = some (.iload_n 3, 1) := by decide +kernel
theorem f75_29 : zft 75 29 = some (.iadd, 1) := by decide +kernel
theorem f75_30 : zft 75 30 = some (.aload_n 1, 1) := by decide +kernel
theorem f75_31 : zft 75 31 = some (.getfield 174, 3) := by decide +kernel
theorem f75_34 : zft 75 34 = some (.iload_n 3, 1) := by decide +kernel
theorem f75_35 : zft 75 35 = some (.iconst 3, 1) := by decide +kernel
theorem f75_36 : zft 75 36 = some (.imul, 1) := by decide +kernel
theorem f75_37 : zft 75 37 = some (.invokevirtual 268, 3) := by decide +kernel
theorem f75_40 : zft 75 40 = some (.iinc 3 1, 3) := by decide +kernel
theorem f75_43 : zft 75 43 = some (.goto (-41), 3) := by decide +kernel
theorem f75_46 : zft 75 46 = some (.return_, 1) := by decide +kernel
theorem o75 : zo 75 = 6 := by decide +kernel
theorem p75 : zp 75 = 2 := by decide +kernel
theorem n75 : zn 75 = 4 := by decide +kernel
theorem v75 : zr 75 = none := by decide +kernel
theorem f76_0 : zft 76 0 = some (.aload_n 0, 1) := by decide +kernel
theorem f76_1 : zft 76 1 = some (.getfield 94, 3) := by decide +kernel
theorem f76_4 : zft 76 4 = some (.aload_n 1, 1) := by decide +kernel
theorem f76_5 : zft 76 5 = some (.getfield 121, 3) := by decide +kernel
theorem f76_8 : zft 76 8 = some (.isub, 1) := by decide +kernel
theorem f76_9 : zft 76 9 = some (.iconst (-1), 1) := by decide +kernel
theorem f76_10 : zft 76 10 = some (.invokestatic 272, 3) := by decide +kernel
theorem f76_13 : zft 76 13 = some (.istore_n 2, 1) := by decide +kernel
theorem f76_14 : zft 76 14 = some (.aload_n 0, 1) := by decide +kernel
theorem f76_15 : zft 76 15 = some (.aload_n 1, 1) := by decide +kernel
theorem f76_16 : zft 76 16 = some (.iload_n 2, 1) := by decide +kernel
theorem f76_17 : zft 76 17 = some (.iconst 1, 1) := by decide +kernel
theorem f76_18 : zft 76 18 = some (.iadd, 1) := by decide +kernel
theorem f76_19 : zft 76 19 = some (.invokevirtual 152, 3) := by decide +kernel
theorem f76_22 : zft 76 22 = some (.aload_n 0, 1) := by decide +kernel
theorem f76_23 : zft 76 23 = some (.getfield 21, 3) := by decide +kernel
theorem f76_26 : zft 76 26 = some (.aload_n 1, 1) := by decide +kernel
theorem f76_27 : zft 76 27 = some (.iload_n 2, 1) := by decide +kernel
theorem f76_28 : zft 76 28 = some (.invokevirtual 137, 3) := by decide +kernel
theorem f76_31 : zft 76 31 = some (.iconst (-1), 1) := by decide +kernel
theorem f76_32 : zft 76 32 = some (.if_icmp .eq 27, 3) := by decide +kernel
theorem f76_35 : zft 76 35 = some (.aload_n 1, 1) := by decide +kernel
theorem f76_36 : zft 76 36 = some (.aload_n 0, 1) := by decide +kernel
theorem f76_37 : zft 76 37 = some (.getfield 21, 3) := by decide +kernel
theorem f76_40 : zft 76 40 = some (.getfield 141, 3) := by decide +kernel
theorem f76_43 : zft 76 43 = some (.iload_n 2, 1) := by decide +kernel
theorem f76_44 : zft 76 44 = some (.iconst 1, 1) := by decide +kernel
theorem f76_45 : zft 76 45 = some (.iadd, 1) := by decide +kernel
theorem f76_46 : zft 76 46 = some (.invokevirtual 144, 3) := by decide +kernel
theorem f76_49 : zft 76 49 = some (.aload_n 0, 1) := by decide +kernel
theorem f76_50 : zft 76 50 = some (.aload_n 1, 1) := by decide +kernel
theorem f76_51 : zft 76 51 = some (.iload_n 2, 1) := by decide +kernel
theorem f76_52 : zft 76 52 = some (.iconst 1, 1) := by decide +kernel
theorem f76_53 : zft 76 53 = some (.iadd, 1) := by decide +kernel
theorem f76_54 : zft 76 54 = some (.invokevirtual 148, 3) := by decide +kernel
theorem f76_57 : zft 76 57 = some (.iconst 1, 1) := by decide +kernel
theorem f76_58 : zft 76 58 = some (.ireturn, 1) := by decide +kernel
theorem f76_59 : zft 76 59 = some (.iload_n 2, 1) := by decide +kernel
theorem f76_60 : zft 76 60 = some (.iconst (-1), 1) := by decide +kernel
theorem f76_61 : zft 76 61 = some (.if_icmp .ne 11, 3) := by decide +kernel
theorem f76_64 : zft 76 64 = some (.aload_n 1, 1) := by decide +kernel
theorem f76_65 : zft 76 65 = some (.iconst 2, 1) := by decide +kernel
theorem f76_66 : zft 76 66 = some (.putfield 104, 3) := by decide +kernel
theorem f76_69 : zft 76 69 = some (.goto 10, 3) := by decide +kernel
theorem f76_72 : zft 76 72 = some (.aload_n 1, 1) := by decide +kernel
theorem f76_73 : zft 76 73 = some (.iload_n 2, 1) := by decide +kernel
theorem f76_74 : zft 76 74 = some (.iconst 1, 1) := by decide +kernel
theorem f76_75 : zft 76 75 = some (.iadd, 1) := by decide +kernel
theorem f76_76 : zft 76 76 = some (.putfield 124, 3) := by decide +kernel
theorem f76_79 : zft 76 79 = some (.iconst 0, 1) := by decide +kernel
theorem f76_80 : zft 76 80 = some (.ireturn, 1) := by decide +kernel
theorem o76 : zo 76 = 6 := by decide +kernel
theorem p76 : zp 76 = 1 := by decide +kernel
theorem n76 : zn 76 = 3 := by decide +kernel
theorem v76 : zr 76 = (some .boolean) := by decide +kernel
theorem f77_0 : zft 77 0 = some (.aload_n 1, 1) := by decide +kernel
theorem f77_1 : zft 77 1 = some (.iload_n 2, 1) := by decide +kernel
theorem f77_2 : zft 77 2 = some (.aload_n 0, 1) := by decide +kernel
theorem f77_3 : zft 77 3 = some (.getfield 94, 3) := by decide +kernel
theorem f77_6 : zft 77 6 = some (.invokevirtual 234, 3) := by decide +kernel
theorem f77_9 : zft 77 9 = some (.ifCond .eq 24, 3) := by decide +kernel
theorem f77_12 : zft 77 12 = some (.aload_n 1, 1) := by decide +kernel
theorem f77_13 : zft 77 13 = some (.getfield 195, 3) := by decide +kernel
theorem f77_16 : zft 77 16 = some (.aload_n 0, 1) := by decide +kernel
theorem f77_17 : zft 77 17 = some (.getfield 94, 3) := by decide +kernel
theorem f77_20 : zft 77 20 = some (.aload_n 1, 1) := by decide +kernel
theorem f77_21 : zft 77 21 = some (.getfield 121, 3) := by decide +kernel
theorem f77_24 : zft 77 24 = some (.isub, 1) := by decide +kernel
theorem f77_25 : zft 77 25 = some (.baload, 1) := by decide +kernel
theorem f77_26 : zft 77 26 = some (.ifCond .ne 7, 3) := by decide +kernel
theorem f77_29 : zft 77 29 = some (.iconst 1, 1) := by decide +kernel
theorem f77_30 : zft 77 30 = some (.goto 4, 3) := by decide +kernel
theorem f77_33 : zft 77 33 = some (.iconst 0, 1) := by decide +kernel
theorem f77_34 : zft 77 34 = some (.ireturn, 1) := by decide +kernel
theorem o77 : zo 77 = 6 := by decide +kernel
theorem p77 : zp 77 = 2 := by decide +kernel
theorem n77 : zn 77 = 3 := by decide +kernel
theorem v77 : zr 77 = (some .boolean) := by decide +kernel
theorem f78_0 : zft 78 0 = some (.iconst 0, 1) := by decide +kernel
theorem f78_1 : zft 78 1 = some (.istore_n 2, 1) := by decide +kernel
theorem f78_2 : zft 78 2 = some (.iconst 0, 1) := by decide +kernel
theorem f78_3 : zft 78 3 = some (.istore_n 3, 1) := by decide +kernel
theorem f78_4 : zft 78 4 = some (.iload_n 3, 1) := by decide +kernel
theorem f78_5 : zft 78 5 = some (.aload_n 0, 1) := by decide +kernel
theorem f78_6 : zft 78 6 = some (.getfield 101, 3) := by decide +kernel
theorem f78_9 : zft 78 9 = some (.if_icmp .ge 35, 3) := by decide +kernel
theorem f78_12 : zft 78 12 = some (.aload_n 0, 1) := by decide +kernel
theorem f78_13 : zft 78 13 = some (.aload_n 0, 1) := by decide +kernel
theorem f78_14 : zft 78 14 = some (.getfield 27, 3) := by decide +kernel
theorem f78_17 : zft 78 17 = some (.iload_n 3, 1) := by decide +kernel
theorem f78_18 : zft 78 18 = some (.aaload, 1) := by decide +kernel
theorem f78_19 : zft 78 19 = some (.iload_n 1, 1) := by decide +kernel
theorem f78_20 : zft 78 20 = some (.invokevirtual 277, 3) := by decide +kernel
theorem f78_23 : zft 78 23 = some (.ifCond .eq 15, 3) := by decide +kernel
theorem f78_26 : zft 78 26 = some (.iload_n 2, 1) := by decide +kernel
theorem f78_27 : zft 78 27 = some (.aload_n 0, 1) := by decide +kernel
theorem f78_28 : zft 78 28 = some (.getfield 27, 3) := by decide +kernel
theorem f78_31 : zft 78 31 = some (.iload_n 3, 1) := by decide +kernel
theorem f78_32 : zft 78 32 = some (.aaload, 1) := by decide +kernel
theorem f78_33 : zft 78 33 = some (.getfield 161, 3) := by decide +kernel
theorem f78_36 : zft 78 36 = some (.iadd, 1) := by decide +kernel
theorem f78_37 : zft 78 37 = some (.istore_n 2, 1) := by decide +kernel
theorem f78_38 : zft 78 38 = some (.iinc 3 1, 3) := by decide +kernel
theorem f78_41 : zft 78 41 = some (.goto (-37), 3) := by decide +kernel
theorem f78_44 : zft 78 44 = some (.iload_n 2, 1) := by decide +kernel
theorem f78_45 : zft 78 45 = some (.ireturn, 1) := by decide +kernel
theorem o78 : zo 78 = 6 := by decide +kernel
theorem p78 : zp 78 = 1 := by decide +kernel
theorem n78 : zn 78 = 4 := by decide +kernel
theorem v78 : zr 78 = (some .int) := by decide +kernel
theorem f79_0 : zft 79 0 = some (.aload_n 0, 1) := by decide +kernel
theorem f79_1 : zft 79 1 = some (.getfield 10, 3) := by decide +kernel
theorem f79_4 : zft 79 4 = some (.getfield 70, 3) := by decide +kernel
theorem f79_7 : zft 79 7 = some (.iload_n 1, 1) := by decide +kernel
theorem f79_8 : zft 79 8 = some (.aaload, 1) := by decide +kernel
theorem f79_9 : zft 79 9 = some (.astore_n 3, 1) := by decide +kernel
theorem f79_10 : zft 79 10 = some (.iconst 0, 1) := by decide +kernel
theorem f79_11 : zft 79 11 = some (.istore 4, 2) := by decide +kernel
theorem f79_13 : zft 79 13 = some (.aload_n 0, 1) := by decide +kernel
theorem f79_14 : zft 79 14 = some (.getfield 101, 3) := by decide +kernel
theorem f79_17 : zft 79 17 = some (.iconst 1, 1) := by decide +kernel
theorem f79_18 : zft 79 18 = some (.isub, 1) := by decide +kernel
theorem f79_19 : zft 79 19 = some (.istore 5, 2) := by decide +kernel
theorem f79_21 : zft 79 21 = some (.iload 5, 2) := by decide +kernel
theorem f79_23 : zft 79 23 = some (.ifCond .lt 74, 3) := by decide +kernel
theorem f79_26 : zft 79 26 = some (.aload_n 3, 1) := by decide +kernel
theorem f79_27 : zft 79 27 = some (.aload_n 0, 1) := by decide +kernel
theorem f79_28 : zft 79 28 = some (.getfield 94, 3) := by decide +kernel
theorem f79_31 : zft 79 31 = some (.invokevirtual 83, 3) := by decide +kernel
theorem f79_34 : zft 79 34 = some (.iload_n 2, 1) := by decide +kernel
theorem f79_35 : zft 79 35 = some (.if_icmp .ge 62, 3) := by decide +kernel
theorem f79_38 : zft 79 38 = some (.aload_n 0, 1) := by decide +kernel
theorem f79_39 : zft 79 39 = some (.aload_n 0, 1) := by decide +kernel
theorem f79_40 : zft 79 40 = some (.getfield 27, 3) := by decide +kernel
theorem f79_43 : zft 79 43 = some (.iload 5, 2) := by decide +kernel
theorem f79_45 : zft 79 45 = some (.aaload, 1) := by decide +kernel
theorem f79_46 : zft 79 46 = some (.iload_n 1, 1) := by decide +kernel
theorem f79_47 : zft 79 47 = some (.invokevirtual 277, 3) := by decide +kernel
theorem f79_50 : zft 79 50 = some (.ifCond .eq 41, 3) := by decide +kernel
theorem f79_53 : zft 79 53 = some (.aload_n 3, 1) := by decide +kernel
theorem f79_54 : zft 79 54 = some (.aload_n 0, 1) := by decide +kernel
theorem f79_55 : zft 79 55 = some (.getfield 94, 3) := by decide +kernel
theorem f79_58 : zft 79 58 = some (.aload_n 0, 1) := by decide +kernel
theorem f79_59 : zft 79 59 = some (.getfield 27, 3) := by decide +kernel
theorem f79_62 : zft 79 62 = some (.iload 5, 2) := by decide +kernel
theorem f79_64 : zft 79 64 = some (.aaload, 1) := by decide +kernel
theorem f79_65 : zft 79 65 = some (.getfield 174, 3) := by decide +kernel
theorem f79_68 : zft 79 68 = some (.aload_n 0, 1) := by decide +kernel
theorem f79_69 : zft 79 69 = some (.getfield 94, 3) := by decide +kernel
theorem f79_72 : zft 79 72 = some (.aload_n 0, 1) := by decide +kernel
theorem f79_73 : zft 79 73 = some (.getfield 27, 3) := by decide +kernel
theorem f79_76 : zft 79 76 = some (.iload 5, 2) := by decide +kernel
theorem f79_78 : zft 79 78 = some (.aaload, 1) := by decide +kernel
theorem f79_79 : zft 79 79 = some (.getfield 121, 3) := by decide +kernel
theorem f79_82 : zft 79 82 = some (.isub, 1) := by decide +kernel
theorem f79_83 : zft 79 83 = some (.iconst 3, 1) := by decide +kernel
theorem f79_84 : zft 79 84 = some (.imul, 1) := by decide +kernel
theorem f79_85 : zft 79 85 = some (.invokevirtual 268, 3) := by decide +kernel
theorem f79_88 : zft 79 88 = some (.iinc 4 1, 3) := by decide +kernel
theorem f79_91 : zft 79 91 = some (.iinc 5 (-1), 3) := by decide +kernel
theorem f79_94 : zft 79 94 = some (.goto (-73), 3) := by decide +kernel
theorem f79_97 : zft 79 97 = some (.iload 4, 2) := by decide +kernel
theorem f79_99 : zft 79 99 = some (.ireturn, 1) := by decide +kernel
theorem o79 : zo 79 = 6 := by decide +kernel
theorem p79 : zp 79 = 2 := by decide +kernel
theorem n79 : zn 79 = 6 := by decide +kernel
theorem v79 : zr 79 = (some .int) := by decide +kernel
theorem f80_0 : zft 80 0 = some (.iconst 0, 1) := by decide +kernel
theorem f80_1 : zft 80 1 = some (.istore_n 1, 1) := by decide +kernel
theorem f80_2 : zft 80 2 = some (.iconst 0, 1) := by decide +kernel
theorem f80_3 : zft 80 3 = some (.istore_n 2, 1) := by decide +kernel
theorem f80_4 : zft 80 4 = some (.iload_n 2, 1) := by decide +kernel
theorem f80_5 : zft 80 5 = some (.aload_n 0, 1) := by decide +kernel
theorem f80_6 : zft 80 6 = some (.getfield 101, 3) := by decide +kernel
theorem f80_9 : zft 80 9 = some (.if_icmp .ge 28, 3) := by decide +kernel
theorem f80_12 : zft 80 12 = some (.aload_n 0, 1) := by decide +kernel
theorem f80_13 : zft 80 13 = some (.getfield 27, 3) := by decide +kernel
theorem f80_16 : zft 80 16 = some (.iload_n 2, 1) := by decide +kernel
theorem f80_17 : zft 80 17 = some (.aaload, 1) := by decide +kernel
theorem f80_18 : zft 80 18 = some (.aload_n 0, 1) := by decide +kernel
theorem f80_19 : zft 80 19 = some (.getfield 94, 3) := by decide +kernel
theorem f80_22 : zft 80 22 = some (.invokevirtual 281, 3) := by decide +kernel
theorem f80_25 : zft 80 25 = some (.ifCond .eq 6, 3) := by decide +kernel
theorem f80_28 : zft 80 28 = some (.iinc 1 1, 3) := by decide +kernel
theorem f80_31 : zft 80 31 = some (.iinc 2 1, 3) := by decide +kernel
theorem f80_34 : zft 80 34 = some (.goto (-30), 3) := by decide +kernel
theorem f80_37 : zft 80 37 = some (.iload_n 1, 1) := by decide +kernel
theorem f80_38 : zft 80 38 = some (.ireturn, 1) := by decide +kernel
theorem o80 : zo 80 = 6 := by decide +kernel
theorem p80 : zp 80 = 0 := by decide +kernel
theorem n80 : zn 80 = 3 := by decide +kernel
theorem v80 : zr 80 = (some .int) := by decide +kernel
theorem f81_0 : zft 81 0 = some (.iconst 0, 1) := by decide +kernel
theorem f81_1 : zft 81 1 = some (.istore_n 2, 1) := by decide +kernel
theorem f81_2 : zft 81 2 = some (.iload_n 2, 1) := by decide +kernel
theorem f81_3 : zft 81 3 = some (.aload_n 0, 1) := by decide +kernel
theorem f81_4 : zft 81 4 = some (.getfield 10, 3) := by decide +kernel
theorem f81_7 : zft 81 7 = some (.getfield 70, 3) := by decide +kernel
theorem f81_10 : zft 81 10 = some (.iload_n 1, 1) := by decide +kernel
theorem f81_11 : zft 81 11 = some (.aaload, 1) := by decide +kernel
theorem f81_12 : zft 81 12 = some (.getfield 74, 3) := by decide +kernel
theorem f81_15 : zft 81 15 = some (.if_icmp .ge 35, 3) := by decide +kernel
theorem f81_18 : zft 81 18 = some (.aload_n 0, 1) := by decide +kernel
theorem f81_19 : zft 81 19 = some (.iload_n 1, 1) := by decide +kernel
theorem f81_20 : zft 81 20 = some (.invokevirtual 284, 3) := by decide +kernel
theorem f81_23 : zft 81 23 = some (.istore_n 3, 1) := by decide +kernel
theorem f81_24 : zft 81 24 = some (.iload_n 3, 1) := by decide +kernel
theorem f81_25 : zft 81 25 = some (.iconst (-1), 1) := by decide +kernel
theorem f81_26 : zft 81 26 = some (.if_icmp .eq 18, 3) := by decide +kernel
theorem f81_29 : zft 81 29 = some (.aload_n 0, 1) := by decide +kernel
theorem f81_30 : zft 81 30 = some (.getfield 27, 3) := by decide +kernel
theorem f81_33 : zft 81 33 = some (.iload_n 3, 1) := by decide +kernel
theorem f81_34 : zft 81 34 = some (.aaload, 1) := by decide +kernel
theorem f81_35 : zft 81 35 = some (.dup, 1) := by decide +kernel
theorem f81_36 : zft 81 36 = some (.getfield 167, 3) := by decide +kernel
theorem f81_39 : zft 81 39 = some (.iconst 1, 1) := by decide +kernel
theorem f81_40 : zft 81 40 = some (.iadd, 1) := by decide +kernel
theorem f81_41 : zft 81 41 = some (.putfield 167, 3) := by decide +kernel
theorem f81_44 : zft 81 44 = some (.iinc 2 1, 3) := by decide +kernel
theorem f81_47 : zft 81 47 = some (.goto (-45), 3) := by decide +kernel
theorem f81_50 : zft 81 50 = some (.return_, 1) := by decide +kernel
theorem o81 : zo 81 = 6 := by decide +kernel
theorem p81 : zp 81 = 1 := by decide +kernel
theorem n81 : zn 81 = 4 := by decide +kernel
theorem v81 : zr 81 = none := by decide +kernel
theorem f82_0 : zft 82 0 = some (.iconst (-1), 1) := by decide +kernel
theorem f82_1 : zft 82 1 = some (.istore_n 2, 1) := by decide +kernel
theorem f82_2 : zft 82 2 = some (.iconst 0, 1) := by decide +kernel
theorem f82_3 : zft 82 3 = some (.istore_n 3, 1) := by decide +kernel
theorem f82_4 : zft 82 4 = some (.iload_n 3, 1) := by decide +kernel
theorem f82_5 : zft 82 5 = some (.aload_n 0, 1) := by decide +kernel
theorem f82_6 : zft 82 6 = some (.getfield 101, 3) := by decide +kernel
theorem f82_9 : zft 82 9 = some (.if_icmp .ge 51, 3) := by decide +kernel
theorem f82_12 : zft 82 12 = some (.aload_n 0, 1) := by decide +kernel
theorem f82_13 : zft 82 13 = some (.getfield 27, 3) := by decide +kernel
theorem f82_16 : zft 82 16 = some (.iload_n 3, 1) := by decide +kernel
theorem f82_17 : zft 82 17 = some (.aaload, 1) := by decide +kernel
theorem f82_18 : zft 82 18 = some (.iload_n 1, 1) := by decide +kernel
theorem f82_19 : zft 82 19 = some (.aload_n 0, 1) := by decide +kernel
theorem f82_20 : zft 82 20 = some (.getfield 94, 3) := by decide +kernel
theorem f82_23 : zft 82 23 = some (.invokevirtual 287, 3) := by decide +kernel
theorem f82_26 : zft 82 26 = some (.ifCond .eq 28, 3) := by decide +kernel
theorem f82_29 : zft 82 29 = some (.iload_n 2, 1) := by decide +kernel
theorem f82_30 : zft 82 30 = some (.iconst (-1), 1) := by decide +kernel
theorem f82_31 : zft 82 31 = some (.if_icmp .eq 21, 3) := by decide +kernel
theorem f82_34 : zft 82 34 = some (.aload_n 0, 1) := by decide +kernel
theorem f82_35 : zft 82 35 = some (.getfield 27, 3) := by decide +kernel
theorem f82_38 : zft 82 38 = some (.iload_n 3, 1) := by decide +kernel
theorem f82_39 : zft 82 39 = some (.aaload, 1) := by decide +kernel
theorem f82_40 : zft 82 40 = some (.aload_n 0, 1) := by decide +kernel
theorem f82_41 : zft 82 41 = some (.getfield 27, 3) := by decide +kernel
theorem f82_44 : zft 82 44 = some (.iload_n 2, 1) := by decide +kernel
theorem f82_45 : zft 82 45 = some (.aaload, 1) := by decide +kernel
theorem f82_46 : zft 82 46 = some (.invokevirtual 290, 3) := by decide +kernel
theorem f82_49 : zft 82 49 = some (.ifCond .eq 5, 3) := by decide +kernel
theorem f82_52 : zft 82 52 = some (.iload_n 3, 1) := by decide +kernel
theorem f82_53 : zft 82 53 = some (.istore_n 2, 1) := by decide +kernel
theorem f82_54 : zft 82 54 = some (.iinc 3 1, 3) := by decide +kernel
theorem f82_57 : zft 82 57 = some (.goto (-53), 3) := by decide +kernel
theorem f82_60 : zft 82 60 = some (.iload_n 2, 1) := by decide +kernel
theorem f82_61 : zft 82 61 = some (.ireturn, 1) := by decide +kernel
theorem o82 : zo 82 = 6 := by decide +kernel
theorem p82 : zp 82 = 1 := by decide +kernel
theorem n82 : zn 82 = 4 := by decide +kernel
theorem v82 : zr 82 = (some .int) := by decide +kernel
theorem f83_0 : zft 83 0 = some (.iconst 0, 1) := by decide +kernel
theorem f83_1 : zft 83 1 = some (.istore_n 1, 1) := by decide +kernel
theorem f83_2 : zft 83 2 = some (.iload_n 1, 1) := by decide +kernel
theorem f83_3 : zft 83 3 = some (.aload_n 0, 1) := by decide +kernel
theorem f83_4 : zft 83 4 = some (.getfield 101, 3) := by decide +kernel
theorem f83_7 : zft 83 7 = some (.if_icmp .ge 47, 3) := by decide +kernel
theorem f83_10 : zft 83 10 = some (.aload_n 0, 1) := by decide +kernel
theorem f83_11 : zft 83 11 = some (.getfield 27, 3) := by decide +kernel
theorem f83_14 : zft 83 14 = some (.iload_n 1, 1) := by decide +kernel
theorem f83_15 : zft 83 15 = some (.aaload, 1) := by decide +kernel
theorem f83_16 : zft 83 16 = some (.astore_n 2, 1) := by decide +kernel
theorem f83_17 : zft 83 17 = some (.aload_n 2, 1) := by decide +kernel
theorem f83_18 : zft 83 18 = some (.getfield 104, 3) := by decide +kernel
theorem f83_21 : zft 83 21 = some (.iconst 1, 1) := by decide +kernel
theorem f83_22 : zft 83 22 = some (.if_icmp .ne 26, 3) := by decide +kernel
theorem f83_25 : zft 83 25 = some (.aload_n 2, 1) := by decide +kernel
theorem f83_26 : zft 83 26 = some (.getfield 121, 3) := by decide +kernel
theorem f83_29 : zft 83 29 = some (.aload_n 2, 1) := by decide +kernel
theorem f83_30 : zft 83 30 = some (.getfield 124, 3) := by decide +kernel
theorem f83_33 : zft 83 33 = some (.iadd, 1) := by decide +kernel
theorem f83_34 : zft 83 34 = some (.iconst 1, 1) := by decide +kernel
theorem f83_35 : zft 83 35 = some (.isub, 1) := by decide +kernel
theorem f83_36 : zft 83 36 = some (.aload_n 0, 1) := by decide +kernel
theorem f83_37 : zft 83 37 = some (.getfield 94, 3) := by decide +kernel
theorem f83_40 : zft 83 40 = some (.if_icmp .gt 8, 3) := by decide +kernel
theorem f83_43 : zft 83 43 = some (.aload_n 2, 1) := by decide +kernel
theorem f83_44 : zft 83 44 = some (.iconst 3, 1) := by decide +kernel
theorem f83_45 : zft 83 45 = some (.putfield 104, 3) := by decide +kernel
theorem f83_48 : zft 83 48 = some (.iinc 1 1, 3) := by decide +kernel
theorem f83_51 : zft 83 51 = some (.goto (-49), 3) := by decide +kernel
theorem f83_54 : zft 83 54 = some (.return_, 1) := by decide +kernel
theorem o83 : zo 83 = 6 := by decide +kernel
theorem p83 : zp 83 = 0 := by decide +kernel
theorem n83 : zn 83 = 3 := by decide +kernel
theorem v83 : zr 83 = none := by decide +kernel
end
section
theorem f84_0 : zft 84 0 = some (.aload_n 0, 1) := by decide +kernel
theorem f84_1 : zft 84 1 = some (.invokespecial 1, 3) := by decide +kernel
theorem f84_4 : zft 84 4 = some (.aload_n 0, 1) := by decide +kernel
theorem f84_5 : zft 84 5 = some (.bipush 36, 2) := by decide +kernel
theorem f84_7 : zft 84 7 = some (.newarray .int, 2) := by decide +kernel
theorem f84_9 : zft 84 9 = some (.putfield 7, 3) := by decide +kernel
theorem f84_12 : zft 84 12 = some (.aload_n 0, 1) := by decide +kernel
theorem f84_13 : zft 84 13 = some (.bipush 12, 2) := by decide +kernel
theorem f84_15 : zft 84 15 = some (.newarray .int, 2) := by decide +kernel
theorem f84_17 : zft 84 17 = some (.putfield 13, 3) := by decide +kernel
theorem f84_20 : zft 84 20 = some (.aload_n 0, 1) := by decide +kernel
theorem f84_21 : zft 84 21 = some (.bipush 12, 2) := by decide +kernel
theorem f84_23 : zft 84 23 = some (.newarray .int, 2) := by decide +kernel
theorem f84_25 : zft 84 25 = some (.putfield 16, 3) := by decide +kernel
theorem f84_28 : zft 84 28 = some (.aload_n 0, 1) := by decide +kernel
theorem f84_29 : zft 84 29 = some (.sipush 480, 3) := by decide +kernel
theorem f84_32 : zft 84 32 = some (.newarray .boolean, 2) := by decide +kernel
theorem f84_34 : zft 84 34 = some (.putfield 19, 3) := by decide +kernel
theorem f84_37 : zft 84 37 = some (.aload_n 0, 1) := by decide +kernel
theorem f84_38 : zft 84 38 = some (.sipush 1440, 3) := by decide +kernel
theorem f84_41 : zft 84 41 = some (.newarray .int, 2) := by decide +kernel
theorem f84_43 : zft 84 43 = some (.putfield 23, 3) := by decide +kernel
theorem f84_46 : zft 84 46 = some (.aload_n 0, 1) := by decide +kernel
theorem f84_47 : zft 84 47 = some (.sipush 144, 3) := by decide +kernel
theorem f84_50 : zft 84 50 = some (.newarray .int, 2) := by decide +kernel
theorem f84_52 : zft 84 52 = some (.putfield 26, 3) := by decide +kernel
theorem f84_55 : zft 84 55 = some (.aload_n 0, 1) := by decide +kernel
theorem f84_56 : zft 84 56 = some (.bipush 40, 2) := by decide +kernel
theorem f84_58 : zft 84 58 = some (.newarray .int, 2) := by decide +kernel
theorem f84_60 : zft 84 60 = some (.putfield 29, 3) := by decide +kernel
theorem f84_63 : zft 84 63 = some (.aload_n 0, 1) := by decide +kernel
theorem f84_64 : zft 84 64 = some (.bipush 40, 2) := by decide +kernel
theorem f84_66 : zft 84 66 = some (.newarray .int, 2) := by decide +kernel
theorem f84_68 : zft 84 68 = some (.putfield 32, 3) := by decide +kernel
theorem f84_71 : zft 84 71 = some (.aload_n 0, 1) := by decide +kernel
theorem f84_72 : zft 84 72 = some (.bipush 40, 2) := by decide +kernel
theorem f84_74 : zft 84 74 = some (.newarray .int, 2) := by decide +kernel
theorem f84_76 : zft 84 76 = some (.putfield 35, 3) := by decide +kernel
theorem f84_79 : zft 84 79 = some (.aload_n 0, 1) := by decide +kernel
theorem f84_80 : zft 84 80 = some (.sipush 280, 3) := by decide +kernel
theorem f84_83 : zft 84 83 = some (.newarray .int, 2) := by decide +kernel
theorem f84_85 : zft 84 85 = some (.putfield 38, 3) := by decide +kernel
theorem f84_88 : zft 84 88 = some (.aload_n 0, 1) := by decide +kernel
theorem f84_89 : zft 84 89 = some (.bipush 40, 2) := by decide +kernel
theorem f84_91 : zft 84 91 = some (.newarray .int, 2) := by decide +kernel
theorem f84_93 : zft 84 93 = some (.putfield 41, 3) := by decide +kernel
theorem f84_96 : zft 84 96 = some (.aload_n 0, 1) := by decide +kernel
theorem f84_97 : zft 84 97 = some (.sipush 280, 3) := by decide +kernel
theorem f84_100 : zft 84 100 = some (.newarray .boolean, 2) := by decide +kernel
theorem f84_102 : zft 84 102 = some (.putfield 44, 3) := by decide +kernel
theorem f84_105 : zft 84 105 = some (.aload_n 0, 1) := by decide +kernel
theorem f84_106 : zft 84 106 = some (.sipush 840, 3) := by decide +kernel
theorem f84_109 : zft 84 109 = some (.newarray .int, 2) := by decide +kernel
theorem f84_111 : zft 84 111 = some (.putfield 47, 3) := by decide +kernel
theorem f84_114 : zft 84 114 = some (.aload_n 0, 1) := by decide +kernel
theorem f84_115 : zft 84 115 = some (.sipush 280, 3) := by decide +kernel
theorem f84_118 : zft 84 118 = some (.newarray .boolean, 2) := by decide +kernel
theorem f84_120 : zft 84 120 = some (.putfield 50, 3) := by decide +kernel
theorem f84_123 : zft 84 123 = some (.aload_n 0, 1) := by decide +kernel
theorem f84_124 : zft 84 124 = some (.bipush 40, 2) := by decide +kernel
theorem f84_126 : zft 84 126 = some (.newarray .int, 2) := by decide +kernel
theorem f84_128 : zft 84 128 = some (.putfield 53, 3) := by decide +kernel
theorem f84_131 : zft 84 131 = some (.aload_n 0, 1) := by decide +kernel
theorem f84_132 : zft 84 132 = some (.bipush 40, 2) := by decide +kernel
theorem f84_134 : zft 84 134 = some (.newarray .boolean, 2) := by decide +kernel
theorem f84_136 : zft 84 136 = some (.putfield 56, 3) := by decide +kernel
theorem f84_139 : zft 84 139 = some (.aload_n 0, 1) := by decide +kernel
theorem f84_140 : zft 84 140 = some (.iconst 3, 1) := by decide +kernel
theorem f84_141 : zft 84 141 = some (.newarray .int, 2) := by decide +kernel
theorem f84_143 : zft 84 143 = some (.putfield 59, 3) := by decide +kernel
theorem f84_146 : zft 84 146 = some (.aload_n 0, 1) := by decide +kernel
theorem f84_147 : zft 84 147 = some (.bipush 84, 2) := by decide +kernel
theorem f84_149 : zft 84 149 = some (.newarray .int, 2) := by decide +kernel
theorem f84_151 : zft 84 151 = some (.putfield 62, 3) := by decide +kernel
theorem f84_154 : zft 84 154 = some (.aload_n 0, 1) := by decide +kernel
theorem f84_155 : zft 84 155 = some (.bipush 7, 2) := by decide +kernel
theorem f84_157 : zft 84 157 = some (.newarray .int, 2) := by decide +kernel
theorem f84_159 : zft 84 159 = some (.putfield 65, 3) := by decide +kernel
theorem f84_162 : zft 84 162 = some (.aload_n 0, 1) := by decide +kernel
theorem f84_163 : zft 84 163 = some (.bipush 20, 2) := by decide +kernel
theorem f84_165 : zft 84 165 = some (.newarray .int, 2) := by decide +kernel
theorem f84_167 : zft 84 167 = some (.putfield 68, 3) := by decide +kernel
theorem f84_170 : zft 84 170 = some (.aload_n 0, 1) := by decide +kernel
theorem f84_171 : zft 84 171 = some (.bipush 20, 2) := by decide +kernel
theorem f84_173 : zft 84 173 = some (.newarray .int, 2) := by decide +kernel
theorem f84_175 : zft 84 175 = some (.putfield 71, 3) := by decide +kernel
theorem f84_178 : zft 84 178 = some (.aload_n 0, 1) := by decide +kernel
theorem f84_179 : zft 84 179 = some (.bipush 40, 2) := by decide +kernel
theorem f84_181 : zft 84 181 = some (.newarray .int, 2) := by decide +kernel
theorem f84_183 : zft 84 183 = some (.putfield 74, 3) := by decide +kernel
theorem f84_186 : zft 84 186 = some (.aload_n 0, 1) := by decide +kernel
theorem f84_187 : zft 84 187 = some (.bipush 40, 2) := by decide +kernel
theorem f84_189 : zft 84 189 = some (.newarray .int, 2) := by decide +kernel
theorem f84_191 : zft 84 191 = some (.putfield 77, 3) := by decide +kernel
theorem f84_194 : zft 84 194 = some (.aload_n 0, 1) := by decide +kernel
theorem f84_195 : zft 84 195 = some (.bipush 40, 2) := by decide +kernel
theorem f84_197 : zft 84 197 = some (.newarray .int, 2) := by decide +kernel
theorem f84_199 : zft 84 199 = some (.putfield 80, 3) := by decide +kernel
theorem f84_202 : zft 84 202 = some (.aload_n 0, 1) := by decide +kernel
theorem f84_203 : zft 84 203 = some (.bipush 40, 2) := by decide +kernel
theorem f84_205 : zft 84 205 = some (.newarray .boolean, 2) := by decide +kernel
theorem f84_207 : zft 84 207 = some (.putfield 83, 3) := by decide +kernel
theorem f84_210 : zft 84 210 = some (.return_, 1) := by decide +kernel
theorem o84 : zo 84 = 7 := by decide +kernel
theorem p84 : zp 84 = 0 := by decide +kernel
theorem n84 : zn 84 = 1 := by decide +kernel
theorem v84 : zr 84 = none := by decide +kernel
theorem f85_0 : zft 85 0 = some (.iload_n 0, 1) := by decide +kernel
theorem f85_1 : zft 85 1 = some (.iload_n 1, 1) := by decide +kernel
theorem f85_2 : zft 85 2 = some (.if_icmp .lt 12, 3) := by decide +kernel
theorem f85_5 : zft 85 5 = some (.iload_n 0, 1) := by decide +kernel
theorem f85_6 : zft 85 6 = some (.iload_n 2, 1) := by decide +kernel
theorem f85_7 : zft 85 7 = some (.if_icmp .gt 7, 3) := by decide +kernel
theorem f85_10 : zft 85 10 = some (.iconst 1, 1) := by decide +kernel
theorem f85_11 : zft 85 11 = some (.goto 4, 3) := by decide +kernel
theorem f85_14 : zft 85 14 = some (.iconst 0, 1) := by decide +kernel
theorem f85_15 : zft 85 15 = some (.ireturn, 1) := by decide +kernel
theorem o85 : zo 85 = 7 := by decide +kernel
theorem p85 : zp 85 = 3 := by decide +kernel
theorem n85 : zn 85 = 3 := by decide +kernel
theorem v85 : zr 85 = (some .boolean) := by decide +kernel
theorem f86_0 : zft 86 0 = some (.iload_n 1, 1) := by decide +kernel
theorem f86_1 : zft 86 1 = some (.iconst 0, 1) := by decide +kernel
theorem f86_2 : zft 86 2 = some (.aload_n 0, 1) := by decide +kernel
theorem f86_3 : zft 86 3 = some (.getfield 86, 3) := by decide +kernel
theorem f86_6 : zft 86 6 = some (.iconst 1, 1) := by decide +kernel
theorem f86_7 : zft 86 7 = some (.isub, 1) := by decide +kernel
theorem f86_8 : zft 86 8 = some (.invokestatic 90, 3) := by decide +kernel
theorem f86_11 : zft 86 11 = some (.ireturn, 1) := by decide +kernel
theorem o86 : zo 86 = 7 := by decide +kernel
theorem p86 : zp 86 = 1 := by decide +kernel
theorem n86 : zn 86 = 2 := by decide +kernel
theorem v86 : zr 86 = (some .boolean) := by decide +kernel
theorem f87_0 : zft 87 0 = some (.iload_n 0, 1) := by decide +kernel
theorem f87_1 : zft 87 1 = some (.iconst 0, 1) := by decide +kernel
theorem f87_2 : zft 87 2 = some (.bipush 39, 2) := by decide +kernel
theorem f87_4 : zft 87 4 = some (.invokestatic 90, 3) := by decide +kernel
theorem f87_7 : zft 87 7 = some (.ireturn, 1) := by decide +kernel
theorem o87 : zo 87 = 7 := by decide +kernel
theorem p87 : zp 87 = 1 := by decide +kernel
theorem n87 : zn 87 = 1 := by decide +kernel
theorem v87 : zr 87 = (some .boolean) := by decide +kernel
theorem f88_0 : zft 88 0 = some (.iload_n 1, 1) := by decide +kernel
theorem f88_1 : zft 88 1 = some (.iconst 0, 1) := by decide +kernel
theorem f88_2 : zft 88 2 = some (.aload_n 0, 1) := by decide +kernel
theorem f88_3 : zft 88 3 = some (.getfield 94, 3) := by decide +kernel
theorem f88_6 : zft 88 6 = some (.iconst 1, 1) := by decide +kernel
theorem f88_7 : zft 88 7 = some (.isub, 1) := by decide +kernel
theorem f88_8 : zft 88 8 = some (.invokestatic 90, 3) := by decide +kernel
theorem f88_11 : zft 88 11 = some (.ireturn, 1) := by decide +kernel
theorem o88 : zo 88 = 7 := by decide +kernel
theorem p88 : zp 88 = 1 := by decide +kernel
theorem n88 : zn 88 = 2 := by decide +kernel
theorem v88 : zr 88 = (some .boolean) := by decide +kernel
theorem f89_0 : zft 89 0 = some (.iload_n 1, 1) := by decide +kernel
theorem f89_1 : zft 89 1 = some (.iconst 0, 1) := by decide +kernel
theorem f89_2 : zft 89 2 = some (.bipush 9, 2) := by decide +kernel
theorem f89_4 : zft 89 4 = some (.invokestatic 90, 3) := by decide +kernel
theorem f89_7 : zft 89 7 = some (.ifCond .eq 42, 3) := by decide +kernel
theorem f89_10 : zft 89 10 = some (.iload_n 2, 1) := by decide +kernel
theorem f89_11 : zft 89 11 = some (.iconst 0, 1) := by decide +kernel
theorem f89_12 : zft 89 12 = some (.bipush 9, 2) := by decide +kernel
theorem f89_14 : zft 89 14 = some (.invokestatic 90, 3) := by decide +kernel
theorem f89_17 : zft 89 17 = some (.ifCond .eq 32, 3) := by decide +kernel
theorem f89_20 : zft 89 20 = some (.iload_n 3, 1) := by decide +kernel
theorem f89_21 : zft 89 21 = some (.iconst 0, 1) := by decide +kernel
theorem f89_22 : zft 89 22 = some (.bipush 9, 2) := by decide +kernel
theorem f89_24 : zft 89 24 = some (.invokestatic 90, 3) := by decide +kernel
theorem f89_27 : zft 89 27 = some (.ifCond .eq 22, 3) := by decide +kernel
theorem f89_30 : zft 89 30 = some (.iload_n 1, 1) := by decide +kernel
theorem f89_31 : zft 89 31 = some (.iload_n 2, 1) := by decide +kernel
theorem f89_32 : zft 89 32 = some (.iadd, 1) := by decide +kernel
theorem f89_33 : zft 89 33 = some (.iload_n 3, 1) := by decide +kernel
theorem f89_34 : zft 89 34 = some (.iadd, 1) := by decide +kernel
theorem f89_35 : zft 89 35 = some (.ifCond .eq 14, 3) := by decide +kernel
theorem f89_38 : zft 89 38 = some (.iload 4, 2) := by decide +kernel
theorem f89_40 : zft 89 40 = some (.iconst 0, 1) := by decide +kernel
theorem f89_41 : zft 89 41 = some (.bipush 23, 2) := by decide +kernel
theorem f89_43 : zft 89 43 = some (.invokestatic 90, 3) := by decide +kernel
theorem f89_46 : zft 89 46 = some (.ifCond .ne 6, 3) := by decide +kernel
theorem f89_49 : zft 89 49 = some (.bipush (-2), 2) := by decide +kernel
theorem f89_51 : zft 89 51 = some (.ireturn, 1) := by decide +kernel
theorem f89_52 : zft 89 52 = some (.aload_n 0, 1) := by decide +kernel
theorem f89_53 : zft 89 53 = some (.getfield 86, 3) := by decide +kernel
theorem f89_56 : zft 89 56 = some (.bipush 12, 2) := by decide +kernel
theorem f89_58 : zft 89 58 = some (.if_icmp .ne 6, 3) := by decide +kernel
theorem f89_61 : zft 89 61 = some (.bipush (-4), 2) := by decide +kernel
theorem f89_63 : zft 89 63 = some (.ireturn, 1) := by decide +kernel
theorem f89_64 : zft 89 64 = some (.aload_n 0, 1) := by decide +kernel
theorem f89_65 : zft 89 65 = some (.getfield 7, 3) := by decide +kernel
theorem f89_68 : zft 89 68 = some (.iconst 3, 1) := by decide +kernel
theorem f89_69 : zft 89 69 = some (.aload_n 0, 1) := by decide +kernel
theorem f89_70 : zft 89 70 = some (.getfield 86, 3) := by decide +kernel
theorem f89_73 : zft 89 73 = some (.imul, 1) := by decide +kernel
theorem f89_74 : zft 89 74 = some (.iload_n 1, 1) := by decide +kernel
theorem f89_75 : zft 89 75 = some (.iastore, 1) := by decide +kernel
theorem f89_76 : zft 89 76 = some (.aload_n 0, 1) := by decide +kernel
theorem f89_77 : zft 89 77 = some (.getfield 7, 3) := by decide +kernel
theorem f89_80 : zft 89 80 = some (.iconst 3, 1) := by decide +kernel
theorem f89_81 : zft 89 81 = some (.aload_n 0, 1) := by decide +kernel
theorem f89_82 : zft 89 82 = some (.getfield 86, 3) := by decide +kernel
theorem f89_85 : zft 89 85 = some (.imul, 1) := by decide +kernel
theorem f89_86 : zft 89 86 = some (.iconst 1, 1) := by decide +kernel
theorem f89_87 : zft 89 87 = some (.iadd, 1) := by decide +kernel
theorem f89_88 : zft 89 88 = some (.iload_n 2, 1) := by decide +kernel
theorem f89_89 : zft 89 89 = some (.iastore, 1) := by decide +kernel
theorem f89_90 : zft 89 90 = some (.aload_n 0, 1) := by decide +kernel
theorem f89_91 : zft 89 91 = some (.getfield 7, 3) := by decide +kernel
theorem f89_94 : zft 89 94 = some (.iconst 3, 1) := by decide +kernel
theorem f89_95 : zft 89 95 = some (.aload_n 0, 1) := by decide +kernel
theorem f89_96 : zft 89 96 = some (.getfield 86, 3) := by decide +kernel
theorem f89_99 : zft 89 99 = some (.imul, 1) := by decide +kernel
theorem f89_100 : zft 89 100 = some (.iconst 2, 1) := by decide +kernel
theorem f89_101 : zft 89 101 = some (.iadd, 1) := by decide +kernel
theorem f89_102 : zft 89 102 = some (.iload_n 3, 1) := by decide +kernel
theorem f89_103 : zft 89 103 = some (.iastore, 1) := by decide +kernel
theorem f89_104 : zft 89 104 = some (.aload_n 0, 1) := by decide +kernel
theorem f89_105 : zft 89 105 = some (.getfield 13, 3) := by decide +kernel
theorem f89_108 : zft 89 108 = some (.aload_n 0, 1) := by decide +kernel
theorem f89_109 : zft 89 109 = some (.getfield 86, 3) := by decide +kernel
theorem f89_112 : zft 89 112 = some (.iload 4, 2) := by decide +kernel
theorem f89_114 : zft 89 114 = some (.iastore, 1) := by decide +kernel
theorem f89_115 : zft 89 115 = some (.aload_n 0, 1) := by decide +kernel
theorem f89_116 : zft 89 116 = some (.dup, 1) := by decide +kernel
theorem f89_117 : zft 89 117 = some (.getfield 86, 3) := by decide +kernel
theorem f89_120 : zft 89 120 = some (.iconst 1, 1) := by decide +kernel
theorem f89_121 : zft 89 121 = some (.iadd, 1) := by decide +kernel
theorem f89_122 : zft 89 122 = some (.putfield 86, 3) := by decide +kernel
theorem f89_125 : zft 89 125 = some (.aload_n 0, 1) := by decide +kernel
theorem f89_126 : zft 89 126 = some (.getfield 86, 3) := by decide +kernel
theorem f89_129 : zft 89 129 = some (.iconst 1, 1) := by decide +kernel
theorem f89_130 : zft 89 130 = some (.isub, 1) := by decide +kernel
theorem f89_131 : zft 89 131 = some (.ireturn, 1) := by decide +kernel
theorem o89 : zo 89 = 7 := by decide +kernel
theorem p89 : zp 89 = 4 := by decide +kernel
theorem n89 : zn 89 = 5 := by decide +kernel
theorem v89 : zr 89 = (some .int) := by decide +kernel
theorem f90_0 : zft 90 0 = some (.aload_n 0, 1) := by decide +kernel
theorem f90_1 : zft 90 1 = some (.iload_n 1, 1) := by decide +kernel
theorem f90_2 : zft 90 2 = some (.invokevirtual 97, 3) := by decide +kernel
theorem f90_5 : zft 90 5 = some (.ifCond .eq 40, 3) := by decide +kernel
theorem f90_8 : zft 90 8 = some (.aload_n 0, 1) := by decide +kernel
theorem f90_9 : zft 90 9 = some (.iload_n 2, 1) := by decide +kernel
theorem f90_10 : zft 90 10 = some (.invokevirtual 97, 3) := by decide +kernel
theorem f90_13 : zft 90 13 = some (.ifCond .eq 32, 3) := by decide +kernel
theorem f90_16 : zft 90 16 = some (.iload_n 1, 1) := by decide +kernel
theorem f90_17 : zft 90 17 = some (.iload_n 2, 1) := by decide +kernel
theorem f90_18 : zft 90 18 = some (.if_icmp .eq 27, 3) := by decide +kernel
theorem f90_21 : zft 90 21 = some (.iload_n 3, 1) := by decide +kernel
theorem f90_22 : zft 90 22 = some (.iconst 1, 1) := by decide +kernel
theorem f90_23 : zft 90 23 = some (.bipush 40, 2) := by decide +kernel
theorem f90_25 : zft 90 25 = some (.invokestatic 90, 3) := by decide +kernel
theorem f90_28 : zft 90 28 = some (.ifCond .eq 17, 3) := by decide +kernel
theorem f90_31 : zft 90 31 = some (.aload_n 0, 1) := by decide +kernel
theorem f90_32 : zft 90 32 = some (.getfield 26, 3) := by decide +kernel
theorem f90_35 : zft 90 35 = some (.bipush 12, 2) := by decide +kernel
theorem f90_37 : zft 90 37 = some (.iload_n 1, 1) := by decide +kernel
theorem f90_38 : zft 90 38 = some (.imul, 1) := by decide +kernel
theorem f90_39 : zft 90 39 = some (.iload_n 2, 1) := by decide +kernel
theorem f90_40 : zft 90 40 = some (.iadd, 1) := by decide +kernel
theorem f90_41 : zft 90 41 = some (.iaload, 1) := by decide +kernel
theorem f90_42 : zft 90 42 = some (.ifCond .le 6, 3) := by decide +kernel
theorem f90_45 : zft 90 45 = some (.bipush (-2), 2) := by decide +kernel
theorem f90_47 : zft 90 47 = some (.ireturn, 1) := by decide +kernel
theorem f90_48 : zft 90 48 = some (.aload_n 0, 1) := by decide +kernel
theorem f90_49 : zft 90 49 = some (.getfield 101, 3) := by decide +kernel
theorem f90_52 : zft 90 52 = some (.bipush 40, 2) := by decide +kernel
theorem f90_54 : zft 90 54 = some (.if_icmp .ne 6, 3) := by decide +kernel
theorem f90_57 : zft 90 57 = some (.bipush (-4), 2) := by decide +kernel
theorem f90_59 : zft 90 59 = some (.ireturn, 1) := by decide +kernel
theorem f90_60 : zft 90 60 = some (.aload_n 0, 1) := by decide +kernel
theorem f90_61 : zft 90 61 = some (.getfield 26, 3) := by decide +kernel
theorem f90_64 : zft 90 64 = some (.bipush 12, 2) := by decide +kernel
theorem f90_66 : zft 90 66 = some (.iload_n 1, 1) := by decide +kernel
theorem f90_67 : zft 90 67 = some (.imul, 1) := by decide +kernel
theorem f90_68 : zft 90 68 = some (.iload_n 2, 1) := by decide +kernel
theorem f90_69 : zft 90 69 = some (.iadd, 1) := by decide +kernel
theorem f90_70 : zft 90 70 = some (.iload_n 3, 1) := by decide +kernel
theorem f90_71 : zft 90 71 = some (.iastore, 1) := by decide +kernel
theorem f90_72 : zft 90 72 = some (.aload_n 0, 1) := by decide +kernel
theorem f90_73 : zft 90 73 = some (.getfield 26, 3) := by decide +kernel
theorem f90_76 : zft 90 76 = some (.bipush 12, 2) := by decide +kernel
theorem f90_78 : zft 90 78 = some (.iload_n 2, 1) := by decide +kernel
theorem f90_79 : zft 90 79 = some (.imul, 1) := by decide +kernel
theorem f90_80 : zft 90 80 = some (.iload_n 1, 1) := by decide +kernel
theorem f90_81 : zft 90 81 = some (.iadd, 1) := by decide +kernel
theorem f90_82 : zft 90 82 = some (.iload_n 3, 1) := by decide +kernel
theorem f90_83 : zft 90 83 = some (.iastore, 1) := by decide +kernel
theorem f90_84 : zft 90 84 = some (.aload_n 0, 1) := by decide +kernel
theorem f90_85 : zft 90 85 = some (.dup, 1) := by decide +kernel
theorem f90_86 : zft 90 86 = some (.getfield 101, 3) := by decide +kernel
theorem f90_89 : zft 90 89 = some (.iconst 1, 1) := by decide +kernel
theorem f90_90 : zft 90 90 = some (.iadd, 1) := by decide +kernel
theorem f90_91 : zft 90 91 = some (.putfield 101, 3) := by decide +kernel
theorem f90_94 : zft 90 94 = some (.aload_n 0, 1) := by decide +kernel
theorem f90_95 : zft 90 95 = some (.getfield 101, 3) := by decide +kernel
theorem f90_98 : zft 90 98 = some (.ireturn, 1) := by decide +kernel
theorem o90 : zo 90 = 7 := by decide +kernel
theorem p90 : zp 90 = 3 := by decide +kernel
theorem n90 : zn 90 = 4 := by decide +kernel
theorem v90 : zr 90 = (some .int) := by decide +kernel
theorem f91_0 : zft 91 0 = some (.aload_n 0, 1) := by decide +kernel
theorem f91_1 : zft 91 1 = some (.iload_n 1, 1) := by decide +kernel
theorem f91_2 : zft 91 2 = some (.invokevirtual 97, 3) := by decide +kernel
theorem f91_5 : zft 91 5 = some (.ifCond .eq 13, 3) := by decide +kernel
theorem f91_8 : zft 91 8 = some (.iload_n 2, 1) := by decide +kernel
theorem f91_9 : zft 91 9 = some (.iconst 0, 1) := by decide +kernel
theorem f91_10 : zft 91 10 = some (.bipush 9, 2) := by decide +kernel
theorem f91_12 : zft 91 12 = some (.invokestatic 90, 3) := by decide +kernel
theorem f91_15 : zft 91 15 = some (.ifCond .ne 6, 3) := by decide +kernel
theorem f91_18 : zft 91 18 = some (.bipush (-2), 2) := by decide +kernel
theorem f91_20 : zft 91 20 = some (.ireturn, 1) := by decide +kernel
theorem f91_21 : zft 91 21 = some (.aload_n 0, 1) := by decide +kernel
theorem f91_22 : zft 91 22 = some (.getfield 16, 3) := by decide +kernel
theorem f91_25 : zft 91 25 = some (.iload_n 1, 1) := by decide +kernel
theorem f91_26 : zft 91 26 = some (.iaload, 1) := by decide +kernel
theorem f91_27 : zft 91 27 = some (.istore_n 3, 1) := by decide +kernel
theorem f91_28 : zft 91 28 = some (.aload_n 0, 1) := by decide +kernel
theorem f91_29 : zft 91 29 = some (.getfield 16, 3) := by decide +kernel
theorem f91_32 : zft 91 32 = some (.iload_n 1, 1) := by decide +kernel
theorem f91_33 : zft 91 33 = some (.iload_n 2, 1) := by decide +kernel
theorem f91_34 : zft 91 34 = some (.iastore, 1) := by decide +kernel
theorem f91_35 : zft 91 35 = some (.iload_n 3, 1) := by decide +kernel
theorem f91_36 : zft 91 36 = some (.ireturn, 1) := by decide +kernel
theorem o91 : zo 91 = 7 := by decide +kernel
theorem p91 : zp 91 = 2 := by decide +kernel
theorem n91 : zn 91 = 4 := by decide +kernel
theorem v91 : zr 91 = (some .int) := by decide +kernel
theorem f92_0 : zft 92 0 = some (.iload_n 2, 1) := by decide +kernel
theorem f92_1 : zft 92 1 = some (.aload_n 0, 1) := by decide +kernel
theorem f92_2 : zft 92 2 = some (.getfield 32, 3) := by decide +kernel
theorem f92_5 : zft 92 5 = some (.iload_n 1, 1) := by decide +kernel
theorem f92_6 : zft 92 6 = some (.iaload, 1) := by decide +kernel
theorem f92_7 : zft 92 7 = some (.isub, 1) := by decide +kernel
theorem f92_8 : zft 92 8 = some (.istore_n 3, 1) := by decide +kernel
theorem f92_9 : zft 92 9 = some (.iload_n 3, 1) := by decide +kernel
theorem f92_10 : zft 92 10 = some (.iconst 0, 1) := by decide +kernel
theorem f92_11 : zft 92 11 = some (.aload_n 0, 1) := by decide +kernel
theorem f92_12 : zft 92 12 = some (.getfield 35, 3) := by decide +kernel
theorem f92_15 : zft 92 15 = some (.iload_n 1, 1) := by decide +kernel
theorem f92_16 : zft 92 16 = some (.iaload, 1) := by decide +kernel
theorem f92_17 : zft 92 17 = some (.iconst 1, 1) := by decide +kernel
theorem f92_18 : zft 92 18 = some (.isub, 1) := by decide +kernel
theorem f92_19 : zft 92 19 = some (.invokestatic 90, 3) := by decide +kernel
theorem f92_22 : zft 92 22 = some (.ifCond .eq 12, 3) := by decide +kernel
theorem f92_25 : zft 92 25 = some (.bipush 7, 2) := by decide +kernel
theorem f92_27 : zft 92 27 = some (.iload_n 1, 1) := by decide +kernel
theorem f92_28 : zft 92 28 = some (.imul, 1) := by decide +kernel
theorem f92_29 : zft 92 29 = some (.iload_n 3, 1) := by decide +kernel
theorem f92_30 : zft 92 30 = some (.iadd, 1) := by decide +kernel
theorem f92_31 : zft 92 31 = some (.goto 4, 3) := by decide +kernel
theorem f92_34 : zft 92 34 = some (.iconst (-1), 1) := by decide +kernel
theorem f92_35 : zft 92 35 = some (.ireturn, 1) := by decide +kernel
theorem o92 : zo 92 = 7 := by decide +kernel
theorem p92 : zp 92 = 2 := by decide +kernel
theorem n92 : zn 92 = 4 := by decide +kernel
theorem v92 : zr 92 = (some .int) := by decide +kernel
theorem f93_0 : zft 93 0 = some (.aload_n 0, 1) := by decide +kernel
theorem f93_1 : zft 93 1 = some (.getfield 7, 3) := by decide +kernel
theorem f93_4 : zft 93 4 = some (.iconst 3, 1) := by decide +kernel
theorem f93_5 : zft 93 5 = some (.iload_n 1, 1) := by decide +kernel
theorem f93_6 : zft 93 6 = some (.imul, 1) := by decide +kernel
theorem f93_7 : zft 93 7 = some (.iload_n 2, 1) := by decide +kernel
theorem f93_8 : zft 93 8 = some (.iadd, 1) := by decide +kernel
theorem f93_9 : zft 93 9 = some (.iaload, 1) := by decide +kernel
theorem f93_10 : zft 93 10 = some (.aload_n 0, 1) := by decide +kernel
theorem f93_11 : zft 93 11 = some (.getfield 23, 3) := by decide +kernel
theorem f93_14 : zft 93 14 = some (.bipush 120, 2) := by decide +kernel
theorem f93_16 : zft 93 16 = some (.iload_n 1, 1) := by decide +kernel
theorem f93_17 : zft 93 17 = some (.imul, 1) := by decide +kernel
theorem f93_18 : zft 93 18 = some (.iconst 3, 1) := by decide +kernel
theorem f93_19 : zft 93 19 = some (.iload_n 3, 1) := by decide +kernel
theorem f93_20 : zft 93 20 = some (.imul, 1) := by decide +kernel
theorem f93_21 : zft 93 21 = some (.iadd, 1) := by decide +kernel
theorem f93_22 : zft 93 22 = some (.iload_n 2, 1) := by decide +kernel
theorem f93_23 : zft 93 23 = some (.iadd, 1) := by decide +kernel
theorem f93_24 : zft 93 24 = some (.iaload, 1) := by decide +kernel
theorem f93_25 : zft 93 25 = some (.isub, 1) := by decide +kernel
theorem f93_26 : zft 93 26 = some (.istore 4, 2) := by decide +kernel
theorem f93_28 : zft 93 28 = some (.iconst 0, 1) := by decide +kernel
theorem f93_29 : zft 93 29 = some (.istore 5, 2) := by decide +kernel
theorem f93_31 : zft 93 31 = some (.iload 5, 2) := by decide +kernel
theorem f93_33 : zft 93 33 = some (.aload_n 0, 1) := by decide +kernel
theorem f93_34 : zft 93 34 = some (.getfield 94, 3) := by decide +kernel
theorem f93_37 : zft 93 37 = some (.if_icmp .ge 61, 3) := by decide +kernel
theorem f93_40 : zft 93 40 = some (.aload_n 0, 1) := by decide +kernel
theorem f93_41 : zft 93 41 = some (.iload 5, 2) := by decide +kernel
theorem f93_43 : zft 93 43 = some (.iload_n 3, 1) := by decide +kernel
theorem f93_44 : zft 93 44 = some (.invokevirtual 104, 3) := by decide +kernel
theorem f93_47 : zft 93 47 = some (.istore 6, 2) := by decide +kernel
theorem f93_49 : zft 93 49 = some (.iload 6, 2) := by decide +kernel
theorem f93_51 : zft 93 51 = some (.iconst (-1), 1) := by decide +kernel
theorem f93_52 : zft 93 52 = some (.if_icmp .eq 40, 3) := by decide +kernel
theorem f93_55 : zft 93 55 = some (.aload_n 0, 1) := by decide +kernel
theorem f93_56 : zft 93 56 = some (.getfield 44, 3) := by decide +kernel
theorem f93_59 : zft 93 59 = some (.iload 6, 2) := by decide +kernel
theorem f93_61 : zft 93 61 = some (.baload, 1) := by decide +kernel
theorem f93_62 : zft 93 62 = some (.ifCond .eq 30, 3) := by decide +kernel
theorem f93_65 : zft 93 65 = some (.aload_n 0, 1) := by decide +kernel
theorem f93_66 : zft 93 66 = some (.getfield 38, 3) := by decide +kernel
theorem f93_69 : zft 93 69 = some (.iload 6, 2) := by decide +kernel
theorem f93_71 : zft 93 71 = some (.iaload, 1) := by decide +kernel
theorem f93_72 : zft 93 72 = some (.iload_n 1, 1) := by decide +kernel
theorem f93_73 : zft 93 73 = some (.if_icmp .ne 19, 3) := by decide +kernel
theorem f93_76 : zft 93 76 = some (.iload 4, 2) := by decide +kernel
theorem f93_78 : zft 93 78 = some (.aload_n 0, 1) := by decide +kernel
theorem f93_79 : zft 93 79 = some (.getfield 47, 3) := by decide +kernel
theorem f93_82 : zft 93 82 = some (.iconst 3, 1) := by decide +kernel
theorem f93_83 : zft 93 83 = some (.iload 6, 2) := by decide +kernel
theorem f93_85 : zft 93 85 = some (.imul, 1) := by decide +kernel
theorem f93_86 : zft 93 86 = some (.iload_n 2, 1) := by decide +kernel
theorem f93_87 : zft 93 87 = some (.iadd, 1) := by decide +kernel
theorem f93_88 : zft 93 88 = some (.iaload, 1) := by decide +kernel
theorem f93_89 : zft 93 89 = some (.isub, 1) := by decide +kernel
theorem f93_90 : zft 93 90 = some (.istore 4, 2) := by decide +kernel
theorem f93_92 : zft 93 92 = some (.iinc 5 1, 3) := by decide +kernel
theorem f93_95 : zft 93 95 = some (.goto (-64), 3) := by decide +kernel
theorem f93_98 : zft 93 98 = some (.iload 4, 2) := by decide +kernel
theorem f93_100 : zft 93 100 = some (.ireturn, 1) := by decide +kernel
theorem o93 : zo 93 = 7 := by decide +kernel
theorem p93 : zp 93 = 3 := by decide +kernel
theorem n93 : zn 93 = 7 := by decide +kernel
theorem v93 : zr 93 = (some .int) := by decide +kernel
theorem f94_0 : zft 94 0 = some (.aload_n 0, 1) := by decide +kernel
theorem f94_1 : zft 94 1 = some (.iload_n 1, 1) := by decide +kernel
theorem f94_2 : zft 94 2 = some (.iconst 0, 1) := by decide +kernel
theorem f94_3 : zft 94 3 = some (.iload_n 2, 1) := by decide +kernel
theorem f94_4 : zft 94 4 = some (.invokevirtual 108, 3) := by decide +kernel
theorem f94_7 : zft 94 7 = some (.aload_n 0, 1) := by decide +kernel
theorem f94_8 : zft 94 8 = some (.iload_n 1, 1) := by decide +kernel
theorem f94_9 : zft 94 9 = some (.iconst 1, 1) := by decide +kernel
theorem f94_10 : zft 94 10 = some (.iload_n 2, 1) := by decide +kernel
theorem f94_11 : zft 94 11 = some (.invokevirtual 108, 3) := by decide +kernel
theorem f94_14 : zft 94 14 = some (.iadd, 1) := by decide +kernel
theorem f94_15 : zft 94 15 = some (.aload_n 0, 1) := by decide +kernel
theorem f94_16 : zft 94 16 = some (.iload_n 1, 1) := by decide +kernel
theorem f94_17 : zft 94 17 = some (.iconst 2, 1) := by decide +kernel
theorem f94_18 : zft 94 18 = some (.iload_n 2, 1) := by decide +kernel
theorem f94_19 : zft 94 19 = some (.invokevirtual 108, 3) := by decide +kernel
theorem f94_22 : zft 94 22 = some (.iadd, 1) := by decide +kernel
theorem f94_23 : zft 94 23 = some (.ireturn, 1) := by decide +kernel
theorem o94 : zo 94 = 7 := by decide +kernel
theorem p94 : zp 94 = 2 := by decide +kernel
theorem n94 : zn 94 = 3 := by decide +kernel
theorem v94 : zr 94 = (some .int) := by decide +kernel
theorem f95_0 : zft 95 0 = some (.aload_n 0, 1) := by decide +kernel
theorem f95_1 : zft 95 1 = some (.iload_n 1, 1) := by decide +kernel
theorem f95_2 : zft 95 2 = some (.invokevirtual 97, 3) := by decide +kernel
theorem f95_5 : zft 95 5 = some (.ifCond .eq 19, 3) := by decide +kernel
theorem f95_8 : zft 95 8 = some (.iload_n 2, 1) := by decide +kernel
theorem f95_9 : zft 95 9 = some (.iconst (-1), 1) := by decide +kernel
theorem f95_10 : zft 95 10 = some (.iconst 2, 1) := by decide +kernel
theorem f95_11 : zft 95 11 = some (.invokestatic 90, 3) := by decide +kernel
theorem f95_14 : zft 95 14 = some (.ifCond .eq 10, 3) := by decide +kernel
theorem f95_17 : zft 95 17 = some (.iload_n 3, 1) := by decide +kernel
theorem f95_18 : zft 95 18 = some (.invokestatic 112, 3) := by decide +kernel
theorem f95_21 : zft 95 21 = some (.ifCond .ne 6, 3) := by decide +kernel
theorem f95_24 : zft 95 24 = some (.bipush (-2), 2) := by decide +kernel
theorem f95_26 : zft 95 26 = some (.ireturn, 1) := by decide +kernel
theorem f95_27 : zft 95 27 = some (.iload_n 2, 1) := by decide +kernel
theorem f95_28 : zft 95 28 = some (.iconst (-1), 1) := by decide +kernel
theorem f95_29 : zft 95 29 = some (.if_icmp .ne 12, 3) := by decide +kernel
theorem f95_32 : zft 95 32 = some (.aload_n 0, 1) := by decide +kernel
theorem f95_33 : zft 95 33 = some (.iload_n 1, 1) := by decide +kernel
theorem f95_34 : zft 95 34 = some (.iload_n 3, 1) := by decide +kernel
theorem f95_35 : zft 95 35 = some (.invokevirtual 115, 3) := by decide +kernel
theorem f95_38 : zft 95 38 = some (.goto 10, 3) := by decide +kernel
theorem f95_41 : zft 95 41 = some (.aload_n 0, 1) := by decide +kernel
theorem f95_42 : zft 95 42 = some (.iload_n 1, 1) := by decide +kernel
theorem f95_43 : zft 95 43 = some (.iload_n 2, 1) := by decide +kernel
theorem f95_44 : zft 95 44 = some (.iload_n 3, 1) := by decide +kernel
theorem f95_45 : zft 95 45 = some (.invokevirtual 108, 3) := by decide +kernel
theorem f95_48 : zft 95 48 = some (.ireturn, 1) := by decide +kernel
theorem o95 : zo 95 = 7 := by decide +kernel
theorem p95 : zp 95 = 3 := by decide +kernel
theorem n95 : zn 95 = 4 := by decide +kernel
theorem v95 : zr 95 = (some .int) := by decide +kernel
theorem f96_0 : zft 96 0 = some (.aload_n 0, 1) := by decide +kernel
theorem f96_1 : zft 96 1 = some (.iload_n 1, 1) := by decide +kernel
theorem f96_2 : zft 96 2 = some (.invokevirtual 97, 3) := by decide +kernel
theorem f96_5 : zft 96 5 = some (.ifCond .eq 32, 3) := by decide +kernel
theorem f96_8 : zft 96 8 = some (.iload_n 2, 1) := by decide +kernel
theorem f96_9 : zft 96 9 = some (.invokestatic 112, 3) := by decide +kernel
theorem f96_12 : zft 96 12 = some (.ifCond .eq 25, 3) := by decide +kernel
theorem f96_15 : zft 96 15 = some (.aload_n 0, 1) := by decide +kernel
theorem f96_16 : zft 96 16 = some (.getfield 19, 3) := by decide +kernel
theorem f96_19 : zft 96 19 = some (.bipush 40, 2) := by decide +kernel
theorem f96_21 : zft 96 21 = some (.iload_n 1, 1) := by decide +kernel
theorem f96_22 : zft 96 22 = some (.imul, 1) := by decide +kernel
theorem f96_23 : zft 96 23 = some (.iload_n 2, 1) := by decide +kernel
theorem f96_24 : zft 96 24 = some (.iadd, 1) := by decide +kernel
theorem f96_25 : zft 96 25 = some (.baload, 1) := by decide +kernel
theorem f96_26 : zft 96 26 = some (.ifCond .eq 7, 3) := by decide +kernel
theorem f96_29 : zft 96 29 = some (.iconst 1, 1) := by decide +kernel
theorem f96_30 : zft 96 30 = some (.goto 9, 3) := by decide +kernel
theorem f96_33 : zft 96 33 = some (.iconst 0, 1) := by decide +kernel
theorem f96_34 : zft 96 34 = some (.goto 5, 3) := by decide +kernel
theorem f96_37 : zft 96 37 = some (.bipush (-2), 2) := by decide +kernel
theorem f96_39 : zft 96 39 = some (.ireturn, 1) := by decide +kernel
theorem o96 : zo 96 = 7 := by decide +kernel
theorem p96 : zp 96 = 2 := by decide +kernel
theorem n96 : zn 96 = 3 := by decide +kernel
theorem v96 : zr 96 = (some .int) := by decide +kernel
theorem f97_0 : zft 97 0 = some (.iconst (-1), 1) := by decide +kernel
theorem f97_1 : zft 97 1 = some (.istore 4, 2) := by decide +kernel
theorem f97_3 : zft 97 3 = some (.iconst 4, 1) := by decide +kernel
theorem f97_4 : zft 97 4 = some (.istore 5, 2) := by decide +kernel
theorem f97_6 : zft 97 6 = some (.iconst 1, 1) := by decide +kernel
theorem f97_7 : zft 97 7 = some (.istore 6, 2) := by decide +kernel
theorem f97_9 : zft 97 9 = some (.iload 6, 2) := by decide +kernel
theorem f97_11 : zft 97 11 = some (.bipush 8, 2) := by decide +kernel
theorem f97_13 : zft 97 13 = some (.if_icmp .ge 91, 3) := by decide +kernel
theorem f97_16 : zft 97 16 = some (.iconst 0, 1) := by decide +kernel
theorem f97_17 : zft 97 17 = some (.istore 7, 2) := by decide +kernel
theorem f97_19 : zft 97 19 = some (.iconst 0, 1) := by decide +kernel
theorem f97_20 : zft 97 20 = some (.istore 8, 2) := by decide +kernel
theorem f97_22 : zft 97 22 = some (.iconst 0, 1) := by decide +kernel
theorem f97_23 : zft 97 23 = some (.istore 9, 2) := by decide +kernel
theorem f97_25 : zft 97 25 = some (.iload 9, 2) := by decide +kernel
theorem f97_27 : zft 97 27 = some (.iconst 3, 1) := by decide +kernel
theorem f97_28 : zft 97 28 = some (.if_icmp .ge 49, 3) := by decide +kernel
theorem f97_31 : zft 97 31 = some (.iload 7, 2) := by decide +kernel
theorem f97_33 : zft 97 33 = some (.iload 6, 2) := by decide +kernel
theorem f97_35 : zft 97 35 = some (.iload 9, 2) := by decide +kernel
theorem f97_37 : zft 97 37 = some (.ishr, 1) := by decide +kernel
theorem f97_38 : zft 97 38 = some (.iconst 1, 1) := by decide +kernel
theorem f97_39 : zft 97 39 = some (.iand, 1) := by decide +kernel
theorem f97_40 : zft 97 40 = some (.iadd, 1) := by decide +kernel
theorem f97_41 : zft 97 41 = some (.istore 7, 2) := by decide +kernel
theorem f97_43 : zft 97 43 = some (.iload 8, 2) := by decide +kernel
theorem f97_45 : zft 97 45 = some (.iload 6, 2) := by decide +kernel
theorem f97_47 : zft 97 47 = some (.iload 9, 2) := by decide +kernel
theorem f97_49 : zft 97 49 = some (.ishr, 1) := by decide +kernel
theorem f97_50 : zft 97 50 = some (.iconst 1, 1) := by decide +kernel
theorem f97_51 : zft 97 51 = some (.iand, 1) := by decide +kernel
theorem f97_52 : zft 97 52 = some (.iconst 1, 1) := by decide +kernel
theorem f97_53 : zft 97 53 = some (.if_icmp .ne 14, 3) := by decide +kernel
theorem f97_56 : zft 97 56 = some (.aload_n 0, 1) := by decide +kernel
theorem f97_57 : zft 97 57 = some (.iload_n 1, 1) := by decide +kernel
theorem f97_58 : zft 97 58 = some (.iload 9, 2) := by decide +kernel
theorem f97_60 : zft 97 60 = some (.iload_n 2, 1) := by decide +kernel
theorem f97_61 : zft 97 61 = some (.invokevirtual 108, 3) := by decide +kernel
theorem f97_64 : zft 97 64 = some (.goto 4, 3) := by decide +kernel
theorem f97_67 : zft 97 67 = some (.iconst 0, 1) := by decide +kernel
theorem f97_68 : zft 97 68 = some (.iadd, 1) := by decide +kernel
theorem f97_69 : zft 97 69 = some (.istore 8, 2) := by decide +kernel
theorem f97_71 : zft 97 71 = some (.iinc 9 1, 3) := by decide +kernel
theorem f97_74 : zft 97 74 = some (.goto (-49), 3) := by decide +kernel
theorem f97_77 : zft 97 77 = some (.iload 8, 2) := by decide +kernel
theorem f97_79 : zft 97 79 = some (.iload_n 3, 1) := by decide +kernel
theorem f97_80 : zft 97 80 = some (.if_icmp .lt 18, 3) := by decide +kernel
theorem f97_83 : zft 97 83 = some (.iload 7, 2) := by decide +kernel
theorem f97_85 : zft 97 85 = some (.iload 5, 2) := by decide +kernel
theorem f97_87 : zft 97 87 = some (.if_icmp .ge 11, 3) := by decide +kernel
theorem f97_90 : zft 97 90 = some (.iload 6, 2) := by decide +kernel
theorem f97_92 : zft 97 92 = some (.istore 4, 2) := by decide +kernel
theorem f97_94 : zft 97 94 = some (.iload 7, 2) := by decide +kernel
theorem f97_96 : zft 97 96 = some (.istore 5, 2) := by decide +kernel
theorem f97_98 : zft 97 98 = some (.iinc 6 1, 3) := by decide +kernel
theorem f97_101 : zft 97 101 = some (.goto (-92), 3) := by decide +kernel
theorem f97_104 : zft 97 104 = some (.iload_n 3, 1) := by decide +kernel
theorem f97_105 : zft 97 105 = some (.istore 6, 2) := by decide +kernel
theorem f97_107 : zft 97 107 = some (.iconst 0, 1) := by decide +kernel
theorem f97_108 : zft 97 108 = some (.istore 7, 2) := by decide +kernel
theorem f97_110 : zft 97 110 = some (.iload 7, 2) := by decide +kernel
theorem f97_112 : zft 97 112 = some (.iconst 3, 1) := by decide +kernel
theorem f97_113 : zft 97 113 = some (.if_icmp .ge 67, 3) := by decide +kernel
theorem f97_116 : zft 97 116 = some (.iload 4, 2) := by decide +kernel
theorem f97_118 : zft 97 118 = some (.iload 7, 2) := by decide +kernel
theorem f97_120 : zft 97 120 = some (.ishr, 1) := by decide +kernel
theorem f97_121 : zft 97 121 = some (.iconst 1, 1) := by decide +kernel
theorem f97_122 : zft 97 122 = some (.iand, 1) := by decide +kernel
theorem f97_123 : zft 97 123 = some (.iconst 1, 1) := by decide +kernel
theorem f97_124 : zft 97 124 = some (.if_icmp .ne 14, 3) := by decide +kernel
theorem f97_127 : zft 97 127 = some (.aload_n 0, 1) := by decide +kernel
theorem f97_128 : zft 97 128 = some (.iload_n 1, 1) := by decide +kernel
theorem f97_129 : zft 97 129 = some (.iload 7, 2) := by decide +kernel
theorem f97_131 : zft 97 131 = some (.iload_n 2, 1) := by decide +kernel
theorem f97_132 : zft 97 132 = some (.invokevirtual 108, 3) := by decide +kernel
theorem f97_135 : zft 97 135 = some (.goto 4, 3) := by decide +kernel
theorem f97_138 : zft 97 138 = some (.iconst 0, 1) := by decide +kernel
theorem f97_139 : zft 97 139 = some (.istore 8, 2) := by decide +kernel
theorem f97_141 : zft 97 141 = some (.aload_n 0, 1) := by decide +kernel
theorem f97_142 : zft 97 142 = some (.getfield 59, 3) := by decide +kernel
theorem f97_145 : zft 97 145 = some (.iload 7, 2) := by decide +kernel
theorem f97_147 : zft 97 147 = some (.iload 8, 2) := by decide +kernel
theorem f97_149 : zft 97 149 = some (.iload 6, 2) := by decide +kernel
theorem f97_151 : zft 97 151 = some (.if_icmp .ge 8, 3) := by decide +kernel
theorem f97_154 : zft 97 154 = some (.iload 8, 2) := by decide +kernel
theorem f97_156 : zft 97 156 = some (.goto 5, 3) := by decide +kernel
theorem f97_159 : zft 97 159 = some (.iload 6, 2) := by decide +kernel
theorem f97_161 : zft 97 161 = some (.iastore, 1) := by decide +kernel
theorem f97_162 : zft 97 162 = some (.iload 6, 2) := by decide +kernel
theorem f97_164 : zft 97 164 = some (.aload_n 0, 1) := by decide +kernel
theorem f97_165 : zft 97 165 = some (.getfield 59, 3) := by decide +kernel
theorem f97_168 : zft 97 168 = some (.iload 7, 2) := by decide +kernel
theorem f97_170 : zft 97 170 = some (.iaload, 1) := by decide +kernel
theorem f97_171 : zft 97 171 = some (.isub, 1) := by decide +kernel
theorem f97_172 : zft 97 172 = some (.istore 6, 2) := by decide +kernel
theorem f97_174 : zft 97 174 = some (.iinc 7 1, 3) := by decide +kernel
theorem f97_177 : zft 97 177 = some (.goto (-67), 3) := by decide +kernel
theorem f97_180 : zft 97 180 = some (.return_, 1) := by decide +kernel
theorem o97 : zo 97 = 7 := by decide +kernel
theorem p97 : zp 97 = 3 := by decide +kernel
theorem n97 : zn 97 = 10 := by decide +kernel
theorem v97 : zr 97 = none := by decide +kernel
theorem f98_0 : zft 98 0 = some (.bipush 7, 2) := by decide +kernel
theorem f98_2 : zft 98 2 = some (.iload_n 1, 1) := by decide +kernel
theorem f98_3 : zft 98 3 = some (.imul, 1) := by decide +kernel
theorem f98_4 : zft 98 4 = some (.iload_n 2, 1) := by decide +kernel
theorem f98_5 : zft 98 5 = some (.iadd, 1) := by decide +kernel
theorem f98_6 : zft 98 6 = some (.istore_n 3, 1) := by decide +kernel
theorem f98_7 : zft 98 7 = some (.aload_n 0, 1) := by decide +kernel
theorem f98_8 : zft 98 8 = some (.aload_n 0, 1) := by decide +kernel
theorem f98_9 : zft 98 9 = some (.getfield 38, 3) := by decide +kernel
theorem f98_12 : zft 98 12 = some (.iload_n 3, 1) := by decide +kernel
theorem f98_13 : zft 98 13 = some (.iaload, 1) := by decide +kernel
theorem f98_14 : zft 98 14 = some (.aload_n 0, 1) := by decide +kernel
theorem f98_15 : zft 98 15 = some (.getfield 32, 3) := by decide +kernel
theorem f98_18 : zft 98 18 = some (.iload_n 1, 1) := by decide +kernel
theorem f98_19 : zft 98 19 = some (.iaload, 1) := by decide +kernel
theorem f98_20 : zft 98 20 = some (.iload_n 2, 1) := by decide +kernel
theorem f98_21 : zft 98 21 = some (.iadd, 1) := by decide +kernel
theorem f98_22 : zft 98 22 = some (.aload_n 0, 1) := by decide +kernel
theorem f98_23 : zft 98 23 = some (.getfield 29, 3) := by decide +kernel
theorem f98_26 : zft 98 26 = some (.iload_n 1, 1) := by decide +kernel
theorem f98_27 : zft 98 27 = some (.iaload, 1) := by decide +kernel
theorem f98_28 : zft 98 28 = some (.invokevirtual 118, 3) := by decide +kernel
theorem f98_31 : zft 98 31 = some (.aload_n 0, 1) := by decide +kernel
theorem f98_32 : zft 98 32 = some (.getfield 44, 3) := by decide +kernel
theorem f98_35 : zft 98 35 = some (.iload_n 3, 1) := by decide +kernel
theorem f98_36 : zft 98 36 = some (.iconst 1, 1) := by decide +kernel
theorem f98_37 : zft 98 37 = some (.bastore, 1) := by decide +kernel
theorem f98_38 : zft 98 38 = some (.iconst 0, 1) := by decide +kernel
theorem f98_39 : zft 98 39 = some (.istore 4, 2) := by decide +kernel
theorem f98_41 : zft 98 41 = some (.iload 4, 2) := by decide +kernel
theorem f98_43 : zft 98 43 = some (.iconst 3, 1) := by decide +kernel
theorem f98_44 : zft 98 44 = some (.if_icmp .ge 27, 3) := by decide +kernel
theorem f98_47 : zft 98 47 = some (.aload_n 0, 1) := by decide +kernel
theorem f98_48 : zft 98 48 = some (.getfield 47, 3) := by decide +kernel
theorem f98_51 : zft 98 51 = some (.iconst 3, 1) := by decide +kernel
theorem f98_52 : zft 98 52 = some (.iload_n 3, 1) := by decide +kernel
theorem f98_53 : zft 98 53 = some (.imul, 1) := by decide +kernel
theorem f98_54 : zft 98 54 = some (.iload 4, 2) := by decide +kernel
theorem f98_56 : zft 98 56 = some (.iadd, 1) := by decide +kernel
theorem f98_57 : zft 98 57 = some (.aload_n 0, 1) := by decide +kernel
theorem f98_58 : zft 98 58 = some (.getfield 59, 3) := by decide +kernel
theorem f98_61 : zft 98 61 = some (.iload 4, 2) := by decide +kernel
theorem f98_63 : zft 98 63 = some (.iaload, 1) := by decide +kernel
theorem f98_64 : zft 98 64 = some (.iastore, 1) := by decide +kernel
theorem f98_65 : zft 98 65 = some (.iinc 4 1, 3) := by decide +kernel
theorem f98_68 : zft 98 68 = some (.goto (-27), 3) := by decide +kernel
theorem f98_71 : zft 98 71 = some (.return_, 1) := by decide +kernel
theorem o98 : zo 98 = 7 := by decide +kernel
theorem p98 : zp 98 = 2 := by decide +kernel
theorem n98 : zn 98 = 5 := by decide +kernel
theorem v98 : zr 98 = none := by decide +kernel
theorem f99_0 : zft 99 0 = some (.aload_n 0, 1) := by decide +kernel
theorem f99_1 : zft 99 1 = some (.getfield 44, 3) := by decide +kernel
theorem f99_4 : zft 99 4 = some (.bipush 7, 2) := by decide +kernel
theorem f99_6 : zft 99 6 = some (.iload_n 1, 1) := by decide +kernel
theorem f99_7 : zft 99 7 = some (.imul, 1) := by decide +kernel
theorem f99_8 : zft 99 8 = some (.iload_n 2, 1) := by decide +kernel
theorem f99_9 : zft 99 9 = some (.iadd, 1) := by decide +kernel
theorem f99_10 : zft 99 10 = some (.iconst 0, 1) := by decide +kernel
theorem f99_11 : zft 99 11 = some (.bastore, 1) := by decide +kernel
theorem f99_12 : zft 99 12 = some (.return_, 1) := by decide +kernel
theorem o99 : zo 99 = 7 := by decide +kernel
theorem p99 : zp 99 = 2 := by decide +kernel
theorem n99 : zn 99 = 3 := by decide +kernel
theorem v99 : zr 99 = none := by decide +kernel
theorem f100_0 : zft 100 0 = some (.iload_n 1, 1) := by decide +kernel
theorem f100_1 : zft 100 1 = some (.iconst 1, 1) := by decide +kernel
theorem f100_2 : zft 100 2 = some (.bipush 12, 2) := by decide +kernel
theorem f100_4 : zft 100 4 = some (.invokestatic 90, 3) := by decide +kernel
theorem f100_7 : zft 100 7 = some (.ifCond .eq 24, 3) := by decide +kernel
theorem f100_10 : zft 100 10 = some (.iload_n 2, 1) := by decide +kernel
theorem f100_11 : zft 100 11 = some (.aload_n 0, 1) := by decide +kernel
theorem f100_12 : zft 100 12 = some (.getfield 122, 3) := by decide +kernel
theorem f100_15 : zft 100 15 = some (.bipush 39, 2) := by decide +kernel
theorem f100_17 : zft 100 17 = some (.invokestatic 90, 3) := by decide +kernel
theorem f100_20 : zft 100 20 = some (.ifCond .eq 11, 3) := by decide +kernel
theorem f100_23 : zft 100 23 = some (.aload_n 0, 1) := by decide +kernel
theorem f100_24 : zft 100 24 = some (.iload_n 3, 1) := by decide +kernel
theorem f100_25 : zft 100 25 = some (.invokevirtual 97, 3) := by decide +kernel
theorem f100_28 : zft 100 28 = some (.ifCond .ne 6, 3) := by decide +kernel
theorem f100_31 : zft 100 31 = some (.bipush (-2), 2) := by decide +kernel
theorem f100_33 : zft 100 33 = some (.ireturn, 1) := by decide +kernel
theorem f100_34 : zft 100 34 = some (.aload_n 0, 1) := by decide +kernel
theorem f100_35 : zft 100 35 = some (.getfield 94, 3) := by decide +kernel
theorem f100_38 : zft 100 38 = some (.bipush 40, 2) := by decide +kernel
theorem f100_40 : zft 100 40 = some (.if_icmp .ne 6, 3) := by decide +kernel
theorem f100_43 : zft 100 43 = some (.bipush (-4), 2) := by decide +kernel
theorem f100_45 : zft 100 45 = some (.ireturn, 1) := by decide +kernel
theorem f100_46 : zft 100 46 = some (.aload_n 0, 1) := by decide +kernel
theorem f100_47 : zft 100 47 = some (.getfield 29, 3) := by decide +kernel
theorem f100_50 : zft 100 50 = some (.aload_n 0, 1) := by decide +kernel
theorem f100_51 : zft 100 51 = some (.getfield 94, 3) := by decide +kernel
theorem f100_54 : zft 100 54 = some (.iload_n 1, 1) := by decide +kernel
theorem f100_55 : zft 100 55 = some (.iastore, 1) := by decide +kernel
theorem f100_56 : zft 100 56 = some (.aload_n 0, 1) := by decide +kernel
theorem f100_57 : zft 100 57 = some (.getfield 32, 3) := by decide +kernel
theorem f100_60 : zft 100 60 = some (.aload_n 0, 1) := by decide +kernel
theorem f100_61 : zft 100 61 = some (.getfield 94, 3) := by decide +kernel
theorem f100_64 : zft 100 64 = some (.iload_n 2, 1) := by decide +kernel
theorem f100_65 : zft 100 65 = some (.iastore, 1) := by decide +kernel
theorem f100_66 : zft 100 66 = some (.aload_n 0, 1) := by decide +kernel
theorem f100_67 : zft 100 67 = some (.getfield 35, 3) := by decide +kernel
theorem f100_70 : zft 100 70 = some (.aload_n 0, 1) := by decide +kernel
theorem f100_71 : zft 100 71 = some (.getfield 94, 3) := by decide +kernel
theorem f100_74 : zft 100 74 = some (.iconst 1, 1) := by decide +kernel
theorem f100_75 : zft 100 75 = some (.iastore, 1) := by decide +kernel
theorem f100_76 : zft 100 76 = some (.aload_n 0, 1) := by decide +kernel
theorem f100_77 : zft 100 77 = some (.getfield 38, 3) := by decide +kernel
theorem f100_80 : zft 100 80 = some (.bipush 7, 2) := by decide +kernel
theorem f100_82 : zft 100 82 = some (.aload_n 0, 1) := by decide +kernel
theorem f100_83 : zft 100 83 = some (.getfield 94, 3) := by decide +kernel
theorem f100_86 : zft 100 86 = some (.imul, 1) := by decide +kernel
theorem f100_87 : zft 100 87 = some (.iload_n 3, 1) := by decide +kernel
theorem f100_88 : zft 100 88 = some (.iastore, 1) := by decide +kernel
theorem f100_89 : zft 100 89 = some (.aload_n 0, 1) := by decide +kernel
theorem f100_90 : zft 100 90 = some (.getfield 41, 3) := by decide +kernel
theorem f100_93 : zft 100 93 = some (.aload_n 0, 1) := by decide +kernel
theorem f100_94 : zft 100 94 = some (.getfield 94, 3) := by decide +kernel
theorem f100_97 : zft 100 97 = some (.iconst 0, 1) := by decide +kernel
theorem f100_98 : zft 100 98 = some (.iastore, 1) := by decide +kernel
theorem f100_99 : zft 100 99 = some (.aload_n 0, 1) := by decide +kernel
theorem f100_100 : zft 100 100 = some (.dup, 1) := by decide +kernel
theorem f100_101 : zft 100 101 = some (.getfield 94, 3) := by decide +kernel
theorem f100_104 : zft 100 104 = some (.iconst 1, 1) := by decide +kernel
theorem f100_105 : zft 100 105 = some (.iadd, 1) := by decide +kernel
theorem f100_106 : zft 100 106 = some (.putfield 94, 3) := by decide +kernel
theorem f100_109 : zft 100 109 = some (.aload_n 0, 1) := by decide +kernel
theorem f100_110 : zft 100 110 = some (.getfield 94, 3) := by decide +kernel
theorem f100_113 : zft 100 113 = some (.iconst 1, 1) := by decide +kernel
theorem f100_114 : zft 100 114 = some (.isub, 1) := by decide +kernel
theorem f100_115 : zft 100 115 = some (.ireturn, 1) := by decide +kernel
theorem o100 : zo 100 = 7 := by decide +kernel
theorem p100 : zp 100 = 3 := by decide +kernel
theorem n100 : zn 100 = 4 := by decide +kernel
theorem v100 : zr 100 = (some .int) := by decide +kernel
theorem f101_0 : zft 101 0 = some (.aload_n 0, 1) := by decide +kernel
theorem f101_1 : zft 101 1 = some (.iload_n 1, 1) := by decide +kernel
theorem f101_2 : zft 101 2 = some (.invokevirtual 125, 3) := by decide +kernel
theorem f101_5 : zft 101 5 = some (.ifCond .eq 29, 3) := by decide +kernel
theorem f101_8 : zft 101 8 = some (.aload_n 0, 1) := by decide +kernel
theorem f101_9 : zft 101 9 = some (.iload_n 2, 1) := by decide +kernel
theorem f101_10 : zft 101 10 = some (.invokevirtual 97, 3) := by decide +kernel
theorem f101_13 : zft 101 13 = some (.ifCond .eq 21, 3) := by decide +kernel
theorem f101_16 : zft 101 16 = some (.aload_n 0, 1) := by decide +kernel
theorem f101_17 : zft 101 17 = some (.getfield 32, 3) := by decide +kernel
theorem f101_20 : zft 101 20 = some (.iload_n 1, 1) := by decide +kernel
theorem f101_21 : zft 101 21 = some (.iaload, 1) := by decide +kernel
theorem f101_22 : zft 101 22 = some (.aload_n 0, 1) := by decide +kernel
theorem f101_23 : zft 101 23 = some (.getfield 35, 3) := by decide +kernel
theorem f101_26 : zft 101 26 = some (.iload_n 1, 1) := by decide +kernel
theorem f101_27 : zft 101 27 = some (.iaload, 1) := by decide +kernel
theorem f101_28 : zft 101 28 = some (.iadd, 1) := by decide +kernel
theorem f101_29 : zft 101 29 = some (.bipush 39, 2) := by decide +kernel
theorem f101_31 : zft 101 31 = some (.if_icmp .le 6, 3) := by decide +kernel
theorem f101_34 : zft 101 34 = some (.bipush (-2), 2) := by decide +kernel
theorem f101_36 : zft 101 36 = some (.ireturn, 1) := by decide +kernel
theorem f101_37 : zft 101 37 = some (.aload_n 0, 1) := by decide +kernel
theorem f101_38 : zft 101 38 = some (.getfield 41, 3) := by decide +kernel
theorem f101_41 : zft 101 41 = some (.iload_n 1, 1) := by decide +kernel
theorem f101_42 : zft 101 42 = some (.iaload, 1) := by decide +kernel
theorem f101_43 : zft 101 43 = some (.ifCond .eq 6, 3) := by decide +kernel
theorem f101_46 : zft 101 46 = some (.bipush (-3), 2) := by decide +kernel
theorem f101_48 : zft 101 48 = some (.ireturn, 1) := by decide +kernel
theorem f101_49 : zft 101 49 = some (.aload_n 0, 1) := by decide +kernel
theorem f101_50 : zft 101 50 = some (.getfield 35, 3) := by decide +kernel
theorem f101_53 : zft 101 53 = some (.iload_n 1, 1) := by decide +kernel
theorem f101_54 : zft 101 54 = some (.iaload, 1) := by decide +kernel
theorem f101_55 : zft 101 55 = some (.bipush 7, 2) := by decide +kernel
theorem f101_57 : zft 101 57 = some (.if_icmp .ne 6, 3) := by decide +kernel
theorem f101_60 : zft 101 60 = some (.bipush (-4), 2) := by decide +kernel
theorem f101_62 : zft 101 62 = some (.ireturn, 1) := by decide +kernel
theorem f101_63 : zft 101 63 = some (.aload_n 0, 1) := by decide +kernel
theorem f101_64 : zft 101 64 = some (.getfield 38, 3) := by decide +kernel
theorem f101_67 : zft 101 67 = some (.bipush 7, 2) := by decide +kernel
theorem f101_69 : zft 101 69 = some (.iload_n 1, 1) := by decide +kernel
theorem f101_70 : zft 101 70 = some (.imul, 1) := by decide +kernel
theorem f101_71 : zft 101 71 = some (.aload_n 0, 1) := by decide +kernel
theorem f101_72 : zft 101 72 = some (.getfield 35, 3) := by decide +kernel
theorem f101_75 : zft 101 75 = some (.iload_n 1, 1) := by decide +kernel
theorem f101_76 : zft 101 76 = some (.iaload, 1) := by decide +kernel
theorem f101_77 : zft 101 77 = some (.iadd, 1) := by decide +kernel
theorem f101_78 : zft 101 78 = some (.iload_n 2, 1) := by decide +kernel
theorem f101_79 : zft 101 79 = some (.iastore, 1) := by decide +kernel
theorem f101_80 : zft 101 80 = some (.aload_n 0, 1) := by decide +kernel
theorem f101_81 : zft 101 81 = some (.getfield 35, 3) := by decide +kernel
theorem f101_84 : zft 101 84 = some (.iload_n 1, 1) := by decide +kernel
theorem f101_85 : zft 101 85 = some (.dup2, 1) := by decide +kernel
theorem f101_86 : zft 101 86 = some (.iaload, 1) := by decide +kernel
theorem f101_87 : zft 101 87 = some (.iconst 1, 1) := by decide +kernel
theorem f101_88 : zft 101 88 = some (.iadd, 1) := by decide +kernel
theorem f101_89 : zft 101 89 = some (.iastore, 1) := by decide +kernel
theorem f101_90 : zft 101 90 = some (.aload_n 0, 1) := by decide +kernel
theorem f101_91 : zft 101 91 = some (.getfield 35, 3) := by decide +kernel
theorem f101_94 : zft 101 94 = some (.iload_n 1, 1) := by decide +kernel
theorem f101_95 : zft 101 95 = some (.iaload, 1) := by decide +kernel
theorem f101_96 : zft 101 96 = some (.ireturn, 1) := by decide +kernel
theorem o101 : zo 101 = 7 := by decide +kernel
theorem p101 : zp 101 = 2 := by decide +kernel
theorem n101 : zn 101 = 3 := by decide +kernel
theorem v101 : zr 101 = (some .int) := by decide +kernel
theorem f102_0 : zft 102 0 = some (.iload_n 1, 1) := by decide +kernel
theorem f102_1 : zft 102 1 = some (.iload_n 2, 1) := by decide +kernel
theorem f102_2 : zft 102 2 = some (.if_icmp .eq 17, 3) := by decide +kernel
theorem f102_5 : zft 102 5 = some (.aload_n 0, 1) := by decide +kernel
theorem f102_6 : zft 102 6 = some (.getfield 26, 3) := by decide +kernel
theorem f102_9 : zft 102 9 = some (.bipush 12, 2) := by decide +kernel
theorem f102_11 : zft 102 11 = some (.iload_n 1, 1) := by decide +kernel
theorem f102_12 : zft 102 12 = some (.imul, 1) := by decide +kernel
theorem f102_13 : zft 102 13 = some (.iload_n 2, 1) := by decide +kernel
theorem f102_14 : zft 102 14 = some (.iadd, 1) := by decide +kernel
theorem f102_15 : zft 102 15 = some (.iaload, 1) := by decide +kernel
theorem f102_16 : zft 102 16 = some (.ifCond .le 7, 3) := by decide +kernel
theorem f102_19 : zft 102 19 = some (.iconst 1, 1) := by decide +kernel
theorem f102_20 : zft 102 20 = some (.goto 4, 3) := by decide +kernel
theorem f102_23 : zft 102 23 = some (.iconst 0, 1) := by decide +kernel
theorem f102_24 : zft 102 24 = some (.ireturn, 1) := by decide +kernel
theorem o102 : zo 102 = 7 := by decide +kernel
theorem p102 : zp 102 = 2 := by decide +kernel
theorem n102 : zn 102 = 3 := by decide +kernel
theorem v102 : zr 102 = (some .boolean) := by decide +kernel
theorem f103_0 : zft 103 0 = some (.aload_n 0, 1) := by decide +kernel
theorem f103_1 : zft 103 1 = some (.getfield 19, 3) := by decide +kernel
theorem f103_4 : zft 103 4 = some (.bipush 40, 2) := by decide +kernel
theorem f103_6 : zft 103 6 = some (.iload_n 1, 1) := by decide +kernel
theorem f103_7 : zft 103 7 = some (.imul, 1) := by decide +kernel
theorem f103_8 : zft 103 8 = some (.iload_n 2, 1) := by decide +kernel
theorem f103_9 : zft 103 9 = some (.iadd, 1) := by decide +kernel
theorem f103_10 : zft 103 10 = some (.baload, 1) := by decide +kernel
theorem f103_11 : zft 103 11 = some (.ifCond .ne 17, 3) := by decide +kernel
theorem f103_14 : zft 103 14 = some (.aload_n 0, 1) := by decide +kernel
theorem f103_15 : zft 103 15 = some (.iload_n 1, 1) := by decide +kernel
theorem f103_16 : zft 103 16 = some (.iload_n 2, 1) := by decide +kernel
theorem f103_17 : zft 103 17 = some (.invokevirtual 115, 3) := by decide +kernel
theorem f103_20 : zft 103 20 = some (.iload_n 3, 1) := by decide +kernel
theorem f103_21 : zft 103 21 = some (.if_icmp .lt 7, 3) := by decide +kernel
theorem f103_24 : zft 103 24 = some (.iconst 1, 1) := by decide +kernel
theorem f103_25 : zft 103 25 = some (.goto 4, 3) := by decide +kernel
theorem f103_28 : zft 103 28 = some (.iconst 0, 1) := by decide +kernel
theorem f103_29 : zft 103 29 = some (.ireturn, 1) := by decide +kernel
theorem o103 : zo 103 = 7 := by decide +kernel
theorem p103 : zp 103 = 3 := by decide +kernel
theorem n103 : zn 103 = 4 := by decide +kernel
theorem v103 : zr 103 = (some .boolean) := by decide +kernel
theorem f104_0 : zft 104 0 = some (.iconst 0, 1) := by decide +kernel
theorem f104_1 : zft 104 1 = some (.istore_n 2, 1) := by decide +kernel
theorem f104_2 : zft 104 2 = some (.iload_n 2, 1) := by decide +kernel
theorem f104_3 : zft 104 3 = some (.aload_n 0, 1) := by decide +kernel
theorem f104_4 : zft 104 4 = some (.getfield 35, 3) := by decide +kernel
theorem f104_7 : zft 104 7 = some (.iload_n 1, 1) := by decide +kernel
theorem f104_8 : zft 104 8 = some (.iaload, 1) := by decide +kernel
theorem f104_9 : zft 104 9 = some (.if_icmp .ge 70, 3) := by decide +kernel
theorem f104_12 : zft 104 12 = some (.aload_n 0, 1) := by decide +kernel
theorem f104_13 : zft 104 13 = some (.getfield 38, 3) := by decide +kernel
theorem f104_16 : zft 104 16 = some (.bipush 7, 2) := by decide +kernel
theorem f104_18 : zft 104 18 = some (.iload_n 1, 1) := by decide +kernel
theorem f104_19 : zft 104 19 = some (.imul, 1) := by decide +kernel
theorem f104_20 : zft 104 20 = some (.iload_n 2, 1) := by decide +kernel
theorem f104_21 : zft 104 21 = some (.iadd, 1) := by decide +kernel
theorem f104_22 : zft 104 22 = some (.iaload, 1) := by decide +kernel
theorem f104_23 : zft 104 23 = some (.istore_n 3, 1) := by decide +kernel
theorem f104_24 : zft 104 24 = some (.iload_n 2, 1) := by decide +kernel
theorem f104_25 : zft 104 25 = some (.ifCond .le 24, 3) := by decide +kernel
theorem f104_28 : zft 104 28 = some (.aload_n 0, 1) := by decide +kernel
theorem f104_29 : zft 104 29 = some (.aload_n 0, 1) := by decide +kernel
theorem f104_30 : zft 104 30 = some (.getfield 38, 3) := by decide +kernel
theorem f104_33 : zft 104 33 = some (.bipush 7, 2) := by decide +kernel
theorem f104_35 : zft 104 35 = some (.iload_n 1, 1) := by decide +kernel
theorem f104_36 : zft 104 36 = some (.imul, 1) := by decide +kernel
theorem f104_37 : zft 104 37 = some (.iload_n 2, 1) := by decide +kernel
theorem f104_38 : zft 104 38 = some (.iadd, 1) := by decide +kernel
theorem f104_39 : zft 104 39 = some (.iconst 1, 1) := by decide +kernel
theorem f104_40 : zft 104 40 = some (.isub, 1) := by decide +kernel
theorem f104_41 : zft 104 41 = some (.iaload, 1) := by decide +kernel
theorem f104_42 : zft 104 42 = some (.iload_n 3, 1) := by decide +kernel
theorem f104_43 : zft 104 43 = some (.invokevirtual 128, 3) := by decide +kernel
theorem f104_46 : zft 104 46 = some (.ifCond .eq 25, 3) := by decide +kernel
theorem f104_49 : zft 104 49 = some (.aload_n 0, 1) := by decide +kernel
theorem f104_50 : zft 104 50 = some (.iload_n 3, 1) := by decide +kernel
theorem f104_51 : zft 104 51 = some (.aload_n 0, 1) := by decide +kernel
theorem f104_52 : zft 104 52 = some (.getfield 32, 3) := by decide +kernel
theorem f104_55 : zft 104 55 = some (.iload_n 1, 1) := by decide +kernel
theorem f104_56 : zft 104 56 = some (.iaload, 1) := by decide +kernel
theorem f104_57 : zft 104 57 = some (.iload_n 2, 1) := by decide +kernel
theorem f104_58 : zft 104 58 = some (.iadd, 1) := by decide +kernel
theorem f104_59 : zft 104 59 = some (.aload_n 0, 1) := by decide +kernel
theorem f104_60 : zft 104 60 = some (.getfield 29, 3) := by decide +kernel
theorem f104_63 : zft 104 63 = some (.iload_n 1, 1) := by decide +kernel
theorem f104_64 : zft 104 64 = some (.iaload, 1) := by decide +kernel
theorem f104_65 : zft 104 65 = some (.invokevirtual 132, 3) := by decide +kernel
theorem f104_68 : zft 104 68 = some (.ifCond .ne 5, 3) := by decide +kernel
theorem f104_71 : zft 104 71 = some (.iload_n 2, 1) := by decide +kernel
theorem f104_72 : zft 104 72 = some (.ireturn, 1) := by decide +kernel
theorem f104_73 : zft 104 73 = some (.iinc 2 1, 3) := by decide +kernel
theorem f104_76 : zft 104 76 = some (.goto (-74), 3) := by decide +kernel
theorem f104_79 : zft 104 79 = some (.iconst (-1), 1) := by decide +kernel
theorem f104_80 : zft 104 80 = some (.ireturn, 1) := by decide +kernel
theorem o104 : zo 104 = 7 := by decide +kernel
theorem p104 : zp 104 = 1 := by decide +kernel
theorem n104 : zn 104 = 4 := by decide +kernel
theorem v104 : zr 104 = (some .int) := by decide +kernel
theorem f105_0 : zft 105 0 = some (.iconst 0, 1) := by decide +kernel
theorem f105_1 : zft 105 1 = some (.istore_n 2, 1) := by decide +kernel
theorem f105_2 : zft 105 2 = some (.iload_n 2, 1) := by decide +kernel
theorem f105_3 : zft 105 3 = some (.aload_n 0, 1) := by decide +kernel
theorem f105_4 : zft 105 4 = some (.getfield 35, 3) := by decide +kernel
theorem f105_7 : zft 105 7 = some (.iload_n 1, 1) := by decide +kernel
theorem f105_8 : zft 105 8 = some (.iaload, 1) := by decide +kernel
theorem f105_9 : zft 105 9 = some (.if_icmp .ge 15, 3) := by decide +kernel
theorem f105_12 : zft 105 12 = some (.aload_n 0, 1) := by decide +kernel
theorem f105_13 : zft 105 13 = some (.iload_n 1, 1) := by decide +kernel
theorem f105_14 : zft 105 14 = some (.iload_n 2, 1) := by decide +kernel
theorem f105_15 : zft 105 15 = some (.invokevirtual 135, 3) := by decide +kernel
theorem f105_18 : zft 105 18 = some (.iinc 2 1, 3) := by decide +kernel
theorem f105_21 : zft 105 21 = some (.goto (-19), 3) := by decide +kernel
theorem f105_24 : zft 105 24 = some (.aload_n 0, 1) := by decide +kernel
theorem f105_25 : zft 105 25 = some (.getfield 41, 3) := by decide +kernel
theorem f105_28 : zft 105 28 = some (.iload_n 1, 1) := by decide +kernel
theorem f105_29 : zft 105 29 = some (.iconst 1, 1) := by decide +kernel
theorem f105_30 : zft 105 30 = some (.iastore, 1) := by decide +kernel
theorem f105_31 : zft 105 31 = some (.return_, 1) := by decide +kernel
theorem o105 : zo 105 = 7 := by decide +kernel
theorem p105 : zp 105 = 1 := by decide +kernel
theorem n105 : zn 105 = 3 := by decide +kernel
theorem v105 : zr 105 = none := by decide +kernel
theorem f106_0 : zft 106 0 = some (.aload_n 0, 1) := by decide +kernel
theorem f106_1 : zft 106 1 = some (.iload_n 1, 1) := by decide +kernel
theorem f106_2 : zft 106 2 = some (.invokevirtual 125, 3) := by decide +kernel
theorem f106_5 : zft 106 5 = some (.ifCond .ne 6, 3) := by decide +kernel
theorem f106_8 : zft 106 8 = some (.bipush (-2), 2) := by decide +kernel
theorem f106_10 : zft 106 10 = some (.ireturn, 1) := by decide +kernel
theorem f106_11 : zft 106 11 = some (.aload_n 0, 1) := by decide +kernel
theorem f106_12 : zft 106 12 = some (.getfield 41, 3) := by decide +kernel
theorem f106_15 : zft 106 15 = some (.iload_n 1, 1) := by decide +kernel
theorem f106_16 : zft 106 16 = some (.iaload, 1) := by decide +kernel
theorem f106_17 : zft 106 17 = some (.ifCond .ne 16, 3) := by decide +kernel
theorem f106_20 : zft 106 20 = some (.aload_n 0, 1) := by decide +kernel
theorem f106_21 : zft 106 21 = some (.getfield 32, 3) := by decide +kernel
theorem f106_24 : zft 106 24 = some (.iload_n 1, 1) := by decide +kernel
theorem f106_25 : zft 106 25 = some (.iaload, 1) := by decide +kernel
theorem f106_26 : zft 106 26 = some (.aload_n 0, 1) := by decide +kernel
theorem f106_27 : zft 106 27 = some (.getfield 122, 3) := by decide +kernel
theorem f106_30 : zft 106 30 = some (.if_icmp .ge 8, 3) := by decide +kernel
theorem f106_33 : zft 106 33 = some (.bipush (-3), 2) := by decide +kernel
theorem f106_35 : zft 106 35 = some (.goto 4, 3) := by decide +kernel
theorem f106_38 : zft 106 38 = some (.iconst 0, 1) := by decide +kernel
theorem f106_39 : zft 106 39 = some (.ireturn, 1) := by decide +kernel
theorem o106 : zo 106 = 7 := by decide +kernel
theorem p106 : zp 106 = 1 := by decide +kernel
theorem n106 : zn 106 = 2 := by decide +kernel
theorem v106 : zr 106 = (some .int) := by decide +kernel
theorem f107_0 : zft 107 0 = some (.aload_n 0, 1) := by decide +kernel
theorem f107_1 : zft 107 1 = some (.iload_n 1, 1) := by decide +kernel
theorem f107_2 : zft 107 2 = some (.invokevirtual 139, 3) := by decide +kernel
theorem f107_5 : zft 107 5 = some (.istore_n 2, 1) := by decide +kernel
theorem f107_6 : zft 107 6 = some (.iload_n 2, 1) := by decide +kernel
theorem f107_7 : zft 107 7 = some (.ifCond .eq 5, 3) := by decide +kernel
theorem f107_10 : zft 107 10 = some (.iload_n 2, 1) := by decide +kernel
theorem f107_11 : zft 107 11 = some (.ireturn, 1) := by decide +kernel
theorem f107_12 : zft 107 12 = some (.aload_n 0, 1) := by decide +kernel
theorem f107_13 : zft 107 13 = some (.iload_n 1, 1) := by decide +kernel
theorem f107_14 : zft 107 14 = some (.invokevirtual 143, 3) := by decide +kernel
theorem f107_17 : zft 107 17 = some (.istore_n 3, 1) := by decide +kernel
theorem f107_18 : zft 107 18 = some (.iload_n 3, 1) := by decide +kernel
theorem f107_19 : zft 107 19 = some (.iconst (-1), 1) := by decide +kernel
theorem f107_20 : zft 107 20 = some (.if_icmp .ne 8, 3) := by decide +kernel
theorem f107_23 : zft 107 23 = some (.aload_n 0, 1) := by decide +kernel
theorem f107_24 : zft 107 24 = some (.iload_n 1, 1) := by decide +kernel
theorem f107_25 : zft 107 25 = some (.invokevirtual 146, 3) := by decide +kernel
theorem f107_28 : zft 107 28 = some (.iload_n 3, 1) := by decide +kernel
theorem f107_29 : zft 107 29 = some (.ireturn, 1) := by decide +kernel
theorem o107 : zo 107 = 7 := by decide +kernel
theorem p107 : zp 107 = 1 := by decide +kernel
theorem n107 : zn 107 = 4 := by decide +kernel
theorem v107 : zr 107 = (some .int) := by decide +kernel
end
section
theorem f108_0 : zft 108 0 = some (.aload_n 0, 1) := by decide +kernel
theorem f108_1 : zft 108 1 = some (.getfield 35, 3) := by decide +kernel
theorem f108_4 : zft 108 4 = some (.iload_n 1, 1) := by decide +kernel
theorem f108_5 : zft 108 5 = some (.iaload, 1) := by decide +kernel
theorem f108_6 : zft 108 6 = some (.iconst 1, 1) := by decide +kernel
theorem f108_7 : zft 108 7 = some (.isub, 1) := by decide +kernel
theorem f108_8 : zft 108 8 = some (.istore 4, 2) := by decide +kernel
theorem f108_10 : zft 108 10 = some (.iload 4, 2) := by decide +kernel
theorem f108_12 : zft 108 12 = some (.istore 5, 2) := by decide +kernel
theorem f108_14 : zft 108 14 = some (.iload 5, 2) := by decide +kernel
theorem f108_16 : zft 108 16 = some (.iload_n 2, 1) := by decide +kernel
theorem f108_17 : zft 108 17 = some (.if_icmp .lt 258, 3) := by decide +kernel
theorem f108_20 : zft 108 20 = some (.iconst 0, 1) := by decide +kernel
theorem f108_21 : zft 108 21 = some (.istore 6, 2) := by decide +kernel
theorem f108_23 : zft 108 23 = some (.iload 6, 2) := by decide +kernel
theorem f108_25 : zft 108 25 = some (.aload_n 0, 1) := by decide +kernel
theorem f108_26 : zft 108 26 = some (.getfield 86, 3) := by decide +kernel
theorem f108_29 : zft 108 29 = some (.if_icmp .ge 240, 3) := by decide +kernel
theorem f108_32 : zft 108 32 = some (.iload 5, 2) := by decide +kernel
theorem f108_34 : zft 108 34 = some (.iload_n 2, 1) := by decide +kernel
theorem f108_35 : zft 108 35 = some (.if_icmp .eq 10, 3) := by decide +kernel
theorem f108_38 : zft 108 38 = some (.iload 5, 2) := by decide +kernel
theorem f108_40 : zft 108 40 = some (.iload 4, 2) := by decide +kernel
theorem f108_42 : zft 108 42 = some (.if_icmp .ne 7, 3) := by decide +kernel
theorem f108_45 : zft 108 45 = some (.iconst 1, 1) := by decide +kernel
theorem f108_46 : zft 108 46 = some (.goto 4, 3) := by decide +kernel
theorem f108_49 : zft 108 49 = some (.iconst 0, 1) := by decide +kernel
theorem f108_50 : zft 108 50 = some (.istore 7, 2) := by decide +kernel
theorem f108_52 : zft 108 52 = some (.iload 7, 2) := by decide +kernel
theorem f108_54 : zft 108 54 = some (.ifCond .eq 20, 3) := by decide +kernel
theorem f108_57 : zft 108 57 = some (.aload_n 0, 1) := by decide +kernel
theorem f108_58 : zft 108 58 = some (.getfield 38, 3) := by decide +kernel
theorem f108_61 : zft 108 61 = some (.bipush 7, 2) := by decide +kernel
theorem f108_63 : zft 108 63 = some (.iload_n 1, 1) := by decide +kernel
theorem f108_64 : zft 108 64 = some (.imul, 1) := by decide +kernel
theorem f108_65 : zft 108 65 = some (.iload 5, 2) := by decide +kernel
theorem f108_67 : zft 108 67 = some (.iadd, 1) := by decide +kernel
theorem f108_68 : zft 108 68 = some (.iaload, 1) := by decide +kernel
theorem f108_69 : zft 108 69 = some (.iload 6, 2) := by decide +kernel
theorem f108_71 : zft 108 71 = some (.if_icmp .ne 41, 3) := by decide +kernel
theorem f108_74 : zft 108 74 = some (.iload 5, 2) := by decide +kernel
theorem f108_76 : zft 108 76 = some (.iload_n 2, 1) := by decide +kernel
theorem f108_77 : zft 108 77 = some (.if_icmp .ne 7, 3) := by decide +kernel
theorem f108_80 : zft 108 80 = some (.iload_n 3, 1) := by decide +kernel
theorem f108_81 : zft 108 81 = some (.ifCond .eq 27, 3) := by decide +kernel
theorem f108_84 : zft 108 84 = some (.aload_n 0, 1) := by decide +kernel
theorem f108_85 : zft 108 85 = some (.iload 6, 2) := by decide +kernel
theorem f108_87 : zft 108 87 = some (.aload_n 0, 1) := by decide +kernel
theorem f108_88 : zft 108 88 = some (.getfield 32, 3) := by decide +kernel
theorem f108_91 : zft 108 91 = some (.iload_n 1, 1) := by decide +kernel
theorem f108_92 : zft 108 92 = some (.iaload, 1) := by decide +kernel
theorem f108_93 : zft 108 93 = some (.iload 5, 2) := by decide +kernel
theorem f108_95 : zft 108 95 = some (.iadd, 1) := by decide +kernel
theorem f108_96 : zft 108 96 = some (.aload_n 0, 1) := by decide +kernel
theorem f108_97 : zft 108 97 = some (.getfield 29, 3) := by decide +kernel
theorem f108_100 : zft 108 100 = some (.iload_n 1, 1) := by decide +kernel
theorem f108_101 : zft 108 101 = some (.iaload, 1) := by decide +kernel
theorem f108_102 : zft 108 102 = some (.invokevirtual 132, 3) := by decide +kernel
theorem f108_105 : zft 108 105 = some (.ifCond .eq 7, 3) := by decide +kernel
theorem f108_108 : zft 108 108 = some (.iconst 1, 1) := by decide +kernel
theorem f108_109 : zft 108 109 = some (.goto 4, 3) := by decide +kernel
theorem f108_112 : zft 108 112 = some (.iconst 0, 1) := by decide +kernel
theorem f108_113 : zft 108 113 = some (.istore 8, 2) := by decide +kernel
theorem f108_115 : zft 108 115 = some (.iload 5, 2) := by decide +kernel
theorem f108_117 : zft 108 117 = some (.iload 4, 2) := by decide +kernel
theorem f108_119 : zft 108 119 = some (.if_icmp .ne 7, 3) := by decide +kernel
theorem f108_122 : zft 108 122 = some (.iconst 0, 1) := by decide +kernel
theorem f108_123 : zft 108 123 = some (.goto 4, 3) := by decide +kernel
theorem f108_126 : zft 108 126 = some (.iconst (-1), 1) := by decide +kernel
theorem f108_127 : zft 108 127 = some (.istore 9, 2) := by decide +kernel
theorem f108_129 : zft 108 129 = some (.iconst 0, 1) := by decide +kernel
theorem f108_130 : zft 108 130 = some (.istore 10, 2) := by decide +kernel
theorem f108_132 : zft 108 132 = some (.iload 10, 2) := by decide +kernel
theorem f108_134 : zft 108 134 = some (.aload_n 0, 1) := by decide +kernel
theorem f108_135 : zft 108 135 = some (.getfield 86, 3) := by decide +kernel
theorem f108_138 : zft 108 138 = some (.if_icmp .ge 72, 3) := by decide +kernel
theorem f108_141 : zft 108 141 = some (.iload 5, 2) := by decide +kernel
theorem f108_143 : zft 108 143 = some (.iload 4, 2) := by decide +kernel
theorem f108_145 : zft 108 145 = some (.if_icmp .ge 65, 3) := by decide +kernel
theorem f108_148 : zft 108 148 = some (.aload_n 0, 1) := by decide +kernel
theorem f108_149 : zft 108 149 = some (.getfield 62, 3) := by decide +kernel
theorem f108_152 : zft 108 152 = some (.bipush 12, 2) := by decide +kernel
theorem f108_154 : zft 108 154 = some (.iload 5, 2) := by decide +kernel
theorem f108_156 : zft 108 156 = some (.iconst 1, 1) := by decide +kernel
theorem f108_157 : zft 108 157 = some (.iadd, 1) := by decide +kernel
theorem f108_158 : zft 108 158 = some (.imul, 1) := by decide +kernel
theorem f108_159 : zft 108 159 = some (.iload 10, 2) := by decide +kernel
theorem f108_161 : zft 108 161 = some (.iadd, 1) := by decide +kernel
theorem f108_162 : zft 108 162 = some (.iaload, 1) := by decide +kernel
theorem f108_163 : zft 108 163 = some (.istore 11, 2) := by decide +kernel
theorem f108_165 : zft 108 165 = some (.iload 11, 2) := by decide +kernel
theorem f108_167 : zft 108 167 = some (.iconst (-1), 1) := by decide +kernel
theorem f108_168 : zft 108 168 = some (.if_icmp .eq 32, 3) := by decide +kernel
theorem f108_171 : zft 108 171 = some (.aload_n 0, 1) := by decide +kernel
theorem f108_172 : zft 108 172 = some (.iload 6, 2) := by decide +kernel
theorem f108_174 : zft 108 174 = some (.iload 10, 2) := by decide +kernel
theorem f108_176 : zft 108 176 = some (.invokevirtual 128, 3) := by decide +kernel
theorem f108_179 : zft 108 179 = some (.ifCond .eq 21, 3) := by decide +kernel
theorem f108_182 : zft 108 182 = some (.iload 9, 2) := by decide +kernel
theorem f108_184 : zft 108 184 = some (.iconst (-1), 1) := by decide +kernel
theorem f108_185 : zft 108 185 = some (.if_icmp .eq 10, 3) := by decide +kernel
theorem f108_188 : zft 108 188 = some (.iload 11, 2) := by decide +kernel
theorem f108_190 : zft 108 190 = some (.iload 9, 2) := by decide +kernel
theorem f108_192 : zft 108 192 = some (.if_icmp .ge 8, 3) := by decide +kernel
theorem f108_195 : zft 108 195 = some (.iload 11, 2) := by decide +kernel
theorem f108_197 : zft 108 197 = some (.goto 5, 3) := by decide +kernel
theorem f108_200 : zft 108 200 = some (.iload 9, 2) := by decide +kernel
theorem f108_202 : zft 108 202 = some (.istore 9, 2) := by decide +kernel
theorem f108_204 : zft 108 204 = some (.iinc 10 1, 3) := by decide +kernel
theorem f108_207 : zft 108 207 = some (.goto (-75), 3) := by decide +kernel
theorem f108_210 : zft 108 210 = some (.aload_n 0, 1) := by decide +kernel
theorem f108_211 : zft 108 211 = some (.getfield 62, 3) := by decide +kernel
theorem f108_214 : zft 108 214 = some (.bipush 12, 2) := by decide +kernel
theorem f108_216 : zft 108 216 = some (.iload 5, 2) := by decide +kernel
theorem f108_218 : zft 108 218 = some (.imul, 1) := by decide +kernel
theorem f108_219 : zft 108 219 = some (.iload 6, 2) := by decide +kernel
theorem f108_221 : zft 108 221 = some (.iadd, 1) := by decide +kernel
theorem f108_222 : zft 108 222 = some (.iload 8, 2) := by decide +kernel
theorem f108_224 : zft 108 224 = some (.ifCond .eq 37, 3) := by decide +kernel
theorem f108_227 : zft 108 227 = some (.iload 9, 2) := by decide +kernel
theorem f108_229 : zft 108 229 = some (.iconst (-1), 1) := by decide +kernel
theorem f108_230 : zft 108 230 = some (.if_icmp .eq 31, 3) := by decide +kernel
theorem f108_233 : zft 108 233 = some (.iload 9, 2) := by decide +kernel
theorem f108_235 : zft 108 235 = some (.aload_n 0, 1) := by decide +kernel
theorem f108_236 : zft 108 236 = some (.getfield 38, 3) := by decide +kernel
theorem f108_239 : zft 108 239 = some (.bipush 7, 2) := by decide +kernel
theorem f108_241 : zft 108 241 = some (.iload_n 1, 1) := by decide +kernel
theorem f108_242 : zft 108 242 = some (.imul, 1) := by decide +kernel
theorem f108_243 : zft 108 243 = some (.iload 5, 2) := by decide +kernel
theorem f108_245 : zft 108 245 = some (.iadd, 1) := by decide +kernel
theorem f108_246 : zft 108 246 = some (.iaload, 1) := by decide +kernel
theorem f108_247 : zft 108 247 = some (.iload 6, 2) := by decide +kernel
theorem f108_249 : zft 108 249 = some (.if_icmp .ne 7, 3) := by decide +kernel
theorem f108_252 : zft 108 252 = some (.iconst 0, 1) := by decide +kernel
theorem f108_253 : zft 108 253 = some (.goto 4, 3) := by decide +kernel
theorem f108_256 : zft 108 256 = some (.iconst 1, 1) := by decide +kernel
theorem f108_257 : zft 108 257 = some (.iadd, 1) := by decide +kernel
theorem f108_258 : zft 108 258 = some (.goto 4, 3) := by decide +kernel
theorem f108_261 : zft 108 261 = some (.iconst (-1), 1) := by decide +kernel
theorem f108_262 : zft 108 262 = some (.iastore, 1) := by decide +kernel
theorem f108_263 : zft 108 263 = some (.iinc 6 1, 3) := by decide +kernel
theorem f108_266 : zft 108 266 = some (.goto (-243), 3) := by decide +kernel
theorem f108_269 : zft 108 269 = some (.iinc 5 (-1), 3) := by decide +kernel
theorem f108_272 : zft 108 272 = some (.goto (-258), 3) := by decide +kernel
theorem f108_275 : zft 108 275 = some (.aload_n 0, 1) := by decide +kernel
theorem f108_276 : zft 108 276 = some (.getfield 38, 3) := by decide +kernel
theorem f108_279 : zft 108 279 = some (.bipush 7, 2) := by decide +kernel
theorem f108_281 : zft 108 281 = some (.iload_n 1, 1) := by decide +kernel
theorem f108_282 : zft 108 282 = some (.imul, 1) := by decide +kernel
theorem f108_283 : zft 108 283 = some (.iload_n 2, 1) := by decide +kernel
theorem f108_284 : zft 108 284 = some (.iadd, 1) := by decide +kernel
theorem f108_285 : zft 108 285 = some (.iaload, 1) := by decide +kernel
theorem f108_286 : zft 108 286 = some (.istore 5, 2) := by decide +kernel
theorem f108_288 : zft 108 288 = some (.aload_n 0, 1) := by decide +kernel
theorem f108_289 : zft 108 289 = some (.getfield 62, 3) := by decide +kernel
theorem f108_292 : zft 108 292 = some (.bipush 12, 2) := by decide +kernel
theorem f108_294 : zft 108 294 = some (.iload_n 2, 1) := by decide +kernel
theorem f108_295 : zft 108 295 = some (.imul, 1) := by decide +kernel
theorem f108_296 : zft 108 296 = some (.iload 5, 2) := by decide +kernel
theorem f108_298 : zft 108 298 = some (.iadd, 1) := by decide +kernel
theorem f108_299 : zft 108 299 = some (.iaload, 1) := by decide +kernel
theorem f108_300 : zft 108 300 = some (.istore 6, 2) := by decide +kernel
theorem f108_302 : zft 108 302 = some (.iload 6, 2) := by decide +kernel
theorem f108_304 : zft 108 304 = some (.iconst (-1), 1) := by decide +kernel
theorem f108_305 : zft 108 305 = some (.if_icmp .ne 5, 3) := by decide +kernel
theorem f108_308 : zft 108 308 = some (.iconst (-1), 1) := by decide +kernel
theorem f108_309 : zft 108 309 = some (.ireturn, 1) := by decide +kernel
theorem f108_310 : zft 108 310 = some (.aload_n 0, 1) := by decide +kernel
theorem f108_311 : zft 108 311 = some (.getfield 65, 3) := by decide +kernel
theorem f108_314 : zft 108 314 = some (.iload_n 2, 1) := by decide +kernel
theorem f108_315 : zft 108 315 = some (.iload 5, 2) := by decide +kernel
theorem f108_317 : zft 108 317 = some (.iastore, 1) := by decide +kernel
theorem f108_318 : zft 108 318 = some (.iload_n 2, 1) := by decide +kernel
theorem f108_319 : zft 108 319 = some (.istore 7, 2) := by decide +kernel
theorem f108_321 : zft 108 321 = some (.iload 7, 2) := by decide +kernel
theorem f108_323 : zft 108 323 = some (.iload 4, 2) := by decide +kernel
theorem f108_325 : zft 108 325 = some (.if_icmp .ge 102, 3) := by decide +kernel
theorem f108_328 : zft 108 328 = some (.aload_n 0, 1) := by decide +kernel
theorem f108_329 : zft 108 329 = some (.getfield 62, 3) := by decide +kernel
theorem f108_332 : zft 108 332 = some (.bipush 12, 2) := by decide +kernel
theorem f108_334 : zft 108 334 = some (.iload 7, 2) := by decide +kernel
theorem f108_336 : zft 108 336 = some (.imul, 1) := by decide +kernel
theorem f108_337 : zft 108 337 = some (.iload 5, 2) := by decide +kernel
theorem f108_339 : zft 108 339 = some (.iadd, 1) := by decide +kernel
theorem f108_340 : zft 108 340 = some (.iaload, 1) := by decide +kernel
theorem f108_341 : zft 108 341 = some (.aload_n 0, 1) := by decide +kernel
theorem f108_342 : zft 108 342 = some (.getfield 38, 3) := by decide +kernel
theorem f108_345 : zft 108 345 = some (.bipush 7, 2) := by decide +kernel
theorem f108_347 : zft 108 347 = some (.iload_n 1, 1) := by decide +kernel
theorem f108_348 : zft 108 348 = some (.imul, 1) := by decide +kernel
theorem f108_349 : zft 108 349 = some (.iload 7, 2) := by decide +kernel
theorem f108_351 : zft 108 351 = some (.iadd, 1) := by decide +kernel
theorem f108_352 : zft 108 352 = some (.iaload, 1) := by decide +kernel
theorem f108_353 : zft 108 353 = some (.iload 5, 2) := by decide +kernel
theorem f108_355 : zft 108 355 = some (.if_icmp .ne 7, 3) := by decide +kernel
theorem f108_358 : zft 108 358 = some (.iconst 0, 1) := by decide +kernel
theorem f108_359 : zft 108 359 = some (.goto 4, 3) := by decide +kernel
theorem f108_362 : zft 108 362 = some (.iconst 1, 1) := by decide +kernel
theorem f108_363 : zft 108 363 = some (.isub, 1) := by decide +kernel
theorem f108_364 : zft 108 364 = some (.istore 8, 2) := by decide +kernel
theorem f108_366 : zft 108 366 = some (.iconst 0, 1) := by decide +kernel
theorem f108_367 : zft 108 367 = some (.istore 9, 2) := by decide +kernel
theorem f108_369 : zft 108 369 = some (.aload_n 0, 1) := by decide +kernel
theorem f108_370 : zft 108 370 = some (.iload 5, 2) := by decide +kernel
theorem f108_372 : zft 108 372 = some (.iload 9, 2) := by decide +kernel
theorem f108_374 : zft 108 374 = some (.invokevirtual 128, 3) := by decide +kernel
theorem f108_377 : zft 108 377 = some (.ifCond .eq 23, 3) := by decide +kernel
theorem f108_380 : zft 108 380 = some (.aload_n 0, 1) := by decide +kernel
theorem f108_381 : zft 108 381 = some (.getfield 62, 3) := by decide +kernel
theorem f108_384 : zft 108 384 = some (.bipush 12, 2) := by decide +kernel
theorem f108_386 : zft 108 386 = some (.iload 7, 2) := by decide +kernel
theorem f108_388 : zft 108 388 = some (.iconst 1, 1) := by decide +kernel
theorem f108_389 : zft 108 389 = some (.iadd, 1) := by decide +kernel
theorem f108_390 : zft 108 390 = some (.imul, 1) := by decide +kernel
theorem f108_391 : zft 108 391 = some (.iload 9, 2) := by decide +kernel
theorem f108_393 : zft 108 393 = some (.iadd, 1) := by decide +kernel
theorem f108_394 : zft 108 394 = some (.iaload, 1) := by decide +kernel
theorem f108_395 : zft 108 395 = some (.iload 8, 2) := by decide +kernel
theorem f108_397 : zft 108 397 = some (.if_icmp .eq 9, 3) := by decide +kernel
theorem f108_400 : zft 108 400 = some (.iinc 9 1, 3) := by decide +kernel
theorem f108_403 : zft 108 403 = some (.goto (-34), 3) := by decide +kernel
theorem f108_406 : zft 108 406 = some (.iload 9, 2) := by decide +kernel
theorem f108_408 : zft 108 408 = some (.istore 5, 2) := by decide +kernel
theorem f108_410 : zft 108 410 = some (.aload_n 0, 1) := by decide +kernel
theorem f108_411 : zft 108 411 = some (.getfield 65, 3) := by decide +kernel
theorem f108_414 : zft 108 414 = some (.iload 7, 2) := by decide +kernel
theorem f108_416 : zft 108 416 = some (.iconst 1, 1) := by decide +kernel
theorem f108_417 : zft 108 417 = some (.iadd, 1) := by decide +kernel
theorem f108_418 : zft 108 418 = some (.iload 5, 2) := by decide +kernel
theorem f108_420 : zft 108 420 = some (.iastore, 1) := by decide +kernel
theorem f108_421 : zft 108 421 = some (.iinc 7 1, 3) := by decide +kernel
theorem f108_424 : zft 108 424 = some (.goto (-103), 3) := by decide +kernel
theorem f108_427 : zft 108 427 = some (.iload 6, 2) := by decide +kernel
theorem f108_429 : zft 108 429 = some (.ireturn, 1) := by decide +kernel
theorem o108 : zo 108 = 7 := by decide +kernel
theorem p108 : zp 108 = 3 := by decide +kernel
theorem n108 : zn 108 = 12 := by decide +kernel
theorem v108 : zr 108 = (some .int) := by decide +kernel
theorem f109_0 : zft 109 0 = some (.aload_n 0, 1) := by decide +kernel
theorem f109_1 : zft 109 1 = some (.iload_n 1, 1) := by decide +kernel
theorem f109_2 : zft 109 2 = some (.invokevirtual 139, 3) := by decide +kernel
theorem f109_5 : zft 109 5 = some (.istore_n 2, 1) := by decide +kernel
theorem f109_6 : zft 109 6 = some (.iload_n 2, 1) := by decide +kernel
theorem f109_7 : zft 109 7 = some (.ifCond .eq 7, 3) := by decide +kernel
theorem f109_10 : zft 109 10 = some (.iload_n 2, 1) := by decide +kernel
theorem f109_11 : zft 109 11 = some (.goto 10, 3) := by decide +kernel
theorem f109_14 : zft 109 14 = some (.aload_n 0, 1) := by decide +kernel
theorem f109_15 : zft 109 15 = some (.iload_n 1, 1) := by decide +kernel
theorem f109_16 : zft 109 16 = some (.iconst 0, 1) := by decide +kernel
theorem f109_17 : zft 109 17 = some (.iconst 1, 1) := by decide +kernel
theorem f109_18 : zft 109 18 = some (.invokevirtual 150, 3) := by decide +kernel
theorem f109_21 : zft 109 21 = some (.ireturn, 1) := by decide +kernel
theorem o109 : zo 109 = 7 := by decide +kernel
theorem p109 : zp 109 = 1 := by decide +kernel
theorem n109 : zn 109 = 3 := by decide +kernel
theorem v109 : zr 109 = (some .int) := by decide +kernel
theorem f110_0 : zft 110 0 = some (.aload_n 0, 1) := by decide +kernel
theorem f110_1 : zft 110 1 = some (.iload_n 1, 1) := by decide +kernel
theorem f110_2 : zft 110 2 = some (.invokevirtual 125, 3) := by decide +kernel
theorem f110_5 : zft 110 5 = some (.ifCond .eq 19, 3) := by decide +kernel
theorem f110_8 : zft 110 8 = some (.iload_n 2, 1) := by decide +kernel
theorem f110_9 : zft 110 9 = some (.iconst 0, 1) := by decide +kernel
theorem f110_10 : zft 110 10 = some (.aload_n 0, 1) := by decide +kernel
theorem f110_11 : zft 110 11 = some (.getfield 35, 3) := by decide +kernel
theorem f110_14 : zft 110 14 = some (.iload_n 1, 1) := by decide +kernel
theorem f110_15 : zft 110 15 = some (.iaload, 1) := by decide +kernel
theorem f110_16 : zft 110 16 = some (.iconst 1, 1) := by decide +kernel
theorem f110_17 : zft 110 17 = some (.isub, 1) := by decide +kernel
theorem f110_18 : zft 110 18 = some (.invokestatic 90, 3) := by decide +kernel
theorem f110_21 : zft 110 21 = some (.ifCond .ne 6, 3) := by decide +kernel
theorem f110_24 : zft 110 24 = some (.bipush (-2), 2) := by decide +kernel
theorem f110_26 : zft 110 26 = some (.ireturn, 1) := by decide +kernel
theorem f110_27 : zft 110 27 = some (.aload_n 0, 1) := by decide +kernel
theorem f110_28 : zft 110 28 = some (.iload_n 1, 1) := by decide +kernel
theorem f110_29 : zft 110 29 = some (.invokevirtual 139, 3) := by decide +kernel
theorem f110_32 : zft 110 32 = some (.istore_n 3, 1) := by decide +kernel
theorem f110_33 : zft 110 33 = some (.iload_n 3, 1) := by decide +kernel
theorem f110_34 : zft 110 34 = some (.ifCond .eq 5, 3) := by decide +kernel
theorem f110_37 : zft 110 37 = some (.iload_n 3, 1) := by decide +kernel
theorem f110_38 : zft 110 38 = some (.ireturn, 1) := by decide +kernel
theorem f110_39 : zft 110 39 = some (.aload_n 0, 1) := by decide +kernel
theorem f110_40 : zft 110 40 = some (.iload_n 1, 1) := by decide +kernel
theorem f110_41 : zft 110 41 = some (.iconst 0, 1) := by decide +kernel
theorem f110_42 : zft 110 42 = some (.iconst 1, 1) := by decide +kernel
theorem f110_43 : zft 110 43 = some (.invokevirtual 150, 3) := by decide +kernel
theorem f110_46 : zft 110 46 = some (.iconst (-1), 1) := by decide +kernel
theorem f110_47 : zft 110 47 = some (.if_icmp .ne 7, 3) := by decide +kernel
theorem f110_50 : zft 110 50 = some (.iconst (-1), 1) := by decide +kernel
theorem f110_51 : zft 110 51 = some (.goto 9, 3) := by decide +kernel
theorem f110_54 : zft 110 54 = some (.aload_n 0, 1) := by decide +kernel
theorem f110_55 : zft 110 55 = some (.getfield 65, 3) := by decide +kernel
theorem f110_58 : zft 110 58 = some (.iload_n 2, 1) := by decide +kernel
theorem f110_59 : zft 110 59 = some (.iaload, 1) := by decide +kernel
theorem f110_60 : zft 110 60 = some (.ireturn, 1) := by decide +kernel
theorem o110 : zo 110 = 7 := by decide +kernel
theorem p110 : zp 110 = 2 := by decide +kernel
theorem n110 : zn 110 = 4 := by decide +kernel
theorem v110 : zr 110 = (some .int) := by decide +kernel
theorem f111_0 : zft 111 0 = some (.aload_n 0, 1) := by decide +kernel
theorem f111_1 : zft 111 1 = some (.iload_n 1, 1) := by decide +kernel
theorem f111_2 : zft 111 2 = some (.invokevirtual 139, 3) := by decide +kernel
theorem f111_5 : zft 111 5 = some (.istore_n 2, 1) := by decide +kernel
theorem f111_6 : zft 111 6 = some (.iload_n 2, 1) := by decide +kernel
theorem f111_7 : zft 111 7 = some (.ifCond .eq 5, 3) := by decide +kernel
theorem f111_10 : zft 111 10 = some (.iload_n 2, 1) := by decide +kernel
theorem f111_11 : zft 111 11 = some (.ireturn, 1) := by decide +kernel
theorem f111_12 : zft 111 12 = some (.aload_n 0, 1) := by decide +kernel
theorem f111_13 : zft 111 13 = some (.iload_n 1, 1) := by decide +kernel
theorem f111_14 : zft 111 14 = some (.iconst 0, 1) := by decide +kernel
theorem f111_15 : zft 111 15 = some (.iconst 1, 1) := by decide +kernel
theorem f111_16 : zft 111 16 = some (.invokevirtual 150, 3) := by decide +kernel
theorem f111_19 : zft 111 19 = some (.istore_n 3, 1) := by decide +kernel
theorem f111_20 : zft 111 20 = some (.iload_n 3, 1) := by decide +kernel
theorem f111_21 : zft 111 21 = some (.iconst (-1), 1) := by decide +kernel
theorem f111_22 : zft 111 22 = some (.if_icmp .eq 47, 3) := by decide +kernel
theorem f111_25 : zft 111 25 = some (.iconst 0, 1) := by decide +kernel
theorem f111_26 : zft 111 26 = some (.istore 4, 2) := by decide +kernel
theorem f111_28 : zft 111 28 = some (.iload 4, 2) := by decide +kernel
theorem f111_30 : zft 111 30 = some (.aload_n 0, 1) := by decide +kernel
theorem f111_31 : zft 111 31 = some (.getfield 35, 3) := by decide +kernel
theorem f111_34 : zft 111 34 = some (.iload_n 1, 1) := by decide +kernel
theorem f111_35 : zft 111 35 = some (.iaload, 1) := by decide +kernel
theorem f111_36 : zft 111 36 = some (.if_icmp .ge 28, 3) := by decide +kernel
theorem f111_39 : zft 111 39 = some (.aload_n 0, 1) := by decide +kernel
theorem f111_40 : zft 111 40 = some (.getfield 38, 3) := by decide +kernel
theorem f111_43 : zft 111 43 = some (.bipush 7, 2) := by decide +kernel
theorem f111_45 : zft 111 45 = some (.iload_n 1, 1) := by decide +kernel
theorem f111_46 : zft 111 46 = some (.imul, 1) := by decide +kernel
theorem f111_47 : zft 111 47 = some (.iload 4, 2) := by decide +kernel
theorem f111_49 : zft 111 49 = some (.iadd, 1) := by decide +kernel
theorem f111_50 : zft 111 50 = some (.aload_n 0, 1) := by decide +kernel
theorem f111_51 : zft 111 51 = some (.getfield 65, 3) := by decide +kernel
theorem f111_54 : zft 111 54 = some (.iload 4, 2) := by decide +kernel
theorem f111_56 : zft 111 56 = some (.iaload, 1) := by decide +kernel
theorem f111_57 : zft 111 57 = some (.iastore, 1) := by decide +kernel
theorem f111_58 : zft 111 58 = some (.iinc 4 1, 3) := by decide +kernel
theorem f111_61 : zft 111 61 = some (.goto (-33), 3) := by decide +kernel
theorem f111_64 : zft 111 64 = some (.aload_n 0, 1) := by decide +kernel
theorem f111_65 : zft 111 65 = some (.iload_n 1, 1) := by decide +kernel
theorem f111_66 : zft 111 66 = some (.invokevirtual 146, 3) := by decide +kernel
theorem f111_69 : zft 111 69 = some (.iload_n 3, 1) := by decide +kernel
theorem f111_70 : zft 111 70 = some (.ireturn, 1) := by decide +kernel
theorem o111 : zo 111 = 7 := by decide +kernel
theorem p111 : zp 111 = 1 := by decide +kernel
theorem n111 : zn 111 = 5 := by decide +kernel
theorem v111 : zr 111 = (some .int) := by decide +kernel
theorem f112_0 : zft 112 0 = some (.iload_n 1, 1) := by decide +kernel
theorem f112_1 : zft 112 1 = some (.iconst 0, 1) := by decide +kernel
theorem f112_2 : zft 112 2 = some (.bipush 39, 2) := by decide +kernel
theorem f112_4 : zft 112 4 = some (.invokestatic 90, 3) := by decide +kernel
theorem f112_7 : zft 112 7 = some (.ifCond .eq 13, 3) := by decide +kernel
theorem f112_10 : zft 112 10 = some (.iload_n 2, 1) := by decide +kernel
theorem f112_11 : zft 112 11 = some (.iconst 0, 1) := by decide +kernel
theorem f112_12 : zft 112 12 = some (.bipush 100, 2) := by decide +kernel
theorem f112_14 : zft 112 14 = some (.invokestatic 90, 3) := by decide +kernel
theorem f112_17 : zft 112 17 = some (.ifCond .ne 6, 3) := by decide +kernel
theorem f112_20 : zft 112 20 = some (.bipush (-2), 2) := by decide +kernel
theorem f112_22 : zft 112 22 = some (.ireturn, 1) := by decide +kernel
theorem f112_23 : zft 112 23 = some (.aload_n 0, 1) := by decide +kernel
theorem f112_24 : zft 112 24 = some (.getfield 154, 3) := by decide +kernel
theorem f112_27 : zft 112 27 = some (.bipush 20, 2) := by decide +kernel
theorem f112_29 : zft 112 29 = some (.if_icmp .ne 6, 3) := by decide +kernel
theorem f112_32 : zft 112 32 = some (.bipush (-4), 2) := by decide +kernel
theorem f112_34 : zft 112 34 = some (.ireturn, 1) := by decide +kernel
theorem f112_35 : zft 112 35 = some (.aload_n 0, 1) := by decide +kernel
theorem f112_36 : zft 112 36 = some (.getfield 68, 3) := by decide +kernel
theorem f112_39 : zft 112 39 = some (.aload_n 0, 1) := by decide +kernel
theorem f112_40 : zft 112 40 = some (.getfield 154, 3) := by decide +kernel
theorem f112_43 : zft 112 43 = some (.iload_n 1, 1) := by decide +kernel
theorem f112_44 : zft 112 44 = some (.iastore, 1) := by decide +kernel
theorem f112_45 : zft 112 45 = some (.aload_n 0, 1) := by decide +kernel
theorem f112_46 : zft 112 46 = some (.getfield 71, 3) := by decide +kernel
theorem f112_49 : zft 112 49 = some (.aload_n 0, 1) := by decide +kernel
theorem f112_50 : zft 112 50 = some (.getfield 154, 3) := by decide +kernel
theorem f112_53 : zft 112 53 = some (.iload_n 2, 1) := by decide +kernel
theorem f112_54 : zft 112 54 = some (.iastore, 1) := by decide +kernel
theorem f112_55 : zft 112 55 = some (.aload_n 0, 1) := by decide +kernel
theorem f112_56 : zft 112 56 = some (.dup, 1) := by decide +kernel
theorem f112_57 : zft 112 57 = some (.getfield 154, 3) := by decide +kernel
theorem f112_60 : zft 112 60 = some (.iconst 1, 1) := by decide +kernel
theorem f112_61 : zft 112 61 = some (.iadd, 1) := by decide +kernel
theorem f112_62 : zft 112 62 = some (.putfield 154, 3) := by decide +kernel
theorem f112_65 : zft 112 65 = some (.aload_n 0, 1) := by decide +kernel
theorem f112_66 : zft 112 66 = some (.getfield 154, 3) := by decide +kernel
theorem f112_69 : zft 112 69 = some (.ireturn, 1) := by decide +kernel
theorem o112 : zo 112 = 7 := by decide +kernel
theorem p112 : zp 112 = 2 := by decide +kernel
theorem n112 : zn 112 = 3 := by decide +kernel
theorem v112 : zr 112 = (some .int) := by decide +kernel
theorem f113_0 : zft 113 0 = some (.aload_n 0, 1) := by decide +kernel
theorem f113_1 : zft 113 1 = some (.iload_n 1, 1) := by decide +kernel
theorem f113_2 : zft 113 2 = some (.invokevirtual 125, 3) := by decide +kernel
theorem f113_5 : zft 113 5 = some (.ifCond .ne 6, 3) := by decide +kernel
theorem f113_8 : zft 113 8 = some (.bipush (-2), 2) := by decide +kernel
theorem f113_10 : zft 113 10 = some (.ireturn, 1) := by decide +kernel
theorem f113_11 : zft 113 11 = some (.aload_n 0, 1) := by decide +kernel
theorem f113_12 : zft 113 12 = some (.getfield 41, 3) := by decide +kernel
theorem f113_15 : zft 113 15 = some (.iload_n 1, 1) := by decide +kernel
theorem f113_16 : zft 113 16 = some (.iaload, 1) := by decide +kernel
theorem f113_17 : zft 113 17 = some (.iconst 1, 1) := by decide +kernel
theorem f113_18 : zft 113 18 = some (.if_icmp .ne 16, 3) := by decide +kernel
theorem f113_21 : zft 113 21 = some (.aload_n 0, 1) := by decide +kernel
theorem f113_22 : zft 113 22 = some (.getfield 32, 3) := by decide +kernel
theorem f113_25 : zft 113 25 = some (.iload_n 1, 1) := by decide +kernel
theorem f113_26 : zft 113 26 = some (.iaload, 1) := by decide +kernel
theorem f113_27 : zft 113 27 = some (.aload_n 0, 1) := by decide +kernel
theorem f113_28 : zft 113 28 = some (.getfield 122, 3) := by decide +kernel
theorem f113_31 : zft 113 31 = some (.if_icmp .gt 6, 3) := by decide +kernel
theorem f113_34 : zft 113 34 = some (.bipush (-3), 2) := by decide +kernel
theorem f113_36 : zft 113 36 = some (.ireturn, 1) := by decide +kernel
theorem f113_37 : zft 113 37 = some (.aload_n 0, 1) := by decide +kernel
theorem f113_38 : zft 113 38 = some (.getfield 41, 3) := by decide +kernel
theorem f113_41 : zft 113 41 = some (.iload_n 1, 1) := by decide +kernel
theorem f113_42 : zft 113 42 = some (.iconst 2, 1) := by decide +kernel
theorem f113_43 : zft 113 43 = some (.iastore, 1) := by decide +kernel
theorem f113_44 : zft 113 44 = some (.iconst 0, 1) := by decide +kernel
theorem f113_45 : zft 113 45 = some (.istore_n 2, 1) := by decide +kernel
theorem f113_46 : zft 113 46 = some (.iload_n 2, 1) := by decide +kernel
theorem f113_47 : zft 113 47 = some (.aload_n 0, 1) := by decide +kernel
theorem f113_48 : zft 113 48 = some (.getfield 35, 3) := by decide +kernel
theorem f113_51 : zft 113 51 = some (.iload_n 1, 1) := by decide +kernel
theorem f113_52 : zft 113 52 = some (.iaload, 1) := by decide +kernel
theorem f113_53 : zft 113 53 = some (.if_icmp .ge 15, 3) := by decide +kernel
theorem f113_56 : zft 113 56 = some (.aload_n 0, 1) := by decide +kernel
theorem f113_57 : zft 113 57 = some (.iload_n 1, 1) := by decide +kernel
theorem f113_58 : zft 113 58 = some (.iload_n 2, 1) := by decide +kernel
theorem f113_59 : zft 113 59 = some (.invokevirtual 157, 3) := by decide +kernel
theorem f113_62 : zft 113 62 = some (.iinc 2 1, 3) := by decide +kernel
theorem f113_65 : zft 113 65 = some (.goto (-19), 3) := by decide +kernel
theorem f113_68 : zft 113 68 = some (.iconst (-1), 1) := by decide +kernel
theorem f113_69 : zft 113 69 = some (.istore_n 2, 1) := by decide +kernel
theorem f113_70 : zft 113 70 = some (.iconst 0, 1) := by decide +kernel
theorem f113_71 : zft 113 71 = some (.istore_n 3, 1) := by decide +kernel
theorem f113_72 : zft 113 72 = some (.iload_n 3, 1) := by decide +kernel
theorem f113_73 : zft 113 73 = some (.aload_n 0, 1) := by decide +kernel
theorem f113_74 : zft 113 74 = some (.getfield 154, 3) := by decide +kernel
theorem f113_77 : zft 113 77 = some (.if_icmp .ge 67, 3) := by decide +kernel
theorem f113_80 : zft 113 80 = some (.aload_n 0, 1) := by decide +kernel
theorem f113_81 : zft 113 81 = some (.getfield 68, 3) := by decide +kernel
theorem f113_84 : zft 113 84 = some (.iload_n 3, 1) := by decide +kernel
theorem f113_85 : zft 113 85 = some (.iaload, 1) := by decide +kernel
theorem f113_86 : zft 113 86 = some (.aload_n 0, 1) := by decide +kernel
theorem f113_87 : zft 113 87 = some (.getfield 32, 3) := by decide +kernel
theorem f113_90 : zft 113 90 = some (.iload_n 1, 1) := by decide +kernel
theorem f113_91 : zft 113 91 = some (.iaload, 1) := by decide +kernel
theorem f113_92 : zft 113 92 = some (.aload_n 0, 1) := by decide +kernel
theorem f113_93 : zft 113 93 = some (.getfield 122, 3) := by decide +kernel
theorem f113_96 : zft 113 96 = some (.isub, 1) := by decide +kernel
theorem f113_97 : zft 113 97 = some (.if_icmp .gt 7, 3) := by decide +kernel
theorem f113_100 : zft 113 100 = some (.iconst 1, 1) := by decide +kernel
theorem f113_101 : zft 113 101 = some (.goto 4, 3) := by decide +kernel
theorem f113_104 : zft 113 104 = some (.iconst 0, 1) := by decide +kernel
theorem f113_105 : zft 113 105 = some (.istore 4, 2) := by decide +kernel
theorem f113_107 : zft 113 107 = some (.iload 4, 2) := by decide +kernel
theorem f113_109 : zft 113 109 = some (.ifCond .eq 27, 3) := by decide +kernel
theorem f113_112 : zft 113 112 = some (.iload_n 2, 1) := by decide +kernel
theorem f113_113 : zft 113 113 = some (.iconst (-1), 1) := by decide +kernel
theorem f113_114 : zft 113 114 = some (.if_icmp .eq 18, 3) := by decide +kernel
theorem f113_117 : zft 113 117 = some (.aload_n 0, 1) := by decide +kernel
theorem f113_118 : zft 113 118 = some (.getfield 68, 3) := by decide +kernel
theorem f113_121 : zft 113 121 = some (.iload_n 3, 1) := by decide +kernel
theorem f113_122 : zft 113 122 = some (.iaload, 1) := by decide +kernel
theorem f113_123 : zft 113 123 = some (.aload_n 0, 1) := by decide +kernel
theorem f113_124 : zft 113 124 = some (.getfield 68, 3) := by decide +kernel
theorem f113_127 : zft 113 127 = some (.iload_n 2, 1) := by decide +kernel
theorem f113_128 : zft 113 128 = some (.iaload, 1) := by decide +kernel
theorem f113_129 : zft 113 129 = some (.if_icmp .lt 7, 3) := by decide +kernel
theorem f113_132 : zft 113 132 = some (.iload_n 3, 1) := by decide +kernel
theorem f113_133 : zft 113 133 = some (.goto 4, 3) := by decide +kernel
theorem f113_136 : zft 113 136 = some (.iload_n 2, 1) := by decide +kernel
theorem f113_137 : zft 113 137 = some (.istore_n 2, 1) := by decide +kernel
theorem f113_138 : zft 113 138 = some (.iinc 3 1, 3) := by decide +kernel
theorem f113_141 : zft 113 141 = some (.goto (-69), 3) := by decide +kernel
theorem f113_144 : zft 113 144 = some (.iload_n 2, 1) := by decide +kernel
theorem f113_145 : zft 113 145 = some (.iconst (-1), 1) := by decide +kernel
theorem f113_146 : zft 113 146 = some (.if_icmp .ne 7, 3) := by decide +kernel
theorem f113_149 : zft 113 149 = some (.iconst 0, 1) := by decide +kernel
theorem f113_150 : zft 113 150 = some (.goto 9, 3) := by decide +kernel
theorem f113_153 : zft 113 153 = some (.aload_n 0, 1) := by decide +kernel
theorem f113_154 : zft 113 154 = some (.getfield 71, 3) := by decide +kernel
theorem f113_157 : zft 113 157 = some (.iload_n 2, 1) := by decide +kernel
theorem f113_158 : zft 113 158 = some (.iaload, 1) := by decide +kernel
theorem f113_159 : zft 113 159 = some (.ireturn, 1) := by decide +kernel
theorem o113 : zo 113 = 7 := by decide +kernel
theorem p113 : zp 113 = 1 := by decide +kernel
theorem n113 : zn 113 = 5 := by decide +kernel
theorem v113 : zr 113 = (some .int) := by decide +kernel
theorem f114_0 : zft 114 0 = some (.iconst 0, 1) := by decide +kernel
theorem f114_1 : zft 114 1 = some (.istore 5, 2) := by decide +kernel
theorem f114_3 : zft 114 3 = some (.iload 5, 2) := by decide +kernel
theorem f114_5 : zft 114 5 = some (.aload_n 0, 1) := by decide +kernel
theorem f114_6 : zft 114 6 = some (.getfield 35, 3) := by decide +kernel
theorem f114_9 : zft 114 9 = some (.iload_n 1, 1) := by decide +kernel
theorem f114_10 : zft 114 10 = some (.iaload, 1) := by decide +kernel
theorem f114_11 : zft 114 11 = some (.if_icmp .ge 60, 3) := by decide +kernel
theorem f114_14 : zft 114 14 = some (.aload_n 0, 1) := by decide +kernel
theorem f114_15 : zft 114 15 = some (.getfield 44, 3) := by decide +kernel
theorem f114_18 : zft 114 18 = some (.bipush 7, 2) := by decide +kernel
theorem f114_20 : zft 114 20 = some (.iload_n 1, 1) := by decide +kernel
theorem f114_21 : zft 114 21 = some (.imul, 1) := by decide +kernel
theorem f114_22 : zft 114 22 = some (.iload 5, 2) := by decide +kernel
theorem f114_24 : zft 114 24 = some (.iadd, 1) := by decide +kernel
theorem f114_25 : zft 114 25 = some (.baload, 1) := by decide +kernel
theorem f114_26 : zft 114 26 = some (.ifCond .eq 39, 3) := by decide +kernel
theorem f114_29 : zft 114 29 = some (.aload_n 0, 1) := by decide +kernel
theorem f114_30 : zft 114 30 = some (.getfield 38, 3) := by decide +kernel
theorem f114_33 : zft 114 33 = some (.bipush 7, 2) := by decide +kernel
theorem f114_35 : zft 114 35 = some (.iload_n 1, 1) := by decide +kernel
theorem f114_36 : zft 114 36 = some (.imul, 1) := by decide +kernel
theorem f114_37 : zft 114 37 = some (.iload 5, 2) := by decide +kernel
theorem f114_39 : zft 114 39 = some (.iadd, 1) := by decide +kernel
theorem f114_40 : zft 114 40 = some (.iaload, 1) := by decide +kernel
theorem f114_41 : zft 114 41 = some (.iload_n 2, 1) := by decide +kernel
theorem f114_42 : zft 114 42 = some (.if_icmp .ne 23, 3) := by decide +kernel
theorem f114_45 : zft 114 45 = some (.aload_n 0, 1) := by decide +kernel
theorem f114_46 : zft 114 46 = some (.getfield 32, 3) := by decide +kernel
theorem f114_49 : zft 114 49 = some (.iload_n 1, 1) := by decide +kernel
theorem f114_50 : zft 114 50 = some (.iaload, 1) := by decide +kernel
theorem f114_51 : zft 114 51 = some (.iload 5, 2) := by decide +kernel
theorem f114_53 : zft 114 53 = some (.iadd, 1) := by decide +kernel
theorem f114_54 : zft 114 54 = some (.iload_n 3, 1) := by decide +kernel
theorem f114_55 : zft 114 55 = some (.iload 4, 2) := by decide +kernel
theorem f114_57 : zft 114 57 = some (.invokestatic 90, 3) := by decide +kernel
theorem f114_60 : zft 114 60 = some (.ifCond .eq 5, 3) := by decide +kernel
theorem f114_63 : zft 114 63 = some (.iconst 1, 1) := by decide +kernel
theorem f114_64 : zft 114 64 = some (.ireturn, 1) := by decide +kernel
theorem f114_65 : zft 114 65 = some (.iinc 5 1, 3) := by decide +kernel
theorem f114_68 : zft 114 68 = some (.goto (-65), 3) := by decide +kernel
theorem f114_71 : zft 114 71 = some (.iconst 0, 1) := by decide +kernel
theorem f114_72 : zft 114 72 = some (.ireturn, 1) := by decide +kernel
theorem o114 : zo 114 = 7 := by decide +kernel
theorem p114 : zp 114 = 4 := by decide +kernel
theorem n114 : zn 114 = 6 := by decide +kernel
theorem v114 : zr 114 = (some .boolean) := by decide +kernel
theorem f115_0 : zft 115 0 = some (.aload_n 0, 1) := by decide +kernel
theorem f115_1 : zft 115 1 = some (.getfield 122, 3) := by decide +kernel
theorem f115_4 : zft 115 4 = some (.aload_n 0, 1) := by decide +kernel
theorem f115_5 : zft 115 5 = some (.getfield 32, 3) := by decide +kernel
theorem f115_8 : zft 115 8 = some (.iload_n 1, 1) := by decide +kernel
theorem f115_9 : zft 115 9 = some (.iaload, 1) := by decide +kernel
theorem f115_10 : zft 115 10 = some (.if_icmp .ge 7, 3) := by decide +kernel
theorem f115_13 : zft 115 13 = some (.iconst 0, 1) := by decide +kernel
theorem f115_14 : zft 115 14 = some (.goto 14, 3) := by decide +kernel
theorem f115_17 : zft 115 17 = some (.aload_n 0, 1) := by decide +kernel
theorem f115_18 : zft 115 18 = some (.getfield 122, 3) := by decide +kernel
theorem f115_21 : zft 115 21 = some (.aload_n 0, 1) := by decide +kernel
theorem f115_22 : zft 115 22 = some (.getfield 32, 3) := by decide +kernel
theorem f115_25 : zft 115 25 = some (.iload_n 1, 1) := by decide +kernel
theorem f115_26 : zft 115 26 = some (.iaload, 1) := by decide +kernel
theorem f115_27 : zft 115 27 = some (.isub, 1) := by decide +kernel
theorem f115_28 : zft 115 28 = some (.istore_n 2, 1) := by decide +kernel
theorem f115_29 : zft 115 29 = some (.aload_n 0, 1) := by decide +kernel
theorem f115_30 : zft 115 30 = some (.getfield 122, 3) := by decide +kernel
theorem f115_33 : zft 115 33 = some (.aload_n 0, 1) := by decide +kernel
theorem f115_34 : zft 115 34 = some (.getfield 32, 3) := by decide +kernel
theorem f115_37 : zft 115 37 = some (.iload_n 1, 1) := by decide +kernel
theorem f115_38 : zft 115 38 = some (.iaload, 1) := by decide +kernel
theorem f115_39 : zft 115 39 = some (.if_icmp .ge 7, 3) := by decide +kernel
theorem f115_42 : zft 115 42 = some (.iconst 1, 1) := by decide +kernel
theorem f115_43 : zft 115 43 = some (.goto 4, 3) := by decide +kernel
theorem f115_46 : zft 115 46 = some (.iconst 0, 1) := by decide +kernel
theorem f115_47 : zft 115 47 = some (.istore_n 3, 1) := by decide +kernel
theorem f115_48 : zft 115 48 = some (.iload_n 3, 1) := by decide +kernel
theorem f115_49 : zft 115 49 = some (.ifCond .eq 7, 3) := by decide +kernel
theorem f115_52 : zft 115 52 = some (.iconst 0, 1) := by decide +kernel
theorem f115_53 : zft 115 53 = some (.goto 6, 3) := by decide +kernel
theorem f115_56 : zft 115 56 = some (.iload_n 2, 1) := by decide +kernel
theorem f115_57 : zft 115 57 = some (.iconst 1, 1) := by decide +kernel
theorem f115_58 : zft 115 58 = some (.iadd, 1) := by decide +kernel
theorem f115_59 : zft 115 59 = some (.istore 4, 2) := by decide +kernel
theorem f115_61 : zft 115 61 = some (.iload 4, 2) := by decide +kernel
theorem f115_63 : zft 115 63 = some (.aload_n 0, 1) := by decide +kernel
theorem f115_64 : zft 115 64 = some (.getfield 35, 3) := by decide +kernel
theorem f115_67 : zft 115 67 = some (.iload_n 1, 1) := by decide +kernel
theorem f115_68 : zft 115 68 = some (.iaload, 1) := by decide +kernel
theorem f115_69 : zft 115 69 = some (.if_icmp .ge 16, 3) := by decide +kernel
theorem f115_72 : zft 115 72 = some (.aload_n 0, 1) := by decide +kernel
theorem f115_73 : zft 115 73 = some (.iload_n 1, 1) := by decide +kernel
theorem f115_74 : zft 115 74 = some (.iload 4, 2) := by decide +kernel
theorem f115_76 : zft 115 76 = some (.invokevirtual 157, 3) := by decide +kernel
theorem f115_79 : zft 115 79 = some (.iinc 4 1, 3) := by decide +kernel
theorem f115_82 : zft 115 82 = some (.goto (-21), 3) := by decide +kernel
theorem f115_85 : zft 115 85 = some (.aload_n 0, 1) := by decide +kernel
theorem f115_86 : zft 115 86 = some (.iload_n 1, 1) := by decide +kernel
theorem f115_87 : zft 115 87 = some (.iload_n 2, 1) := by decide +kernel
theorem f115_88 : zft 115 88 = some (.iload_n 3, 1) := by decide +kernel
theorem f115_89 : zft 115 89 = some (.invokevirtual 150, 3) := by decide +kernel
theorem f115_92 : zft 115 92 = some (.iconst (-1), 1) := by decide +kernel
theorem f115_93 : zft 115 93 = some (.if_icmp .eq 7, 3) := by decide +kernel
theorem f115_96 : zft 115 96 = some (.iconst 1, 1) := by decide +kernel
theorem f115_97 : zft 115 97 = some (.goto 4, 3) := by decide +kernel
theorem f115_100 : zft 115 100 = some (.iconst 0, 1) := by decide +kernel
theorem f115_101 : zft 115 101 = some (.istore 4, 2) := by decide +kernel
theorem f115_103 : zft 115 103 = some (.iload 4, 2) := by decide +kernel
theorem f115_105 : zft 115 105 = some (.ifCond .ne 47, 3) := by decide +kernel
theorem f115_108 : zft 115 108 = some (.aload_n 0, 1) := by decide +kernel
theorem f115_109 : zft 115 109 = some (.getfield 41, 3) := by decide +kernel
theorem f115_112 : zft 115 112 = some (.iload_n 1, 1) := by decide +kernel
theorem f115_113 : zft 115 113 = some (.iload_n 3, 1) := by decide +kernel
theorem f115_114 : zft 115 114 = some (.ifCond .eq 7, 3) := by decide +kernel
theorem f115_117 : zft 115 117 = some (.iconst 2, 1) := by decide +kernel
theorem f115_118 : zft 115 118 = some (.goto 9, 3) := by decide +kernel
theorem f115_121 : zft 115 121 = some (.aload_n 0, 1) := by decide +kernel
theorem f115_122 : zft 115 122 = some (.getfield 41, 3) := by decide +kernel
theorem f115_125 : zft 115 125 = some (.iload_n 1, 1) := by decide +kernel
theorem f115_126 : zft 115 126 = some (.iaload, 1) := by decide +kernel
theorem f115_127 : zft 115 127 = some (.iastore, 1) := by decide +kernel
theorem f115_128 : zft 115 128 = some (.aload_n 0, 1) := by decide +kernel
theorem f115_129 : zft 115 129 = some (.getfield 35, 3) := by decide +kernel
theorem f115_132 : zft 115 132 = some (.iload_n 1, 1) := by decide +kernel
theorem f115_133 : zft 115 133 = some (.iload_n 3, 1) := by decide +kernel
theorem f115_134 : zft 115 134 = some (.ifCond .eq 12, 3) := by decide +kernel
theorem f115_137 : zft 115 137 = some (.aload_n 0, 1) := by decide +kernel
theorem f115_138 : zft 115 138 = some (.getfield 35, 3) := by decide +kernel
theorem f115_141 : zft 115 141 = some (.iload_n 1, 1) := by decide +kernel
theorem f115_142 : zft 115 142 = some (.iaload, 1) := by decide +kernel
theorem f115_143 : zft 115 143 = some (.goto 6, 3) := by decide +kernel
theorem f115_146 : zft 115 146 = some (.iload_n 2, 1) := by decide +kernel
theorem f115_147 : zft 115 147 = some (.iconst 1, 1) := by decide +kernel
theorem f115_148 : zft 115 148 = some (.iadd, 1) := by decide +kernel
theorem f115_149 : zft 115 149 = some (.iastore, 1) := by decide +kernel
theorem f115_150 : zft 115 150 = some (.iconst 0, 1) := by decide +kernel
theorem f115_151 : zft 115 151 = some (.ireturn, 1) := by decide +kernel
theorem f115_152 : zft 115 152 = some (.iload_n 3, 1) := by decide +kernel
theorem f115_153 : zft 115 153 = some (.ifCond .eq 7, 3) := by decide +kernel
theorem f115_156 : zft 115 156 = some (.iconst 0, 1) := by decide +kernel
theorem f115_157 : zft 115 157 = some (.goto 6, 3) := by decide +kernel
theorem f115_160 : zft 115 160 = some (.iload_n 2, 1) := by decide +kernel
theorem f115_161 : zft 115 161 = some (.iconst 1, 1) := by decide +kernel
theorem f115_162 : zft 115 162 = some (.iadd, 1) := by decide +kernel
theorem f115_163 : zft 115 163 = some (.istore 5, 2) := by decide +kernel
theorem f115_165 : zft 115 165 = some (.iload 5, 2) := by decide +kernel
theorem f115_167 : zft 115 167 = some (.aload_n 0, 1) := by decide +kernel
theorem f115_168 : zft 115 168 = some (.getfield 35, 3) := by decide +kernel
theorem f115_171 : zft 115 171 = some (.iload_n 1, 1) := by decide +kernel
theorem f115_172 : zft 115 172 = some (.iaload, 1) := by decide +kernel
theorem f115_173 : zft 115 173 = some (.if_icmp .ge 35, 3) := by decide +kernel
theorem f115_176 : zft 115 176 = some (.aload_n 0, 1) := by decide +kernel
theorem f115_177 : zft 115 177 = some (.getfield 38, 3) := by decide +kernel
theorem f115_180 : zft 115 180 = some (.bipush 7, 2) := by decide +kernel
theorem f115_182 : zft 115 182 = some (.iload_n 1, 1) := by decide +kernel
theorem f115_183 : zft 115 183 = some (.imul, 1) := by decide +kernel
theorem f115_184 : zft 115 184 = some (.iload 5, 2) := by decide +kernel
theorem f115_186 : zft 115 186 = some (.iadd, 1) := by decide +kernel
theorem f115_187 : zft 115 187 = some (.aload_n 0, 1) := by decide +kernel
theorem f115_188 : zft 115 188 = some (.getfield 65, 3) := by decide +kernel
theorem f115_191 : zft 115 191 = some (.iload 5, 2) := by decide +kernel
theorem f115_193 : zft 115 193 = some (.iaload, 1) := by decide +kernel
theorem f115_194 : zft 115 194 = some (.iastore, 1) := by decide +kernel
theorem f115_195 : zft 115 195 = some (.aload_n 0, 1) := by decide +kernel
theorem f115_196 : zft 115 196 = some (.iload_n 1, 1) := by decide +kernel
theorem f115_197 : zft 115 197 = some (.iload 5, 2) := by decide +kernel
theorem f115_199 : zft 115 199 = some (.invokevirtual 135, 3) := by decide +kernel
theorem f115_202 : zft 115 202 = some (.iinc 5 1, 3) := by decide +kernel
theorem f115_205 : zft 115 205 = some (.goto (-40), 3) := by decide +kernel
theorem f115_208 : zft 115 208 = some (.iconst 1, 1) := by decide +kernel
theorem f115_209 : zft 115 209 = some (.ireturn, 1) := by decide +kernel
theorem o115 : zo 115 = 7 := by decide +kernel
theorem p115 : zp 115 = 1 := by decide +kernel
theorem n115 : zn 115 = 6 := by decide +kernel
theorem v115 : zr 115 = (some .boolean) := by decide +kernel
theorem f116_0 : zft 116 0 = some (.aload_n 0, 1) := by decide +kernel
theorem f116_1 : zft 116 1 = some (.iload_n 1, 1) := by decide +kernel
theorem f116_2 : zft 116 2 = some (.invokevirtual 97, 3) := by decide +kernel
theorem f116_5 : zft 116 5 = some (.ifCond .eq 22, 3) := by decide +kernel
theorem f116_8 : zft 116 8 = some (.iload_n 2, 1) := by decide +kernel
theorem f116_9 : zft 116 9 = some (.aload_n 0, 1) := by decide +kernel
theorem f116_10 : zft 116 10 = some (.getfield 122, 3) := by decide +kernel
theorem f116_13 : zft 116 13 = some (.if_icmp .le 14, 3) := by decide +kernel
theorem f116_16 : zft 116 16 = some (.iload_n 2, 1) := by decide +kernel
theorem f116_17 : zft 116 17 = some (.iload_n 3, 1) := by decide +kernel
theorem f116_18 : zft 116 18 = some (.if_icmp .gt 9, 3) := by decide +kernel
theorem f116_21 : zft 116 21 = some (.iload_n 3, 1) := by decide +kernel
theorem f116_22 : zft 116 22 = some (.bipush 39, 2) := by decide +kernel
theorem f116_24 : zft 116 24 = some (.if_icmp .le 6, 3) := by decide +kernel
theorem f116_27 : zft 116 27 = some (.bipush (-2), 2) := by decide +kernel
theorem f116_29 : zft 116 29 = some (.ireturn, 1) := by decide +kernel
theorem f116_30 : zft 116 30 = some (.iload_n 2, 1) := by decide +kernel
theorem f116_31 : zft 116 31 = some (.istore 4, 2) := by decide +kernel
theorem f116_33 : zft 116 33 = some (.iload 4, 2) := by decide +kernel
theorem f116_35 : zft 116 35 = some (.iload_n 3, 1) := by decide +kernel
theorem f116_36 : zft 116 36 = some (.if_icmp .gt 22, 3) := by decide +kernel
theorem f116_39 : zft 116 39 = some (.aload_n 0, 1) := by decide +kernel
theorem f116_40 : zft 116 40 = some (.getfield 19, 3) := by decide +kernel
theorem f116_43 : zft 116 43 = some (.bipush 40, 2) := by decide +kernel
theorem f116_45 : zft 116 45 = some (.iload_n 1, 1) := by decide +kernel
theorem f116_46 : zft 116 46 = some (.imul, 1) := by decide +kernel
theorem f116_47 : zft 116 47 = some (.iload 4, 2) := by decide +kernel
theorem f116_49 : zft 116 49 = some (.iadd, 1) := by decide +kernel
theorem f116_50 : zft 116 50 = some (.iconst 1, 1) := by decide +kernel
theorem f116_51 : zft 116 51 = some (.bastore, 1) := by decide +kernel
theorem f116_52 : zft 116 52 = some (.iinc 4 1, 3) := by decide +kernel
theorem f116_55 : zft 116 55 = some (.goto (-22), 3) := by decide +kernel
theorem f116_58 : zft 116 58 = some (.iconst 0, 1) := by decide +kernel
theorem f116_59 : zft 116 59 = some (.istore 4, 2) := by decide +kernel
theorem f116_61 : zft 116 61 = some (.iconst 0, 1) := by decide +kernel
theorem f116_62 : zft 116 62 = some (.istore 5, 2) := by decide +kernel
theorem f116_64 : zft 116 64 = some (.iload 5, 2) := by decide +kernel
theorem f116_66 : zft 116 66 = some (.aload_n 0, 1) := by decide +kernel
theorem f116_67 : zft 116 67 = some (.getfield 94, 3) := by decide +kernel
theorem f116_70 : zft 116 70 = some (.if_icmp .ge 51, 3) := by decide +kernel
theorem f116_73 : zft 116 73 = some (.aload_n 0, 1) := by decide +kernel
theorem f116_74 : zft 116 74 = some (.getfield 41, 3) := by decide +kernel
theorem f116_77 : zft 116 77 = some (.iload 5, 2) := by decide +kernel
theorem f116_79 : zft 116 79 = some (.iaload, 1) := by decide +kernel
theorem f116_80 : zft 116 80 = some (.iconst 1, 1) := by decide +kernel
theorem f116_81 : zft 116 81 = some (.if_icmp .ne 34, 3) := by decide +kernel
theorem f116_84 : zft 116 84 = some (.aload_n 0, 1) := by decide +kernel
theorem f116_85 : zft 116 85 = some (.iload 5, 2) := by decide +kernel
theorem f116_87 : zft 116 87 = some (.iload_n 1, 1) := by decide +kernel
theorem f116_88 : zft 116 88 = some (.iload_n 2, 1) := by decide +kernel
theorem f116_89 : zft 116 89 = some (.iload_n 3, 1) := by decide +kernel
theorem f116_90 : zft 116 90 = some (.invokevirtual 160, 3) := by decide +kernel
theorem f116_93 : zft 116 93 = some (.ifCond .eq 22, 3) := by decide +kernel
theorem f116_96 : zft 116 96 = some (.iload 4, 2) := by decide +kernel
theorem f116_98 : zft 116 98 = some (.aload_n 0, 1) := by decide +kernel
theorem f116_99 : zft 116 99 = some (.iload 5, 2) := by decide +kernel
theorem f116_101 : zft 116 101 = some (.invokevirtual 164, 3) := by decide +kernel
theorem f116_104 : zft 116 104 = some (.ifCond .eq 7, 3) := by decide +kernel
theorem f116_107 : zft 116 107 = some (.iconst 0, 1) := by decide +kernel
theorem f116_108 : zft 116 108 = some (.goto 4, 3) := by decide +kernel
theorem f116_111 : zft 116 111 = some (.iconst 1, 1) := by decide +kernel
theorem f116_112 : zft 116 112 = some (.iadd, 1) := by decide +kernel
theorem f116_113 : zft 116 113 = some (.istore 4, 2) := by decide +kernel
theorem f116_115 : zft 116 115 = some (.iinc 5 1, 3) := by decide +kernel
theorem f116_118 : zft 116 118 = some (.goto (-54), 3) := by decide +kernel
theorem f116_121 : zft 116 121 = some (.iload 4, 2) := by decide +kernel
theorem f116_123 : zft 116 123 = some (.ireturn, 1) := by decide +kernel
theorem o116 : zo 116 = 7 := by decide +kernel
theorem p116 : zp 116 = 3 := by decide +kernel
theorem n116 : zn 116 = 6 := by decide +kernel
theorem v116 : zr 116 = (some .int) := by decide +kernel
theorem f117_0 : zft 117 0 = some (.iconst 0, 1) := by decide +kernel
theorem f117_1 : zft 117 1 = some (.istore_n 2, 1) := by decide +kernel
theorem f117_2 : zft 117 2 = some (.iconst 1, 1) := by decide +kernel
theorem f117_3 : zft 117 3 = some (.istore_n 3, 1) := by decide +kernel
theorem f117_4 : zft 117 4 = some (.iload_n 3, 1) := by decide +kernel
theorem f117_5 : zft 117 5 = some (.aload_n 0, 1) := by decide +kernel
theorem f117_6 : zft 117 6 = some (.getfield 35, 3) := by decide +kernel
theorem f117_9 : zft 117 9 = some (.iload_n 1, 1) := by decide +kernel
theorem f117_10 : zft 117 10 = some (.iaload, 1) := by decide +kernel
theorem f117_11 : zft 117 11 = some (.if_icmp .ge 90, 3) := by decide +kernel
theorem f117_14 : zft 117 14 = some (.bipush 7, 2) := by decide +kernel
theorem f117_16 : zft 117 16 = some (.iload_n 1, 1) := by decide +kernel
theorem f117_17 : zft 117 17 = some (.imul, 1) := by decide +kernel
theorem f117_18 : zft 117 18 = some (.iload_n 3, 1) := by decide +kernel
theorem f117_19 : zft 117 19 = some (.iadd, 1) := by decide +kernel
theorem f117_20 : zft 117 20 = some (.istore 4, 2) := by decide +kernel
theorem f117_22 : zft 117 22 = some (.iload_n 2, 1) := by decide +kernel
theorem f117_23 : zft 117 23 = some (.aload_n 0, 1) := by decide +kernel
theorem f117_24 : zft 117 24 = some (.getfield 50, 3) := by decide +kernel
theorem f117_27 : zft 117 27 = some (.iload 4, 2) := by decide +kernel
theorem f117_29 : zft 117 29 = some (.iconst 1, 1) := by decide +kernel
theorem f117_30 : zft 117 30 = some (.isub, 1) := by decide +kernel
theorem f117_31 : zft 117 31 = some (.baload, 1) := by decide +kernel
theorem f117_32 : zft 117 32 = some (.ifCond .eq 60, 3) := by decide +kernel
theorem f117_35 : zft 117 35 = some (.aload_n 0, 1) := by decide +kernel
theorem f117_36 : zft 117 36 = some (.getfield 50, 3) := by decide +kernel
theorem f117_39 : zft 117 39 = some (.iload 4, 2) := by decide +kernel
theorem f117_41 : zft 117 41 = some (.baload, 1) := by decide +kernel
theorem f117_42 : zft 117 42 = some (.ifCond .eq 50, 3) := by decide +kernel
theorem f117_45 : zft 117 45 = some (.aload_n 0, 1) := by decide +kernel
theorem f117_46 : zft 117 46 = some (.getfield 38, 3) := by decide +kernel
theorem f117_49 : zft 117 49 = some (.iload 4, 2) := by decide +kernel
theorem f117_51 : zft 117 51 = some (.iconst 1, 1) := by decide +kernel
theorem f117_52 : zft 117 52 = some (.isub, 1) := by decide +kernel
theorem f117_53 : zft 117 53 = some (.iaload, 1) := by decide +kernel
theorem f117_54 : zft 117 54 = some (.aload_n 0, 1) := by decide +kernel
theorem f117_55 : zft 117 55 = some (.getfield 38, 3) := by decide +kernel
theorem f117_58 : zft 117 58 = some (.iload 4, 2) := by decide +kernel
theorem f117_60 : zft 117 60 = some (.iaload, 1) := by decide +kernel
theorem f117_61 : zft 117 61 = some (.if_icmp .eq 31, 3) := by decide +kernel
theorem f117_64 : zft 117 64 = some (.aload_n 0, 1) := by decide +kernel
theorem f117_65 : zft 117 65 = some (.getfield 26, 3) := by decide +kernel
theorem f117_68 : zft 117 68 = some (.bipush 12, 2) := by decide +kernel
theorem f117_70 : zft 117 70 = some (.aload_n 0, 1) := by decide +kernel
theorem f117_71 : zft 117 71 = some (.getfield 38, 3) := by decide +kernel
theorem f117_74 : zft 117 74 = some (.iload 4, 2) := by decide +kernel
theorem f117_76 : zft 117 76 = some (.iconst 1, 1) := by decide +kernel
theorem f117_77 : zft 117 77 = some (.isub, 1) := by decide +kernel
theorem f117_78 : zft 117 78 = some (.iaload, 1) := by decide +kernel
theorem f117_79 : zft 117 79 = some (.imul, 1) := by decide +kernel
theorem f117_80 : zft 117 80 = some (.aload_n 0, 1) := by decide +kernel
theorem f117_81 : zft 117 81 = some (.getfield 38, 3) := by decide +kernel
theorem f117_84 : zft 117 84 = some (.iload 4, 2) := by decide +kernel
theorem f117_86 : zft 117 86 = some (.iaload, 1) := by decide +kernel
theorem f117_87 : zft 117 87 = some (.iadd, 1) := by decide +kernel
theorem f117_88 : zft 117 88 = some (.iaload, 1) := by decide +kernel
theorem f117_89 : zft 117 89 = some (.goto 4, 3) := by decide +kernel
theorem f117_92 : zft 117 92 = some (.iconst 0, 1) := by decide +kernel
theorem f117_93 : zft 117 93 = some (.iadd, 1) := by decide +kernel
theorem f117_94 : zft 117 94 = some (.istore_n 2, 1) := by decide +kernel
theorem f117_95 : zft 117 95 = some (.iinc 3 1, 3) := by decide +kernel
theorem f117_98 : zft 117 98 = some (.goto (-94), 3) := by decide +kernel
theorem f117_101 : zft 117 101 = some (.iload_n 2, 1) := by decide +kernel
theorem f117_102 : zft 117 102 = some (.ireturn, 1) := by decide +kernel
theorem o117 : zo 117 = 7 := by decide +kernel
theorem p117 : zp 117 = 1 := by decide +kernel
theorem n117 : zn 117 = 5 := by decide +kernel
theorem v117 : zr 117 = (some .int) := by decide +kernel
theorem f118_0 : zft 118 0 = some (.iconst 0, 1) := by decide +kernel
theorem f118_1 : zft 118 1 = some (.istore_n 2, 1) := by decide +kernel
theorem f118_2 : zft 118 2 = some (.iconst 0, 1) := by decide +kernel
theorem f118_3 : zft 118 3 = some (.istore_n 3, 1) := by decide +kernel
theorem f118_4 : zft 118 4 = some (.iload_n 3, 1) := by decide +kernel
theorem f118_5 : zft 118 5 = some (.aload_n 0, 1) := by decide +kernel
theorem f118_6 : zft 118 6 = some (.getfield 35, 3) := by decide +kernel
theorem f118_9 : zft 118 9 = some (.iload_n 1, 1) := by decide +kernel
theorem f118_10 : zft 118 10 = some (.iaload, 1) := by decide +kernel
theorem f118_11 : zft 118 11 = some (.if_icmp .ge 31, 3) := by decide +kernel
theorem f118_14 : zft 118 14 = some (.iload_n 2, 1) := by decide +kernel
theorem f118_15 : zft 118 15 = some (.aload_n 0, 1) := by decide +kernel
theorem f118_16 : zft 118 16 = some (.getfield 50, 3) := by decide +kernel
theorem f118_19 : zft 118 19 = some (.bipush 7, 2) := by decide +kernel
theorem f118_21 : zft 118 21 = some (.iload_n 1, 1) := by decide +kernel
theorem f118_22 : zft 118 22 = some (.imul, 1) := by decide +kernel
theorem f118_23 : zft 118 23 = some (.iload_n 3, 1) := by decide +kernel
theorem f118_24 : zft 118 24 = some (.iadd, 1) := by decide +kernel
theorem f118_25 : zft 118 25 = some (.baload, 1) := by decide +kernel
theorem f118_26 : zft 118 26 = some (.ifCond .eq 7, 3) := by decide +kernel
theorem f118_29 : zft 118 29 = some (.iconst 1, 1) := by decide +kernel
theorem f118_30 : zft 118 30 = some (.goto 4, 3) := by decide +kernel
theorem f118_33 : zft 118 33 = some (.iconst 0, 1) := by decide +kernel
theorem f118_34 : zft 118 34 = some (.iadd, 1) := by decide +kernel
theorem f118_35 : zft 118 35 = some (.istore_n 2, 1) := by decide +kernel
theorem f118_36 : zft 118 36 = some (.iinc 3 1, 3) := by decide +kernel
theorem f118_39 : zft 118 39 = some (.goto (-35), 3) := by decide +kernel
theorem f118_42 : zft 118 42 = some (.iload_n 2, 1) := by decide +kernel
theorem f118_43 : zft 118 43 = some (.ireturn, 1) := by decide +kernel
theorem o118 : zo 118 = 7 := by decide +kernel
theorem p118 : zp 118 = 1 := by decide +kernel
theorem n118 : zn 118 = 4 := by decide +kernel
theorem v118 : zr 118 = (some .int) := by decide +kernel
theorem f119_0 : zft 119 0 = some (.aload_n 0, 1) := by decide +kernel
theorem f119_1 : zft 119 1 = some (.iload_n 1, 1) := by decide +kernel
theorem f119_2 : zft 119 2 = some (.invokevirtual 125, 3) := by decide +kernel
theorem f119_5 : zft 119 5 = some (.ifCond .ne 6, 3) := by decide +kernel
theorem f119_8 : zft 119 8 = some (.bipush (-2), 2) := by decide +kernel
theorem f119_10 : zft 119 10 = some (.ireturn, 1) := by decide +kernel
theorem f119_11 : zft 119 11 = some (.iload_n 2, 1) := by decide +kernel
theorem f119_12 : zft 119 12 = some (.tableswitch 91 0 6 #[44, 51, 58, 65, 72, 78, 85], 44) := by decide +kernel
theorem f119_56 : zft 119 56 = some (.aload_n 0, 1) := by decide +kernel
theorem f119_57 : zft 119 57 = some (.getfield 29, 3) := by decide +kernel
theorem f119_60 : zft 119 60 = some (.iload_n 1, 1) := by decide +kernel
theorem f119_61 : zft 119 61 = some (.iaload, 1) := by decide +kernel
theorem f119_62 : zft 119 62 = some (.ireturn, 1) := by decide +kernel
theorem f119_63 : zft 119 63 = some (.aload_n 0, 1) := by decide +kernel
theorem f119_64 : zft 119 64 = some (.getfield 32, 3) := by decide +kernel
theorem f119_67 : zft 119 67 = some (.iload_n 1, 1) := by decide +kernel
theorem f119_68 : zft 119 68 = some (.iaload, 1) := by decide +kernel
theorem f119_69 : zft 119 69 = some (.ireturn, 1) := by decide +kernel
theorem f119_70 : zft 119 70 = some (.aload_n 0, 1) := by decide +kernel
theorem f119_71 : zft 119 71 = some (.getfield 35, 3) := by decide +kernel
theorem f119_74 : zft 119 74 = some (.iload_n 1, 1) := by decide +kernel
theorem f119_75 : zft 119 75 = some (.iaload, 1) := by decide +kernel
theorem f119_76 : zft 119 76 = some (.ireturn, 1) := by decide +kernel
theorem f119_77 : zft 119 77 = some (.aload_n 0, 1) := by decide +kernel
theorem f119_78 : zft 119 78 = some (.getfield 41, 3) := by decide +kernel
theorem f119_81 : zft 119 81 = some (.iload_n 1, 1) := by decide +kernel
theorem f119_82 : zft 119 82 = some (.iaload, 1) := by decide +kernel
theorem f119_83 : zft 119 83 = some (.ireturn, 1) := by decide +kernel
theorem f119_84 : zft 119 84 = some (.aload_n 0, 1) := by decide +kernel
theorem f119_85 : zft 119 85 = some (.iload_n 1, 1) := by decide +kernel
theorem f119_86 : zft 119 86 = some (.invokevirtual 167, 3) := by decide +kernel
theorem f119_89 : zft 119 89 = some (.ireturn, 1) := by decide +kernel
theorem f119_90 : zft 119 90 = some (.aload_n 0, 1) := by decide +kernel
theorem f119_91 : zft 119 91 = some (.getfield 53, 3) := by decide +kernel
theorem f119_94 : zft 119 94 = some (.iload_n 1, 1) := by decide +kernel
theorem f119_95 : zft 119 95 = some (.iaload, 1) := by decide +kernel
theorem f119_96 : zft 119 96 = some (.ireturn, 1) := by decide +kernel
theorem f119_97 : zft 119 97 = some (.aload_n 0, 1) := by decide +kernel
theorem f119_98 : zft 119 98 = some (.iload_n 1, 1) := by decide +kernel
theorem f119_99 : zft 119 99 = some (.invokevirtual 170, 3) := by decide +kernel
theorem f119_102 : zft 119 102 = some (.ireturn, 1) := by decide +kernel
theorem f119_103 : zft 119 103 = some (.iload_n 2, 1) := by decide +kernel
theorem f119_104 : zft 119 104 = some (.bipush 10, 2) := by decide +kernel
theorem f119_106 : zft 119 106 = some (.bipush 9, 2) := by decide +kernel
theorem f119_108 : zft 119 108 = some (.aload_n 0, 1) := by decide +kernel
theorem f119_109 : zft 119 109 = some (.getfield 35, 3) := by decide +kernel
theorem f119_112 : zft 119 112 = some (.iload_n 1, 1) := by decide +kernel
theorem f119_113 : zft 119 113 = some (.iaload, 1) := by decide +kernel
theorem f119_114 : zft 119 114 = some (.iadd, 1) := by decide +kernel
theorem f119_115 : zft 119 115 = some (.invokestatic 90, 3) := by decide +kernel
theorem f119_118 : zft 119 118 = some (.ifCond .eq 18, 3) := by decide +kernel
theorem f119_121 : zft 119 121 = some (.aload_n 0, 1) := by decide +kernel
theorem f119_122 : zft 119 122 = some (.getfield 38, 3) := by decide +kernel
theorem f119_125 : zft 119 125 = some (.bipush 7, 2) := by decide +kernel
theorem f119_127 : zft 119 127 = some (.iload_n 1, 1) := by decide +kernel
theorem f119_128 : zft 119 128 = some (.imul, 1) := by decide +kernel
theorem f119_129 : zft 119 129 = some (.iload_n 2, 1) := by decide +kernel
theorem f119_130 : zft 119 130 = some (.iadd, 1) := by decide +kernel
theorem f119_131 : zft 119 131 = some (.bipush 10, 2) := by decide +kernel
theorem f119_133 : zft 119 133 = some (.isub, 1) := by decide +kernel
theorem f119_134 : zft 119 134 = some (.iaload, 1) := by decide +kernel
theorem f119_135 : zft 119 135 = some (.ireturn, 1) := by decide +kernel
theorem f119_136 : zft 119 136 = some (.iload_n 2, 1) := by decide +kernel
theorem f119_137 : zft 119 137 = some (.bipush 20, 2) := by decide +kernel
theorem f119_139 : zft 119 139 = some (.bipush 19, 2) := by decide +kernel
theorem f119_141 : zft 119 141 = some (.aload_n 0, 1) := by decide +kernel
theorem f119_142 : zft 119 142 = some (.getfield 35, 3) := by decide +kernel
theorem f119_145 : zft 119 145 = some (.iload_n 1, 1) := by decide +kernel
theorem f119_146 : zft 119 146 = some (.iaload, 1) := by decide +kernel
theorem f119_147 : zft 119 147 = some (.iadd, 1) := by decide +kernel
theorem f119_148 : zft 119 148 = some (.invokestatic 90, 3) := by decide +kernel
theorem f119_151 : zft 119 151 = some (.ifCond .eq 28, 3) := by decide +kernel
theorem f119_154 : zft 119 154 = some (.aload_n 0, 1) := by decide +kernel
theorem f119_155 : zft 119 155 = some (.getfield 44, 3) := by decide +kernel
theorem f119_158 : zft 119 158 = some (.bipush 7, 2) := by decide +kernel
theorem f119_160 : zft 119 160 = some (.iload_n 1, 1) := by decide +kernel
theorem f119_161 : zft 119 161 = some (.imul, 1) := by decide +kernel
theorem f119_162 : zft 119 162 = some (.iload_n 2, 1) := by decide +kernel
theorem f119_163 : zft 119 163 = some (.iadd, 1) := by decide +kernel
theorem f119_164 : zft 119 164 = some (.bipush 20, 2) := by decide +kernel
theorem f119_166 : zft 119 166 = some (.isub, 1) := by decide +kernel
theorem f119_167 : zft 119 167 = some (.baload, 1) := by decide +kernel
theorem f119_168 : zft 119 168 = some (.ifCond .eq 7, 3) := by decide +kernel
theorem f119_171 : zft 119 171 = some (.iconst 1, 1) := by decide +kernel
theorem f119_172 : zft 119 172 = some (.goto 9, 3) := by decide +kernel
theorem f119_175 : zft 119 175 = some (.iconst 0, 1) := by decide +kernel
theorem f119_176 : zft 119 176 = some (.goto 5, 3) := by decide +kernel
theorem f119_179 : zft 119 179 = some (.bipush (-2), 2) := by decide +kernel
theorem f119_181 : zft 119 181 = some (.ireturn, 1) := by decide +kernel
theorem o119 : zo 119 = 7 := by decide +kernel
theorem p119 : zp 119 = 2 := by decide +kernel
theorem n119 : zn 119 = 3 := by decide +kernel
theorem v119 : zr 119 = (some .int) := by decide +kernel
end
section
theorem f120_0 : zft 120 0 = some (.aload_n 0, 1) := by decide +kernel
theorem f120_1 : zft 120 1 = some (.iload_n 1, 1) := by decide +kernel
theorem f120_2 : zft 120 2 = some (.invokevirtual 125, 3) := by decide +kernel
theorem f120_5 : zft 120 5 = some (.ifCond .eq 28, 3) := by decide +kernel
theorem f120_8 : zft 120 8 = some (.iload_n 2, 1) := by decide +kernel
theorem f120_9 : zft 120 9 = some (.iconst 0, 1) := by decide +kernel
theorem f120_10 : zft 120 10 = some (.aload_n 0, 1) := by decide +kernel
theorem f120_11 : zft 120 11 = some (.getfield 35, 3) := by decide +kernel
theorem f120_14 : zft 120 14 = some (.iload_n 1, 1) := by decide +kernel
theorem f120_15 : zft 120 15 = some (.iaload, 1) := by decide +kernel
theorem f120_16 : zft 120 16 = some (.iconst 1, 1) := by decide +kernel
theorem f120_17 : zft 120 17 = some (.isub, 1) := by decide +kernel
theorem f120_18 : zft 120 18 = some (.invokestatic 90, 3) := by decide +kernel
theorem f120_21 : zft 120 21 = some (.ifCond .eq 12, 3) := by decide +kernel
theorem f120_24 : zft 120 24 = some (.iload_n 3, 1) := by decide +kernel
theorem f120_25 : zft 120 25 = some (.iconst 0, 1) := by decide +kernel
theorem f120_26 : zft 120 26 = some (.iconst 2, 1) := by decide +kernel
theorem f120_27 : zft 120 27 = some (.invokestatic 90, 3) := by decide +kernel
theorem f120_30 : zft 120 30 = some (.ifCond .ne 6, 3) := by decide +kernel
theorem f120_33 : zft 120 33 = some (.bipush (-2), 2) := by decide +kernel
theorem f120_35 : zft 120 35 = some (.ireturn, 1) := by decide +kernel
theorem f120_36 : zft 120 36 = some (.bipush 7, 2) := by decide +kernel
theorem f120_38 : zft 120 38 = some (.iload_n 1, 1) := by decide +kernel
theorem f120_39 : zft 120 39 = some (.imul, 1) := by decide +kernel
theorem f120_40 : zft 120 40 = some (.iload_n 2, 1) := by decide +kernel
theorem f120_41 : zft 120 41 = some (.iadd, 1) := by decide +kernel
theorem f120_42 : zft 120 42 = some (.istore 4, 2) := by decide +kernel
theorem f120_44 : zft 120 44 = some (.aload_n 0, 1) := by decide +kernel
theorem f120_45 : zft 120 45 = some (.getfield 44, 3) := by decide +kernel
theorem f120_48 : zft 120 48 = some (.iload 4, 2) := by decide +kernel
theorem f120_50 : zft 120 50 = some (.baload, 1) := by decide +kernel
theorem f120_51 : zft 120 51 = some (.ifCond .eq 17, 3) := by decide +kernel
theorem f120_54 : zft 120 54 = some (.aload_n 0, 1) := by decide +kernel
theorem f120_55 : zft 120 55 = some (.getfield 47, 3) := by decide +kernel
theorem f120_58 : zft 120 58 = some (.iconst 3, 1) := by decide +kernel
theorem f120_59 : zft 120 59 = some (.iload 4, 2) := by decide +kernel
theorem f120_61 : zft 120 61 = some (.imul, 1) := by decide +kernel
theorem f120_62 : zft 120 62 = some (.iload_n 3, 1) := by decide +kernel
theorem f120_63 : zft 120 63 = some (.iadd, 1) := by decide +kernel
theorem f120_64 : zft 120 64 = some (.iaload, 1) := by decide +kernel
theorem f120_65 : zft 120 65 = some (.goto 4, 3) := by decide +kernel
theorem f120_68 : zft 120 68 = some (.iconst 0, 1) := by decide +kernel
theorem f120_69 : zft 120 69 = some (.ireturn, 1) := by decide +kernel
theorem o120 : zo 120 = 7 := by decide +kernel
theorem p120 : zp 120 = 3 := by decide +kernel
theorem n120 : zn 120 = 5 := by decide +kernel
theorem v120 : zr 120 = (some .int) := by decide +kernel
theorem f121_0 : zft 121 0 = some (.aload_n 0, 1) := by decide +kernel
theorem f121_1 : zft 121 1 = some (.iload_n 1, 1) := by decide +kernel
theorem f121_2 : zft 121 2 = some (.invokevirtual 125, 3) := by decide +kernel
theorem f121_5 : zft 121 5 = some (.ifCond .eq 25, 3) := by decide +kernel
theorem f121_8 : zft 121 8 = some (.iload_n 2, 1) := by decide +kernel
theorem f121_9 : zft 121 9 = some (.iconst 0, 1) := by decide +kernel
theorem f121_10 : zft 121 10 = some (.sipush 999, 3) := by decide +kernel
theorem f121_13 : zft 121 13 = some (.invokestatic 90, 3) := by decide +kernel
theorem f121_16 : zft 121 16 = some (.ifCond .eq 14, 3) := by decide +kernel
theorem f121_19 : zft 121 19 = some (.iload_n 3, 1) := by decide +kernel
theorem f121_20 : zft 121 20 = some (.iload_n 2, 1) := by decide +kernel
theorem f121_21 : zft 121 21 = some (.sipush 999, 3) := by decide +kernel
theorem f121_24 : zft 121 24 = some (.invokestatic 90, 3) := by decide +kernel
theorem f121_27 : zft 121 27 = some (.ifCond .ne 6, 3) := by decide +kernel
theorem f121_30 : zft 121 30 = some (.bipush (-2), 2) := by decide +kernel
theorem f121_32 : zft 121 32 = some (.ireturn, 1) := by decide +kernel
theorem f121_33 : zft 121 33 = some (.aload_n 0, 1) := by decide +kernel
theorem f121_34 : zft 121 34 = some (.getfield 41, 3) := by decide +kernel
theorem f121_37 : zft 121 37 = some (.iload_n 1, 1) := by decide +kernel
theorem f121_38 : zft 121 38 = some (.iaload, 1) := by decide +kernel
theorem f121_39 : zft 121 39 = some (.ifCond .eq 6, 3) := by decide +kernel
theorem f121_42 : zft 121 42 = some (.bipush (-3), 2) := by decide +kernel
theorem f121_44 : zft 121 44 = some (.ireturn, 1) := by decide +kernel
theorem f121_45 : zft 121 45 = some (.aload_n 0, 1) := by decide +kernel
theorem f121_46 : zft 121 46 = some (.getfield 173, 3) := by decide +kernel
theorem f121_49 : zft 121 49 = some (.bipush 40, 2) := by decide +kernel
theorem f121_51 : zft 121 51 = some (.if_icmp .ne 6, 3) := by decide +kernel
theorem f121_54 : zft 121 54 = some (.bipush (-4), 2) := by decide +kernel
theorem f121_56 : zft 121 56 = some (.ireturn, 1) := by decide +kernel
theorem f121_57 : zft 121 57 = some (.aload_n 0, 1) := by decide +kernel
theorem f121_58 : zft 121 58 = some (.getfield 74, 3) := by decide +kernel
theorem f121_61 : zft 121 61 = some (.aload_n 0, 1) := by decide +kernel
theorem f121_62 : zft 121 62 = some (.getfield 173, 3) := by decide +kernel
theorem f121_65 : zft 121 65 = some (.iload_n 1, 1) := by decide +kernel
theorem f121_66 : zft 121 66 = some (.iastore, 1) := by decide +kernel
theorem f121_67 : zft 121 67 = some (.aload_n 0, 1) := by decide +kernel
theorem f121_68 : zft 121 68 = some (.getfield 77, 3) := by decide +kernel
theorem f121_71 : zft 121 71 = some (.aload_n 0, 1) := by decide +kernel
theorem f121_72 : zft 121 72 = some (.getfield 173, 3) := by decide +kernel
theorem f121_75 : zft 121 75 = some (.iload_n 2, 1) := by decide +kernel
theorem f121_76 : zft 121 76 = some (.iastore, 1) := by decide +kernel
theorem f121_77 : zft 121 77 = some (.aload_n 0, 1) := by decide +kernel
theorem f121_78 : zft 121 78 = some (.getfield 80, 3) := by decide +kernel
theorem f121_81 : zft 121 81 = some (.aload_n 0, 1) := by decide +kernel
theorem f121_82 : zft 121 82 = some (.getfield 173, 3) := by decide +kernel
theorem f121_85 : zft 121 85 = some (.iload_n 3, 1) := by decide +kernel
theorem f121_86 : zft 121 86 = some (.iastore, 1) := by decide +kernel
theorem f121_87 : zft 121 87 = some (.aload_n 0, 1) := by decide +kernel
theorem f121_88 : zft 121 88 = some (.dup, 1) := by decide +kernel
theorem f121_89 : zft 121 89 = some (.getfield 173, 3) := by decide +kernel
theorem f121_92 : zft 121 92 = some (.iconst 1, 1) := by decide +kernel
theorem f121_93 : zft 121 93 = some (.iadd, 1) := by decide +kernel
theorem f121_94 : zft 121 94 = some (.putfield 173, 3) := by decide +kernel
theorem f121_97 : zft 121 97 = some (.aload_n 0, 1) := by decide +kernel
theorem f121_98 : zft 121 98 = some (.getfield 173, 3) := by decide +kernel
theorem f121_101 : zft 121 101 = some (.ireturn, 1) := by decide +kernel
theorem o121 : zo 121 = 7 := by decide +kernel
theorem p121 : zp 121 = 3 := by decide +kernel
theorem n121 : zn 121 = 4 := by decide +kernel
theorem v121 : zr 121 = (some .int) := by decide +kernel
theorem f122_0 : zft 122 0 = some (.iload_n 1, 1) := by decide +kernel
theorem f122_1 : zft 122 1 = some (.iconst 0, 1) := by decide +kernel
theorem f122_2 : zft 122 2 = some (.sipush 999, 3) := by decide +kernel
theorem f122_5 : zft 122 5 = some (.invokestatic 90, 3) := by decide +kernel
theorem f122_8 : zft 122 8 = some (.ifCond .ne 6, 3) := by decide +kernel
theorem f122_11 : zft 122 11 = some (.bipush (-2), 2) := by decide +kernel
theorem f122_13 : zft 122 13 = some (.ireturn, 1) := by decide +kernel
theorem f122_14 : zft 122 14 = some (.iconst 0, 1) := by decide +kernel
theorem f122_15 : zft 122 15 = some (.istore_n 2, 1) := by decide +kernel
theorem f122_16 : zft 122 16 = some (.iconst 0, 1) := by decide +kernel
theorem f122_17 : zft 122 17 = some (.istore_n 3, 1) := by decide +kernel
theorem f122_18 : zft 122 18 = some (.iload_n 3, 1) := by decide +kernel
theorem f122_19 : zft 122 19 = some (.iconst (-1), 1) := by decide +kernel
theorem f122_20 : zft 122 20 = some (.if_icmp .eq 145, 3) := by decide +kernel
theorem f122_23 : zft 122 23 = some (.iconst (-1), 1) := by decide +kernel
theorem f122_24 : zft 122 24 = some (.istore_n 3, 1) := by decide +kernel
theorem f122_25 : zft 122 25 = some (.iconst 0, 1) := by decide +kernel
theorem f122_26 : zft 122 26 = some (.istore 4, 2) := by decide +kernel
theorem f122_28 : zft 122 28 = some (.iload 4, 2) := by decide +kernel
theorem f122_30 : zft 122 30 = some (.aload_n 0, 1) := by decide +kernel
theorem f122_31 : zft 122 31 = some (.getfield 173, 3) := by decide +kernel
theorem f122_34 : zft 122 34 = some (.if_icmp .ge 54, 3) := by decide +kernel
theorem f122_37 : zft 122 37 = some (.aload_n 0, 1) := by decide +kernel
theorem f122_38 : zft 122 38 = some (.getfield 83, 3) := by decide +kernel
theorem f122_41 : zft 122 41 = some (.iload 4, 2) := by decide +kernel
theorem f122_43 : zft 122 43 = some (.baload, 1) := by decide +kernel
theorem f122_44 : zft 122 44 = some (.ifCond .ne 38, 3) := by decide +kernel
theorem f122_47 : zft 122 47 = some (.aload_n 0, 1) := by decide +kernel
theorem f122_48 : zft 122 48 = some (.getfield 80, 3) := by decide +kernel
theorem f122_51 : zft 122 51 = some (.iload 4, 2) := by decide +kernel
theorem f122_53 : zft 122 53 = some (.iaload, 1) := by decide +kernel
theorem f122_54 : zft 122 54 = some (.iload_n 1, 1) := by decide +kernel
theorem f122_55 : zft 122 55 = some (.if_icmp .gt 27, 3) := by decide +kernel
theorem f122_58 : zft 122 58 = some (.iload_n 3, 1) := by decide +kernel
theorem f122_59 : zft 122 59 = some (.iconst (-1), 1) := by decide +kernel
theorem f122_60 : zft 122 60 = some (.if_icmp .eq 19, 3) := by decide +kernel
theorem f122_63 : zft 122 63 = some (.aload_n 0, 1) := by decide +kernel
theorem f122_64 : zft 122 64 = some (.getfield 77, 3) := by decide +kernel
theorem f122_67 : zft 122 67 = some (.iload 4, 2) := by decide +kernel
theorem f122_69 : zft 122 69 = some (.iaload, 1) := by decide +kernel
theorem f122_70 : zft 122 70 = some (.aload_n 0, 1) := by decide +kernel
theorem f122_71 : zft 122 71 = some (.getfield 77, 3) := by decide +kernel
theorem f122_74 : zft 122 74 = some (.iload_n 3, 1) := by decide +kernel
theorem f122_75 : zft 122 75 = some (.iaload, 1) := by decide +kernel
theorem f122_76 : zft 122 76 = some (.if_icmp .ge 6, 3) := by decide +kernel
theorem f122_79 : zft 122 79 = some (.iload 4, 2) := by decide +kernel
theorem f122_81 : zft 122 81 = some (.istore_n 3, 1) := by decide +kernel
theorem f122_82 : zft 122 82 = some (.iinc 4 1, 3) := by decide +kernel
theorem f122_85 : zft 122 85 = some (.goto (-57), 3) := by decide +kernel
theorem f122_88 : zft 122 88 = some (.iload_n 3, 1) := by decide +kernel
theorem f122_89 : zft 122 89 = some (.iconst (-1), 1) := by decide +kernel
theorem f122_90 : zft 122 90 = some (.if_icmp .eq (-72), 3) := by decide +kernel
theorem f122_93 : zft 122 93 = some (.aload_n 0, 1) := by decide +kernel
theorem f122_94 : zft 122 94 = some (.getfield 83, 3) := by decide +kernel
theorem f122_97 : zft 122 97 = some (.iload_n 3, 1) := by decide +kernel
theorem f122_98 : zft 122 98 = some (.iconst 1, 1) := by decide +kernel
theorem f122_99 : zft 122 99 = some (.bastore, 1) := by decide +kernel
theorem f122_100 : zft 122 100 = some (.aload_n 0, 1) := by decide +kernel
theorem f122_101 : zft 122 101 = some (.getfield 74, 3) := by decide +kernel
theorem f122_104 : zft 122 104 = some (.iload_n 3, 1) := by decide +kernel
theorem f122_105 : zft 122 105 = some (.iaload, 1) := by decide +kernel
theorem f122_106 : zft 122 106 = some (.istore 4, 2) := by decide +kernel
theorem f122_108 : zft 122 108 = some (.aload_n 0, 1) := by decide +kernel
theorem f122_109 : zft 122 109 = some (.getfield 41, 3) := by decide +kernel
theorem f122_112 : zft 122 112 = some (.iload 4, 2) := by decide +kernel
theorem f122_114 : zft 122 114 = some (.iaload, 1) := by decide +kernel
theorem f122_115 : zft 122 115 = some (.ifCond .ne 47, 3) := by decide +kernel
theorem f122_118 : zft 122 118 = some (.aload_n 0, 1) := by decide +kernel
theorem f122_119 : zft 122 119 = some (.getfield 32, 3) := by decide +kernel
theorem f122_122 : zft 122 122 = some (.iload 4, 2) := by decide +kernel
theorem f122_124 : zft 122 124 = some (.iaload, 1) := by decide +kernel
theorem f122_125 : zft 122 125 = some (.aload_n 0, 1) := by decide +kernel
theorem f122_126 : zft 122 126 = some (.getfield 122, 3) := by decide +kernel
theorem f122_129 : zft 122 129 = some (.if_icmp .lt 25, 3) := by decide +kernel
theorem f122_132 : zft 122 132 = some (.aload_n 0, 1) := by decide +kernel
theorem f122_133 : zft 122 133 = some (.iload 4, 2) := by decide +kernel
theorem f122_135 : zft 122 135 = some (.invokevirtual 143, 3) := by decide +kernel
theorem f122_138 : zft 122 138 = some (.iconst (-1), 1) := by decide +kernel
theorem f122_139 : zft 122 139 = some (.if_icmp .ne 15, 3) := by decide +kernel
theorem f122_142 : zft 122 142 = some (.aload_n 0, 1) := by decide +kernel
theorem f122_143 : zft 122 143 = some (.iload 4, 2) := by decide +kernel
theorem f122_145 : zft 122 145 = some (.invokevirtual 146, 3) := by decide +kernel
theorem f122_148 : zft 122 148 = some (.iinc 2 1, 3) := by decide +kernel
theorem f122_151 : zft 122 151 = some (.goto 11, 3) := by decide +kernel
theorem f122_154 : zft 122 154 = some (.aload_n 0, 1) := by decide +kernel
theorem f122_155 : zft 122 155 = some (.getfield 41, 3) := by decide +kernel
theorem f122_158 : zft 122 158 = some (.iload 4, 2) := by decide +kernel
theorem f122_160 : zft 122 160 = some (.iconst 2, 1) := by decide +kernel
theorem f122_161 : zft 122 161 = some (.iastore, 1) := by decide +kernel
theorem f122_162 : zft 122 162 = some (.goto (-144), 3) := by decide +kernel
theorem f122_165 : zft 122 165 = some (.iload_n 2, 1) := by decide +kernel
theorem f122_166 : zft 122 166 = some (.ireturn, 1) := by decide +kernel
theorem o122 : zo 122 = 7 := by decide +kernel
theorem p122 : zp 122 = 1 := by decide +kernel
theorem n122 : zn 122 = 5 := by decide +kernel
theorem v122 : zr 122 = (some .int) := by decide +kernel
theorem f123_0 : zft 123 0 = some (.aload_n 0, 1) := by decide +kernel
theorem f123_1 : zft 123 1 = some (.iload_n 1, 1) := by decide +kernel
theorem f123_2 : zft 123 2 = some (.invokevirtual 125, 3) := by decide +kernel
theorem f123_5 : zft 123 5 = some (.ifCond .ne 6, 3) := by decide +kernel
theorem f123_8 : zft 123 8 = some (.bipush (-2), 2) := by decide +kernel
theorem f123_10 : zft 123 10 = some (.ireturn, 1) := by decide +kernel
theorem f123_11 : zft 123 11 = some (.aload_n 0, 1) := by decide +kernel
theorem f123_12 : zft 123 12 = some (.iload_n 1, 1) := by decide +kernel
theorem f123_13 : zft 123 13 = some (.aload_n 0, 1) := by decide +kernel
theorem f123_14 : zft 123 14 = some (.getfield 122, 3) := by decide +kernel
theorem f123_17 : zft 123 17 = some (.invokevirtual 104, 3) := by decide +kernel
theorem f123_20 : zft 123 20 = some (.istore_n 2, 1) := by decide +kernel
theorem f123_21 : zft 123 21 = some (.iload_n 2, 1) := by decide +kernel
theorem f123_22 : zft 123 22 = some (.iconst (-1), 1) := by decide +kernel
theorem f123_23 : zft 123 23 = some (.if_icmp .eq 21, 3) := by decide +kernel
theorem f123_26 : zft 123 26 = some (.aload_n 0, 1) := by decide +kernel
theorem f123_27 : zft 123 27 = some (.getfield 44, 3) := by decide +kernel
theorem f123_30 : zft 123 30 = some (.iload_n 2, 1) := by decide +kernel
theorem f123_31 : zft 123 31 = some (.baload, 1) := by decide +kernel
theorem f123_32 : zft 123 32 = some (.ifCond .eq 12, 3) := by decide +kernel
theorem f123_35 : zft 123 35 = some (.aload_n 0, 1) := by decide +kernel
theorem f123_36 : zft 123 36 = some (.getfield 56, 3) := by decide +kernel
theorem f123_39 : zft 123 39 = some (.iload_n 1, 1) := by decide +kernel
theorem f123_40 : zft 123 40 = some (.baload, 1) := by decide +kernel
theorem f123_41 : zft 123 41 = some (.ifCond .eq 6, 3) := by decide +kernel
theorem f123_44 : zft 123 44 = some (.bipush (-3), 2) := by decide +kernel
theorem f123_46 : zft 123 46 = some (.ireturn, 1) := by decide +kernel
theorem f123_47 : zft 123 47 = some (.aload_n 0, 1) := by decide +kernel
theorem f123_48 : zft 123 48 = some (.getfield 56, 3) := by decide +kernel
theorem f123_51 : zft 123 51 = some (.iload_n 1, 1) := by decide +kernel
theorem f123_52 : zft 123 52 = some (.iconst 1, 1) := by decide +kernel
theorem f123_53 : zft 123 53 = some (.bastore, 1) := by decide +kernel
theorem f123_54 : zft 123 54 = some (.iconst 1, 1) := by decide +kernel
theorem f123_55 : zft 123 55 = some (.ireturn, 1) := by decide +kernel
theorem o123 : zo 123 = 7 := by decide +kernel
theorem p123 : zp 123 = 1 := by decide +kernel
theorem n123 : zn 123 = 3 := by decide +kernel
theorem v123 : zr 123 = (some .int) := by decide +kernel
theorem f124_0 : zft 124 0 = some (.aload_n 0, 1) := by decide +kernel
theorem f124_1 : zft 124 1 = some (.iload_n 1, 1) := by decide +kernel
theorem f124_2 : zft 124 2 = some (.aload_n 0, 1) := by decide +kernel
theorem f124_3 : zft 124 3 = some (.getfield 122, 3) := by decide +kernel
theorem f124_6 : zft 124 6 = some (.invokevirtual 104, 3) := by decide +kernel
theorem f124_9 : zft 124 9 = some (.istore_n 3, 1) := by decide +kernel
theorem f124_10 : zft 124 10 = some (.iload_n 3, 1) := by decide +kernel
theorem f124_11 : zft 124 11 = some (.iconst (-1), 1) := by decide +kernel
theorem f124_12 : zft 124 12 = some (.if_icmp .eq 35, 3) := by decide +kernel
theorem f124_15 : zft 124 15 = some (.aload_n 0, 1) := by decide +kernel
theorem f124_16 : zft 124 16 = some (.getfield 44, 3) := by decide +kernel
theorem f124_19 : zft 124 19 = some (.iload_n 3, 1) := by decide +kernel
theorem f124_20 : zft 124 20 = some (.baload, 1) := by decide +kernel
theorem f124_21 : zft 124 21 = some (.ifCond .eq 26, 3) := by decide +kernel
theorem f124_24 : zft 124 24 = some (.aload_n 0, 1) := by decide +kernel
theorem f124_25 : zft 124 25 = some (.getfield 38, 3) := by decide +kernel
theorem f124_28 : zft 124 28 = some (.iload_n 3, 1) := by decide +kernel
theorem f124_29 : zft 124 29 = some (.iaload, 1) := by decide +kernel
theorem f124_30 : zft 124 30 = some (.iload_n 2, 1) := by decide +kernel
theorem f124_31 : zft 124 31 = some (.if_icmp .ne 16, 3) := by decide +kernel
theorem f124_34 : zft 124 34 = some (.aload_n 0, 1) := by decide +kernel
theorem f124_35 : zft 124 35 = some (.getfield 56, 3) := by decide +kernel
theorem f124_38 : zft 124 38 = some (.iload_n 1, 1) := by decide +kernel
theorem f124_39 : zft 124 39 = some (.baload, 1) := by decide +kernel
theorem f124_40 : zft 124 40 = some (.ifCond .ne 7, 3) := by decide +kernel
theorem f124_43 : zft 124 43 = some (.iconst 1, 1) := by decide +kernel
theorem f124_44 : zft 124 44 = some (.goto 4, 3) := by decide +kernel
theorem f124_47 : zft 124 47 = some (.iconst 0, 1) := by decide +kernel
theorem f124_48 : zft 124 48 = some (.ireturn, 1) := by decide +kernel
theorem o124 : zo 124 = 7 := by decide +kernel
theorem p124 : zp 124 = 2 := by decide +kernel
theorem n124 : zn 124 = 4 := by decide +kernel
theorem v124 : zr 124 = (some .boolean) := by decide +kernel
theorem f125_0 : zft 125 0 = some (.aload_n 0, 1) := by decide +kernel
theorem f125_1 : zft 125 1 = some (.iload_n 1, 1) := by decide +kernel
theorem f125_2 : zft 125 2 = some (.invokevirtual 97, 3) := by decide +kernel
theorem f125_5 : zft 125 5 = some (.ifCond .eq 23, 3) := by decide +kernel
theorem f125_8 : zft 125 8 = some (.iload_n 2, 1) := by decide +kernel
theorem f125_9 : zft 125 9 = some (.iconst 1, 1) := by decide +kernel
theorem f125_10 : zft 125 10 = some (.bipush 9, 2) := by decide +kernel
theorem f125_12 : zft 125 12 = some (.invokestatic 90, 3) := by decide +kernel
theorem f125_15 : zft 125 15 = some (.ifCond .eq 13, 3) := by decide +kernel
theorem f125_18 : zft 125 18 = some (.iload_n 3, 1) := by decide +kernel
theorem f125_19 : zft 125 19 = some (.iconst 0, 1) := by decide +kernel
theorem f125_20 : zft 125 20 = some (.bipush 23, 2) := by decide +kernel
theorem f125_22 : zft 125 22 = some (.invokestatic 90, 3) := by decide +kernel
theorem f125_25 : zft 125 25 = some (.ifCond .ne 6, 3) := by decide +kernel
theorem f125_28 : zft 125 28 = some (.bipush (-2), 2) := by decide +kernel
theorem f125_30 : zft 125 30 = some (.ireturn, 1) := by decide +kernel
theorem f125_31 : zft 125 31 = some (.aload_n 0, 1) := by decide +kernel
theorem f125_32 : zft 125 32 = some (.getfield 19, 3) := by decide +kernel
theorem f125_35 : zft 125 35 = some (.bipush 40, 2) := by decide +kernel
theorem f125_37 : zft 125 37 = some (.iload_n 1, 1) := by decide +kernel
theorem f125_38 : zft 125 38 = some (.imul, 1) := by decide +kernel
theorem f125_39 : zft 125 39 = some (.aload_n 0, 1) := by decide +kernel
theorem f125_40 : zft 125 40 = some (.getfield 122, 3) := by decide +kernel
theorem f125_43 : zft 125 43 = some (.iadd, 1) := by decide +kernel
theorem f125_44 : zft 125 44 = some (.baload, 1) := by decide +kernel
theorem f125_45 : zft 125 45 = some (.ifCond .eq 6, 3) := by decide +kernel
theorem f125_48 : zft 125 48 = some (.bipush (-3), 2) := by decide +kernel
theorem f125_50 : zft 125 50 = some (.ireturn, 1) := by decide +kernel
theorem f125_51 : zft 125 51 = some (.aload_n 0, 1) := by decide +kernel
theorem f125_52 : zft 125 52 = some (.iload_n 1, 1) := by decide +kernel
theorem f125_53 : zft 125 53 = some (.aload_n 0, 1) := by decide +kernel
theorem f125_54 : zft 125 54 = some (.getfield 122, 3) := by decide +kernel
theorem f125_57 : zft 125 57 = some (.invokevirtual 115, 3) := by decide +kernel
theorem f125_60 : zft 125 60 = some (.istore 4, 2) := by decide +kernel
theorem f125_62 : zft 125 62 = some (.iload 4, 2) := by decide +kernel
theorem f125_64 : zft 125 64 = some (.istore 5, 2) := by decide +kernel
theorem f125_66 : zft 125 66 = some (.iconst 0, 1) := by decide +kernel
theorem f125_67 : zft 125 67 = some (.istore 6, 2) := by decide +kernel
theorem f125_69 : zft 125 69 = some (.iload 6, 2) := by decide +kernel
theorem f125_71 : zft 125 71 = some (.aload_n 0, 1) := by decide +kernel
theorem f125_72 : zft 125 72 = some (.getfield 94, 3) := by decide +kernel
theorem f125_75 : zft 125 75 = some (.if_icmp .ge 35, 3) := by decide +kernel
theorem f125_78 : zft 125 78 = some (.iload 5, 2) := by decide +kernel
theorem f125_80 : zft 125 80 = some (.aload_n 0, 1) := by decide +kernel
theorem f125_81 : zft 125 81 = some (.iload 6, 2) := by decide +kernel
theorem f125_83 : zft 125 83 = some (.iload_n 1, 1) := by decide +kernel
theorem f125_84 : zft 125 84 = some (.invokevirtual 176, 3) := by decide +kernel
theorem f125_87 : zft 125 87 = some (.ifCond .eq 13, 3) := by decide +kernel
theorem f125_90 : zft 125 90 = some (.aload_n 0, 1) := by decide +kernel
theorem f125_91 : zft 125 91 = some (.getfield 29, 3) := by decide +kernel
theorem f125_94 : zft 125 94 = some (.iload 6, 2) := by decide +kernel
theorem f125_96 : zft 125 96 = some (.iaload, 1) := by decide +kernel
theorem f125_97 : zft 125 97 = some (.goto 4, 3) := by decide +kernel
theorem f125_100 : zft 125 100 = some (.iconst 0, 1) := by decide +kernel
theorem f125_101 : zft 125 101 = some (.iadd, 1) := by decide +kernel
theorem f125_102 : zft 125 102 = some (.istore 5, 2) := by decide +kernel
theorem f125_104 : zft 125 104 = some (.iinc 6 1, 3) := by decide +kernel
theorem f125_107 : zft 125 107 = some (.goto (-38), 3) := by decide +kernel
theorem f125_110 : zft 125 110 = some (.iload 4, 2) := by decide +kernel
theorem f125_112 : zft 125 112 = some (.iload_n 2, 1) := by decide +kernel
theorem f125_113 : zft 125 113 = some (.if_icmp .ge 21, 3) := by decide +kernel
theorem f125_116 : zft 125 116 = some (.iload_n 3, 1) := by decide +kernel
theorem f125_117 : zft 125 117 = some (.aload_n 0, 1) := by decide +kernel
theorem f125_118 : zft 125 118 = some (.getfield 13, 3) := by decide +kernel
theorem f125_121 : zft 125 121 = some (.iload_n 1, 1) := by decide +kernel
theorem f125_122 : zft 125 122 = some (.iaload, 1) := by decide +kernel
theorem f125_123 : zft 125 123 = some (.if_icmp .lt 9, 3) := by decide +kernel
theorem f125_126 : zft 125 126 = some (.iload 5, 2) := by decide +kernel
theorem f125_128 : zft 125 128 = some (.iload_n 2, 1) := by decide +kernel
theorem f125_129 : zft 125 129 = some (.if_icmp .ge 5, 3) := by decide +kernel
theorem f125_132 : zft 125 132 = some (.iconst (-1), 1) := by decide +kernel
theorem f125_133 : zft 125 133 = some (.ireturn, 1) := by decide +kernel
theorem f125_134 : zft 125 134 = some (.iconst 0, 1) := by decide +kernel
theorem f125_135 : zft 125 135 = some (.istore 6, 2) := by decide +kernel
theorem f125_137 : zft 125 137 = some (.aload_n 0, 1) := by decide +kernel
theorem f125_138 : zft 125 138 = some (.getfield 94, 3) := by decide +kernel
theorem f125_141 : zft 125 141 = some (.iconst 1, 1) := by decide +kernel
theorem f125_142 : zft 125 142 = some (.isub, 1) := by decide +kernel
theorem f125_143 : zft 125 143 = some (.istore 7, 2) := by decide +kernel
theorem f125_145 : zft 125 145 = some (.iload 7, 2) := by decide +kernel
theorem f125_147 : zft 125 147 = some (.ifCond .lt 58, 3) := by decide +kernel
theorem f125_150 : zft 125 150 = some (.iload 4, 2) := by decide +kernel
theorem f125_152 : zft 125 152 = some (.iload_n 2, 1) := by decide +kernel
theorem f125_153 : zft 125 153 = some (.if_icmp .ge 52, 3) := by decide +kernel
theorem f125_156 : zft 125 156 = some (.aload_n 0, 1) := by decide +kernel
theorem f125_157 : zft 125 157 = some (.iload 7, 2) := by decide +kernel
theorem f125_159 : zft 125 159 = some (.iload_n 1, 1) := by decide +kernel
theorem f125_160 : zft 125 160 = some (.invokevirtual 176, 3) := by decide +kernel
theorem f125_163 : zft 125 163 = some (.ifCond .eq 36, 3) := by decide +kernel
theorem f125_166 : zft 125 166 = some (.iload 4, 2) := by decide +kernel
theorem f125_168 : zft 125 168 = some (.aload_n 0, 1) := by decide +kernel
theorem f125_169 : zft 125 169 = some (.getfield 29, 3) := by decide +kernel
theorem f125_172 : zft 125 172 = some (.iload 7, 2) := by decide +kernel
theorem f125_174 : zft 125 174 = some (.iaload, 1) := by decide +kernel
theorem f125_175 : zft 125 175 = some (.iadd, 1) := by decide +kernel
theorem f125_176 : zft 125 176 = some (.istore 4, 2) := by decide +kernel
theorem f125_178 : zft 125 178 = some (.aload_n 0, 1) := by decide +kernel
theorem f125_179 : zft 125 179 = some (.iload 7, 2) := by decide +kernel
theorem f125_181 : zft 125 181 = some (.aload_n 0, 1) := by decide +kernel
theorem f125_182 : zft 125 182 = some (.getfield 122, 3) := by decide +kernel
theorem f125_185 : zft 125 185 = some (.aload_n 0, 1) := by decide +kernel
theorem f125_186 : zft 125 186 = some (.getfield 32, 3) := by decide +kernel
theorem f125_189 : zft 125 189 = some (.iload 7, 2) := by decide +kernel
theorem f125_191 : zft 125 191 = some (.iaload, 1) := by decide +kernel
theorem f125_192 : zft 125 192 = some (.isub, 1) := by decide +kernel
theorem f125_193 : zft 125 193 = some (.invokevirtual 157, 3) := by decide +kernel
theorem f125_196 : zft 125 196 = some (.iinc 6 1, 3) := by decide +kernel
theorem f125_199 : zft 125 199 = some (.iinc 7 (-1), 3) := by decide +kernel
theorem f125_202 : zft 125 202 = some (.goto (-57), 3) := by decide +kernel
theorem f125_205 : zft 125 205 = some (.aload_n 0, 1) := by decide +kernel
theorem f125_206 : zft 125 206 = some (.iload_n 1, 1) := by decide +kernel
theorem f125_207 : zft 125 207 = some (.aload_n 0, 1) := by decide +kernel
theorem f125_208 : zft 125 208 = some (.getfield 122, 3) := by decide +kernel
theorem f125_211 : zft 125 211 = some (.iload_n 2, 1) := by decide +kernel
theorem f125_212 : zft 125 212 = some (.invokevirtual 118, 3) := by decide +kernel
theorem f125_215 : zft 125 215 = some (.iconst 0, 1) := by decide +kernel
theorem f125_216 : zft 125 216 = some (.istore 7, 2) := by decide +kernel
theorem f125_218 : zft 125 218 = some (.iload 7, 2) := by decide +kernel
theorem f125_220 : zft 125 220 = some (.iconst 3, 1) := by decide +kernel
theorem f125_221 : zft 125 221 = some (.if_icmp .ge 38, 3) := by decide +kernel
theorem f125_224 : zft 125 224 = some (.aload_n 0, 1) := by decide +kernel
theorem f125_225 : zft 125 225 = some (.getfield 23, 3) := by decide +kernel
theorem f125_228 : zft 125 228 = some (.bipush 120, 2) := by decide +kernel
theorem f125_230 : zft 125 230 = some (.iload_n 1, 1) := by decide +kernel
theorem f125_231 : zft 125 231 = some (.imul, 1) := by decide +kernel
theorem f125_232 : zft 125 232 = some (.iconst 3, 1) := by decide +kernel
theorem f125_233 : zft 125 233 = some (.aload_n 0, 1) := by decide +kernel
theorem f125_234 : zft 125 234 = some (.getfield 122, 3) := by decide +kernel
theorem f125_237 : zft 125 237 = some (.imul, 1) := by decide +kernel
theorem f125_238 : zft 125 238 = some (.iadd, 1) := by decide +kernel
theorem f125_239 : zft 125 239 = some (.iload 7, 2) := by decide +kernel
theorem f125_241 : zft 125 241 = some (.iadd, 1) := by decide +kernel
theorem f125_242 : zft 125 242 = some (.dup2, 1) := by decide +kernel
theorem f125_243 : zft 125 243 = some (.iaload, 1) := by decide +kernel
theorem f125_244 : zft 125 244 = some (.aload_n 0, 1) := by decide +kernel
theorem f125_245 : zft 125 245 = some (.getfield 59, 3) := by decide +kernel
theorem f125_248 : zft 125 248 = some (.iload 7, 2) := by decide +kernel
theorem f125_250 : zft 125 250 = some (.iaload, 1) := by decide +kernel
theorem f125_251 : zft 125 251 = some (.iadd, 1) := by decide +kernel
theorem f125_252 : zft 125 252 = some (.iastore, 1) := by decide +kernel
theorem f125_253 : zft 125 253 = some (.iinc 7 1, 3) := by decide +kernel
theorem f125_256 : zft 125 256 = some (.goto (-38), 3) := by decide +kernel
theorem f125_259 : zft 125 259 = some (.aload_n 0, 1) := by decide +kernel
theorem f125_260 : zft 125 260 = some (.dup, 1) := by decide +kernel
theorem f125_261 : zft 125 261 = some (.getfield 179, 3) := by decide +kernel
theorem f125_264 : zft 125 264 = some (.iload_n 2, 1) := by decide +kernel
theorem f125_265 : zft 125 265 = some (.iadd, 1) := by decide +kernel
theorem f125_266 : zft 125 266 = some (.putfield 179, 3) := by decide +kernel
theorem f125_269 : zft 125 269 = some (.iload 6, 2) := by decide +kernel
theorem f125_271 : zft 125 271 = some (.ireturn, 1) := by decide +kernel
theorem o125 : zo 125 = 7 := by decide +kernel
theorem p125 : zp 125 = 3 := by decide +kernel
theorem n125 : zn 125 = 8 := by decide +kernel
theorem v125 : zr 125 = (some .int) := by decide +kernel
theorem f126_0 : zft 126 0 = some (.iconst (-1), 1) := by decide +kernel
theorem f126_1 : zft 126 1 = some (.istore_n 2, 1) := by decide +kernel
theorem f126_2 : zft 126 2 = some (.iconst 0, 1) := by decide +kernel
theorem f126_3 : zft 126 3 = some (.istore_n 3, 1) := by decide +kernel
theorem f126_4 : zft 126 4 = some (.iload_n 3, 1) := by decide +kernel
theorem f126_5 : zft 126 5 = some (.aload_n 0, 1) := by decide +kernel
theorem f126_6 : zft 126 6 = some (.getfield 94, 3) := by decide +kernel
theorem f126_9 : zft 126 9 = some (.if_icmp .ge 82, 3) := by decide +kernel
theorem f126_12 : zft 126 12 = some (.aload_n 0, 1) := by decide +kernel
theorem f126_13 : zft 126 13 = some (.iload_n 3, 1) := by decide +kernel
theorem f126_14 : zft 126 14 = some (.aload_n 0, 1) := by decide +kernel
theorem f126_15 : zft 126 15 = some (.getfield 122, 3) := by decide +kernel
theorem f126_18 : zft 126 18 = some (.invokevirtual 104, 3) := by decide +kernel
theorem f126_21 : zft 126 21 = some (.istore 4, 2) := by decide +kernel
theorem f126_23 : zft 126 23 = some (.iload 4, 2) := by decide +kernel
theorem f126_25 : zft 126 25 = some (.iconst (-1), 1) := by decide +kernel
theorem f126_26 : zft 126 26 = some (.if_icmp .eq 59, 3) := by decide +kernel
theorem f126_29 : zft 126 29 = some (.aload_n 0, 1) := by decide +kernel
theorem f126_30 : zft 126 30 = some (.getfield 56, 3) := by decide +kernel
theorem f126_33 : zft 126 33 = some (.iload_n 3, 1) := by decide +kernel
theorem f126_34 : zft 126 34 = some (.baload, 1) := by decide +kernel
theorem f126_35 : zft 126 35 = some (.ifCond .eq 50, 3) := by decide +kernel
theorem f126_38 : zft 126 38 = some (.aload_n 0, 1) := by decide +kernel
theorem f126_39 : zft 126 39 = some (.getfield 38, 3) := by decide +kernel
theorem f126_42 : zft 126 42 = some (.iload 4, 2) := by decide +kernel
theorem f126_44 : zft 126 44 = some (.iaload, 1) := by decide +kernel
theorem f126_45 : zft 126 45 = some (.iload_n 1, 1) := by decide +kernel
theorem f126_46 : zft 126 46 = some (.if_icmp .ne 39, 3) := by decide +kernel
theorem f126_49 : zft 126 49 = some (.iload_n 2, 1) := by decide +kernel
theorem f126_50 : zft 126 50 = some (.iconst (-1), 1) := by decide +kernel
theorem f126_51 : zft 126 51 = some (.if_icmp .eq 32, 3) := by decide +kernel
theorem f126_54 : zft 126 54 = some (.aload_n 0, 1) := by decide +kernel
theorem f126_55 : zft 126 55 = some (.getfield 53, 3) := by decide +kernel
theorem f126_58 : zft 126 58 = some (.iload_n 3, 1) := by decide +kernel
theorem f126_59 : zft 126 59 = some (.iaload, 1) := by decide +kernel
theorem f126_60 : zft 126 60 = some (.aload_n 0, 1) := by decide +kernel
theorem f126_61 : zft 126 61 = some (.getfield 29, 3) := by decide +kernel
theorem f126_64 : zft 126 64 = some (.iload_n 2, 1) := by decide +kernel
theorem f126_65 : zft 126 65 = some (.iaload, 1) := by decide +kernel
theorem f126_66 : zft 126 66 = some (.imul, 1) := by decide +kernel
theorem f126_67 : zft 126 67 = some (.aload_n 0, 1) := by decide +kernel
theorem f126_68 : zft 126 68 = some (.getfield 53, 3) := by decide +kernel
theorem f126_71 : zft 126 71 = some (.iload_n 2, 1) := by decide +kernel
theorem f126_72 : zft 126 72 = some (.iaload, 1) := by decide +kernel
theorem f126_73 : zft 126 73 = some (.aload_n 0, 1) := by decide +kernel
theorem f126_74 : zft 126 74 = some (.getfield 29, 3) := by decide +kernel
theorem f126_77 : zft 126 77 = some (.iload_n 3, 1) := by decide +kernel
theorem f126_78 : zft 126 78 = some (.iaload, 1) := by decide +kernel
theorem f126_79 : zft 126 79 = some (.imul, 1) := by decide +kernel
theorem f126_80 : zft 126 80 = some (.if_icmp .ge 5, 3) := by decide +kernel
theorem f126_83 : zft 126 83 = some (.iload_n 3, 1) := by decide +kernel
theorem f126_84 : zft 126 84 = some (.istore_n 2, 1) := by decide +kernel
theorem f126_85 : zft 126 85 = some (.iinc 3 1, 3) := by decide +kernel
theorem f126_88 : zft 126 88 = some (.goto (-84), 3) := by decide +kernel
theorem f126_91 : zft 126 91 = some (.iload_n 2, 1) := by decide +kernel
theorem f126_92 : zft 126 92 = some (.ireturn, 1) := by decide +kernel
theorem o126 : zo 126 = 7 := by decide +kernel
theorem p126 : zp 126 = 1 := by decide +kernel
theorem n126 : zn 126 = 5 := by decide +kernel
theorem v126 : zr 126 = (some .int) := by decide +kernel
theorem f127_0 : zft 127 0 = some (.aload_n 0, 1) := by decide +kernel
theorem f127_1 : zft 127 1 = some (.getfield 122, 3) := by decide +kernel
theorem f127_4 : zft 127 4 = some (.bipush 39, 2) := by decide +kernel
theorem f127_6 : zft 127 6 = some (.if_icmp .ne 6, 3) := by decide +kernel
theorem f127_9 : zft 127 9 = some (.bipush (-4), 2) := by decide +kernel
theorem f127_11 : zft 127 11 = some (.ireturn, 1) := by decide +kernel
theorem f127_12 : zft 127 12 = some (.iconst 0, 1) := by decide +kernel
theorem f127_13 : zft 127 13 = some (.istore_n 1, 1) := by decide +kernel
theorem f127_14 : zft 127 14 = some (.iconst 0, 1) := by decide +kernel
theorem f127_15 : zft 127 15 = some (.istore_n 2, 1) := by decide +kernel
theorem f127_16 : zft 127 16 = some (.iload_n 2, 1) := by decide +kernel
theorem f127_17 : zft 127 17 = some (.aload_n 0, 1) := by decide +kernel
theorem f127_18 : zft 127 18 = some (.getfield 94, 3) := by decide +kernel
theorem f127_21 : zft 127 21 = some (.if_icmp .ge 36, 3) := by decide +kernel
theorem f127_24 : zft 127 24 = some (.aload_n 0, 1) := by decide +kernel
theorem f127_25 : zft 127 25 = some (.getfield 56, 3) := by decide +kernel
theorem f127_28 : zft 127 28 = some (.iload_n 2, 1) := by decide +kernel
theorem f127_29 : zft 127 29 = some (.baload, 1) := by decide +kernel
theorem f127_30 : zft 127 30 = some (.ifCond .eq 21, 3) := by decide +kernel
theorem f127_33 : zft 127 33 = some (.aload_n 0, 1) := by decide +kernel
theorem f127_34 : zft 127 34 = some (.getfield 50, 3) := by decide +kernel
theorem f127_37 : zft 127 37 = some (.aload_n 0, 1) := by decide +kernel
theorem f127_38 : zft 127 38 = some (.iload_n 2, 1) := by decide +kernel
theorem f127_39 : zft 127 39 = some (.aload_n 0, 1) := by decide +kernel
theorem f127_40 : zft 127 40 = some (.getfield 122, 3) := by decide +kernel
theorem f127_43 : zft 127 43 = some (.invokevirtual 104, 3) := by decide +kernel
theorem f127_46 : zft 127 46 = some (.iconst 1, 1) := by decide +kernel
theorem f127_47 : zft 127 47 = some (.bastore, 1) := by decide +kernel
theorem f127_48 : zft 127 48 = some (.iinc 1 1, 3) := by decide +kernel
theorem f127_51 : zft 127 51 = some (.iinc 2 1, 3) := by decide +kernel
theorem f127_54 : zft 127 54 = some (.goto (-38), 3) := by decide +kernel
theorem f127_57 : zft 127 57 = some (.iconst 0, 1) := by decide +kernel
theorem f127_58 : zft 127 58 = some (.istore_n 2, 1) := by decide +kernel
theorem f127_59 : zft 127 59 = some (.iload_n 2, 1) := by decide +kernel
theorem f127_60 : zft 127 60 = some (.aload_n 0, 1) := by decide +kernel
theorem f127_61 : zft 127 61 = some (.getfield 86, 3) := by decide +kernel
theorem f127_64 : zft 127 64 = some (.if_icmp .ge 51, 3) := by decide +kernel
theorem f127_67 : zft 127 67 = some (.iconst 0, 1) := by decide +kernel
theorem f127_68 : zft 127 68 = some (.istore_n 3, 1) := by decide +kernel
theorem f127_69 : zft 127 69 = some (.iload_n 3, 1) := by decide +kernel
theorem f127_70 : zft 127 70 = some (.aload_n 0, 1) := by decide +kernel
theorem f127_71 : zft 127 71 = some (.getfield 16, 3) := by decide +kernel
theorem f127_74 : zft 127 74 = some (.iload_n 2, 1) := by decide +kernel
theorem f127_75 : zft 127 75 = some (.iaload, 1) := by decide +kernel
theorem f127_76 : zft 127 76 = some (.if_icmp .ge 33, 3) := by decide +kernel
theorem f127_79 : zft 127 79 = some (.aload_n 0, 1) := by decide +kernel
theorem f127_80 : zft 127 80 = some (.iload_n 2, 1) := by decide +kernel
theorem f127_81 : zft 127 81 = some (.invokevirtual 182, 3) := by decide +kernel
theorem f127_84 : zft 127 84 = some (.istore 4, 2) := by decide +kernel
theorem f127_86 : zft 127 86 = some (.iload 4, 2) := by decide +kernel
theorem f127_88 : zft 127 88 = some (.iconst (-1), 1) := by decide +kernel
theorem f127_89 : zft 127 89 = some (.if_icmp .eq 14, 3) := by decide +kernel
theorem f127_92 : zft 127 92 = some (.aload_n 0, 1) := by decide +kernel
theorem f127_93 : zft 127 93 = some (.getfield 53, 3) := by decide +kernel
theorem f127_96 : zft 127 96 = some (.iload 4, 2) := by decide +kernel
theorem f127_98 : zft 127 98 = some (.dup2, 1) := by decide +kernel
theorem f127_99 : zft 127 99 = some (.iaload, 1) := by decide +kernel
theorem f127_100 : zft 127 100 = some (.iconst 1, 1) := by decide +kernel
theorem f127_101 : zft 127 101 = some (.iadd, 1) := by decide +kernel
theorem f127_102 : zft 127 102 = some (.iastore, 1) := by decide +kernel
theorem f127_103 : zft 127 103 = some (.iinc 3 1, 3) := by decide +kernel
theorem f127_106 : zft 127 106 = some (.goto (-37), 3) := by decide +kernel
theorem f127_109 : zft 127 109 = some (.iinc 2 1, 3) := by decide +kernel
theorem f127_112 : zft 127 112 = some (.goto (-53), 3) := by decide +kernel
theorem f127_115 : zft 127 115 = some (.iconst 0, 1) := by decide +kernel
theorem f127_116 : zft 127 116 = some (.istore_n 2, 1) := by decide +kernel
theorem f127_117 : zft 127 117 = some (.iload_n 2, 1) := by decide +kernel
theorem f127_118 : zft 127 118 = some (.aload_n 0, 1) := by decide +kernel
theorem f127_119 : zft 127 119 = some (.getfield 94, 3) := by decide +kernel
theorem f127_122 : zft 127 122 = some (.if_icmp .ge 64, 3) := by decide +kernel
theorem f127_125 : zft 127 125 = some (.aload_n 0, 1) := by decide +kernel
theorem f127_126 : zft 127 126 = some (.getfield 56, 3) := by decide +kernel
theorem f127_129 : zft 127 129 = some (.iload_n 2, 1) := by decide +kernel
theorem f127_130 : zft 127 130 = some (.iconst 0, 1) := by decide +kernel
theorem f127_131 : zft 127 131 = some (.bastore, 1) := by decide +kernel
theorem f127_132 : zft 127 132 = some (.aload_n 0, 1) := by decide +kernel
theorem f127_133 : zft 127 133 = some (.getfield 41, 3) := by decide +kernel
theorem f127_136 : zft 127 136 = some (.iload_n 2, 1) := by decide +kernel
theorem f127_137 : zft 127 137 = some (.aload_n 0, 1) := by decide +kernel
theorem f127_138 : zft 127 138 = some (.getfield 41, 3) := by decide +kernel
theorem f127_141 : zft 127 141 = some (.iload_n 2, 1) := by decide +kernel
theorem f127_142 : zft 127 142 = some (.iaload, 1) := by decide +kernel
theorem f127_143 : zft 127 143 = some (.iconst 1, 1) := by decide +kernel
theorem f127_144 : zft 127 144 = some (.if_icmp .ne 29, 3) := by decide +kernel
theorem f127_147 : zft 127 147 = some (.aload_n 0, 1) := by decide +kernel
theorem f127_148 : zft 127 148 = some (.getfield 32, 3) := by decide +kernel
theorem f127_151 : zft 127 151 = some (.iload_n 2, 1) := by decide +kernel
theorem f127_152 : zft 127 152 = some (.iaload, 1) := by decide +kernel
theorem f127_153 : zft 127 153 = some (.aload_n 0, 1) := by decide +kernel
theorem f127_154 : zft 127 154 = some (.getfield 35, 3) := by decide +kernel
theorem f127_157 : zft 127 157 = some (.iload_n 2, 1) := by decide +kernel
theorem f127_158 : zft 127 158 = some (.iaload, 1) := by decide +kernel
theorem f127_159 : zft 127 159 = some (.iadd, 1) := by decide +kernel
theorem f127_160 : zft 127 160 = some (.iconst 1, 1) := by decide +kernel
theorem f127_161 : zft 127 161 = some (.isub, 1) := by decide +kernel
theorem f127_162 : zft 127 162 = some (.aload_n 0, 1) := by decide +kernel
theorem f127_163 : zft 127 163 = some (.getfield 122, 3) := by decide +kernel
theorem f127_166 : zft 127 166 = some (.if_icmp .ne 7, 3) := by decide +kernel
theorem f127_169 : zft 127 169 = some (.iconst 3, 1) := by decide +kernel
theorem f127_170 : zft 127 170 = some (.goto 9, 3) := by decide +kernel
theorem f127_173 : zft 127 173 = some (.aload_n 0, 1) := by decide +kernel
theorem f127_174 : zft 127 174 = some (.getfield 41, 3) := by decide +kernel
theorem f127_177 : zft 127 177 = some (.iload_n 2, 1) := by decide +kernel
theorem f127_178 : zft 127 178 = some (.iaload, 1) := by decide +kernel
theorem f127_179 : zft 127 179 = some (.iastore, 1) := by decide +kernel
theorem f127_180 : zft 127 180 = some (.iinc 2 1, 3) := by decide +kernel
theorem f127_183 : zft 127 183 = some (.goto (-66), 3) := by decide +kernel
theorem f127_186 : zft 127 186 = some (.aload_n 0, 1) := by decide +kernel
theorem f127_187 : zft 127 187 = some (.dup, 1) := by decide +kernel
theorem f127_188 : zft 127 188 = some (.getfield 122, 3) := by decide +kernel
theorem f127_191 : zft 127 191 = some (.iconst 1, 1) := by decide +kernel
theorem f127_192 : zft 127 192 = some (.iadd, 1) := by decide +kernel
theorem f127_193 : zft 127 193 = some (.putfield 122, 3) := by decide +kernel
theorem f127_196 : zft 127 196 = some (.iload_n 1, 1) := by decide +kernel
theorem f127_197 : zft 127 197 = some (.ireturn, 1) := by decide +kernel
theorem o127 : zo 127 = 7 := by decide +kernel
theorem p127 : zp 127 = 0 := by decide +kernel
theorem n127 : zn 127 = 5 := by decide +kernel
theorem v127 : zr 127 = (some .int) := by decide +kernel
theorem f128_0 : zft 128 0 = some (.aload_n 0, 1) := by decide +kernel
theorem f128_1 : zft 128 1 = some (.iload_n 1, 1) := by decide +kernel
theorem f128_2 : zft 128 2 = some (.invokevirtual 97, 3) := by decide +kernel
theorem f128_5 : zft 128 5 = some (.ifCond .eq 16, 3) := by decide +kernel
theorem f128_8 : zft 128 8 = some (.iload_n 2, 1) := by decide +kernel
theorem f128_9 : zft 128 9 = some (.aload_n 0, 1) := by decide +kernel
theorem f128_10 : zft 128 10 = some (.getfield 122, 3) := by decide +kernel
theorem f128_13 : zft 128 13 = some (.bipush 39, 2) := by decide +kernel
theorem f128_15 : zft 128 15 = some (.invokestatic 90, 3) := by decide +kernel
theorem f128_18 : zft 128 18 = some (.ifCond .ne 6, 3) := by decide +kernel
theorem f128_21 : zft 128 21 = some (.bipush (-2), 2) := by decide +kernel
theorem f128_23 : zft 128 23 = some (.ireturn, 1) := by decide +kernel
theorem f128_24 : zft 128 24 = some (.iconst 0, 1) := by decide +kernel
theorem f128_25 : zft 128 25 = some (.istore_n 3, 1) := by decide +kernel
theorem f128_26 : zft 128 26 = some (.iconst 0, 1) := by decide +kernel
theorem f128_27 : zft 128 27 = some (.istore 4, 2) := by decide +kernel
theorem f128_29 : zft 128 29 = some (.iload 4, 2) := by decide +kernel
theorem f128_31 : zft 128 31 = some (.aload_n 0, 1) := by decide +kernel
theorem f128_32 : zft 128 32 = some (.getfield 94, 3) := by decide +kernel
theorem f128_35 : zft 128 35 = some (.if_icmp .ge 59, 3) := by decide +kernel
theorem f128_38 : zft 128 38 = some (.aload_n 0, 1) := by decide +kernel
theorem f128_39 : zft 128 39 = some (.iload 4, 2) := by decide +kernel
theorem f128_41 : zft 128 41 = some (.iload_n 2, 1) := by decide +kernel
theorem f128_42 : zft 128 42 = some (.invokevirtual 104, 3) := by decide +kernel
theorem f128_45 : zft 128 45 = some (.istore 5, 2) := by decide +kernel
theorem f128_47 : zft 128 47 = some (.iload_n 3, 1) := by decide +kernel
theorem f128_48 : zft 128 48 = some (.iload 5, 2) := by decide +kernel
theorem f128_50 : zft 128 50 = some (.iconst (-1), 1) := by decide +kernel
theorem f128_51 : zft 128 51 = some (.if_icmp .eq 34, 3) := by decide +kernel
theorem f128_54 : zft 128 54 = some (.aload_n 0, 1) := by decide +kernel
theorem f128_55 : zft 128 55 = some (.getfield 44, 3) := by decide +kernel
theorem f128_58 : zft 128 58 = some (.iload 5, 2) := by decide +kernel
theorem f128_60 : zft 128 60 = some (.baload, 1) := by decide +kernel
theorem f128_61 : zft 128 61 = some (.ifCond .eq 24, 3) := by decide +kernel
theorem f128_64 : zft 128 64 = some (.aload_n 0, 1) := by decide +kernel
theorem f128_65 : zft 128 65 = some (.getfield 38, 3) := by decide +kernel
theorem f128_68 : zft 128 68 = some (.iload 5, 2) := by decide +kernel
theorem f128_70 : zft 128 70 = some (.iaload, 1) := by decide +kernel
theorem f128_71 : zft 128 71 = some (.iload_n 1, 1) := by decide +kernel
theorem f128_72 : zft 128 72 = some (.if_icmp .ne 13, 3) := by decide +kernel
theorem f128_75 : zft 128 75 = some (.aload_n 0, 1) := by decide +kernel
theorem f128_76 : zft 128 76 = some (.getfield 29, 3) := by decide +kernel
theorem f128_79 : zft 128 79 = some (.iload 4, 2) := by decide +kernel
theorem f128_81 : zft 128 81 = some (.iaload, 1) := by decide +kernel
theorem f128_82 : zft 128 82 = some (.goto 4, 3) := by decide +kernel
theorem f128_85 : zft 128 85 = some (.iconst 0, 1) := by decide +kernel
theorem f128_86 : zft 128 86 = some (.iadd, 1) := by decide +kernel
theorem f128_87 : zft 128 87 = some (.istore_n 3, 1) := by decide +kernel
theorem f128_88 : zft 128 88 = some (.iinc 4 1, 3) := by decide +kernel
theorem f128_91 : zft 128 91 = some (.goto (-62), 3) := by decide +kernel
theorem f128_94 : zft 128 94 = some (.iconst 0, 1) := by decide +kernel
theorem f128_95 : zft 128 95 = some (.istore 4, 2) := by decide +kernel
theorem f128_97 : zft 128 97 = some (.iconst 0, 1) := by decide +kernel
theorem f128_98 : zft 128 98 = some (.istore 5, 2) := by decide +kernel
theorem f128_100 : zft 128 100 = some (.iload 5, 2) := by decide +kernel
theorem f128_102 : zft 128 102 = some (.iconst 3, 1) := by decide +kernel
theorem f128_103 : zft 128 103 = some (.aload_n 0, 1) := by decide +kernel
theorem f128_104 : zft 128 104 = some (.getfield 122, 3) := by decide +kernel
theorem f128_107 : zft 128 107 = some (.imul, 1) := by decide +kernel
theorem f128_108 : zft 128 108 = some (.if_icmp .ge 26, 3) := by decide +kernel
theorem f128_111 : zft 128 111 = some (.iload 4, 2) := by decide +kernel
theorem f128_113 : zft 128 113 = some (.aload_n 0, 1) := by decide +kernel
theorem f128_114 : zft 128 114 = some (.getfield 23, 3) := by decide +kernel
theorem f128_117 : zft 128 117 = some (.bipush 120, 2) := by decide +kernel
theorem f128_119 : zft 128 119 = some (.iload_n 1, 1) := by decide +kernel
theorem f128_120 : zft 128 120 = some (.imul, 1) := by decide +kernel
theorem f128_121 : zft 128 121 = some (.iload 5, 2) := by decide +kernel
theorem f128_123 : zft 128 123 = some (.iadd, 1) := by decide +kernel
theorem f128_124 : zft 128 124 = some (.iaload, 1) := by decide +kernel
theorem f128_125 : zft 128 125 = some (.iadd, 1) := by decide +kernel
theorem f128_126 : zft 128 126 = some (.istore 4, 2) := by decide +kernel
theorem f128_128 : zft 128 128 = some (.iinc 5 1, 3) := by decide +kernel
theorem f128_131 : zft 128 131 = some (.goto (-31), 3) := by decide +kernel
theorem f128_134 : zft 128 134 = some (.iload_n 3, 1) := by decide +kernel
theorem f128_135 : zft 128 135 = some (.aload_n 0, 1) := by decide +kernel
theorem f128_136 : zft 128 136 = some (.getfield 122, 3) := by decide +kernel
theorem f128_139 : zft 128 139 = some (.ifCond .ne 7, 3) := by decide +kernel
theorem f128_142 : zft 128 142 = some (.iconst 0, 1) := by decide +kernel
theorem f128_143 : zft 128 143 = some (.goto 10, 3) := by decide +kernel
theorem f128_146 : zft 128 146 = some (.iload 4, 2) := by decide +kernel
theorem f128_148 : zft 128 148 = some (.aload_n 0, 1) := by decide +kernel
theorem f128_149 : zft 128 149 = some (.getfield 122, 3) := by decide +kernel
theorem f128_152 : zft 128 152 = some (.idiv, 1) := by decide +kernel
theorem f128_153 : zft 128 153 = some (.iadd, 1) := by decide +kernel
theorem f128_154 : zft 128 154 = some (.ireturn, 1) := by decide +kernel
theorem o128 : zo 128 = 7 := by decide +kernel
theorem p128 : zp 128 = 2 := by decide +kernel
theorem n128 : zn 128 = 6 := by decide +kernel
theorem v128 : zr 128 = (some .int) := by decide +kernel
theorem f129_0 : zft 129 0 = some (.iconst 0, 1) := by decide +kernel
theorem f129_1 : zft 129 1 = some (.istore_n 2, 1) := by decide +kernel
theorem f129_2 : zft 129 2 = some (.iconst 0, 1) := by decide +kernel
theorem f129_3 : zft 129 3 = some (.istore_n 3, 1) := by decide +kernel
theorem f129_4 : zft 129 4 = some (.iload_n 3, 1) := by decide +kernel
theorem f129_5 : zft 129 5 = some (.aload_n 0, 1) := by decide +kernel
theorem f129_6 : zft 129 6 = some (.getfield 94, 3) := by decide +kernel
theorem f129_9 : zft 129 9 = some (.if_icmp .ge 27, 3) := by decide +kernel
theorem f129_12 : zft 129 12 = some (.iload_n 2, 1) := by decide +kernel
theorem f129_13 : zft 129 13 = some (.aload_n 0, 1) := by decide +kernel
theorem f129_14 : zft 129 14 = some (.getfield 41, 3) := by decide +kernel
theorem f129_17 : zft 129 17 = some (.iload_n 3, 1) := by decide +kernel
theorem f129_18 : zft 129 18 = some (.iaload, 1) := by decide +kernel
theorem f129_19 : zft 129 19 = some (.iload_n 1, 1) := by decide +kernel
theorem f129_20 : zft 129 20 = some (.if_icmp .ne 7, 3) := by decide +kernel
theorem f129_23 : zft 129 23 = some (.iconst 1, 1) := by decide +kernel
theorem f129_24 : zft 129 24 = some (.goto 4, 3) := by decide +kernel
theorem f129_27 : zft 129 27 = some (.iconst 0, 1) := by decide +kernel
theorem f129_28 : zft 129 28 = some (.iadd, 1) := by decide +kernel
theorem f129_29 : zft 129 29 = some (.istore_n 2, 1) := by decide +kernel
theorem f129_30 : zft 129 30 = some (.iinc 3 1, 3) := by decide +kernel
theorem f129_33 : zft 129 33 = some (.goto (-29), 3) := by decide +kernel
theorem f129_36 : zft 129 36 = some (.iload_n 2, 1) := by decide +kernel
theorem f129_37 : zft 129 37 = some (.ireturn, 1) := by decide +kernel
theorem o129 : zo 129 = 7 := by decide +kernel
theorem p129 : zp 129 = 1 := by decide +kernel
theorem n129 : zn 129 = 4 := by decide +kernel
theorem v129 : zr 129 = (some .int) := by decide +kernel
theorem f130_0 : zft 130 0 = some (.iload_n 1, 1) := by decide +kernel
theorem f130_1 : zft 130 1 = some (.tableswitch 140 0 9 #[55, 60, 65, 70, 75, 112, 118, 124, 130, 135], 55) := by decide +kernel
theorem f130_56 : zft 130 56 = some (.aload_n 0, 1) := by decide +kernel
theorem f130_57 : zft 130 57 = some (.getfield 86, 3) := by decide +kernel
theorem f130_60 : zft 130 60 = some (.ireturn, 1) := by decide +kernel
theorem f130_61 : zft 130 61 = some (.aload_n 0, 1) := by decide +kernel
theorem f130_62 : zft 130 62 = some (.getfield 101, 3) := by decide +kernel
theorem f130_65 : zft 130 65 = some (.ireturn, 1) := by decide +kernel
theorem f130_66 : zft 130 66 = some (.aload_n 0, 1) := by decide +kernel
theorem f130_67 : zft 130 67 = some (.getfield 94, 3) := by decide +kernel
theorem f130_70 : zft 130 70 = some (.ireturn, 1) := by decide +kernel
theorem f130_71 : zft 130 71 = some (.aload_n 0, 1) := by decide +kernel
theorem f130_72 : zft 130 72 = some (.getfield 122, 3) := by decide +kernel
theorem f130_75 : zft 130 75 = some (.ireturn, 1) := by decide +kernel
theorem f130_76 : zft 130 76 = some (.iconst 0, 1) := by decide +kernel
theorem f130_77 : zft 130 77 = some (.istore_n 2, 1) := by decide +kernel
theorem f130_78 : zft 130 78 = some (.iconst 0, 1) := by decide +kernel
theorem f130_79 : zft 130 79 = some (.istore_n 3, 1) := by decide +kernel
theorem f130_80 : zft 130 80 = some (.iload_n 3, 1) := by decide +kernel
theorem f130_81 : zft 130 81 = some (.aload_n 0, 1) := by decide +kernel
theorem f130_82 : zft 130 82 = some (.getfield 173, 3) := by decide +kernel
theorem f130_85 : zft 130 85 = some (.if_icmp .ge 26, 3) := by decide +kernel
theorem f130_88 : zft 130 88 = some (.iload_n 2, 1) := by decide +kernel
theorem f130_89 : zft 130 89 = some (.aload_n 0, 1) := by decide +kernel
theorem f130_90 : zft 130 90 = some (.getfield 83, 3) := by decide +kernel
theorem f130_93 : zft 130 93 = some (.iload_n 3, 1) := by decide +kernel
theorem f130_94 : zft 130 94 = some (.baload, 1) := by decide +kernel
theorem f130_95 : zft 130 95 = some (.ifCond .eq 7, 3) := by decide +kernel
theorem f130_98 : zft 130 98 = some (.iconst 0, 1) := by decide +kernel
theorem f130_99 : zft 130 99 = some (.goto 4, 3) := by decide +kernel
theorem f130_102 : zft 130 102 = some (.iconst 1, 1) := by decide +kernel
theorem f130_103 : zft 130 103 = some (.iadd, 1) := by decide +kernel
theorem f130_104 : zft 130 104 = some (.istore_n 2, 1) := by decide +kernel
theorem f130_105 : zft 130 105 = some (.iinc 3 1, 3) := by decide +kernel
theorem f130_108 : zft 130 108 = some (.goto (-28), 3) := by decide +kernel
theorem f130_111 : zft 130 111 = some (.iload_n 2, 1) := by decide +kernel
theorem f130_112 : zft 130 112 = some (.ireturn, 1) := by decide +kernel
theorem f130_113 : zft 130 113 = some (.aload_n 0, 1) := by decide +kernel
theorem f130_114 : zft 130 114 = some (.iconst 1, 1) := by decide +kernel
theorem f130_115 : zft 130 115 = some (.invokevirtual 185, 3) := by decide +kernel
theorem f130_118 : zft 130 118 = some (.ireturn, 1) := by decide +kernel
theorem f130_119 : zft 130 119 = some (.aload_n 0, 1) := by decide +kernel
theorem f130_120 : zft 130 120 = some (.iconst 2, 1) := by decide +kernel
theorem f130_121 : zft 130 121 = some (.invokevirtual 185, 3) := by decide +kernel
theorem f130_124 : zft 130 124 = some (.ireturn, 1) := by decide +kernel
theorem f130_125 : zft 130 125 = some (.aload_n 0, 1) := by decide +kernel
theorem f130_126 : zft 130 126 = some (.iconst 3, 1) := by decide +kernel
theorem f130_127 : zft 130 127 = some (.invokevirtual 185, 3) := by decide +kernel
theorem f130_130 : zft 130 130 = some (.ireturn, 1) := by decide +kernel
theorem f130_131 : zft 130 131 = some (.aload_n 0, 1) := by decide +kernel
theorem f130_132 : zft 130 132 = some (.getfield 154, 3) := by decide +kernel
theorem f130_135 : zft 130 135 = some (.ireturn, 1) := by decide +kernel
theorem f130_136 : zft 130 136 = some (.aload_n 0, 1) := by decide +kernel
theorem f130_137 : zft 130 137 = some (.getfield 179, 3) := by decide +kernel
theorem f130_140 : zft 130 140 = some (.ireturn, 1) := by decide +kernel
theorem f130_141 : zft 130 141 = some (.bipush (-2), 2) := by decide +kernel
theorem f130_143 : zft 130 143 = some (.ireturn, 1) := by decide +kernel
theorem o130 : zo 130 = 7 := by decide +kernel
theorem p130 : zp 130 = 1 := by decide +kernel
theorem n130 : zn 130 = 4 := by decide +kernel
theorem v130 : zr 130 = (some .int) := by decide +kernel
theorem f131_0 : zft 131 0 = some (.ldc2_w 188, 3) := by decide +kernel
theorem f131_3 : zft 131 3 = some (.lstore_n 1, 1) := by decide +kernel
theorem f131_4 : zft 131 4 = some (.iconst 0, 1) := by decide +kernel
theorem f131_5 : zft 131 5 = some (.istore_n 3, 1) := by decide +kernel
theorem f131_6 : zft 131 6 = some (.iload_n 3, 1) := by decide +kernel
theorem f131_7 : zft 131 7 = some (.bipush 10, 2) := by decide +kernel
theorem f131_9 : zft 131 9 = some (.if_icmp .ge 22, 3) := by decide +kernel
theorem f131_12 : zft 131 12 = some (.ldc2_w 190, 3) := by decide +kernel
theorem f131_15 : zft 131 15 = some (.lload_n 1, 1) := by decide +kernel
theorem f131_16 : zft 131 16 = some (.lmul, 1) := by decide +kernel
theorem f131_17 : zft 131 17 = some (.aload_n 0, 1) := by decide +kernel
theorem f131_18 : zft 131 18 = some (.iload_n 3, 1) := by decide +kernel
theorem f131_19 : zft 131 19 = some (.invokevirtual 192, 3) := by decide +kernel
theorem f131_22 : zft 131 22 = some (.i2l, 1) := by decide +kernel
theorem f131_23 : zft 131 23 = some (.ladd, 1) := by decide +kernel
theorem f131_24 : zft 131 24 = some (.lstore_n 1, 1) := by decide +kernel
theorem f131_25 : zft 131 25 = some (.iinc 3 1, 3) := by decide +kernel
theorem f131_28 : zft 131 28 = some (.goto (-22), 3) := by decide +kernel
theorem f131_31 : zft 131 31 = some (.iconst 0, 1) := by decide +kernel
theorem f131_32 : zft 131 32 = some (.istore_n 3, 1) := by decide +kernel
theorem f131_33 : zft 131 33 = some (.iload_n 3, 1) := by decide +kernel
theorem f131_34 : zft 131 34 = some (.aload_n 0, 1) := by decide +kernel
theorem f131_35 : zft 131 35 = some (.getfield 94, 3) := by decide +kernel
theorem f131_38 : zft 131 38 = some (.if_icmp .ge 80, 3) := by decide +kernel
theorem f131_41 : zft 131 41 = some (.iconst 3, 1) := by decide +kernel
theorem f131_42 : zft 131 42 = some (.istore 4, 2) := by decide +kernel
theorem f131_44 : zft 131 44 = some (.iload 4, 2) := by decide +kernel
theorem f131_46 : zft 131 46 = some (.bipush 7, 2) := by decide +kernel
theorem f131_48 : zft 131 48 = some (.if_icmp .ge 24, 3) := by decide +kernel
theorem f131_51 : zft 131 51 = some (.ldc2_w 190, 3) := by decide +kernel
theorem f131_54 : zft 131 54 = some (.lload_n 1, 1) := by decide +kernel
theorem f131_55 : zft 131 55 = some (.lmul, 1) := by decide +kernel
theorem f131_56 : zft 131 56 = some (.aload_n 0, 1) := by decide +kernel
theorem f131_57 : zft 131 57 = some (.iload_n 3, 1) := by decide +kernel
theorem f131_58 : zft 131 58 = some (.iload 4, 2) := by decide +kernel
theorem f131_60 : zft 131 60 = some (.invokevirtual 195, 3) := by decide +kernel
theorem f131_63 : zft 131 63 = some (.i2l, 1) := by decide +kernel
theorem f131_64 : zft 131 64 = some (.ladd, 1) := by decide +kernel
theorem f131_65 : zft 131 65 = some (.lstore_n 1, 1) := by decide +kernel
theorem f131_66 : zft 131 66 = some (.iinc 4 1, 3) := by decide +kernel
theorem f131_69 : zft 131 69 = some (.goto (-25), 3) := by decide +kernel
theorem f131_72 : zft 131 72 = some (.iconst 0, 1) := by decide +kernel
theorem f131_73 : zft 131 73 = some (.istore 4, 2) := by decide +kernel
theorem f131_75 : zft 131 75 = some (.iload 4, 2) := by decide +kernel
theorem f131_77 : zft 131 77 = some (.aload_n 0, 1) := by decide +kernel
theorem f131_78 : zft 131 78 = some (.getfield 35, 3) := by decide +kernel
theorem f131_81 : zft 131 81 = some (.iload_n 3, 1) := by decide +kernel
theorem f131_82 : zft 131 82 = some (.iaload, 1) := by decide +kernel
theorem f131_83 : zft 131 83 = some (.if_icmp .ge 29, 3) := by decide +kernel
theorem f131_86 : zft 131 86 = some (.ldc2_w 190, 3) := by decide +kernel
theorem f131_89 : zft 131 89 = some (.lload_n 1, 1) := by decide +kernel
theorem f131_90 : zft 131 90 = some (.lmul, 1) := by decide +kernel
theorem f131_91 : zft 131 91 = some (.aload_n 0, 1) := by decide +kernel
theorem f131_92 : zft 131 92 = some (.getfield 38, 3) := by decide +kernel
theorem f131_95 : zft 131 95 = some (.bipush 7, 2) := by decide +kernel
theorem f131_97 : zft 131 97 = some (.iload_n 3, 1) := by decide +kernel
theorem f131_98 : zft 131 98 = some (.imul, 1) := by decide +kernel
theorem f131_99 : zft 131 99 = some (.iload 4, 2) := by decide +kernel
theorem f131_101 : zft 131 101 = some (.iadd, 1) := by decide +kernel
theorem f131_102 : zft 131 102 = some (.iaload, 1) := by decide +kernel
theorem f131_103 : zft 131 103 = some (.i2l, 1) := by decide +kernel
theorem f131_104 : zft 131 104 = some (.ladd, 1) := by decide +kernel
theorem f131_105 : zft 131 105 = some (.lstore_n 1, 1) := by decide +kernel
theorem f131_106 : zft 131 106 = some (.iinc 4 1, 3) := by decide +kernel
theorem f131_109 : zft 131 109 = some (.goto (-34), 3) := by decide +kernel
theorem f131_112 : zft 131 112 = some (.iinc 3 1, 3) := by decide +kernel
theorem f131_115 : zft 131 115 = some (.goto (-82), 3) := by decide +kernel
theorem f131_118 : zft 131 118 = some (.iconst 0, 1) := by decide +kernel
theorem f131_119 : zft 131 119 = some (.istore_n 3, 1) := by decide +kernel
theorem f131_120 : zft 131 120 = some (.iload_n 3, 1) := by decide +kernel
theorem f131_121 : zft 131 121 = some (.aload_n 0, 1) := by decide +kernel
theorem f131_122 : zft 131 122 = some (.getfield 86, 3) := by decide +kernel
theorem f131_125 : zft 131 125 = some (.if_icmp .ge 43, 3) := by decide +kernel
theorem f131_128 : zft 131 128 = some (.aload_n 0, 1) := by decide +kernel
theorem f131_129 : zft 131 129 = some (.getfield 122, 3) := by decide +kernel
theorem f131_132 : zft 131 132 = some (.istore 4, 2) := by decide +kernel
theorem f131_134 : zft 131 134 = some (.iload 4, 2) := by decide +kernel
theorem f131_136 : zft 131 136 = some (.bipush 40, 2) := by decide +kernel
theorem f131_138 : zft 131 138 = some (.if_icmp .ge 24, 3) := by decide +kernel
theorem f131_141 : zft 131 141 = some (.ldc2_w 190, 3) := by decide +kernel
theorem f131_144 : zft 131 144 = some (.lload_n 1, 1) := by decide +kernel
theorem f131_145 : zft 131 145 = some (.lmul, 1) := by decide +kernel
theorem f131_146 : zft 131 146 = some (.aload_n 0, 1) := by decide +kernel
theorem f131_147 : zft 131 147 = some (.iload_n 3, 1) := by decide +kernel
theorem f131_148 : zft 131 148 = some (.iload 4, 2) := by decide +kernel
theorem f131_150 : zft 131 150 = some (.invokevirtual 115, 3) := by decide +kernel
theorem f131_153 : zft 131 153 = some (.i2l, 1) := by decide +kernel
theorem f131_154 : zft 131 154 = some (.ladd, 1) := by decide +kernel
theorem f131_155 : zft 131 155 = some (.lstore_n 1, 1) := by decide +kernel
theorem f131_156 : zft 131 156 = some (.iinc 4 1, 3) := by decide +kernel
theorem f131_159 : zft 131 159 = some (.goto (-25), 3) := by decide +kernel
theorem f131_162 : zft 131 162 = some (.iinc 3 1, 3) := by decide +kernel
theorem f131_165 : zft 131 165 = some (.goto (-45), 3) := by decide +kernel
theorem f131_168 : zft 131 168 = some (.lload_n 1, 1) := by decide +kernel
theorem f131_169 : zft 131 169 = some (.lreturn, 1) := by decide +kernel
theorem o131 : zo 131 = 7 := by decide +kernel
theorem p131 : zp 131 = 0 := by decide +kernel
theorem n131 : zn 131 = 5 := by decide +kernel
theorem v131 : zr 131 = (some .long) := by decide +kernel
end
section
theorem f132_0 : zft 132 0 = some (.new 7, 3) := by decide +kernel
theorem f132_3 : zft 132 3 = some (.dup, 1) := by decide +kernel
theorem f132_4 : zft 132 4 = some (.invokespecial 9, 3) := by decide +kernel
theorem f132_7 : zft 132 7 = some (.astore_n 1, 1) := by decide +kernel
theorem f132_8 : zft 132 8 = some (.new 10, 3) := by decide +kernel
theorem f132_11 : zft 132 11 = some (.dup, 1) := by decide +kernel
theorem f132_12 : zft 132 12 = some (.invokespecial 12, 3) := by decide +kernel
theorem f132_15 : zft 132 15 = some (.astore_n 2, 1) := by decide +kernel
theorem f132_16 : zft 132 16 = some (.iconst 0, 1) := by decide +kernel
theorem f132_17 : zft 132 17 = some (.istore_n 3, 1) := by decide +kernel
theorem f132_18 : zft 132 18 = some (.iload_n 3, 1) := by decide +kernel
theorem f132_19 : zft 132 19 = some (.aload_n 0, 1) := by decide +kernel
theorem f132_20 : zft 132 20 = some (.arraylength, 1) := by decide +kernel
theorem f132_21 : zft 132 21 = some (.iconst 5, 1) := by decide +kernel
theorem f132_22 : zft 132 22 = some (.isub, 1) := by decide +kernel
theorem f132_23 : zft 132 23 = some (.if_icmp .gt 900, 3) := by decide +kernel
theorem f132_26 : zft 132 26 = some (.aload_n 0, 1) := by decide +kernel
theorem f132_27 : zft 132 27 = some (.iload_n 3, 1) := by decide +kernel
theorem f132_28 : zft 132 28 = some (.iaload, 1) := by decide +kernel
theorem f132_29 : zft 132 29 = some (.bipush 31, 2) := by decide +kernel
theorem f132_31 : zft 132 31 = some (.iand, 1) := by decide +kernel
theorem f132_32 : zft 132 32 = some (.tableswitch 885 0 23 #[112, 165, 208, 241, 284, 317, 360, 403, 436, 459, 482, 515, 538, 561, 594, 637, 680, 703, 726, 769, 782, 815, 848, 871], 112) := by decide +kernel
theorem f132_144 : zft 132 144 = some (.aload_n 1, 1) := by decide +kernel
theorem f132_145 : zft 132 145 = some (.aload_n 0, 1) := by decide +kernel
theorem f132_146 : zft 132 146 = some (.iload_n 3, 1) := by decide +kernel
theorem f132_147 : zft 132 147 = some (.iconst 1, 1) := by decide +kernel
theorem f132_148 : zft 132 148 = some (.iadd, 1) := by decide +kernel
theorem f132_149 : zft 132 149 = some (.iaload, 1) := by decide +kernel
theorem f132_150 : zft 132 150 = some (.aload_n 0, 1) := by decide +kernel
theorem f132_151 : zft 132 151 = some (.iload_n 3, 1) := by decide +kernel
theorem f132_152 : zft 132 152 = some (.iconst 2, 1) := by decide +kernel
theorem f132_153 : zft 132 153 = some (.iadd, 1) := by decide +kernel
theorem f132_154 : zft 132 154 = some (.iaload, 1) := by decide +kernel
theorem f132_155 : zft 132 155 = some (.aload_n 0, 1) := by decide +kernel
theorem f132_156 : zft 132 156 = some (.iload_n 3, 1) := by decide +kernel
theorem f132_157 : zft 132 157 = some (.iconst 3, 1) := by decide +kernel
theorem f132_158 : zft 132 158 = some (.iadd, 1) := by decide +kernel
theorem f132_159 : zft 132 159 = some (.iaload, 1) := by decide +kernel
theorem f132_160 : zft 132 160 = some (.aload_n 0, 1) := by decide +kernel
theorem f132_161 : zft 132 161 = some (.iload_n 3, 1) := by decide +kernel
theorem f132_162 : zft 132 162 = some (.iconst 4, 1) := by decide +kernel
theorem f132_163 : zft 132 163 = some (.iadd, 1) := by decide +kernel
theorem f132_164 : zft 132 164 = some (.iaload, 1) := by decide +kernel
theorem f132_165 : zft 132 165 = some (.invokevirtual 13, 3) := by decide +kernel
theorem f132_168 : zft 132 168 = some (.aload_n 2, 1) := by decide +kernel
theorem f132_169 : zft 132 169 = some (.aload_n 0, 1) := by decide +kernel
theorem f132_170 : zft 132 170 = some (.iload_n 3, 1) := by decide +kernel
theorem f132_171 : zft 132 171 = some (.iconst 1, 1) := by decide +kernel
theorem f132_172 : zft 132 172 = some (.iadd, 1) := by decide +kernel
theorem f132_173 : zft 132 173 = some (.iaload, 1) := by decide +kernel
theorem f132_174 : zft 132 174 = some (.aload_n 0, 1) := by decide +kernel
theorem f132_175 : zft 132 175 = some (.iload_n 3, 1) := by decide +kernel
theorem f132_176 : zft 132 176 = some (.iconst 2, 1) := by decide +kernel
theorem f132_177 : zft 132 177 = some (.iadd, 1) := by decide +kernel
theorem f132_178 : zft 132 178 = some (.iaload, 1) := by decide +kernel
theorem f132_179 : zft 132 179 = some (.aload_n 0, 1) := by decide +kernel
theorem f132_180 : zft 132 180 = some (.iload_n 3, 1) := by decide +kernel
theorem f132_181 : zft 132 181 = some (.iconst 3, 1) := by decide +kernel
theorem f132_182 : zft 132 182 = some (.iadd, 1) := by decide +kernel
theorem f132_183 : zft 132 183 = some (.iaload, 1) := by decide +kernel
theorem f132_184 : zft 132 184 = some (.aload_n 0, 1) := by decide +kernel
theorem f132_185 : zft 132 185 = some (.iload_n 3, 1) := by decide +kernel
theorem f132_186 : zft 132 186 = some (.iconst 4, 1) := by decide +kernel
theorem f132_187 : zft 132 187 = some (.iadd, 1) := by decide +kernel
theorem f132_188 : zft 132 188 = some (.iaload, 1) := by decide +kernel
theorem f132_189 : zft 132 189 = some (.invokevirtual 17, 3) := by decide +kernel
theorem f132_192 : zft 132 192 = some (.if_icmp .eq 725, 3) := by decide +kernel
theorem f132_195 : zft 132 195 = some (.iconst 0, 1) := by decide +kernel
theorem f132_196 : zft 132 196 = some (.ireturn, 1) := by decide +kernel
theorem f132_197 : zft 132 197 = some (.aload_n 1, 1) := by decide +kernel
theorem f132_198 : zft 132 198 = some (.aload_n 0, 1) := by decide +kernel
theorem f132_199 : zft 132 199 = some (.iload_n 3, 1) := by decide +kernel
theorem f132_200 : zft 132 200 = some (.iconst 1, 1) := by decide +kernel
theorem f132_201 : zft 132 201 = some (.iadd, 1) := by decide +kernel
theorem f132_202 : zft 132 202 = some (.iaload, 1) := by decide +kernel
theorem f132_203 : zft 132 203 = some (.aload_n 0, 1) := by decide +kernel
theorem f132_204 : zft 132 204 = some (.iload_n 3, 1) := by decide +kernel
theorem f132_205 : zft 132 205 = some (.iconst 2, 1) := by decide +kernel
theorem f132_206 : zft 132 206 = some (.iadd, 1) := by decide +kernel
theorem f132_207 : zft 132 207 = some (.iaload, 1) := by decide +kernel
theorem f132_208 : zft 132 208 = some (.aload_n 0, 1) := by decide +kernel
theorem f132_209 : zft 132 209 = some (.iload_n 3, 1) := by decide +kernel
theorem f132_210 : zft 132 210 = some (.iconst 3, 1) := by decide +kernel
theorem f132_211 : zft 132 211 = some (.iadd, 1) := by decide +kernel
theorem f132_212 : zft 132 212 = some (.iaload, 1) := by decide +kernel
theorem f132_213 : zft 132 213 = some (.invokevirtual 18, 3) := by decide +kernel
theorem f132_216 : zft 132 216 = some (.aload_n 2, 1) := by decide +kernel
theorem f132_217 : zft 132 217 = some (.aload_n 0, 1) := by decide +kernel
theorem f132_218 : zft 132 218 = some (.iload_n 3, 1) := by decide +kernel
theorem f132_219 : zft 132 219 = some (.iconst 1, 1) := by decide +kernel
theorem f132_220 : zft 132 220 = some (.iadd, 1) := by decide +kernel
theorem f132_221 : zft 132 221 = some (.iaload, 1) := by decide +kernel
theorem f132_222 : zft 132 222 = some (.aload_n 0, 1) := by decide +kernel
theorem f132_223 : zft 132 223 = some (.iload_n 3, 1) := by decide +kernel
theorem f132_224 : zft 132 224 = some (.iconst 2, 1) := by decide +kernel
theorem f132_225 : zft 132 225 = some (.iadd, 1) := by decide +kernel
theorem f132_226 : zft 132 226 = some (.iaload, 1) := by decide +kernel
theorem f132_227 : zft 132 227 = some (.aload_n 0, 1) := by decide +kernel
theorem f132_228 : zft 132 228 = some (.iload_n 3, 1) := by decide +kernel
theorem f132_229 : zft 132 229 = some (.iconst 3, 1) := by decide +kernel
theorem f132_230 : zft 132 230 = some (.iadd, 1) := by decide +kernel
theorem f132_231 : zft 132 231 = some (.iaload, 1) := by decide +kernel
theorem f132_232 : zft 132 232 = some (.invokevirtual 22, 3) := by decide +kernel
theorem f132_235 : zft 132 235 = some (.if_icmp .eq 682, 3) := by decide +kernel
theorem f132_238 : zft 132 238 = some (.iconst 0, 1) := by decide +kernel
theorem f132_239 : zft 132 239 = some (.ireturn, 1) := by decide +kernel
theorem f132_240 : zft 132 240 = some (.aload_n 1, 1) := by decide +kernel
theorem f132_241 : zft 132 241 = some (.aload_n 0, 1) := by decide +kernel
theorem f132_242 : zft 132 242 = some (.iload_n 3, 1) := by decide +kernel
theorem f132_243 : zft 132 243 = some (.iconst 1, 1) := by decide +kernel
theorem f132_244 : zft 132 244 = some (.iadd, 1) := by decide +kernel
theorem f132_245 : zft 132 245 = some (.iaload, 1) := by decide +kernel
theorem f132_246 : zft 132 246 = some (.aload_n 0, 1) := by decide +kernel
theorem f132_247 : zft 132 247 = some (.iload_n 3, 1) := by decide +kernel
theorem f132_248 : zft 132 248 = some (.iconst 2, 1) := by decide +kernel
theorem f132_249 : zft 132 249 = some (.iadd, 1) := by decide +kernel
theorem f132_250 : zft 132 250 = some (.iaload, 1) := by decide +kernel
theorem f132_251 : zft 132 251 = some (.invokevirtual 23, 3) := by decide +kernel
theorem f132_254 : zft 132 254 = some (.aload_n 2, 1) := by decide +kernel
theorem f132_255 : zft 132 255 = some (.aload_n 0, 1) := by decide +kernel
theorem f132_256 : zft 132 256 = some (.iload_n 3, 1) := by decide +kernel
theorem f132_257 : zft 132 257 = some (.iconst 1, 1) := by decide +kernel
theorem f132_258 : zft 132 258 = some (.iadd, 1) := by decide +kernel
theorem f132_259 : zft 132 259 = some (.iaload, 1) := by decide +kernel
theorem f132_260 : zft 132 260 = some (.aload_n 0, 1) := by decide +kernel
theorem f132_261 : zft 132 261 = some (.iload_n 3, 1) := by decide +kernel
theorem f132_262 : zft 132 262 = some (.iconst 2, 1) := by decide +kernel
theorem f132_263 : zft 132 263 = some (.iadd, 1) := by decide +kernel
theorem f132_264 : zft 132 264 = some (.iaload, 1) := by decide +kernel
theorem f132_265 : zft 132 265 = some (.invokevirtual 27, 3) := by decide +kernel
theorem f132_268 : zft 132 268 = some (.if_icmp .eq 649, 3) := by decide +kernel
theorem f132_271 : zft 132 271 = some (.iconst 0, 1) := by decide +kernel
theorem f132_272 : zft 132 272 = some (.ireturn, 1) := by decide +kernel
theorem f132_273 : zft 132 273 = some (.aload_n 1, 1) := by decide +kernel
theorem f132_274 : zft 132 274 = some (.aload_n 0, 1) := by decide +kernel
theorem f132_275 : zft 132 275 = some (.iload_n 3, 1) := by decide +kernel
theorem f132_276 : zft 132 276 = some (.iconst 1, 1) := by decide +kernel
theorem f132_277 : zft 132 277 = some (.iadd, 1) := by decide +kernel
theorem f132_278 : zft 132 278 = some (.iaload, 1) := by decide +kernel
theorem f132_279 : zft 132 279 = some (.aload_n 0, 1) := by decide +kernel
theorem f132_280 : zft 132 280 = some (.iload_n 3, 1) := by decide +kernel
theorem f132_281 : zft 132 281 = some (.iconst 2, 1) := by decide +kernel
theorem f132_282 : zft 132 282 = some (.iadd, 1) := by decide +kernel
theorem f132_283 : zft 132 283 = some (.iaload, 1) := by decide +kernel
theorem f132_284 : zft 132 284 = some (.aload_n 0, 1) := by decide +kernel
theorem f132_285 : zft 132 285 = some (.iload_n 3, 1) := by decide +kernel
theorem f132_286 : zft 132 286 = some (.iconst 3, 1) := by decide +kernel
theorem f132_287 : zft 132 287 = some (.iadd, 1) := by decide +kernel
theorem f132_288 : zft 132 288 = some (.iaload, 1) := by decide +kernel
theorem f132_289 : zft 132 289 = some (.invokevirtual 28, 3) := by decide +kernel
theorem f132_292 : zft 132 292 = some (.aload_n 2, 1) := by decide +kernel
theorem f132_293 : zft 132 293 = some (.aload_n 0, 1) := by decide +kernel
theorem f132_294 : zft 132 294 = some (.iload_n 3, 1) := by decide +kernel
theorem f132_295 : zft 132 295 = some (.iconst 1, 1) := by decide +kernel
theorem f132_296 : zft 132 296 = some (.iadd, 1) := by decide +kernel
theorem f132_297 : zft 132 297 = some (.iaload, 1) := by decide +kernel
theorem f132_298 : zft 132 298 = some (.aload_n 0, 1) := by decide +kernel
theorem f132_299 : zft 132 299 = some (.iload_n 3, 1) := by decide +kernel
theorem f132_300 : zft 132 300 = some (.iconst 2, 1) := by decide +kernel
theorem f132_301 : zft 132 301 = some (.iadd, 1) := by decide +kernel
theorem f132_302 : zft 132 302 = some (.iaload, 1) := by decide +kernel
theorem f132_303 : zft 132 303 = some (.aload_n 0, 1) := by decide +kernel
theorem f132_304 : zft 132 304 = some (.iload_n 3, 1) := by decide +kernel
theorem f132_305 : zft 132 305 = some (.iconst 3, 1) := by decide +kernel
theorem f132_306 : zft 132 306 = some (.iadd, 1) := by decide +kernel
theorem f132_307 : zft 132 307 = some (.iaload, 1) := by decide +kernel
theorem f132_308 : zft 132 308 = some (.invokevirtual 31, 3) := by decide +kernel
theorem f132_311 : zft 132 311 = some (.if_icmp .eq 606, 3) := by decide +kernel
theorem f132_314 : zft 132 314 = some (.iconst 0, 1) := by decide +kernel
theorem f132_315 : zft 132 315 = some (.ireturn, 1) := by decide +kernel
theorem f132_316 : zft 132 316 = some (.aload_n 1, 1) := by decide +kernel
theorem f132_317 : zft 132 317 = some (.aload_n 0, 1) := by decide +kernel
theorem f132_318 : zft 132 318 = some (.iload_n 3, 1) := by decide +kernel
theorem f132_319 : zft 132 319 = some (.iconst 1, 1) := by decide +kernel
theorem f132_320 : zft 132 320 = some (.iadd, 1) := by decide +kernel
theorem f132_321 : zft 132 321 = some (.iaload, 1) := by decide +kernel
theorem f132_322 : zft 132 322 = some (.aload_n 0, 1) := by decide +kernel
theorem f132_323 : zft 132 323 = some (.iload_n 3, 1) := by decide +kernel
theorem f132_324 : zft 132 324 = some (.iconst 2, 1) := by decide +kernel
theorem f132_325 : zft 132 325 = some (.iadd, 1) := by decide +kernel
theorem f132_326 : zft 132 326 = some (.iaload, 1) := by decide +kernel
theorem f132_327 : zft 132 327 = some (.invokevirtual 32, 3) := by decide +kernel
theorem f132_330 : zft 132 330 = some (.aload_n 2, 1) := by decide +kernel
theorem f132_331 : zft 132 331 = some (.aload_n 0, 1) := by decide +kernel
theorem f132_332 : zft 132 332 = some (.iload_n 3, 1) := by decide +kernel
theorem f132_333 : zft 132 333 = some (.iconst 1, 1) := by decide +kernel
theorem f132_334 : zft 132 334 = some (.iadd, 1) := by decide +kernel
theorem f132_335 : zft 132 335 = some (.iaload, 1) := by decide +kernel
theorem f132_336 : zft 132 336 = some (.aload_n 0, 1) := by decide +kernel
theorem f132_337 : zft 132 337 = some (.iload_n 3, 1) := by decide +kernel
theorem f132_338 : zft 132 338 = some (.iconst 2, 1) := by decide +kernel
theorem f132_339 : zft 132 339 = some (.iadd, 1) := by decide +kernel
theorem f132_340 : zft 132 340 = some (.iaload, 1) := by decide +kernel
theorem f132_341 : zft 132 341 = some (.invokevirtual 35, 3) := by decide +kernel
theorem f132_344 : zft 132 344 = some (.if_icmp .eq 573, 3) := by decide +kernel
theorem f132_347 : zft 132 347 = some (.iconst 0, 1) := by decide +kernel
theorem f132_348 : zft 132 348 = some (.ireturn, 1) := by decide +kernel
theorem f132_349 : zft 132 349 = some (.aload_n 1, 1) := by decide +kernel
theorem f132_350 : zft 132 350 = some (.aload_n 0, 1) := by decide +kernel
theorem f132_351 : zft 132 351 = some (.iload_n 3, 1) := by decide +kernel
theorem f132_352 : zft 132 352 = some (.iconst 1, 1) := by decide +kernel
theorem f132_353 : zft 132 353 = some (.iadd, 1) := by decide +kernel
theorem f132_354 : zft 132 354 = some (.iaload, 1) := by decide +kernel
theorem f132_355 : zft 132 355 = some (.aload_n 0, 1) := by decide +kernel
theorem f132_356 : zft 132 356 = some (.iload_n 3, 1) := by decide +kernel
theorem f132_357 : zft 132 357 = some (.iconst 2, 1) := by decide +kernel
theorem f132_358 : zft 132 358 = some (.iadd, 1) := by decide +kernel
theorem f132_359 : zft 132 359 = some (.iaload, 1) := by decide +kernel
theorem f132_360 : zft 132 360 = some (.aload_n 0, 1) := by decide +kernel
theorem f132_361 : zft 132 361 = some (.iload_n 3, 1) := by decide +kernel
theorem f132_362 : zft 132 362 = some (.iconst 3, 1) := by decide +kernel
theorem f132_363 : zft 132 363 = some (.iadd, 1) := by decide +kernel
theorem f132_364 : zft 132 364 = some (.iaload, 1) := by decide +kernel
theorem f132_365 : zft 132 365 = some (.invokevirtual 36, 3) := by decide +kernel
theorem f132_368 : zft 132 368 = some (.aload_n 2, 1) := by decide +kernel
theorem f132_369 : zft 132 369 = some (.aload_n 0, 1) := by decide +kernel
theorem f132_370 : zft 132 370 = some (.iload_n 3, 1) := by decide +kernel
theorem f132_371 : zft 132 371 = some (.iconst 1, 1) := by decide +kernel
theorem f132_372 : zft 132 372 = some (.iadd, 1) := by decide +kernel
theorem f132_373 : zft 132 373 = some (.iaload, 1) := by decide +kernel
theorem f132_374 : zft 132 374 = some (.aload_n 0, 1) := by decide +kernel
theorem f132_375 : zft 132 375 = some (.iload_n 3, 1) := by decide +kernel
theorem f132_376 : zft 132 376 = some (.iconst 2, 1) := by decide +kernel
theorem f132_377 : zft 132 377 = some (.iadd, 1) := by decide +kernel
theorem f132_378 : zft 132 378 = some (.iaload, 1) := by decide +kernel
theorem f132_379 : zft 132 379 = some (.aload_n 0, 1) := by decide +kernel
theorem f132_380 : zft 132 380 = some (.iload_n 3, 1) := by decide +kernel
theorem f132_381 : zft 132 381 = some (.iconst 3, 1) := by decide +kernel
theorem f132_382 : zft 132 382 = some (.iadd, 1) := by decide +kernel
theorem f132_383 : zft 132 383 = some (.iaload, 1) := by decide +kernel
theorem f132_384 : zft 132 384 = some (.invokevirtual 39, 3) := by decide +kernel
theorem f132_387 : zft 132 387 = some (.if_icmp .eq 530, 3) := by decide +kernel
theorem f132_390 : zft 132 390 = some (.iconst 0, 1) := by decide +kernel
theorem f132_391 : zft 132 391 = some (.ireturn, 1) := by decide +kernel
theorem f132_392 : zft 132 392 = some (.aload_n 1, 1) := by decide +kernel
theorem f132_393 : zft 132 393 = some (.aload_n 0, 1) := by decide +kernel
theorem f132_394 : zft 132 394 = some (.iload_n 3, 1) := by decide +kernel
theorem f132_395 : zft 132 395 = some (.iconst 1, 1) := by decide +kernel
theorem f132_396 : zft 132 396 = some (.iadd, 1) := by decide +kernel
theorem f132_397 : zft 132 397 = some (.iaload, 1) := by decide +kernel
theorem f132_398 : zft 132 398 = some (.aload_n 0, 1) := by decide +kernel
theorem f132_399 : zft 132 399 = some (.iload_n 3, 1) := by decide +kernel
theorem f132_400 : zft 132 400 = some (.iconst 2, 1) := by decide +kernel
theorem f132_401 : zft 132 401 = some (.iadd, 1) := by decide +kernel
theorem f132_402 : zft 132 402 = some (.iaload, 1) := by decide +kernel
theorem f132_403 : zft 132 403 = some (.aload_n 0, 1) := by decide +kernel
theorem f132_404 : zft 132 404 = some (.iload_n 3, 1) := by decide +kernel
theorem f132_405 : zft 132 405 = some (.iconst 3, 1) := by decide +kernel
theorem f132_406 : zft 132 406 = some (.iadd, 1) := by decide +kernel
theorem f132_407 : zft 132 407 = some (.iaload, 1) := by decide +kernel
theorem f132_408 : zft 132 408 = some (.invokevirtual 40, 3) := by decide +kernel
theorem f132_411 : zft 132 411 = some (.aload_n 2, 1) := by decide +kernel
theorem f132_412 : zft 132 412 = some (.aload_n 0, 1) := by decide +kernel
theorem f132_413 : zft 132 413 = some (.iload_n 3, 1) := by decide +kernel
theorem f132_414 : zft 132 414 = some (.iconst 1, 1) := by decide +kernel
theorem f132_415 : zft 132 415 = some (.iadd, 1) := by decide +kernel
theorem f132_416 : zft 132 416 = some (.iaload, 1) := by decide +kernel
theorem f132_417 : zft 132 417 = some (.aload_n 0, 1) := by decide +kernel
theorem f132_418 : zft 132 418 = some (.iload_n 3, 1) := by decide +kernel
theorem f132_419 : zft 132 419 = some (.iconst 2, 1) := by decide +kernel
theorem f132_420 : zft 132 420 = some (.iadd, 1) := by decide +kernel
theorem f132_421 : zft 132 421 = some (.iaload, 1) := by decide +kernel
theorem f132_422 : zft 132 422 = some (.aload_n 0, 1) := by decide +kernel
theorem f132_423 : zft 132 423 = some (.iload_n 3, 1) := by decide +kernel
theorem f132_424 : zft 132 424 = some (.iconst 3, 1) := by decide +kernel
theorem f132_425 : zft 132 425 = some (.iadd, 1) := by decide +kernel
theorem f132_426 : zft 132 426 = some (.iaload, 1) := by decide +kernel
theorem f132_427 : zft 132 427 = some (.invokevirtual 43, 3) := by decide +kernel
theorem f132_430 : zft 132 430 = some (.if_icmp .eq 487, 3) := by decide +kernel
theorem f132_433 : zft 132 433 = some (.iconst 0, 1) := by decide +kernel
theorem f132_434 : zft 132 434 = some (.ireturn, 1) := by decide +kernel
theorem f132_435 : zft 132 435 = some (.aload_n 1, 1) := by decide +kernel
theorem f132_436 : zft 132 436 = some (.aload_n 0, 1) := by decide +kernel
theorem f132_437 : zft 132 437 = some (.iload_n 3, 1) := by decide +kernel
theorem f132_438 : zft 132 438 = some (.iconst 1, 1) := by decide +kernel
theorem f132_439 : zft 132 439 = some (.iadd, 1) := by decide +kernel
theorem f132_440 : zft 132 440 = some (.iaload, 1) := by decide +kernel
theorem f132_441 : zft 132 441 = some (.aload_n 0, 1) := by decide +kernel
theorem f132_442 : zft 132 442 = some (.iload_n 3, 1) := by decide +kernel
theorem f132_443 : zft 132 443 = some (.iconst 2, 1) := by decide +kernel
theorem f132_444 : zft 132 444 = some (.iadd, 1) := by decide +kernel
theorem f132_445 : zft 132 445 = some (.iaload, 1) := by decide +kernel
theorem f132_446 : zft 132 446 = some (.invokevirtual 44, 3) := by decide +kernel
theorem f132_449 : zft 132 449 = some (.aload_n 2, 1) := by decide +kernel
theorem f132_450 : zft 132 450 = some (.aload_n 0, 1) := by decide +kernel
theorem f132_451 : zft 132 451 = some (.iload_n 3, 1) := by decide +kernel
theorem f132_452 : zft 132 452 = some (.iconst 1, 1) := by decide +kernel
theorem f132_453 : zft 132 453 = some (.iadd, 1) := by decide +kernel
theorem f132_454 : zft 132 454 = some (.iaload, 1) := by decide +kernel
theorem f132_455 : zft 132 455 = some (.aload_n 0, 1) := by decide +kernel
theorem f132_456 : zft 132 456 = some (.iload_n 3, 1) := by decide +kernel
theorem f132_457 : zft 132 457 = some (.iconst 2, 1) := by decide +kernel
theorem f132_458 : zft 132 458 = some (.iadd, 1) := by decide +kernel
theorem f132_459 : zft 132 459 = some (.iaload, 1) := by decide +kernel
theorem f132_460 : zft 132 460 = some (.invokevirtual 47, 3) := by decide +kernel
theorem f132_463 : zft 132 463 = some (.if_icmp .eq 454, 3) := by decide +kernel
theorem f132_466 : zft 132 466 = some (.iconst 0, 1) := by decide +kernel
theorem f132_467 : zft 132 467 = some (.ireturn, 1) := by decide +kernel
theorem f132_468 : zft 132 468 = some (.aload_n 1, 1) := by decide +kernel
theorem f132_469 : zft 132 469 = some (.aload_n 0, 1) := by decide +kernel
theorem f132_470 : zft 132 470 = some (.iload_n 3, 1) := by decide +kernel
theorem f132_471 : zft 132 471 = some (.iconst 1, 1) := by decide +kernel
theorem f132_472 : zft 132 472 = some (.iadd, 1) := by decide +kernel
theorem f132_473 : zft 132 473 = some (.iaload, 1) := by decide +kernel
theorem f132_474 : zft 132 474 = some (.invokevirtual 48, 3) := by decide +kernel
theorem f132_477 : zft 132 477 = some (.aload_n 2, 1) := by decide +kernel
theorem f132_478 : zft 132 478 = some (.aload_n 0, 1) := by decide +kernel
theorem f132_479 : zft 132 479 = some (.iload_n 3, 1) := by decide +kernel
theorem f132_480 : zft 132 480 = some (.iconst 1, 1) := by decide +kernel
theorem f132_481 : zft 132 481 = some (.iadd, 1) := by decide +kernel
theorem f132_482 : zft 132 482 = some (.iaload, 1) := by decide +kernel
theorem f132_483 : zft 132 483 = some (.invokevirtual 52, 3) := by decide +kernel
theorem f132_486 : zft 132 486 = some (.if_icmp .eq 431, 3) := by decide +kernel
theorem f132_489 : zft 132 489 = some (.iconst 0, 1) := by decide +kernel
theorem f132_490 : zft 132 490 = some (.ireturn, 1) := by decide +kernel
theorem f132_491 : zft 132 491 = some (.aload_n 1, 1) := by decide +kernel
theorem f132_492 : zft 132 492 = some (.aload_n 0, 1) := by decide +kernel
theorem f132_493 : zft 132 493 = some (.iload_n 3, 1) := by decide +kernel
theorem f132_494 : zft 132 494 = some (.iconst 1, 1) := by decide +kernel
theorem f132_495 : zft 132 495 = some (.iadd, 1) := by decide +kernel
theorem f132_496 : zft 132 496 = some (.iaload, 1) := by decide +kernel
theorem f132_497 : zft 132 497 = some (.invokevirtual 53, 3) := by decide +kernel
theorem f132_500 : zft 132 500 = some (.aload_n 2, 1) := by decide +kernel
theorem f132_501 : zft 132 501 = some (.aload_n 0, 1) := by decide +kernel
theorem f132_502 : zft 132 502 = some (.iload_n 3, 1) := by decide +kernel
theorem f132_503 : zft 132 503 = some (.iconst 1, 1) := by decide +kernel
theorem f132_504 : zft 132 504 = some (.iadd, 1) := by decide +kernel
theorem f132_505 : zft 132 505 = some (.iaload, 1) := by decide +kernel
theorem f132_506 : zft 132 506 = some (.invokevirtual 56, 3) := by decide +kernel
theorem f132_509 : zft 132 509 = some (.if_icmp .eq 408, 3) := by decide +kernel
theorem f132_512 : zft 132 512 = some (.iconst 0, 1) := by decide +kernel
theorem f132_513 : zft 132 513 = some (.ireturn, 1) := by decide +kernel
theorem f132_514 : zft 132 514 = some (.aload_n 1, 1) := by decide +kernel
theorem f132_515 : zft 132 515 = some (.aload_n 0, 1) := by decide +kernel
theorem f132_516 : zft 132 516 = some (.iload_n 3, 1) := by decide +kernel
theorem f132_517 : zft 132 517 = some (.iconst 1, 1) := by decide +kernel
theorem f132_518 : zft 132 518 = some (.iadd, 1) := by decide +kernel
theorem f132_519 : zft 132 519 = some (.iaload, 1) := by decide +kernel
theorem f132_520 : zft 132 520 = some (.aload_n 0, 1) := by decide +kernel
theorem f132_521 : zft 132 521 = some (.iload_n 3, 1) := by decide +kernel
theorem f132_522 : zft 132 522 = some (.iconst 2, 1) := by decide +kernel
theorem f132_523 : zft 132 523 = some (.iadd, 1) := by decide +kernel
theorem f132_524 : zft 132 524 = some (.iaload, 1) := by decide +kernel
theorem f132_525 : zft 132 525 = some (.invokevirtual 57, 3) := by decide +kernel
theorem f132_528 : zft 132 528 = some (.aload_n 2, 1) := by decide +kernel
theorem f132_529 : zft 132 529 = some (.aload_n 0, 1) := by decide +kernel
theorem f132_530 : zft 132 530 = some (.iload_n 3, 1) := by decide +kernel
theorem f132_531 : zft 132 531 = some (.iconst 1, 1) := by decide +kernel
theorem f132_532 : zft 132 532 = some (.iadd, 1) := by decide +kernel
theorem f132_533 : zft 132 533 = some (.iaload, 1) := by decide +kernel
theorem f132_534 : zft 132 534 = some (.aload_n 0, 1) := by decide +kernel
theorem f132_535 : zft 132 535 = some (.iload_n 3, 1) := by decide +kernel
theorem f132_536 : zft 132 536 = some (.iconst 2, 1) := by decide +kernel
theorem f132_537 : zft 132 537 = some (.iadd, 1) := by decide +kernel
theorem f132_538 : zft 132 538 = some (.iaload, 1) := by decide +kernel
theorem f132_539 : zft 132 539 = some (.invokevirtual 60, 3) := by decide +kernel
theorem f132_542 : zft 132 542 = some (.if_icmp .eq 375, 3) := by decide +kernel
theorem f132_545 : zft 132 545 = some (.iconst 0, 1) := by decide +kernel
theorem f132_546 : zft 132 546 = some (.ireturn, 1) := by decide +kernel
theorem f132_547 : zft 132 547 = some (.aload_n 1, 1) := by decide +kernel
theorem f132_548 : zft 132 548 = some (.aload_n 0, 1) := by decide +kernel
theorem f132_549 : zft 132 549 = some (.iload_n 3, 1) := by decide +kernel
theorem f132_550 : zft 132 550 = some (.iconst 1, 1) := by decide +kernel
theorem f132_551 : zft 132 551 = some (.iadd, 1) := by decide +kernel
theorem f132_552 : zft 132 552 = some (.iaload, 1) := by decide +kernel
theorem f132_553 : zft 132 553 = some (.invokevirtual 61, 3) := by decide +kernel
theorem f132_556 : zft 132 556 = some (.aload_n 2, 1) := by decide +kernel
theorem f132_557 : zft 132 557 = some (.aload_n 0, 1) := by decide +kernel
theorem f132_558 : zft 132 558 = some (.iload_n 3, 1) := by decide +kernel
theorem f132_559 : zft 132 559 = some (.iconst 1, 1) := by decide +kernel
theorem f132_560 : zft 132 560 = some (.iadd, 1) := by decide +kernel
theorem f132_561 : zft 132 561 = some (.iaload, 1) := by decide +kernel
theorem f132_562 : zft 132 562 = some (.invokevirtual 64, 3) := by decide +kernel
theorem f132_565 : zft 132 565 = some (.if_icmp .eq 352, 3) := by decide +kernel
theorem f132_568 : zft 132 568 = some (.iconst 0, 1) := by decide +kernel
theorem f132_569 : zft 132 569 = some (.ireturn, 1) := by decide +kernel
theorem f132_570 : zft 132 570 = some (.aload_n 1, 1) := by decide +kernel
theorem f132_571 : zft 132 571 = some (.aload_n 0, 1) := by decide +kernel
theorem f132_572 : zft 132 572 = some (.iload_n 3, 1) := by decide +kernel
theorem f132_573 : zft 132 573 = some (.iconst 1, 1) := by decide +kernel
theorem f132_574 : zft 132 574 = some (.iadd, 1) := by decide +kernel
theorem f132_575 : zft 132 575 = some (.iaload, 1) := by decide +kernel
theorem f132_576 : zft 132 576 = some (.invokevirtual 65, 3) := by decide +kernel
theorem f132_579 : zft 132 579 = some (.aload_n 2, 1) := by decide +kernel
theorem f132_580 : zft 132 580 = some (.aload_n 0, 1) := by decide +kernel
theorem f132_581 : zft 132 581 = some (.iload_n 3, 1) := by decide +kernel
theorem f132_582 : zft 132 582 = some (.iconst 1, 1) := by decide +kernel
theorem f132_583 : zft 132 583 = some (.iadd, 1) := by decide +kernel
theorem f132_584 : zft 132 584 = some (.iaload, 1) := by decide +kernel
theorem f132_585 : zft 132 585 = some (.invokevirtual 68, 3) := by decide +kernel
theorem f132_588 : zft 132 588 = some (.if_icmp .eq 329, 3) := by decide +kernel
theorem f132_591 : zft 132 591 = some (.iconst 0, 1) := by decide +kernel
theorem f132_592 : zft 132 592 = some (.ireturn, 1) := by decide +kernel
theorem f132_593 : zft 132 593 = some (.aload_n 1, 1) := by decide +kernel
theorem f132_594 : zft 132 594 = some (.aload_n 0, 1) := by decide +kernel
theorem f132_595 : zft 132 595 = some (.iload_n 3, 1) := by decide +kernel
theorem f132_596 : zft 132 596 = some (.iconst 1, 1) := by decide +kernel
theorem f132_597 : zft 132 597 = some (.iadd, 1) := by decide +kernel
theorem f132_598 : zft 132 598 = some (.iaload, 1) := by decide +kernel
theorem f132_599 : zft 132 599 = some (.aload_n 0, 1) := by decide +kernel
theorem f132_600 : zft 132 600 = some (.iload_n 3, 1) := by decide +kernel
theorem f132_601 : zft 132 601 = some (.iconst 2, 1) := by decide +kernel
theorem f132_602 : zft 132 602 = some (.iadd, 1) := by decide +kernel
theorem f132_603 : zft 132 603 = some (.iaload, 1) := by decide +kernel
theorem f132_604 : zft 132 604 = some (.invokevirtual 69, 3) := by decide +kernel
theorem f132_607 : zft 132 607 = some (.aload_n 2, 1) := by decide +kernel
theorem f132_608 : zft 132 608 = some (.aload_n 0, 1) := by decide +kernel
theorem f132_609 : zft 132 609 = some (.iload_n 3, 1) := by decide +kernel
theorem f132_610 : zft 132 610 = some (.iconst 1, 1) := by decide +kernel
theorem f132_611 : zft 132 611 = some (.iadd, 1) := by decide +kernel
theorem f132_612 : zft 132 612 = some (.iaload, 1) := by decide +kernel
theorem f132_613 : zft 132 613 = some (.aload_n 0, 1) := by decide +kernel
theorem f132_614 : zft 132 614 = some (.iload_n 3, 1) := by decide +kernel
theorem f132_615 : zft 132 615 = some (.iconst 2, 1) := by decide +kernel
theorem f132_616 : zft 132 616 = some (.iadd, 1) := by decide +kernel
theorem f132_617 : zft 132 617 = some (.iaload, 1) := by decide +kernel
theorem f132_618 : zft 132 618 = some (.invokevirtual 72, 3) := by decide +kernel
theorem f132_621 : zft 132 621 = some (.if_icmp .eq 296, 3) := by decide +kernel
theorem f132_624 : zft 132 624 = some (.iconst 0, 1) := by decide +kernel
theorem f132_625 : zft 132 625 = some (.ireturn, 1) := by decide +kernel
theorem f132_626 : zft 132 626 = some (.aload_n 1, 1) := by decide +kernel
theorem f132_627 : zft 132 627 = some (.aload_n 0, 1) := by decide +kernel
theorem f132_628 : zft 132 628 = some (.iload_n 3, 1) := by decide +kernel
theorem f132_629 : zft 132 629 = some (.iconst 1, 1) := by decide +kernel
theorem f132_630 : zft 132 630 = some (.iadd, 1) := by decide +kernel
theorem f132_631 : zft 132 631 = some (.iaload, 1) := by decide +kernel
theorem f132_632 : zft 132 632 = some (.aload_n 0, 1) := by decide +kernel
theorem f132_633 : zft 132 633 = some (.iload_n 3, 1) := by decide +kernel
theorem f132_634 : zft 132 634 = some (.iconst 2, 1) := by decide +kernel
theorem f132_635 : zft 132 635 = some (.iadd, 1) := by decide +kernel
theorem f132_636 : zft 132 636 = some (.iaload, 1) := by decide +kernel
theorem f132_637 : zft 132 637 = some (.aload_n 0, 1) := by decide +kernel
theorem f132_638 : zft 132 638 = some (.iload_n 3, 1) := by decide +kernel
theorem f132_639 : zft 132 639 = some (.iconst 3, 1) := by decide +kernel
theorem f132_640 : zft 132 640 = some (.iadd, 1) := by decide +kernel
theorem f132_641 : zft 132 641 = some (.iaload, 1) := by decide +kernel
theorem f132_642 : zft 132 642 = some (.invokevirtual 73, 3) := by decide +kernel
theorem f132_645 : zft 132 645 = some (.aload_n 2, 1) := by decide +kernel
theorem f132_646 : zft 132 646 = some (.aload_n 0, 1) := by decide +kernel
theorem f132_647 : zft 132 647 = some (.iload_n 3, 1) := by decide +kernel
theorem f132_648 : zft 132 648 = some (.iconst 1, 1) := by decide +kernel
theorem f132_649 : zft 132 649 = some (.iadd, 1) := by decide +kernel
theorem f132_650 : zft 132 650 = some (.iaload, 1) := by decide +kernel
theorem f132_651 : zft 132 651 = some (.aload_n 0, 1) := by decide +kernel
theorem f132_652 : zft 132 652 = some (.iload_n 3, 1) := by decide +kernel
theorem f132_653 : zft 132 653 = some (.iconst 2, 1) := by decide +kernel
theorem f132_654 : zft 132 654 = some (.iadd, 1) := by decide +kernel
theorem f132_655 : zft 132 655 = some (.iaload, 1) := by decide +kernel
theorem f132_656 : zft 132 656 = some (.aload_n 0, 1) := by decide +kernel
theorem f132_657 : zft 132 657 = some (.iload_n 3, 1) := by decide +kernel
theorem f132_658 : zft 132 658 = some (.iconst 3, 1) := by decide +kernel
theorem f132_659 : zft 132 659 = some (.iadd, 1) := by decide +kernel
theorem f132_660 : zft 132 660 = some (.iaload, 1) := by decide +kernel
theorem f132_661 : zft 132 661 = some (.invokevirtual 76, 3) := by decide +kernel
theorem f132_664 : zft 132 664 = some (.if_icmp .eq 253, 3) := by decide +kernel
theorem f132_667 : zft 132 667 = some (.iconst 0, 1) := by decide +kernel
theorem f132_668 : zft 132 668 = some (.ireturn, 1) := by decide +kernel
theorem f132_669 : zft 132 669 = some (.aload_n 1, 1) := by decide +kernel
theorem f132_670 : zft 132 670 = some (.aload_n 0, 1) := by decide +kernel
theorem f132_671 : zft 132 671 = some (.iload_n 3, 1) := by decide +kernel
theorem f132_672 : zft 132 672 = some (.iconst 1, 1) := by decide +kernel
theorem f132_673 : zft 132 673 = some (.iadd, 1) := by decide +kernel
theorem f132_674 : zft 132 674 = some (.iaload, 1) := by decide +kernel
theorem f132_675 : zft 132 675 = some (.aload_n 0, 1) := by decide +kernel
theorem f132_676 : zft 132 676 = some (.iload_n 3, 1) := by decide +kernel
theorem f132_677 : zft 132 677 = some (.iconst 2, 1) := by decide +kernel
theorem f132_678 : zft 132 678 = some (.iadd, 1) := by decide +kernel
theorem f132_679 : zft 132 679 = some (.iaload, 1) := by decide +kernel
theorem f132_680 : zft 132 680 = some (.aload_n 0, 1) := by decide +kernel
theorem f132_681 : zft 132 681 = some (.iload_n 3, 1) := by decide +kernel
theorem f132_682 : zft 132 682 = some (.iconst 3, 1) := by decide +kernel
theorem f132_683 : zft 132 683 = some (.iadd, 1) := by decide +kernel
theorem f132_684 : zft 132 684 = some (.iaload, 1) := by decide +kernel
theorem f132_685 : zft 132 685 = some (.invokevirtual 77, 3) := by decide +kernel
theorem f132_688 : zft 132 688 = some (.aload_n 2, 1) := by decide +kernel
theorem f132_689 : zft 132 689 = some (.aload_n 0, 1) := by decide +kernel
theorem f132_690 : zft 132 690 = some (.iload_n 3, 1) := by decide +kernel
theorem f132_691 : zft 132 691 = some (.iconst 1, 1) := by decide +kernel
theorem f132_692 : zft 132 692 = some (.iadd, 1) := by decide +kernel
theorem f132_693 : zft 132 693 = some (.iaload, 1) := by decide +kernel
theorem f132_694 : zft 132 694 = some (.aload_n 0, 1) := by decide +kernel
theorem f132_695 : zft 132 695 = some (.iload_n 3, 1) := by decide +kernel
theorem f132_696 : zft 132 696 = some (.iconst 2, 1) := by decide +kernel
theorem f132_697 : zft 132 697 = some (.iadd, 1) := by decide +kernel
theorem f132_698 : zft 132 698 = some (.iaload, 1) := by decide +kernel
theorem f132_699 : zft 132 699 = some (.aload_n 0, 1) := by decide +kernel
theorem f132_700 : zft 132 700 = some (.iload_n 3, 1) := by decide +kernel
theorem f132_701 : zft 132 701 = some (.iconst 3, 1) := by decide +kernel
theorem f132_702 : zft 132 702 = some (.iadd, 1) := by decide +kernel
theorem f132_703 : zft 132 703 = some (.iaload, 1) := by decide +kernel
theorem f132_704 : zft 132 704 = some (.invokevirtual 80, 3) := by decide +kernel
theorem f132_707 : zft 132 707 = some (.if_icmp .eq 210, 3) := by decide +kernel
theorem f132_710 : zft 132 710 = some (.iconst 0, 1) := by decide +kernel
theorem f132_711 : zft 132 711 = some (.ireturn, 1) := by decide +kernel
theorem f132_712 : zft 132 712 = some (.aload_n 1, 1) := by decide +kernel
theorem f132_713 : zft 132 713 = some (.aload_n 0, 1) := by decide +kernel
theorem f132_714 : zft 132 714 = some (.iload_n 3, 1) := by decide +kernel
theorem f132_715 : zft 132 715 = some (.iconst 1, 1) := by decide +kernel
theorem f132_716 : zft 132 716 = some (.iadd, 1) := by decide +kernel
theorem f132_717 : zft 132 717 = some (.iaload, 1) := by decide +kernel
theorem f132_718 : zft 132 718 = some (.invokevirtual 81, 3) := by decide +kernel
theorem f132_721 : zft 132 721 = some (.aload_n 2, 1) := by decide +kernel
theorem f132_722 : zft 132 722 = some (.aload_n 0, 1) := by decide +kernel
theorem f132_723 : zft 132 723 = some (.iload_n 3, 1) := by decide +kernel
theorem f132_724 : zft 132 724 = some (.iconst 1, 1) := by decide +kernel
theorem f132_725 : zft 132 725 = some (.iadd, 1) := by decide +kernel
theorem f132_726 : zft 132 726 = some (.iaload, 1) := by decide +kernel
theorem f132_727 : zft 132 727 = some (.invokevirtual 84, 3) := by decide +kernel
theorem f132_730 : zft 132 730 = some (.if_icmp .eq 187, 3) := by decide +kernel
theorem f132_733 : zft 132 733 = some (.iconst 0, 1) := by decide +kernel
theorem f132_734 : zft 132 734 = some (.ireturn, 1) := by decide +kernel
theorem f132_735 : zft 132 735 = some (.aload_n 1, 1) := by decide +kernel
theorem f132_736 : zft 132 736 = some (.aload_n 0, 1) := by decide +kernel
theorem f132_737 : zft 132 737 = some (.iload_n 3, 1) := by decide +kernel
theorem f132_738 : zft 132 738 = some (.iconst 1, 1) := by decide +kernel
theorem f132_739 : zft 132 739 = some (.iadd, 1) := by decide +kernel
theorem f132_740 : zft 132 740 = some (.iaload, 1) := by decide +kernel
theorem f132_741 : zft 132 741 = some (.invokevirtual 85, 3) := by decide +kernel
theorem f132_744 : zft 132 744 = some (.aload_n 2, 1) := by decide +kernel
theorem f132_745 : zft 132 745 = some (.aload_n 0, 1) := by decide +kernel
theorem f132_746 : zft 132 746 = some (.iload_n 3, 1) := by decide +kernel
theorem f132_747 : zft 132 747 = some (.iconst 1, 1) := by decide +kernel
theorem f132_748 : zft 132 748 = some (.iadd, 1) := by decide +kernel
theorem f132_749 : zft 132 749 = some (.iaload, 1) := by decide +kernel
theorem f132_750 : zft 132 750 = some (.invokevirtual 88, 3) := by decide +kernel
theorem f132_753 : zft 132 753 = some (.if_icmp .eq 164, 3) := by decide +kernel
theorem f132_756 : zft 132 756 = some (.iconst 0, 1) := by decide +kernel
theorem f132_757 : zft 132 757 = some (.ireturn, 1) := by decide +kernel
theorem f132_758 : zft 132 758 = some (.aload_n 1, 1) := by decide +kernel
theorem f132_759 : zft 132 759 = some (.aload_n 0, 1) := by decide +kernel
theorem f132_760 : zft 132 760 = some (.iload_n 3, 1) := by decide +kernel
theorem f132_761 : zft 132 761 = some (.iconst 1, 1) := by decide +kernel
theorem f132_762 : zft 132 762 = some (.iadd, 1) := by decide +kernel
theorem f132_763 : zft 132 763 = some (.iaload, 1) := by decide +kernel
theorem f132_764 : zft 132 764 = some (.aload_n 0, 1) := by decide +kernel
theorem f132_765 : zft 132 765 = some (.iload_n 3, 1) := by decide +kernel
theorem f132_766 : zft 132 766 = some (.iconst 2, 1) := by decide +kernel
theorem f132_767 : zft 132 767 = some (.iadd, 1) := by decide +kernel
theorem f132_768 : zft 132 768 = some (.iaload, 1) := by decide +kernel
theorem f132_769 : zft 132 769 = some (.aload_n 0, 1) := by decide +kernel
theorem f132_770 : zft 132 770 = some (.iload_n 3, 1) := by decide +kernel
theorem f132_771 : zft 132 771 = some (.iconst 3, 1) := by decide +kernel
theorem f132_772 : zft 132 772 = some (.iadd, 1) := by decide +kernel
theorem f132_773 : zft 132 773 = some (.iaload, 1) := by decide +kernel
theorem f132_774 : zft 132 774 = some (.invokevirtual 89, 3) := by decide +kernel
theorem f132_777 : zft 132 777 = some (.aload_n 2, 1) := by decide +kernel
theorem f132_778 : zft 132 778 = some (.aload_n 0, 1) := by decide +kernel
theorem f132_779 : zft 132 779 = some (.iload_n 3, 1) := by decide +kernel
theorem f132_780 : zft 132 780 = some (.iconst 1, 1) := by decide +kernel
theorem f132_781 : zft 132 781 = some (.iadd, 1) := by decide +kernel
theorem f132_782 : zft 132 782 = some (.iaload, 1) := by decide +kernel
theorem f132_783 : zft 132 783 = some (.aload_n 0, 1) := by decide +kernel
theorem f132_784 : zft 132 784 = some (.iload_n 3, 1) := by decide +kernel
theorem f132_785 : zft 132 785 = some (.iconst 2, 1) := by decide +kernel
theorem f132_786 : zft 132 786 = some (.iadd, 1) := by decide +kernel
theorem f132_787 : zft 132 787 = some (.iaload, 1) := by decide +kernel
theorem f132_788 : zft 132 788 = some (.aload_n 0, 1) := by decide +kernel
theorem f132_789 : zft 132 789 = some (.iload_n 3, 1) := by decide +kernel
theorem f132_790 : zft 132 790 = some (.iconst 3, 1) := by decide +kernel
theorem f132_791 : zft 132 791 = some (.iadd, 1) := by decide +kernel
theorem f132_792 : zft 132 792 = some (.iaload, 1) := by decide +kernel
theorem f132_793 : zft 132 793 = some (.invokevirtual 92, 3) := by decide +kernel
theorem f132_796 : zft 132 796 = some (.if_icmp .eq 121, 3) := by decide +kernel
theorem f132_799 : zft 132 799 = some (.iconst 0, 1) := by decide +kernel
theorem f132_800 : zft 132 800 = some (.ireturn, 1) := by decide +kernel
theorem f132_801 : zft 132 801 = some (.aload_n 1, 1) := by decide +kernel
theorem f132_802 : zft 132 802 = some (.invokevirtual 93, 3) := by decide +kernel
theorem f132_805 : zft 132 805 = some (.aload_n 2, 1) := by decide +kernel
theorem f132_806 : zft 132 806 = some (.invokevirtual 97, 3) := by decide +kernel
theorem f132_809 : zft 132 809 = some (.if_icmp .eq 108, 3) := by decide +kernel
theorem f132_812 : zft 132 812 = some (.iconst 0, 1) := by decide +kernel
theorem f132_813 : zft 132 813 = some (.ireturn, 1) := by decide +kernel
theorem f132_814 : zft 132 814 = some (.aload_n 1, 1) := by decide +kernel
theorem f132_815 : zft 132 815 = some (.aload_n 0, 1) := by decide +kernel
theorem f132_816 : zft 132 816 = some (.iload_n 3, 1) := by decide +kernel
theorem f132_817 : zft 132 817 = some (.iconst 1, 1) := by decide +kernel
theorem f132_818 : zft 132 818 = some (.iadd, 1) := by decide +kernel
theorem f132_819 : zft 132 819 = some (.iaload, 1) := by decide +kernel
theorem f132_820 : zft 132 820 = some (.aload_n 0, 1) := by decide +kernel
theorem f132_821 : zft 132 821 = some (.iload_n 3, 1) := by decide +kernel
theorem f132_822 : zft 132 822 = some (.iconst 2, 1) := by decide +kernel
theorem f132_823 : zft 132 823 = some (.iadd, 1) := by decide +kernel
theorem f132_824 : zft 132 824 = some (.iaload, 1) := by decide +kernel
theorem f132_825 : zft 132 825 = some (.invokevirtual 98, 3) := by decide +kernel
theorem f132_828 : zft 132 828 = some (.aload_n 2, 1) := by decide +kernel
theorem f132_829 : zft 132 829 = some (.aload_n 0, 1) := by decide +kernel
theorem f132_830 : zft 132 830 = some (.iload_n 3, 1) := by decide +kernel
theorem f132_831 : zft 132 831 = some (.iconst 1, 1) := by decide +kernel
theorem f132_832 : zft 132 832 = some (.iadd, 1) := by decide +kernel
theorem f132_833 : zft 132 833 = some (.iaload, 1) := by decide +kernel
theorem f132_834 : zft 132 834 = some (.aload_n 0, 1) := by decide +kernel
theorem f132_835 : zft 132 835 = some (.iload_n 3, 1) := by decide +kernel
theorem f132_836 : zft 132 836 = some (.iconst 2, 1) := by decide +kernel
theorem f132_837 : zft 132 837 = some (.iadd, 1) := by decide +kernel
theorem f132_838 : zft 132 838 = some (.iaload, 1) := by decide +kernel
theorem f132_839 : zft 132 839 = some (.invokevirtual 101, 3) := by decide +kernel
theorem f132_842 : zft 132 842 = some (.if_icmp .eq 75, 3) := by decide +kernel
theorem f132_845 : zft 132 845 = some (.iconst 0, 1) := by decide +kernel
theorem f132_846 : zft 132 846 = some (.ireturn, 1) := by decide +kernel
theorem f132_847 : zft 132 847 = some (.aload_n 1, 1) := by decide +kernel
theorem f132_848 : zft 132 848 = some (.aload_n 0, 1) := by decide +kernel
theorem f132_849 : zft 132 849 = some (.iload_n 3, 1) := by decide +kernel
theorem f132_850 : zft 132 850 = some (.iconst 1, 1) := by decide +kernel
theorem f132_851 : zft 132 851 = some (.iadd, 1) := by decide +kernel
theorem f132_852 : zft 132 852 = some (.iaload, 1) := by decide +kernel
theorem f132_853 : zft 132 853 = some (.aload_n 0, 1) := by decide +kernel
theorem f132_854 : zft 132 854 = some (.iload_n 3, 1) := by decide +kernel
theorem f132_855 : zft 132 855 = some (.iconst 2, 1) := by decide +kernel
theorem f132_856 : zft 132 856 = some (.iadd, 1) := by decide +kernel
theorem f132_857 : zft 132 857 = some (.iaload, 1) := by decide +kernel
theorem f132_858 : zft 132 858 = some (.invokevirtual 102, 3) := by decide +kernel
theorem f132_861 : zft 132 861 = some (.aload_n 2, 1) := by decide +kernel
theorem f132_862 : zft 132 862 = some (.aload_n 0, 1) := by decide +kernel
theorem f132_863 : zft 132 863 = some (.iload_n 3, 1) := by decide +kernel
theorem f132_864 : zft 132 864 = some (.iconst 1, 1) := by decide +kernel
theorem f132_865 : zft 132 865 = some (.iadd, 1) := by decide +kernel
theorem f132_866 : zft 132 866 = some (.iaload, 1) := by decide +kernel
theorem f132_867 : zft 132 867 = some (.aload_n 0, 1) := by decide +kernel
theorem f132_868 : zft 132 868 = some (.iload_n 3, 1) := by decide +kernel
theorem f132_869 : zft 132 869 = some (.iconst 2, 1) := by decide +kernel
theorem f132_870 : zft 132 870 = some (.iadd, 1) := by decide +kernel
theorem f132_871 : zft 132 871 = some (.iaload, 1) := by decide +kernel
theorem f132_872 : zft 132 872 = some (.invokevirtual 105, 3) := by decide +kernel
theorem f132_875 : zft 132 875 = some (.if_icmp .eq 42, 3) := by decide +kernel
theorem f132_878 : zft 132 878 = some (.iconst 0, 1) := by decide +kernel
theorem f132_879 : zft 132 879 = some (.ireturn, 1) := by decide +kernel
theorem f132_880 : zft 132 880 = some (.aload_n 1, 1) := by decide +kernel
theorem f132_881 : zft 132 881 = some (.aload_n 0, 1) := by decide +kernel
theorem f132_882 : zft 132 882 = some (.iload_n 3, 1) := by decide +kernel
theorem f132_883 : zft 132 883 = some (.iconst 1, 1) := by decide +kernel
theorem f132_884 : zft 132 884 = some (.iadd, 1) := by decide +kernel
theorem f132_885 : zft 132 885 = some (.iaload, 1) := by decide +kernel
theorem f132_886 : zft 132 886 = some (.invokevirtual 106, 3) := by decide +kernel
theorem f132_889 : zft 132 889 = some (.aload_n 2, 1) := by decide +kernel
theorem f132_890 : zft 132 890 = some (.aload_n 0, 1) := by decide +kernel
theorem f132_891 : zft 132 891 = some (.iload_n 3, 1) := by decide +kernel
theorem f132_892 : zft 132 892 = some (.iconst 1, 1) := by decide +kernel
theorem f132_893 : zft 132 893 = some (.iadd, 1) := by decide +kernel
theorem f132_894 : zft 132 894 = some (.iaload, 1) := by decide +kernel
theorem f132_895 : zft 132 895 = some (.invokevirtual 109, 3) := by decide +kernel
theorem f132_898 : zft 132 898 = some (.if_icmp .eq 19, 3) := by decide +kernel
theorem f132_901 : zft 132 901 = some (.iconst 0, 1) := by decide +kernel
theorem f132_902 : zft 132 902 = some (.ireturn, 1) := by decide +kernel
theorem f132_903 : zft 132 903 = some (.aload_n 1, 1) := by decide +kernel
theorem f132_904 : zft 132 904 = some (.invokevirtual 110, 3) := by decide +kernel
theorem f132_907 : zft 132 907 = some (.aload_n 2, 1) := by decide +kernel
theorem f132_908 : zft 132 908 = some (.invokevirtual 114, 3) := by decide +kernel
theorem f132_911 : zft 132 911 = some (.lcmp, 1) := by decide +kernel
theorem f132_912 : zft 132 912 = some (.ifCond .eq 5, 3) := by decide +kernel
theorem f132_915 : zft 132 915 = some (.iconst 0, 1) := by decide +kernel
theorem f132_916 : zft 132 916 = some (.ireturn, 1) := by decide +kernel
theorem f132_917 : zft 132 917 = some (.iinc 3 5, 3) := by decide +kernel
theorem f132_920 : zft 132 920 = some (.goto (-902), 3) := by decide +kernel
theorem f132_923 : zft 132 923 = some (.iconst 1, 1) := by decide +kernel
theorem f132_924 : zft 132 924 = some (.ireturn, 1) := by decide +kernel
theorem o132 : zo 132 = 8 := by decide +kernel
theorem p132 : zp 132 = 1 := by decide +kernel
theorem n132 : zn 132 = 4 := by decide +kernel
theorem v132 : zr 132 = (some .boolean) := by decide +kernel
end
section
/-! runs of the small machine, backwards; its memory as numbers over a fixed frame of cells -/
def zR (d j pc : Nat) (ls : zL) (st : List zV) (M : zM) (Q : Option zV → zM → Prop) : Prop := ∃ (n : Nat) (y : Option zV × zM), zrun n d j pc ls st M = some y ∧ Q y.1 y.2
theorem zrun_x {n d j pc : Nat} {ls : zL} {st : List zV} {M : zM} {y : Option zV × zM} (h : zrun (n + 1) d j pc ls st M = some y) : ∃ i len, zft j pc = some (i, len) ∧ zlk i len = true ∧
    ((∃ r, zre j i st = some r ∧ y = (r, M)) ∨ (∃ x d' z, zre j i st = none ∧ zca j i st M = some x ∧ d = d' + 1 ∧ zrun n d' x.1 0 (zent x.1 x.2.1) [] M = some z ∧ zrun n d j (pc + 3) ls (z.1.toList ++ x.2.2) z.2 = some y) ∨ ∃ x, zre j i st = none ∧ zca j i st M = none ∧ znx d j i pc ls st M = some x ∧ zrun n d j x.1 x.2.1 x.2.2.1 x.2.2.2 = some y) := by
  unfold zrun at h
  split at h
  · cases h
  · next i len hf =>
    split at h
    · next hl =>
      refine ⟨i, len, hf, hl, ?_⟩
      split at h
      · next r hr => cases h; exact Or.inl ⟨r, hr, rfl⟩
      · next hr0 =>
        split at h
        · next x hx =>
          cases d with
          | zero => simp at h
          | succ d' =>
            simp only at h
            split at h
            · cases h
            · next z hz => exact Or.inr (Or.inl ⟨x, d', z, hr0, hx, rfl, hz, h⟩)
        · next hc0 =>
          split at h
          · next x hx => exact Or.inr (Or.inr ⟨x, hr0, hc0, hx, h⟩)
          · cases h
    · cases h
theorem zrun_up : ∀ {n d j pc : Nat} {ls : zL} {st : List zV} {M : zM} {y : Option zV × zM}, zrun n d j pc ls st M = some y → zrun (n + 1) d j pc ls st M = some y := by
  intro n
  induction n with
  | zero => intro d j pc ls st M y h; simp [zrun] at h
  | succ n ih =>
    intro d j pc ls st M y h
    obtain ⟨i, len, hf, hl, h⟩ := zrun_x h
    unfold zrun
    rw [hf]
    simp only [hl, if_true]
    rcases h with ⟨r, hr, rfl⟩ | ⟨x, d', z, hn, hx, rfl, h1, h2⟩ | ⟨x, hn, hc, hx, h2⟩
    · rw [hr]
    · rw [hn, hx]
      simp only
      rw [ih h1]
      simp only
      exact ih h2
    · rw [hn, hc, hx]
      simp only
      exact ih h2
theorem zrun_le {n k d j pc : Nat} {ls : zL} {st : List zV} {M : zM} {y : Option zV × zM} (h : zrun n d j pc ls st M = some y) (hk : n ≤ k) : zrun k d j pc ls st M = some y := by
  induction hk with
  | refl => exact h
  | step _ ih => exact zrun_up ih
section ZR
variable {d j pc : Nat} {ls : zL} {st : List zV} {M : zM} {Q : Option zV → zM → Prop}
theorem zR_nx {i : Instr} {len pc' : Nat} {ls' : zL} {st' : List zV} {M' : zM} (hf : zft j pc = some (i, len)) (hl : zlk i len = true) (h1 : zre j i st = none) (h2 : zca j i st M = none) (h3 : znx d j i pc ls st M = some (pc', ls', st', M')) (k : zR d j pc' ls' st' M' Q) : zR d j pc ls st M Q := by
  obtain ⟨n, y, h, hq⟩ := k
  refine ⟨n + 1, y, ?_, hq⟩
  unfold zrun
  rw [hf]
  simp only [hl, if_true, h1, h2, h3]
  exact h
theorem zR_re {i : Instr} {len : Nat} {r : Option zV} (hf : zft j pc = some (i, len)) (hl : zlk i len = true) (h1 : zre j i st = some r) (k : Q r M) : zR d j pc ls st M Q := by
  refine ⟨1, (r, M), ?_, k⟩
  unfold zrun
  rw [hf]
  simp only [hl, if_true, h1]
theorem zR_ca {i : Instr} {len : Nat} {x : Nat × List zV × List zV} (hf : zft j pc = some (i, len)) (hl : zlk i len = true) (h1 : zre j i st = none) (h2 : zca j i st M = some x) {v : Option zV} {M1 : zM} (hc : zR d x.1 0 (zent x.1 x.2.1) [] M (fun r m => r = v ∧ m = M1)) (k : zR (d + 1) j (pc + 3) ls (v.toList ++ x.2.2) M1 Q) : zR (d + 1) j pc ls st M Q := by
  obtain ⟨n1, ⟨v1, m1⟩, e1, rfl, rfl⟩ := hc
  obtain ⟨n2, y, e2, hq⟩ := k
  refine ⟨n1 + n2 + 1, y, ?_, hq⟩
  unfold zrun
  rw [hf]
  simp only [hl, if_true, h1, h2]
  rw [zrun_le e1 (by omega)]
  exact zrun_le e2 (by omega)
theorem zR_im {Q' : Option zV → zM → Prop} (h : zR d j pc ls st M Q') (k : ∀ r m, Q' r m → Q r m) : zR d j pc ls st M Q := by
  obtain ⟨n, y, e, q⟩ := h
  exact ⟨n, y, e, k _ _ q⟩
theorem r_aload_n {k : Fin 4} {p : Int} (hf : zft j pc = some (.aload_n k, 1)) (h : ls[k.val]? = some (some (.inr (.inl (some p))))) (kk : zR d j (pc + 1) ls (.inr (.inl (some p)) :: st) M Q) : zR d j pc ls st M Q := zR_nx hf rfl rfl rfl (by simp only [znx, zn1, h]) kk
theorem r_aload {k : Nat} {p : Int} (hf : zft j pc = some (.aload k, 2)) (h : ls[k]? = some (some (.inr (.inl (some p))))) (kk : zR d j (pc + 2) ls (.inr (.inl (some p)) :: st) M Q) : zR d j pc ls st M Q := zR_nx hf rfl rfl rfl (by simp only [znx, zn1, h]) kk
theorem r_iload_n {k : Fin 4} {v : Int} (hf : zft j pc = some (.iload_n k, 1)) (h : ls[k.val]? = some (some (.inl v))) (kk : zR d j (pc + 1) ls (.inl v :: st) M Q) : zR d j pc ls st M Q := zR_nx hf rfl rfl rfl (by simp only [znx, zn1, h]) kk
theorem r_iload {k : Nat} {v : Int} (hf : zft j pc = some (.iload k, 2)) (h : ls[k]? = some (some (.inl v))) (kk : zR d j (pc + 2) ls (.inl v :: st) M Q) : zR d j pc ls st M Q := zR_nx hf rfl rfl rfl (by simp only [znx, zn1, h]) kk
theorem r_lload_n {k : Fin 4} {v : Int64} (hf : zft j pc = some (.lload_n k, 1)) (h : ls[k.val]? = some (some (.inr (.inr v)))) (kk : zR d j (pc + 1) ls (.inr (.inr v) :: st) M Q) : zR d j pc ls st M Q := zR_nx hf rfl rfl rfl (by simp only [znx, zn1, h]) kk
theorem r_istore_n {k : Fin 4} {v : Int} {ls' : zL} (hf : zft j pc = some (.istore_n k, 1)) (h : zfree ls k.val = true) (hs : ls.set k.val (some (.inl v)) = ls') (kk : zR d j (pc + 1) ls' st M Q) : zR d j pc ls (.inl v :: st) M Q := by
  subst hs
  exact zR_nx hf rfl rfl rfl (by simp only [znx, zn1, h, if_true]) kk
theorem r_istore {k : Nat} {v : Int} {ls' : zL} (hf : zft j pc = some (.istore k, 2)) (h : zfree ls k = true) (hs : ls.set k (some (.inl v)) = ls') (kk : zR d j (pc + 2) ls' st M Q) : zR d j pc ls (.inl v :: st) M Q := by
  subst hs
  exact zR_nx hf rfl rfl rfl (by simp only [znx, zn1, h, if_true]) kk
theorem r_astore_n {k : Fin 4} {p : Int} {ls' : zL} (hf : zft j pc = some (.astore_n k, 1)) (h : zfree ls k.val = true) (hs : ls.set k.val (some (.inr (.inl (some p)))) = ls') (kk : zR d j (pc + 1) ls' st M Q) : zR d j pc ls (.inr (.inl (some p)) :: st) M Q := by
  subst hs
  exact zR_nx hf rfl rfl rfl (by simp only [znx, zn1, h, if_true]) kk
theorem r_astore {k : Nat} {p : Int} {ls' : zL} (hf : zft j pc = some (.astore k, 2)) (h : zfree ls k = true) (hs : ls.set k (some (.inr (.inl (some p)))) = ls') (kk : zR d j (pc + 2) ls' st M Q) : zR d j pc ls (.inr (.inl (some p)) :: st) M Q := by
  subst hs
  exact zR_nx hf rfl rfl rfl (by simp only [znx, zn1, h, if_true]) kk
theorem r_lstore_n {k : Fin 4} {v : Int64} {ls' : zL} (hf : zft j pc = some (.lstore_n k, 1)) (h : zfree ls k.val = true) (h2 : k.val + 1 < ls.length) (hs : (ls.set k.val (some (.inr (.inr v)))).set (k.val + 1) none = ls') (kk : zR d j (pc + 1) ls' st M Q) : zR d j pc ls (.inr (.inr v) :: st) M Q := by
  subst hs
  exact zR_nx hf rfl rfl rfl (by simp only [znx, zn1, h, h2, and_self, if_true]) kk
theorem r_iinc {k : Nat} {c v e : Int} {ls' : zL} (hf : zft j pc = some (.iinc k c, 3)) (h : ls[k]? = some (some (.inl v))) (h0 : zfree ls k = true) (hc : z32 c = true) (h1 : -2147483648 ≤ e) (h2 : e ≤ 2147483647) (he : v + c = e) (hs : ls.set k (some (.inl e)) = ls') (kk : zR d j (pc + 3) ls' st M Q) : zR d j pc ls st M Q := by
  subst hs
  subst he
  exact zR_nx hf rfl rfl rfl (by simp only [znx, zn1, h, h0, hc, z32_iff.mpr ⟨h1, h2⟩, and_self, if_true]) kk
theorem r_iconst {c : Int} (hf : zft j pc = some (.iconst c, 1)) (h : z32 c = true) (kk : zR d j (pc + 1) ls (.inl c :: st) M Q) : zR d j pc ls st M Q := zR_nx hf rfl rfl rfl (by simp only [znx, zn1, h, if_true]) kk
theorem r_bipush {c : Int} (hf : zft j pc = some (.bipush c, 2)) (h : -128 ≤ c ∧ c ≤ 127) (kk : zR d j (pc + 2) ls (.inl c :: st) M Q) : zR d j pc ls st M Q := zR_nx hf rfl rfl rfl (by simp only [znx, zn1, h, and_self, if_true]) kk
theorem r_sipush {c : Int} (hf : zft j pc = some (.sipush c, 3)) (h : -32768 ≤ c ∧ c ≤ 32767) (kk : zR d j (pc + 3) ls (.inl c :: st) M Q) : zR d j pc ls st M Q := zR_nx hf rfl rfl rfl (by simp only [znx, zn1, h, and_self, if_true]) kk
theorem r_ldc2 {k o : Nat} {v : Int64} (hf : zft j pc = some (.ldc2_w k, 3)) (ho : zo j = o) (h : zlc o k = some v) (kk : zR d j (pc + 3) ls (.inr (.inr v) :: st) M Q) : zR d j pc ls st M Q := zR_nx hf rfl rfl rfl (by simp only [znx, zn1, ho, h]) kk
theorem r_dupI {v : Int} (hf : zft j pc = some (.dup, 1)) (kk : zR d j (pc + 1) ls (.inl v :: .inl v :: st) M Q) : zR d j pc ls (.inl v :: st) M Q := zR_nx hf rfl rfl rfl rfl kk
theorem r_dupR {p : Int} (hf : zft j pc = some (.dup, 1)) (kk : zR d j (pc + 1) ls (.inr (.inl (some p)) :: .inr (.inl (some p)) :: st) M Q) : zR d j pc ls (.inr (.inl (some p)) :: st) M Q := zR_nx hf rfl rfl rfl rfl kk
theorem r_dup2 {v p : Int} (hf : zft j pc = some (.dup2, 1)) (kk : zR d j (pc + 1) ls (.inl v :: .inr (.inl (some p)) :: .inl v :: .inr (.inl (some p)) :: st) M Q) : zR d j pc ls (.inl v :: .inr (.inl (some p)) :: st) M Q := zR_nx hf rfl rfl rfl rfl kk
theorem r_idiv {a b : Int} (hf : zft j pc = some (.idiv, 1)) (h1 : 0 ≤ a) (h2 : 0 < b) (kk : zR d j (pc + 1) ls (.inl (a / b) :: st) M Q) : zR d j pc ls (.inl b :: .inl a :: st) M Q := zR_nx hf rfl rfl rfl (by simp only [znx, zn1, zn2, h1, h2, and_self, if_true]) kk
theorem r_iand {a b e : Int} (hf : zft j pc = some (.iand, 1)) (he : (Int32.ofInt a &&& Int32.ofInt b).toInt = e) (kk : zR d j (pc + 1) ls (.inl e :: st) M Q) : zR d j pc ls (.inl b :: .inl a :: st) M Q := by
  subst he
  exact zR_nx hf rfl rfl rfl rfl kk
theorem r_ishr {a b e : Int} (hf : zft j pc = some (.ishr, 1)) (he : (Int32.ofInt a >>> (Int32.ofInt b &&& 31)).toInt = e) (kk : zR d j (pc + 1) ls (.inl e :: st) M Q) : zR d j pc ls (.inl b :: .inl a :: st) M Q := by
  subst he
  exact zR_nx hf rfl rfl rfl rfl kk
theorem r_i2l {a : Int} (hf : zft j pc = some (.i2l, 1)) (kk : zR d j (pc + 1) ls (.inr (.inr (Int64.ofInt a)) :: st) M Q) : zR d j pc ls (.inl a :: st) M Q := zR_nx hf rfl rfl rfl rfl kk
theorem r_lmul {a b : Int64} (hf : zft j pc = some (.lmul, 1)) (kk : zR d j (pc + 1) ls (.inr (.inr (a * b)) :: st) M Q) : zR d j pc ls (.inr (.inr b) :: .inr (.inr a) :: st) M Q := zR_nx hf rfl rfl rfl rfl kk
theorem r_ladd {a b : Int64} (hf : zft j pc = some (.ladd, 1)) (kk : zR d j (pc + 1) ls (.inr (.inr (a + b)) :: st) M Q) : zR d j pc ls (.inr (.inr b) :: .inr (.inr a) :: st) M Q := zR_nx hf rfl rfl rfl rfl kk
theorem r_lcmp0 {a : Int64} (hf : zft j pc = some (.lcmp, 1)) (kk : zR d j (pc + 1) ls (.inl 0 :: st) M Q) : zR d j pc ls (.inr (.inr a) :: .inr (.inr a) :: st) M Q := by
  have e : (lg_cmp a a).toInt = 0 := by
    have : lg_cmp a a = 0 := by simp [lg_cmp]
    rw [this]; rfl
  refine zR_nx hf rfl rfl rfl ?_ kk
  simp only [znx, zn1, zn2, e]
theorem r_goto {o : Int} {t : Nat} (hf : zft j pc = some (.goto o, 3)) (ht : (pc : Int) + o = (t : Int)) (kk : zR d j t ls st M Q) : zR d j pc ls st M Q := by
  have h0 : 0 ≤ (pc : Int) + o := by omega
  refine zR_nx hf rfl rfl rfl ?_ kk
  simp only [znx, zn1, zn2, h0, if_true]
  rw [ht, Int.toNat_natCast]
theorem r_top {a e : Int} (he : a = e) (kk : zR d j pc ls (.inl e :: st) M Q) : zR d j pc ls (.inl a :: st) M Q := by subst he; exact kk
theorem zif_at {b : Bool} {pc : Nat} {o : Int} {t : Nat} (ht : (pc : Int) + o = (t : Int)) : zif b pc o = some (if b then t else pc + 3) := by
  unfold zif
  rw [if_pos (by omega), ht, Int.toNat_natCast]
  cases b <;> rfl
theorem r_iadd {a b e : Int} (hf : zft j pc = some (.iadd, 1)) (h1 : -2147483648 ≤ e) (h2 : e ≤ 2147483647) (he : a + b = e) (kk : zR d j (pc + 1) ls (.inl e :: st) M Q) : zR d j pc ls (.inl b :: .inl a :: st) M Q := by
  subst he
  exact zR_nx hf rfl rfl rfl (by simp only [znx, zn1, zn2, z32_iff.mpr ⟨h1, h2⟩, if_true]) kk
theorem r_isub {a b e : Int} (hf : zft j pc = some (.isub, 1)) (h1 : -2147483648 ≤ e) (h2 : e ≤ 2147483647) (he : a - b = e) (kk : zR d j (pc + 1) ls (.inl e :: st) M Q) : zR d j pc ls (.inl b :: .inl a :: st) M Q := by
  subst he
  exact zR_nx hf rfl rfl rfl (by simp only [znx, zn1, zn2, z32_iff.mpr ⟨h1, h2⟩, if_true]) kk
theorem r_imul {a b e : Int} (hf : zft j pc = some (.imul, 1)) (h1 : -2147483648 ≤ e) (h2 : e ≤ 2147483647) (he : a * b = e) (kk : zR d j (pc + 1) ls (.inl e :: st) M Q) : zR d j pc ls (.inl b :: .inl a :: st) M Q := by
  subst he
  exact zR_nx hf rfl rfl rfl (by simp only [znx, zn1, zn2, z32_iff.mpr ⟨h1, h2⟩, if_true]) kk
theorem r_ceq {a b o : Int} {t : Nat} (hf : zft j pc = some (.if_icmp .eq o, 3)) (ht : (pc : Int) + o = (t : Int)) (k1 : a = b → zR d j t ls st M Q) (k2 : ¬ (a = b) → zR d j (pc + 3) ls st M Q) : zR d j pc ls (.inl b :: .inl a :: st) M Q := by
  by_cases h : a = b
  · refine zR_nx hf rfl rfl rfl ?_ (k1 h)
    simp [znx, zn1, zn2, zif_at ht, h]
  · refine zR_nx hf rfl rfl rfl ?_ (k2 h)
    simp [znx, zn1, zn2, zif_at ht, h]
theorem r_zeq {a o : Int} {t : Nat} (hf : zft j pc = some (.ifCond .eq o, 3)) (ht : (pc : Int) + o = (t : Int)) (k1 : a = 0 → zR d j t ls st M Q) (k2 : ¬ (a = 0) → zR d j (pc + 3) ls st M Q) : zR d j pc ls (.inl a :: st) M Q := by
  by_cases h : a = 0
  · refine zR_nx hf rfl rfl rfl ?_ (k1 h)
    simp [znx, zn1, zn2, zif_at ht, h]
  · refine zR_nx hf rfl rfl rfl ?_ (k2 h)
    simp [znx, zn1, zn2, zif_at ht, h]
theorem r_cne {a b o : Int} {t : Nat} (hf : zft j pc = some (.if_icmp .ne o, 3)) (ht : (pc : Int) + o = (t : Int)) (k1 : a ≠ b → zR d j t ls st M Q) (k2 : ¬ (a ≠ b) → zR d j (pc + 3) ls st M Q) : zR d j pc ls (.inl b :: .inl a :: st) M Q := by
  by_cases h : a ≠ b
  · refine zR_nx hf rfl rfl rfl ?_ (k1 h)
    simp [znx, zn1, zn2, zif_at ht, h]
  · refine zR_nx hf rfl rfl rfl ?_ (k2 h)
    simp [znx, zn1, zn2, zif_at ht, h]
theorem r_zne {a o : Int} {t : Nat} (hf : zft j pc = some (.ifCond .ne o, 3)) (ht : (pc : Int) + o = (t : Int)) (k1 : a ≠ 0 → zR d j t ls st M Q) (k2 : ¬ (a ≠ 0) → zR d j (pc + 3) ls st M Q) : zR d j pc ls (.inl a :: st) M Q := by
  by_cases h : a ≠ 0
  · refine zR_nx hf rfl rfl rfl ?_ (k1 h)
    simp [znx, zn1, zn2, zif_at ht, h]
  · refine zR_nx hf rfl rfl rfl ?_ (k2 h)
    simp [znx, zn1, zn2, zif_at ht, h]
theorem r_clt {a b o : Int} {t : Nat} (hf : zft j pc = some (.if_icmp .lt o, 3)) (ht : (pc : Int) + o = (t : Int)) (k1 : a < b → zR d j t ls st M Q) (k2 : ¬ (a < b) → zR d j (pc + 3) ls st M Q) : zR d j pc ls (.inl b :: .inl a :: st) M Q := by
  by_cases h : a < b
  · refine zR_nx hf rfl rfl rfl ?_ (k1 h)
    simp [znx, zn1, zn2, zif_at ht, h]
  · refine zR_nx hf rfl rfl rfl ?_ (k2 h)
    simp [znx, zn1, zn2, zif_at ht, h]
theorem r_zlt {a o : Int} {t : Nat} (hf : zft j pc = some (.ifCond .lt o, 3)) (ht : (pc : Int) + o = (t : Int)) (k1 : a < 0 → zR d j t ls st M Q) (k2 : ¬ (a < 0) → zR d j (pc + 3) ls st M Q) : zR d j pc ls (.inl a :: st) M Q := by
  by_cases h : a < 0
  · refine zR_nx hf rfl rfl rfl ?_ (k1 h)
    simp [znx, zn1, zn2, zif_at ht, h]
  · refine zR_nx hf rfl rfl rfl ?_ (k2 h)
    simp [znx, zn1, zn2, zif_at ht, h]
theorem r_cge {a b o : Int} {t : Nat} (hf : zft j pc = some (.if_icmp .ge o, 3)) (ht : (pc : Int) + o = (t : Int)) (k1 : b ≤ a → zR d j t ls st M Q) (k2 : ¬ (b ≤ a) → zR d j (pc + 3) ls st M Q) : zR d j pc ls (.inl b :: .inl a :: st) M Q := by
  by_cases h : b ≤ a
  · refine zR_nx hf rfl rfl rfl ?_ (k1 h)
    simp [znx, zn1, zn2, zif_at ht, h]
  · refine zR_nx hf rfl rfl rfl ?_ (k2 h)
    simp [znx, zn1, zn2, zif_at ht, h]
theorem r_zge {a o : Int} {t : Nat} (hf : zft j pc = some (.ifCond .ge o, 3)) (ht : (pc : Int) + o = (t : Int)) (k1 : 0 ≤ a → zR d j t ls st M Q) (k2 : ¬ (0 ≤ a) → zR d j (pc + 3) ls st M Q) : zR d j pc ls (.inl a :: st) M Q := by
  by_cases h : 0 ≤ a
  · refine zR_nx hf rfl rfl rfl ?_ (k1 h)
    simp [znx, zn1, zn2, zif_at ht, h]
  · refine zR_nx hf rfl rfl rfl ?_ (k2 h)
    simp [znx, zn1, zn2, zif_at ht, h]
theorem r_cgt {a b o : Int} {t : Nat} (hf : zft j pc = some (.if_icmp .gt o, 3)) (ht : (pc : Int) + o = (t : Int)) (k1 : b < a → zR d j t ls st M Q) (k2 : ¬ (b < a) → zR d j (pc + 3) ls st M Q) : zR d j pc ls (.inl b :: .inl a :: st) M Q := by
  by_cases h : b < a
  · refine zR_nx hf rfl rfl rfl ?_ (k1 h)
    simp [znx, zn1, zn2, zif_at ht, h]
  · refine zR_nx hf rfl rfl rfl ?_ (k2 h)
    simp [znx, zn1, zn2, zif_at ht, h]
theorem r_zgt {a o : Int} {t : Nat} (hf : zft j pc = some (.ifCond .gt o, 3)) (ht : (pc : Int) + o = (t : Int)) (k1 : 0 < a → zR d j t ls st M Q) (k2 : ¬ (0 < a) → zR d j (pc + 3) ls st M Q) : zR d j pc ls (.inl a :: st) M Q := by
  by_cases h : 0 < a
  · refine zR_nx hf rfl rfl rfl ?_ (k1 h)
    simp [znx, zn1, zn2, zif_at ht, h]
  · refine zR_nx hf rfl rfl rfl ?_ (k2 h)
    simp [znx, zn1, zn2, zif_at ht, h]
theorem r_cle {a b o : Int} {t : Nat} (hf : zft j pc = some (.if_icmp .le o, 3)) (ht : (pc : Int) + o = (t : Int)) (k1 : a ≤ b → zR d j t ls st M Q) (k2 : ¬ (a ≤ b) → zR d j (pc + 3) ls st M Q) : zR d j pc ls (.inl b :: .inl a :: st) M Q := by
  by_cases h : a ≤ b
  · refine zR_nx hf rfl rfl rfl ?_ (k1 h)
    simp [znx, zn1, zn2, zif_at ht, h]
  · refine zR_nx hf rfl rfl rfl ?_ (k2 h)
    simp [znx, zn1, zn2, zif_at ht, h]
theorem r_zle {a o : Int} {t : Nat} (hf : zft j pc = some (.ifCond .le o, 3)) (ht : (pc : Int) + o = (t : Int)) (k1 : a ≤ 0 → zR d j t ls st M Q) (k2 : ¬ (a ≤ 0) → zR d j (pc + 3) ls st M Q) : zR d j pc ls (.inl a :: st) M Q := by
  by_cases h : a ≤ 0
  · refine zR_nx hf rfl rfl rfl ?_ (k1 h)
    simp [znx, zn1, zn2, zif_at ht, h]
  · refine zR_nx hf rfl rfl rfl ?_ (k2 h)
    simp [znx, zn1, zn2, zif_at ht, h]
theorem r_swin {dflt lo hi a o : Int} {offs : Array Int} {len t : Nat} (hf : zft j pc = some (.tableswitch dflt lo hi offs, len)) (h1 : lo ≤ a) (h2 : a ≤ hi) (ho : offs[(a - lo).toNat]? = some o) (ht : (pc : Int) + o = (t : Int)) (kk : zR d j t ls st M Q) : zR d j pc ls (.inl a :: st) M Q := by
  refine zR_nx hf rfl rfl rfl ?_ kk
  have h0 : 0 ≤ (pc : Int) + o := by omega
  simp only [znx, zn1, zn2]
  rw [if_neg (by omega)]
  simp only [ho, h0, if_true]
  rw [ht, Int.toNat_natCast]
theorem r_swout {dflt lo hi a : Int} {offs : Array Int} {len t : Nat} (hf : zft j pc = some (.tableswitch dflt lo hi offs, len)) (h : a < lo ∨ hi < a) (ht : (pc : Int) + dflt = (t : Int)) (kk : zR d j t ls st M Q) : zR d j pc ls (.inl a :: st) M Q := by
  refine zR_nx hf rfl rfl rfl ?_ kk
  have h0 : 0 ≤ (pc : Int) + dflt := by omega
  simp only [znx, zn1, zn2]
  rw [if_pos h]
  simp only [h0, if_true]
  rw [ht, Int.toNat_natCast]
theorem r_max {a b : Int} {n o q : Nat} (hf : zft j pc = some (.invokestatic n, 3)) (ho : zo j = o) (hm : zml o n = some (6, q)) (hr : st.length ≤ 4) (kk : zR (d + 1) j (pc + 3) ls (.inl (if a < b then b else a) :: st) M Q) : zR (d + 1) j pc ls (.inl b :: .inl a :: st) M Q := by
  refine zR_nx hf rfl rfl ?_ ?_ kk
  · simp [zca, ho, hm]
  · simp [znx, zn1, zn2, zn3, zn4, ho, hm, hr]
theorem r_min {a b : Int} {n o q : Nat} (hf : zft j pc = some (.invokestatic n, 3)) (ho : zo j = o) (hm : zml o n = some (7, q)) (hr : st.length ≤ 4) (kk : zR (d + 1) j (pc + 3) ls (.inl (if b < a then b else a) :: st) M Q) : zR (d + 1) j pc ls (.inl b :: .inl a :: st) M Q := by
  refine zR_nx hf rfl rfl ?_ ?_ kk
  · simp [zca, ho, hm]
  · simp [znx, zn1, zn2, zn3, zn4, ho, hm, hr]
theorem r_oinit {p : Int} {n o q : Nat} (hf : zft j pc = some (.invokespecial n, 3)) (ho : zo j = o) (hm : zml o n = some (5, q)) (hr : st.length ≤ 4) (kk : zR (d + 1) j (pc + 3) ls st M Q) : zR (d + 1) j pc ls (.inr (.inl (some p)) :: st) M Q := by
  refine zR_nx hf rfl rfl ?_ ?_ kk
  · simp [zca, ho, hm]
  · simp [znx, zn1, zn2, zn3, zn4, ho, hm, hr]
theorem r_iret {v : Int} (hf : zft j pc = some (.ireturn, 1)) (hr : zr j = some .int) (k : Q (some (.inl v)) M) : zR d j pc ls [.inl v] M Q := zR_re hf rfl (by simp [zre, hr]) k
theorem r_zret {v : Int} (hf : zft j pc = some (.ireturn, 1)) (hr : zr j = some .boolean) (hv : v = 0 ∨ v = 1) (k : Q (some (.inl v)) M) : zR d j pc ls [.inl v] M Q := zR_re hf rfl (by simp [zre, hr, hv]) k
theorem r_lret {v : Int64} (hf : zft j pc = some (.lreturn, 1)) (hr : zr j = some .long) (k : Q (some (.inr (.inr v))) M) : zR d j pc ls [.inr (.inr v)] M Q := zR_re hf rfl (by simp [zre, hr]) k
theorem r_vret (hf : zft j pc = some (.return_, 1)) (hr : zr j = none) (k : Q none M) : zR d j pc ls [] M Q := zR_re hf rfl (by simp [zre, hr]) k
end ZR
end
section
/-! a run that needs fewer locals -/
def zlq : zL → zL → Prop
  | [], [] => True
  | a :: s, b :: t => (a = b ∨ (a = none ∧ zlg (some b) = false)) ∧ zlq s t
  | _, _ => False
theorem zlq_rf : ∀ (s : zL), zlq s s
  | [] => trivial
  | a :: s => ⟨Or.inl rfl, zlq_rf s⟩
theorem zlq_len : ∀ {s t : zL}, zlq s t → s.length = t.length
  | [], [], _ => rfl
  | a :: s, b :: t, h => by simp [zlq_len h.2]
  | [], b :: t, h => h.elim
  | a :: s, [], h => h.elim
theorem zlq_get : ∀ {s t : zL} {k : Nat} {v : zV}, zlq s t → s[k]? = some (some v) → t[k]? = some (some v)
  | [], [], k, v, _, e => by simp at e
  | a :: s, b :: t, 0, v, h, e => by
    simp at e
    rcases h.1 with h1 | h1
    · subst h1; simp [e]
    · rw [h1.1] at e; cases e
  | a :: s, b :: t, k + 1, v, h, e => by
    have := zlq_get (k := k) (v := v) h.2 (by simpa using e)
    simpa using this
  | [], b :: t, k, v, h, _ => h.elim
  | a :: s, [], k, v, h, _ => h.elim
theorem zlq_lg : ∀ {s t : zL} {k : Nat}, zlq s t → zlg (t[k]?) = true → zlg (s[k]?) = true
  | [], [], k, _, e => by simp [zlg] at e
  | a :: s, b :: t, 0, h, e => by
    simp at e ⊢
    rcases h.1 with h1 | h1
    · subst h1; exact e
    · rw [h1.2] at e; cases e
  | a :: s, b :: t, k + 1, h, e => by
    have := zlq_lg (k := k) h.2 (by simpa using e)
    simpa using this
  | [], b :: t, k, h, _ => h.elim
  | a :: s, [], k, h, _ => h.elim
theorem zlq_fr {s t : zL} {k : Nat} (h : zlq s t) (e : zfree s k = true) : zfree t k = true := by
  unfold zfree at e ⊢
  rw [← zlq_len h]
  simp only [Bool.and_eq_true, decide_eq_true_eq, Bool.not_eq_true', Bool.and_eq_false_iff, decide_eq_false_iff_not] at e ⊢
  refine ⟨e.1, ?_⟩
  rcases e.2 with h1 | h1
  · exact Or.inl h1
  · right
    cases hz : zlg (t[k - 1]?) with
    | false => rfl
    | true => rw [zlq_lg h hz] at h1; cases h1
theorem zlq_set : ∀ {s t : zL} {k : Nat} {v : Option zV}, zlq s t → zlq (s.set k v) (t.set k v)
  | [], [], _, _, _ => trivial
  | a :: s, b :: t, 0, v, h => ⟨Or.inl rfl, h.2⟩
  | a :: s, b :: t, k + 1, v, h => ⟨h.1, zlq_set h.2⟩
  | [], b :: t, k, v, h => h.elim
  | a :: s, [], k, v, h => h.elim
theorem zn1_le {j : Nat} {i : Instr} {pc : Nat} {ls ls' : zL} {st : List zV} {M : zM} {x : zX} (h : zlq ls ls') (e : zn1 j i pc ls st M = some x) : ∃ l', zn1 j i pc ls' st M = some (x.1, l', x.2.2) ∧ zlq x.2.1 l' := by
  unfold zn1 at e
  split at e
  · split at e
    · next hk => cases e; exact ⟨ls', by simp only [zn1, zlq_get h hk], h⟩
    · cases e
  · split at e
    · next hk => cases e; exact ⟨ls', by simp only [zn1, zlq_get h hk], h⟩
    · cases e
  · split at e
    · next hk => cases e; exact ⟨ls', by simp only [zn1, zlq_get h hk], h⟩
    · cases e
  · split at e
    · next hk => cases e; exact ⟨ls', by simp only [zn1, zlq_get h hk], h⟩
    · cases e
  · split at e
    · next hk => cases e; exact ⟨ls', by simp only [zn1, zlq_get h hk], h⟩
    · cases e
  · split at e
    · split at e
      · next hf => cases e; exact ⟨_, by simp only [zn1, zlq_fr h hf, if_true], zlq_set h⟩
      · cases e
    · cases e
  · split at e
    · split at e
      · next hf => cases e; exact ⟨_, by simp only [zn1, zlq_fr h hf, if_true], zlq_set h⟩
      · cases e
    · cases e
  · split at e
    · split at e
      · next hf => cases e; exact ⟨_, by simp only [zn1, zlq_fr h hf, if_true], zlq_set h⟩
      · cases e
    · cases e
  · split at e
    · split at e
      · next hf => cases e; exact ⟨_, by simp only [zn1, zlq_fr h hf, if_true], zlq_set h⟩
      · cases e
    · cases e
  · split at e
    · split at e
      · next hf =>
        cases e
        have hl := zlq_len h
        exact ⟨_, by simp only [zn1, zlq_fr h hf.1, ← hl, hf.2, and_self, if_true], zlq_set (zlq_set h)⟩
      · cases e
    · cases e
  · split at e
    · next hk =>
      split at e
      · next hf => cases e; exact ⟨_, by simp only [zn1, zlq_get h hk, zlq_fr h hf.1, hf.2.1, hf.2.2, and_self, if_true], zlq_set h⟩
      · cases e
    · cases e
  · split at e
    · next hk => cases e; exact ⟨ls', by simp only [zn1, hk, if_true], h⟩
    · cases e
  · split at e
    · next hk => cases e; exact ⟨ls', by simp only [zn1, hk, and_self, if_true], h⟩
    · cases e
  · split at e
    · next hk => cases e; exact ⟨ls', by simp only [zn1, hk, and_self, if_true], h⟩
    · cases e
  · split at e
    · next hk => cases e; exact ⟨ls', by simp only [zn1, hk], h⟩
    · cases e
  · cases e
/-- the other steps carry the locals through -/
theorem zn2_ls {i : Instr} {pc : Nat} {ls ls' : zL} {st : List zV} {M : zM} : zn2 i pc ls' st M = (zn2 i pc ls st M).map (fun x => (x.1, ls', x.2.2)) := by
  unfold zn2
  repeat' split
  all_goals first | rfl | (simp only [Option.map_map]; rfl) | simp_all
theorem zn3_ls {j : Nat} {i : Instr} {pc : Nat} {ls ls' : zL} {st : List zV} {M : zM} : zn3 j i pc ls' st M = (zn3 j i pc ls st M).map (fun x => (x.1, ls', x.2.2)) := by
  unfold zn3
  repeat' split
  all_goals first | rfl | simp_all
theorem zn4_ls {d j : Nat} {i : Instr} {pc : Nat} {ls ls' : zL} {st : List zV} {M : zM} : zn4 d j i pc ls' st M = (zn4 d j i pc ls st M).map (fun x => (x.1, ls', x.2.2)) := by
  unfold zn4
  repeat' split
  all_goals first | rfl | simp_all
theorem zn2_lo {i : Instr} {pc : Nat} {ls : zL} {st : List zV} {M : zM} {x : zX} (h : zn2 i pc ls st M = some x) : x.2.1 = ls := by
  have := zn2_ls (i := i) (pc := pc) (ls := ls) (ls' := ls) (st := st) (M := M)
  rw [h] at this
  simp only [Option.map_some, Option.some.injEq] at this
  rw [this]
theorem zn3_lo {j : Nat} {i : Instr} {pc : Nat} {ls : zL} {st : List zV} {M : zM} {x : zX} (h : zn3 j i pc ls st M = some x) : x.2.1 = ls := by
  have := zn3_ls (j := j) (i := i) (pc := pc) (ls := ls) (ls' := ls) (st := st) (M := M)
  rw [h] at this
  simp only [Option.map_some, Option.some.injEq] at this
  rw [this]
theorem zn1_none {j : Nat} {i : Instr} {pc : Nat} {ls ls' : zL} {st : List zV} {M : zM} {x y : zX} (e : zn1 j i pc ls' st M = some x) (h2 : zn2 i pc ls st M = some y ∨ zn3 j i pc ls st M = some y ∨ ∃ d, zn4 d j i pc ls st M = some y) : False := by
  cases i <;> first | (simp [zn1] at e; done) | (rcases h2 with h2 | h2 | ⟨d, h2⟩ <;> first | (simp [zn2] at h2; done) | (simp [zn3] at h2; done) | (simp [zn4] at h2; done))
theorem znx_le {d j : Nat} {i : Instr} {pc : Nat} {ls ls' : zL} {st : List zV} {M : zM} {x : zX} (h : zlq ls ls') (e : znx d j i pc ls st M = some x) : ∃ l', znx d j i pc ls' st M = some (x.1, l', x.2.2) ∧ zlq x.2.1 l' := by
  have n1 : ∀ y, (zn2 i pc ls st M = some y ∨ zn3 j i pc ls st M = some y ∨ ∃ d, zn4 d j i pc ls st M = some y) → zn1 j i pc ls' st M = none := by
    intro y hy
    cases hz : zn1 j i pc ls' st M with
    | none => rfl
    | some z => exact (zn1_none hz hy).elim
  unfold znx at e
  split at e
  · next y e1 =>
    cases e
    obtain ⟨l', a1, a2⟩ := zn1_le h e1
    exact ⟨l', by unfold znx; rw [a1], a2⟩
  · split at e
    · next y e1 =>
      cases e
      refine ⟨ls', ?_, by rw [zn2_lo e1]; exact h⟩
      unfold znx
      rw [n1 _ (Or.inl e1), zn2_ls (ls := ls), e1]
      rfl
    · next e2 =>
      split at e
      · next y e1 =>
        cases e
        refine ⟨ls', ?_, by rw [zn3_lo e1]; exact h⟩
        unfold znx
        rw [n1 _ (Or.inr (Or.inl e1)), zn2_ls (ls := ls), e2, zn3_ls (ls := ls), e1]
        rfl
      · next e3 =>
        refine ⟨ls', ?_, by rw [(zn4_M e).2]; exact h⟩
        unfold znx
        rw [n1 _ (Or.inr (Or.inr ⟨d, e⟩)), zn2_ls (ls := ls), e2, zn3_ls (ls := ls), e3]
        simp only [Option.map_none]
        rw [zn4_ls (ls := ls), e]
        rfl
theorem zrun_ls : ∀ {n d j pc : Nat} {ls ls' : zL} {st : List zV} {M : zM} {y : Option zV × zM}, zlq ls ls' → zrun n d j pc ls st M = some y → zrun n d j pc ls' st M = some y := by
  intro n
  induction n with
  | zero => intro d j pc ls ls' st M y _ h; simp [zrun] at h
  | succ n ih =>
    intro d j pc ls ls' st M y hz h
    obtain ⟨i, len, hf, hl, h⟩ := zrun_x h
    unfold zrun
    rw [hf]
    simp only [hl, if_true]
    rcases h with ⟨r, hr, rfl⟩ | ⟨x, d', z, hn, hx, rfl, h1, h2⟩ | ⟨x, hn, hc, hx, h2⟩
    · rw [hr]
    · rw [hn, hx]
      simp only
      rw [h1]
      simp only
      exact ih hz h2
    · obtain ⟨l', a1, a2⟩ := znx_le hz hx
      rw [hn, hc, a1]
      simp only
      exact ih a2 h2
theorem r_forget {d j pc : Nat} {ls ls' : zL} {st : List zV} {M : zM} {Q : Option zV → zM → Prop} (h : zlq ls' ls) (k : zR d j pc ls' st M Q) : zR d j pc ls st M Q := by
  obtain ⟨n, y, e, q⟩ := k
  exact ⟨n, y, zrun_ls h e, q⟩
end
section
/-! the fixed frame of cells: kinds, references; memory as numbers -/
def zkd (L : Nat) (p : Int) : zK :=
  if p = -1 then .inr (0, (L : Int)) else if p = -2 then .inr (0, 7) else if p < 0 then .inl 99 else
  if p = 0 then .inl 6 else if p = 1 then .inl 4 else if p = 2 then .inr (2, 12) else
  if p < 51 then (if (p - 3) % 4 = 0 then .inl 1 else if (p - 3) % 4 = 1 then .inr (0, 120) else if (p - 3) % 4 = 2 then .inr (1, 40) else .inr (0, 12)) else
  if p = 51 then .inl 5 else if p = 52 then .inr (0, 84) else if p = 53 then .inr (0, 7) else if p = 54 then .inr (3, 40) else
  if p = 55 then .inl 2 else if p = 56 then .inr (0, 40) else if p = 57 then .inr (0, 40) else if p = 58 then .inr (0, 40) else if p = 59 then .inr (1, 40) else
  if p = 60 then .inl 3 else if p = 61 then .inr (0, 20) else if p = 62 then .inr (0, 20) else if p = 63 then .inr (0, 3) else
  if p < 264 then (if (p - 64) % 5 = 0 then .inl 0 else if (p - 64) % 5 = 1 then .inr (0, 7) else if (p - 64) % 5 = 2 then .inr (0, 21) else .inr (1, 7)) else
  if p = 264 then .inl 7 else
  if p = 265 then .inr (0, 36) else
  if p = 266 then .inr (0, 12) else
  if p = 267 then .inr (0, 12) else
  if p = 268 then .inr (1, 480) else
  if p = 269 then .inr (0, 1440) else
  if p = 270 then .inr (0, 144) else
  if p = 271 then .inr (0, 40) else
  if p = 272 then .inr (0, 40) else
  if p = 273 then .inr (0, 40) else
  if p = 274 then .inr (0, 280) else
  if p = 275 then .inr (0, 40) else
  if p = 276 then .inr (1, 280) else
  if p = 277 then .inr (0, 840) else
  if p = 278 then .inr (1, 280) else
  if p = 279 then .inr (0, 40) else
  if p = 280 then .inr (1, 40) else
  if p = 281 then .inr (0, 3) else
  if p = 282 then .inr (0, 84) else
  if p = 283 then .inr (0, 7) else
  if p = 284 then .inr (0, 20) else
  if p = 285 then .inr (0, 20) else
  if p = 286 then .inr (0, 40) else
  if p = 287 then .inr (0, 40) else
  if p = 288 then .inr (0, 40) else
  if p = 289 then .inr (1, 40) else
  .inl 99
def zasg (p k : Int) : Option Int :=
  if p = 0 then (if k = 0 then some 1 else if k = 1 then some 51 else if k = 2 then some 54 else if k = 3 then some 55 else if k = 4 then some 60 else if k = 5 then some 63 else none) else
  if p = 1 then (if k = 0 then some 2 else none) else if p = 2 then (if 0 ≤ k ∧ k < 12 then some (3 + 4 * k) else none) else
  if p < 51 then (if (p - 3) % 4 = 0 then (if k = 0 then some (p + 1) else if k = 1 then some (p + 2) else if k = 2 then some (p + 3) else none) else none) else
  if p = 51 then (if k = 0 then some 1 else if k = 1 then some 52 else if k = 2 then some 53 else none) else
  if p = 54 then (if 0 ≤ k ∧ k < 40 then some (64 + 5 * k) else none) else
  if p = 55 then (if k = 0 then some 56 else if k = 1 then some 57 else if k = 2 then some 58 else if k = 3 then some 59 else none) else
  if p = 60 then (if k = 0 then some 61 else if k = 1 then some 62 else none) else if p < 64 then none else
  if p < 264 then (if (p - 64) % 5 = 0 then (if k = 0 then some (p + 1) else if k = 1 then some (p + 2) else if k = 2 then some (p + 3) else if k = 3 then some (p + 4) else none) else none) else
  if p = 264 then (
    if k = 1 then some 265 else
    if k = 2 then some 266 else
    if k = 3 then some 267 else
    if k = 4 then some 268 else
    if k = 5 then some 269 else
    if k = 8 then some 270 else
    if k = 11 then some 271 else
    if k = 12 then some 272 else
    if k = 13 then some 273 else
    if k = 14 then some 274 else
    if k = 15 then some 275 else
    if k = 16 then some 276 else
    if k = 17 then some 277 else
    if k = 18 then some 278 else
    if k = 19 then some 279 else
    if k = 20 then some 280 else
    if k = 21 then some 281 else
    if k = 22 then some 282 else
    if k = 23 then some 283 else
    if k = 25 then some 284 else
    if k = 26 then some 285 else
    if k = 28 then some 286 else
    if k = 29 then some 287 else
    if k = 30 then some 288 else
    if k = 31 then some 289 else
    none) else none
def zrf (L : Nat) (p k : Int) : Option zV := match zkd L p with
  | .inl ci => if 8 ≤ ci then none else (match zasg p k with
    | some q => some (.inr (.inl (some q)))
    | none => if zty ci k.toNat = .int then none else some (.inr (.inl none)))
  | .inr (t, _) => if t < 2 then none else (match zasg p k with
    | some q => some (.inr (.inl (some q)))
    | none => some (.inr (.inl none)))
abbrev zmem : Type := Int → Int → Int
def zcn (L : Nat) (m : zmem) (p k : Int) : zV := match zrf L p k with
  | some v => v
  | none => .inl (m p k)
def zem (L : Nat) (m : zmem) : zM := (290, 8927, fun p => (zkd L p, zcn L m p))
def zu (m : zmem) (p k v : Int) : zmem := fun a => if a = p then (fun b => if b = k then v else m p b) else m a
theorem zu_ne {m : zmem} {p k v a : Int} (h : ¬ a = p) : zu m p k v a = m a := by simp [zu, h]
theorem zu_ne2 {m : zmem} {p k v a b : Int} (h : ¬ b = k) : zu m p k v a b = m a b := by
  by_cases e : a = p
  · subst e; simp [zu, h]
  · simp [zu, e]
theorem zu_at {m : zmem} {p k v : Int} : zu m p k v p k = v := by simp [zu]
theorem zu_if {m : zmem} {p k v a b : Int} : zu m p k v a b = if a = p ∧ b = k then v else m a b := by
  by_cases e : a = p
  · subst e; simp [zu]
  · simp [zu, e]
def zgi (L : Nat) (p : Int) (ci : Nat) (k : Int) : Prop := zkd L p = .inl ci ∧ zrf L p k = none
def zgr (L : Nat) (p : Int) (ci : Nat) (k q : Int) : Prop := zkd L p = .inl ci ∧ zrf L p k = some (.inr (.inl (some q)))
theorem zgi_of {L : Nat} {p k : Int} {ci : Nat} (h : zkd L p = .inl ci) (h8 : ci < 8) (ha : zasg p k = none) (ht : zty ci k.toNat = .int) : zgi L p ci k := by
  refine ⟨h, ?_⟩
  unfold zrf
  rw [h]
  simp only
  rw [if_neg (by omega), ha]
  simp only [ht, if_true]
theorem zgr_of {L : Nat} {p k q : Int} {ci : Nat} (h : zkd L p = .inl ci) (h8 : ci < 8) (ha : zasg p k = some q) : zgr L p ci k q := by
  refine ⟨h, ?_⟩
  unfold zrf
  rw [h]
  simp only
  rw [if_neg (by omega), ha]
theorem zrf_arr {L : Nat} {p k len : Int} {t : Nat} (h : zkd L p = .inr (t, len)) (ht : t < 2) : zrf L p k = none := by
  unfold zrf
  rw [h]
  simp only
  rw [if_pos ht]
theorem zrf_ref {L : Nat} {p k len q : Int} {t : Nat} (h : zkd L p = .inr (t, len)) (ht : ¬ t < 2) (ha : zasg p k = some q) : zrf L p k = some (.inr (.inl (some q))) := by
  unfold zrf
  rw [h]
  simp only
  rw [if_neg ht, ha]
theorem zem_set {L : Nat} {m : zmem} {p k v : Int} (h : zrf L p k = none) : zup (zem L m) p (zst ((zem L m).2.2 p) k (.inl v)) = zem L (zu m p k v) := by
  unfold zup zst zem
  refine Prod.ext rfl (Prod.ext rfl ?_)
  funext q
  by_cases e : q = p
  · subst e
    simp only [if_true]
    refine Prod.ext rfl ?_
    funext i
    by_cases e2 : i = k
    · subst e2
      simp [zcn, h, zu]
    · simp only [e2, if_false, zcn, zu_ne2 e2]
  · simp only [e, if_false]
    refine Prod.ext rfl ?_
    funext i
    simp only [zcn, zu_ne e]
theorem kd0 {L : Nat} : zkd L (0) = .inl 6 := by simp [zkd]
theorem kd1 {L : Nat} : zkd L (1) = .inl 4 := by simp [zkd]
theorem kd2 {L : Nat} : zkd L (2) = .inr (2, 12) := by simp [zkd]
theorem kd51 {L : Nat} : zkd L (51) = .inl 5 := by simp [zkd]
theorem kd52 {L : Nat} : zkd L (52) = .inr (0, 84) := by simp [zkd]
theorem kd53 {L : Nat} : zkd L (53) = .inr (0, 7) := by simp [zkd]
theorem kd54 {L : Nat} : zkd L (54) = .inr (3, 40) := by simp [zkd]
theorem kd55 {L : Nat} : zkd L (55) = .inl 2 := by simp [zkd]
theorem kd56 {L : Nat} : zkd L (56) = .inr (0, 40) := by simp [zkd]
theorem kd57 {L : Nat} : zkd L (57) = .inr (0, 40) := by simp [zkd]
theorem kd58 {L : Nat} : zkd L (58) = .inr (0, 40) := by simp [zkd]
theorem kd59 {L : Nat} : zkd L (59) = .inr (1, 40) := by simp [zkd]
theorem kd60 {L : Nat} : zkd L (60) = .inl 3 := by simp [zkd]
theorem kd61 {L : Nat} : zkd L (61) = .inr (0, 20) := by simp [zkd]
theorem kd62 {L : Nat} : zkd L (62) = .inr (0, 20) := by simp [zkd]
theorem kd63 {L : Nat} : zkd L (63) = .inr (0, 3) := by simp [zkd]
theorem kd264 {L : Nat} : zkd L (264) = .inl 7 := by simp [zkd]
theorem kd265 {L : Nat} : zkd L (265) = .inr (0, 36) := by simp [zkd]
theorem kd266 {L : Nat} : zkd L (266) = .inr (0, 12) := by simp [zkd]
theorem kd267 {L : Nat} : zkd L (267) = .inr (0, 12) := by simp [zkd]
theorem kd268 {L : Nat} : zkd L (268) = .inr (1, 480) := by simp [zkd]
theorem kd269 {L : Nat} : zkd L (269) = .inr (0, 1440) := by simp [zkd]
theorem kd270 {L : Nat} : zkd L (270) = .inr (0, 144) := by simp [zkd]
theorem kd271 {L : Nat} : zkd L (271) = .inr (0, 40) := by simp [zkd]
theorem kd272 {L : Nat} : zkd L (272) = .inr (0, 40) := by simp [zkd]
theorem kd273 {L : Nat} : zkd L (273) = .inr (0, 40) := by simp [zkd]
theorem kd274 {L : Nat} : zkd L (274) = .inr (0, 280) := by simp [zkd]
theorem kd275 {L : Nat} : zkd L (275) = .inr (0, 40) := by simp [zkd]
theorem kd276 {L : Nat} : zkd L (276) = .inr (1, 280) := by simp [zkd]
theorem kd277 {L : Nat} : zkd L (277) = .inr (0, 840) := by simp [zkd]
theorem kd278 {L : Nat} : zkd L (278) = .inr (1, 280) := by simp [zkd]
theorem kd279 {L : Nat} : zkd L (279) = .inr (0, 40) := by simp [zkd]
theorem kd280 {L : Nat} : zkd L (280) = .inr (1, 40) := by simp [zkd]
theorem kd281 {L : Nat} : zkd L (281) = .inr (0, 3) := by simp [zkd]
theorem kd282 {L : Nat} : zkd L (282) = .inr (0, 84) := by simp [zkd]
theorem kd283 {L : Nat} : zkd L (283) = .inr (0, 7) := by simp [zkd]
theorem kd284 {L : Nat} : zkd L (284) = .inr (0, 20) := by simp [zkd]
theorem kd285 {L : Nat} : zkd L (285) = .inr (0, 20) := by simp [zkd]
theorem kd286 {L : Nat} : zkd L (286) = .inr (0, 40) := by simp [zkd]
theorem kd287 {L : Nat} : zkd L (287) = .inr (0, 40) := by simp [zkd]
theorem kd288 {L : Nat} : zkd L (288) = .inr (0, 40) := by simp [zkd]
theorem kd289 {L : Nat} : zkd L (289) = .inr (1, 40) := by simp [zkd]
theorem kdm1 {L : Nat} : zkd L (-1) = .inr (0, (L : Int)) := by simp [zkd]
theorem kdm2 {L : Nat} : zkd L (-2) = .inr (0, 7) := by simp [zkd]
theorem kdH0 {L : Nat} {h : Int} (h0 : 0 ≤ h) (h1 : h < 12) : zkd L (3 + 4 * h) = .inl 1 := by
  unfold zkd
  repeat (first | rw [if_neg (by omega)] | rw [if_pos (by omega)])
theorem kdH1 {L : Nat} {h : Int} (h0 : 0 ≤ h) (h1 : h < 12) : zkd L (4 + 4 * h) = .inr (0, 120) := by
  unfold zkd
  repeat (first | rw [if_neg (by omega)] | rw [if_pos (by omega)])
theorem kdH2 {L : Nat} {h : Int} (h0 : 0 ≤ h) (h1 : h < 12) : zkd L (5 + 4 * h) = .inr (1, 40) := by
  unfold zkd
  repeat (first | rw [if_neg (by omega)] | rw [if_pos (by omega)])
theorem kdH3 {L : Nat} {h : Int} (h0 : 0 ≤ h) (h1 : h < 12) : zkd L (6 + 4 * h) = .inr (0, 12) := by
  unfold zkd
  repeat (first | rw [if_neg (by omega)] | rw [if_pos (by omega)])
theorem kdC0 {L : Nat} {c : Int} (h0 : 0 ≤ c) (h1 : c < 40) : zkd L (64 + 5 * c) = .inl 0 := by
  unfold zkd
  repeat (first | rw [if_neg (by omega)] | rw [if_pos (by omega)])
theorem kdC1 {L : Nat} {c : Int} (h0 : 0 ≤ c) (h1 : c < 40) : zkd L (65 + 5 * c) = .inr (0, 7) := by
  unfold zkd
  repeat (first | rw [if_neg (by omega)] | rw [if_pos (by omega)])
theorem kdC2 {L : Nat} {c : Int} (h0 : 0 ≤ c) (h1 : c < 40) : zkd L (66 + 5 * c) = .inr (0, 21) := by
  unfold zkd
  repeat (first | rw [if_neg (by omega)] | rw [if_pos (by omega)])
theorem kdC3 {L : Nat} {c : Int} (h0 : 0 ≤ c) (h1 : c < 40) : zkd L (67 + 5 * c) = .inr (1, 7) := by
  unfold zkd
  repeat (first | rw [if_neg (by omega)] | rw [if_pos (by omega)])
theorem kdC4 {L : Nat} {c : Int} (h0 : 0 ≤ c) (h1 : c < 40) : zkd L (68 + 5 * c) = .inr (1, 7) := by
  unfold zkd
  repeat (first | rw [if_neg (by omega)] | rw [if_pos (by omega)])
theorem g0_0 {L : Nat} : zgr L (0) 6 0 (1) := zgr_of kd0 (by decide) (by simp [zasg])
theorem g0_1 {L : Nat} : zgr L (0) 6 1 (51) := zgr_of kd0 (by decide) (by simp [zasg])
theorem g0_2 {L : Nat} : zgr L (0) 6 2 (54) := zgr_of kd0 (by decide) (by simp [zasg])
theorem g0_3 {L : Nat} : zgr L (0) 6 3 (55) := zgr_of kd0 (by decide) (by simp [zasg])
theorem g0_4 {L : Nat} : zgr L (0) 6 4 (60) := zgr_of kd0 (by decide) (by simp [zasg])
theorem g0_5 {L : Nat} : zgr L (0) 6 5 (63) := zgr_of kd0 (by decide) (by simp [zasg])
theorem g0_6 {L : Nat} : zgi L (0) 6 6 := zgi_of kd0 (by decide) (by simp [zasg]) (by decide)
theorem g0_7 {L : Nat} : zgi L (0) 6 7 := zgi_of kd0 (by decide) (by simp [zasg]) (by decide)
theorem g0_8 {L : Nat} : zgi L (0) 6 8 := zgi_of kd0 (by decide) (by simp [zasg]) (by decide)
theorem g1_0 {L : Nat} : zgr L (1) 4 0 (2) := zgr_of kd1 (by decide) (by simp [zasg])
theorem g1_1 {L : Nat} : zgi L (1) 4 1 := zgi_of kd1 (by decide) (by simp [zasg]) (by decide)
theorem g1_2 {L : Nat} : zgi L (1) 4 2 := zgi_of kd1 (by decide) (by simp [zasg]) (by decide)
theorem g51_0 {L : Nat} : zgr L (51) 5 0 (1) := zgr_of kd51 (by decide) (by simp [zasg])
theorem g51_1 {L : Nat} : zgr L (51) 5 1 (52) := zgr_of kd51 (by decide) (by simp [zasg])
theorem g51_2 {L : Nat} : zgr L (51) 5 2 (53) := zgr_of kd51 (by decide) (by simp [zasg])
theorem g55_0 {L : Nat} : zgr L (55) 2 0 (56) := zgr_of kd55 (by decide) (by simp [zasg])
theorem g55_1 {L : Nat} : zgr L (55) 2 1 (57) := zgr_of kd55 (by decide) (by simp [zasg])
theorem g55_2 {L : Nat} : zgr L (55) 2 2 (58) := zgr_of kd55 (by decide) (by simp [zasg])
theorem g55_3 {L : Nat} : zgr L (55) 2 3 (59) := zgr_of kd55 (by decide) (by simp [zasg])
theorem g55_4 {L : Nat} : zgi L (55) 2 4 := zgi_of kd55 (by decide) (by simp [zasg]) (by decide)
theorem g60_0 {L : Nat} : zgr L (60) 3 0 (61) := zgr_of kd60 (by decide) (by simp [zasg])
theorem g60_1 {L : Nat} : zgr L (60) 3 1 (62) := zgr_of kd60 (by decide) (by simp [zasg])
theorem g60_2 {L : Nat} : zgi L (60) 3 2 := zgi_of kd60 (by decide) (by simp [zasg]) (by decide)
theorem g264_0 {L : Nat} : zgi L (264) 7 0 := zgi_of kd264 (by decide) (by simp [zasg]) (by decide)
theorem g264_1 {L : Nat} : zgr L (264) 7 1 (265) := zgr_of kd264 (by decide) (by simp [zasg])
theorem g264_2 {L : Nat} : zgr L (264) 7 2 (266) := zgr_of kd264 (by decide) (by simp [zasg])
theorem g264_3 {L : Nat} : zgr L (264) 7 3 (267) := zgr_of kd264 (by decide) (by simp [zasg])
theorem g264_4 {L : Nat} : zgr L (264) 7 4 (268) := zgr_of kd264 (by decide) (by simp [zasg])
theorem g264_5 {L : Nat} : zgr L (264) 7 5 (269) := zgr_of kd264 (by decide) (by simp [zasg])
theorem g264_6 {L : Nat} : zgi L (264) 7 6 := zgi_of kd264 (by decide) (by simp [zasg]) (by decide)
theorem g264_7 {L : Nat} : zgi L (264) 7 7 := zgi_of kd264 (by decide) (by simp [zasg]) (by decide)
theorem g264_8 {L : Nat} : zgr L (264) 7 8 (270) := zgr_of kd264 (by decide) (by simp [zasg])
theorem g264_9 {L : Nat} : zgi L (264) 7 9 := zgi_of kd264 (by decide) (by simp [zasg]) (by decide)
theorem g264_10 {L : Nat} : zgi L (264) 7 10 := zgi_of kd264 (by decide) (by simp [zasg]) (by decide)
theorem g264_11 {L : Nat} : zgr L (264) 7 11 (271) := zgr_of kd264 (by decide) (by simp [zasg])
theorem g264_12 {L : Nat} : zgr L (264) 7 12 (272) := zgr_of kd264 (by decide) (by simp [zasg])
theorem g264_13 {L : Nat} : zgr L (264) 7 13 (273) := zgr_of kd264 (by decide) (by simp [zasg])
theorem g264_14 {L : Nat} : zgr L (264) 7 14 (274) := zgr_of kd264 (by decide) (by simp [zasg])
theorem g264_15 {L : Nat} : zgr L (264) 7 15 (275) := zgr_of kd264 (by decide) (by simp [zasg])
theorem g264_16 {L : Nat} : zgr L (264) 7 16 (276) := zgr_of kd264 (by decide) (by simp [zasg])
theorem g264_17 {L : Nat} : zgr L (264) 7 17 (277) := zgr_of kd264 (by decide) (by simp [zasg])
theorem g264_18 {L : Nat} : zgr L (264) 7 18 (278) := zgr_of kd264 (by decide) (by simp [zasg])
theorem g264_19 {L : Nat} : zgr L (264) 7 19 (279) := zgr_of kd264 (by decide) (by simp [zasg])
theorem g264_20 {L : Nat} : zgr L (264) 7 20 (280) := zgr_of kd264 (by decide) (by simp [zasg])
theorem g264_21 {L : Nat} : zgr L (264) 7 21 (281) := zgr_of kd264 (by decide) (by simp [zasg])
theorem g264_22 {L : Nat} : zgr L (264) 7 22 (282) := zgr_of kd264 (by decide) (by simp [zasg])
theorem g264_23 {L : Nat} : zgr L (264) 7 23 (283) := zgr_of kd264 (by decide) (by simp [zasg])
theorem g264_24 {L : Nat} : zgi L (264) 7 24 := zgi_of kd264 (by decide) (by simp [zasg]) (by decide)
theorem g264_25 {L : Nat} : zgr L (264) 7 25 (284) := zgr_of kd264 (by decide) (by simp [zasg])
theorem g264_26 {L : Nat} : zgr L (264) 7 26 (285) := zgr_of kd264 (by decide) (by simp [zasg])
theorem g264_27 {L : Nat} : zgi L (264) 7 27 := zgi_of kd264 (by decide) (by simp [zasg]) (by decide)
theorem g264_28 {L : Nat} : zgr L (264) 7 28 (286) := zgr_of kd264 (by decide) (by simp [zasg])
theorem g264_29 {L : Nat} : zgr L (264) 7 29 (287) := zgr_of kd264 (by decide) (by simp [zasg])
theorem g264_30 {L : Nat} : zgr L (264) 7 30 (288) := zgr_of kd264 (by decide) (by simp [zasg])
theorem g264_31 {L : Nat} : zgr L (264) 7 31 (289) := zgr_of kd264 (by decide) (by simp [zasg])
theorem gH_0 {L : Nat} {h : Int} (h0 : 0 ≤ h) (h1 : h < 12) : zgr L (3 + 4 * h) 1 0 (4 + 4 * h) := zgr_of (kdH0 h0 h1) (by decide) (by
  unfold zasg
  repeat (first | rw [if_neg (by omega)] | rw [if_pos (by omega)])
  congr 1; omega)
theorem gH_1 {L : Nat} {h : Int} (h0 : 0 ≤ h) (h1 : h < 12) : zgr L (3 + 4 * h) 1 1 (5 + 4 * h) := zgr_of (kdH0 h0 h1) (by decide) (by
  unfold zasg
  repeat (first | rw [if_neg (by omega)] | rw [if_pos (by omega)])
  congr 1; omega)
theorem gH_2 {L : Nat} {h : Int} (h0 : 0 ≤ h) (h1 : h < 12) : zgr L (3 + 4 * h) 1 2 (6 + 4 * h) := zgr_of (kdH0 h0 h1) (by decide) (by
  unfold zasg
  repeat (first | rw [if_neg (by omega)] | rw [if_pos (by omega)])
  congr 1; omega)
theorem gH_3 {L : Nat} {h : Int} (h0 : 0 ≤ h) (h1 : h < 12) : zgi L (3 + 4 * h) 1 3 := zgi_of (kdH0 h0 h1) (by decide) (by
  unfold zasg
  repeat (first | rw [if_neg (by omega)] | rw [if_pos (by omega)])) (by decide)
theorem gH_4 {L : Nat} {h : Int} (h0 : 0 ≤ h) (h1 : h < 12) : zgi L (3 + 4 * h) 1 4 := zgi_of (kdH0 h0 h1) (by decide) (by
  unfold zasg
  repeat (first | rw [if_neg (by omega)] | rw [if_pos (by omega)])) (by decide)
theorem gH_5 {L : Nat} {h : Int} (h0 : 0 ≤ h) (h1 : h < 12) : zgi L (3 + 4 * h) 1 5 := zgi_of (kdH0 h0 h1) (by decide) (by
  unfold zasg
  repeat (first | rw [if_neg (by omega)] | rw [if_pos (by omega)])) (by decide)
theorem gH_6 {L : Nat} {h : Int} (h0 : 0 ≤ h) (h1 : h < 12) : zgi L (3 + 4 * h) 1 6 := zgi_of (kdH0 h0 h1) (by decide) (by
  unfold zasg
  repeat (first | rw [if_neg (by omega)] | rw [if_pos (by omega)])) (by decide)
theorem gC_0 {L : Nat} {c : Int} (h0 : 0 ≤ c) (h1 : c < 40) : zgr L (64 + 5 * c) 0 0 (65 + 5 * c) := zgr_of (kdC0 h0 h1) (by decide) (by
  unfold zasg
  repeat (first | rw [if_neg (by omega)] | rw [if_pos (by omega)])
  congr 1; omega)
theorem gC_1 {L : Nat} {c : Int} (h0 : 0 ≤ c) (h1 : c < 40) : zgr L (64 + 5 * c) 0 1 (66 + 5 * c) := zgr_of (kdC0 h0 h1) (by decide) (by
  unfold zasg
  repeat (first | rw [if_neg (by omega)] | rw [if_pos (by omega)])
  congr 1; omega)
theorem gC_2 {L : Nat} {c : Int} (h0 : 0 ≤ c) (h1 : c < 40) : zgr L (64 + 5 * c) 0 2 (67 + 5 * c) := zgr_of (kdC0 h0 h1) (by decide) (by
  unfold zasg
  repeat (first | rw [if_neg (by omega)] | rw [if_pos (by omega)])
  congr 1; omega)
theorem gC_3 {L : Nat} {c : Int} (h0 : 0 ≤ c) (h1 : c < 40) : zgr L (64 + 5 * c) 0 3 (68 + 5 * c) := zgr_of (kdC0 h0 h1) (by decide) (by
  unfold zasg
  repeat (first | rw [if_neg (by omega)] | rw [if_pos (by omega)])
  congr 1; omega)
theorem gC_4 {L : Nat} {c : Int} (h0 : 0 ≤ c) (h1 : c < 40) : zgi L (64 + 5 * c) 0 4 := zgi_of (kdC0 h0 h1) (by decide) (by
  unfold zasg
  repeat (first | rw [if_neg (by omega)] | rw [if_pos (by omega)])) (by decide)
theorem gC_5 {L : Nat} {c : Int} (h0 : 0 ≤ c) (h1 : c < 40) : zgi L (64 + 5 * c) 0 5 := zgi_of (kdC0 h0 h1) (by decide) (by
  unfold zasg
  repeat (first | rw [if_neg (by omega)] | rw [if_pos (by omega)])) (by decide)
theorem gC_6 {L : Nat} {c : Int} (h0 : 0 ≤ c) (h1 : c < 40) : zgi L (64 + 5 * c) 0 6 := zgi_of (kdC0 h0 h1) (by decide) (by
  unfold zasg
  repeat (first | rw [if_neg (by omega)] | rw [if_pos (by omega)])) (by decide)
theorem gC_7 {L : Nat} {c : Int} (h0 : 0 ≤ c) (h1 : c < 40) : zgi L (64 + 5 * c) 0 7 := zgi_of (kdC0 h0 h1) (by decide) (by
  unfold zasg
  repeat (first | rw [if_neg (by omega)] | rw [if_pos (by omega)])) (by decide)
theorem gC_8 {L : Nat} {c : Int} (h0 : 0 ≤ c) (h1 : c < 40) : zgi L (64 + 5 * c) 0 8 := zgi_of (kdC0 h0 h1) (by decide) (by
  unfold zasg
  repeat (first | rw [if_neg (by omega)] | rw [if_pos (by omega)])) (by decide)
theorem ag2 {h : Int} (h0 : 0 ≤ h) (h1 : h < 12) : zasg 2 h = some (3 + 4 * h) := by simp [zasg, h0, h1]
theorem ag54 {c : Int} (h0 : 0 ≤ c) (h1 : c < 40) : zasg 54 c = some (64 + 5 * c) := by simp [zasg, h0, h1]
section ZRM
variable {L d j pc : Nat} {ls : zL} {st : List zV} {m : zmem} {Q : Option zV → zM → Prop}
theorem r_getI {n o ci : Nat} {k : Nat} {k' p : Int} (hf : zft j pc = some (.getfield n, 3)) (ho : zo j = o) (hg : zfl o n = some (ci, k)) (h : zgi L p ci k') (hk : (k : Int) = k') (kk : zR d j (pc + 3) ls (.inl (m p k') :: st) (zem L m) Q) : zR d j pc ls (.inr (.inl (some p)) :: st) (zem L m) Q := by
  subst hk
  refine zR_nx hf rfl rfl rfl ?_ kk
  have e : ((zem L m).2.2 p).1 = .inl ci := h.1
  have e2 : ((zem L m).2.2 p).2 (k : Int) = .inl (m p k) := by show zcn L m p k = _; unfold zcn; rw [h.2]
  simp only [znx, zn1, zn2, zn3, ho, hg, e, if_true, e2]
theorem r_getR {n o ci : Nat} {k : Nat} {k' p q : Int} (hf : zft j pc = some (.getfield n, 3)) (ho : zo j = o) (hg : zfl o n = some (ci, k)) (h : zgr L p ci k' q) (hk : (k : Int) = k') (kk : zR d j (pc + 3) ls (.inr (.inl (some q)) :: st) (zem L m) Q) : zR d j pc ls (.inr (.inl (some p)) :: st) (zem L m) Q := by
  subst hk
  refine zR_nx hf rfl rfl rfl ?_ kk
  have e : ((zem L m).2.2 p).1 = .inl ci := h.1
  have e2 : ((zem L m).2.2 p).2 (k : Int) = .inr (.inl (some q)) := by show zcn L m p k = _; unfold zcn; rw [h.2]
  simp only [znx, zn1, zn2, zn3, ho, hg, e, if_true, e2]
theorem r_put {n o ci : Nat} {k : Nat} {k' p v : Int} (hf : zft j pc = some (.putfield n, 3)) (ho : zo j = o) (hg : zfl o n = some (ci, k)) (h : zgi L p ci k') (hk : (k : Int) = k') (ht : zty ci k = .int) (hn : (zT ci k).2.2.2 = false) (kk : zR d j (pc + 3) ls st (zem L (zu m p k' v)) Q) : zR d j pc ls (.inl v :: .inr (.inl (some p)) :: st) (zem L m) Q := by
  subst hk
  refine zR_nx hf rfl rfl rfl ?_ kk
  have e : ((zem L m).2.2 p).1 = .inl ci := h.1
  simp only [znx, zn1, zn2, zn3, ho, hg, e, ht, hn, and_self, if_true]
  rw [zem_set h.2]
theorem r_iald {p a len : Int} (hf : zft j pc = some (.iaload, 1)) (h : zkd L p = .inr (0, len)) (h0 : 0 ≤ a) (h1 : a < len) (kk : zR d j (pc + 1) ls (.inl (m p a) :: st) (zem L m) Q) : zR d j pc ls (.inl a :: .inr (.inl (some p)) :: st) (zem L m) Q := by
  refine zR_nx hf rfl rfl rfl ?_ kk
  have e : ((zem L m).2.2 p).1 = .inr (0, len) := h
  have e2 : ((zem L m).2.2 p).2 a = .inl (m p a) := by show zcn L m p a = _; unfold zcn; rw [zrf_arr h (by decide)]
  simp only [znx, zn1, zn2, zn3, e, h0, h1, and_self, if_true, e2]
theorem r_bald {p a len : Int} (hf : zft j pc = some (.baload, 1)) (h : zkd L p = .inr (1, len)) (h0 : 0 ≤ a) (h1 : a < len) (kk : zR d j (pc + 1) ls (.inl (m p a) :: st) (zem L m) Q) : zR d j pc ls (.inl a :: .inr (.inl (some p)) :: st) (zem L m) Q := by
  refine zR_nx hf rfl rfl rfl ?_ kk
  have e : ((zem L m).2.2 p).1 = .inr (1, len) := h
  have e2 : ((zem L m).2.2 p).2 a = .inl (m p a) := by show zcn L m p a = _; unfold zcn; rw [zrf_arr h (by decide)]
  simp only [znx, zn1, zn2, zn3, e, h0, h1, and_self, if_true, e2]
theorem r_aldH {a : Int} (hf : zft j pc = some (.aaload, 1)) (h0 : 0 ≤ a) (h1 : a < 12) (kk : zR d j (pc + 1) ls (.inr (.inl (some (3 + 4 * a))) :: st) (zem L m) Q) : zR d j pc ls (.inl a :: .inr (.inl (some 2)) :: st) (zem L m) Q := by
  refine zR_nx hf rfl rfl rfl ?_ kk
  have e : ((zem L m).2.2 2).1 = .inr (2, 12) := kd2 (L := L)
  have e2 : ((zem L m).2.2 2).2 a = .inr (.inl (some (3 + 4 * a))) := by show zcn L m 2 a = _; unfold zcn; rw [zrf_ref kd2 (by decide) (ag2 h0 h1)]
  simp [znx, zn1, zn2, zn3, e, h0, h1, e2]
theorem r_aldC {a : Int} (hf : zft j pc = some (.aaload, 1)) (h0 : 0 ≤ a) (h1 : a < 40) (kk : zR d j (pc + 1) ls (.inr (.inl (some (64 + 5 * a))) :: st) (zem L m) Q) : zR d j pc ls (.inl a :: .inr (.inl (some 54)) :: st) (zem L m) Q := by
  refine zR_nx hf rfl rfl rfl ?_ kk
  have e : ((zem L m).2.2 54).1 = .inr (3, 40) := kd54 (L := L)
  have e2 : ((zem L m).2.2 54).2 a = .inr (.inl (some (64 + 5 * a))) := by show zcn L m 54 a = _; unfold zcn; rw [zrf_ref kd54 (by decide) (ag54 h0 h1)]
  simp [znx, zn1, zn2, zn3, e, h0, h1, e2]
theorem r_iast {p a len v : Int} (hf : zft j pc = some (.iastore, 1)) (h : zkd L p = .inr (0, len)) (hp : 0 ≤ p) (h0 : 0 ≤ a) (h1 : a < len) (kk : zR d j (pc + 1) ls st (zem L (zu m p a v)) Q) : zR d j pc ls (.inl v :: .inl a :: .inr (.inl (some p)) :: st) (zem L m) Q := by
  refine zR_nx hf rfl rfl rfl ?_ kk
  have e : ((zem L m).2.2 p).1 = .inr (0, len) := h
  simp only [znx, zn1, zn2, zn3, e, hp, h0, h1, and_self, if_true]
  rw [zem_set (zrf_arr h (by decide))]
theorem r_bast {p a len v : Int} (hf : zft j pc = some (.bastore, 1)) (h : zkd L p = .inr (1, len)) (hp : 0 ≤ p) (h0 : 0 ≤ a) (h1 : a < len) (hv : v = 0 ∨ v = 1) (kk : zR d j (pc + 1) ls st (zem L (zu m p a v)) Q) : zR d j pc ls (.inl v :: .inl a :: .inr (.inl (some p)) :: st) (zem L m) Q := by
  refine zR_nx hf rfl rfl rfl ?_ kk
  have e : ((zem L m).2.2 p).1 = .inr (1, len) := h
  simp only [znx, zn1, zn2, zn3, e, hp, h0, h1, hv, and_self, if_true]
  rw [zem_set (zrf_arr h (by decide))]
theorem r_alen {p len : Int} (hf : zft j pc = some (.arraylength, 1)) (h : zkd L p = .inr (0, len)) (kk : zR d j (pc + 1) ls (.inl len :: st) (zem L m) Q) : zR d j pc ls (.inr (.inl (some p)) :: st) (zem L m) Q := by
  refine zR_nx hf rfl rfl rfl ?_ kk
  have e : ((zem L m).2.2 p).1 = .inr (0, len) := h
  simp only [znx, zn1, zn2, zn3, e]
theorem r_gets {o : Nat} (hf : zft j pc = some (.getstatic 26, 3)) (ho : zo j = 1) (kk : zR d j (pc + 3) ls (.inr (.inl (some (-2))) :: st) (zem L m) Q) : zR d j pc ls st (zem L m) Q := by
  refine zR_nx hf rfl rfl rfl ?_ kk
  simp only [znx, zn1, zn2, zn3, ho, and_self, if_true]
/-- what a method answers and leaves -/
def zF (L d j : Nat) (as : List zV) (m : zmem) (v : Option zV) (m' : zmem) : Prop := zR d j 0 (zent j as) [] (zem L m) (fun r M => r = v ∧ M = zem L m')

theorem r_callv0 {q n o c : Nat} {p : Int} {v : Option zV} {m' : zmem} (hf : zft j pc = some (.invokevirtual n, 3)) (ho : zo j = o) (hm : zml o n = some (0, q)) (hp : zp q = 0) (hc : zo q = c) (hk : zkd L p = .inl c) (hs : zsm [] = true) (hr : st.length ≤ 4) (hF : zF L d q (.inr (.inl (some p)) :: []) m v m') (kk : zR (d + 1) j (pc + 3) ls (v.toList ++ st) (zem L m') Q) : zR (d + 1) j pc ls (.inr (.inl (some p)) :: st) (zem L m) Q := by
  have e : ((zem L m).2.2 p).1 = .inl c := hk
  refine zR_ca (x := (q, .inr (.inl (some p)) :: [], st)) hf rfl rfl ?_ hF kk
  simp only [zca, ho, hm, hp, List.drop, List.take, e, hc, hr]
  simp [hs]
theorem r_callv1 {q n o c : Nat} {p : Int} {a1 : zV} {v : Option zV} {m' : zmem} (hf : zft j pc = some (.invokevirtual n, 3)) (ho : zo j = o) (hm : zml o n = some (0, q)) (hp : zp q = 1) (hc : zo q = c) (hk : zkd L p = .inl c) (hs : zsm [a1] = true) (hr : st.length ≤ 4) (hF : zF L d q (.inr (.inl (some p)) :: [a1]) m v m') (kk : zR (d + 1) j (pc + 3) ls (v.toList ++ st) (zem L m') Q) : zR (d + 1) j pc ls (a1 :: .inr (.inl (some p)) :: st) (zem L m) Q := by
  have e : ((zem L m).2.2 p).1 = .inl c := hk
  refine zR_ca (x := (q, .inr (.inl (some p)) :: [a1], st)) hf rfl rfl ?_ hF kk
  simp only [zca, ho, hm, hp, List.drop, List.take, e, hc, hr]
  simp [hs]
theorem r_calls1 {q n o c : Nat} {a1 : zV} {v : Option zV} {m' : zmem} (hf : zft j pc = some (.invokestatic n, 3)) (ho : zo j = o) (hm : zml o n = some (c, q)) (hc : c = 1 ∨ c = 3) (hp : zp q = 1) (hs : zsm [a1] = true) (hr : st.length ≤ 4) (hF : zF L d q [a1] m v m') (kk : zR (d + 1) j (pc + 3) ls (v.toList ++ st) (zem L m') Q) : zR (d + 1) j pc ls (a1 :: st) (zem L m) Q := by
  refine zR_ca (x := (q, [a1], st)) hf rfl rfl ?_ hF kk
  simp only [zca, ho, hm, hp, List.drop, List.take, hc, hr]
  simp [hs]
theorem r_callv2 {q n o c : Nat} {p : Int} {a1 a2 : zV} {v : Option zV} {m' : zmem} (hf : zft j pc = some (.invokevirtual n, 3)) (ho : zo j = o) (hm : zml o n = some (0, q)) (hp : zp q = 2) (hc : zo q = c) (hk : zkd L p = .inl c) (hs : zsm [a2, a1] = true) (hr : st.length ≤ 4) (hF : zF L d q (.inr (.inl (some p)) :: [a1, a2]) m v m') (kk : zR (d + 1) j (pc + 3) ls (v.toList ++ st) (zem L m') Q) : zR (d + 1) j pc ls (a2 :: a1 :: .inr (.inl (some p)) :: st) (zem L m) Q := by
  have e : ((zem L m).2.2 p).1 = .inl c := hk
  refine zR_ca (x := (q, .inr (.inl (some p)) :: [a1, a2], st)) hf rfl rfl ?_ hF kk
  simp only [zca, ho, hm, hp, List.drop, List.take, e, hc, hr]
  simp [hs]
theorem r_calls2 {q n o c : Nat} {a1 a2 : zV} {v : Option zV} {m' : zmem} (hf : zft j pc = some (.invokestatic n, 3)) (ho : zo j = o) (hm : zml o n = some (c, q)) (hc : c = 1 ∨ c = 3) (hp : zp q = 2) (hs : zsm [a2, a1] = true) (hr : st.length ≤ 4) (hF : zF L d q [a1, a2] m v m') (kk : zR (d + 1) j (pc + 3) ls (v.toList ++ st) (zem L m') Q) : zR (d + 1) j pc ls (a2 :: a1 :: st) (zem L m) Q := by
  refine zR_ca (x := (q, [a1, a2], st)) hf rfl rfl ?_ hF kk
  simp only [zca, ho, hm, hp, List.drop, List.take, hc, hr]
  simp [hs]
theorem r_callv3 {q n o c : Nat} {p : Int} {a1 a2 a3 : zV} {v : Option zV} {m' : zmem} (hf : zft j pc = some (.invokevirtual n, 3)) (ho : zo j = o) (hm : zml o n = some (0, q)) (hp : zp q = 3) (hc : zo q = c) (hk : zkd L p = .inl c) (hs : zsm [a3, a2, a1] = true) (hr : st.length ≤ 4) (hF : zF L d q (.inr (.inl (some p)) :: [a1, a2, a3]) m v m') (kk : zR (d + 1) j (pc + 3) ls (v.toList ++ st) (zem L m') Q) : zR (d + 1) j pc ls (a3 :: a2 :: a1 :: .inr (.inl (some p)) :: st) (zem L m) Q := by
  have e : ((zem L m).2.2 p).1 = .inl c := hk
  refine zR_ca (x := (q, .inr (.inl (some p)) :: [a1, a2, a3], st)) hf rfl rfl ?_ hF kk
  simp only [zca, ho, hm, hp, List.drop, List.take, e, hc, hr]
  simp [hs]
theorem r_calls3 {q n o c : Nat} {a1 a2 a3 : zV} {v : Option zV} {m' : zmem} (hf : zft j pc = some (.invokestatic n, 3)) (ho : zo j = o) (hm : zml o n = some (c, q)) (hc : c = 1 ∨ c = 3) (hp : zp q = 3) (hs : zsm [a3, a2, a1] = true) (hr : st.length ≤ 4) (hF : zF L d q [a1, a2, a3] m v m') (kk : zR (d + 1) j (pc + 3) ls (v.toList ++ st) (zem L m') Q) : zR (d + 1) j pc ls (a3 :: a2 :: a1 :: st) (zem L m) Q := by
  refine zR_ca (x := (q, [a1, a2, a3], st)) hf rfl rfl ?_ hF kk
  simp only [zca, ho, hm, hp, List.drop, List.take, hc, hr]
  simp [hs]
theorem r_callv4 {q n o c : Nat} {p : Int} {a1 a2 a3 a4 : zV} {v : Option zV} {m' : zmem} (hf : zft j pc = some (.invokevirtual n, 3)) (ho : zo j = o) (hm : zml o n = some (0, q)) (hp : zp q = 4) (hc : zo q = c) (hk : zkd L p = .inl c) (hs : zsm [a4, a3, a2, a1] = true) (hr : st.length ≤ 4) (hF : zF L d q (.inr (.inl (some p)) :: [a1, a2, a3, a4]) m v m') (kk : zR (d + 1) j (pc + 3) ls (v.toList ++ st) (zem L m') Q) : zR (d + 1) j pc ls (a4 :: a3 :: a2 :: a1 :: .inr (.inl (some p)) :: st) (zem L m) Q := by
  have e : ((zem L m).2.2 p).1 = .inl c := hk
  refine zR_ca (x := (q, .inr (.inl (some p)) :: [a1, a2, a3, a4], st)) hf rfl rfl ?_ hF kk
  simp only [zca, ho, hm, hp, List.drop, List.take, e, hc, hr]
  simp [hs]
theorem r_calls4 {q n o c : Nat} {a1 a2 a3 a4 : zV} {v : Option zV} {m' : zmem} (hf : zft j pc = some (.invokestatic n, 3)) (ho : zo j = o) (hm : zml o n = some (c, q)) (hc : c = 1 ∨ c = 3) (hp : zp q = 4) (hs : zsm [a4, a3, a2, a1] = true) (hr : st.length ≤ 4) (hF : zF L d q [a1, a2, a3, a4] m v m') (kk : zR (d + 1) j (pc + 3) ls (v.toList ++ st) (zem L m') Q) : zR (d + 1) j pc ls (a4 :: a3 :: a2 :: a1 :: st) (zem L m) Q := by
  refine zR_ca (x := (q, [a1, a2, a3, a4], st)) hf rfl rfl ?_ hF kk
  simp only [zca, ho, hm, hp, List.drop, List.take, hc, hr]
  simp [hs]
theorem r_ite {P : Prop} [Decidable P] {M : zM} {a b : Int} (k1 : P → zR d j pc ls (.inl a :: st) M Q) (k2 : ¬ P → zR d j pc ls (.inl b :: st) M Q) : zR d j pc ls (.inl (if P then a else b) :: st) M Q := by
  by_cases h : P
  · rw [if_pos h]; exact k1 h
  · rw [if_neg h]; exact k2 h
theorem zF_of {j : Nat} {as : List zV} {m m' : zmem} {v : Option zV} {nl : Nat} {ls : zL} (hn : zn j = nl) (hl : as.map some ++ List.replicate (nl - as.length) none = ls) (h : zR d j 0 ls [] (zem L m) (fun r M => r = v ∧ M = zem L m')) : zF L d j as m v m' := by
  unfold zF zent
  rw [hn, hl]
  exact h
theorem r_callv0i {q n o c : Nat} {p : Int} {v : Int} {m' : zmem} (hf : zft j pc = some (.invokevirtual n, 3)) (ho : zo j = o) (hm : zml o n = some (0, q)) (hp : zp q = 0) (hc : zo q = c) (hk : zkd L p = .inl c) (hs : zsm [] = true) (hr : st.length ≤ 4) (hF : zF L d q (.inr (.inl (some p)) :: []) m (some (.inl v)) m') (kk : zR (d + 1) j (pc + 3) ls (.inl v :: st) (zem L m') Q) : zR (d + 1) j pc ls (.inr (.inl (some p)) :: st) (zem L m) Q := r_callv0 hf ho hm hp hc hk hs hr hF kk
theorem r_callv0l {q n o c : Nat} {p : Int} {v : Int64} {m' : zmem} (hf : zft j pc = some (.invokevirtual n, 3)) (ho : zo j = o) (hm : zml o n = some (0, q)) (hp : zp q = 0) (hc : zo q = c) (hk : zkd L p = .inl c) (hs : zsm [] = true) (hr : st.length ≤ 4) (hF : zF L d q (.inr (.inl (some p)) :: []) m (some (.inr (.inr v))) m') (kk : zR (d + 1) j (pc + 3) ls (.inr (.inr v) :: st) (zem L m') Q) : zR (d + 1) j pc ls (.inr (.inl (some p)) :: st) (zem L m) Q := r_callv0 hf ho hm hp hc hk hs hr hF kk
theorem r_callv0u {q n o c : Nat} {p : Int} {m' : zmem} (hf : zft j pc = some (.invokevirtual n, 3)) (ho : zo j = o) (hm : zml o n = some (0, q)) (hp : zp q = 0) (hc : zo q = c) (hk : zkd L p = .inl c) (hs : zsm [] = true) (hr : st.length ≤ 4) (hF : zF L d q (.inr (.inl (some p)) :: []) m none m') (kk : zR (d + 1) j (pc + 3) ls st (zem L m') Q) : zR (d + 1) j pc ls (.inr (.inl (some p)) :: st) (zem L m) Q := r_callv0 hf ho hm hp hc hk hs hr hF kk
theorem r_callv1i {q n o c : Nat} {p : Int} {a1 : zV} {v : Int} {m' : zmem} (hf : zft j pc = some (.invokevirtual n, 3)) (ho : zo j = o) (hm : zml o n = some (0, q)) (hp : zp q = 1) (hc : zo q = c) (hk : zkd L p = .inl c) (hs : zsm [a1] = true) (hr : st.length ≤ 4) (hF : zF L d q (.inr (.inl (some p)) :: [a1]) m (some (.inl v)) m') (kk : zR (d + 1) j (pc + 3) ls (.inl v :: st) (zem L m') Q) : zR (d + 1) j pc ls (a1 :: .inr (.inl (some p)) :: st) (zem L m) Q := r_callv1 hf ho hm hp hc hk hs hr hF kk
theorem r_calls1i {q n o c : Nat} {a1 : zV} {v : Int} {m' : zmem} (hf : zft j pc = some (.invokestatic n, 3)) (ho : zo j = o) (hm : zml o n = some (c, q)) (hc : c = 1 ∨ c = 3) (hp : zp q = 1) (hs : zsm [a1] = true) (hr : st.length ≤ 4) (hF : zF L d q [a1] m (some (.inl v)) m') (kk : zR (d + 1) j (pc + 3) ls (.inl v :: st) (zem L m') Q) : zR (d + 1) j pc ls (a1 :: st) (zem L m) Q := r_calls1 hf ho hm hc hp hs hr hF kk
theorem r_callv1l {q n o c : Nat} {p : Int} {a1 : zV} {v : Int64} {m' : zmem} (hf : zft j pc = some (.invokevirtual n, 3)) (ho : zo j = o) (hm : zml o n = some (0, q)) (hp : zp q = 1) (hc : zo q = c) (hk : zkd L p = .inl c) (hs : zsm [a1] = true) (hr : st.length ≤ 4) (hF : zF L d q (.inr (.inl (some p)) :: [a1]) m (some (.inr (.inr v))) m') (kk : zR (d + 1) j (pc + 3) ls (.inr (.inr v) :: st) (zem L m') Q) : zR (d + 1) j pc ls (a1 :: .inr (.inl (some p)) :: st) (zem L m) Q := r_callv1 hf ho hm hp hc hk hs hr hF kk
theorem r_callv1u {q n o c : Nat} {p : Int} {a1 : zV} {m' : zmem} (hf : zft j pc = some (.invokevirtual n, 3)) (ho : zo j = o) (hm : zml o n = some (0, q)) (hp : zp q = 1) (hc : zo q = c) (hk : zkd L p = .inl c) (hs : zsm [a1] = true) (hr : st.length ≤ 4) (hF : zF L d q (.inr (.inl (some p)) :: [a1]) m none m') (kk : zR (d + 1) j (pc + 3) ls st (zem L m') Q) : zR (d + 1) j pc ls (a1 :: .inr (.inl (some p)) :: st) (zem L m) Q := r_callv1 hf ho hm hp hc hk hs hr hF kk
theorem r_calls1u {q n o c : Nat} {a1 : zV} {m' : zmem} (hf : zft j pc = some (.invokestatic n, 3)) (ho : zo j = o) (hm : zml o n = some (c, q)) (hc : c = 1 ∨ c = 3) (hp : zp q = 1) (hs : zsm [a1] = true) (hr : st.length ≤ 4) (hF : zF L d q [a1] m none m') (kk : zR (d + 1) j (pc + 3) ls st (zem L m') Q) : zR (d + 1) j pc ls (a1 :: st) (zem L m) Q := r_calls1 hf ho hm hc hp hs hr hF kk
theorem r_callv2i {q n o c : Nat} {p : Int} {a1 a2 : zV} {v : Int} {m' : zmem} (hf : zft j pc = some (.invokevirtual n, 3)) (ho : zo j = o) (hm : zml o n = some (0, q)) (hp : zp q = 2) (hc : zo q = c) (hk : zkd L p = .inl c) (hs : zsm [a2, a1] = true) (hr : st.length ≤ 4) (hF : zF L d q (.inr (.inl (some p)) :: [a1, a2]) m (some (.inl v)) m') (kk : zR (d + 1) j (pc + 3) ls (.inl v :: st) (zem L m') Q) : zR (d + 1) j pc ls (a2 :: a1 :: .inr (.inl (some p)) :: st) (zem L m) Q := r_callv2 hf ho hm hp hc hk hs hr hF kk
theorem r_calls2i {q n o c : Nat} {a1 a2 : zV} {v : Int} {m' : zmem} (hf : zft j pc = some (.invokestatic n, 3)) (ho : zo j = o) (hm : zml o n = some (c, q)) (hc : c = 1 ∨ c = 3) (hp : zp q = 2) (hs : zsm [a2, a1] = true) (hr : st.length ≤ 4) (hF : zF L d q [a1, a2] m (some (.inl v)) m') (kk : zR (d + 1) j (pc + 3) ls (.inl v :: st) (zem L m') Q) : zR (d + 1) j pc ls (a2 :: a1 :: st) (zem L m) Q := r_calls2 hf ho hm hc hp hs hr hF kk
theorem r_callv2l {q n o c : Nat} {p : Int} {a1 a2 : zV} {v : Int64} {m' : zmem} (hf : zft j pc = some (.invokevirtual n, 3)) (ho : zo j = o) (hm : zml o n = some (0, q)) (hp : zp q = 2) (hc : zo q = c) (hk : zkd L p = .inl c) (hs : zsm [a2, a1] = true) (hr : st.length ≤ 4) (hF : zF L d q (.inr (.inl (some p)) :: [a1, a2]) m (some (.inr (.inr v))) m') (kk : zR (d + 1) j (pc + 3) ls (.inr (.inr v) :: st) (zem L m') Q) : zR (d + 1) j pc ls (a2 :: a1 :: .inr (.inl (some p)) :: st) (zem L m) Q := r_callv2 hf ho hm hp hc hk hs hr hF kk
theorem r_callv2u {q n o c : Nat} {p : Int} {a1 a2 : zV} {m' : zmem} (hf : zft j pc = some (.invokevirtual n, 3)) (ho : zo j = o) (hm : zml o n = some (0, q)) (hp : zp q = 2) (hc : zo q = c) (hk : zkd L p = .inl c) (hs : zsm [a2, a1] = true) (hr : st.length ≤ 4) (hF : zF L d q (.inr (.inl (some p)) :: [a1, a2]) m none m') (kk : zR (d + 1) j (pc + 3) ls st (zem L m') Q) : zR (d + 1) j pc ls (a2 :: a1 :: .inr (.inl (some p)) :: st) (zem L m) Q := r_callv2 hf ho hm hp hc hk hs hr hF kk
theorem r_calls2u {q n o c : Nat} {a1 a2 : zV} {m' : zmem} (hf : zft j pc = some (.invokestatic n, 3)) (ho : zo j = o) (hm : zml o n = some (c, q)) (hc : c = 1 ∨ c = 3) (hp : zp q = 2) (hs : zsm [a2, a1] = true) (hr : st.length ≤ 4) (hF : zF L d q [a1, a2] m none m') (kk : zR (d + 1) j (pc + 3) ls st (zem L m') Q) : zR (d + 1) j pc ls (a2 :: a1 :: st) (zem L m) Q := r_calls2 hf ho hm hc hp hs hr hF kk
theorem r_callv3i {q n o c : Nat} {p : Int} {a1 a2 a3 : zV} {v : Int} {m' : zmem} (hf : zft j pc = some (.invokevirtual n, 3)) (ho : zo j = o) (hm : zml o n = some (0, q)) (hp : zp q = 3) (hc : zo q = c) (hk : zkd L p = .inl c) (hs : zsm [a3, a2, a1] = true) (hr : st.length ≤ 4) (hF : zF L d q (.inr (.inl (some p)) :: [a1, a2, a3]) m (some (.inl v)) m') (kk : zR (d + 1) j (pc + 3) ls (.inl v :: st) (zem L m') Q) : zR (d + 1) j pc ls (a3 :: a2 :: a1 :: .inr (.inl (some p)) :: st) (zem L m) Q := r_callv3 hf ho hm hp hc hk hs hr hF kk
theorem r_calls3i {q n o c : Nat} {a1 a2 a3 : zV} {v : Int} {m' : zmem} (hf : zft j pc = some (.invokestatic n, 3)) (ho : zo j = o) (hm : zml o n = some (c, q)) (hc : c = 1 ∨ c = 3) (hp : zp q = 3) (hs : zsm [a3, a2, a1] = true) (hr : st.length ≤ 4) (hF : zF L d q [a1, a2, a3] m (some (.inl v)) m') (kk : zR (d + 1) j (pc + 3) ls (.inl v :: st) (zem L m') Q) : zR (d + 1) j pc ls (a3 :: a2 :: a1 :: st) (zem L m) Q := r_calls3 hf ho hm hc hp hs hr hF kk
theorem r_callv3l {q n o c : Nat} {p : Int} {a1 a2 a3 : zV} {v : Int64} {m' : zmem} (hf : zft j pc = some (.invokevirtual n, 3)) (ho : zo j = o) (hm : zml o n = some (0, q)) (hp : zp q = 3) (hc : zo q = c) (hk : zkd L p = .inl c) (hs : zsm [a3, a2, a1] = true) (hr : st.length ≤ 4) (hF : zF L d q (.inr (.inl (some p)) :: [a1, a2, a3]) m (some (.inr (.inr v))) m') (kk : zR (d + 1) j (pc + 3) ls (.inr (.inr v) :: st) (zem L m') Q) : zR (d + 1) j pc ls (a3 :: a2 :: a1 :: .inr (.inl (some p)) :: st) (zem L m) Q := r_callv3 hf ho hm hp hc hk hs hr hF kk
theorem r_callv3u {q n o c : Nat} {p : Int} {a1 a2 a3 : zV} {m' : zmem} (hf : zft j pc = some (.invokevirtual n, 3)) (ho : zo j = o) (hm : zml o n = some (0, q)) (hp : zp q = 3) (hc : zo q = c) (hk : zkd L p = .inl c) (hs : zsm [a3, a2, a1] = true) (hr : st.length ≤ 4) (hF : zF L d q (.inr (.inl (some p)) :: [a1, a2, a3]) m none m') (kk : zR (d + 1) j (pc + 3) ls st (zem L m') Q) : zR (d + 1) j pc ls (a3 :: a2 :: a1 :: .inr (.inl (some p)) :: st) (zem L m) Q := r_callv3 hf ho hm hp hc hk hs hr hF kk
theorem r_calls3u {q n o c : Nat} {a1 a2 a3 : zV} {m' : zmem} (hf : zft j pc = some (.invokestatic n, 3)) (ho : zo j = o) (hm : zml o n = some (c, q)) (hc : c = 1 ∨ c = 3) (hp : zp q = 3) (hs : zsm [a3, a2, a1] = true) (hr : st.length ≤ 4) (hF : zF L d q [a1, a2, a3] m none m') (kk : zR (d + 1) j (pc + 3) ls st (zem L m') Q) : zR (d + 1) j pc ls (a3 :: a2 :: a1 :: st) (zem L m) Q := r_calls3 hf ho hm hc hp hs hr hF kk
theorem r_callv4i {q n o c : Nat} {p : Int} {a1 a2 a3 a4 : zV} {v : Int} {m' : zmem} (hf : zft j pc = some (.invokevirtual n, 3)) (ho : zo j = o) (hm : zml o n = some (0, q)) (hp : zp q = 4) (hc : zo q = c) (hk : zkd L p = .inl c) (hs : zsm [a4, a3, a2, a1] = true) (hr : st.length ≤ 4) (hF : zF L d q (.inr (.inl (some p)) :: [a1, a2, a3, a4]) m (some (.inl v)) m') (kk : zR (d + 1) j (pc + 3) ls (.inl v :: st) (zem L m') Q) : zR (d + 1) j pc ls (a4 :: a3 :: a2 :: a1 :: .inr (.inl (some p)) :: st) (zem L m) Q := r_callv4 hf ho hm hp hc hk hs hr hF kk
theorem r_calls4i {q n o c : Nat} {a1 a2 a3 a4 : zV} {v : Int} {m' : zmem} (hf : zft j pc = some (.invokestatic n, 3)) (ho : zo j = o) (hm : zml o n = some (c, q)) (hc : c = 1 ∨ c = 3) (hp : zp q = 4) (hs : zsm [a4, a3, a2, a1] = true) (hr : st.length ≤ 4) (hF : zF L d q [a1, a2, a3, a4] m (some (.inl v)) m') (kk : zR (d + 1) j (pc + 3) ls (.inl v :: st) (zem L m') Q) : zR (d + 1) j pc ls (a4 :: a3 :: a2 :: a1 :: st) (zem L m) Q := r_calls4 hf ho hm hc hp hs hr hF kk
theorem r_callv4l {q n o c : Nat} {p : Int} {a1 a2 a3 a4 : zV} {v : Int64} {m' : zmem} (hf : zft j pc = some (.invokevirtual n, 3)) (ho : zo j = o) (hm : zml o n = some (0, q)) (hp : zp q = 4) (hc : zo q = c) (hk : zkd L p = .inl c) (hs : zsm [a4, a3, a2, a1] = true) (hr : st.length ≤ 4) (hF : zF L d q (.inr (.inl (some p)) :: [a1, a2, a3, a4]) m (some (.inr (.inr v))) m') (kk : zR (d + 1) j (pc + 3) ls (.inr (.inr v) :: st) (zem L m') Q) : zR (d + 1) j pc ls (a4 :: a3 :: a2 :: a1 :: .inr (.inl (some p)) :: st) (zem L m) Q := r_callv4 hf ho hm hp hc hk hs hr hF kk
theorem r_callv4u {q n o c : Nat} {p : Int} {a1 a2 a3 a4 : zV} {m' : zmem} (hf : zft j pc = some (.invokevirtual n, 3)) (ho : zo j = o) (hm : zml o n = some (0, q)) (hp : zp q = 4) (hc : zo q = c) (hk : zkd L p = .inl c) (hs : zsm [a4, a3, a2, a1] = true) (hr : st.length ≤ 4) (hF : zF L d q (.inr (.inl (some p)) :: [a1, a2, a3, a4]) m none m') (kk : zR (d + 1) j (pc + 3) ls st (zem L m') Q) : zR (d + 1) j pc ls (a4 :: a3 :: a2 :: a1 :: .inr (.inl (some p)) :: st) (zem L m) Q := r_callv4 hf ho hm hp hc hk hs hr hF kk
theorem r_calls4u {q n o c : Nat} {a1 a2 a3 a4 : zV} {m' : zmem} (hf : zft j pc = some (.invokestatic n, 3)) (ho : zo j = o) (hm : zml o n = some (c, q)) (hc : c = 1 ∨ c = 3) (hp : zp q = 4) (hs : zsm [a4, a3, a2, a1] = true) (hr : st.length ≤ 4) (hF : zF L d q [a1, a2, a3, a4] m none m') (kk : zR (d + 1) j (pc + 3) ls st (zem L m') Q) : zR (d + 1) j pc ls (a4 :: a3 :: a2 :: a1 :: st) (zem L m) Q := r_calls4 hf ho hm hc hp hs hr hF kk
end ZRM
theorem F1_9 : zfl 1 9 = some (1, 0) := by decide +kernel
theorem F6_87 : zfl 6 87 = some (1, 0) := by decide +kernel
theorem F1_15 : zfl 1 15 = some (1, 1) := by decide +kernel
theorem F6_90 : zfl 6 90 = some (1, 1) := by decide +kernel
theorem F1_19 : zfl 1 19 = some (1, 2) := by decide +kernel
theorem F4_36 : zfl 4 36 = some (1, 2) := by decide +kernel
theorem F4_30 : zfl 4 30 = some (1, 3) := by decide +kernel
theorem F6_198 : zfl 6 198 = some (1, 3) := by decide +kernel
theorem F6_74 : zfl 6 74 = some (1, 4) := by decide +kernel
theorem F1_45 : zfl 1 45 = some (1, 5) := by decide +kernel
theorem F6_212 : zfl 6 212 = some (1, 5) := by decide +kernel
theorem F1_41 : zfl 1 41 = some (1, 6) := by decide +kernel
theorem F6_237 : zfl 6 237 = some (1, 6) := by decide +kernel
theorem F4_11 : zfl 4 11 = some (4, 0) := by decide +kernel
theorem F6_70 : zfl 6 70 = some (4, 0) := by decide +kernel
theorem F5_57 : zfl 5 57 = some (4, 0) := by decide +kernel
theorem F4_18 : zfl 4 18 = some (4, 1) := by decide +kernel
theorem F5_34 : zfl 5 34 = some (4, 1) := by decide +kernel
theorem F6_221 : zfl 6 221 = some (4, 1) := by decide +kernel
theorem F4_33 : zfl 4 33 = some (4, 2) := by decide +kernel
theorem F6_243 : zfl 6 243 = some (4, 2) := by decide +kernel
theorem F5_18 : zfl 5 18 = some (5, 0) := by decide +kernel
theorem F5_9 : zfl 5 9 = some (5, 1) := by decide +kernel
theorem F5_15 : zfl 5 15 = some (5, 2) := by decide +kernel
theorem F6_141 : zfl 6 141 = some (5, 2) := by decide +kernel
theorem F2_9 : zfl 2 9 = some (2, 0) := by decide +kernel
theorem F6_186 : zfl 6 186 = some (2, 0) := by decide +kernel
theorem F2_15 : zfl 2 15 = some (2, 1) := by decide +kernel
theorem F2_18 : zfl 2 18 = some (2, 2) := by decide +kernel
theorem F2_21 : zfl 2 21 = some (2, 3) := by decide +kernel
theorem F6_183 : zfl 6 183 = some (2, 3) := by decide +kernel
theorem F2_25 : zfl 2 25 = some (2, 4) := by decide +kernel
theorem F3_9 : zfl 3 9 = some (3, 0) := by decide +kernel
theorem F3_15 : zfl 3 15 = some (3, 1) := by decide +kernel
theorem F3_18 : zfl 3 18 = some (3, 2) := by decide +kernel
theorem F6_252 : zfl 6 252 = some (3, 2) := by decide +kernel
theorem F0_9 : zfl 0 9 = some (0, 0) := by decide +kernel
theorem F5_43 : zfl 5 43 = some (0, 0) := by decide +kernel
theorem F4_45 : zfl 4 45 = some (0, 0) := by decide +kernel
theorem F6_127 : zfl 6 127 = some (0, 0) := by decide +kernel
theorem F0_15 : zfl 0 15 = some (0, 1) := by decide +kernel
theorem F6_174 : zfl 6 174 = some (0, 1) := by decide +kernel
theorem F0_18 : zfl 0 18 = some (0, 2) := by decide +kernel
theorem F6_195 : zfl 6 195 = some (0, 2) := by decide +kernel
theorem F0_22 : zfl 0 22 = some (0, 3) := by decide +kernel
theorem F4_61 : zfl 4 61 = some (0, 3) := by decide +kernel
theorem F0_25 : zfl 0 25 = some (0, 4) := by decide +kernel
theorem F5_64 : zfl 5 64 = some (0, 4) := by decide +kernel
theorem F4_55 : zfl 4 55 = some (0, 4) := by decide +kernel
theorem F6_161 : zfl 6 161 = some (0, 4) := by decide +kernel
theorem F0_29 : zfl 0 29 = some (0, 5) := by decide +kernel
theorem F5_61 : zfl 5 61 = some (0, 5) := by decide +kernel
theorem F4_52 : zfl 4 52 = some (0, 5) := by decide +kernel
theorem F6_121 : zfl 6 121 = some (0, 5) := by decide +kernel
theorem F5_28 : zfl 5 28 = some (0, 6) := by decide +kernel
theorem F0_32 : zfl 0 32 = some (0, 6) := by decide +kernel
theorem F4_40 : zfl 4 40 = some (0, 6) := by decide +kernel
theorem F6_124 : zfl 6 124 = some (0, 6) := by decide +kernel
theorem F6_104 : zfl 6 104 = some (0, 7) := by decide +kernel
theorem F0_53 : zfl 0 53 = some (0, 8) := by decide +kernel
theorem F6_167 : zfl 6 167 = some (0, 8) := by decide +kernel
theorem F6_10 : zfl 6 10 = some (6, 0) := by decide +kernel
theorem F6_21 : zfl 6 21 = some (6, 1) := by decide +kernel
theorem F6_27 : zfl 6 27 = some (6, 2) := by decide +kernel
theorem F6_34 : zfl 6 34 = some (6, 3) := by decide +kernel
theorem F6_41 : zfl 6 41 = some (6, 4) := by decide +kernel
theorem F6_45 : zfl 6 45 = some (6, 5) := by decide +kernel
theorem F6_101 : zfl 6 101 = some (6, 6) := by decide +kernel
theorem F6_94 : zfl 6 94 = some (6, 7) := by decide +kernel
theorem F6_215 : zfl 6 215 = some (6, 8) := by decide +kernel
theorem F7_86 : zfl 7 86 = some (7, 0) := by decide +kernel
theorem F7_7 : zfl 7 7 = some (7, 1) := by decide +kernel
theorem F7_13 : zfl 7 13 = some (7, 2) := by decide +kernel
theorem F7_16 : zfl 7 16 = some (7, 3) := by decide +kernel
theorem F7_19 : zfl 7 19 = some (7, 4) := by decide +kernel
theorem F7_23 : zfl 7 23 = some (7, 5) := by decide +kernel
theorem F7_179 : zfl 7 179 = some (7, 6) := by decide +kernel
theorem F7_101 : zfl 7 101 = some (7, 7) := by decide +kernel
theorem F7_26 : zfl 7 26 = some (7, 8) := by decide +kernel
theorem F7_122 : zfl 7 122 = some (7, 9) := by decide +kernel
theorem F7_94 : zfl 7 94 = some (7, 10) := by decide +kernel
theorem F7_29 : zfl 7 29 = some (7, 11) := by decide +kernel
theorem F7_32 : zfl 7 32 = some (7, 12) := by decide +kernel
theorem F7_35 : zfl 7 35 = some (7, 13) := by decide +kernel
theorem F7_38 : zfl 7 38 = some (7, 14) := by decide +kernel
theorem F7_41 : zfl 7 41 = some (7, 15) := by decide +kernel
theorem F7_44 : zfl 7 44 = some (7, 16) := by decide +kernel
theorem F7_47 : zfl 7 47 = some (7, 17) := by decide +kernel
theorem F7_50 : zfl 7 50 = some (7, 18) := by decide +kernel
theorem F7_53 : zfl 7 53 = some (7, 19) := by decide +kernel
theorem F7_56 : zfl 7 56 = some (7, 20) := by decide +kernel
theorem F7_59 : zfl 7 59 = some (7, 21) := by decide +kernel
theorem F7_62 : zfl 7 62 = some (7, 22) := by decide +kernel
theorem F7_65 : zfl 7 65 = some (7, 23) := by decide +kernel
theorem F7_154 : zfl 7 154 = some (7, 24) := by decide +kernel
theorem F7_68 : zfl 7 68 = some (7, 25) := by decide +kernel
theorem F7_71 : zfl 7 71 = some (7, 26) := by decide +kernel
theorem F7_173 : zfl 7 173 = some (7, 27) := by decide +kernel
theorem F7_74 : zfl 7 74 = some (7, 28) := by decide +kernel
theorem F7_77 : zfl 7 77 = some (7, 29) := by decide +kernel
theorem F7_80 : zfl 7 80 = some (7, 30) := by decide +kernel
theorem F7_83 : zfl 7 83 = some (7, 31) := by decide +kernel
theorem M8_9 : zml 8 9 = some (2, 42) := by decide +kernel
theorem M6_1 : zml 6 1 = some (5, 0) := by decide +kernel
theorem M6_9 : zml 6 9 = some (2, 29) := by decide +kernel
theorem M4_3 : zml 4 3 = some (5, 0) := by decide +kernel
theorem M4_17 : zml 4 17 = some (4, 12) := by decide +kernel
theorem M1_3 : zml 1 3 = some (5, 0) := by decide +kernel
theorem M6_18 : zml 6 18 = some (2, 36) := by decide +kernel
theorem M5_3 : zml 5 3 = some (5, 0) := by decide +kernel
theorem M6_33 : zml 6 33 = some (4, 22) := by decide +kernel
theorem M2_3 : zml 2 3 = some (5, 0) := by decide +kernel
theorem M6_40 : zml 6 40 = some (4, 26) := by decide +kernel
theorem M3_3 : zml 3 3 = some (5, 0) := by decide +kernel
theorem M6_49 : zml 6 49 = some (4, 0) := by decide +kernel
theorem M0_3 : zml 0 3 = some (5, 0) := by decide +kernel
theorem M8_13 : zml 8 13 = some (0, 43) := by decide +kernel
theorem M6_50 : zml 6 50 = some (1, 67) := by decide +kernel
theorem M6_54 : zml 6 54 = some (0, 31) := by decide +kernel
theorem M4_26 : zml 4 26 = some (0, 13) := by decide +kernel
theorem M8_18 : zml 8 18 = some (0, 44) := by decide +kernel
theorem M6_58 : zml 6 58 = some (0, 30) := by decide +kernel
theorem M4_22 : zml 4 22 = some (3, 67) := by decide +kernel
theorem M6_62 : zml 6 62 = some (0, 33) := by decide +kernel
theorem M6_66 : zml 6 66 = some (0, 32) := by decide +kernel
theorem M8_23 : zml 8 23 = some (0, 45) := by decide +kernel
theorem M8_28 : zml 8 28 = some (0, 46) := by decide +kernel
theorem M6_80 : zml 6 80 = some (1, 68) := by decide +kernel
theorem M6_83 : zml 6 83 = some (0, 14) := by decide +kernel
theorem M8_32 : zml 8 32 = some (0, 47) := by decide +kernel
theorem M8_36 : zml 8 36 = some (0, 48) := by decide +kernel
theorem M6_97 : zml 6 97 = some (0, 16) := by decide +kernel
theorem M6_107 : zml 6 107 = some (0, 7) := by decide +kernel
theorem M0_49 : zml 0 49 = some (0, 6) := by decide +kernel
theorem M0_46 : zml 0 46 = some (0, 5) := by decide +kernel
theorem M0_39 : zml 0 39 = some (0, 4) := by decide +kernel
theorem M0_35 : zml 0 35 = some (3, 67) := by decide +kernel
theorem M0_43 : zml 0 43 = some (0, 3) := by decide +kernel
theorem M6_110 : zml 6 110 = some (0, 76) := by decide +kernel
theorem M6_272 : zml 6 272 = some (6, 0) := by decide +kernel
theorem M6_152 : zml 6 152 = some (0, 75) := by decide +kernel
theorem M6_268 : zml 6 268 = some (0, 20) := by decide +kernel
theorem M6_137 : zml 6 137 = some (0, 37) := by decide +kernel
theorem M5_22 : zml 5 22 = some (6, 0) := by decide +kernel
theorem M5_39 : zml 5 39 = some (0, 38) := by decide +kernel
theorem M5_50 : zml 5 50 = some (0, 39) := by decide +kernel
theorem M5_67 : zml 5 67 = some (0, 15) := by decide +kernel
theorem M1_22 : zml 1 22 = some (0, 14) := by decide +kernel
theorem M5_54 : zml 5 54 = some (0, 40) := by decide +kernel
theorem M5_73 : zml 5 73 = some (0, 33) := by decide +kernel
theorem M5_46 : zml 5 46 = some (0, 41) := by decide +kernel
theorem M6_144 : zml 6 144 = some (0, 2) := by decide +kernel
theorem M6_148 : zml 6 148 = some (0, 74) := by decide +kernel
theorem M6_208 : zml 6 208 = some (0, 19) := by decide +kernel
theorem M1_33 : zml 1 33 = some (0, 18) := by decide +kernel
theorem M1_29 : zml 1 29 = some (0, 17) := by decide +kernel
theorem M1_36 : zml 1 36 = some (7, 0) := by decide +kernel
theorem M8_40 : zml 8 40 = some (0, 49) := by decide +kernel
theorem M6_114 : zml 6 114 = some (0, 1) := by decide +kernel
theorem M8_44 : zml 8 44 = some (0, 50) := by decide +kernel
theorem M6_118 : zml 6 118 = some (0, 69) := by decide +kernel
theorem M8_48 : zml 8 48 = some (0, 51) := by decide +kernel
theorem M6_130 : zml 6 130 = some (0, 70) := by decide +kernel
theorem M6_133 : zml 6 133 = some (0, 72) := by decide +kernel
theorem M6_265 : zml 6 265 = some (0, 34) := by decide +kernel
theorem M4_48 : zml 4 48 = some (0, 33) := by decide +kernel
theorem M4_58 : zml 4 58 = some (0, 15) := by decide +kernel
theorem M8_53 : zml 8 53 = some (0, 52) := by decide +kernel
theorem M8_57 : zml 8 57 = some (0, 53) := by decide +kernel
theorem M8_61 : zml 8 61 = some (0, 54) := by decide +kernel
theorem M8_65 : zml 8 65 = some (0, 55) := by decide +kernel
theorem M6_155 : zml 6 155 = some (0, 28) := by decide +kernel
theorem M8_69 : zml 8 69 = some (0, 56) := by decide +kernel
theorem M6_158 : zml 6 158 = some (0, 3) := by decide +kernel
theorem M6_164 : zml 6 164 = some (0, 35) := by decide +kernel
theorem M6_170 : zml 6 170 = some (0, 10) := by decide +kernel
theorem M8_73 : zml 8 73 = some (0, 57) := by decide +kernel
theorem M8_77 : zml 8 77 = some (0, 58) := by decide +kernel
theorem M6_177 : zml 6 177 = some (0, 23) := by decide +kernel
theorem M8_81 : zml 8 81 = some (0, 59) := by decide +kernel
theorem M6_180 : zml 6 180 = some (0, 24) := by decide +kernel
theorem M6_189 : zml 6 189 = some (0, 73) := by decide +kernel
theorem M8_85 : zml 8 85 = some (0, 60) := by decide +kernel
theorem M6_192 : zml 6 192 = some (0, 5) := by decide +kernel
theorem M8_89 : zml 8 89 = some (0, 61) := by decide +kernel
theorem M6_201 : zml 6 201 = some (0, 78) := by decide +kernel
theorem M6_277 : zml 6 277 = some (0, 77) := by decide +kernel
theorem M6_234 : zml 6 234 = some (0, 6) := by decide +kernel
theorem M6_204 : zml 6 204 = some (0, 79) := by decide +kernel
theorem M8_93 : zml 8 93 = some (0, 62) := by decide +kernel
theorem M6_218 : zml 6 218 = some (0, 80) := by decide +kernel
theorem M6_281 : zml 6 281 = some (0, 8) := by decide +kernel
theorem M6_224 : zml 6 224 = some (0, 81) := by decide +kernel
theorem M6_284 : zml 6 284 = some (0, 82) := by decide +kernel
theorem M6_287 : zml 6 287 = some (0, 9) := by decide +kernel
theorem M6_290 : zml 6 290 = some (0, 11) := by decide +kernel
theorem M6_228 : zml 6 228 = some (0, 21) := by decide +kernel
theorem M6_231 : zml 6 231 = some (0, 83) := by decide +kernel
theorem M8_98 : zml 8 98 = some (0, 63) := by decide +kernel
theorem M8_102 : zml 8 102 = some (0, 64) := by decide +kernel
theorem M6_240 : zml 6 240 = some (0, 27) := by decide +kernel
theorem M8_106 : zml 8 106 = some (0, 65) := by decide +kernel
theorem M6_246 : zml 6 246 = some (0, 25) := by decide +kernel
theorem M6_249 : zml 6 249 = some (0, 71) := by decide +kernel
theorem M8_110 : zml 8 110 = some (0, 66) := by decide +kernel
theorem M6_259 : zml 6 259 = some (0, 65) := by decide +kernel
theorem M6_262 : zml 6 262 = some (0, 56) := by decide +kernel
theorem M8_12 : zml 8 12 = some (2, 84) := by decide +kernel
theorem M7_1 : zml 7 1 = some (5, 0) := by decide +kernel
theorem M8_17 : zml 8 17 = some (0, 89) := by decide +kernel
theorem M7_90 : zml 7 90 = some (1, 85) := by decide +kernel
theorem M8_22 : zml 8 22 = some (0, 90) := by decide +kernel
theorem M7_97 : zml 7 97 = some (0, 86) := by decide +kernel
theorem M8_27 : zml 8 27 = some (0, 91) := by decide +kernel
theorem M8_31 : zml 8 31 = some (0, 95) := by decide +kernel
theorem M7_112 : zml 7 112 = some (1, 87) := by decide +kernel
theorem M7_115 : zml 7 115 = some (0, 94) := by decide +kernel
theorem M7_108 : zml 7 108 = some (0, 93) := by decide +kernel
theorem M7_104 : zml 7 104 = some (0, 92) := by decide +kernel
theorem M8_35 : zml 8 35 = some (0, 96) := by decide +kernel
theorem M8_43 : zml 8 43 = some (0, 100) := by decide +kernel
theorem M8_47 : zml 8 47 = some (0, 101) := by decide +kernel
theorem M7_125 : zml 7 125 = some (0, 88) := by decide +kernel
theorem M8_52 : zml 8 52 = some (0, 107) := by decide +kernel
theorem M7_139 : zml 7 139 = some (0, 106) := by decide +kernel
theorem M7_143 : zml 7 143 = some (0, 104) := by decide +kernel
theorem M7_128 : zml 7 128 = some (0, 102) := by decide +kernel
theorem M7_132 : zml 7 132 = some (0, 103) := by decide +kernel
theorem M7_146 : zml 7 146 = some (0, 105) := by decide +kernel
theorem M7_135 : zml 7 135 = some (0, 98) := by decide +kernel
theorem M7_118 : zml 7 118 = some (0, 97) := by decide +kernel
theorem M8_56 : zml 8 56 = some (0, 109) := by decide +kernel
theorem M7_150 : zml 7 150 = some (0, 108) := by decide +kernel
theorem M8_60 : zml 8 60 = some (0, 110) := by decide +kernel
theorem M8_64 : zml 8 64 = some (0, 111) := by decide +kernel
theorem M8_105 : zml 8 105 = some (0, 112) := by decide +kernel
theorem M8_68 : zml 8 68 = some (0, 113) := by decide +kernel
theorem M7_157 : zml 7 157 = some (0, 99) := by decide +kernel
theorem M8_39 : zml 8 39 = some (0, 116) := by decide +kernel
theorem M7_160 : zml 7 160 = some (0, 114) := by decide +kernel
theorem M7_164 : zml 7 164 = some (0, 115) := by decide +kernel
theorem M8_72 : zml 8 72 = some (0, 119) := by decide +kernel
theorem M7_167 : zml 7 167 = some (0, 117) := by decide +kernel
theorem M7_170 : zml 7 170 = some (0, 118) := by decide +kernel
theorem M8_76 : zml 8 76 = some (0, 120) := by decide +kernel
theorem M8_80 : zml 8 80 = some (0, 121) := by decide +kernel
theorem M8_84 : zml 8 84 = some (0, 122) := by decide +kernel
theorem M8_88 : zml 8 88 = some (0, 123) := by decide +kernel
theorem M8_92 : zml 8 92 = some (0, 125) := by decide +kernel
theorem M7_176 : zml 7 176 = some (0, 124) := by decide +kernel
theorem M8_97 : zml 8 97 = some (0, 127) := by decide +kernel
theorem M7_182 : zml 7 182 = some (0, 126) := by decide +kernel
theorem M8_101 : zml 8 101 = some (0, 128) := by decide +kernel
theorem M8_109 : zml 8 109 = some (0, 130) := by decide +kernel
theorem M7_185 : zml 7 185 = some (0, 129) := by decide +kernel
theorem M8_114 : zml 8 114 = some (0, 131) := by decide +kernel
theorem M7_192 : zml 7 192 = some (0, 130) := by decide +kernel
theorem M7_195 : zml 7 195 = some (0, 119) := by decide +kernel
theorem C8_7 : zcl 8 7 = some 6 := by decide +kernel
theorem C6_7 : zcl 6 7 = some 4 := by decide +kernel
theorem C4_9 : zcl 4 9 = some 1 := by decide +kernel
theorem C6_16 : zcl 6 16 = some 5 := by decide +kernel
theorem C6_25 : zcl 6 25 = some 0 := by decide +kernel
theorem C6_31 : zcl 6 31 = some 2 := by decide +kernel
theorem C6_38 : zcl 6 38 = some 3 := by decide +kernel
theorem C8_10 : zcl 8 10 = some 7 := by decide +kernel
theorem L6_255 : zlc 6 255 = some 17 := by decide +kernel
theorem L6_257 : zlc 6 257 = some 31 := by decide +kernel
theorem L7_188 : zlc 7 188 = some 17 := by decide +kernel
theorem L7_190 : zlc 7 190 = some 31 := by decide +kernel
theorem T0_4 : zty 0 4 = .int := by decide +kernel
theorem U0_4 : (zT 0 4).2.2.2 = false := by decide +kernel
theorem T0_5 : zty 0 5 = .int := by decide +kernel
theorem U0_5 : (zT 0 5).2.2.2 = false := by decide +kernel
theorem T0_6 : zty 0 6 = .int := by decide +kernel
theorem U0_6 : (zT 0 6).2.2.2 = false := by decide +kernel
theorem T0_7 : zty 0 7 = .int := by decide +kernel
theorem U0_7 : (zT 0 7).2.2.2 = false := by decide +kernel
theorem T0_8 : zty 0 8 = .int := by decide +kernel
theorem U0_8 : (zT 0 8).2.2.2 = false := by decide +kernel
theorem T1_3 : zty 1 3 = .int := by decide +kernel
theorem U1_3 : (zT 1 3).2.2.2 = false := by decide +kernel
theorem T1_4 : zty 1 4 = .int := by decide +kernel
theorem U1_4 : (zT 1 4).2.2.2 = false := by decide +kernel
theorem T1_5 : zty 1 5 = .int := by decide +kernel
theorem U1_5 : (zT 1 5).2.2.2 = false := by decide +kernel
theorem T1_6 : zty 1 6 = .int := by decide +kernel
theorem U1_6 : (zT 1 6).2.2.2 = false := by decide +kernel
theorem T2_4 : zty 2 4 = .int := by decide +kernel
theorem U2_4 : (zT 2 4).2.2.2 = false := by decide +kernel
theorem T3_2 : zty 3 2 = .int := by decide +kernel
theorem U3_2 : (zT 3 2).2.2.2 = false := by decide +kernel
theorem T4_1 : zty 4 1 = .int := by decide +kernel
theorem U4_1 : (zT 4 1).2.2.2 = false := by decide +kernel
theorem T4_2 : zty 4 2 = .int := by decide +kernel
theorem U4_2 : (zT 4 2).2.2.2 = false := by decide +kernel
theorem T6_6 : zty 6 6 = .int := by decide +kernel
theorem U6_6 : (zT 6 6).2.2.2 = false := by decide +kernel
theorem T6_7 : zty 6 7 = .int := by decide +kernel
theorem U6_7 : (zT 6 7).2.2.2 = false := by decide +kernel
theorem T6_8 : zty 6 8 = .int := by decide +kernel
theorem U6_8 : (zT 6 8).2.2.2 = false := by decide +kernel
theorem T7_0 : zty 7 0 = .int := by decide +kernel
theorem U7_0 : (zT 7 0).2.2.2 = false := by decide +kernel
theorem T7_6 : zty 7 6 = .int := by decide +kernel
theorem U7_6 : (zT 7 6).2.2.2 = false := by decide +kernel
theorem T7_7 : zty 7 7 = .int := by decide +kernel
theorem U7_7 : (zT 7 7).2.2.2 = false := by decide +kernel
theorem T7_9 : zty 7 9 = .int := by decide +kernel
theorem U7_9 : (zT 7 9).2.2.2 = false := by decide +kernel
theorem T7_10 : zty 7 10 = .int := by decide +kernel
theorem U7_10 : (zT 7 10).2.2.2 = false := by decide +kernel
theorem T7_24 : zty 7 24 = .int := by decide +kernel
theorem U7_24 : (zT 7 24).2.2.2 = false := by decide +kernel
theorem T7_27 : zty 7 27 = .int := by decide +kernel
theorem U7_27 : (zT 7 27).2.2.2 = false := by decide +kernel
end
section
theorem zs_eq {a b : Int} (h : a = b) : (some (.inl a) : Option zV) = some (.inl b) := by rw [h]
theorem t_within {L d : Nat} {m : zmem} (x a b : Int) : zF L (d) 67 [.inl x, .inl a, .inl b] m (some (.inl (if a ≤ x ∧ x ≤ b then 1 else 0))) m := by
  refine zF_of n67 (ls := [some (.inl x), some (.inl a), some (.inl b)]) rfl ?_
  refine r_iload_n f67_0 rfl ?_
  refine r_iload_n f67_1 rfl ?_
  refine r_clt f67_2 (t := 14) (by decide) (fun h1 => ?_) (fun h1 => ?_)
  · refine r_iconst f67_14 rfl ?_
    exact r_zret f67_15 v67 (by omega) ⟨zs_eq (by first | rfl | omega | (repeat (first | rw [if_pos (by omega)] | rw [if_neg (by omega)]))), rfl⟩
  · refine r_iload_n f67_5 rfl ?_
    refine r_iload_n f67_6 rfl ?_
    refine r_cgt f67_7 (t := 14) (by decide) (fun h2 => ?_) (fun h2 => ?_)
    · refine r_iconst f67_14 rfl ?_
      exact r_zret f67_15 v67 (by omega) ⟨zs_eq (by first | rfl | omega | (repeat (first | rw [if_pos (by omega)] | rw [if_neg (by omega)]))), rfl⟩
    · refine r_iconst f67_10 rfl ?_
      refine r_goto f67_11 (t := 15) (by decide) ?_
      exact r_zret f67_15 v67 (by omega) ⟨zs_eq (by first | rfl | omega | (repeat (first | rw [if_pos (by omega)] | rw [if_neg (by omega)]))), rfl⟩

theorem t_in {L d : Nat} {m : zmem} (x a b : Int) : zF L (d) 85 [.inl x, .inl a, .inl b] m (some (.inl (if a ≤ x ∧ x ≤ b then 1 else 0))) m := by
  refine zF_of n85 (ls := [some (.inl x), some (.inl a), some (.inl b)]) rfl ?_
  refine r_iload_n f85_0 rfl ?_
  refine r_iload_n f85_1 rfl ?_
  refine r_clt f85_2 (t := 14) (by decide) (fun h1 => ?_) (fun h1 => ?_)
  · refine r_iconst f85_14 rfl ?_
    exact r_zret f85_15 v85 (by omega) ⟨zs_eq (by first | rfl | omega | (repeat (first | rw [if_pos (by omega)] | rw [if_neg (by omega)]))), rfl⟩
  · refine r_iload_n f85_5 rfl ?_
    refine r_iload_n f85_6 rfl ?_
    refine r_cgt f85_7 (t := 14) (by decide) (fun h2 => ?_) (fun h2 => ?_)
    · refine r_iconst f85_14 rfl ?_
      exact r_zret f85_15 v85 (by omega) ⟨zs_eq (by first | rfl | omega | (repeat (first | rw [if_pos (by omega)] | rw [if_neg (by omega)]))), rfl⟩
    · refine r_iconst f85_10 rfl ?_
      refine r_goto f85_11 (t := 15) (by decide) ?_
      exact r_zret f85_15 v85 (by omega) ⟨zs_eq (by first | rfl | omega | (repeat (first | rw [if_pos (by omega)] | rw [if_neg (by omega)]))), rfl⟩

theorem t_isNightX {L d : Nat} {m : zmem} (t : Int) : zF L (d + 1) 68 [.inl t] m (some (.inl (if 0 ≤ t ∧ t ≤ 39 then 1 else 0))) m := by
  refine zF_of n68 (ls := [some (.inl t)]) rfl ?_
  refine r_iload_n f68_0 rfl ?_
  refine r_iconst f68_1 rfl ?_
  refine r_bipush f68_2 (by decide) ?_
  refine r_calls3i f68_4 o68 M6_50 (Or.inl rfl) p67 rfl (by simp) (t_within t 0 39) ?_
  refine r_ite (fun h1 => ?_) (fun h1 => ?_)
  · exact r_zret f68_7 v68 (by omega) ⟨zs_eq (by first | rfl | omega | (repeat (first | rw [if_pos (by omega)] | rw [if_neg (by omega)]))), rfl⟩
  · exact r_zret f68_7 v68 (by omega) ⟨zs_eq (by first | rfl | omega | (repeat (first | rw [if_pos (by omega)] | rw [if_neg (by omega)]))), rfl⟩

theorem t_isNightM {L d : Nat} {m : zmem} (t : Int) : zF L (d + 1) 87 [.inl t] m (some (.inl (if 0 ≤ t ∧ t ≤ 39 then 1 else 0))) m := by
  refine zF_of n87 (ls := [some (.inl t)]) rfl ?_
  refine r_iload_n f87_0 rfl ?_
  refine r_iconst f87_1 rfl ?_
  refine r_bipush f87_2 (by decide) ?_
  refine r_calls3i f87_4 o87 M7_90 (Or.inl rfl) p85 rfl (by simp) (t_in t 0 39) ?_
  refine r_ite (fun h1 => ?_) (fun h1 => ?_)
  · exact r_zret f87_7 v87 (by omega) ⟨zs_eq (by first | rfl | omega | (repeat (first | rw [if_pos (by omega)] | rw [if_neg (by omega)]))), rfl⟩
  · exact r_zret f87_7 v87 (by omega) ⟨zs_eq (by first | rfl | omega | (repeat (first | rw [if_pos (by omega)] | rw [if_neg (by omega)]))), rfl⟩

theorem t_hasHouse {L d : Nat} {m : zmem} (h : Int) (h0 : 0 ≤ m 1 1) (h1 : m 1 1 ≤ 12) : zF L (d + 1) 30 [.inr (.inl (some 1)), .inl h] m (some (.inl (if 0 ≤ h ∧ h < m 1 1 then 1 else 0))) m := by
  refine zF_of n30 (ls := [some (.inr (.inl (some 1))), some (.inl h)]) rfl ?_
  refine r_iload_n f30_0 rfl ?_
  refine r_iconst f30_1 rfl ?_
  refine r_aload_n f30_2 rfl ?_
  refine r_getI f30_3 o30 F4_18 g1_1 rfl ?_
  refine r_iconst f30_6 rfl ?_
  refine r_isub f30_7 (e := m 1 1 - 1) (by omega) (by omega) (by omega) ?_
  refine r_calls3i f30_8 o30 M4_22 (Or.inr rfl) p67 rfl (by simp) (t_within h 0 (m 1 1 - 1)) ?_
  refine r_ite (fun h1 => ?_) (fun h1 => ?_)
  · exact r_zret f30_11 v30 (by omega) ⟨zs_eq (by first | rfl | omega | (repeat (first | rw [if_pos (by omega)] | rw [if_neg (by omega)]))), rfl⟩
  · exact r_zret f30_11 v30 (by omega) ⟨zs_eq (by first | rfl | omega | (repeat (first | rw [if_pos (by omega)] | rw [if_neg (by omega)]))), rfl⟩

theorem t_isHouse {L d : Nat} {m : zmem} (h : Int) (h0 : 0 ≤ m 264 0) (h1 : m 264 0 ≤ 12) : zF L (d + 1) 86 [.inr (.inl (some 264)), .inl h] m (some (.inl (if 0 ≤ h ∧ h < m 264 0 then 1 else 0))) m := by
  refine zF_of n86 (ls := [some (.inr (.inl (some 264))), some (.inl h)]) rfl ?_
  refine r_iload_n f86_0 rfl ?_
  refine r_iconst f86_1 rfl ?_
  refine r_aload_n f86_2 rfl ?_
  refine r_getI f86_3 o86 F7_86 g264_0 rfl ?_
  refine r_iconst f86_6 rfl ?_
  refine r_isub f86_7 (e := m 264 0 - 1) (by omega) (by omega) (by omega) ?_
  refine r_calls3i f86_8 o86 M7_90 (Or.inl rfl) p85 rfl (by simp) (t_in h 0 (m 264 0 - 1)) ?_
  refine r_ite (fun h1 => ?_) (fun h1 => ?_)
  · exact r_zret f86_11 v86 (by omega) ⟨zs_eq (by first | rfl | omega | (repeat (first | rw [if_pos (by omega)] | rw [if_neg (by omega)]))), rfl⟩
  · exact r_zret f86_11 v86 (by omega) ⟨zs_eq (by first | rfl | omega | (repeat (first | rw [if_pos (by omega)] | rw [if_neg (by omega)]))), rfl⟩

theorem t_isChainX {L d : Nat} {m : zmem} (c : Int) (h0 : 0 ≤ m 0 6) (h1 : m 0 6 ≤ 40) : zF L (d + 1) 69 [.inr (.inl (some 0)), .inl c] m (some (.inl (if 0 ≤ c ∧ c < m 0 6 then 1 else 0))) m := by
  refine zF_of n69 (ls := [some (.inr (.inl (some 0))), some (.inl c)]) rfl ?_
  refine r_iload_n f69_0 rfl ?_
  refine r_iconst f69_1 rfl ?_
  refine r_aload_n f69_2 rfl ?_
  refine r_getI f69_3 o69 F6_101 g0_6 rfl ?_
  refine r_iconst f69_6 rfl ?_
  refine r_isub f69_7 (e := m 0 6 - 1) (by omega) (by omega) (by omega) ?_
  refine r_calls3i f69_8 o69 M6_50 (Or.inl rfl) p67 rfl (by simp) (t_within c 0 (m 0 6 - 1)) ?_
  refine r_ite (fun h1 => ?_) (fun h1 => ?_)
  · exact r_zret f69_11 v69 (by omega) ⟨zs_eq (by first | rfl | omega | (repeat (first | rw [if_pos (by omega)] | rw [if_neg (by omega)]))), rfl⟩
  · exact r_zret f69_11 v69 (by omega) ⟨zs_eq (by first | rfl | omega | (repeat (first | rw [if_pos (by omega)] | rw [if_neg (by omega)]))), rfl⟩

theorem t_isChainM {L d : Nat} {m : zmem} (c : Int) (h0 : 0 ≤ m 264 10) (h1 : m 264 10 ≤ 40) : zF L (d + 1) 88 [.inr (.inl (some 264)), .inl c] m (some (.inl (if 0 ≤ c ∧ c < m 264 10 then 1 else 0))) m := by
  refine zF_of n88 (ls := [some (.inr (.inl (some 264))), some (.inl c)]) rfl ?_
  refine r_iload_n f88_0 rfl ?_
  refine r_iconst f88_1 rfl ?_
  refine r_aload_n f88_2 rfl ?_
  refine r_getI f88_3 o88 F7_94 g264_10 rfl ?_
  refine r_iconst f88_6 rfl ?_
  refine r_isub f88_7 (e := m 264 10 - 1) (by omega) (by omega) (by omega) ?_
  refine r_calls3i f88_8 o88 M7_90 (Or.inl rfl) p85 rfl (by simp) (t_in c 0 (m 264 10 - 1)) ?_
  refine r_ite (fun h1 => ?_) (fun h1 => ?_)
  · exact r_zret f88_11 v88 (by omega) ⟨zs_eq (by first | rfl | omega | (repeat (first | rw [if_pos (by omega)] | rw [if_neg (by omega)]))), rfl⟩
  · exact r_zret f88_11 v88 (by omega) ⟨zs_eq (by first | rfl | omega | (repeat (first | rw [if_pos (by omega)] | rw [if_neg (by omega)]))), rfl⟩

theorem t_freeBeds {L d : Nat} {m : zmem} {h t : Int} (h0 : 0 ≤ h) (h1 : h < 12) (t0 : 0 ≤ t) (t1 : t < 40) (hf : ∀ k, 0 ≤ k → k < 120 → 0 ≤ m (4 + 4 * h) k ∧ m (4 + 4 * h) k ≤ 9) : zF L (d) 14 [.inr (.inl (some (3 + 4 * h))), .inl t] m (some (.inl (m (4 + 4 * h) (3 * t) + m (4 + 4 * h) (3 * t + 1) + m (4 + 4 * h) (3 * t + 2)))) m := by
  have r0 := hf (3 * t) (by omega) (by omega)
  have r1 := hf (3 * t + 1) (by omega) (by omega)
  have r2 := hf (3 * t + 2) (by omega) (by omega)
  refine zF_of n14 (ls := [some (.inr (.inl (some (3 + 4 * h)))), some (.inl t), none, none]) rfl ?_
  refine r_iconst f14_0 rfl ?_
  refine r_istore_n f14_1 rfl (ls' := [some (.inr (.inl (some (3 + 4 * h)))), some (.inl t), some (.inl 0), none]) rfl ?_
  refine r_iconst f14_2 rfl ?_
  refine r_istore_n f14_3 rfl (ls' := [some (.inr (.inl (some (3 + 4 * h)))), some (.inl t), some (.inl 0), some (.inl 0)]) rfl ?_
  refine r_iload_n f14_4 rfl ?_
  refine r_iconst f14_5 rfl ?_
  refine r_cge f14_6 (t := 28) (by decide) (fun h => absurd h (by omega)) (fun _ => ?_)
  refine r_iload_n f14_9 rfl ?_
  refine r_aload_n f14_10 rfl ?_
  refine r_getR f14_11 o14 F1_9 (gH_0 (h := h) (by omega) (by omega)) rfl ?_
  refine r_iload_n f14_14 rfl ?_
  refine r_iconst f14_15 rfl ?_
  refine r_imul f14_16 (e := 3 * t) (by omega) (by omega) (by omega) ?_
  refine r_iload_n f14_17 rfl ?_
  refine r_iadd f14_18 (e := 3 * t) (by omega) (by omega) (by omega) ?_
  refine r_iald f14_19 (kdH1 (h := h) (by omega) (by omega)) (by omega) (by omega) ?_
  refine r_iadd f14_20 (e := m (4 + 4 * h) (3 * t)) (by omega) (by omega) (by omega) ?_
  refine r_istore_n f14_21 rfl (ls' := [some (.inr (.inl (some (3 + 4 * h)))), some (.inl t), some (.inl (m (4 + 4 * h) (3 * t))), some (.inl 0)]) rfl ?_
  refine r_iinc f14_22 rfl rfl rfl (e := 1) (by omega) (by omega) (by omega) (ls' := [some (.inr (.inl (some (3 + 4 * h)))), some (.inl t), some (.inl (m (4 + 4 * h) (3 * t))), some (.inl 1)]) rfl ?_
  refine r_goto f14_25 (t := 4) (by decide) ?_
  refine r_iload_n f14_4 rfl ?_
  refine r_iconst f14_5 rfl ?_
  refine r_cge f14_6 (t := 28) (by decide) (fun h => absurd h (by omega)) (fun _ => ?_)
  refine r_iload_n f14_9 rfl ?_
  refine r_aload_n f14_10 rfl ?_
  refine r_getR f14_11 o14 F1_9 (gH_0 (h := h) (by omega) (by omega)) rfl ?_
  refine r_iload_n f14_14 rfl ?_
  refine r_iconst f14_15 rfl ?_
  refine r_imul f14_16 (e := 3 * t) (by omega) (by omega) (by omega) ?_
  refine r_iload_n f14_17 rfl ?_
  refine r_iadd f14_18 (e := 3 * t + 1) (by omega) (by omega) (by omega) ?_
  refine r_iald f14_19 (kdH1 (h := h) (by omega) (by omega)) (by omega) (by omega) ?_
  refine r_iadd f14_20 (e := m (4 + 4 * h) (3 * t + 1) + m (4 + 4 * h) (3 * t)) (by omega) (by omega) (by omega) ?_
  refine r_istore_n f14_21 rfl (ls' := [some (.inr (.inl (some (3 + 4 * h)))), some (.inl t), some (.inl (m (4 + 4 * h) (3 * t + 1) + m (4 + 4 * h) (3 * t))), some (.inl 1)]) rfl ?_
  refine r_iinc f14_22 rfl rfl rfl (e := 2) (by omega) (by omega) (by omega) (ls' := [some (.inr (.inl (some (3 + 4 * h)))), some (.inl t), some (.inl (m (4 + 4 * h) (3 * t + 1) + m (4 + 4 * h) (3 * t))), some (.inl 2)]) rfl ?_
  refine r_goto f14_25 (t := 4) (by decide) ?_
  refine r_iload_n f14_4 rfl ?_
  refine r_iconst f14_5 rfl ?_
  refine r_cge f14_6 (t := 28) (by decide) (fun h => absurd h (by omega)) (fun _ => ?_)
  refine r_iload_n f14_9 rfl ?_
  refine r_aload_n f14_10 rfl ?_
  refine r_getR f14_11 o14 F1_9 (gH_0 (h := h) (by omega) (by omega)) rfl ?_
  refine r_iload_n f14_14 rfl ?_
  refine r_iconst f14_15 rfl ?_
  refine r_imul f14_16 (e := 3 * t) (by omega) (by omega) (by omega) ?_
  refine r_iload_n f14_17 rfl ?_
  refine r_iadd f14_18 (e := 3 * t + 2) (by omega) (by omega) (by omega) ?_
  refine r_iald f14_19 (kdH1 (h := h) (by omega) (by omega)) (by omega) (by omega) ?_
  refine r_iadd f14_20 (e := m (4 + 4 * h) (3 * t + 1) + m (4 + 4 * h) (3 * t + 2) + m (4 + 4 * h) (3 * t)) (by omega) (by omega) (by omega) ?_
  refine r_istore_n f14_21 rfl (ls' := [some (.inr (.inl (some (3 + 4 * h)))), some (.inl t), some (.inl (m (4 + 4 * h) (3 * t + 1) + m (4 + 4 * h) (3 * t + 2) + m (4 + 4 * h) (3 * t))), some (.inl 2)]) rfl ?_
  refine r_iinc f14_22 rfl rfl rfl (e := 3) (by omega) (by omega) (by omega) (ls' := [some (.inr (.inl (some (3 + 4 * h)))), some (.inl t), some (.inl (m (4 + 4 * h) (3 * t + 1) + m (4 + 4 * h) (3 * t + 2) + m (4 + 4 * h) (3 * t))), some (.inl 3)]) rfl ?_
  refine r_goto f14_25 (t := 4) (by decide) ?_
  refine r_iload_n f14_4 rfl ?_
  refine r_iconst f14_5 rfl ?_
  refine r_cge f14_6 (t := 28) (by decide) (fun _ => ?_) (fun h => absurd (by omega) h)
  refine r_iload_n f14_28 rfl ?_
  exact r_iret f14_29 v14 ⟨zs_eq (by first | rfl | omega | (repeat (first | rw [if_pos (by omega)] | rw [if_neg (by omega)]))), rfl⟩
end
section
theorem zmulb {a b A B : Int} (h1 : 0 ≤ a) (h2 : a ≤ A) (h3 : 0 ≤ b) (h4 : b ≤ B) : 0 ≤ a * b ∧ a * b ≤ A * B := ⟨Int.mul_nonneg h1 h3, Int.mul_le_mul h2 h4 h3 (Int.le_trans h1 h2)⟩
def zsn (f : Int → Int) : Nat → Int
  | 0 => 0
  | n + 1 => zsn f n + f (n : Int)
def zsum (f : Int → Int) (i : Int) : Int := zsn f i.toNat
theorem zsum_0 (f : Int → Int) : zsum f 0 = 0 := rfl
theorem zsum_s {f : Int → Int} {i : Int} (h : 0 ≤ i) : zsum f (i + 1) = zsum f i + f i := by
  unfold zsum
  rw [show (i + 1).toNat = i.toNat + 1 by omega, zsn, Int.toNat_of_nonneg h]
theorem zsn_c {f g : Int → Int} : ∀ n : Nat, (∀ k : Int, 0 ≤ k → k < n → f k = g k) → zsn f n = zsn g n
  | 0, _ => rfl
  | n + 1, h => by rw [zsn, zsn, zsn_c n (fun k h0 h1 => h k h0 (by omega)), h n (by omega) (by omega)]
theorem zsum_c {f g : Int → Int} {n : Int} (h : ∀ k : Int, 0 ≤ k → k < n → f k = g k) : zsum f n = zsum g n := zsn_c _ (fun k h0 h1 => h k h0 (by omega))
theorem zsn_b {f : Int → Int} {A B : Int} : ∀ n : Nat, (∀ k : Int, 0 ≤ k → k < n → A ≤ f k ∧ f k ≤ B) → A * n ≤ zsn f n ∧ zsn f n ≤ B * n
  | 0, _ => by simp [zsn]
  | n + 1, h => by
    have h1 := zsn_b n (fun k h0 h1 => h k h0 (by omega))
    have h2 := h n (by omega) (by omega)
    rw [zsn]
    have e1 : A * ((n + 1 : Nat) : Int) = A * n + A := by rw [Int.natCast_succ, Int.mul_add, Int.mul_one]
    have e2 : B * ((n + 1 : Nat) : Int) = B * n + B := by rw [Int.natCast_succ, Int.mul_add, Int.mul_one]
    omega
theorem zsum_b {f : Int → Int} {A B n : Int} (hn : 0 ≤ n) (h : ∀ k : Int, 0 ≤ k → k < n → A ≤ f k ∧ f k ≤ B) : A * n ≤ zsum f n ∧ zsum f n ≤ B * n := by
  have h1 := zsn_b (f := f) (A := A) (B := B) n.toNat (fun k h0 h1 => h k h0 (by omega))
  rw [Int.toNat_of_nonneg hn] at h1
  exact h1
/-- the first k from i on (n of them) with P, else -1 -/
def zff (P : Int → Prop) [DecidablePred P] : Int → Nat → Int
  | _, 0 => -1
  | i, n + 1 => if P i then i else zff P (i + 1) n
/-- a fold -/
def zfdn (f : Int → Int → Int) (a : Int) : Nat → Int
  | 0 => a
  | n + 1 => f (n : Int) (zfdn f a n)
def zfd (f : Int → Int → Int) (a i : Int) : Int := zfdn f a i.toNat
theorem zfd_0 (f : Int → Int → Int) (a : Int) : zfd f a 0 = a := rfl
theorem zfd_s {f : Int → Int → Int} {a i : Int} (h : 0 ≤ i) : zfd f a (i + 1) = f i (zfd f a i) := by
  unfold zfd
  rw [show (i + 1).toNat = i.toNat + 1 by omega, zfdn, Int.toNat_of_nonneg h]
abbrev XL (m : zmem) (c i : Int) : Prop := 0 < m (66 + 5 * c) (3 * i) + m (66 + 5 * c) (3 * i + 1) + m (66 + 5 * c) (3 * i + 2)
abbrev XH (m : zmem) (c t : Int) : Prop := 0 ≤ t - m (64 + 5 * c) 5 ∧ t - m (64 + 5 * c) 5 < m (64 + 5 * c) 6
abbrev XO (m : zmem) (c t : Int) : Prop := XH m c t ∧ XL m c (t - m (64 + 5 * c) 5)
abbrev XA (m : zmem) (c h t : Int) : Prop := XO m c t ∧ m (65 + 5 * c) (t - m (64 + 5 * c) 5) = h
abbrev XS (m : zmem) (c h t : Int) : Prop := XH m c t ∧ ¬ m (68 + 5 * c) (t - m (64 + 5 * c) 5) = 0 ∧ m (65 + 5 * c) (t - m (64 + 5 * c) 5) = h
abbrev XP (m : zmem) (c t : Int) : Prop := XH m c t ∧ ¬ m (67 + 5 * c) (t - m (64 + 5 * c) 5) = 0
theorem t_ask {L d : Nat} {m : zmem} {c : Int} (c0 : 0 ≤ c) (c1 : c < 40) (a b e : Int) : zF L (d) 1 [.inr (.inl (some (64 + 5 * c))), .inl a, .inl b, .inl e] m none (zu (zu (zu (zu m (64 + 5 * c) 4 a) (64 + 5 * c) 5 b) (65 + 5 * c) 0 e) (64 + 5 * c) 6 1) := by
  refine zF_of n1 (ls := [some (.inr (.inl (some (64 + 5 * c)))), some (.inl a), some (.inl b), some (.inl e)]) rfl ?_
  refine r_aload_n f1_0 rfl ?_
  refine r_iload_n f1_1 rfl ?_
  refine r_put f1_2 o1 F0_25 (gC_4 (c := c) (by omega) (by omega)) rfl T0_4 U0_4 ?_
  refine r_aload_n f1_5 rfl ?_
  refine r_iload_n f1_6 rfl ?_
  refine r_put f1_7 o1 F0_29 (gC_5 (c := c) (by omega) (by omega)) rfl T0_5 U0_5 ?_
  refine r_aload_n f1_10 rfl ?_
  refine r_getR f1_11 o1 F0_9 (gC_0 (c := c) (by omega) (by omega)) rfl ?_
  refine r_iconst f1_14 rfl ?_
  refine r_iload_n f1_15 rfl ?_
  refine r_iast f1_16 (kdC1 (c := c) (by omega) (by omega)) (by omega) (by omega) (by omega) ?_
  refine r_aload_n f1_17 rfl ?_
  refine r_iconst f1_18 rfl ?_
  refine r_put f1_19 o1 F0_32 (gC_6 (c := c) (by omega) (by omega)) rfl T0_6 U0_6 ?_
  exact r_vret f1_22 v1 ⟨rfl, rfl⟩

theorem t_isLaid {L d : Nat} {m : zmem} {c : Int} (c0 : 0 ≤ c) (c1 : c < 40) {i : Int} (i0 : 0 ≤ i) (i1 : i < 7) (hl : ∀ k, 0 ≤ k → k < 21 → 0 ≤ m (66 + 5 * c) k ∧ m (66 + 5 * c) k ≤ 9)  : zF L (d) 3 [.inr (.inl (some (64 + 5 * c))), .inl i] m (some (.inl (if XL m c i then 1 else 0))) m := by
  have r0 := hl (3 * i) (by omega) (by omega)
  have r1 := hl (3 * i + 1) (by omega) (by omega)
  have r2 := hl (3 * i + 2) (by omega) (by omega)
  refine zF_of n3 (ls := [some (.inr (.inl (some (64 + 5 * c)))), some (.inl i), none, none]) rfl ?_
  refine r_iconst f3_0 rfl ?_
  refine r_istore_n f3_1 rfl (ls' := [some (.inr (.inl (some (64 + 5 * c)))), some (.inl i), some (.inl 0), none]) rfl ?_
  refine r_iconst f3_2 rfl ?_
  refine r_istore_n f3_3 rfl (ls' := [some (.inr (.inl (some (64 + 5 * c)))), some (.inl i), some (.inl 0), some (.inl 0)]) rfl ?_
  refine r_iload_n f3_4 rfl ?_
  refine r_iconst f3_5 rfl ?_
  refine r_cge f3_6 (t := 28) (by decide) (fun h => absurd h (by omega)) (fun _ => ?_)
  refine r_iload_n f3_9 rfl ?_
  refine r_aload_n f3_10 rfl ?_
  refine r_getR f3_11 o3 F0_15 (gC_1 (c := c) (by omega) (by omega)) rfl ?_
  refine r_iload_n f3_14 rfl ?_
  refine r_iconst f3_15 rfl ?_
  refine r_imul f3_16 (e := 3 * i) (by omega) (by omega) (by omega) ?_
  refine r_iload_n f3_17 rfl ?_
  refine r_iadd f3_18 (e := 3 * i) (by omega) (by omega) (by omega) ?_
  refine r_iald f3_19 (kdC2 (c := c) (by omega) (by omega)) (by omega) (by omega) ?_
  refine r_iadd f3_20 (e := m (66 + 5 * c) (3 * i)) (by omega) (by omega) (by omega) ?_
  refine r_istore_n f3_21 rfl (ls' := [some (.inr (.inl (some (64 + 5 * c)))), some (.inl i), some (.inl (m (66 + 5 * c) (3 * i))), some (.inl 0)]) rfl ?_
  refine r_iinc f3_22 rfl rfl rfl (e := 1) (by omega) (by omega) (by omega) (ls' := [some (.inr (.inl (some (64 + 5 * c)))), some (.inl i), some (.inl (m (66 + 5 * c) (3 * i))), some (.inl 1)]) rfl ?_
  refine r_goto f3_25 (t := 4) (by decide) ?_
  refine r_iload_n f3_4 rfl ?_
  refine r_iconst f3_5 rfl ?_
  refine r_cge f3_6 (t := 28) (by decide) (fun h => absurd h (by omega)) (fun _ => ?_)
  refine r_iload_n f3_9 rfl ?_
  refine r_aload_n f3_10 rfl ?_
  refine r_getR f3_11 o3 F0_15 (gC_1 (c := c) (by omega) (by omega)) rfl ?_
  refine r_iload_n f3_14 rfl ?_
  refine r_iconst f3_15 rfl ?_
  refine r_imul f3_16 (e := 3 * i) (by omega) (by omega) (by omega) ?_
  refine r_iload_n f3_17 rfl ?_
  refine r_iadd f3_18 (e := 3 * i + 1) (by omega) (by omega) (by omega) ?_
  refine r_iald f3_19 (kdC2 (c := c) (by omega) (by omega)) (by omega) (by omega) ?_
  refine r_iadd f3_20 (e := m (66 + 5 * c) (3 * i + 1) + m (66 + 5 * c) (3 * i)) (by omega) (by omega) (by omega) ?_
  refine r_istore_n f3_21 rfl (ls' := [some (.inr (.inl (some (64 + 5 * c)))), some (.inl i), some (.inl (m (66 + 5 * c) (3 * i + 1) + m (66 + 5 * c) (3 * i))), some (.inl 1)]) rfl ?_
  refine r_iinc f3_22 rfl rfl rfl (e := 2) (by omega) (by omega) (by omega) (ls' := [some (.inr (.inl (some (64 + 5 * c)))), some (.inl i), some (.inl (m (66 + 5 * c) (3 * i + 1) + m (66 + 5 * c) (3 * i))), some (.inl 2)]) rfl ?_
  refine r_goto f3_25 (t := 4) (by decide) ?_
  refine r_iload_n f3_4 rfl ?_
  refine r_iconst f3_5 rfl ?_
  refine r_cge f3_6 (t := 28) (by decide) (fun h => absurd h (by omega)) (fun _ => ?_)
  refine r_iload_n f3_9 rfl ?_
  refine r_aload_n f3_10 rfl ?_
  refine r_getR f3_11 o3 F0_15 (gC_1 (c := c) (by omega) (by omega)) rfl ?_
  refine r_iload_n f3_14 rfl ?_
  refine r_iconst f3_15 rfl ?_
  refine r_imul f3_16 (e := 3 * i) (by omega) (by omega) (by omega) ?_
  refine r_iload_n f3_17 rfl ?_
  refine r_iadd f3_18 (e := 3 * i + 2) (by omega) (by omega) (by omega) ?_
  refine r_iald f3_19 (kdC2 (c := c) (by omega) (by omega)) (by omega) (by omega) ?_
  refine r_iadd f3_20 (e := m (66 + 5 * c) (3 * i + 1) + m (66 + 5 * c) (3 * i + 2) + m (66 + 5 * c) (3 * i)) (by omega) (by omega) (by omega) ?_
  refine r_istore_n f3_21 rfl (ls' := [some (.inr (.inl (some (64 + 5 * c)))), some (.inl i), some (.inl (m (66 + 5 * c) (3 * i + 1) + m (66 + 5 * c) (3 * i + 2) + m (66 + 5 * c) (3 * i))), some (.inl 2)]) rfl ?_
  refine r_iinc f3_22 rfl rfl rfl (e := 3) (by omega) (by omega) (by omega) (ls' := [some (.inr (.inl (some (64 + 5 * c)))), some (.inl i), some (.inl (m (66 + 5 * c) (3 * i + 1) + m (66 + 5 * c) (3 * i + 2) + m (66 + 5 * c) (3 * i))), some (.inl 3)]) rfl ?_
  refine r_goto f3_25 (t := 4) (by decide) ?_
  refine r_iload_n f3_4 rfl ?_
  refine r_iconst f3_5 rfl ?_
  refine r_cge f3_6 (t := 28) (by decide) (fun _ => ?_) (fun h => absurd (by omega) h)
  refine r_iload_n f3_28 rfl ?_
  refine r_zle f3_29 (t := 36) (by decide) (fun q1 => ?_) (fun q1 => ?_)
  · refine r_iconst f3_36 rfl ?_
    exact r_zret f3_37 v3 (by omega) ⟨zs_eq (by first | rfl | omega | (repeat (first | rw [if_pos (by omega)] | rw [if_neg (by omega)]))), rfl⟩
  · refine r_iconst f3_32 rfl ?_
    refine r_goto f3_33 (t := 37) (by decide) ?_
    exact r_zret f3_37 v3 (by omega) ⟨zs_eq (by first | rfl | omega | (repeat (first | rw [if_pos (by omega)] | rw [if_neg (by omega)]))), rfl⟩

theorem t_has {L d : Nat} {m : zmem} {c : Int} (c0 : 0 ≤ c) (c1 : c < 40) (f0 : 0 ≤ m (64 + 5 * c) 5) (f1 : m (64 + 5 * c) 5 ≤ 39) (l0 : 0 ≤ m (64 + 5 * c) 6) (l1 : m (64 + 5 * c) 6 ≤ 7) {t : Int} (t0 : 0 ≤ t) (t1 : t < 40)  : zF L (d + 1) 4 [.inr (.inl (some (64 + 5 * c))), .inl t] m (some (.inl (if XH m c t then 1 else 0))) m := by
  refine zF_of n4 (ls := [some (.inr (.inl (some (64 + 5 * c)))), some (.inl t)]) rfl ?_
  refine r_iload_n f4_0 rfl ?_
  refine r_aload_n f4_1 rfl ?_
  refine r_getI f4_2 o4 F0_29 (gC_5 (c := c) (by omega) (by omega)) rfl ?_
  refine r_isub f4_5 (e := t - m (64 + 5 * c) 5) (by omega) (by omega) (by omega) ?_
  refine r_iconst f4_6 rfl ?_
  refine r_aload_n f4_7 rfl ?_
  refine r_getI f4_8 o4 F0_32 (gC_6 (c := c) (by omega) (by omega)) rfl ?_
  refine r_iconst f4_11 rfl ?_
  refine r_isub f4_12 (e := m (64 + 5 * c) 6 - 1) (by omega) (by omega) (by omega) ?_
  refine r_calls3i f4_13 o4 M0_35 (Or.inr rfl) p67 rfl (by simp) (t_within (t - m (64 + 5 * c) 5) 0 (m (64 + 5 * c) 6 - 1)) ?_
  refine r_ite (fun q1 => ?_) (fun q1 => ?_)
  · exact r_zret f4_16 v4 (by omega) ⟨zs_eq (by first | rfl | omega | (repeat (first | rw [if_pos (by omega)] | rw [if_neg (by omega)]))), rfl⟩
  · exact r_zret f4_16 v4 (by omega) ⟨zs_eq (by first | rfl | omega | (repeat (first | rw [if_pos (by omega)] | rw [if_neg (by omega)]))), rfl⟩

theorem t_isLaidOn {L d : Nat} {m : zmem} {c : Int} (c0 : 0 ≤ c) (c1 : c < 40) (f0 : 0 ≤ m (64 + 5 * c) 5) (f1 : m (64 + 5 * c) 5 ≤ 39) (l0 : 0 ≤ m (64 + 5 * c) 6) (l1 : m (64 + 5 * c) 6 ≤ 7) (hl : ∀ k, 0 ≤ k → k < 21 → 0 ≤ m (66 + 5 * c) k ∧ m (66 + 5 * c) k ≤ 9) {t : Int} (t0 : 0 ≤ t) (t1 : t < 40)  : zF L (d + 2) 5 [.inr (.inl (some (64 + 5 * c))), .inl t] m (some (.inl (if XO m c t then 1 else 0))) m := by
  refine zF_of n5 (ls := [some (.inr (.inl (some (64 + 5 * c)))), some (.inl t)]) rfl ?_
  refine r_aload_n f5_0 rfl ?_
  refine r_iload_n f5_1 rfl ?_
  refine r_callv1i f5_2 o5 M0_39 p4 o4 (kdC0 (c := c) (by omega) (by omega)) rfl (by simp) (t_has c0 c1 f0 f1 l0 l1 t0 t1) ?_
  refine r_ite (fun q1 => ?_) (fun q1 => ?_)
  · refine r_zeq f5_5 (t := 25) (by decide) (fun h => absurd h (by omega)) (fun _ => ?_)
    refine r_aload_n f5_8 rfl ?_
    refine r_iload_n f5_9 rfl ?_
    refine r_aload_n f5_10 rfl ?_
    refine r_getI f5_11 o5 F0_29 (gC_5 (c := c) (by omega) (by omega)) rfl ?_
    refine r_isub f5_14 (e := t - m (64 + 5 * c) 5) (by omega) (by omega) (by omega) ?_
    refine r_callv1i f5_15 o5 M0_43 p3 o3 (kdC0 (c := c) (by omega) (by omega)) rfl (by simp) (t_isLaid (i := t - m (64 + 5 * c) 5) c0 c1 (by omega) (by omega) hl) ?_
    refine r_ite (fun q2 => ?_) (fun q2 => ?_)
    · refine r_zeq f5_18 (t := 25) (by decide) (fun h => absurd h (by omega)) (fun _ => ?_)
      refine r_iconst f5_21 rfl ?_
      refine r_goto f5_22 (t := 26) (by decide) ?_
      exact r_zret f5_26 v5 (by omega) ⟨zs_eq (by first | rfl | omega | (repeat (first | rw [if_pos (by omega)] | rw [if_neg (by omega)]))), rfl⟩
    · refine r_zeq f5_18 (t := 25) (by decide) (fun _ => ?_) (fun h => absurd (by omega) h)
      refine r_iconst f5_25 rfl ?_
      exact r_zret f5_26 v5 (by omega) ⟨zs_eq (by first | rfl | omega | (repeat (first | rw [if_pos (by omega)] | rw [if_neg (by omega)]))), rfl⟩
  · refine r_zeq f5_5 (t := 25) (by decide) (fun _ => ?_) (fun h => absurd (by omega) h)
    refine r_iconst f5_25 rfl ?_
    exact r_zret f5_26 v5 (by omega) ⟨zs_eq (by first | rfl | omega | (repeat (first | rw [if_pos (by omega)] | rw [if_neg (by omega)]))), rfl⟩

theorem t_isLaidAt {L d : Nat} {m : zmem} {c : Int} (c0 : 0 ≤ c) (c1 : c < 40) (f0 : 0 ≤ m (64 + 5 * c) 5) (f1 : m (64 + 5 * c) 5 ≤ 39) (l0 : 0 ≤ m (64 + 5 * c) 6) (l1 : m (64 + 5 * c) 6 ≤ 7) (hl : ∀ k, 0 ≤ k → k < 21 → 0 ≤ m (66 + 5 * c) k ∧ m (66 + 5 * c) k ≤ 9) {h t : Int} (t0 : 0 ≤ t) (t1 : t < 40)  : zF L (d + 3) 6 [.inr (.inl (some (64 + 5 * c))), .inl h, .inl t] m (some (.inl (if XA m c h t then 1 else 0))) m := by
  refine zF_of n6 (ls := [some (.inr (.inl (some (64 + 5 * c)))), some (.inl h), some (.inl t)]) rfl ?_
  refine r_aload_n f6_0 rfl ?_
  refine r_iload_n f6_1 rfl ?_
  refine r_callv1i f6_2 o6 M0_46 p5 o5 (kdC0 (c := c) (by omega) (by omega)) rfl (by simp) (t_isLaidOn c0 c1 f0 f1 l0 l1 hl t0 t1) ?_
  refine r_ite (fun q1 => ?_) (fun q1 => ?_)
  · refine r_zeq f6_5 (t := 27) (by decide) (fun h => absurd h (by omega)) (fun _ => ?_)
    refine r_aload_n f6_8 rfl ?_
    refine r_getR f6_9 o6 F0_9 (gC_0 (c := c) (by omega) (by omega)) rfl ?_
    refine r_iload_n f6_12 rfl ?_
    refine r_aload_n f6_13 rfl ?_
    refine r_getI f6_14 o6 F0_29 (gC_5 (c := c) (by omega) (by omega)) rfl ?_
    refine r_isub f6_17 (e := t - m (64 + 5 * c) 5) (by omega) (by omega) (by omega) ?_
    refine r_iald f6_18 (kdC1 (c := c) (by omega) (by omega)) (by omega) (by omega) ?_
    refine r_iload_n f6_19 rfl ?_
    refine r_cne f6_20 (t := 27) (by decide) (fun q2 => ?_) (fun q2 => ?_)
    · refine r_iconst f6_27 rfl ?_
      exact r_zret f6_28 v6 (by omega) ⟨zs_eq (by first | rfl | omega | (repeat (first | rw [if_pos (by omega)] | rw [if_neg (by omega)]))), rfl⟩
    · refine r_iconst f6_23 rfl ?_
      refine r_goto f6_24 (t := 28) (by decide) ?_
      exact r_zret f6_28 v6 (by omega) ⟨zs_eq (by first | rfl | omega | (repeat (first | rw [if_pos (by omega)] | rw [if_neg (by omega)]))), rfl⟩
  · refine r_zeq f6_5 (t := 27) (by decide) (fun _ => ?_) (fun h => absurd (by omega) h)
    refine r_iconst f6_27 rfl ?_
    exact r_zret f6_28 v6 (by omega) ⟨zs_eq (by first | rfl | omega | (repeat (first | rw [if_pos (by omega)] | rw [if_neg (by omega)]))), rfl⟩

theorem t_sleptAt {L d : Nat} {m : zmem} {c : Int} (c0 : 0 ≤ c) (c1 : c < 40) (f0 : 0 ≤ m (64 + 5 * c) 5) (f1 : m (64 + 5 * c) 5 ≤ 39) (l0 : 0 ≤ m (64 + 5 * c) 6) (l1 : m (64 + 5 * c) 6 ≤ 7) {h t : Int} (t0 : 0 ≤ t) (t1 : t < 40)  : zF L (d + 2) 9 [.inr (.inl (some (64 + 5 * c))), .inl h, .inl t] m (some (.inl (if XS m c h t then 1 else 0))) m := by
  refine zF_of n9 (ls := [some (.inr (.inl (some (64 + 5 * c)))), some (.inl h), some (.inl t)]) rfl ?_
  refine r_aload_n f9_0 rfl ?_
  refine r_iload_n f9_1 rfl ?_
  refine r_callv1i f9_2 o9 M0_39 p4 o4 (kdC0 (c := c) (by omega) (by omega)) rfl (by simp) (t_has c0 c1 f0 f1 l0 l1 t0 t1) ?_
  refine r_ite (fun q1 => ?_) (fun q1 => ?_)
  · refine r_zeq f9_5 (t := 41) (by decide) (fun h => absurd h (by omega)) (fun _ => ?_)
    refine r_aload_n f9_8 rfl ?_
    refine r_getR f9_9 o9 F0_22 (gC_3 (c := c) (by omega) (by omega)) rfl ?_
    refine r_iload_n f9_12 rfl ?_
    refine r_aload_n f9_13 rfl ?_
    refine r_getI f9_14 o9 F0_29 (gC_5 (c := c) (by omega) (by omega)) rfl ?_
    refine r_isub f9_17 (e := t - m (64 + 5 * c) 5) (by omega) (by omega) (by omega) ?_
    refine r_bald f9_18 (kdC4 (c := c) (by omega) (by omega)) (by omega) (by omega) ?_
    refine r_zeq f9_19 (t := 41) (by decide) (fun q2 => ?_) (fun q2 => ?_)
    · refine r_iconst f9_41 rfl ?_
      exact r_zret f9_42 v9 (by omega) ⟨zs_eq (by first | rfl | omega | (repeat (first | rw [if_pos (by omega)] | rw [if_neg (by omega)]))), rfl⟩
    · refine r_aload_n f9_22 rfl ?_
      refine r_getR f9_23 o9 F0_9 (gC_0 (c := c) (by omega) (by omega)) rfl ?_
      refine r_iload_n f9_26 rfl ?_
      refine r_aload_n f9_27 rfl ?_
      refine r_getI f9_28 o9 F0_29 (gC_5 (c := c) (by omega) (by omega)) rfl ?_
      refine r_isub f9_31 (e := t - m (64 + 5 * c) 5) (by omega) (by omega) (by omega) ?_
      refine r_iald f9_32 (kdC1 (c := c) (by omega) (by omega)) (by omega) (by omega) ?_
      refine r_iload_n f9_33 rfl ?_
      refine r_cne f9_34 (t := 41) (by decide) (fun q3 => ?_) (fun q3 => ?_)
      · refine r_iconst f9_41 rfl ?_
        exact r_zret f9_42 v9 (by omega) ⟨zs_eq (by first | rfl | omega | (repeat (first | rw [if_pos (by omega)] | rw [if_neg (by omega)]))), rfl⟩
      · refine r_iconst f9_37 rfl ?_
        refine r_goto f9_38 (t := 42) (by decide) ?_
        exact r_zret f9_42 v9 (by omega) ⟨zs_eq (by first | rfl | omega | (repeat (first | rw [if_pos (by omega)] | rw [if_neg (by omega)]))), rfl⟩
  · refine r_zeq f9_5 (t := 41) (by decide) (fun _ => ?_) (fun h => absurd (by omega) h)
    refine r_iconst f9_41 rfl ?_
    exact r_zret f9_42 v9 (by omega) ⟨zs_eq (by first | rfl | omega | (repeat (first | rw [if_pos (by omega)] | rw [if_neg (by omega)]))), rfl⟩

theorem t_sleep {L d : Nat} {m : zmem} {c : Int} (c0 : 0 ≤ c) (c1 : c < 40) (f0 : 0 ≤ m (64 + 5 * c) 5) (f1 : m (64 + 5 * c) 5 ≤ 39) (l0 : 0 ≤ m (64 + 5 * c) 6) (l1 : m (64 + 5 * c) 6 ≤ 7) {t : Int} (t0 : 0 ≤ t) (t1 : t < 40)  : zF L (d + 2) 8 [.inr (.inl (some (64 + 5 * c))), .inl t] m (some (.inl (if XP m c t then 1 else 0))) (if XP m c t then (zu m (68 + 5 * c) (t - m (64 + 5 * c) 5) 1) else m) := by
  refine zF_of n8 (ls := [some (.inr (.inl (some (64 + 5 * c)))), some (.inl t)]) rfl ?_
  refine r_aload_n f8_0 rfl ?_
  refine r_iload_n f8_1 rfl ?_
  refine r_callv1i f8_2 o8 M0_39 p4 o4 (kdC0 (c := c) (by omega) (by omega)) rfl (by simp) (t_has c0 c1 f0 f1 l0 l1 t0 t1) ?_
  refine r_ite (fun q1 => ?_) (fun q1 => ?_)
  · refine r_zeq f8_5 (t := 22) (by decide) (fun h => absurd h (by omega)) (fun _ => ?_)
    refine r_aload_n f8_8 rfl ?_
    refine r_getR f8_9 o8 F0_18 (gC_2 (c := c) (by omega) (by omega)) rfl ?_
    refine r_iload_n f8_12 rfl ?_
    refine r_aload_n f8_13 rfl ?_
    refine r_getI f8_14 o8 F0_29 (gC_5 (c := c) (by omega) (by omega)) rfl ?_
    refine r_isub f8_17 (e := t - m (64 + 5 * c) 5) (by omega) (by omega) (by omega) ?_
    refine r_bald f8_18 (kdC3 (c := c) (by omega) (by omega)) (by omega) (by omega) ?_
    refine r_zne f8_19 (t := 24) (by decide) (fun q2 => ?_) (fun q2 => ?_)
    · refine r_aload_n f8_24 rfl ?_
      refine r_getR f8_25 o8 F0_22 (gC_3 (c := c) (by omega) (by omega)) rfl ?_
      refine r_iload_n f8_28 rfl ?_
      refine r_aload_n f8_29 rfl ?_
      refine r_getI f8_30 o8 F0_29 (gC_5 (c := c) (by omega) (by omega)) rfl ?_
      refine r_isub f8_33 (e := t - m (64 + 5 * c) 5) (by omega) (by omega) (by omega) ?_
      refine r_iconst f8_34 rfl ?_
      refine r_bast f8_35 (kdC4 (c := c) (by omega) (by omega)) (by omega) (by omega) (by omega) (by omega) ?_
      refine r_iconst f8_36 rfl ?_
      exact r_zret f8_37 v8 (by omega) ⟨zs_eq (by first | rfl | omega | (repeat (first | rw [if_pos (by omega)] | rw [if_neg (by omega)]))), by rw [if_pos (by omega)]⟩
    · refine r_iconst f8_22 rfl ?_
      exact r_zret f8_23 v8 (by omega) ⟨zs_eq (by first | rfl | omega | (repeat (first | rw [if_pos (by omega)] | rw [if_neg (by omega)]))), by rw [if_neg (by omega)]⟩
  · refine r_zeq f8_5 (t := 22) (by decide) (fun _ => ?_) (fun h => absurd (by omega) h)
    refine r_iconst f8_22 rfl ?_
    exact r_zret f8_23 v8 (by omega) ⟨zs_eq (by first | rfl | omega | (repeat (first | rw [if_pos (by omega)] | rw [if_neg (by omega)]))), by rw [if_neg (by omega)]⟩
end
section
theorem r_mem {L d j pc : Nat} {ls : zL} {st : List zV} {Q : Option zV → zM → Prop} {m m1 : zmem} (h : m1 = m) (kk : zR d j pc ls st (zem L m1) Q) : zR d j pc ls st (zem L m) Q := h ▸ kk
def XNf (m : zmem) (c k : Int) : Int := if m (68 + 5 * c) k = 0 then 0 else 1
theorem l_nightsSlept {L d : Nat} {m : zmem} {c : Int} (c0 : 0 ≤ c) (c1 : c < 40) (l0 : 0 ≤ m (64 + 5 * c) 6) (l1 : m (64 + 5 * c) 6 ≤ 7)  {Q : Option zV → zM → Prop} (hx : zR (d) 10 30 [some (.inr (.inl (some (64 + 5 * c)))), some (.inl (zsum (XNf m c) (m (64 + 5 * c) 6))), some (.inl (m (64 + 5 * c) 6))] [] (zem L m) Q) : ∀ (n : Nat) (i : Int), 0 ≤ i → i + n = m (64 + 5 * c) 6 → zR (d) 10 4 [some (.inr (.inl (some (64 + 5 * c)))), some (.inl (zsum (XNf m c) i)), some (.inl i)] [] (zem L m) Q := by
  intro n
  induction n with
  | zero =>
    intro i hi hn
    have ei : i = m (64 + 5 * c) 6 := by omega
    rw [ei]
    refine r_iload_n f10_4 rfl ?_
    refine r_aload_n f10_5 rfl ?_
    refine r_getI f10_6 o10 F0_32 (gC_6 (c := c) (by omega) (by omega)) rfl ?_
    refine r_cge f10_9 (t := 30) (by decide) (fun _ => ?_) (fun h => absurd (by omega) h)
    exact hx
  | succ n ih =>
    intro i hi hn
    have hb := zsum_b (f := XNf m c) (A := 0) (B := 1) hi (fun k _ _ => by unfold XNf; split <;> omega)
    refine r_iload_n f10_4 rfl ?_
    refine r_aload_n f10_5 rfl ?_
    refine r_getI f10_6 o10 F0_32 (gC_6 (c := c) (by omega) (by omega)) rfl ?_
    refine r_cge f10_9 (t := 30) (by decide) (fun h => absurd h (by omega)) (fun _ => ?_)
    refine r_aload_n f10_12 rfl ?_
    refine r_getR f10_13 o10 F0_22 (gC_3 (c := c) (by omega) (by omega)) rfl ?_
    refine r_iload_n f10_16 rfl ?_
    refine r_bald f10_17 (kdC4 (c := c) (by omega) (by omega)) (by omega) (by omega) ?_
    refine r_zeq f10_18 (t := 24) (by decide) (fun q1 => ?_) (fun q1 => ?_)
    · refine r_iinc f10_24 rfl rfl rfl (e := i + 1) (by omega) (by omega) (by omega) (ls' := [some (.inr (.inl (some (64 + 5 * c)))), some (.inl (zsum (XNf m c) i)), some (.inl (i + 1))]) rfl ?_
      refine r_goto f10_27 (t := 4) (by decide) ?_
      rw [show zsum (XNf m c) i = zsum (XNf m c) (i + 1) from by rw [zsum_s (by omega)]; unfold XNf; split <;> omega]
      exact ih (i + 1) (by omega) (by omega)
    · refine r_iinc f10_21 rfl rfl rfl (e := zsum (XNf m c) i + 1) (by omega) (by omega) (by omega) (ls' := [some (.inr (.inl (some (64 + 5 * c)))), some (.inl (zsum (XNf m c) i + 1)), some (.inl i)]) rfl ?_
      refine r_iinc f10_24 rfl rfl rfl (e := i + 1) (by omega) (by omega) (by omega) (ls' := [some (.inr (.inl (some (64 + 5 * c)))), some (.inl (zsum (XNf m c) i + 1)), some (.inl (i + 1))]) rfl ?_
      refine r_goto f10_27 (t := 4) (by decide) ?_
      rw [show zsum (XNf m c) i + 1 = zsum (XNf m c) (i + 1) from by rw [zsum_s (by omega)]; unfold XNf; split <;> omega]
      exact ih (i + 1) (by omega) (by omega)

theorem t_nightsSlept {L d : Nat} {m : zmem} {c : Int} (c0 : 0 ≤ c) (c1 : c < 40) (l0 : 0 ≤ m (64 + 5 * c) 6) (l1 : m (64 + 5 * c) 6 ≤ 7)  : zF L (d) 10 [.inr (.inl (some (64 + 5 * c)))] m (some (.inl (zsum (XNf m c) (m (64 + 5 * c) 6)))) m := by
  refine zF_of n10 (ls := [some (.inr (.inl (some (64 + 5 * c)))), none, none]) rfl ?_
  refine r_iconst f10_0 rfl ?_
  refine r_istore_n f10_1 rfl (ls' := [some (.inr (.inl (some (64 + 5 * c)))), some (.inl 0), none]) rfl ?_
  refine r_iconst f10_2 rfl ?_
  refine r_istore_n f10_3 rfl (ls' := [some (.inr (.inl (some (64 + 5 * c)))), some (.inl 0), some (.inl 0)]) rfl ?_
  refine l_nightsSlept c0 c1 l0 l1 ?_ (m (64 + 5 * c) 6).toNat 0 (by omega) (by omega)
  refine r_iload_n f10_30 rfl ?_
  exact r_iret f10_31 v10 ⟨zs_eq (by first | rfl | omega | (repeat (first | rw [if_pos (by omega)] | rw [if_neg (by omega)]))), rfl⟩

def zcp (m : zmem) (c a i : Int) : zmem := fun p b => if p = 65 + 5 * c ∧ a ≤ b ∧ b < i then m 53 b else m p b
theorem zcp_s {m : zmem} {c a i : Int} (h : a ≤ i) : zu (zcp m c a i) (65 + 5 * c) i (m 53 i) = zcp m c a (i + 1) := by
  funext p b
  rw [zu_if]
  unfold zcp
  by_cases e : p = 65 + 5 * c ∧ b = i
  · rw [if_pos e, if_pos (by omega), e.2]
  · rw [if_neg e]
    by_cases e2 : p = 65 + 5 * c ∧ a ≤ b ∧ b < i
    · rw [if_pos e2, if_pos (by omega)]
    · rw [if_neg e2, if_neg (by omega)]
theorem zcp_0 {m : zmem} {c a i : Int} (h : i ≤ a) : zcp m c a i = m := by
  funext p b
  unfold zcp
  rw [if_neg (by omega)]
theorem zcp_n {m : zmem} {c a i p b : Int} (h : ¬ p = 65 + 5 * c) : zcp m c a i p b = m p b := by
  unfold zcp
  rw [if_neg (by omega)]
theorem l_follow {L d : Nat} {m : zmem} {c : Int} (c0 : 0 ≤ c) (c1 : c < 40) (l0 : 0 ≤ m (64 + 5 * c) 6) (l1 : m (64 + 5 * c) 6 ≤ 7) {a : Int} (a0 : 0 ≤ a) {Q : Option zV → zM → Prop} (hx : zR (d) 2 25 [some (.inr (.inl (some (64 + 5 * c)))), some (.inr (.inl (some 53))), some (.inl a), some (.inl (m (64 + 5 * c) 6))] [] (zem L (zcp m c a (m (64 + 5 * c) 6))) Q) : ∀ (n : Nat) (i : Int), a ≤ i → i + n = m (64 + 5 * c) 6 → zR (d) 2 2 [some (.inr (.inl (some (64 + 5 * c)))), some (.inr (.inl (some 53))), some (.inl a), some (.inl i)] [] (zem L (zcp m c a i)) Q := by
  intro n
  induction n with
  | zero =>
    intro i hi hn
    have ei : i = m (64 + 5 * c) 6 := by omega
    rw [ei]
    refine r_iload_n f2_2 rfl ?_
    refine r_aload_n f2_3 rfl ?_
    refine r_getI f2_4 o2 F0_32 (gC_6 (c := c) (by omega) (by omega)) rfl ?_
    refine r_top (e := m (64 + 5 * c) 6) (zcp_n (by omega)) ?_
    refine r_cge f2_7 (t := 25) (by decide) (fun _ => ?_) (fun h => absurd (by omega) h)
    exact hx
  | succ n ih =>
    intro i hi hn
    refine r_iload_n f2_2 rfl ?_
    refine r_aload_n f2_3 rfl ?_
    refine r_getI f2_4 o2 F0_32 (gC_6 (c := c) (by omega) (by omega)) rfl ?_
    refine r_top (e := m (64 + 5 * c) 6) (zcp_n (by omega)) ?_
    refine r_cge f2_7 (t := 25) (by decide) (fun h => absurd h (by omega)) (fun _ => ?_)
    refine r_aload_n f2_10 rfl ?_
    refine r_getR f2_11 o2 F0_9 (gC_0 (c := c) (by omega) (by omega)) rfl ?_
    refine r_iload_n f2_14 rfl ?_
    refine r_aload_n f2_15 rfl ?_
    refine r_iload_n f2_16 rfl ?_
    refine r_iald f2_17 kd53 (by omega) (by omega) ?_
    refine r_top (e := m 53 i) (zcp_n (by omega)) ?_
    refine r_iast f2_18 (kdC1 (c := c) (by omega) (by omega)) (by omega) (by omega) (by omega) ?_
    refine r_iinc f2_19 rfl rfl rfl (e := i + 1) (by omega) (by omega) (by omega) (ls' := [some (.inr (.inl (some (64 + 5 * c)))), some (.inr (.inl (some 53))), some (.inl a), some (.inl (i + 1))]) rfl ?_
    refine r_goto f2_22 (t := 2) (by decide) ?_
    rw [show (zu (zcp m c a i) (65 + 5 * c) i (m 53 i)) = (zcp m c a (i + 1)) from by exact zcp_s hi]
    exact ih (i + 1) (by omega) (by omega)

theorem t_follow {L d : Nat} {m : zmem} {c : Int} (c0 : 0 ≤ c) (c1 : c < 40) (l0 : 0 ≤ m (64 + 5 * c) 6) (l1 : m (64 + 5 * c) 6 ≤ 7) {a : Int} (a0 : 0 ≤ a) (a1 : a ≤ m (64 + 5 * c) 6) : zF L (d) 2 [.inr (.inl (some (64 + 5 * c))), .inr (.inl (some 53)), .inl a] m none (zcp m c a (m (64 + 5 * c) 6)) := by
  refine zF_of n2 (ls := [some (.inr (.inl (some (64 + 5 * c)))), some (.inr (.inl (some 53))), some (.inl a), none]) rfl ?_
  refine r_iload_n f2_0 rfl ?_
  refine r_istore_n f2_1 rfl (ls' := [some (.inr (.inl (some (64 + 5 * c)))), some (.inr (.inl (some 53))), some (.inl a), some (.inl a)]) rfl ?_
  refine r_mem (m1 := zcp m c a a) (zcp_0 (by omega)) ?_
  refine l_follow c0 c1 l0 l1 a0 ?_ (m (64 + 5 * c) 6 - a).toNat a (by omega) (by omega)
  exact r_vret f2_25 v2 ⟨rfl, rfl⟩

abbrev XB (m : zmem) (c h a b : Int) : Prop := ∃ t, a ≤ t ∧ t ≤ b ∧ XA m c h t
theorem l_isLaidBetween {L d : Nat} {m : zmem} {c : Int} (c0 : 0 ≤ c) (c1 : c < 40) (f0 : 0 ≤ m (64 + 5 * c) 5) (f1 : m (64 + 5 * c) 5 ≤ 39) (l0 : 0 ≤ m (64 + 5 * c) 6) (l1 : m (64 + 5 * c) 6 ≤ 7) (hl : ∀ k, 0 ≤ k → k < 21 → 0 ≤ m (66 + 5 * c) k ∧ m (66 + 5 * c) k ≤ 9) {h a b : Int} (a0 : 0 ≤ a) (b1 : b < 40) (e : Int) (he : (e = 1 ∧ XB m c h a b) ∨ (e = 0 ∧ ¬ XB m c h a b)) : ∀ (n : Nat) (i : Int), a ≤ i → i + n = b + 1 → (∀ t, a ≤ t → t < i → ¬ XA m c h t) → zR (d + 4) 7 3 [some (.inr (.inl (some (64 + 5 * c)))), some (.inl h), some (.inl a), some (.inl b), some (.inl i)] [] (zem L m) (fun r M => r = some (.inl e) ∧ M = zem L m) := by
  intro n
  induction n with
  | zero =>
    intro i hi hn hw
    have hne : ¬ XB m c h a b := fun ⟨t, h1, h2, h3⟩ => hw t h1 (by omega) h3
    have e0 : e = 0 := by
      rcases he with he | he
      · exact absurd he.2 hne
      · exact he.1
    refine r_iload f7_3 rfl ?_
    refine r_iload_n f7_5 rfl ?_
    refine r_cgt f7_6 (t := 27) (by decide) (fun _ => ?_) (fun h => absurd (by omega) h)
    refine r_iconst f7_27 rfl ?_
    exact r_zret f7_28 v7 (by omega) ⟨zs_eq e0.symm, rfl⟩
  | succ n ih =>
    intro i hi hn hw
    refine r_iload f7_3 rfl ?_
    refine r_iload_n f7_5 rfl ?_
    refine r_cgt f7_6 (t := 27) (by decide) (fun h => absurd h (by omega)) (fun _ => ?_)
    refine r_aload_n f7_9 rfl ?_
    refine r_iload_n f7_10 rfl ?_
    refine r_iload f7_11 rfl ?_
    refine r_callv2i f7_13 o7 M0_49 p6 o6 (kdC0 (c := c) (by omega) (by omega)) rfl (by simp) (t_isLaidAt (h := h) (t := i) c0 c1 f0 f1 l0 l1 hl (by omega) (by omega)) ?_
    refine r_ite (fun q1 => ?_) (fun q1 => ?_)
    · refine r_zeq f7_16 (t := 21) (by decide) (fun h => absurd h (by omega)) (fun _ => ?_)
      refine r_iconst f7_19 rfl ?_
      have e0 : e = 1 := by
        rcases he with he | he
        · exact he.1
        · exact absurd ⟨i, hi, by omega, q1⟩ he.2
      exact r_zret f7_20 v7 (by omega) ⟨zs_eq e0.symm, rfl⟩
    · refine r_zeq f7_16 (t := 21) (by decide) (fun _ => ?_) (fun h => absurd (by omega) h)
      refine r_iinc f7_21 rfl rfl rfl (e := i + 1) (by omega) (by omega) (by omega) (ls' := [some (.inr (.inl (some (64 + 5 * c)))), some (.inl h), some (.inl a), some (.inl b), some (.inl (i + 1))]) rfl ?_
      refine r_goto f7_24 (t := 3) (by decide) ?_
      refine ih (i + 1) (by omega) (by omega) (fun t h1 h2 => ?_)
      by_cases ht : t = i
      · rw [ht]; exact q1
      · exact hw t h1 (by omega)
theorem t_isLaidBetween {L d : Nat} {m : zmem} {c : Int} (c0 : 0 ≤ c) (c1 : c < 40) (f0 : 0 ≤ m (64 + 5 * c) 5) (f1 : m (64 + 5 * c) 5 ≤ 39) (l0 : 0 ≤ m (64 + 5 * c) 6) (l1 : m (64 + 5 * c) 6 ≤ 7) (hl : ∀ k, 0 ≤ k → k < 21 → 0 ≤ m (66 + 5 * c) k ∧ m (66 + 5 * c) k ≤ 9) {h a b : Int} (a0 : 0 ≤ a) (a1 : a ≤ b) (b1 : b < 40) (e : Int) (he : (e = 1 ∧ XB m c h a b) ∨ (e = 0 ∧ ¬ XB m c h a b)) : zF L (d + 4) 7 [.inr (.inl (some (64 + 5 * c))), .inl h, .inl a, .inl b] m (some (.inl e)) m := by
  refine zF_of n7 (ls := [some (.inr (.inl (some (64 + 5 * c)))), some (.inl h), some (.inl a), some (.inl b), none]) rfl ?_
  refine r_iload_n f7_0 rfl ?_
  refine r_istore f7_1 rfl (ls' := [some (.inr (.inl (some (64 + 5 * c)))), some (.inl h), some (.inl a), some (.inl b), some (.inl a)]) rfl ?_
  exact l_isLaidBetween c0 c1 f0 f1 l0 l1 hl a0 b1 e he (b + 1 - a).toNat a (by omega) (by omega) (fun t h1 h2 => by omega)

theorem t_didLess {L d : Nat} {m : zmem} {c e : Int} (c0 : 0 ≤ c) (c1 : c < 40) (e0 : 0 ≤ e) (e1 : e < 40) (d0 : 0 ≤ m (64 + 5 * c) 8) (d1 : m (64 + 5 * c) 8 ≤ 400) (d2 : 0 ≤ m (64 + 5 * e) 8) (d3 : m (64 + 5 * e) 8 ≤ 400) (s0 : 0 ≤ m (64 + 5 * c) 4) (s1 : m (64 + 5 * c) 4 ≤ 12) (s2 : 0 ≤ m (64 + 5 * e) 4) (s3 : m (64 + 5 * e) 4 ≤ 12) : zF L (d) 11 [.inr (.inl (some (64 + 5 * c))), .inr (.inl (some (64 + 5 * e)))] m (some (.inl (if m (64 + 5 * c) 8 * m (64 + 5 * e) 4 < m (64 + 5 * e) 8 * m (64 + 5 * c) 4 then 1 else 0))) m := by
  refine zF_of n11 (ls := [some (.inr (.inl (some (64 + 5 * c)))), some (.inr (.inl (some (64 + 5 * e))))]) rfl ?_
  refine r_aload_n f11_0 rfl ?_
  refine r_getI f11_1 o11 F0_53 (gC_8 (c := c) (by omega) (by omega)) rfl ?_
  refine r_aload_n f11_4 rfl ?_
  refine r_getI f11_5 o11 F0_25 (gC_4 (c := e) (by omega) (by omega)) rfl ?_
  refine r_imul f11_8 (e := (m (64 + 5 * c) 8) * (m (64 + 5 * e) 4)) (by have := zmulb (a := m (64 + 5 * c) 8) (b := m (64 + 5 * e) 4) (A := 400) (B := 12) (by omega) (by omega) (by omega) (by omega); omega) (by have := zmulb (a := m (64 + 5 * c) 8) (b := m (64 + 5 * e) 4) (A := 400) (B := 12) (by omega) (by omega) (by omega) (by omega); omega) rfl ?_
  refine r_aload_n f11_9 rfl ?_
  refine r_getI f11_10 o11 F0_53 (gC_8 (c := e) (by omega) (by omega)) rfl ?_
  refine r_aload_n f11_13 rfl ?_
  refine r_getI f11_14 o11 F0_25 (gC_4 (c := c) (by omega) (by omega)) rfl ?_
  refine r_imul f11_17 (e := (m (64 + 5 * e) 8) * (m (64 + 5 * c) 4)) (by have := zmulb (a := m (64 + 5 * e) 8) (b := m (64 + 5 * c) 4) (A := 400) (B := 12) (by omega) (by omega) (by omega) (by omega); omega) (by have := zmulb (a := m (64 + 5 * e) 8) (b := m (64 + 5 * c) 4) (A := 400) (B := 12) (by omega) (by omega) (by omega) (by omega); omega) rfl ?_
  refine r_cge f11_18 (t := 25) (by decide) (fun q1 => ?_) (fun q1 => ?_)
  · refine r_iconst f11_25 rfl ?_
    exact r_zret f11_26 v11 (by omega) ⟨zs_eq (by first | rfl | omega | (repeat (first | rw [if_pos (by omega)] | rw [if_neg (by omega)]))), rfl⟩
  · refine r_iconst f11_21 rfl ?_
    refine r_goto f11_22 (t := 26) (by decide) ?_
    exact r_zret f11_26 v11 (by omega) ⟨zs_eq (by first | rfl | omega | (repeat (first | rw [if_pos (by omega)] | rw [if_neg (by omega)]))), rfl⟩
end
