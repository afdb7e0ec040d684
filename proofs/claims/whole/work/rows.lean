section
-- ===== PART A: goes FIRST, ahead of the names: the tables' words, and 'selects' of the private methods out of them =====
/-- a private method of a class that the tables say can be made, by its rows of tables_1 -/
def lw_okq (q : MethodName × Nat) : Prop := (q.1.cls ≠ "java/lang/invoke/MethodHandle" ∧ q.1.cls ≠ "java/lang/invoke/VarHandle") ∧ Cond.instantiable q.1.cls q.2 ∈ tables_1 ∧ Cond.privateMethod q.1 ∈ tables_1 ∧ Cond.instanceMethod q.1 ∈ tables_1
theorem lw_p0 : lw_okq (⟨"TownAsks", "canComeOn", "(I)Z"⟩, 12) := ⟨⟨by decide +kernel, by decide +kernel⟩, List.mem_of_getElem? (i := 15) (by decide +kernel), List.mem_of_getElem? (i := 284) (by decide +kernel), List.mem_of_getElem? (i := 285) (by decide +kernel)⟩
theorem lw_p1 : lw_okq (⟨"TownAsks", "finding", "(I)I"⟩, 12) := ⟨⟨by decide +kernel, by decide +kernel⟩, List.mem_of_getElem? (i := 15) (by decide +kernel), List.mem_of_getElem? (i := 296) (by decide +kernel), List.mem_of_getElem? (i := 297) (by decide +kernel)⟩
theorem lw_p2 : lw_okq (⟨"TownAsks", "join", "(IIIII)I"⟩, 12) := ⟨⟨by decide +kernel, by decide +kernel⟩, List.mem_of_getElem? (i := 15) (by decide +kernel), List.mem_of_getElem? (i := 301) (by decide +kernel), List.mem_of_getElem? (i := 302) (by decide +kernel)⟩
theorem lw_p3 : lw_okq (⟨"TownAsks", "firstOpenThingFor", "(I)I"⟩, 12) := ⟨⟨by decide +kernel, by decide +kernel⟩, List.mem_of_getElem? (i := 15) (by decide +kernel), List.mem_of_getElem? (i := 309) (by decide +kernel), List.mem_of_getElem? (i := 310) (by decide +kernel)⟩
theorem lw_p4 : lw_okq (⟨"TownAsks", "isAsk", "(I)Z"⟩, 12) := ⟨⟨by decide +kernel, by decide +kernel⟩, List.mem_of_getElem? (i := 15) (by decide +kernel), List.mem_of_getElem? (i := 340) (by decide +kernel), List.mem_of_getElem? (i := 341) (by decide +kernel)⟩
theorem lw_p5 : lw_okq (⟨"TownAsks$Parting", "putFrom", "(II)V"⟩, 4) := ⟨⟨by decide +kernel, by decide +kernel⟩, List.mem_of_getElem? (i := 102) (by decide +kernel), List.mem_of_getElem? (i := 380) (by decide +kernel), List.mem_of_getElem? (i := 381) (by decide +kernel)⟩
theorem lw_p6 : lw_okq (⟨"TownAsks", "isThing", "(I)Z"⟩, 12) := ⟨⟨by decide +kernel, by decide +kernel⟩, List.mem_of_getElem? (i := 15) (by decide +kernel), List.mem_of_getElem? (i := 388) (by decide +kernel), List.mem_of_getElem? (i := 389) (by decide +kernel)⟩
theorem lw_p7 : lw_okq (⟨"TownAsks", "placeDetail", "(II)I"⟩, 12) := ⟨⟨by decide +kernel, by decide +kernel⟩, List.mem_of_getElem? (i := 15) (by decide +kernel), List.mem_of_getElem? (i := 392) (by decide +kernel), List.mem_of_getElem? (i := 393) (by decide +kernel)⟩
theorem lw_p8 : lw_okq (⟨"TownAsks", "stateDetail", "(II)I"⟩, 12) := ⟨⟨by decide +kernel, by decide +kernel⟩, List.mem_of_getElem? (i := 15) (by decide +kernel), List.mem_of_getElem? (i := 396) (by decide +kernel), List.mem_of_getElem? (i := 397) (by decide +kernel)⟩
theorem lw_p9 : lw_okq (⟨"TownAsks", "ownerOf", "(I)I"⟩, 12) := ⟨⟨by decide +kernel, by decide +kernel⟩, List.mem_of_getElem? (i := 15) (by decide +kernel), List.mem_of_getElem? (i := 441) (by decide +kernel), List.mem_of_getElem? (i := 442) (by decide +kernel)⟩
theorem lw_p10 : lw_okq (⟨"TownAsks", "kindOf", "(I)I"⟩, 12) := ⟨⟨by decide +kernel, by decide +kernel⟩, List.mem_of_getElem? (i := 15) (by decide +kernel), List.mem_of_getElem? (i := 445) (by decide +kernel), List.mem_of_getElem? (i := 446) (by decide +kernel)⟩
theorem lw_p11 : lw_okq (⟨"TownAsks$DeskText", "rowFor", "(I)I"⟩, 5) := ⟨⟨by decide +kernel, by decide +kernel⟩, List.mem_of_getElem? (i := 137) (by decide +kernel), List.mem_of_getElem? (i := 453) (by decide +kernel), List.mem_of_getElem? (i := 454) (by decide +kernel)⟩
theorem lw_p12 : lw_okq (⟨"TownAsks$DeskText", "rowForJust", "(I)I"⟩, 5) := ⟨⟨by decide +kernel, by decide +kernel⟩, List.mem_of_getElem? (i := 137) (by decide +kernel), List.mem_of_getElem? (i := 457) (by decide +kernel), List.mem_of_getElem? (i := 458) (by decide +kernel)⟩
theorem lw_p13 : lw_okq (⟨"TownAsks", "quarterOfThing", "(I)I"⟩, 12) := ⟨⟨by decide +kernel, by decide +kernel⟩, List.mem_of_getElem? (i := 15) (by decide +kernel), List.mem_of_getElem? (i := 463) (by decide +kernel), List.mem_of_getElem? (i := 464) (by decide +kernel)⟩
theorem lw_p14 : lw_okq (⟨"TownAsks$DeskText", "nextDesk", "(II)I"⟩, 5) := ⟨⟨by decide +kernel, by decide +kernel⟩, List.mem_of_getElem? (i := 137) (by decide +kernel), List.mem_of_getElem? (i := 476) (by decide +kernel), List.mem_of_getElem? (i := 477) (by decide +kernel)⟩
theorem lw_p15 : lw_okq (⟨"TownAsks", "dayOf", "(I)I"⟩, 12) := ⟨⟨by decide +kernel, by decide +kernel⟩, List.mem_of_getElem? (i := 15) (by decide +kernel), List.mem_of_getElem? (i := 492) (by decide +kernel), List.mem_of_getElem? (i := 493) (by decide +kernel)⟩
def lw_privs_1 : List (MethodName × Nat) := [(⟨"TownAsks", "canComeOn", "(I)Z"⟩, 12), (⟨"TownAsks", "finding", "(I)I"⟩, 12), (⟨"TownAsks", "join", "(IIIII)I"⟩, 12), (⟨"TownAsks", "firstOpenThingFor", "(I)I"⟩, 12), (⟨"TownAsks", "isAsk", "(I)Z"⟩, 12), (⟨"TownAsks$Parting", "putFrom", "(II)V"⟩, 4), (⟨"TownAsks", "isThing", "(I)Z"⟩, 12), (⟨"TownAsks", "placeDetail", "(II)I"⟩, 12), (⟨"TownAsks", "stateDetail", "(II)I"⟩, 12), (⟨"TownAsks", "ownerOf", "(I)I"⟩, 12), (⟨"TownAsks", "kindOf", "(I)I"⟩, 12), (⟨"TownAsks$DeskText", "rowFor", "(I)I"⟩, 5), (⟨"TownAsks$DeskText", "rowForJust", "(I)I"⟩, 5), (⟨"TownAsks", "quarterOfThing", "(I)I"⟩, 12), (⟨"TownAsks$DeskText", "nextDesk", "(II)I"⟩, 5), (⟨"TownAsks", "dayOf", "(I)I"⟩, 12)]
theorem lw_r1 : ∀ q ∈ lw_privs_1, lw_okq q := List.forall_mem_cons.mpr ⟨lw_p0, List.forall_mem_cons.mpr ⟨lw_p1, List.forall_mem_cons.mpr ⟨lw_p2, List.forall_mem_cons.mpr ⟨lw_p3, List.forall_mem_cons.mpr ⟨lw_p4, List.forall_mem_cons.mpr ⟨lw_p5, List.forall_mem_cons.mpr ⟨lw_p6, List.forall_mem_cons.mpr ⟨lw_p7, List.forall_mem_cons.mpr ⟨lw_p8, List.forall_mem_cons.mpr ⟨lw_p9, List.forall_mem_cons.mpr ⟨lw_p10, List.forall_mem_cons.mpr ⟨lw_p11, List.forall_mem_cons.mpr ⟨lw_p12, List.forall_mem_cons.mpr ⟨lw_p13, List.forall_mem_cons.mpr ⟨lw_p14, List.forall_mem_cons.mpr ⟨lw_p15, fun _ h => absurd h List.not_mem_nil⟩⟩⟩⟩⟩⟩⟩⟩⟩⟩⟩⟩⟩⟩⟩⟩
theorem lw_p16 : lw_okq (⟨"TownAsks", "areThings", "(II)Z"⟩, 12) := ⟨⟨by decide +kernel, by decide +kernel⟩, List.mem_of_getElem? (i := 15) (by decide +kernel), List.mem_of_getElem? (i := 512) (by decide +kernel), List.mem_of_getElem? (i := 513) (by decide +kernel)⟩
theorem lw_p17 : lw_okq (⟨"TownAsks", "giveToCrew", "(I)V"⟩, 12) := ⟨⟨by decide +kernel, by decide +kernel⟩, List.mem_of_getElem? (i := 15) (by decide +kernel), List.mem_of_getElem? (i := 527) (by decide +kernel), List.mem_of_getElem? (i := 528) (by decide +kernel)⟩
theorem lw_p18 : lw_okq (⟨"TownAsks$Crew", "goOn", "(IIIIII)V"⟩, 11) := ⟨⟨by decide +kernel, by decide +kernel⟩, List.mem_of_getElem? (i := 160) (by decide +kernel), List.mem_of_getElem? (i := 540) (by decide +kernel), List.mem_of_getElem? (i := 541) (by decide +kernel)⟩
theorem lw_p19 : lw_okq (⟨"TownAsks$Crew", "keepTried", "(II)V"⟩, 11) := ⟨⟨by decide +kernel, by decide +kernel⟩, List.mem_of_getElem? (i := 160) (by decide +kernel), List.mem_of_getElem? (i := 544) (by decide +kernel), List.mem_of_getElem? (i := 545) (by decide +kernel)⟩
theorem lw_p20 : lw_okq (⟨"TownAsks", "thingsIn", "(IZ)I"⟩, 12) := ⟨⟨by decide +kernel, by decide +kernel⟩, List.mem_of_getElem? (i := 15) (by decide +kernel), List.mem_of_getElem? (i := 591) (by decide +kernel), List.mem_of_getElem? (i := 592) (by decide +kernel)⟩
theorem lw_p21 : lw_okq (⟨"TownAsks", "askedOfHundred", "(I)I"⟩, 12) := ⟨⟨by decide +kernel, by decide +kernel⟩, List.mem_of_getElem? (i := 15) (by decide +kernel), List.mem_of_getElem? (i := 599) (by decide +kernel), List.mem_of_getElem? (i := 600) (by decide +kernel)⟩
theorem lw_p22 : lw_okq (⟨"TownAsks", "thingsReckoned", "(I)I"⟩, 12) := ⟨⟨by decide +kernel, by decide +kernel⟩, List.mem_of_getElem? (i := 15) (by decide +kernel), List.mem_of_getElem? (i := 603) (by decide +kernel), List.mem_of_getElem? (i := 604) (by decide +kernel)⟩
theorem lw_p23 : lw_okq (⟨"TownAsks$Sheet", "lowestBits", "(I)I"⟩, 3) := ⟨⟨by decide +kernel, by decide +kernel⟩, List.mem_of_getElem? (i := 218) (by decide +kernel), List.mem_of_getElem? (i := 632) (by decide +kernel), List.mem_of_getElem? (i := 633) (by decide +kernel)⟩
theorem lw_p24 : lw_okq (⟨"TownAsksModel", "latest", "()I"⟩, 41) := ⟨⟨by decide +kernel, by decide +kernel⟩, List.mem_of_getElem? (i := 668) (by decide +kernel), List.mem_of_getElem? (i := 811) (by decide +kernel), List.mem_of_getElem? (i := 812) (by decide +kernel)⟩
theorem lw_p25 : lw_okq (⟨"TownAsksModel", "finding", "(I)I"⟩, 41) := ⟨⟨by decide +kernel, by decide +kernel⟩, List.mem_of_getElem? (i := 668) (by decide +kernel), List.mem_of_getElem? (i := 816) (by decide +kernel), List.mem_of_getElem? (i := 817) (by decide +kernel)⟩
theorem lw_p26 : lw_okq (⟨"TownAsksModel", "comes", "(IIIII)I"⟩, 41) := ⟨⟨by decide +kernel, by decide +kernel⟩, List.mem_of_getElem? (i := 668) (by decide +kernel), List.mem_of_getElem? (i := 821) (by decide +kernel), List.mem_of_getElem? (i := 822) (by decide +kernel)⟩
theorem lw_p27 : lw_okq (⟨"TownAsksModel", "doMeet", "(II)Z"⟩, 41) := ⟨⟨by decide +kernel, by decide +kernel⟩, List.mem_of_getElem? (i := 668) (by decide +kernel), List.mem_of_getElem? (i := 825) (by decide +kernel), List.mem_of_getElem? (i := 826) (by decide +kernel)⟩
theorem lw_p28 : lw_okq (⟨"TownAsksModel", "isAsk", "(I)Z"⟩, 41) := ⟨⟨by decide +kernel, by decide +kernel⟩, List.mem_of_getElem? (i := 668) (by decide +kernel), List.mem_of_getElem? (i := 840) (by decide +kernel), List.mem_of_getElem? (i := 841) (by decide +kernel)⟩
theorem lw_p29 : lw_okq (⟨"TownAsksModel", "isThing", "(I)Z"⟩, 41) := ⟨⟨by decide +kernel, by decide +kernel⟩, List.mem_of_getElem? (i := 668) (by decide +kernel), List.mem_of_getElem? (i := 871) (by decide +kernel), List.mem_of_getElem? (i := 872) (by decide +kernel)⟩
theorem lw_p30 : lw_okq (⟨"TownAsksModel", "asksOf", "(I)I"⟩, 41) := ⟨⟨by decide +kernel, by decide +kernel⟩, List.mem_of_getElem? (i := 668) (by decide +kernel), List.mem_of_getElem? (i := 875) (by decide +kernel), List.mem_of_getElem? (i := 876) (by decide +kernel)⟩
theorem lw_p31 : lw_okq (⟨"TownAsksModel", "fits", "(I)Z"⟩, 41) := ⟨⟨by decide +kernel, by decide +kernel⟩, List.mem_of_getElem? (i := 668) (by decide +kernel), List.mem_of_getElem? (i := 892) (by decide +kernel), List.mem_of_getElem? (i := 893) (by decide +kernel)⟩
def lw_privs_2 : List (MethodName × Nat) := [(⟨"TownAsks", "areThings", "(II)Z"⟩, 12), (⟨"TownAsks", "giveToCrew", "(I)V"⟩, 12), (⟨"TownAsks$Crew", "goOn", "(IIIIII)V"⟩, 11), (⟨"TownAsks$Crew", "keepTried", "(II)V"⟩, 11), (⟨"TownAsks", "thingsIn", "(IZ)I"⟩, 12), (⟨"TownAsks", "askedOfHundred", "(I)I"⟩, 12), (⟨"TownAsks", "thingsReckoned", "(I)I"⟩, 12), (⟨"TownAsks$Sheet", "lowestBits", "(I)I"⟩, 3), (⟨"TownAsksModel", "latest", "()I"⟩, 41), (⟨"TownAsksModel", "finding", "(I)I"⟩, 41), (⟨"TownAsksModel", "comes", "(IIIII)I"⟩, 41), (⟨"TownAsksModel", "doMeet", "(II)Z"⟩, 41), (⟨"TownAsksModel", "isAsk", "(I)Z"⟩, 41), (⟨"TownAsksModel", "isThing", "(I)Z"⟩, 41), (⟨"TownAsksModel", "asksOf", "(I)I"⟩, 41), (⟨"TownAsksModel", "fits", "(I)Z"⟩, 41)]
theorem lw_r2 : ∀ q ∈ lw_privs_2, lw_okq q := List.forall_mem_cons.mpr ⟨lw_p16, List.forall_mem_cons.mpr ⟨lw_p17, List.forall_mem_cons.mpr ⟨lw_p18, List.forall_mem_cons.mpr ⟨lw_p19, List.forall_mem_cons.mpr ⟨lw_p20, List.forall_mem_cons.mpr ⟨lw_p21, List.forall_mem_cons.mpr ⟨lw_p22, List.forall_mem_cons.mpr ⟨lw_p23, List.forall_mem_cons.mpr ⟨lw_p24, List.forall_mem_cons.mpr ⟨lw_p25, List.forall_mem_cons.mpr ⟨lw_p26, List.forall_mem_cons.mpr ⟨lw_p27, List.forall_mem_cons.mpr ⟨lw_p28, List.forall_mem_cons.mpr ⟨lw_p29, List.forall_mem_cons.mpr ⟨lw_p30, List.forall_mem_cons.mpr ⟨lw_p31, fun _ h => absurd h List.not_mem_nil⟩⟩⟩⟩⟩⟩⟩⟩⟩⟩⟩⟩⟩⟩⟩⟩
theorem lw_p32 : lw_okq (⟨"TownAsksModel", "owner", "(I)I"⟩, 41) := ⟨⟨by decide +kernel, by decide +kernel⟩, List.mem_of_getElem? (i := 668) (by decide +kernel), List.mem_of_getElem? (i := 901) (by decide +kernel), List.mem_of_getElem? (i := 902) (by decide +kernel)⟩
theorem lw_p33 : lw_okq (⟨"TownAsksModel", "rowFor", "(I)I"⟩, 41) := ⟨⟨by decide +kernel, by decide +kernel⟩, List.mem_of_getElem? (i := 668) (by decide +kernel), List.mem_of_getElem? (i := 905) (by decide +kernel), List.mem_of_getElem? (i := 906) (by decide +kernel)⟩
theorem lw_p34 : lw_okq (⟨"TownAsksModel", "sends", "(II)I"⟩, 41) := ⟨⟨by decide +kernel, by decide +kernel⟩, List.mem_of_getElem? (i := 668) (by decide +kernel), List.mem_of_getElem? (i := 910) (by decide +kernel), List.mem_of_getElem? (i := 911) (by decide +kernel)⟩
theorem lw_p35 : lw_okq (⟨"TownAsksModel", "promised", "(I)I"⟩, 41) := ⟨⟨by decide +kernel, by decide +kernel⟩, List.mem_of_getElem? (i := 668) (by decide +kernel), List.mem_of_getElem? (i := 919) (by decide +kernel), List.mem_of_getElem? (i := 920) (by decide +kernel)⟩
theorem lw_p36 : lw_okq (⟨"TownAsksModel", "findOrder", "(II)V"⟩, 41) := ⟨⟨by decide +kernel, by decide +kernel⟩, List.mem_of_getElem? (i := 668) (by decide +kernel), List.mem_of_getElem? (i := 935) (by decide +kernel), List.mem_of_getElem? (i := 936) (by decide +kernel)⟩
theorem lw_p37 : lw_okq (⟨"TownAsksModel", "isChosen", "(II)Z"⟩, 41) := ⟨⟨by decide +kernel, by decide +kernel⟩, List.mem_of_getElem? (i := 668) (by decide +kernel), List.mem_of_getElem? (i := 939) (by decide +kernel), List.mem_of_getElem? (i := 940) (by decide +kernel)⟩
theorem lw_p38 : lw_okq (⟨"TownAsksModel", "takes", "(II)V"⟩, 41) := ⟨⟨by decide +kernel, by decide +kernel⟩, List.mem_of_getElem? (i := 668) (by decide +kernel), List.mem_of_getElem? (i := 943) (by decide +kernel), List.mem_of_getElem? (i := 944) (by decide +kernel)⟩
theorem lw_p39 : lw_okq (⟨"TownAsksModel", "openMany", "()I"⟩, 41) := ⟨⟨by decide +kernel, by decide +kernel⟩, List.mem_of_getElem? (i := 668) (by decide +kernel), List.mem_of_getElem? (i := 996) (by decide +kernel), List.mem_of_getElem? (i := 997) (by decide +kernel)⟩
theorem lw_p40 : lw_okq (⟨"TownAsksModel", "allClosings", "()I"⟩, 41) := ⟨⟨by decide +kernel, by decide +kernel⟩, List.mem_of_getElem? (i := 668) (by decide +kernel), List.mem_of_getElem? (i := 1000) (by decide +kernel), List.mem_of_getElem? (i := 1001) (by decide +kernel)⟩
def lw_privs_3 : List (MethodName × Nat) := [(⟨"TownAsksModel", "owner", "(I)I"⟩, 41), (⟨"TownAsksModel", "rowFor", "(I)I"⟩, 41), (⟨"TownAsksModel", "sends", "(II)I"⟩, 41), (⟨"TownAsksModel", "promised", "(I)I"⟩, 41), (⟨"TownAsksModel", "findOrder", "(II)V"⟩, 41), (⟨"TownAsksModel", "isChosen", "(II)Z"⟩, 41), (⟨"TownAsksModel", "takes", "(II)V"⟩, 41), (⟨"TownAsksModel", "openMany", "()I"⟩, 41), (⟨"TownAsksModel", "allClosings", "()I"⟩, 41)]
theorem lw_r3 : ∀ q ∈ lw_privs_3, lw_okq q := List.forall_mem_cons.mpr ⟨lw_p32, List.forall_mem_cons.mpr ⟨lw_p33, List.forall_mem_cons.mpr ⟨lw_p34, List.forall_mem_cons.mpr ⟨lw_p35, List.forall_mem_cons.mpr ⟨lw_p36, List.forall_mem_cons.mpr ⟨lw_p37, List.forall_mem_cons.mpr ⟨lw_p38, List.forall_mem_cons.mpr ⟨lw_p39, List.forall_mem_cons.mpr ⟨lw_p40, fun _ h => absurd h List.not_mem_nil⟩⟩⟩⟩⟩⟩⟩⟩⟩
def lw_privs : List (MethodName × Nat) := lw_privs_1 ++ (lw_privs_2 ++ (lw_privs_3))
def lw_tbl : List Cond := k2_sels lw_privs ++ tables_1
theorem lw_privs_ok : ∀ q ∈ lw_privs, lw_okq q := by
  show ∀ q ∈ lw_privs_1 ++ (lw_privs_2 ++ (lw_privs_3)), lw_okq q
  exact List.forall_mem_append.mpr ⟨lw_r1, List.forall_mem_append.mpr ⟨lw_r2, lw_r3⟩⟩
end
section
def RX0 : String := "TownAsks$Asks"
def TX0 : u_T := fun k => match k with
  | 0 => ("TownAsks$Asks", "kind", "[I", true)
  | 1 => ("TownAsks$Asks", "x", "[I", true)
  | 2 => ("TownAsks$Asks", "y", "[I", true)
  | 3 => ("TownAsks$Asks", "doubt", "[I", true)
  | 4 => ("TownAsks$Asks", "day", "[I", true)
  | 5 => ("TownAsks$Asks", "thing", "[I", true)
  | 6 => ("TownAsks$Asks", "near", "[I", true)
  | 7 => ("TownAsks$Asks", "apart", "[I", true)
  | _ => ("TownAsks$Asks", "count", "I", false)
def tyX0 : Nat → FieldType := fun k => match k with
  | 0 => .array .int
  | 1 => .array .int
  | 2 => .array .int
  | 3 => .array .int
  | 4 => .array .int
  | 5 => .array .int
  | 6 => .array .int
  | 7 => .array .int
  | _ => .int
abbrev wsX00 : List Cond := u_ws RX0 TX0 9
theorem nmX0 : ∀ a, a < 9 → ∀ b, b < 9 → a ≠ b → (TX0 a).2.1 ≠ (TX0 b).2.1 := by decide +kernel
theorem tyX0_ok : ∀ k, k < 9 → parseFieldDescriptor (TX0 k).2.2.1 = some (tyX0 k) := by decide +kernel
abbrev cX0_init : ByteArray := prog_2_method_1_code
def yX0_init : MethodName := ⟨RX0, "<init>", "()V"⟩
abbrev cX0_add : ByteArray := prog_2_method_2_code
def yX0_add : MethodName := ⟨RX0, "add", "(IIIII)I"⟩
abbrev cX0_latestDay : ByteArray := prog_2_method_3_code
def yX0_latestDay : MethodName := ⟨RX0, "latestDay", "()I"⟩
abbrev cX0_areMeeting : ByteArray := prog_2_method_4_code
def yX0_areMeeting : MethodName := ⟨RX0, "areMeeting", "(II)Z"⟩
abbrev cX0_meetsAllOfThing : ByteArray := prog_2_method_5_code
def yX0_meetsAllOfThing : MethodName := ⟨RX0, "meetsAllOfThing", "(II)Z"⟩
abbrev cX0_countOfThing : ByteArray := prog_2_method_6_code
def yX0_countOfThing : MethodName := ⟨RX0, "countOfThing", "(I)I"⟩
abbrev cX0_nthOfThing : ByteArray := prog_2_method_7_code
def yX0_nthOfThing : MethodName := ⟨RX0, "nthOfThing", "(II)I"⟩
abbrev cX0_quarterOfAsk : ByteArray := prog_2_method_8_code
def yX0_quarterOfAsk : MethodName := ⟨RX0, "quarterOfAsk", "(I)I"⟩
abbrev cX0_countIn : ByteArray := prog_2_method_9_code
def yX0_countIn : MethodName := ⟨RX0, "countIn", "(I)I"⟩
abbrev cX0_detail : ByteArray := prog_2_method_10_code
def yX0_detail : MethodName := ⟨RX0, "detail", "(II)I"⟩
def RX1 : String := "TownAsks$Crew"
def TX1 : u_T := fun k => match k with
  | 0 => ("TownAsks$Crew", "thing", "[I", true)
  | 1 => ("TownAsks$Crew", "x", "[I", true)
  | 2 => ("TownAsks$Crew", "y", "[I", true)
  | 3 => ("TownAsks$Crew", "hoursFor", "[I", true)
  | 4 => ("TownAsks$Crew", "due", "[I", true)
  | 5 => ("TownAsks$Crew", "tried", "[I", true)
  | 6 => ("TownAsks$Crew", "best", "[I", true)
  | 7 => ("TownAsks$Crew", "count", "I", false)
  | 8 => ("TownAsks$Crew", "firstDay", "I", false)
  | 9 => ("TownAsks$Crew", "bestBroken", "I", false)
  | _ => ("TownAsks$Crew", "bestHours", "I", false)
def tyX1 : Nat → FieldType := fun k => match k with
  | 0 => .array .int
  | 1 => .array .int
  | 2 => .array .int
  | 3 => .array .int
  | 4 => .array .int
  | 5 => .array .int
  | 6 => .array .int
  | 7 => .int
  | 8 => .int
  | 9 => .int
  | _ => .int
abbrev wsX10 : List Cond := u_ws RX1 TX1 11
theorem nmX1 : ∀ a, a < 11 → ∀ b, b < 11 → a ≠ b → (TX1 a).2.1 ≠ (TX1 b).2.1 := by decide +kernel
theorem tyX1_ok : ∀ k, k < 11 → parseFieldDescriptor (TX1 k).2.2.1 = some (tyX1 k) := by decide +kernel
abbrev cX1_init : ByteArray := prog_3_method_1_code
def yX1_init : MethodName := ⟨RX1, "<init>", "()V"⟩
abbrev cX1_begin : ByteArray := prog_3_method_2_code
def yX1_begin : MethodName := ⟨RX1, "begin", "(I)V"⟩
abbrev cX1_take : ByteArray := prog_3_method_3_code
def yX1_take : MethodName := ⟨RX1, "take", "(IIIII)V"⟩
abbrev cX1_findOrder : ByteArray := prog_3_method_4_code
def yX1_findOrder : MethodName := ⟨RX1, "findOrder", "(II)V"⟩
abbrev cX1_goOn : ByteArray := prog_3_method_5_code
def yX1_goOn : MethodName := ⟨RX1, "goOn", "(IIIIII)V"⟩
abbrev cX1_keepTried : ByteArray := prog_3_method_6_code
def yX1_keepTried : MethodName := ⟨RX1, "keepTried", "(II)V"⟩
abbrev cX1_detail : ByteArray := prog_3_method_7_code
def yX1_detail : MethodName := ⟨RX1, "detail", "(I)I"⟩
def RX2 : String := "TownAsks$DeskText"
def TX2 : u_T := fun k => match k with
  | 0 => ("TownAsks$DeskText", "letter", "[I", true)
  | 1 => ("TownAsks$DeskText", "firstDigit", "[I", true)
  | 2 => ("TownAsks$DeskText", "secondDigit", "[I", true)
  | 3 => ("TownAsks$DeskText", "thirdDigit", "[I", true)
  | _ => ("TownAsks$DeskText", "rows", "I", false)
def tyX2 : Nat → FieldType := fun k => match k with
  | 0 => .array .int
  | 1 => .array .int
  | 2 => .array .int
  | 3 => .array .int
  | _ => .int
abbrev wsX20 : List Cond := u_ws RX2 TX2 5
theorem nmX2 : ∀ a, a < 5 → ∀ b, b < 5 → a ≠ b → (TX2 a).2.1 ≠ (TX2 b).2.1 := by decide +kernel
theorem tyX2_ok : ∀ k, k < 5 → parseFieldDescriptor (TX2 k).2.2.1 = some (tyX2 k) := by decide +kernel
abbrev cX2_init : ByteArray := prog_4_method_1_code
def yX2_init : MethodName := ⟨RX2, "<init>", "()V"⟩
abbrev cX2_wrongPlace : ByteArray := prog_4_method_2_code
def yX2_wrongPlace : MethodName := ⟨RX2, "wrongPlace", "(LTownAsks$Tape;)I"⟩
abbrev cX2_canStand : ByteArray := prog_4_method_3_code
def yX2_canStand : MethodName := ⟨RX2, "canStand", "([II)Z"⟩
abbrev cX2_load : ByteArray := prog_4_method_4_code
def yX2_load : MethodName := ⟨RX2, "load", "(LTownAsks$Tape;)V"⟩
abbrev cX2_firstDeskFor : ByteArray := prog_4_method_5_code
def yX2_firstDeskFor : MethodName := ⟨RX2, "firstDeskFor", "(I)I"⟩
abbrev cX2_daysFor : ByteArray := prog_4_method_6_code
def yX2_daysFor : MethodName := ⟨RX2, "daysFor", "(I)I"⟩
abbrev cX2_rowFor : ByteArray := prog_4_method_7_code
def yX2_rowFor : MethodName := ⟨RX2, "rowFor", "(I)I"⟩
abbrev cX2_rowForJust : ByteArray := prog_4_method_8_code
def yX2_rowForJust : MethodName := ⟨RX2, "rowForJust", "(I)I"⟩
abbrev cX2_nextDesk : ByteArray := prog_4_method_9_code
def yX2_nextDesk : MethodName := ⟨RX2, "nextDesk", "(II)I"⟩
abbrev cX2_rowsGoneBy : ByteArray := prog_4_method_10_code
def yX2_rowsGoneBy : MethodName := ⟨RX2, "rowsGoneBy", "(II)I"⟩
abbrev cX2_lastDeskFrom : ByteArray := prog_4_method_11_code
def yX2_lastDeskFrom : MethodName := ⟨RX2, "lastDeskFrom", "(II)I"⟩
def RX3 : String := "TownAsks$Parting"
def TX3 : u_T := fun k => match k with
  | 0 => ("TownAsks$Parting", "meetingOf", "[I", true)
  | 1 => ("TownAsks$Parting", "setOf", "[I", true)
  | 2 => ("TownAsks$Parting", "count", "I", false)
  | _ => ("TownAsks$Parting", "best", "I", false)
def tyX3 : Nat → FieldType := fun k => match k with
  | 0 => .array .int
  | 1 => .array .int
  | 2 => .int
  | _ => .int
abbrev wsX30 : List Cond := u_ws RX3 TX3 4
theorem nmX3 : ∀ a, a < 4 → ∀ b, b < 4 → a ≠ b → (TX3 a).2.1 ≠ (TX3 b).2.1 := by decide +kernel
theorem tyX3_ok : ∀ k, k < 4 → parseFieldDescriptor (TX3 k).2.2.1 = some (tyX3 k) := by decide +kernel
abbrev cX3_init : ByteArray := prog_5_method_1_code
def yX3_init : MethodName := ⟨RX3, "<init>", "()V"⟩
abbrev cX3_fewestSets : ByteArray := prog_5_method_2_code
def yX3_fewestSets : MethodName := ⟨RX3, "fewestSets", "(LTownAsks$Asks;II)I"⟩
abbrev cX3_putFrom : ByteArray := prog_5_method_3_code
def yX3_putFrom : MethodName := ⟨RX3, "putFrom", "(II)V"⟩
def RX4 : String := "TownAsks$Sheet"
def TX4 : u_T := fun k => match k with
  | 0 => ("TownAsks$Sheet", "numbers", "[I", true)
  | 1 => ("TownAsks$Sheet", "bits", "I", false)
  | _ => ("TownAsks$Sheet", "size", "I", false)
def tyX4 : Nat → FieldType := fun k => match k with
  | 0 => .array .int
  | 1 => .int
  | _ => .int
abbrev wsX40 : List Cond := u_ws RX4 TX4 3
theorem nmX4 : ∀ a, a < 3 → ∀ b, b < 3 → a ≠ b → (TX4 a).2.1 ≠ (TX4 b).2.1 := by decide +kernel
theorem tyX4_ok : ∀ k, k < 3 → parseFieldDescriptor (TX4 k).2.2.1 = some (tyX4 k) := by decide +kernel
abbrev cX4_init : ByteArray := prog_6_method_1_code
def yX4_init : MethodName := ⟨RX4, "<init>", "()V"⟩
abbrev cX4_isMissing : ByteArray := prog_6_method_2_code
def yX4_isMissing : MethodName := ⟨RX4, "isMissing", "()Z"⟩
abbrev cX4_begin : ByteArray := prog_6_method_3_code
def yX4_begin : MethodName := ⟨RX4, "begin", "(II)V"⟩
abbrev cX4_replace : ByteArray := prog_6_method_4_code
def yX4_replace : MethodName := ⟨RX4, "replace", "(II)I"⟩
abbrev cX4_lowestBits : ByteArray := prog_6_method_5_code
def yX4_lowestBits : MethodName := ⟨RX4, "lowestBits", "(I)I"⟩
abbrev cX4_hasRange : ByteArray := prog_6_method_6_code
def yX4_hasRange : MethodName := ⟨RX4, "hasRange", "(II)Z"⟩
abbrev cX4_holdsPlacesAlone : ByteArray := prog_6_method_7_code
def yX4_holdsPlacesAlone : MethodName := ⟨RX4, "holdsPlacesAlone", "()Z"⟩
def RX5 : String := "TownAsks$Tally"
def TX5 : u_T := fun k => match k with
  | 0 => ("TownAsks$Tally", "closed", "[I", true)
  | 1 => ("TownAsks$Tally", "looked", "[I", true)
  | _ => ("TownAsks$Tally", "foundFalse", "[I", true)
def tyX5 : Nat → FieldType := fun k => match k with
  | 0 => .array .int
  | 1 => .array .int
  | _ => .array .int
abbrev wsX50 : List Cond := u_ws RX5 TX5 3
theorem nmX5 : ∀ a, a < 3 → ∀ b, b < 3 → a ≠ b → (TX5 a).2.1 ≠ (TX5 b).2.1 := by decide +kernel
theorem tyX5_ok : ∀ k, k < 3 → parseFieldDescriptor (TX5 k).2.2.1 = some (tyX5 k) := by decide +kernel
abbrev cX5_init : ByteArray := prog_7_method_1_code
def yX5_init : MethodName := ⟨RX5, "<init>", "()V"⟩
abbrev cX5_countLook : ByteArray := prog_7_method_2_code
def yX5_countLook : MethodName := ⟨RX5, "countLook", "(IZ)V"⟩
abbrev cX5_allClosed : ByteArray := prog_7_method_3_code
def yX5_allClosed : MethodName := ⟨RX5, "allClosed", "()I"⟩
abbrev cX5_detail : ByteArray := prog_7_method_4_code
def yX5_detail : MethodName := ⟨RX5, "detail", "(II)I"⟩
def RX6 : String := "TownAsks$Tape"
def TX6 : u_T := fun k => match k with
  | 0 => ("TownAsks$Tape", "signs", "[I", true)
  | _ => ("TownAsks$Tape", "length", "I", false)
def tyX6 : Nat → FieldType := fun k => match k with
  | 0 => .array .int
  | _ => .int
abbrev wsX60 : List Cond := u_ws RX6 TX6 2
theorem nmX6 : ∀ a, a < 2 → ∀ b, b < 2 → a ≠ b → (TX6 a).2.1 ≠ (TX6 b).2.1 := by decide +kernel
theorem tyX6_ok : ∀ k, k < 2 → parseFieldDescriptor (TX6 k).2.2.1 = some (tyX6 k) := by decide +kernel
abbrev cX6_init : ByteArray := prog_8_method_1_code
def yX6_init : MethodName := ⟨RX6, "<init>", "()V"⟩
abbrev cX6_append : ByteArray := prog_8_method_2_code
def yX6_append : MethodName := ⟨RX6, "append", "(JI)V"⟩
def RX7 : String := "TownAsks$Things"
def TX7 : u_T := fun k => match k with
  | 0 => ("TownAsks$Things", "firstAsk", "[I", true)
  | 1 => ("TownAsks$Things", "open", "[Z", true)
  | 2 => ("TownAsks$Things", "timesClosed", "[I", true)
  | 3 => ("TownAsks$Things", "closedDay", "[I", true)
  | 4 => ("TownAsks$Things", "closer", "[I", true)
  | 5 => ("TownAsks$Things", "lookedAt", "[Z", true)
  | _ => ("TownAsks$Things", "count", "I", false)
def tyX7 : Nat → FieldType := fun k => match k with
  | 0 => .array .int
  | 1 => .array .boolean
  | 2 => .array .int
  | 3 => .array .int
  | 4 => .array .int
  | 5 => .array .boolean
  | _ => .int
abbrev wsX70 : List Cond := u_ws RX7 TX7 7
theorem nmX7 : ∀ a, a < 7 → ∀ b, b < 7 → a ≠ b → (TX7 a).2.1 ≠ (TX7 b).2.1 := by decide +kernel
theorem tyX7_ok : ∀ k, k < 7 → parseFieldDescriptor (TX7 k).2.2.1 = some (tyX7 k) := by decide +kernel
abbrev cX7_init : ByteArray := prog_9_method_1_code
def yX7_init : MethodName := ⟨RX7, "<init>", "()V"⟩
abbrev cX7_begin : ByteArray := prog_9_method_2_code
def yX7_begin : MethodName := ⟨RX7, "begin", "(I)I"⟩
abbrev cX7_shut : ByteArray := prog_9_method_3_code
def yX7_shut : MethodName := ⟨RX7, "shut", "(III)V"⟩
abbrev cX7_countOpen : ByteArray := prog_9_method_4_code
def yX7_countOpen : MethodName := ⟨RX7, "countOpen", "()I"⟩
def RX8 : String := "TownAsks"
def TX8 : u_T := fun k => match k with
  | 0 => ("TownAsks", "asks", "LTownAsks$Asks;", true)
  | 1 => ("TownAsks", "things", "LTownAsks$Things;", true)
  | 2 => ("TownAsks", "parting", "LTownAsks$Parting;", true)
  | 3 => ("TownAsks", "tape", "LTownAsks$Tape;", true)
  | 4 => ("TownAsks", "deskText", "LTownAsks$DeskText;", true)
  | 5 => ("TownAsks", "crew", "LTownAsks$Crew;", true)
  | 6 => ("TownAsks", "effortOf", "[I", true)
  | 7 => ("TownAsks", "tally", "LTownAsks$Tally;", true)
  | 8 => ("TownAsks", "walkedSeen", "[I", true)
  | 9 => ("TownAsks", "walkedAsked", "[I", true)
  | 10 => ("TownAsks", "sheets", "[LTownAsks$Sheet;", true)
  | _ => ("TownAsks", "findings", "I", false)
def tyX8 : Nat → FieldType := fun k => match k with
  | 0 => .object "TownAsks$Asks"
  | 1 => .object "TownAsks$Things"
  | 2 => .object "TownAsks$Parting"
  | 3 => .object "TownAsks$Tape"
  | 4 => .object "TownAsks$DeskText"
  | 5 => .object "TownAsks$Crew"
  | 6 => .array .int
  | 7 => .object "TownAsks$Tally"
  | 8 => .array .int
  | 9 => .array .int
  | 10 => .array (.object "TownAsks$Sheet")
  | _ => .int
abbrev wsX80 : List Cond := u_ws RX8 TX8 12
theorem nmX8 : ∀ a, a < 12 → ∀ b, b < 12 → a ≠ b → (TX8 a).2.1 ≠ (TX8 b).2.1 := by decide +kernel
theorem tyX8_ok : ∀ k, k < 12 → parseFieldDescriptor (TX8 k).2.2.1 = some (tyX8 k) := by decide +kernel
abbrev cX8_init : ByteArray := prog_1_method_1_code
def yX8_init : MethodName := ⟨RX8, "<init>", "()V"⟩
abbrev cX8_ask : ByteArray := prog_1_method_2_code
def yX8_ask : MethodName := ⟨RX8, "ask", "(IIIII)I"⟩
abbrev cX8_marks : ByteArray := prog_1_method_3_code
def yX8_marks : MethodName := ⟨RX8, "marks", "(III)I"⟩
abbrev cX8_meet : ByteArray := prog_1_method_4_code
def yX8_meet : MethodName := ⟨RX8, "meet", "(II)I"⟩
abbrev cX8_of : ByteArray := prog_1_method_5_code
def yX8_of : MethodName := ⟨RX8, "of", "(II)I"⟩
abbrev cX8_as : ByteArray := prog_1_method_6_code
def yX8_as : MethodName := ⟨RX8, "as", "(II)I"⟩
abbrev cX8_fewest : ByteArray := prog_1_method_7_code
def yX8_fewest : MethodName := ⟨RX8, "fewest", "(II)I"⟩
abbrev cX8_thing : ByteArray := prog_1_method_8_code
def yX8_thing : MethodName := ⟨RX8, "thing", "(II)I"⟩
abbrev cX8_asked : ByteArray := prog_1_method_9_code
def yX8_asked : MethodName := ⟨RX8, "asked", "(II)I"⟩
abbrev cX8_feed : ByteArray := prog_1_method_10_code
def yX8_feed : MethodName := ⟨RX8, "feed", "(JI)I"⟩
abbrev cX8_text : ByteArray := prog_1_method_11_code
def yX8_text : MethodName := ⟨RX8, "text", "()I"⟩
abbrev cX8_whose : ByteArray := prog_1_method_12_code
def yX8_whose : MethodName := ⟨RX8, "whose", "(I)I"⟩
abbrev cX8_promise : ByteArray := prog_1_method_13_code
def yX8_promise : MethodName := ⟨RX8, "promise", "(I)I"⟩
abbrev cX8_sent : ByteArray := prog_1_method_14_code
def yX8_sent : MethodName := ⟨RX8, "sent", "(I)I"⟩
abbrev cX8_effort : ByteArray := prog_1_method_15_code
def yX8_effort : MethodName := ⟨RX8, "effort", "(II)I"⟩
abbrev cX8_order : ByteArray := prog_1_method_16_code
def yX8_order : MethodName := ⟨RX8, "order", "(IIIII)I"⟩
abbrev cX8_close : ByteArray := prog_1_method_17_code
def yX8_close : MethodName := ⟨RX8, "close", "(II)I"⟩
abbrev cX8_look : ByteArray := prog_1_method_18_code
def yX8_look : MethodName := ⟨RX8, "look", "(IZ)I"⟩
abbrev cX8_closings : ByteArray := prog_1_method_19_code
def yX8_closings : MethodName := ⟨RX8, "closings", "(II)I"⟩
abbrev cX8_walk : ByteArray := prog_1_method_20_code
def yX8_walk : MethodName := ⟨RX8, "walk", "(III)I"⟩
abbrev cX8_quarter : ByteArray := prog_1_method_21_code
def yX8_quarter : MethodName := ⟨RX8, "quarter", "(II)I"⟩
abbrev cX8_sheet : ByteArray := prog_1_method_22_code
def yX8_sheet : MethodName := ⟨RX8, "sheet", "(III)I"⟩
abbrev cX8_write : ByteArray := prog_1_method_23_code
def yX8_write : MethodName := ⟨RX8, "write", "(III)I"⟩
abbrev cX8_copy : ByteArray := prog_1_method_24_code
def yX8_copy : MethodName := ⟨RX8, "copy", "(IIIII)I"⟩
abbrev cX8_read : ByteArray := prog_1_method_25_code
def yX8_read : MethodName := ⟨RX8, "read", "(III)I"⟩
abbrev cX8_told : ByteArray := prog_1_method_26_code
def yX8_told : MethodName := ⟨RX8, "told", "(I)I"⟩
abbrev cX8_finding : ByteArray := prog_1_method_27_code
def yX8_finding : MethodName := ⟨RX8, "finding", "(I)I"⟩
abbrev cX8_within : ByteArray := prog_1_method_28_code
def yX8_within : MethodName := ⟨RX8, "within", "(III)Z"⟩
abbrev cX8_hasBit : ByteArray := prog_1_method_29_code
def yX8_hasBit : MethodName := ⟨RX8, "hasBit", "(II)Z"⟩
abbrev cX8_isKind : ByteArray := prog_1_method_30_code
def yX8_isKind : MethodName := ⟨RX8, "isKind", "(I)Z"⟩
abbrev cX8_isDay : ByteArray := prog_1_method_31_code
def yX8_isDay : MethodName := ⟨RX8, "isDay", "(I)Z"⟩
abbrev cX8_isPlace : ByteArray := prog_1_method_32_code
def yX8_isPlace : MethodName := ⟨RX8, "isPlace", "(I)Z"⟩
abbrev cX8_isQuarter : ByteArray := prog_1_method_33_code
def yX8_isQuarter : MethodName := ⟨RX8, "isQuarter", "(I)Z"⟩
abbrev cX8_isSheet : ByteArray := prog_1_method_34_code
def yX8_isSheet : MethodName := ⟨RX8, "isSheet", "(I)Z"⟩
abbrev cX8_isAsk : ByteArray := prog_1_method_35_code
def yX8_isAsk : MethodName := ⟨RX8, "isAsk", "(I)Z"⟩
abbrev cX8_isThing : ByteArray := prog_1_method_36_code
def yX8_isThing : MethodName := ⟨RX8, "isThing", "(I)Z"⟩
abbrev cX8_canComeOn : ByteArray := prog_1_method_37_code
def yX8_canComeOn : MethodName := ⟨RX8, "canComeOn", "(I)Z"⟩
abbrev cX8_areThings : ByteArray := prog_1_method_38_code
def yX8_areThings : MethodName := ⟨RX8, "areThings", "(II)Z"⟩
abbrev cX8_isOrIsUnder : ByteArray := prog_1_method_39_code
def yX8_isOrIsUnder : MethodName := ⟨RX8, "isOrIsUnder", "(II)Z"⟩
abbrev cX8_quarterAt : ByteArray := prog_1_method_40_code
def yX8_quarterAt : MethodName := ⟨RX8, "quarterAt", "(II)I"⟩
abbrev cX8_far : ByteArray := prog_1_method_41_code
def yX8_far : MethodName := ⟨RX8, "far", "(IIII)I"⟩
abbrev cX8_join : ByteArray := prog_1_method_42_code
def yX8_join : MethodName := ⟨RX8, "join", "(IIIII)I"⟩
abbrev cX8_firstOpenThingFor : ByteArray := prog_1_method_43_code
def yX8_firstOpenThingFor : MethodName := ⟨RX8, "firstOpenThingFor", "(I)I"⟩
abbrev cX8_kindOf : ByteArray := prog_1_method_44_code
def yX8_kindOf : MethodName := ⟨RX8, "kindOf", "(I)I"⟩
abbrev cX8_dayOf : ByteArray := prog_1_method_45_code
def yX8_dayOf : MethodName := ⟨RX8, "dayOf", "(I)I"⟩
abbrev cX8_quarterOfThing : ByteArray := prog_1_method_46_code
def yX8_quarterOfThing : MethodName := ⟨RX8, "quarterOfThing", "(I)I"⟩
abbrev cX8_placeDetail : ByteArray := prog_1_method_47_code
def yX8_placeDetail : MethodName := ⟨RX8, "placeDetail", "(II)I"⟩
abbrev cX8_stateDetail : ByteArray := prog_1_method_48_code
def yX8_stateDetail : MethodName := ⟨RX8, "stateDetail", "(II)I"⟩
abbrev cX8_ownerOf : ByteArray := prog_1_method_49_code
def yX8_ownerOf : MethodName := ⟨RX8, "ownerOf", "(I)I"⟩
abbrev cX8_giveToCrew : ByteArray := prog_1_method_50_code
def yX8_giveToCrew : MethodName := ⟨RX8, "giveToCrew", "(I)V"⟩
abbrev cX8_thingsIn : ByteArray := prog_1_method_51_code
def yX8_thingsIn : MethodName := ⟨RX8, "thingsIn", "(IZ)I"⟩
abbrev cX8_askedOfHundred : ByteArray := prog_1_method_52_code
def yX8_askedOfHundred : MethodName := ⟨RX8, "askedOfHundred", "(I)I"⟩
abbrev cX8_thingsReckoned : ByteArray := prog_1_method_53_code
def yX8_thingsReckoned : MethodName := ⟨RX8, "thingsReckoned", "(I)I"⟩
def RX9 : String := "TownAsksModel"
def TX9 : u_T := fun k => match k with
  | 0 => ("TownAsksModel", "findings", "I", false)
  | 1 => ("TownAsksModel", "asks", "I", false)
  | 2 => ("TownAsksModel", "kinds", "[I", true)
  | 3 => ("TownAsksModel", "xs", "[I", true)
  | 4 => ("TownAsksModel", "ys", "[I", true)
  | 5 => ("TownAsksModel", "doubts", "[I", true)
  | 6 => ("TownAsksModel", "days", "[I", true)
  | 7 => ("TownAsksModel", "thingOf", "[I", true)
  | 8 => ("TownAsksModel", "near", "[I", true)
  | 9 => ("TownAsksModel", "apart", "[I", true)
  | 10 => ("TownAsksModel", "things", "I", false)
  | 11 => ("TownAsksModel", "first", "[I", true)
  | 12 => ("TownAsksModel", "isOpen", "[Z", true)
  | 13 => ("TownAsksModel", "closedTimes", "[I", true)
  | 14 => ("TownAsksModel", "closedOn", "[I", true)
  | 15 => ("TownAsksModel", "closedFor", "[I", true)
  | 16 => ("TownAsksModel", "isLooked", "[Z", true)
  | 17 => ("TownAsksModel", "tapeMany", "I", false)
  | 18 => ("TownAsksModel", "tape", "[I", true)
  | 19 => ("TownAsksModel", "rows", "I", false)
  | 20 => ("TownAsksModel", "text", "[I", true)
  | 21 => ("TownAsksModel", "efforts", "[I", true)
  | 22 => ("TownAsksModel", "closings", "[I", true)
  | 23 => ("TownAsksModel", "looked", "[I", true)
  | 24 => ("TownAsksModel", "falses", "[I", true)
  | 25 => ("TownAsksModel", "seen", "[I", true)
  | 26 => ("TownAsksModel", "askedFor", "[I", true)
  | 27 => ("TownAsksModel", "bits", "[I", true)
  | 28 => ("TownAsksModel", "sizes", "[I", true)
  | 29 => ("TownAsksModel", "numbers", "[I", true)
  | 30 => ("TownAsksModel", "allMeet", "[Z", true)
  | 31 => ("TownAsksModel", "cover", "[I", true)
  | 32 => ("TownAsksModel", "meets", "[I", true)
  | 33 => ("TownAsksModel", "went", "I", false)
  | 34 => ("TownAsksModel", "members", "I", false)
  | 35 => ("TownAsksModel", "member", "[I", true)
  | 36 => ("TownAsksModel", "choice", "[I", true)
  | 37 => ("TownAsksModel", "best", "[I", true)
  | 38 => ("TownAsksModel", "bestBreaks", "I", false)
  | 39 => ("TownAsksModel", "bestHours", "I", false)
  | _ => ("TownAsksModel", "between", "[I", true)
def tyX9 : Nat → FieldType := fun k => match k with
  | 0 => .int
  | 1 => .int
  | 2 => .array .int
  | 3 => .array .int
  | 4 => .array .int
  | 5 => .array .int
  | 6 => .array .int
  | 7 => .array .int
  | 8 => .array .int
  | 9 => .array .int
  | 10 => .int
  | 11 => .array .int
  | 12 => .array .boolean
  | 13 => .array .int
  | 14 => .array .int
  | 15 => .array .int
  | 16 => .array .boolean
  | 17 => .int
  | 18 => .array .int
  | 19 => .int
  | 20 => .array .int
  | 21 => .array .int
  | 22 => .array .int
  | 23 => .array .int
  | 24 => .array .int
  | 25 => .array .int
  | 26 => .array .int
  | 27 => .array .int
  | 28 => .array .int
  | 29 => .array .int
  | 30 => .array .boolean
  | 31 => .array .int
  | 32 => .array .int
  | 33 => .int
  | 34 => .int
  | 35 => .array .int
  | 36 => .array .int
  | 37 => .array .int
  | 38 => .int
  | 39 => .int
  | _ => .array .int
abbrev wsX90 : List Cond := u_ws RX9 TX9 41
theorem nmX9 : ∀ a, a < 41 → ∀ b, b < 41 → a ≠ b → (TX9 a).2.1 ≠ (TX9 b).2.1 := by decide +kernel
theorem tyX9_ok : ∀ k, k < 41 → parseFieldDescriptor (TX9 k).2.2.1 = some (tyX9 k) := by decide +kernel
abbrev cX9_init : ByteArray := prog_11_method_1_code
def yX9_init : MethodName := ⟨RX9, "<init>", "()V"⟩
abbrev cX9_in : ByteArray := prog_11_method_2_code
def yX9_in : MethodName := ⟨RX9, "in", "(III)Z"⟩
abbrev cX9_finding : ByteArray := prog_11_method_3_code
def yX9_finding : MethodName := ⟨RX9, "finding", "(I)I"⟩
abbrev cX9_away : ByteArray := prog_11_method_4_code
def yX9_away : MethodName := ⟨RX9, "away", "(II)I"⟩
abbrev cX9_isKind : ByteArray := prog_11_method_5_code
def yX9_isKind : MethodName := ⟨RX9, "isKind", "(I)Z"⟩
abbrev cX9_isAsk : ByteArray := prog_11_method_6_code
def yX9_isAsk : MethodName := ⟨RX9, "isAsk", "(I)Z"⟩
abbrev cX9_isThing : ByteArray := prog_11_method_7_code
def yX9_isThing : MethodName := ⟨RX9, "isThing", "(I)Z"⟩
abbrev cX9_isDay : ByteArray := prog_11_method_8_code
def yX9_isDay : MethodName := ⟨RX9, "isDay", "(I)Z"⟩
abbrev cX9_above : ByteArray := prog_11_method_9_code
def yX9_above : MethodName := ⟨RX9, "above", "(I)I"⟩
abbrev cX9_isUnder : ByteArray := prog_11_method_10_code
def yX9_isUnder : MethodName := ⟨RX9, "isUnder", "(II)Z"⟩
abbrev cX9_quarterOf : ByteArray := prog_11_method_11_code
def yX9_quarterOf : MethodName := ⟨RX9, "quarterOf", "(II)I"⟩
abbrev cX9_latest : ByteArray := prog_11_method_12_code
def yX9_latest : MethodName := ⟨RX9, "latest", "()I"⟩
abbrev cX9_doMeet : ByteArray := prog_11_method_13_code
def yX9_doMeet : MethodName := ⟨RX9, "doMeet", "(II)Z"⟩
abbrev cX9_comes : ByteArray := prog_11_method_14_code
def yX9_comes : MethodName := ⟨RX9, "comes", "(IIIII)I"⟩
abbrev cX9_ask : ByteArray := prog_11_method_15_code
def yX9_ask : MethodName := ⟨RX9, "ask", "(IIIII)I"⟩
abbrev cX9_marks : ByteArray := prog_11_method_16_code
def yX9_marks : MethodName := ⟨RX9, "marks", "(III)I"⟩
abbrev cX9_meet : ByteArray := prog_11_method_17_code
def yX9_meet : MethodName := ⟨RX9, "meet", "(II)I"⟩
abbrev cX9_of : ByteArray := prog_11_method_18_code
def yX9_of : MethodName := ⟨RX9, "of", "(II)I"⟩
abbrev cX9_as : ByteArray := prog_11_method_19_code
def yX9_as : MethodName := ⟨RX9, "as", "(II)I"⟩
abbrev cX9_fewest : ByteArray := prog_11_method_20_code
def yX9_fewest : MethodName := ⟨RX9, "fewest", "(II)I"⟩
abbrev cX9_asksOf : ByteArray := prog_11_method_21_code
def yX9_asksOf : MethodName := ⟨RX9, "asksOf", "(I)I"⟩
abbrev cX9_thing : ByteArray := prog_11_method_22_code
def yX9_thing : MethodName := ⟨RX9, "thing", "(II)I"⟩
abbrev cX9_asked : ByteArray := prog_11_method_23_code
def yX9_asked : MethodName := ⟨RX9, "asked", "(II)I"⟩
abbrev cX9_feed : ByteArray := prog_11_method_24_code
def yX9_feed : MethodName := ⟨RX9, "feed", "(JI)I"⟩
abbrev cX9_fits : ByteArray := prog_11_method_25_code
def yX9_fits : MethodName := ⟨RX9, "fits", "(I)Z"⟩
abbrev cX9_text : ByteArray := prog_11_method_26_code
def yX9_text : MethodName := ⟨RX9, "text", "()I"⟩
abbrev cX9_rowFor : ByteArray := prog_11_method_27_code
def yX9_rowFor : MethodName := ⟨RX9, "rowFor", "(I)I"⟩
abbrev cX9_sends : ByteArray := prog_11_method_28_code
def yX9_sends : MethodName := ⟨RX9, "sends", "(II)I"⟩
abbrev cX9_owner : ByteArray := prog_11_method_29_code
def yX9_owner : MethodName := ⟨RX9, "owner", "(I)I"⟩
abbrev cX9_whose : ByteArray := prog_11_method_30_code
def yX9_whose : MethodName := ⟨RX9, "whose", "(I)I"⟩
abbrev cX9_promised : ByteArray := prog_11_method_31_code
def yX9_promised : MethodName := ⟨RX9, "promised", "(I)I"⟩
abbrev cX9_promise : ByteArray := prog_11_method_32_code
def yX9_promise : MethodName := ⟨RX9, "promise", "(I)I"⟩
abbrev cX9_sent : ByteArray := prog_11_method_33_code
def yX9_sent : MethodName := ⟨RX9, "sent", "(I)I"⟩
abbrev cX9_effort : ByteArray := prog_11_method_34_code
def yX9_effort : MethodName := ⟨RX9, "effort", "(II)I"⟩
abbrev cX9_isChosen : ByteArray := prog_11_method_35_code
def yX9_isChosen : MethodName := ⟨RX9, "isChosen", "(II)Z"⟩
abbrev cX9_takes : ByteArray := prog_11_method_36_code
def yX9_takes : MethodName := ⟨RX9, "takes", "(II)V"⟩
abbrev cX9_findOrder : ByteArray := prog_11_method_37_code
def yX9_findOrder : MethodName := ⟨RX9, "findOrder", "(II)V"⟩
abbrev cX9_order : ByteArray := prog_11_method_38_code
def yX9_order : MethodName := ⟨RX9, "order", "(IIIII)I"⟩
abbrev cX9_close : ByteArray := prog_11_method_39_code
def yX9_close : MethodName := ⟨RX9, "close", "(II)I"⟩
abbrev cX9_look : ByteArray := prog_11_method_40_code
def yX9_look : MethodName := ⟨RX9, "look", "(IZ)I"⟩
abbrev cX9_closings : ByteArray := prog_11_method_41_code
def yX9_closings : MethodName := ⟨RX9, "closings", "(II)I"⟩
abbrev cX9_walk : ByteArray := prog_11_method_42_code
def yX9_walk : MethodName := ⟨RX9, "walk", "(III)I"⟩
abbrev cX9_quarter : ByteArray := prog_11_method_43_code
def yX9_quarter : MethodName := ⟨RX9, "quarter", "(II)I"⟩
abbrev cX9_isSheet : ByteArray := prog_11_method_44_code
def yX9_isSheet : MethodName := ⟨RX9, "isSheet", "(I)Z"⟩
abbrev cX9_sheet : ByteArray := prog_11_method_45_code
def yX9_sheet : MethodName := ⟨RX9, "sheet", "(III)I"⟩
abbrev cX9_cut : ByteArray := prog_11_method_46_code
def yX9_cut : MethodName := ⟨RX9, "cut", "(II)I"⟩
abbrev cX9_write : ByteArray := prog_11_method_47_code
def yX9_write : MethodName := ⟨RX9, "write", "(III)I"⟩
abbrev cX9_copy : ByteArray := prog_11_method_48_code
def yX9_copy : MethodName := ⟨RX9, "copy", "(IIIII)I"⟩
abbrev cX9_read : ByteArray := prog_11_method_49_code
def yX9_read : MethodName := ⟨RX9, "read", "(III)I"⟩
abbrev cX9_openMany : ByteArray := prog_11_method_50_code
def yX9_openMany : MethodName := ⟨RX9, "openMany", "()I"⟩
abbrev cX9_allClosings : ByteArray := prog_11_method_51_code
def yX9_allClosings : MethodName := ⟨RX9, "allClosings", "()I"⟩
abbrev cX9_told : ByteArray := prog_11_method_52_code
def yX9_told : MethodName := ⟨RX9, "told", "(I)I"⟩
def RJ6 : String := "java/lang/Integer"
def TJ6 : u_T := fun k => match k with
  | _ => ("", "", "", false)
def tyJ6 : Nat → FieldType := fun k => match k with
  | _ => .int
abbrev wsJ60 : List Cond := u_ws RJ6 TJ6 0
theorem nmJ6 : ∀ a, a < 0 → ∀ b, b < 0 → a ≠ b → (TJ6 a).2.1 ≠ (TJ6 b).2.1 := by decide +kernel
theorem tyJ6_ok : ∀ k, k < 0 → parseFieldDescriptor (TJ6 k).2.2.1 = some (tyJ6 k) := by decide +kernel
abbrev cJ6_bitCount_0f7a4 : ByteArray := prog_12_method_49_code
def yJ6_bitCount_0f7a4 : MethodName := ⟨RJ6, "bitCount", "(I)I"⟩
def RJ9 : String := "java/lang/Math"
def TJ9 : u_T := fun k => match k with
  | _ => ("", "", "", false)
def tyJ9 : Nat → FieldType := fun k => match k with
  | _ => .int
abbrev wsJ90 : List Cond := u_ws RJ9 TJ9 0
theorem nmJ9 : ∀ a, a < 0 → ∀ b, b < 0 → a ≠ b → (TJ9 a).2.1 ≠ (TJ9 b).2.1 := by decide +kernel
theorem tyJ9_ok : ∀ k, k < 0 → parseFieldDescriptor (TJ9 k).2.2.1 = some (tyJ9 k) := by decide +kernel
abbrev cJ9_abs_0f7a4 : ByteArray := prog_13_method_59_code
def yJ9_abs_0f7a4 : MethodName := ⟨RJ9, "abs", "(I)I"⟩
def RJ10 : String := "java/lang/System"
def TJ10 : u_T := fun k => match k with
  | _ => ("", "", "", false)
def tyJ10 : Nat → FieldType := fun k => match k with
  | _ => .int
abbrev wsJ100 : List Cond := u_ws RJ10 TJ10 0
theorem nmJ10 : ∀ a, a < 0 → ∀ b, b < 0 → a ≠ b → (TJ10 a).2.1 ≠ (TJ10 b).2.1 := by decide +kernel
theorem tyJ10_ok : ∀ k, k < 0 → parseFieldDescriptor (TJ10 k).2.2.1 = some (tyJ10 k) := by decide +kernel
def RL : String := "TownAsksLaw"
abbrev cL_law : ByteArray := code
def yL_law : MethodName := ⟨RL, "law", "([I)Z"⟩
abbrev vwCl : List vw_C := [(RX0, TX0, 9), (RX1, TX1, 11), (RX2, TX2, 5), (RX3, TX3, 4), (RX4, TX4, 3), (RX5, TX5, 3), (RX6, TX6, 2), (RX7, TX7, 7), (RX8, TX8, 12), (RX9, TX9, 41)]
end
section
theorem dX0_init_0 : decode cX0_init 0 = .ok (.aload_n 0, 1) := by decide +kernel
theorem dX0_init_1 : decode cX0_init 1 = .ok (.invokespecial 3, 3) := by decide +kernel
theorem dX0_init_4 : decode cX0_init 4 = .ok (.aload_n 0, 1) := by decide +kernel
theorem dX0_init_5 : decode cX0_init 5 = .ok (.bipush 40, 2) := by decide +kernel
theorem dX0_init_7 : decode cX0_init 7 = .ok (.newarray .int, 2) := by decide +kernel
theorem dX0_init_9 : decode cX0_init 9 = .ok (.putfield 9, 3) := by decide +kernel
theorem dX0_init_12 : decode cX0_init 12 = .ok (.aload_n 0, 1) := by decide +kernel
theorem dX0_init_13 : decode cX0_init 13 = .ok (.bipush 40, 2) := by decide +kernel
theorem dX0_init_15 : decode cX0_init 15 = .ok (.newarray .int, 2) := by decide +kernel
theorem dX0_init_17 : decode cX0_init 17 = .ok (.putfield 15, 3) := by decide +kernel
theorem dX0_init_20 : decode cX0_init 20 = .ok (.aload_n 0, 1) := by decide +kernel
theorem dX0_init_21 : decode cX0_init 21 = .ok (.bipush 40, 2) := by decide +kernel
theorem dX0_init_23 : decode cX0_init 23 = .ok (.newarray .int, 2) := by decide +kernel
theorem dX0_init_25 : decode cX0_init 25 = .ok (.putfield 18, 3) := by decide +kernel
theorem dX0_init_28 : decode cX0_init 28 = .ok (.aload_n 0, 1) := by decide +kernel
theorem dX0_init_29 : decode cX0_init 29 = .ok (.bipush 40, 2) := by decide +kernel
theorem dX0_init_31 : decode cX0_init 31 = .ok (.newarray .int, 2) := by decide +kernel
theorem dX0_init_33 : decode cX0_init 33 = .ok (.putfield 21, 3) := by decide +kernel
theorem dX0_init_36 : decode cX0_init 36 = .ok (.aload_n 0, 1) := by decide +kernel
theorem dX0_init_37 : decode cX0_init 37 = .ok (.bipush 40, 2) := by decide +kernel
theorem dX0_init_39 : decode cX0_init 39 = .ok (.newarray .int, 2) := by decide +kernel
theorem dX0_init_41 : decode cX0_init 41 = .ok (.putfield 24, 3) := by decide +kernel
theorem dX0_init_44 : decode cX0_init 44 = .ok (.aload_n 0, 1) := by decide +kernel
theorem dX0_init_45 : decode cX0_init 45 = .ok (.bipush 40, 2) := by decide +kernel
theorem dX0_init_47 : decode cX0_init 47 = .ok (.newarray .int, 2) := by decide +kernel
theorem dX0_init_49 : decode cX0_init 49 = .ok (.putfield 27, 3) := by decide +kernel
theorem dX0_init_52 : decode cX0_init 52 = .ok (.aload_n 0, 1) := by decide +kernel
theorem dX0_init_53 : decode cX0_init 53 = .ok (.iconst 5, 1) := by decide +kernel
theorem dX0_init_54 : decode cX0_init 54 = .ok (.newarray .int, 2) := by decide +kernel
theorem dX0_init_56 : decode cX0_init 56 = .ok (.dup, 1) := by decide +kernel
theorem dX0_init_57 : decode cX0_init 57 = .ok (.iconst 0, 1) := by decide +kernel
theorem dX0_init_58 : decode cX0_init 58 = .ok (.iconst 2, 1) := by decide +kernel
theorem dX0_init_59 : decode cX0_init 59 = .ok (.iastore, 1) := by decide +kernel
theorem dX0_init_60 : decode cX0_init 60 = .ok (.dup, 1) := by decide +kernel
theorem dX0_init_61 : decode cX0_init 61 = .ok (.iconst 1, 1) := by decide +kernel
theorem dX0_init_62 : decode cX0_init 62 = .ok (.iconst 2, 1) := by decide +kernel
theorem dX0_init_63 : decode cX0_init 63 = .ok (.iastore, 1) := by decide +kernel
theorem dX0_init_64 : decode cX0_init 64 = .ok (.dup, 1) := by decide +kernel
theorem dX0_init_65 : decode cX0_init 65 = .ok (.iconst 2, 1) := by decide +kernel
theorem dX0_init_66 : decode cX0_init 66 = .ok (.iconst 2, 1) := by decide +kernel
theorem dX0_init_67 : decode cX0_init 67 = .ok (.iastore, 1) := by decide +kernel
theorem dX0_init_68 : decode cX0_init 68 = .ok (.dup, 1) := by decide +kernel
theorem dX0_init_69 : decode cX0_init 69 = .ok (.iconst 3, 1) := by decide +kernel
theorem dX0_init_70 : decode cX0_init 70 = .ok (.iconst 2, 1) := by decide +kernel
theorem dX0_init_71 : decode cX0_init 71 = .ok (.iastore, 1) := by decide +kernel
theorem dX0_init_72 : decode cX0_init 72 = .ok (.dup, 1) := by decide +kernel
theorem dX0_init_73 : decode cX0_init 73 = .ok (.iconst 4, 1) := by decide +kernel
theorem dX0_init_74 : decode cX0_init 74 = .ok (.iconst 2, 1) := by decide +kernel
theorem dX0_init_75 : decode cX0_init 75 = .ok (.iastore, 1) := by decide +kernel
theorem dX0_init_76 : decode cX0_init 76 = .ok (.putfield 30, 3) := by decide +kernel
theorem dX0_init_79 : decode cX0_init 79 = .ok (.aload_n 0, 1) := by decide +kernel
theorem dX0_init_80 : decode cX0_init 80 = .ok (.iconst 5, 1) := by decide +kernel
theorem dX0_init_81 : decode cX0_init 81 = .ok (.newarray .int, 2) := by decide +kernel
theorem dX0_init_83 : decode cX0_init 83 = .ok (.dup, 1) := by decide +kernel
theorem dX0_init_84 : decode cX0_init 84 = .ok (.iconst 0, 1) := by decide +kernel
theorem dX0_init_85 : decode cX0_init 85 = .ok (.bipush 30, 2) := by decide +kernel
theorem dX0_init_87 : decode cX0_init 87 = .ok (.iastore, 1) := by decide +kernel
theorem dX0_init_88 : decode cX0_init 88 = .ok (.dup, 1) := by decide +kernel
theorem dX0_init_89 : decode cX0_init 89 = .ok (.iconst 1, 1) := by decide +kernel
theorem dX0_init_90 : decode cX0_init 90 = .ok (.bipush 30, 2) := by decide +kernel
theorem dX0_init_92 : decode cX0_init 92 = .ok (.iastore, 1) := by decide +kernel
theorem dX0_init_93 : decode cX0_init 93 = .ok (.dup, 1) := by decide +kernel
theorem dX0_init_94 : decode cX0_init 94 = .ok (.iconst 2, 1) := by decide +kernel
theorem dX0_init_95 : decode cX0_init 95 = .ok (.bipush 30, 2) := by decide +kernel
theorem dX0_init_97 : decode cX0_init 97 = .ok (.iastore, 1) := by decide +kernel
theorem dX0_init_98 : decode cX0_init 98 = .ok (.dup, 1) := by decide +kernel
theorem dX0_init_99 : decode cX0_init 99 = .ok (.iconst 3, 1) := by decide +kernel
theorem dX0_init_100 : decode cX0_init 100 = .ok (.bipush 30, 2) := by decide +kernel
theorem dX0_init_102 : decode cX0_init 102 = .ok (.iastore, 1) := by decide +kernel
theorem dX0_init_103 : decode cX0_init 103 = .ok (.dup, 1) := by decide +kernel
theorem dX0_init_104 : decode cX0_init 104 = .ok (.iconst 4, 1) := by decide +kernel
theorem dX0_init_105 : decode cX0_init 105 = .ok (.bipush 30, 2) := by decide +kernel
theorem dX0_init_107 : decode cX0_init 107 = .ok (.iastore, 1) := by decide +kernel
theorem dX0_init_108 : decode cX0_init 108 = .ok (.putfield 33, 3) := by decide +kernel
theorem dX0_init_111 : decode cX0_init 111 = .ok (.aload_n 0, 1) := by decide +kernel
theorem dX0_init_112 : decode cX0_init 112 = .ok (.iconst 0, 1) := by decide +kernel
theorem dX0_init_113 : decode cX0_init 113 = .ok (.putfield 36, 3) := by decide +kernel
theorem dX0_init_116 : decode cX0_init 116 = .ok (.return_, 1) := by decide +kernel
theorem dX0_add_0 : decode cX0_add 0 = .ok (.aload_n 0, 1) := by decide +kernel
theorem dX0_add_1 : decode cX0_add 1 = .ok (.getfield 36, 3) := by decide +kernel
theorem dX0_add_4 : decode cX0_add 4 = .ok (.istore 6, 2) := by decide +kernel
theorem dX0_add_6 : decode cX0_add 6 = .ok (.aload_n 0, 1) := by decide +kernel
theorem dX0_add_7 : decode cX0_add 7 = .ok (.getfield 9, 3) := by decide +kernel
theorem dX0_add_10 : decode cX0_add 10 = .ok (.iload 6, 2) := by decide +kernel
theorem dX0_add_12 : decode cX0_add 12 = .ok (.iload_n 1, 1) := by decide +kernel
theorem dX0_add_13 : decode cX0_add 13 = .ok (.iastore, 1) := by decide +kernel
theorem dX0_add_14 : decode cX0_add 14 = .ok (.aload_n 0, 1) := by decide +kernel
theorem dX0_add_15 : decode cX0_add 15 = .ok (.getfield 15, 3) := by decide +kernel
theorem dX0_add_18 : decode cX0_add 18 = .ok (.iload 6, 2) := by decide +kernel
theorem dX0_add_20 : decode cX0_add 20 = .ok (.iload_n 2, 1) := by decide +kernel
theorem dX0_add_21 : decode cX0_add 21 = .ok (.iastore, 1) := by decide +kernel
theorem dX0_add_22 : decode cX0_add 22 = .ok (.aload_n 0, 1) := by decide +kernel
theorem dX0_add_23 : decode cX0_add 23 = .ok (.getfield 18, 3) := by decide +kernel
theorem dX0_add_26 : decode cX0_add 26 = .ok (.iload 6, 2) := by decide +kernel
theorem dX0_add_28 : decode cX0_add 28 = .ok (.iload_n 3, 1) := by decide +kernel
theorem dX0_add_29 : decode cX0_add 29 = .ok (.iastore, 1) := by decide +kernel
theorem dX0_add_30 : decode cX0_add 30 = .ok (.aload_n 0, 1) := by decide +kernel
theorem dX0_add_31 : decode cX0_add 31 = .ok (.getfield 21, 3) := by decide +kernel
theorem dX0_add_34 : decode cX0_add 34 = .ok (.iload 6, 2) := by decide +kernel
theorem dX0_add_36 : decode cX0_add 36 = .ok (.iload 4, 2) := by decide +kernel
theorem dX0_add_38 : decode cX0_add 38 = .ok (.iastore, 1) := by decide +kernel
theorem dX0_add_39 : decode cX0_add 39 = .ok (.aload_n 0, 1) := by decide +kernel
theorem dX0_add_40 : decode cX0_add 40 = .ok (.getfield 24, 3) := by decide +kernel
theorem dX0_add_43 : decode cX0_add 43 = .ok (.iload 6, 2) := by decide +kernel
theorem dX0_add_45 : decode cX0_add 45 = .ok (.iload 5, 2) := by decide +kernel
theorem dX0_add_47 : decode cX0_add 47 = .ok (.iastore, 1) := by decide +kernel
theorem dX0_add_48 : decode cX0_add 48 = .ok (.aload_n 0, 1) := by decide +kernel
theorem dX0_add_49 : decode cX0_add 49 = .ok (.getfield 27, 3) := by decide +kernel
theorem dX0_add_52 : decode cX0_add 52 = .ok (.iload 6, 2) := by decide +kernel
theorem dX0_add_54 : decode cX0_add 54 = .ok (.iconst (-1), 1) := by decide +kernel
theorem dX0_add_55 : decode cX0_add 55 = .ok (.iastore, 1) := by decide +kernel
theorem dX0_add_56 : decode cX0_add 56 = .ok (.aload_n 0, 1) := by decide +kernel
theorem dX0_add_57 : decode cX0_add 57 = .ok (.dup, 1) := by decide +kernel
theorem dX0_add_58 : decode cX0_add 58 = .ok (.getfield 36, 3) := by decide +kernel
theorem dX0_add_61 : decode cX0_add 61 = .ok (.iconst 1, 1) := by decide +kernel
theorem dX0_add_62 : decode cX0_add 62 = .ok (.iadd, 1) := by decide +kernel
theorem dX0_add_63 : decode cX0_add 63 = .ok (.putfield 36, 3) := by decide +kernel
theorem dX0_add_66 : decode cX0_add 66 = .ok (.iload 6, 2) := by decide +kernel
theorem dX0_add_68 : decode cX0_add 68 = .ok (.ireturn, 1) := by decide +kernel
theorem dX0_latestDay_0 : decode cX0_latestDay 0 = .ok (.aload_n 0, 1) := by decide +kernel
theorem dX0_latestDay_1 : decode cX0_latestDay 1 = .ok (.getfield 36, 3) := by decide +kernel
theorem dX0_latestDay_4 : decode cX0_latestDay 4 = .ok (.ifCond .ne 7, 3) := by decide +kernel
theorem dX0_latestDay_7 : decode cX0_latestDay 7 = .ok (.iconst 0, 1) := by decide +kernel
theorem dX0_latestDay_8 : decode cX0_latestDay 8 = .ok (.goto 14, 3) := by decide +kernel
theorem dX0_latestDay_11 : decode cX0_latestDay 11 = .ok (.aload_n 0, 1) := by decide +kernel
theorem dX0_latestDay_12 : decode cX0_latestDay 12 = .ok (.getfield 24, 3) := by decide +kernel
theorem dX0_latestDay_15 : decode cX0_latestDay 15 = .ok (.aload_n 0, 1) := by decide +kernel
theorem dX0_latestDay_16 : decode cX0_latestDay 16 = .ok (.getfield 36, 3) := by decide +kernel
theorem dX0_latestDay_19 : decode cX0_latestDay 19 = .ok (.iconst 1, 1) := by decide +kernel
theorem dX0_latestDay_20 : decode cX0_latestDay 20 = .ok (.isub, 1) := by decide +kernel
theorem dX0_latestDay_21 : decode cX0_latestDay 21 = .ok (.iaload, 1) := by decide +kernel
theorem dX0_latestDay_22 : decode cX0_latestDay 22 = .ok (.ireturn, 1) := by decide +kernel
theorem dX0_areMeeting_0 : decode cX0_areMeeting 0 = .ok (.aload_n 0, 1) := by decide +kernel
theorem dX0_areMeeting_1 : decode cX0_areMeeting 1 = .ok (.getfield 9, 3) := by decide +kernel
theorem dX0_areMeeting_4 : decode cX0_areMeeting 4 = .ok (.iload_n 1, 1) := by decide +kernel
theorem dX0_areMeeting_5 : decode cX0_areMeeting 5 = .ok (.iaload, 1) := by decide +kernel
theorem dX0_areMeeting_6 : decode cX0_areMeeting 6 = .ok (.aload_n 0, 1) := by decide +kernel
theorem dX0_areMeeting_7 : decode cX0_areMeeting 7 = .ok (.getfield 9, 3) := by decide +kernel
theorem dX0_areMeeting_10 : decode cX0_areMeeting 10 = .ok (.iload_n 2, 1) := by decide +kernel
theorem dX0_areMeeting_11 : decode cX0_areMeeting 11 = .ok (.iaload, 1) := by decide +kernel
theorem dX0_areMeeting_12 : decode cX0_areMeeting 12 = .ok (.if_icmp .eq 5, 3) := by decide +kernel
theorem dX0_areMeeting_15 : decode cX0_areMeeting 15 = .ok (.iconst 0, 1) := by decide +kernel
theorem dX0_areMeeting_16 : decode cX0_areMeeting 16 = .ok (.ireturn, 1) := by decide +kernel
theorem dX0_areMeeting_17 : decode cX0_areMeeting 17 = .ok (.aload_n 0, 1) := by decide +kernel
theorem dX0_areMeeting_18 : decode cX0_areMeeting 18 = .ok (.getfield 30, 3) := by decide +kernel
theorem dX0_areMeeting_21 : decode cX0_areMeeting 21 = .ok (.aload_n 0, 1) := by decide +kernel
theorem dX0_areMeeting_22 : decode cX0_areMeeting 22 = .ok (.getfield 9, 3) := by decide +kernel
theorem dX0_areMeeting_25 : decode cX0_areMeeting 25 = .ok (.iload_n 1, 1) := by decide +kernel
theorem dX0_areMeeting_26 : decode cX0_areMeeting 26 = .ok (.iaload, 1) := by decide +kernel
theorem dX0_areMeeting_27 : decode cX0_areMeeting 27 = .ok (.iaload, 1) := by decide +kernel
theorem dX0_areMeeting_28 : decode cX0_areMeeting 28 = .ok (.aload_n 0, 1) := by decide +kernel
theorem dX0_areMeeting_29 : decode cX0_areMeeting 29 = .ok (.getfield 21, 3) := by decide +kernel
theorem dX0_areMeeting_32 : decode cX0_areMeeting 32 = .ok (.iload_n 1, 1) := by decide +kernel
theorem dX0_areMeeting_33 : decode cX0_areMeeting 33 = .ok (.iaload, 1) := by decide +kernel
theorem dX0_areMeeting_34 : decode cX0_areMeeting 34 = .ok (.iadd, 1) := by decide +kernel
theorem dX0_areMeeting_35 : decode cX0_areMeeting 35 = .ok (.aload_n 0, 1) := by decide +kernel
theorem dX0_areMeeting_36 : decode cX0_areMeeting 36 = .ok (.getfield 21, 3) := by decide +kernel
theorem dX0_areMeeting_39 : decode cX0_areMeeting 39 = .ok (.iload_n 2, 1) := by decide +kernel
theorem dX0_areMeeting_40 : decode cX0_areMeeting 40 = .ok (.iaload, 1) := by decide +kernel
theorem dX0_areMeeting_41 : decode cX0_areMeeting 41 = .ok (.iadd, 1) := by decide +kernel
theorem dX0_areMeeting_42 : decode cX0_areMeeting 42 = .ok (.istore_n 3, 1) := by decide +kernel
theorem dX0_areMeeting_43 : decode cX0_areMeeting 43 = .ok (.aload_n 0, 1) := by decide +kernel
theorem dX0_areMeeting_44 : decode cX0_areMeeting 44 = .ok (.getfield 15, 3) := by decide +kernel
theorem dX0_areMeeting_47 : decode cX0_areMeeting 47 = .ok (.iload_n 1, 1) := by decide +kernel
theorem dX0_areMeeting_48 : decode cX0_areMeeting 48 = .ok (.iaload, 1) := by decide +kernel
theorem dX0_areMeeting_49 : decode cX0_areMeeting 49 = .ok (.aload_n 0, 1) := by decide +kernel
theorem dX0_areMeeting_50 : decode cX0_areMeeting 50 = .ok (.getfield 18, 3) := by decide +kernel
theorem dX0_areMeeting_53 : decode cX0_areMeeting 53 = .ok (.iload_n 1, 1) := by decide +kernel
theorem dX0_areMeeting_54 : decode cX0_areMeeting 54 = .ok (.iaload, 1) := by decide +kernel
theorem dX0_areMeeting_55 : decode cX0_areMeeting 55 = .ok (.aload_n 0, 1) := by decide +kernel
theorem dX0_areMeeting_56 : decode cX0_areMeeting 56 = .ok (.getfield 15, 3) := by decide +kernel
theorem dX0_areMeeting_59 : decode cX0_areMeeting 59 = .ok (.iload_n 2, 1) := by decide +kernel
theorem dX0_areMeeting_60 : decode cX0_areMeeting 60 = .ok (.iaload, 1) := by decide +kernel
theorem dX0_areMeeting_61 : decode cX0_areMeeting 61 = .ok (.aload_n 0, 1) := by decide +kernel
theorem dX0_areMeeting_62 : decode cX0_areMeeting 62 = .ok (.getfield 18, 3) := by decide +kernel
theorem dX0_areMeeting_65 : decode cX0_areMeeting 65 = .ok (.iload_n 2, 1) := by decide +kernel
theorem dX0_areMeeting_66 : decode cX0_areMeeting 66 = .ok (.iaload, 1) := by decide +kernel
theorem dX0_areMeeting_67 : decode cX0_areMeeting 67 = .ok (.invokestatic 40, 3) := by decide +kernel
theorem dX0_areMeeting_70 : decode cX0_areMeeting 70 = .ok (.iload_n 3, 1) := by decide +kernel
theorem dX0_areMeeting_71 : decode cX0_areMeeting 71 = .ok (.if_icmp .gt 37, 3) := by decide +kernel
theorem dX0_areMeeting_74 : decode cX0_areMeeting 74 = .ok (.aload_n 0, 1) := by decide +kernel
theorem dX0_areMeeting_75 : decode cX0_areMeeting 75 = .ok (.getfield 24, 3) := by decide +kernel
theorem dX0_areMeeting_78 : decode cX0_areMeeting 78 = .ok (.iload_n 1, 1) := by decide +kernel
theorem dX0_areMeeting_79 : decode cX0_areMeeting 79 = .ok (.iaload, 1) := by decide +kernel
theorem dX0_areMeeting_80 : decode cX0_areMeeting 80 = .ok (.aload_n 0, 1) := by decide +kernel
theorem dX0_areMeeting_81 : decode cX0_areMeeting 81 = .ok (.getfield 24, 3) := by decide +kernel
theorem dX0_areMeeting_84 : decode cX0_areMeeting 84 = .ok (.iload_n 2, 1) := by decide +kernel
theorem dX0_areMeeting_85 : decode cX0_areMeeting 85 = .ok (.iaload, 1) := by decide +kernel
theorem dX0_areMeeting_86 : decode cX0_areMeeting 86 = .ok (.isub, 1) := by decide +kernel
theorem dX0_areMeeting_87 : decode cX0_areMeeting 87 = .ok (.invokestatic 44, 3) := by decide +kernel
theorem dX0_areMeeting_90 : decode cX0_areMeeting 90 = .ok (.aload_n 0, 1) := by decide +kernel
theorem dX0_areMeeting_91 : decode cX0_areMeeting 91 = .ok (.getfield 33, 3) := by decide +kernel
theorem dX0_areMeeting_94 : decode cX0_areMeeting 94 = .ok (.aload_n 0, 1) := by decide +kernel
theorem dX0_areMeeting_95 : decode cX0_areMeeting 95 = .ok (.getfield 9, 3) := by decide +kernel
theorem dX0_areMeeting_98 : decode cX0_areMeeting 98 = .ok (.iload_n 1, 1) := by decide +kernel
theorem dX0_areMeeting_99 : decode cX0_areMeeting 99 = .ok (.iaload, 1) := by decide +kernel
theorem dX0_areMeeting_100 : decode cX0_areMeeting 100 = .ok (.iaload, 1) := by decide +kernel
theorem dX0_areMeeting_101 : decode cX0_areMeeting 101 = .ok (.if_icmp .gt 7, 3) := by decide +kernel
theorem dX0_areMeeting_104 : decode cX0_areMeeting 104 = .ok (.iconst 1, 1) := by decide +kernel
theorem dX0_areMeeting_105 : decode cX0_areMeeting 105 = .ok (.goto 4, 3) := by decide +kernel
theorem dX0_areMeeting_108 : decode cX0_areMeeting 108 = .ok (.iconst 0, 1) := by decide +kernel
theorem dX0_areMeeting_109 : decode cX0_areMeeting 109 = .ok (.ireturn, 1) := by decide +kernel
theorem dX0_meetsAllOfThing_0 : decode cX0_meetsAllOfThing 0 = .ok (.iconst 0, 1) := by decide +kernel
theorem dX0_meetsAllOfThing_1 : decode cX0_meetsAllOfThing 1 = .ok (.istore_n 3, 1) := by decide +kernel
theorem dX0_meetsAllOfThing_2 : decode cX0_meetsAllOfThing 2 = .ok (.iload_n 3, 1) := by decide +kernel
theorem dX0_meetsAllOfThing_3 : decode cX0_meetsAllOfThing 3 = .ok (.aload_n 0, 1) := by decide +kernel
theorem dX0_meetsAllOfThing_4 : decode cX0_meetsAllOfThing 4 = .ok (.getfield 36, 3) := by decide +kernel
theorem dX0_meetsAllOfThing_7 : decode cX0_meetsAllOfThing 7 = .ok (.if_icmp .ge 30, 3) := by decide +kernel
theorem dX0_meetsAllOfThing_10 : decode cX0_meetsAllOfThing 10 = .ok (.aload_n 0, 1) := by decide +kernel
theorem dX0_meetsAllOfThing_11 : decode cX0_meetsAllOfThing 11 = .ok (.getfield 27, 3) := by decide +kernel
theorem dX0_meetsAllOfThing_14 : decode cX0_meetsAllOfThing 14 = .ok (.iload_n 3, 1) := by decide +kernel
theorem dX0_meetsAllOfThing_15 : decode cX0_meetsAllOfThing 15 = .ok (.iaload, 1) := by decide +kernel
theorem dX0_meetsAllOfThing_16 : decode cX0_meetsAllOfThing 16 = .ok (.iload_n 2, 1) := by decide +kernel
theorem dX0_meetsAllOfThing_17 : decode cX0_meetsAllOfThing 17 = .ok (.if_icmp .ne 14, 3) := by decide +kernel
theorem dX0_meetsAllOfThing_20 : decode cX0_meetsAllOfThing 20 = .ok (.aload_n 0, 1) := by decide +kernel
theorem dX0_meetsAllOfThing_21 : decode cX0_meetsAllOfThing 21 = .ok (.iload_n 3, 1) := by decide +kernel
theorem dX0_meetsAllOfThing_22 : decode cX0_meetsAllOfThing 22 = .ok (.iload_n 1, 1) := by decide +kernel
theorem dX0_meetsAllOfThing_23 : decode cX0_meetsAllOfThing 23 = .ok (.invokevirtual 50, 3) := by decide +kernel
theorem dX0_meetsAllOfThing_26 : decode cX0_meetsAllOfThing 26 = .ok (.ifCond .ne 5, 3) := by decide +kernel
theorem dX0_meetsAllOfThing_29 : decode cX0_meetsAllOfThing 29 = .ok (.iconst 0, 1) := by decide +kernel
theorem dX0_meetsAllOfThing_30 : decode cX0_meetsAllOfThing 30 = .ok (.ireturn, 1) := by decide +kernel
theorem dX0_meetsAllOfThing_31 : decode cX0_meetsAllOfThing 31 = .ok (.iinc 3 1, 3) := by decide +kernel
theorem dX0_meetsAllOfThing_34 : decode cX0_meetsAllOfThing 34 = .ok (.goto (-32), 3) := by decide +kernel
theorem dX0_meetsAllOfThing_37 : decode cX0_meetsAllOfThing 37 = .ok (.iconst 1, 1) := by decide +kernel
theorem dX0_meetsAllOfThing_38 : decode cX0_meetsAllOfThing 38 = .ok (.ireturn, 1) := by decide +kernel
theorem dX0_countOfThing_0 : decode cX0_countOfThing 0 = .ok (.iconst 0, 1) := by decide +kernel
theorem dX0_countOfThing_1 : decode cX0_countOfThing 1 = .ok (.istore_n 2, 1) := by decide +kernel
theorem dX0_countOfThing_2 : decode cX0_countOfThing 2 = .ok (.iconst 0, 1) := by decide +kernel
theorem dX0_countOfThing_3 : decode cX0_countOfThing 3 = .ok (.istore_n 3, 1) := by decide +kernel
theorem dX0_countOfThing_4 : decode cX0_countOfThing 4 = .ok (.iload_n 3, 1) := by decide +kernel
theorem dX0_countOfThing_5 : decode cX0_countOfThing 5 = .ok (.aload_n 0, 1) := by decide +kernel
theorem dX0_countOfThing_6 : decode cX0_countOfThing 6 = .ok (.getfield 36, 3) := by decide +kernel
theorem dX0_countOfThing_9 : decode cX0_countOfThing 9 = .ok (.if_icmp .ge 22, 3) := by decide +kernel
theorem dX0_countOfThing_12 : decode cX0_countOfThing 12 = .ok (.aload_n 0, 1) := by decide +kernel
theorem dX0_countOfThing_13 : decode cX0_countOfThing 13 = .ok (.getfield 27, 3) := by decide +kernel
theorem dX0_countOfThing_16 : decode cX0_countOfThing 16 = .ok (.iload_n 3, 1) := by decide +kernel
theorem dX0_countOfThing_17 : decode cX0_countOfThing 17 = .ok (.iaload, 1) := by decide +kernel
theorem dX0_countOfThing_18 : decode cX0_countOfThing 18 = .ok (.iload_n 1, 1) := by decide +kernel
theorem dX0_countOfThing_19 : decode cX0_countOfThing 19 = .ok (.if_icmp .ne 6, 3) := by decide +kernel
theorem dX0_countOfThing_22 : decode cX0_countOfThing 22 = .ok (.iinc 2 1, 3) := by decide +kernel
theorem dX0_countOfThing_25 : decode cX0_countOfThing 25 = .ok (.iinc 3 1, 3) := by decide +kernel
theorem dX0_countOfThing_28 : decode cX0_countOfThing 28 = .ok (.goto (-24), 3) := by decide +kernel
theorem dX0_countOfThing_31 : decode cX0_countOfThing 31 = .ok (.iload_n 2, 1) := by decide +kernel
theorem dX0_countOfThing_32 : decode cX0_countOfThing 32 = .ok (.ireturn, 1) := by decide +kernel
theorem dX0_nthOfThing_0 : decode cX0_nthOfThing 0 = .ok (.iload_n 2, 1) := by decide +kernel
theorem dX0_nthOfThing_1 : decode cX0_nthOfThing 1 = .ok (.istore_n 3, 1) := by decide +kernel
theorem dX0_nthOfThing_2 : decode cX0_nthOfThing 2 = .ok (.iconst 0, 1) := by decide +kernel
theorem dX0_nthOfThing_3 : decode cX0_nthOfThing 3 = .ok (.istore 4, 2) := by decide +kernel
theorem dX0_nthOfThing_5 : decode cX0_nthOfThing 5 = .ok (.iload 4, 2) := by decide +kernel
theorem dX0_nthOfThing_7 : decode cX0_nthOfThing 7 = .ok (.aload_n 0, 1) := by decide +kernel
theorem dX0_nthOfThing_8 : decode cX0_nthOfThing 8 = .ok (.getfield 36, 3) := by decide +kernel
theorem dX0_nthOfThing_11 : decode cX0_nthOfThing 11 = .ok (.if_icmp .ge 30, 3) := by decide +kernel
theorem dX0_nthOfThing_14 : decode cX0_nthOfThing 14 = .ok (.aload_n 0, 1) := by decide +kernel
theorem dX0_nthOfThing_15 : decode cX0_nthOfThing 15 = .ok (.getfield 27, 3) := by decide +kernel
theorem dX0_nthOfThing_18 : decode cX0_nthOfThing 18 = .ok (.iload 4, 2) := by decide +kernel
theorem dX0_nthOfThing_20 : decode cX0_nthOfThing 20 = .ok (.iaload, 1) := by decide +kernel
theorem dX0_nthOfThing_21 : decode cX0_nthOfThing 21 = .ok (.iload_n 1, 1) := by decide +kernel
theorem dX0_nthOfThing_22 : decode cX0_nthOfThing 22 = .ok (.if_icmp .ne 13, 3) := by decide +kernel
theorem dX0_nthOfThing_25 : decode cX0_nthOfThing 25 = .ok (.iload_n 3, 1) := by decide +kernel
theorem dX0_nthOfThing_26 : decode cX0_nthOfThing 26 = .ok (.ifCond .ne 6, 3) := by decide +kernel
theorem dX0_nthOfThing_29 : decode cX0_nthOfThing 29 = .ok (.iload 4, 2) := by decide +kernel
theorem dX0_nthOfThing_31 : decode cX0_nthOfThing 31 = .ok (.ireturn, 1) := by decide +kernel
theorem dX0_nthOfThing_32 : decode cX0_nthOfThing 32 = .ok (.iinc 3 (-1), 3) := by decide +kernel
theorem dX0_nthOfThing_35 : decode cX0_nthOfThing 35 = .ok (.iinc 4 1, 3) := by decide +kernel
theorem dX0_nthOfThing_38 : decode cX0_nthOfThing 38 = .ok (.goto (-33), 3) := by decide +kernel
theorem dX0_nthOfThing_41 : decode cX0_nthOfThing 41 = .ok (.iconst (-1), 1) := by decide +kernel
theorem dX0_nthOfThing_42 : decode cX0_nthOfThing 42 = .ok (.ireturn, 1) := by decide +kernel
theorem dX0_quarterOfAsk_0 : decode cX0_quarterOfAsk 0 = .ok (.aload_n 0, 1) := by decide +kernel
theorem dX0_quarterOfAsk_1 : decode cX0_quarterOfAsk 1 = .ok (.getfield 15, 3) := by decide +kernel
theorem dX0_quarterOfAsk_4 : decode cX0_quarterOfAsk 4 = .ok (.iload_n 1, 1) := by decide +kernel
theorem dX0_quarterOfAsk_5 : decode cX0_quarterOfAsk 5 = .ok (.iaload, 1) := by decide +kernel
theorem dX0_quarterOfAsk_6 : decode cX0_quarterOfAsk 6 = .ok (.aload_n 0, 1) := by decide +kernel
theorem dX0_quarterOfAsk_7 : decode cX0_quarterOfAsk 7 = .ok (.getfield 18, 3) := by decide +kernel
theorem dX0_quarterOfAsk_10 : decode cX0_quarterOfAsk 10 = .ok (.iload_n 1, 1) := by decide +kernel
theorem dX0_quarterOfAsk_11 : decode cX0_quarterOfAsk 11 = .ok (.iaload, 1) := by decide +kernel
theorem dX0_quarterOfAsk_12 : decode cX0_quarterOfAsk 12 = .ok (.invokestatic 54, 3) := by decide +kernel
theorem dX0_quarterOfAsk_15 : decode cX0_quarterOfAsk 15 = .ok (.ireturn, 1) := by decide +kernel
theorem dX0_countIn_0 : decode cX0_countIn 0 = .ok (.iconst 0, 1) := by decide +kernel
theorem dX0_countIn_1 : decode cX0_countIn 1 = .ok (.istore_n 2, 1) := by decide +kernel
theorem dX0_countIn_2 : decode cX0_countIn 2 = .ok (.iconst 0, 1) := by decide +kernel
theorem dX0_countIn_3 : decode cX0_countIn 3 = .ok (.istore_n 3, 1) := by decide +kernel
theorem dX0_countIn_4 : decode cX0_countIn 4 = .ok (.iload_n 3, 1) := by decide +kernel
theorem dX0_countIn_5 : decode cX0_countIn 5 = .ok (.aload_n 0, 1) := by decide +kernel
theorem dX0_countIn_6 : decode cX0_countIn 6 = .ok (.getfield 36, 3) := by decide +kernel
theorem dX0_countIn_9 : decode cX0_countIn 9 = .ok (.if_icmp .ge 21, 3) := by decide +kernel
theorem dX0_countIn_12 : decode cX0_countIn 12 = .ok (.aload_n 0, 1) := by decide +kernel
theorem dX0_countIn_13 : decode cX0_countIn 13 = .ok (.iload_n 3, 1) := by decide +kernel
theorem dX0_countIn_14 : decode cX0_countIn 14 = .ok (.invokevirtual 58, 3) := by decide +kernel
theorem dX0_countIn_17 : decode cX0_countIn 17 = .ok (.iload_n 1, 1) := by decide +kernel
theorem dX0_countIn_18 : decode cX0_countIn 18 = .ok (.if_icmp .ne 6, 3) := by decide +kernel
theorem dX0_countIn_21 : decode cX0_countIn 21 = .ok (.iinc 2 1, 3) := by decide +kernel
theorem dX0_countIn_24 : decode cX0_countIn 24 = .ok (.iinc 3 1, 3) := by decide +kernel
theorem dX0_countIn_27 : decode cX0_countIn 27 = .ok (.goto (-23), 3) := by decide +kernel
theorem dX0_countIn_30 : decode cX0_countIn 30 = .ok (.iload_n 2, 1) := by decide +kernel
theorem dX0_countIn_31 : decode cX0_countIn 31 = .ok (.ireturn, 1) := by decide +kernel
theorem dX0_detail_0 : decode cX0_detail 0 = .ok (.iload_n 2, 1) := by decide +kernel
theorem dX0_detail_1 : decode cX0_detail 1 = .ok (.tableswitch 81 0 5 #[39, 46, 53, 60, 67, 74], 39) := by decide +kernel
theorem dX0_detail_40 : decode cX0_detail 40 = .ok (.aload_n 0, 1) := by decide +kernel
theorem dX0_detail_41 : decode cX0_detail 41 = .ok (.getfield 9, 3) := by decide +kernel
theorem dX0_detail_44 : decode cX0_detail 44 = .ok (.iload_n 1, 1) := by decide +kernel
theorem dX0_detail_45 : decode cX0_detail 45 = .ok (.iaload, 1) := by decide +kernel
theorem dX0_detail_46 : decode cX0_detail 46 = .ok (.ireturn, 1) := by decide +kernel
theorem dX0_detail_47 : decode cX0_detail 47 = .ok (.aload_n 0, 1) := by decide +kernel
theorem dX0_detail_48 : decode cX0_detail 48 = .ok (.getfield 15, 3) := by decide +kernel
theorem dX0_detail_51 : decode cX0_detail 51 = .ok (.iload_n 1, 1) := by decide +kernel
theorem dX0_detail_52 : decode cX0_detail 52 = .ok (.iaload, 1) := by decide +kernel
theorem dX0_detail_53 : decode cX0_detail 53 = .ok (.ireturn, 1) := by decide +kernel
theorem dX0_detail_54 : decode cX0_detail 54 = .ok (.aload_n 0, 1) := by decide +kernel
theorem dX0_detail_55 : decode cX0_detail 55 = .ok (.getfield 18, 3) := by decide +kernel
theorem dX0_detail_58 : decode cX0_detail 58 = .ok (.iload_n 1, 1) := by decide +kernel
theorem dX0_detail_59 : decode cX0_detail 59 = .ok (.iaload, 1) := by decide +kernel
theorem dX0_detail_60 : decode cX0_detail 60 = .ok (.ireturn, 1) := by decide +kernel
theorem dX0_detail_61 : decode cX0_detail 61 = .ok (.aload_n 0, 1) := by decide +kernel
theorem dX0_detail_62 : decode cX0_detail 62 = .ok (.getfield 21, 3) := by decide +kernel
theorem dX0_detail_65 : decode cX0_detail 65 = .ok (.iload_n 1, 1) := by decide +kernel
theorem dX0_detail_66 : decode cX0_detail 66 = .ok (.iaload, 1) := by decide +kernel
theorem dX0_detail_67 : decode cX0_detail 67 = .ok (.ireturn, 1) := by decide +kernel
theorem dX0_detail_68 : decode cX0_detail 68 = .ok (.aload_n 0, 1) := by decide +kernel
theorem dX0_detail_69 : decode cX0_detail 69 = .ok (.getfield 24, 3) := by decide +kernel
theorem dX0_detail_72 : decode cX0_detail 72 = .ok (.iload_n 1, 1) := by decide +kernel
theorem dX0_detail_73 : decode cX0_detail 73 = .ok (.iaload, 1) := by decide +kernel
theorem dX0_detail_74 : decode cX0_detail 74 = .ok (.ireturn, 1) := by decide +kernel
theorem dX0_detail_75 : decode cX0_detail 75 = .ok (.aload_n 0, 1) := by decide +kernel
theorem dX0_detail_76 : decode cX0_detail 76 = .ok (.getfield 27, 3) := by decide +kernel
theorem dX0_detail_79 : decode cX0_detail 79 = .ok (.iload_n 1, 1) := by decide +kernel
theorem dX0_detail_80 : decode cX0_detail 80 = .ok (.iaload, 1) := by decide +kernel
theorem dX0_detail_81 : decode cX0_detail 81 = .ok (.ireturn, 1) := by decide +kernel
theorem dX0_detail_82 : decode cX0_detail 82 = .ok (.aload_n 0, 1) := by decide +kernel
theorem dX0_detail_83 : decode cX0_detail 83 = .ok (.iload_n 1, 1) := by decide +kernel
theorem dX0_detail_84 : decode cX0_detail 84 = .ok (.invokevirtual 58, 3) := by decide +kernel
theorem dX0_detail_87 : decode cX0_detail 87 = .ok (.ireturn, 1) := by decide +kernel
theorem dX1_init_0 : decode cX1_init 0 = .ok (.aload_n 0, 1) := by decide +kernel
theorem dX1_init_1 : decode cX1_init 1 = .ok (.invokespecial 3, 3) := by decide +kernel
theorem dX1_init_4 : decode cX1_init 4 = .ok (.aload_n 0, 1) := by decide +kernel
theorem dX1_init_5 : decode cX1_init 5 = .ok (.bipush 6, 2) := by decide +kernel
theorem dX1_init_7 : decode cX1_init 7 = .ok (.newarray .int, 2) := by decide +kernel
theorem dX1_init_9 : decode cX1_init 9 = .ok (.putfield 9, 3) := by decide +kernel
theorem dX1_init_12 : decode cX1_init 12 = .ok (.aload_n 0, 1) := by decide +kernel
theorem dX1_init_13 : decode cX1_init 13 = .ok (.bipush 6, 2) := by decide +kernel
theorem dX1_init_15 : decode cX1_init 15 = .ok (.newarray .int, 2) := by decide +kernel
theorem dX1_init_17 : decode cX1_init 17 = .ok (.putfield 15, 3) := by decide +kernel
theorem dX1_init_20 : decode cX1_init 20 = .ok (.aload_n 0, 1) := by decide +kernel
theorem dX1_init_21 : decode cX1_init 21 = .ok (.bipush 6, 2) := by decide +kernel
theorem dX1_init_23 : decode cX1_init 23 = .ok (.newarray .int, 2) := by decide +kernel
theorem dX1_init_25 : decode cX1_init 25 = .ok (.putfield 18, 3) := by decide +kernel
theorem dX1_init_28 : decode cX1_init 28 = .ok (.aload_n 0, 1) := by decide +kernel
theorem dX1_init_29 : decode cX1_init 29 = .ok (.bipush 6, 2) := by decide +kernel
theorem dX1_init_31 : decode cX1_init 31 = .ok (.newarray .int, 2) := by decide +kernel
theorem dX1_init_33 : decode cX1_init 33 = .ok (.putfield 21, 3) := by decide +kernel
theorem dX1_init_36 : decode cX1_init 36 = .ok (.aload_n 0, 1) := by decide +kernel
theorem dX1_init_37 : decode cX1_init 37 = .ok (.bipush 6, 2) := by decide +kernel
theorem dX1_init_39 : decode cX1_init 39 = .ok (.newarray .int, 2) := by decide +kernel
theorem dX1_init_41 : decode cX1_init 41 = .ok (.putfield 24, 3) := by decide +kernel
theorem dX1_init_44 : decode cX1_init 44 = .ok (.aload_n 0, 1) := by decide +kernel
theorem dX1_init_45 : decode cX1_init 45 = .ok (.bipush 6, 2) := by decide +kernel
theorem dX1_init_47 : decode cX1_init 47 = .ok (.newarray .int, 2) := by decide +kernel
theorem dX1_init_49 : decode cX1_init 49 = .ok (.putfield 27, 3) := by decide +kernel
theorem dX1_init_52 : decode cX1_init 52 = .ok (.aload_n 0, 1) := by decide +kernel
theorem dX1_init_53 : decode cX1_init 53 = .ok (.bipush 6, 2) := by decide +kernel
theorem dX1_init_55 : decode cX1_init 55 = .ok (.newarray .int, 2) := by decide +kernel
theorem dX1_init_57 : decode cX1_init 57 = .ok (.putfield 30, 3) := by decide +kernel
theorem dX1_init_60 : decode cX1_init 60 = .ok (.return_, 1) := by decide +kernel
theorem dX1_begin_0 : decode cX1_begin 0 = .ok (.aload_n 0, 1) := by decide +kernel
theorem dX1_begin_1 : decode cX1_begin 1 = .ok (.iconst 0, 1) := by decide +kernel
theorem dX1_begin_2 : decode cX1_begin 2 = .ok (.putfield 33, 3) := by decide +kernel
theorem dX1_begin_5 : decode cX1_begin 5 = .ok (.aload_n 0, 1) := by decide +kernel
theorem dX1_begin_6 : decode cX1_begin 6 = .ok (.iload_n 1, 1) := by decide +kernel
theorem dX1_begin_7 : decode cX1_begin 7 = .ok (.putfield 37, 3) := by decide +kernel
theorem dX1_begin_10 : decode cX1_begin 10 = .ok (.return_, 1) := by decide +kernel
theorem dX1_take_0 : decode cX1_take 0 = .ok (.aload_n 0, 1) := by decide +kernel
theorem dX1_take_1 : decode cX1_take 1 = .ok (.getfield 33, 3) := by decide +kernel
theorem dX1_take_4 : decode cX1_take 4 = .ok (.bipush 6, 2) := by decide +kernel
theorem dX1_take_6 : decode cX1_take 6 = .ok (.if_icmp .ge 65, 3) := by decide +kernel
theorem dX1_take_9 : decode cX1_take 9 = .ok (.aload_n 0, 1) := by decide +kernel
theorem dX1_take_10 : decode cX1_take 10 = .ok (.getfield 9, 3) := by decide +kernel
theorem dX1_take_13 : decode cX1_take 13 = .ok (.aload_n 0, 1) := by decide +kernel
theorem dX1_take_14 : decode cX1_take 14 = .ok (.getfield 33, 3) := by decide +kernel
theorem dX1_take_17 : decode cX1_take 17 = .ok (.iload_n 1, 1) := by decide +kernel
theorem dX1_take_18 : decode cX1_take 18 = .ok (.iastore, 1) := by decide +kernel
theorem dX1_take_19 : decode cX1_take 19 = .ok (.aload_n 0, 1) := by decide +kernel
theorem dX1_take_20 : decode cX1_take 20 = .ok (.getfield 15, 3) := by decide +kernel
theorem dX1_take_23 : decode cX1_take 23 = .ok (.aload_n 0, 1) := by decide +kernel
theorem dX1_take_24 : decode cX1_take 24 = .ok (.getfield 33, 3) := by decide +kernel
theorem dX1_take_27 : decode cX1_take 27 = .ok (.iload_n 2, 1) := by decide +kernel
theorem dX1_take_28 : decode cX1_take 28 = .ok (.iastore, 1) := by decide +kernel
theorem dX1_take_29 : decode cX1_take 29 = .ok (.aload_n 0, 1) := by decide +kernel
theorem dX1_take_30 : decode cX1_take 30 = .ok (.getfield 18, 3) := by decide +kernel
theorem dX1_take_33 : decode cX1_take 33 = .ok (.aload_n 0, 1) := by decide +kernel
theorem dX1_take_34 : decode cX1_take 34 = .ok (.getfield 33, 3) := by decide +kernel
theorem dX1_take_37 : decode cX1_take 37 = .ok (.iload_n 3, 1) := by decide +kernel
theorem dX1_take_38 : decode cX1_take 38 = .ok (.iastore, 1) := by decide +kernel
theorem dX1_take_39 : decode cX1_take 39 = .ok (.aload_n 0, 1) := by decide +kernel
theorem dX1_take_40 : decode cX1_take 40 = .ok (.getfield 21, 3) := by decide +kernel
theorem dX1_take_43 : decode cX1_take 43 = .ok (.aload_n 0, 1) := by decide +kernel
theorem dX1_take_44 : decode cX1_take 44 = .ok (.getfield 33, 3) := by decide +kernel
theorem dX1_take_47 : decode cX1_take 47 = .ok (.iload 4, 2) := by decide +kernel
theorem dX1_take_49 : decode cX1_take 49 = .ok (.iastore, 1) := by decide +kernel
theorem dX1_take_50 : decode cX1_take 50 = .ok (.aload_n 0, 1) := by decide +kernel
theorem dX1_take_51 : decode cX1_take 51 = .ok (.getfield 24, 3) := by decide +kernel
theorem dX1_take_54 : decode cX1_take 54 = .ok (.aload_n 0, 1) := by decide +kernel
theorem dX1_take_55 : decode cX1_take 55 = .ok (.getfield 33, 3) := by decide +kernel
theorem dX1_take_58 : decode cX1_take 58 = .ok (.iload 5, 2) := by decide +kernel
theorem dX1_take_60 : decode cX1_take 60 = .ok (.iastore, 1) := by decide +kernel
theorem dX1_take_61 : decode cX1_take 61 = .ok (.aload_n 0, 1) := by decide +kernel
theorem dX1_take_62 : decode cX1_take 62 = .ok (.dup, 1) := by decide +kernel
theorem dX1_take_63 : decode cX1_take 63 = .ok (.getfield 33, 3) := by decide +kernel
theorem dX1_take_66 : decode cX1_take 66 = .ok (.iconst 1, 1) := by decide +kernel
theorem dX1_take_67 : decode cX1_take 67 = .ok (.iadd, 1) := by decide +kernel
theorem dX1_take_68 : decode cX1_take 68 = .ok (.putfield 33, 3) := by decide +kernel
theorem dX1_take_71 : decode cX1_take 71 = .ok (.return_, 1) := by decide +kernel
theorem dX1_findOrder_0 : decode cX1_findOrder 0 = .ok (.aload_n 0, 1) := by decide +kernel
theorem dX1_findOrder_1 : decode cX1_findOrder 1 = .ok (.aload_n 0, 1) := by decide +kernel
theorem dX1_findOrder_2 : decode cX1_findOrder 2 = .ok (.getfield 33, 3) := by decide +kernel
theorem dX1_findOrder_5 : decode cX1_findOrder 5 = .ok (.iconst 1, 1) := by decide +kernel
theorem dX1_findOrder_6 : decode cX1_findOrder 6 = .ok (.iadd, 1) := by decide +kernel
theorem dX1_findOrder_7 : decode cX1_findOrder 7 = .ok (.putfield 40, 3) := by decide +kernel
theorem dX1_findOrder_10 : decode cX1_findOrder 10 = .ok (.aload_n 0, 1) := by decide +kernel
theorem dX1_findOrder_11 : decode cX1_findOrder 11 = .ok (.iconst 0, 1) := by decide +kernel
theorem dX1_findOrder_12 : decode cX1_findOrder 12 = .ok (.putfield 43, 3) := by decide +kernel
theorem dX1_findOrder_15 : decode cX1_findOrder 15 = .ok (.aload_n 0, 1) := by decide +kernel
theorem dX1_findOrder_16 : decode cX1_findOrder 16 = .ok (.iconst 0, 1) := by decide +kernel
theorem dX1_findOrder_17 : decode cX1_findOrder 17 = .ok (.iconst 0, 1) := by decide +kernel
theorem dX1_findOrder_18 : decode cX1_findOrder 18 = .ok (.iload_n 1, 1) := by decide +kernel
theorem dX1_findOrder_19 : decode cX1_findOrder 19 = .ok (.iload_n 2, 1) := by decide +kernel
theorem dX1_findOrder_20 : decode cX1_findOrder 20 = .ok (.iconst 0, 1) := by decide +kernel
theorem dX1_findOrder_21 : decode cX1_findOrder 21 = .ok (.iconst 0, 1) := by decide +kernel
theorem dX1_findOrder_22 : decode cX1_findOrder 22 = .ok (.invokevirtual 46, 3) := by decide +kernel
theorem dX1_findOrder_25 : decode cX1_findOrder 25 = .ok (.return_, 1) := by decide +kernel
theorem dX1_goOn_0 : decode cX1_goOn 0 = .ok (.iload 6, 2) := by decide +kernel
theorem dX1_goOn_2 : decode cX1_goOn 2 = .ok (.aload_n 0, 1) := by decide +kernel
theorem dX1_goOn_3 : decode cX1_goOn 3 = .ok (.getfield 40, 3) := by decide +kernel
theorem dX1_goOn_6 : decode cX1_goOn 6 = .ok (.if_icmp .gt 21, 3) := by decide +kernel
theorem dX1_goOn_9 : decode cX1_goOn 9 = .ok (.iload 6, 2) := by decide +kernel
theorem dX1_goOn_11 : decode cX1_goOn 11 = .ok (.aload_n 0, 1) := by decide +kernel
theorem dX1_goOn_12 : decode cX1_goOn 12 = .ok (.getfield 40, 3) := by decide +kernel
theorem dX1_goOn_15 : decode cX1_goOn 15 = .ok (.if_icmp .ne 13, 3) := by decide +kernel
theorem dX1_goOn_18 : decode cX1_goOn 18 = .ok (.iload 5, 2) := by decide +kernel
theorem dX1_goOn_20 : decode cX1_goOn 20 = .ok (.aload_n 0, 1) := by decide +kernel
theorem dX1_goOn_21 : decode cX1_goOn 21 = .ok (.getfield 43, 3) := by decide +kernel
theorem dX1_goOn_24 : decode cX1_goOn 24 = .ok (.if_icmp .lt 4, 3) := by decide +kernel
theorem dX1_goOn_27 : decode cX1_goOn 27 = .ok (.return_, 1) := by decide +kernel
theorem dX1_goOn_28 : decode cX1_goOn 28 = .ok (.iload_n 1, 1) := by decide +kernel
theorem dX1_goOn_29 : decode cX1_goOn 29 = .ok (.aload_n 0, 1) := by decide +kernel
theorem dX1_goOn_30 : decode cX1_goOn 30 = .ok (.getfield 33, 3) := by decide +kernel
theorem dX1_goOn_33 : decode cX1_goOn 33 = .ok (.if_icmp .lt 12, 3) := by decide +kernel
theorem dX1_goOn_36 : decode cX1_goOn 36 = .ok (.aload_n 0, 1) := by decide +kernel
theorem dX1_goOn_37 : decode cX1_goOn 37 = .ok (.iload 5, 2) := by decide +kernel
theorem dX1_goOn_39 : decode cX1_goOn 39 = .ok (.iload 6, 2) := by decide +kernel
theorem dX1_goOn_41 : decode cX1_goOn 41 = .ok (.invokevirtual 50, 3) := by decide +kernel
theorem dX1_goOn_44 : decode cX1_goOn 44 = .ok (.return_, 1) := by decide +kernel
theorem dX1_goOn_45 : decode cX1_goOn 45 = .ok (.iconst 0, 1) := by decide +kernel
theorem dX1_goOn_46 : decode cX1_goOn 46 = .ok (.istore 7, 2) := by decide +kernel
theorem dX1_goOn_48 : decode cX1_goOn 48 = .ok (.iload 7, 2) := by decide +kernel
theorem dX1_goOn_50 : decode cX1_goOn 50 = .ok (.aload_n 0, 1) := by decide +kernel
theorem dX1_goOn_51 : decode cX1_goOn 51 = .ok (.getfield 33, 3) := by decide +kernel
theorem dX1_goOn_54 : decode cX1_goOn 54 = .ok (.if_icmp .ge 126, 3) := by decide +kernel
theorem dX1_goOn_57 : decode cX1_goOn 57 = .ok (.iload_n 2, 1) := by decide +kernel
theorem dX1_goOn_58 : decode cX1_goOn 58 = .ok (.iload 7, 2) := by decide +kernel
theorem dX1_goOn_60 : decode cX1_goOn 60 = .ok (.invokestatic 54, 3) := by decide +kernel
theorem dX1_goOn_63 : decode cX1_goOn 63 = .ok (.ifCond .ne 111, 3) := by decide +kernel
theorem dX1_goOn_66 : decode cX1_goOn 66 = .ok (.iload 5, 2) := by decide +kernel
theorem dX1_goOn_68 : decode cX1_goOn 68 = .ok (.iload_n 3, 1) := by decide +kernel
theorem dX1_goOn_69 : decode cX1_goOn 69 = .ok (.iload 4, 2) := by decide +kernel
theorem dX1_goOn_71 : decode cX1_goOn 71 = .ok (.aload_n 0, 1) := by decide +kernel
theorem dX1_goOn_72 : decode cX1_goOn 72 = .ok (.getfield 15, 3) := by decide +kernel
theorem dX1_goOn_75 : decode cX1_goOn 75 = .ok (.iload 7, 2) := by decide +kernel
theorem dX1_goOn_77 : decode cX1_goOn 77 = .ok (.iaload, 1) := by decide +kernel
theorem dX1_goOn_78 : decode cX1_goOn 78 = .ok (.aload_n 0, 1) := by decide +kernel
theorem dX1_goOn_79 : decode cX1_goOn 79 = .ok (.getfield 18, 3) := by decide +kernel
theorem dX1_goOn_82 : decode cX1_goOn 82 = .ok (.iload 7, 2) := by decide +kernel
theorem dX1_goOn_84 : decode cX1_goOn 84 = .ok (.iaload, 1) := by decide +kernel
theorem dX1_goOn_85 : decode cX1_goOn 85 = .ok (.invokestatic 58, 3) := by decide +kernel
theorem dX1_goOn_88 : decode cX1_goOn 88 = .ok (.bipush 8, 2) := by decide +kernel
theorem dX1_goOn_90 : decode cX1_goOn 90 = .ok (.idiv, 1) := by decide +kernel
theorem dX1_goOn_91 : decode cX1_goOn 91 = .ok (.iadd, 1) := by decide +kernel
theorem dX1_goOn_92 : decode cX1_goOn 92 = .ok (.aload_n 0, 1) := by decide +kernel
theorem dX1_goOn_93 : decode cX1_goOn 93 = .ok (.getfield 21, 3) := by decide +kernel
theorem dX1_goOn_96 : decode cX1_goOn 96 = .ok (.iload 7, 2) := by decide +kernel
theorem dX1_goOn_98 : decode cX1_goOn 98 = .ok (.iaload, 1) := by decide +kernel
theorem dX1_goOn_99 : decode cX1_goOn 99 = .ok (.iadd, 1) := by decide +kernel
theorem dX1_goOn_100 : decode cX1_goOn 100 = .ok (.istore 8, 2) := by decide +kernel
theorem dX1_goOn_102 : decode cX1_goOn 102 = .ok (.aload_n 0, 1) := by decide +kernel
theorem dX1_goOn_103 : decode cX1_goOn 103 = .ok (.getfield 37, 3) := by decide +kernel
theorem dX1_goOn_106 : decode cX1_goOn 106 = .ok (.iload 8, 2) := by decide +kernel
theorem dX1_goOn_108 : decode cX1_goOn 108 = .ok (.iconst 1, 1) := by decide +kernel
theorem dX1_goOn_109 : decode cX1_goOn 109 = .ok (.isub, 1) := by decide +kernel
theorem dX1_goOn_110 : decode cX1_goOn 110 = .ok (.bipush 8, 2) := by decide +kernel
theorem dX1_goOn_112 : decode cX1_goOn 112 = .ok (.idiv, 1) := by decide +kernel
theorem dX1_goOn_113 : decode cX1_goOn 113 = .ok (.iadd, 1) := by decide +kernel
theorem dX1_goOn_114 : decode cX1_goOn 114 = .ok (.istore 9, 2) := by decide +kernel
theorem dX1_goOn_116 : decode cX1_goOn 116 = .ok (.aload_n 0, 1) := by decide +kernel
theorem dX1_goOn_117 : decode cX1_goOn 117 = .ok (.getfield 27, 3) := by decide +kernel
theorem dX1_goOn_120 : decode cX1_goOn 120 = .ok (.iload_n 1, 1) := by decide +kernel
theorem dX1_goOn_121 : decode cX1_goOn 121 = .ok (.iload 7, 2) := by decide +kernel
theorem dX1_goOn_123 : decode cX1_goOn 123 = .ok (.iastore, 1) := by decide +kernel
theorem dX1_goOn_124 : decode cX1_goOn 124 = .ok (.aload_n 0, 1) := by decide +kernel
theorem dX1_goOn_125 : decode cX1_goOn 125 = .ok (.iload_n 1, 1) := by decide +kernel
theorem dX1_goOn_126 : decode cX1_goOn 126 = .ok (.iconst 1, 1) := by decide +kernel
theorem dX1_goOn_127 : decode cX1_goOn 127 = .ok (.iadd, 1) := by decide +kernel
theorem dX1_goOn_128 : decode cX1_goOn 128 = .ok (.iload_n 2, 1) := by decide +kernel
theorem dX1_goOn_129 : decode cX1_goOn 129 = .ok (.iconst 1, 1) := by decide +kernel
theorem dX1_goOn_130 : decode cX1_goOn 130 = .ok (.iload 7, 2) := by decide +kernel
theorem dX1_goOn_132 : decode cX1_goOn 132 = .ok (.ishl, 1) := by decide +kernel
theorem dX1_goOn_133 : decode cX1_goOn 133 = .ok (.ior, 1) := by decide +kernel
theorem dX1_goOn_134 : decode cX1_goOn 134 = .ok (.aload_n 0, 1) := by decide +kernel
theorem dX1_goOn_135 : decode cX1_goOn 135 = .ok (.getfield 15, 3) := by decide +kernel
theorem dX1_goOn_138 : decode cX1_goOn 138 = .ok (.iload 7, 2) := by decide +kernel
theorem dX1_goOn_140 : decode cX1_goOn 140 = .ok (.iaload, 1) := by decide +kernel
theorem dX1_goOn_141 : decode cX1_goOn 141 = .ok (.aload_n 0, 1) := by decide +kernel
theorem dX1_goOn_142 : decode cX1_goOn 142 = .ok (.getfield 18, 3) := by decide +kernel
theorem dX1_goOn_145 : decode cX1_goOn 145 = .ok (.iload 7, 2) := by decide +kernel
theorem dX1_goOn_147 : decode cX1_goOn 147 = .ok (.iaload, 1) := by decide +kernel
theorem dX1_goOn_148 : decode cX1_goOn 148 = .ok (.iload 8, 2) := by decide +kernel
theorem dX1_goOn_150 : decode cX1_goOn 150 = .ok (.iload 9, 2) := by decide +kernel
theorem dX1_goOn_152 : decode cX1_goOn 152 = .ok (.aload_n 0, 1) := by decide +kernel
theorem dX1_goOn_153 : decode cX1_goOn 153 = .ok (.getfield 24, 3) := by decide +kernel
theorem dX1_goOn_156 : decode cX1_goOn 156 = .ok (.iload 7, 2) := by decide +kernel
theorem dX1_goOn_158 : decode cX1_goOn 158 = .ok (.iaload, 1) := by decide +kernel
theorem dX1_goOn_159 : decode cX1_goOn 159 = .ok (.if_icmp .le 10, 3) := by decide +kernel
theorem dX1_goOn_162 : decode cX1_goOn 162 = .ok (.iload 6, 2) := by decide +kernel
theorem dX1_goOn_164 : decode cX1_goOn 164 = .ok (.iconst 1, 1) := by decide +kernel
theorem dX1_goOn_165 : decode cX1_goOn 165 = .ok (.iadd, 1) := by decide +kernel
theorem dX1_goOn_166 : decode cX1_goOn 166 = .ok (.goto 5, 3) := by decide +kernel
theorem dX1_goOn_169 : decode cX1_goOn 169 = .ok (.iload 6, 2) := by decide +kernel
theorem dX1_goOn_171 : decode cX1_goOn 171 = .ok (.invokevirtual 46, 3) := by decide +kernel
theorem dX1_goOn_174 : decode cX1_goOn 174 = .ok (.iinc 7 1, 3) := by decide +kernel
theorem dX1_goOn_177 : decode cX1_goOn 177 = .ok (.goto (-129), 3) := by decide +kernel
theorem dX1_goOn_180 : decode cX1_goOn 180 = .ok (.return_, 1) := by decide +kernel
theorem dX1_keepTried_0 : decode cX1_keepTried 0 = .ok (.aload_n 0, 1) := by decide +kernel
theorem dX1_keepTried_1 : decode cX1_keepTried 1 = .ok (.iload_n 2, 1) := by decide +kernel
theorem dX1_keepTried_2 : decode cX1_keepTried 2 = .ok (.putfield 40, 3) := by decide +kernel
theorem dX1_keepTried_5 : decode cX1_keepTried 5 = .ok (.aload_n 0, 1) := by decide +kernel
theorem dX1_keepTried_6 : decode cX1_keepTried 6 = .ok (.iload_n 1, 1) := by decide +kernel
theorem dX1_keepTried_7 : decode cX1_keepTried 7 = .ok (.putfield 43, 3) := by decide +kernel
theorem dX1_keepTried_10 : decode cX1_keepTried 10 = .ok (.iconst 0, 1) := by decide +kernel
theorem dX1_keepTried_11 : decode cX1_keepTried 11 = .ok (.istore_n 3, 1) := by decide +kernel
theorem dX1_keepTried_12 : decode cX1_keepTried 12 = .ok (.iload_n 3, 1) := by decide +kernel
theorem dX1_keepTried_13 : decode cX1_keepTried 13 = .ok (.aload_n 0, 1) := by decide +kernel
theorem dX1_keepTried_14 : decode cX1_keepTried 14 = .ok (.getfield 33, 3) := by decide +kernel
theorem dX1_keepTried_17 : decode cX1_keepTried 17 = .ok (.if_icmp .ge 21, 3) := by decide +kernel
theorem dX1_keepTried_20 : decode cX1_keepTried 20 = .ok (.aload_n 0, 1) := by decide +kernel
theorem dX1_keepTried_21 : decode cX1_keepTried 21 = .ok (.getfield 30, 3) := by decide +kernel
theorem dX1_keepTried_24 : decode cX1_keepTried 24 = .ok (.iload_n 3, 1) := by decide +kernel
theorem dX1_keepTried_25 : decode cX1_keepTried 25 = .ok (.aload_n 0, 1) := by decide +kernel
theorem dX1_keepTried_26 : decode cX1_keepTried 26 = .ok (.getfield 27, 3) := by decide +kernel
theorem dX1_keepTried_29 : decode cX1_keepTried 29 = .ok (.iload_n 3, 1) := by decide +kernel
theorem dX1_keepTried_30 : decode cX1_keepTried 30 = .ok (.iaload, 1) := by decide +kernel
theorem dX1_keepTried_31 : decode cX1_keepTried 31 = .ok (.iastore, 1) := by decide +kernel
theorem dX1_keepTried_32 : decode cX1_keepTried 32 = .ok (.iinc 3 1, 3) := by decide +kernel
theorem dX1_keepTried_35 : decode cX1_keepTried 35 = .ok (.goto (-23), 3) := by decide +kernel
theorem dX1_keepTried_38 : decode cX1_keepTried 38 = .ok (.return_, 1) := by decide +kernel
theorem dX1_detail_0 : decode cX1_detail 0 = .ok (.iload_n 1, 1) := by decide +kernel
theorem dX1_detail_1 : decode cX1_detail 1 = .ok (.lookupswitch 37 #[(0, 27), (1, 32)], 27) := by decide +kernel
theorem dX1_detail_28 : decode cX1_detail 28 = .ok (.aload_n 0, 1) := by decide +kernel
theorem dX1_detail_29 : decode cX1_detail 29 = .ok (.getfield 40, 3) := by decide +kernel
theorem dX1_detail_32 : decode cX1_detail 32 = .ok (.ireturn, 1) := by decide +kernel
theorem dX1_detail_33 : decode cX1_detail 33 = .ok (.aload_n 0, 1) := by decide +kernel
theorem dX1_detail_34 : decode cX1_detail 34 = .ok (.getfield 43, 3) := by decide +kernel
theorem dX1_detail_37 : decode cX1_detail 37 = .ok (.ireturn, 1) := by decide +kernel
theorem dX1_detail_38 : decode cX1_detail 38 = .ok (.iload_n 1, 1) := by decide +kernel
theorem dX1_detail_39 : decode cX1_detail 39 = .ok (.iconst 2, 1) := by decide +kernel
theorem dX1_detail_40 : decode cX1_detail 40 = .ok (.isub, 1) := by decide +kernel
theorem dX1_detail_41 : decode cX1_detail 41 = .ok (.iconst 0, 1) := by decide +kernel
theorem dX1_detail_42 : decode cX1_detail 42 = .ok (.aload_n 0, 1) := by decide +kernel
theorem dX1_detail_43 : decode cX1_detail 43 = .ok (.getfield 33, 3) := by decide +kernel
theorem dX1_detail_46 : decode cX1_detail 46 = .ok (.iconst 1, 1) := by decide +kernel
theorem dX1_detail_47 : decode cX1_detail 47 = .ok (.isub, 1) := by decide +kernel
theorem dX1_detail_48 : decode cX1_detail 48 = .ok (.invokestatic 62, 3) := by decide +kernel
theorem dX1_detail_51 : decode cX1_detail 51 = .ok (.ifCond .eq 19, 3) := by decide +kernel
theorem dX1_detail_54 : decode cX1_detail 54 = .ok (.aload_n 0, 1) := by decide +kernel
theorem dX1_detail_55 : decode cX1_detail 55 = .ok (.getfield 9, 3) := by decide +kernel
theorem dX1_detail_58 : decode cX1_detail 58 = .ok (.aload_n 0, 1) := by decide +kernel
theorem dX1_detail_59 : decode cX1_detail 59 = .ok (.getfield 30, 3) := by decide +kernel
theorem dX1_detail_62 : decode cX1_detail 62 = .ok (.iload_n 1, 1) := by decide +kernel
theorem dX1_detail_63 : decode cX1_detail 63 = .ok (.iconst 2, 1) := by decide +kernel
theorem dX1_detail_64 : decode cX1_detail 64 = .ok (.isub, 1) := by decide +kernel
theorem dX1_detail_65 : decode cX1_detail 65 = .ok (.iaload, 1) := by decide +kernel
theorem dX1_detail_66 : decode cX1_detail 66 = .ok (.iaload, 1) := by decide +kernel
theorem dX1_detail_67 : decode cX1_detail 67 = .ok (.goto 4, 3) := by decide +kernel
theorem dX1_detail_70 : decode cX1_detail 70 = .ok (.iconst (-1), 1) := by decide +kernel
theorem dX1_detail_71 : decode cX1_detail 71 = .ok (.ireturn, 1) := by decide +kernel
theorem dX2_init_0 : decode cX2_init 0 = .ok (.aload_n 0, 1) := by decide +kernel
theorem dX2_init_1 : decode cX2_init 1 = .ok (.invokespecial 3, 3) := by decide +kernel
theorem dX2_init_4 : decode cX2_init 4 = .ok (.aload_n 0, 1) := by decide +kernel
theorem dX2_init_5 : decode cX2_init 5 = .ok (.bipush 12, 2) := by decide +kernel
theorem dX2_init_7 : decode cX2_init 7 = .ok (.newarray .int, 2) := by decide +kernel
theorem dX2_init_9 : decode cX2_init 9 = .ok (.putfield 11, 3) := by decide +kernel
theorem dX2_init_12 : decode cX2_init 12 = .ok (.aload_n 0, 1) := by decide +kernel
theorem dX2_init_13 : decode cX2_init 13 = .ok (.bipush 12, 2) := by decide +kernel
theorem dX2_init_15 : decode cX2_init 15 = .ok (.newarray .int, 2) := by decide +kernel
theorem dX2_init_17 : decode cX2_init 17 = .ok (.putfield 15, 3) := by decide +kernel
theorem dX2_init_20 : decode cX2_init 20 = .ok (.aload_n 0, 1) := by decide +kernel
theorem dX2_init_21 : decode cX2_init 21 = .ok (.bipush 12, 2) := by decide +kernel
theorem dX2_init_23 : decode cX2_init 23 = .ok (.newarray .int, 2) := by decide +kernel
theorem dX2_init_25 : decode cX2_init 25 = .ok (.putfield 18, 3) := by decide +kernel
theorem dX2_init_28 : decode cX2_init 28 = .ok (.aload_n 0, 1) := by decide +kernel
theorem dX2_init_29 : decode cX2_init 29 = .ok (.bipush 12, 2) := by decide +kernel
theorem dX2_init_31 : decode cX2_init 31 = .ok (.newarray .int, 2) := by decide +kernel
theorem dX2_init_33 : decode cX2_init 33 = .ok (.putfield 21, 3) := by decide +kernel
theorem dX2_init_36 : decode cX2_init 36 = .ok (.aload_n 0, 1) := by decide +kernel
theorem dX2_init_37 : decode cX2_init 37 = .ok (.iconst 0, 1) := by decide +kernel
theorem dX2_init_38 : decode cX2_init 38 = .ok (.putfield 24, 3) := by decide +kernel
theorem dX2_init_41 : decode cX2_init 41 = .ok (.return_, 1) := by decide +kernel
theorem dX2_wrongPlace_0 : decode cX2_wrongPlace 0 = .ok (.iconst 0, 1) := by decide +kernel
theorem dX2_wrongPlace_1 : decode cX2_wrongPlace 1 = .ok (.istore_n 2, 1) := by decide +kernel
theorem dX2_wrongPlace_2 : decode cX2_wrongPlace 2 = .ok (.iload_n 2, 1) := by decide +kernel
theorem dX2_wrongPlace_3 : decode cX2_wrongPlace 3 = .ok (.aload_n 1, 1) := by decide +kernel
theorem dX2_wrongPlace_4 : decode cX2_wrongPlace 4 = .ok (.getfield 28, 3) := by decide +kernel
theorem dX2_wrongPlace_7 : decode cX2_wrongPlace 7 = .ok (.if_icmp .ge 28, 3) := by decide +kernel
theorem dX2_wrongPlace_10 : decode cX2_wrongPlace 10 = .ok (.iload_n 2, 1) := by decide +kernel
theorem dX2_wrongPlace_11 : decode cX2_wrongPlace 11 = .ok (.bipush 60, 2) := by decide +kernel
theorem dX2_wrongPlace_13 : decode cX2_wrongPlace 13 = .ok (.if_icmp .ge 14, 3) := by decide +kernel
theorem dX2_wrongPlace_16 : decode cX2_wrongPlace 16 = .ok (.aload_n 1, 1) := by decide +kernel
theorem dX2_wrongPlace_17 : decode cX2_wrongPlace 17 = .ok (.getfield 33, 3) := by decide +kernel
theorem dX2_wrongPlace_20 : decode cX2_wrongPlace 20 = .ok (.iload_n 2, 1) := by decide +kernel
theorem dX2_wrongPlace_21 : decode cX2_wrongPlace 21 = .ok (.invokestatic 36, 3) := by decide +kernel
theorem dX2_wrongPlace_24 : decode cX2_wrongPlace 24 = .ok (.ifCond .ne 5, 3) := by decide +kernel
theorem dX2_wrongPlace_27 : decode cX2_wrongPlace 27 = .ok (.iload_n 2, 1) := by decide +kernel
theorem dX2_wrongPlace_28 : decode cX2_wrongPlace 28 = .ok (.ireturn, 1) := by decide +kernel
theorem dX2_wrongPlace_29 : decode cX2_wrongPlace 29 = .ok (.iinc 2 1, 3) := by decide +kernel
theorem dX2_wrongPlace_32 : decode cX2_wrongPlace 32 = .ok (.goto (-30), 3) := by decide +kernel
theorem dX2_wrongPlace_35 : decode cX2_wrongPlace 35 = .ok (.aload_n 1, 1) := by decide +kernel
theorem dX2_wrongPlace_36 : decode cX2_wrongPlace 36 = .ok (.getfield 28, 3) := by decide +kernel
theorem dX2_wrongPlace_39 : decode cX2_wrongPlace 39 = .ok (.iconst 5, 1) := by decide +kernel
theorem dX2_wrongPlace_40 : decode cX2_wrongPlace 40 = .ok (.irem, 1) := by decide +kernel
theorem dX2_wrongPlace_41 : decode cX2_wrongPlace 41 = .ok (.ifCond .ne 7, 3) := by decide +kernel
theorem dX2_wrongPlace_44 : decode cX2_wrongPlace 44 = .ok (.iconst (-1), 1) := by decide +kernel
theorem dX2_wrongPlace_45 : decode cX2_wrongPlace 45 = .ok (.goto 7, 3) := by decide +kernel
theorem dX2_wrongPlace_48 : decode cX2_wrongPlace 48 = .ok (.aload_n 1, 1) := by decide +kernel
theorem dX2_wrongPlace_49 : decode cX2_wrongPlace 49 = .ok (.getfield 28, 3) := by decide +kernel
theorem dX2_wrongPlace_52 : decode cX2_wrongPlace 52 = .ok (.ireturn, 1) := by decide +kernel
theorem dX2_canStand_0 : decode cX2_canStand 0 = .ok (.iload_n 1, 1) := by decide +kernel
theorem dX2_canStand_1 : decode cX2_canStand 1 = .ok (.iconst 5, 1) := by decide +kernel
theorem dX2_canStand_2 : decode cX2_canStand 2 = .ok (.irem, 1) := by decide +kernel
theorem dX2_canStand_3 : decode cX2_canStand 3 = .ok (.istore_n 2, 1) := by decide +kernel
theorem dX2_canStand_4 : decode cX2_canStand 4 = .ok (.iload_n 1, 1) := by decide +kernel
theorem dX2_canStand_5 : decode cX2_canStand 5 = .ok (.iload_n 2, 1) := by decide +kernel
theorem dX2_canStand_6 : decode cX2_canStand 6 = .ok (.isub, 1) := by decide +kernel
theorem dX2_canStand_7 : decode cX2_canStand 7 = .ok (.istore_n 3, 1) := by decide +kernel
theorem dX2_canStand_8 : decode cX2_canStand 8 = .ok (.aload_n 0, 1) := by decide +kernel
theorem dX2_canStand_9 : decode cX2_canStand 9 = .ok (.iload_n 1, 1) := by decide +kernel
theorem dX2_canStand_10 : decode cX2_canStand 10 = .ok (.iaload, 1) := by decide +kernel
theorem dX2_canStand_11 : decode cX2_canStand 11 = .ok (.bipush 48, 2) := by decide +kernel
theorem dX2_canStand_13 : decode cX2_canStand 13 = .ok (.isub, 1) := by decide +kernel
theorem dX2_canStand_14 : decode cX2_canStand 14 = .ok (.istore 4, 2) := by decide +kernel
theorem dX2_canStand_16 : decode cX2_canStand 16 = .ok (.aload_n 0, 1) := by decide +kernel
theorem dX2_canStand_17 : decode cX2_canStand 17 = .ok (.iload_n 3, 1) := by decide +kernel
theorem dX2_canStand_18 : decode cX2_canStand 18 = .ok (.iaload, 1) := by decide +kernel
theorem dX2_canStand_19 : decode cX2_canStand 19 = .ok (.bipush 97, 2) := by decide +kernel
theorem dX2_canStand_21 : decode cX2_canStand 21 = .ok (.if_icmp .ne 7, 3) := by decide +kernel
theorem dX2_canStand_24 : decode cX2_canStand 24 = .ok (.iconst 1, 1) := by decide +kernel
theorem dX2_canStand_25 : decode cX2_canStand 25 = .ok (.goto 4, 3) := by decide +kernel
theorem dX2_canStand_28 : decode cX2_canStand 28 = .ok (.iconst 0, 1) := by decide +kernel
theorem dX2_canStand_29 : decode cX2_canStand 29 = .ok (.istore 5, 2) := by decide +kernel
theorem dX2_canStand_31 : decode cX2_canStand 31 = .ok (.iload_n 2, 1) := by decide +kernel
theorem dX2_canStand_32 : decode cX2_canStand 32 = .ok (.tableswitch 128 0 3 #[32, 51, 68, 85], 32) := by decide +kernel
theorem dX2_canStand_64 : decode cX2_canStand 64 = .ok (.iload 5, 2) := by decide +kernel
theorem dX2_canStand_66 : decode cX2_canStand 66 = .ok (.ifCond .ne 11, 3) := by decide +kernel
theorem dX2_canStand_69 : decode cX2_canStand 69 = .ok (.aload_n 0, 1) := by decide +kernel
theorem dX2_canStand_70 : decode cX2_canStand 70 = .ok (.iload_n 3, 1) := by decide +kernel
theorem dX2_canStand_71 : decode cX2_canStand 71 = .ok (.iaload, 1) := by decide +kernel
theorem dX2_canStand_72 : decode cX2_canStand 72 = .ok (.bipush 115, 2) := by decide +kernel
theorem dX2_canStand_74 : decode cX2_canStand 74 = .ok (.if_icmp .ne 7, 3) := by decide +kernel
theorem dX2_canStand_77 : decode cX2_canStand 77 = .ok (.iconst 1, 1) := by decide +kernel
theorem dX2_canStand_78 : decode cX2_canStand 78 = .ok (.goto 4, 3) := by decide +kernel
theorem dX2_canStand_81 : decode cX2_canStand 81 = .ok (.iconst 0, 1) := by decide +kernel
theorem dX2_canStand_82 : decode cX2_canStand 82 = .ok (.ireturn, 1) := by decide +kernel
theorem dX2_canStand_83 : decode cX2_canStand 83 = .ok (.iload 4, 2) := by decide +kernel
theorem dX2_canStand_85 : decode cX2_canStand 85 = .ok (.iconst 0, 1) := by decide +kernel
theorem dX2_canStand_86 : decode cX2_canStand 86 = .ok (.iload 5, 2) := by decide +kernel
theorem dX2_canStand_88 : decode cX2_canStand 88 = .ok (.ifCond .eq 7, 3) := by decide +kernel
theorem dX2_canStand_91 : decode cX2_canStand 91 = .ok (.iconst 4, 1) := by decide +kernel
theorem dX2_canStand_92 : decode cX2_canStand 92 = .ok (.goto 4, 3) := by decide +kernel
theorem dX2_canStand_95 : decode cX2_canStand 95 = .ok (.iconst 5, 1) := by decide +kernel
theorem dX2_canStand_96 : decode cX2_canStand 96 = .ok (.invokestatic 40, 3) := by decide +kernel
theorem dX2_canStand_99 : decode cX2_canStand 99 = .ok (.ireturn, 1) := by decide +kernel
theorem dX2_canStand_100 : decode cX2_canStand 100 = .ok (.iload 4, 2) := by decide +kernel
theorem dX2_canStand_102 : decode cX2_canStand 102 = .ok (.iconst 0, 1) := by decide +kernel
theorem dX2_canStand_103 : decode cX2_canStand 103 = .ok (.iload 5, 2) := by decide +kernel
theorem dX2_canStand_105 : decode cX2_canStand 105 = .ok (.ifCond .eq 7, 3) := by decide +kernel
theorem dX2_canStand_108 : decode cX2_canStand 108 = .ok (.iconst 5, 1) := by decide +kernel
theorem dX2_canStand_109 : decode cX2_canStand 109 = .ok (.goto 4, 3) := by decide +kernel
theorem dX2_canStand_112 : decode cX2_canStand 112 = .ok (.iconst 3, 1) := by decide +kernel
theorem dX2_canStand_113 : decode cX2_canStand 113 = .ok (.invokestatic 40, 3) := by decide +kernel
theorem dX2_canStand_116 : decode cX2_canStand 116 = .ok (.ireturn, 1) := by decide +kernel
theorem dX2_canStand_117 : decode cX2_canStand 117 = .ok (.iload 5, 2) := by decide +kernel
theorem dX2_canStand_119 : decode cX2_canStand 119 = .ok (.ifCond .eq 14, 3) := by decide +kernel
theorem dX2_canStand_122 : decode cX2_canStand 122 = .ok (.iload 4, 2) := by decide +kernel
theorem dX2_canStand_124 : decode cX2_canStand 124 = .ok (.iconst 1, 1) := by decide +kernel
theorem dX2_canStand_125 : decode cX2_canStand 125 = .ok (.bipush 9, 2) := by decide +kernel
theorem dX2_canStand_127 : decode cX2_canStand 127 = .ok (.invokestatic 40, 3) := by decide +kernel
theorem dX2_canStand_130 : decode cX2_canStand 130 = .ok (.goto 29, 3) := by decide +kernel
theorem dX2_canStand_133 : decode cX2_canStand 133 = .ok (.iload 4, 2) := by decide +kernel
theorem dX2_canStand_135 : decode cX2_canStand 135 = .ok (.iconst 0, 1) := by decide +kernel
theorem dX2_canStand_136 : decode cX2_canStand 136 = .ok (.iconst 5, 1) := by decide +kernel
theorem dX2_canStand_137 : decode cX2_canStand 137 = .ok (.invokestatic 40, 3) := by decide +kernel
theorem dX2_canStand_140 : decode cX2_canStand 140 = .ok (.ifCond .eq 18, 3) := by decide +kernel
theorem dX2_canStand_143 : decode cX2_canStand 143 = .ok (.aload_n 0, 1) := by decide +kernel
theorem dX2_canStand_144 : decode cX2_canStand 144 = .ok (.iload_n 1, 1) := by decide +kernel
theorem dX2_canStand_145 : decode cX2_canStand 145 = .ok (.iaload, 1) := by decide +kernel
theorem dX2_canStand_146 : decode cX2_canStand 146 = .ok (.aload_n 0, 1) := by decide +kernel
theorem dX2_canStand_147 : decode cX2_canStand 147 = .ok (.iload_n 3, 1) := by decide +kernel
theorem dX2_canStand_148 : decode cX2_canStand 148 = .ok (.iconst 1, 1) := by decide +kernel
theorem dX2_canStand_149 : decode cX2_canStand 149 = .ok (.iadd, 1) := by decide +kernel
theorem dX2_canStand_150 : decode cX2_canStand 150 = .ok (.iaload, 1) := by decide +kernel
theorem dX2_canStand_151 : decode cX2_canStand 151 = .ok (.if_icmp .eq 7, 3) := by decide +kernel
theorem dX2_canStand_154 : decode cX2_canStand 154 = .ok (.iconst 1, 1) := by decide +kernel
theorem dX2_canStand_155 : decode cX2_canStand 155 = .ok (.goto 4, 3) := by decide +kernel
theorem dX2_canStand_158 : decode cX2_canStand 158 = .ok (.iconst 0, 1) := by decide +kernel
theorem dX2_canStand_159 : decode cX2_canStand 159 = .ok (.ireturn, 1) := by decide +kernel
theorem dX2_canStand_160 : decode cX2_canStand 160 = .ok (.aload_n 0, 1) := by decide +kernel
theorem dX2_canStand_161 : decode cX2_canStand 161 = .ok (.iload_n 1, 1) := by decide +kernel
theorem dX2_canStand_162 : decode cX2_canStand 162 = .ok (.iaload, 1) := by decide +kernel
theorem dX2_canStand_163 : decode cX2_canStand 163 = .ok (.bipush 59, 2) := by decide +kernel
theorem dX2_canStand_165 : decode cX2_canStand 165 = .ok (.if_icmp .ne 7, 3) := by decide +kernel
theorem dX2_canStand_168 : decode cX2_canStand 168 = .ok (.iconst 1, 1) := by decide +kernel
theorem dX2_canStand_169 : decode cX2_canStand 169 = .ok (.goto 4, 3) := by decide +kernel
theorem dX2_canStand_172 : decode cX2_canStand 172 = .ok (.iconst 0, 1) := by decide +kernel
theorem dX2_canStand_173 : decode cX2_canStand 173 = .ok (.ireturn, 1) := by decide +kernel
theorem dX2_load_0 : decode cX2_load 0 = .ok (.aload_n 0, 1) := by decide +kernel
theorem dX2_load_1 : decode cX2_load 1 = .ok (.aload_n 1, 1) := by decide +kernel
theorem dX2_load_2 : decode cX2_load 2 = .ok (.getfield 28, 3) := by decide +kernel
theorem dX2_load_5 : decode cX2_load 5 = .ok (.iconst 5, 1) := by decide +kernel
theorem dX2_load_6 : decode cX2_load 6 = .ok (.idiv, 1) := by decide +kernel
theorem dX2_load_7 : decode cX2_load 7 = .ok (.putfield 24, 3) := by decide +kernel
theorem dX2_load_10 : decode cX2_load 10 = .ok (.iconst 0, 1) := by decide +kernel
theorem dX2_load_11 : decode cX2_load 11 = .ok (.istore_n 2, 1) := by decide +kernel
theorem dX2_load_12 : decode cX2_load 12 = .ok (.iload_n 2, 1) := by decide +kernel
theorem dX2_load_13 : decode cX2_load 13 = .ok (.aload_n 0, 1) := by decide +kernel
theorem dX2_load_14 : decode cX2_load 14 = .ok (.getfield 24, 3) := by decide +kernel
theorem dX2_load_17 : decode cX2_load 17 = .ok (.if_icmp .ge 76, 3) := by decide +kernel
theorem dX2_load_20 : decode cX2_load 20 = .ok (.iload_n 2, 1) := by decide +kernel
theorem dX2_load_21 : decode cX2_load 21 = .ok (.iconst 5, 1) := by decide +kernel
theorem dX2_load_22 : decode cX2_load 22 = .ok (.imul, 1) := by decide +kernel
theorem dX2_load_23 : decode cX2_load 23 = .ok (.istore_n 3, 1) := by decide +kernel
theorem dX2_load_24 : decode cX2_load 24 = .ok (.aload_n 0, 1) := by decide +kernel
theorem dX2_load_25 : decode cX2_load 25 = .ok (.getfield 11, 3) := by decide +kernel
theorem dX2_load_28 : decode cX2_load 28 = .ok (.iload_n 2, 1) := by decide +kernel
theorem dX2_load_29 : decode cX2_load 29 = .ok (.aload_n 1, 1) := by decide +kernel
theorem dX2_load_30 : decode cX2_load 30 = .ok (.getfield 33, 3) := by decide +kernel
theorem dX2_load_33 : decode cX2_load 33 = .ok (.iload_n 3, 1) := by decide +kernel
theorem dX2_load_34 : decode cX2_load 34 = .ok (.iaload, 1) := by decide +kernel
theorem dX2_load_35 : decode cX2_load 35 = .ok (.iastore, 1) := by decide +kernel
theorem dX2_load_36 : decode cX2_load 36 = .ok (.aload_n 0, 1) := by decide +kernel
theorem dX2_load_37 : decode cX2_load 37 = .ok (.getfield 15, 3) := by decide +kernel
theorem dX2_load_40 : decode cX2_load 40 = .ok (.iload_n 2, 1) := by decide +kernel
theorem dX2_load_41 : decode cX2_load 41 = .ok (.aload_n 1, 1) := by decide +kernel
theorem dX2_load_42 : decode cX2_load 42 = .ok (.getfield 33, 3) := by decide +kernel
theorem dX2_load_45 : decode cX2_load 45 = .ok (.iload_n 3, 1) := by decide +kernel
theorem dX2_load_46 : decode cX2_load 46 = .ok (.iconst 1, 1) := by decide +kernel
theorem dX2_load_47 : decode cX2_load 47 = .ok (.iadd, 1) := by decide +kernel
theorem dX2_load_48 : decode cX2_load 48 = .ok (.iaload, 1) := by decide +kernel
theorem dX2_load_49 : decode cX2_load 49 = .ok (.bipush 48, 2) := by decide +kernel
theorem dX2_load_51 : decode cX2_load 51 = .ok (.isub, 1) := by decide +kernel
theorem dX2_load_52 : decode cX2_load 52 = .ok (.iastore, 1) := by decide +kernel
theorem dX2_load_53 : decode cX2_load 53 = .ok (.aload_n 0, 1) := by decide +kernel
theorem dX2_load_54 : decode cX2_load 54 = .ok (.getfield 18, 3) := by decide +kernel
theorem dX2_load_57 : decode cX2_load 57 = .ok (.iload_n 2, 1) := by decide +kernel
theorem dX2_load_58 : decode cX2_load 58 = .ok (.aload_n 1, 1) := by decide +kernel
theorem dX2_load_59 : decode cX2_load 59 = .ok (.getfield 33, 3) := by decide +kernel
theorem dX2_load_62 : decode cX2_load 62 = .ok (.iload_n 3, 1) := by decide +kernel
theorem dX2_load_63 : decode cX2_load 63 = .ok (.iconst 2, 1) := by decide +kernel
theorem dX2_load_64 : decode cX2_load 64 = .ok (.iadd, 1) := by decide +kernel
theorem dX2_load_65 : decode cX2_load 65 = .ok (.iaload, 1) := by decide +kernel
theorem dX2_load_66 : decode cX2_load 66 = .ok (.bipush 48, 2) := by decide +kernel
theorem dX2_load_68 : decode cX2_load 68 = .ok (.isub, 1) := by decide +kernel
theorem dX2_load_69 : decode cX2_load 69 = .ok (.iastore, 1) := by decide +kernel
theorem dX2_load_70 : decode cX2_load 70 = .ok (.aload_n 0, 1) := by decide +kernel
theorem dX2_load_71 : decode cX2_load 71 = .ok (.getfield 21, 3) := by decide +kernel
theorem dX2_load_74 : decode cX2_load 74 = .ok (.iload_n 2, 1) := by decide +kernel
theorem dX2_load_75 : decode cX2_load 75 = .ok (.aload_n 1, 1) := by decide +kernel
theorem dX2_load_76 : decode cX2_load 76 = .ok (.getfield 33, 3) := by decide +kernel
theorem dX2_load_79 : decode cX2_load 79 = .ok (.iload_n 3, 1) := by decide +kernel
theorem dX2_load_80 : decode cX2_load 80 = .ok (.iconst 3, 1) := by decide +kernel
theorem dX2_load_81 : decode cX2_load 81 = .ok (.iadd, 1) := by decide +kernel
theorem dX2_load_82 : decode cX2_load 82 = .ok (.iaload, 1) := by decide +kernel
theorem dX2_load_83 : decode cX2_load 83 = .ok (.bipush 48, 2) := by decide +kernel
theorem dX2_load_85 : decode cX2_load 85 = .ok (.isub, 1) := by decide +kernel
theorem dX2_load_86 : decode cX2_load 86 = .ok (.iastore, 1) := by decide +kernel
theorem dX2_load_87 : decode cX2_load 87 = .ok (.iinc 2 1, 3) := by decide +kernel
theorem dX2_load_90 : decode cX2_load 90 = .ok (.goto (-78), 3) := by decide +kernel
theorem dX2_load_93 : decode cX2_load 93 = .ok (.return_, 1) := by decide +kernel
theorem dX2_firstDeskFor_0 : decode cX2_firstDeskFor 0 = .ok (.aload_n 0, 1) := by decide +kernel
theorem dX2_firstDeskFor_1 : decode cX2_firstDeskFor 1 = .ok (.iload_n 1, 1) := by decide +kernel
theorem dX2_firstDeskFor_2 : decode cX2_firstDeskFor 2 = .ok (.invokevirtual 44, 3) := by decide +kernel
theorem dX2_firstDeskFor_5 : decode cX2_firstDeskFor 5 = .ok (.istore_n 2, 1) := by decide +kernel
theorem dX2_firstDeskFor_6 : decode cX2_firstDeskFor 6 = .ok (.iload_n 2, 1) := by decide +kernel
theorem dX2_firstDeskFor_7 : decode cX2_firstDeskFor 7 = .ok (.iconst (-1), 1) := by decide +kernel
theorem dX2_firstDeskFor_8 : decode cX2_firstDeskFor 8 = .ok (.if_icmp .ne 7, 3) := by decide +kernel
theorem dX2_firstDeskFor_11 : decode cX2_firstDeskFor 11 = .ok (.iconst (-1), 1) := by decide +kernel
theorem dX2_firstDeskFor_12 : decode cX2_firstDeskFor 12 = .ok (.goto 9, 3) := by decide +kernel
theorem dX2_firstDeskFor_15 : decode cX2_firstDeskFor 15 = .ok (.aload_n 0, 1) := by decide +kernel
theorem dX2_firstDeskFor_16 : decode cX2_firstDeskFor 16 = .ok (.getfield 18, 3) := by decide +kernel
theorem dX2_firstDeskFor_19 : decode cX2_firstDeskFor 19 = .ok (.iload_n 2, 1) := by decide +kernel
theorem dX2_firstDeskFor_20 : decode cX2_firstDeskFor 20 = .ok (.iaload, 1) := by decide +kernel
theorem dX2_firstDeskFor_21 : decode cX2_firstDeskFor 21 = .ok (.ireturn, 1) := by decide +kernel
theorem dX2_daysFor_0 : decode cX2_daysFor 0 = .ok (.aload_n 0, 1) := by decide +kernel
theorem dX2_daysFor_1 : decode cX2_daysFor 1 = .ok (.iload_n 1, 1) := by decide +kernel
theorem dX2_daysFor_2 : decode cX2_daysFor 2 = .ok (.invokevirtual 44, 3) := by decide +kernel
theorem dX2_daysFor_5 : decode cX2_daysFor 5 = .ok (.istore_n 2, 1) := by decide +kernel
theorem dX2_daysFor_6 : decode cX2_daysFor 6 = .ok (.iload_n 2, 1) := by decide +kernel
theorem dX2_daysFor_7 : decode cX2_daysFor 7 = .ok (.iconst (-1), 1) := by decide +kernel
theorem dX2_daysFor_8 : decode cX2_daysFor 8 = .ok (.if_icmp .ne 7, 3) := by decide +kernel
theorem dX2_daysFor_11 : decode cX2_daysFor 11 = .ok (.iconst (-1), 1) := by decide +kernel
theorem dX2_daysFor_12 : decode cX2_daysFor 12 = .ok (.goto 9, 3) := by decide +kernel
theorem dX2_daysFor_15 : decode cX2_daysFor 15 = .ok (.aload_n 0, 1) := by decide +kernel
theorem dX2_daysFor_16 : decode cX2_daysFor 16 = .ok (.getfield 21, 3) := by decide +kernel
theorem dX2_daysFor_19 : decode cX2_daysFor 19 = .ok (.iload_n 2, 1) := by decide +kernel
theorem dX2_daysFor_20 : decode cX2_daysFor 20 = .ok (.iaload, 1) := by decide +kernel
theorem dX2_daysFor_21 : decode cX2_daysFor 21 = .ok (.ireturn, 1) := by decide +kernel
theorem dX2_rowFor_0 : decode cX2_rowFor 0 = .ok (.iload_n 1, 1) := by decide +kernel
theorem dX2_rowFor_1 : decode cX2_rowFor 1 = .ok (.istore_n 2, 1) := by decide +kernel
theorem dX2_rowFor_2 : decode cX2_rowFor 2 = .ok (.iconst 0, 1) := by decide +kernel
theorem dX2_rowFor_3 : decode cX2_rowFor 3 = .ok (.istore_n 3, 1) := by decide +kernel
theorem dX2_rowFor_4 : decode cX2_rowFor 4 = .ok (.iload_n 3, 1) := by decide +kernel
theorem dX2_rowFor_5 : decode cX2_rowFor 5 = .ok (.iconst 5, 1) := by decide +kernel
theorem dX2_rowFor_6 : decode cX2_rowFor 6 = .ok (.if_icmp .ge 36, 3) := by decide +kernel
theorem dX2_rowFor_9 : decode cX2_rowFor 9 = .ok (.iload_n 2, 1) := by decide +kernel
theorem dX2_rowFor_10 : decode cX2_rowFor 10 = .ok (.iconst (-1), 1) := by decide +kernel
theorem dX2_rowFor_11 : decode cX2_rowFor 11 = .ok (.if_icmp .eq 31, 3) := by decide +kernel
theorem dX2_rowFor_14 : decode cX2_rowFor 14 = .ok (.aload_n 0, 1) := by decide +kernel
theorem dX2_rowFor_15 : decode cX2_rowFor 15 = .ok (.iload_n 2, 1) := by decide +kernel
theorem dX2_rowFor_16 : decode cX2_rowFor 16 = .ok (.invokevirtual 48, 3) := by decide +kernel
theorem dX2_rowFor_19 : decode cX2_rowFor 19 = .ok (.istore 4, 2) := by decide +kernel
theorem dX2_rowFor_21 : decode cX2_rowFor 21 = .ok (.iload 4, 2) := by decide +kernel
theorem dX2_rowFor_23 : decode cX2_rowFor 23 = .ok (.iconst (-1), 1) := by decide +kernel
theorem dX2_rowFor_24 : decode cX2_rowFor 24 = .ok (.if_icmp .eq 6, 3) := by decide +kernel
theorem dX2_rowFor_27 : decode cX2_rowFor 27 = .ok (.iload 4, 2) := by decide +kernel
theorem dX2_rowFor_29 : decode cX2_rowFor 29 = .ok (.ireturn, 1) := by decide +kernel
theorem dX2_rowFor_30 : decode cX2_rowFor 30 = .ok (.getstatic 51, 3) := by decide +kernel
theorem dX2_rowFor_33 : decode cX2_rowFor 33 = .ok (.iload_n 2, 1) := by decide +kernel
theorem dX2_rowFor_34 : decode cX2_rowFor 34 = .ok (.iaload, 1) := by decide +kernel
theorem dX2_rowFor_35 : decode cX2_rowFor 35 = .ok (.istore_n 2, 1) := by decide +kernel
theorem dX2_rowFor_36 : decode cX2_rowFor 36 = .ok (.iinc 3 1, 3) := by decide +kernel
theorem dX2_rowFor_39 : decode cX2_rowFor 39 = .ok (.goto (-35), 3) := by decide +kernel
theorem dX2_rowFor_42 : decode cX2_rowFor 42 = .ok (.iconst (-1), 1) := by decide +kernel
theorem dX2_rowFor_43 : decode cX2_rowFor 43 = .ok (.ireturn, 1) := by decide +kernel
theorem dX2_rowForJust_0 : decode cX2_rowForJust 0 = .ok (.iconst 0, 1) := by decide +kernel
theorem dX2_rowForJust_1 : decode cX2_rowForJust 1 = .ok (.istore_n 2, 1) := by decide +kernel
theorem dX2_rowForJust_2 : decode cX2_rowForJust 2 = .ok (.iload_n 2, 1) := by decide +kernel
theorem dX2_rowForJust_3 : decode cX2_rowForJust 3 = .ok (.aload_n 0, 1) := by decide +kernel
theorem dX2_rowForJust_4 : decode cX2_rowForJust 4 = .ok (.getfield 24, 3) := by decide +kernel
theorem dX2_rowForJust_7 : decode cX2_rowForJust 7 = .ok (.if_icmp .ge 32, 3) := by decide +kernel
theorem dX2_rowForJust_10 : decode cX2_rowForJust 10 = .ok (.aload_n 0, 1) := by decide +kernel
theorem dX2_rowForJust_11 : decode cX2_rowForJust 11 = .ok (.getfield 11, 3) := by decide +kernel
theorem dX2_rowForJust_14 : decode cX2_rowForJust 14 = .ok (.iload_n 2, 1) := by decide +kernel
theorem dX2_rowForJust_15 : decode cX2_rowForJust 15 = .ok (.iaload, 1) := by decide +kernel
theorem dX2_rowForJust_16 : decode cX2_rowForJust 16 = .ok (.bipush 97, 2) := by decide +kernel
theorem dX2_rowForJust_18 : decode cX2_rowForJust 18 = .ok (.if_icmp .ne 15, 3) := by decide +kernel
theorem dX2_rowForJust_21 : decode cX2_rowForJust 21 = .ok (.aload_n 0, 1) := by decide +kernel
theorem dX2_rowForJust_22 : decode cX2_rowForJust 22 = .ok (.getfield 15, 3) := by decide +kernel
theorem dX2_rowForJust_25 : decode cX2_rowForJust 25 = .ok (.iload_n 2, 1) := by decide +kernel
theorem dX2_rowForJust_26 : decode cX2_rowForJust 26 = .ok (.iaload, 1) := by decide +kernel
theorem dX2_rowForJust_27 : decode cX2_rowForJust 27 = .ok (.iload_n 1, 1) := by decide +kernel
theorem dX2_rowForJust_28 : decode cX2_rowForJust 28 = .ok (.if_icmp .ne 5, 3) := by decide +kernel
theorem dX2_rowForJust_31 : decode cX2_rowForJust 31 = .ok (.iload_n 2, 1) := by decide +kernel
theorem dX2_rowForJust_32 : decode cX2_rowForJust 32 = .ok (.ireturn, 1) := by decide +kernel
theorem dX2_rowForJust_33 : decode cX2_rowForJust 33 = .ok (.iinc 2 1, 3) := by decide +kernel
theorem dX2_rowForJust_36 : decode cX2_rowForJust 36 = .ok (.goto (-34), 3) := by decide +kernel
theorem dX2_rowForJust_39 : decode cX2_rowForJust 39 = .ok (.iconst (-1), 1) := by decide +kernel
theorem dX2_rowForJust_40 : decode cX2_rowForJust 40 = .ok (.ireturn, 1) := by decide +kernel
theorem dX2_nextDesk_0 : decode cX2_nextDesk 0 = .ok (.iconst 0, 1) := by decide +kernel
theorem dX2_nextDesk_1 : decode cX2_nextDesk 1 = .ok (.istore_n 3, 1) := by decide +kernel
theorem dX2_nextDesk_2 : decode cX2_nextDesk 2 = .ok (.iload_n 3, 1) := by decide +kernel
theorem dX2_nextDesk_3 : decode cX2_nextDesk 3 = .ok (.aload_n 0, 1) := by decide +kernel
theorem dX2_nextDesk_4 : decode cX2_nextDesk 4 = .ok (.getfield 24, 3) := by decide +kernel
theorem dX2_nextDesk_7 : decode cX2_nextDesk 7 = .ok (.if_icmp .ge 59, 3) := by decide +kernel
theorem dX2_nextDesk_10 : decode cX2_nextDesk 10 = .ok (.aload_n 0, 1) := by decide +kernel
theorem dX2_nextDesk_11 : decode cX2_nextDesk 11 = .ok (.getfield 11, 3) := by decide +kernel
theorem dX2_nextDesk_14 : decode cX2_nextDesk 14 = .ok (.iload_n 3, 1) := by decide +kernel
theorem dX2_nextDesk_15 : decode cX2_nextDesk 15 = .ok (.iaload, 1) := by decide +kernel
theorem dX2_nextDesk_16 : decode cX2_nextDesk 16 = .ok (.bipush 115, 2) := by decide +kernel
theorem dX2_nextDesk_18 : decode cX2_nextDesk 18 = .ok (.if_icmp .ne 17, 3) := by decide +kernel
theorem dX2_nextDesk_21 : decode cX2_nextDesk 21 = .ok (.aload_n 0, 1) := by decide +kernel
theorem dX2_nextDesk_22 : decode cX2_nextDesk 22 = .ok (.getfield 15, 3) := by decide +kernel
theorem dX2_nextDesk_25 : decode cX2_nextDesk 25 = .ok (.iload_n 3, 1) := by decide +kernel
theorem dX2_nextDesk_26 : decode cX2_nextDesk 26 = .ok (.iaload, 1) := by decide +kernel
theorem dX2_nextDesk_27 : decode cX2_nextDesk 27 = .ok (.iload_n 1, 1) := by decide +kernel
theorem dX2_nextDesk_28 : decode cX2_nextDesk 28 = .ok (.if_icmp .ne 7, 3) := by decide +kernel
theorem dX2_nextDesk_31 : decode cX2_nextDesk 31 = .ok (.iconst 1, 1) := by decide +kernel
theorem dX2_nextDesk_32 : decode cX2_nextDesk 32 = .ok (.goto 4, 3) := by decide +kernel
theorem dX2_nextDesk_35 : decode cX2_nextDesk 35 = .ok (.iconst 0, 1) := by decide +kernel
theorem dX2_nextDesk_36 : decode cX2_nextDesk 36 = .ok (.istore 4, 2) := by decide +kernel
theorem dX2_nextDesk_38 : decode cX2_nextDesk 38 = .ok (.iload 4, 2) := by decide +kernel
theorem dX2_nextDesk_40 : decode cX2_nextDesk 40 = .ok (.ifCond .eq 20, 3) := by decide +kernel
theorem dX2_nextDesk_43 : decode cX2_nextDesk 43 = .ok (.aload_n 0, 1) := by decide +kernel
theorem dX2_nextDesk_44 : decode cX2_nextDesk 44 = .ok (.getfield 18, 3) := by decide +kernel
theorem dX2_nextDesk_47 : decode cX2_nextDesk 47 = .ok (.iload_n 3, 1) := by decide +kernel
theorem dX2_nextDesk_48 : decode cX2_nextDesk 48 = .ok (.iaload, 1) := by decide +kernel
theorem dX2_nextDesk_49 : decode cX2_nextDesk 49 = .ok (.iload_n 2, 1) := by decide +kernel
theorem dX2_nextDesk_50 : decode cX2_nextDesk 50 = .ok (.if_icmp .ne 10, 3) := by decide +kernel
theorem dX2_nextDesk_53 : decode cX2_nextDesk 53 = .ok (.aload_n 0, 1) := by decide +kernel
theorem dX2_nextDesk_54 : decode cX2_nextDesk 54 = .ok (.getfield 21, 3) := by decide +kernel
theorem dX2_nextDesk_57 : decode cX2_nextDesk 57 = .ok (.iload_n 3, 1) := by decide +kernel
theorem dX2_nextDesk_58 : decode cX2_nextDesk 58 = .ok (.iaload, 1) := by decide +kernel
theorem dX2_nextDesk_59 : decode cX2_nextDesk 59 = .ok (.ireturn, 1) := by decide +kernel
theorem dX2_nextDesk_60 : decode cX2_nextDesk 60 = .ok (.iinc 3 1, 3) := by decide +kernel
theorem dX2_nextDesk_63 : decode cX2_nextDesk 63 = .ok (.goto (-61), 3) := by decide +kernel
theorem dX2_nextDesk_66 : decode cX2_nextDesk 66 = .ok (.iconst (-1), 1) := by decide +kernel
theorem dX2_nextDesk_67 : decode cX2_nextDesk 67 = .ok (.ireturn, 1) := by decide +kernel
theorem dX2_rowsGoneBy_0 : decode cX2_rowsGoneBy 0 = .ok (.iload_n 1, 1) := by decide +kernel
theorem dX2_rowsGoneBy_1 : decode cX2_rowsGoneBy 1 = .ok (.istore_n 3, 1) := by decide +kernel
theorem dX2_rowsGoneBy_2 : decode cX2_rowsGoneBy 2 = .ok (.iconst 1, 1) := by decide +kernel
theorem dX2_rowsGoneBy_3 : decode cX2_rowsGoneBy 3 = .ok (.iload_n 1, 1) := by decide +kernel
theorem dX2_rowsGoneBy_4 : decode cX2_rowsGoneBy 4 = .ok (.ishl, 1) := by decide +kernel
theorem dX2_rowsGoneBy_5 : decode cX2_rowsGoneBy 5 = .ok (.istore 4, 2) := by decide +kernel
theorem dX2_rowsGoneBy_7 : decode cX2_rowsGoneBy 7 = .ok (.iconst 0, 1) := by decide +kernel
theorem dX2_rowsGoneBy_8 : decode cX2_rowsGoneBy 8 = .ok (.istore 5, 2) := by decide +kernel
theorem dX2_rowsGoneBy_10 : decode cX2_rowsGoneBy 10 = .ok (.iload 5, 2) := by decide +kernel
theorem dX2_rowsGoneBy_12 : decode cX2_rowsGoneBy 12 = .ok (.bipush 6, 2) := by decide +kernel
theorem dX2_rowsGoneBy_14 : decode cX2_rowsGoneBy 14 = .ok (.if_icmp .ge 46, 3) := by decide +kernel
theorem dX2_rowsGoneBy_17 : decode cX2_rowsGoneBy 17 = .ok (.aload_n 0, 1) := by decide +kernel
theorem dX2_rowsGoneBy_18 : decode cX2_rowsGoneBy 18 = .ok (.iload_n 3, 1) := by decide +kernel
theorem dX2_rowsGoneBy_19 : decode cX2_rowsGoneBy 19 = .ok (.iload_n 2, 1) := by decide +kernel
theorem dX2_rowsGoneBy_20 : decode cX2_rowsGoneBy 20 = .ok (.invokevirtual 54, 3) := by decide +kernel
theorem dX2_rowsGoneBy_23 : decode cX2_rowsGoneBy 23 = .ok (.istore_n 3, 1) := by decide +kernel
theorem dX2_rowsGoneBy_24 : decode cX2_rowsGoneBy 24 = .ok (.iload_n 3, 1) := by decide +kernel
theorem dX2_rowsGoneBy_25 : decode cX2_rowsGoneBy 25 = .ok (.iconst (-1), 1) := by decide +kernel
theorem dX2_rowsGoneBy_26 : decode cX2_rowsGoneBy 26 = .ok (.if_icmp .ne 6, 3) := by decide +kernel
theorem dX2_rowsGoneBy_29 : decode cX2_rowsGoneBy 29 = .ok (.iload 5, 2) := by decide +kernel
theorem dX2_rowsGoneBy_31 : decode cX2_rowsGoneBy 31 = .ok (.ireturn, 1) := by decide +kernel
theorem dX2_rowsGoneBy_32 : decode cX2_rowsGoneBy 32 = .ok (.iload 4, 2) := by decide +kernel
theorem dX2_rowsGoneBy_34 : decode cX2_rowsGoneBy 34 = .ok (.iload_n 3, 1) := by decide +kernel
theorem dX2_rowsGoneBy_35 : decode cX2_rowsGoneBy 35 = .ok (.invokestatic 58, 3) := by decide +kernel
theorem dX2_rowsGoneBy_38 : decode cX2_rowsGoneBy 38 = .ok (.ifCond .eq 8, 3) := by decide +kernel
theorem dX2_rowsGoneBy_41 : decode cX2_rowsGoneBy 41 = .ok (.iload 5, 2) := by decide +kernel
theorem dX2_rowsGoneBy_43 : decode cX2_rowsGoneBy 43 = .ok (.iconst 1, 1) := by decide +kernel
theorem dX2_rowsGoneBy_44 : decode cX2_rowsGoneBy 44 = .ok (.iadd, 1) := by decide +kernel
theorem dX2_rowsGoneBy_45 : decode cX2_rowsGoneBy 45 = .ok (.ireturn, 1) := by decide +kernel
theorem dX2_rowsGoneBy_46 : decode cX2_rowsGoneBy 46 = .ok (.iload 4, 2) := by decide +kernel
theorem dX2_rowsGoneBy_48 : decode cX2_rowsGoneBy 48 = .ok (.iconst 1, 1) := by decide +kernel
theorem dX2_rowsGoneBy_49 : decode cX2_rowsGoneBy 49 = .ok (.iload_n 3, 1) := by decide +kernel
theorem dX2_rowsGoneBy_50 : decode cX2_rowsGoneBy 50 = .ok (.ishl, 1) := by decide +kernel
theorem dX2_rowsGoneBy_51 : decode cX2_rowsGoneBy 51 = .ok (.ior, 1) := by decide +kernel
theorem dX2_rowsGoneBy_52 : decode cX2_rowsGoneBy 52 = .ok (.istore 4, 2) := by decide +kernel
theorem dX2_rowsGoneBy_54 : decode cX2_rowsGoneBy 54 = .ok (.iinc 5 1, 3) := by decide +kernel
theorem dX2_rowsGoneBy_57 : decode cX2_rowsGoneBy 57 = .ok (.goto (-47), 3) := by decide +kernel
theorem dX2_rowsGoneBy_60 : decode cX2_rowsGoneBy 60 = .ok (.bipush 6, 2) := by decide +kernel
theorem dX2_rowsGoneBy_62 : decode cX2_rowsGoneBy 62 = .ok (.ireturn, 1) := by decide +kernel
theorem dX2_lastDeskFrom_0 : decode cX2_lastDeskFrom 0 = .ok (.iload_n 1, 1) := by decide +kernel
theorem dX2_lastDeskFrom_1 : decode cX2_lastDeskFrom 1 = .ok (.istore_n 3, 1) := by decide +kernel
theorem dX2_lastDeskFrom_2 : decode cX2_lastDeskFrom 2 = .ok (.aload_n 0, 1) := by decide +kernel
theorem dX2_lastDeskFrom_3 : decode cX2_lastDeskFrom 3 = .ok (.iload_n 1, 1) := by decide +kernel
theorem dX2_lastDeskFrom_4 : decode cX2_lastDeskFrom 4 = .ok (.iload_n 2, 1) := by decide +kernel
theorem dX2_lastDeskFrom_5 : decode cX2_lastDeskFrom 5 = .ok (.invokevirtual 62, 3) := by decide +kernel
theorem dX2_lastDeskFrom_8 : decode cX2_lastDeskFrom 8 = .ok (.istore 4, 2) := by decide +kernel
theorem dX2_lastDeskFrom_10 : decode cX2_lastDeskFrom 10 = .ok (.iconst 0, 1) := by decide +kernel
theorem dX2_lastDeskFrom_11 : decode cX2_lastDeskFrom 11 = .ok (.istore 5, 2) := by decide +kernel
theorem dX2_lastDeskFrom_13 : decode cX2_lastDeskFrom 13 = .ok (.iload 5, 2) := by decide +kernel
theorem dX2_lastDeskFrom_15 : decode cX2_lastDeskFrom 15 = .ok (.iload 4, 2) := by decide +kernel
theorem dX2_lastDeskFrom_17 : decode cX2_lastDeskFrom 17 = .ok (.if_icmp .ge 16, 3) := by decide +kernel
theorem dX2_lastDeskFrom_20 : decode cX2_lastDeskFrom 20 = .ok (.aload_n 0, 1) := by decide +kernel
theorem dX2_lastDeskFrom_21 : decode cX2_lastDeskFrom 21 = .ok (.iload_n 3, 1) := by decide +kernel
theorem dX2_lastDeskFrom_22 : decode cX2_lastDeskFrom 22 = .ok (.iload_n 2, 1) := by decide +kernel
theorem dX2_lastDeskFrom_23 : decode cX2_lastDeskFrom 23 = .ok (.invokevirtual 54, 3) := by decide +kernel
theorem dX2_lastDeskFrom_26 : decode cX2_lastDeskFrom 26 = .ok (.istore_n 3, 1) := by decide +kernel
theorem dX2_lastDeskFrom_27 : decode cX2_lastDeskFrom 27 = .ok (.iinc 5 1, 3) := by decide +kernel
theorem dX2_lastDeskFrom_30 : decode cX2_lastDeskFrom 30 = .ok (.goto (-17), 3) := by decide +kernel
theorem dX2_lastDeskFrom_33 : decode cX2_lastDeskFrom 33 = .ok (.aload_n 0, 1) := by decide +kernel
theorem dX2_lastDeskFrom_34 : decode cX2_lastDeskFrom 34 = .ok (.iload_n 3, 1) := by decide +kernel
theorem dX2_lastDeskFrom_35 : decode cX2_lastDeskFrom 35 = .ok (.iload_n 2, 1) := by decide +kernel
theorem dX2_lastDeskFrom_36 : decode cX2_lastDeskFrom 36 = .ok (.invokevirtual 54, 3) := by decide +kernel
theorem dX2_lastDeskFrom_39 : decode cX2_lastDeskFrom 39 = .ok (.iconst (-1), 1) := by decide +kernel
theorem dX2_lastDeskFrom_40 : decode cX2_lastDeskFrom 40 = .ok (.if_icmp .ne 7, 3) := by decide +kernel
theorem dX2_lastDeskFrom_43 : decode cX2_lastDeskFrom 43 = .ok (.iload_n 3, 1) := by decide +kernel
theorem dX2_lastDeskFrom_44 : decode cX2_lastDeskFrom 44 = .ok (.goto 5, 3) := by decide +kernel
theorem dX2_lastDeskFrom_47 : decode cX2_lastDeskFrom 47 = .ok (.ldc 65, 2) := by decide +kernel
theorem dX2_lastDeskFrom_49 : decode cX2_lastDeskFrom 49 = .ok (.ireturn, 1) := by decide +kernel
theorem dX3_init_0 : decode cX3_init 0 = .ok (.aload_n 0, 1) := by decide +kernel
theorem dX3_init_1 : decode cX3_init 1 = .ok (.invokespecial 3, 3) := by decide +kernel
theorem dX3_init_4 : decode cX3_init 4 = .ok (.aload_n 0, 1) := by decide +kernel
theorem dX3_init_5 : decode cX3_init 5 = .ok (.bipush 12, 2) := by decide +kernel
theorem dX3_init_7 : decode cX3_init 7 = .ok (.newarray .int, 2) := by decide +kernel
theorem dX3_init_9 : decode cX3_init 9 = .ok (.putfield 9, 3) := by decide +kernel
theorem dX3_init_12 : decode cX3_init 12 = .ok (.aload_n 0, 1) := by decide +kernel
theorem dX3_init_13 : decode cX3_init 13 = .ok (.bipush 12, 2) := by decide +kernel
theorem dX3_init_15 : decode cX3_init 15 = .ok (.newarray .int, 2) := by decide +kernel
theorem dX3_init_17 : decode cX3_init 17 = .ok (.putfield 15, 3) := by decide +kernel
theorem dX3_init_20 : decode cX3_init 20 = .ok (.return_, 1) := by decide +kernel
theorem dX3_fewestSets_0 : decode cX3_fewestSets 0 = .ok (.iconst 0, 1) := by decide +kernel
theorem dX3_fewestSets_1 : decode cX3_fewestSets 1 = .ok (.istore 4, 2) := by decide +kernel
theorem dX3_fewestSets_3 : decode cX3_fewestSets 3 = .ok (.iload 4, 2) := by decide +kernel
theorem dX3_fewestSets_5 : decode cX3_fewestSets 5 = .ok (.iload_n 3, 1) := by decide +kernel
theorem dX3_fewestSets_6 : decode cX3_fewestSets 6 = .ok (.if_icmp .ge 62, 3) := by decide +kernel
theorem dX3_fewestSets_9 : decode cX3_fewestSets 9 = .ok (.aload_n 0, 1) := by decide +kernel
theorem dX3_fewestSets_10 : decode cX3_fewestSets 10 = .ok (.getfield 9, 3) := by decide +kernel
theorem dX3_fewestSets_13 : decode cX3_fewestSets 13 = .ok (.iload 4, 2) := by decide +kernel
theorem dX3_fewestSets_15 : decode cX3_fewestSets 15 = .ok (.iconst 0, 1) := by decide +kernel
theorem dX3_fewestSets_16 : decode cX3_fewestSets 16 = .ok (.iastore, 1) := by decide +kernel
theorem dX3_fewestSets_17 : decode cX3_fewestSets 17 = .ok (.iconst 0, 1) := by decide +kernel
theorem dX3_fewestSets_18 : decode cX3_fewestSets 18 = .ok (.istore 5, 2) := by decide +kernel
theorem dX3_fewestSets_20 : decode cX3_fewestSets 20 = .ok (.iload 5, 2) := by decide +kernel
theorem dX3_fewestSets_22 : decode cX3_fewestSets 22 = .ok (.iload 4, 2) := by decide +kernel
theorem dX3_fewestSets_24 : decode cX3_fewestSets 24 = .ok (.if_icmp .ge 38, 3) := by decide +kernel
theorem dX3_fewestSets_27 : decode cX3_fewestSets 27 = .ok (.aload_n 1, 1) := by decide +kernel
theorem dX3_fewestSets_28 : decode cX3_fewestSets 28 = .ok (.iload_n 2, 1) := by decide +kernel
theorem dX3_fewestSets_29 : decode cX3_fewestSets 29 = .ok (.iload 4, 2) := by decide +kernel
theorem dX3_fewestSets_31 : decode cX3_fewestSets 31 = .ok (.iadd, 1) := by decide +kernel
theorem dX3_fewestSets_32 : decode cX3_fewestSets 32 = .ok (.iload_n 2, 1) := by decide +kernel
theorem dX3_fewestSets_33 : decode cX3_fewestSets 33 = .ok (.iload 5, 2) := by decide +kernel
theorem dX3_fewestSets_35 : decode cX3_fewestSets 35 = .ok (.iadd, 1) := by decide +kernel
theorem dX3_fewestSets_36 : decode cX3_fewestSets 36 = .ok (.invokevirtual 18, 3) := by decide +kernel
theorem dX3_fewestSets_39 : decode cX3_fewestSets 39 = .ok (.ifCond .eq 17, 3) := by decide +kernel
theorem dX3_fewestSets_42 : decode cX3_fewestSets 42 = .ok (.aload_n 0, 1) := by decide +kernel
theorem dX3_fewestSets_43 : decode cX3_fewestSets 43 = .ok (.getfield 9, 3) := by decide +kernel
theorem dX3_fewestSets_46 : decode cX3_fewestSets 46 = .ok (.iload 4, 2) := by decide +kernel
theorem dX3_fewestSets_48 : decode cX3_fewestSets 48 = .ok (.dup2, 1) := by decide +kernel
theorem dX3_fewestSets_49 : decode cX3_fewestSets 49 = .ok (.iaload, 1) := by decide +kernel
theorem dX3_fewestSets_50 : decode cX3_fewestSets 50 = .ok (.iconst 1, 1) := by decide +kernel
theorem dX3_fewestSets_51 : decode cX3_fewestSets 51 = .ok (.iload 5, 2) := by decide +kernel
theorem dX3_fewestSets_53 : decode cX3_fewestSets 53 = .ok (.ishl, 1) := by decide +kernel
theorem dX3_fewestSets_54 : decode cX3_fewestSets 54 = .ok (.ior, 1) := by decide +kernel
theorem dX3_fewestSets_55 : decode cX3_fewestSets 55 = .ok (.iastore, 1) := by decide +kernel
theorem dX3_fewestSets_56 : decode cX3_fewestSets 56 = .ok (.iinc 5 1, 3) := by decide +kernel
theorem dX3_fewestSets_59 : decode cX3_fewestSets 59 = .ok (.goto (-39), 3) := by decide +kernel
theorem dX3_fewestSets_62 : decode cX3_fewestSets 62 = .ok (.iinc 4 1, 3) := by decide +kernel
theorem dX3_fewestSets_65 : decode cX3_fewestSets 65 = .ok (.goto (-62), 3) := by decide +kernel
theorem dX3_fewestSets_68 : decode cX3_fewestSets 68 = .ok (.aload_n 0, 1) := by decide +kernel
theorem dX3_fewestSets_69 : decode cX3_fewestSets 69 = .ok (.iload_n 3, 1) := by decide +kernel
theorem dX3_fewestSets_70 : decode cX3_fewestSets 70 = .ok (.putfield 24, 3) := by decide +kernel
theorem dX3_fewestSets_73 : decode cX3_fewestSets 73 = .ok (.aload_n 0, 1) := by decide +kernel
theorem dX3_fewestSets_74 : decode cX3_fewestSets 74 = .ok (.iload_n 3, 1) := by decide +kernel
theorem dX3_fewestSets_75 : decode cX3_fewestSets 75 = .ok (.putfield 28, 3) := by decide +kernel
theorem dX3_fewestSets_78 : decode cX3_fewestSets 78 = .ok (.aload_n 0, 1) := by decide +kernel
theorem dX3_fewestSets_79 : decode cX3_fewestSets 79 = .ok (.iconst 0, 1) := by decide +kernel
theorem dX3_fewestSets_80 : decode cX3_fewestSets 80 = .ok (.iconst 0, 1) := by decide +kernel
theorem dX3_fewestSets_81 : decode cX3_fewestSets 81 = .ok (.invokevirtual 31, 3) := by decide +kernel
theorem dX3_fewestSets_84 : decode cX3_fewestSets 84 = .ok (.aload_n 0, 1) := by decide +kernel
theorem dX3_fewestSets_85 : decode cX3_fewestSets 85 = .ok (.getfield 28, 3) := by decide +kernel
theorem dX3_fewestSets_88 : decode cX3_fewestSets 88 = .ok (.ireturn, 1) := by decide +kernel
theorem dX3_putFrom_0 : decode cX3_putFrom 0 = .ok (.iload_n 2, 1) := by decide +kernel
theorem dX3_putFrom_1 : decode cX3_putFrom 1 = .ok (.aload_n 0, 1) := by decide +kernel
theorem dX3_putFrom_2 : decode cX3_putFrom 2 = .ok (.getfield 28, 3) := by decide +kernel
theorem dX3_putFrom_5 : decode cX3_putFrom 5 = .ok (.if_icmp .lt 4, 3) := by decide +kernel
theorem dX3_putFrom_8 : decode cX3_putFrom 8 = .ok (.return_, 1) := by decide +kernel
theorem dX3_putFrom_9 : decode cX3_putFrom 9 = .ok (.iload_n 1, 1) := by decide +kernel
theorem dX3_putFrom_10 : decode cX3_putFrom 10 = .ok (.aload_n 0, 1) := by decide +kernel
theorem dX3_putFrom_11 : decode cX3_putFrom 11 = .ok (.getfield 24, 3) := by decide +kernel
theorem dX3_putFrom_14 : decode cX3_putFrom 14 = .ok (.if_icmp .lt 9, 3) := by decide +kernel
theorem dX3_putFrom_17 : decode cX3_putFrom 17 = .ok (.aload_n 0, 1) := by decide +kernel
theorem dX3_putFrom_18 : decode cX3_putFrom 18 = .ok (.iload_n 2, 1) := by decide +kernel
theorem dX3_putFrom_19 : decode cX3_putFrom 19 = .ok (.putfield 28, 3) := by decide +kernel
theorem dX3_putFrom_22 : decode cX3_putFrom 22 = .ok (.return_, 1) := by decide +kernel
theorem dX3_putFrom_23 : decode cX3_putFrom 23 = .ok (.iconst 0, 1) := by decide +kernel
theorem dX3_putFrom_24 : decode cX3_putFrom 24 = .ok (.istore_n 3, 1) := by decide +kernel
theorem dX3_putFrom_25 : decode cX3_putFrom 25 = .ok (.iload_n 3, 1) := by decide +kernel
theorem dX3_putFrom_26 : decode cX3_putFrom 26 = .ok (.iload_n 2, 1) := by decide +kernel
theorem dX3_putFrom_27 : decode cX3_putFrom 27 = .ok (.if_icmp .ge 61, 3) := by decide +kernel
theorem dX3_putFrom_30 : decode cX3_putFrom 30 = .ok (.aload_n 0, 1) := by decide +kernel
theorem dX3_putFrom_31 : decode cX3_putFrom 31 = .ok (.getfield 15, 3) := by decide +kernel
theorem dX3_putFrom_34 : decode cX3_putFrom 34 = .ok (.iload_n 3, 1) := by decide +kernel
theorem dX3_putFrom_35 : decode cX3_putFrom 35 = .ok (.iaload, 1) := by decide +kernel
theorem dX3_putFrom_36 : decode cX3_putFrom 36 = .ok (.aload_n 0, 1) := by decide +kernel
theorem dX3_putFrom_37 : decode cX3_putFrom 37 = .ok (.getfield 9, 3) := by decide +kernel
theorem dX3_putFrom_40 : decode cX3_putFrom 40 = .ok (.iload_n 1, 1) := by decide +kernel
theorem dX3_putFrom_41 : decode cX3_putFrom 41 = .ok (.iaload, 1) := by decide +kernel
theorem dX3_putFrom_42 : decode cX3_putFrom 42 = .ok (.iconst (-1), 1) := by decide +kernel
theorem dX3_putFrom_43 : decode cX3_putFrom 43 = .ok (.ixor, 1) := by decide +kernel
theorem dX3_putFrom_44 : decode cX3_putFrom 44 = .ok (.iand, 1) := by decide +kernel
theorem dX3_putFrom_45 : decode cX3_putFrom 45 = .ok (.ifCond .ne 37, 3) := by decide +kernel
theorem dX3_putFrom_48 : decode cX3_putFrom 48 = .ok (.aload_n 0, 1) := by decide +kernel
theorem dX3_putFrom_49 : decode cX3_putFrom 49 = .ok (.getfield 15, 3) := by decide +kernel
theorem dX3_putFrom_52 : decode cX3_putFrom 52 = .ok (.iload_n 3, 1) := by decide +kernel
theorem dX3_putFrom_53 : decode cX3_putFrom 53 = .ok (.dup2, 1) := by decide +kernel
theorem dX3_putFrom_54 : decode cX3_putFrom 54 = .ok (.iaload, 1) := by decide +kernel
theorem dX3_putFrom_55 : decode cX3_putFrom 55 = .ok (.iconst 1, 1) := by decide +kernel
theorem dX3_putFrom_56 : decode cX3_putFrom 56 = .ok (.iload_n 1, 1) := by decide +kernel
theorem dX3_putFrom_57 : decode cX3_putFrom 57 = .ok (.ishl, 1) := by decide +kernel
theorem dX3_putFrom_58 : decode cX3_putFrom 58 = .ok (.ior, 1) := by decide +kernel
theorem dX3_putFrom_59 : decode cX3_putFrom 59 = .ok (.iastore, 1) := by decide +kernel
theorem dX3_putFrom_60 : decode cX3_putFrom 60 = .ok (.aload_n 0, 1) := by decide +kernel
theorem dX3_putFrom_61 : decode cX3_putFrom 61 = .ok (.iload_n 1, 1) := by decide +kernel
theorem dX3_putFrom_62 : decode cX3_putFrom 62 = .ok (.iconst 1, 1) := by decide +kernel
theorem dX3_putFrom_63 : decode cX3_putFrom 63 = .ok (.iadd, 1) := by decide +kernel
theorem dX3_putFrom_64 : decode cX3_putFrom 64 = .ok (.iload_n 2, 1) := by decide +kernel
theorem dX3_putFrom_65 : decode cX3_putFrom 65 = .ok (.invokevirtual 31, 3) := by decide +kernel
theorem dX3_putFrom_68 : decode cX3_putFrom 68 = .ok (.aload_n 0, 1) := by decide +kernel
theorem dX3_putFrom_69 : decode cX3_putFrom 69 = .ok (.getfield 15, 3) := by decide +kernel
theorem dX3_putFrom_72 : decode cX3_putFrom 72 = .ok (.iload_n 3, 1) := by decide +kernel
theorem dX3_putFrom_73 : decode cX3_putFrom 73 = .ok (.dup2, 1) := by decide +kernel
theorem dX3_putFrom_74 : decode cX3_putFrom 74 = .ok (.iaload, 1) := by decide +kernel
theorem dX3_putFrom_75 : decode cX3_putFrom 75 = .ok (.iconst 1, 1) := by decide +kernel
theorem dX3_putFrom_76 : decode cX3_putFrom 76 = .ok (.iload_n 1, 1) := by decide +kernel
theorem dX3_putFrom_77 : decode cX3_putFrom 77 = .ok (.ishl, 1) := by decide +kernel
theorem dX3_putFrom_78 : decode cX3_putFrom 78 = .ok (.iconst (-1), 1) := by decide +kernel
theorem dX3_putFrom_79 : decode cX3_putFrom 79 = .ok (.ixor, 1) := by decide +kernel
theorem dX3_putFrom_80 : decode cX3_putFrom 80 = .ok (.iand, 1) := by decide +kernel
theorem dX3_putFrom_81 : decode cX3_putFrom 81 = .ok (.iastore, 1) := by decide +kernel
theorem dX3_putFrom_82 : decode cX3_putFrom 82 = .ok (.iinc 3 1, 3) := by decide +kernel
theorem dX3_putFrom_85 : decode cX3_putFrom 85 = .ok (.goto (-60), 3) := by decide +kernel
theorem dX3_putFrom_88 : decode cX3_putFrom 88 = .ok (.aload_n 0, 1) := by decide +kernel
theorem dX3_putFrom_89 : decode cX3_putFrom 89 = .ok (.getfield 15, 3) := by decide +kernel
theorem dX3_putFrom_92 : decode cX3_putFrom 92 = .ok (.iload_n 2, 1) := by decide +kernel
theorem dX3_putFrom_93 : decode cX3_putFrom 93 = .ok (.iconst 1, 1) := by decide +kernel
theorem dX3_putFrom_94 : decode cX3_putFrom 94 = .ok (.iload_n 1, 1) := by decide +kernel
theorem dX3_putFrom_95 : decode cX3_putFrom 95 = .ok (.ishl, 1) := by decide +kernel
theorem dX3_putFrom_96 : decode cX3_putFrom 96 = .ok (.iastore, 1) := by decide +kernel
theorem dX3_putFrom_97 : decode cX3_putFrom 97 = .ok (.aload_n 0, 1) := by decide +kernel
theorem dX3_putFrom_98 : decode cX3_putFrom 98 = .ok (.iload_n 1, 1) := by decide +kernel
theorem dX3_putFrom_99 : decode cX3_putFrom 99 = .ok (.iconst 1, 1) := by decide +kernel
theorem dX3_putFrom_100 : decode cX3_putFrom 100 = .ok (.iadd, 1) := by decide +kernel
theorem dX3_putFrom_101 : decode cX3_putFrom 101 = .ok (.iload_n 2, 1) := by decide +kernel
theorem dX3_putFrom_102 : decode cX3_putFrom 102 = .ok (.iconst 1, 1) := by decide +kernel
theorem dX3_putFrom_103 : decode cX3_putFrom 103 = .ok (.iadd, 1) := by decide +kernel
theorem dX3_putFrom_104 : decode cX3_putFrom 104 = .ok (.invokevirtual 31, 3) := by decide +kernel
theorem dX3_putFrom_107 : decode cX3_putFrom 107 = .ok (.return_, 1) := by decide +kernel
theorem dX4_init_0 : decode cX4_init 0 = .ok (.aload_n 0, 1) := by decide +kernel
theorem dX4_init_1 : decode cX4_init 1 = .ok (.invokespecial 3, 3) := by decide +kernel
theorem dX4_init_4 : decode cX4_init 4 = .ok (.aload_n 0, 1) := by decide +kernel
theorem dX4_init_5 : decode cX4_init 5 = .ok (.bipush 12, 2) := by decide +kernel
theorem dX4_init_7 : decode cX4_init 7 = .ok (.newarray .int, 2) := by decide +kernel
theorem dX4_init_9 : decode cX4_init 9 = .ok (.putfield 9, 3) := by decide +kernel
theorem dX4_init_12 : decode cX4_init 12 = .ok (.aload_n 0, 1) := by decide +kernel
theorem dX4_init_13 : decode cX4_init 13 = .ok (.iconst 0, 1) := by decide +kernel
theorem dX4_init_14 : decode cX4_init 14 = .ok (.putfield 15, 3) := by decide +kernel
theorem dX4_init_17 : decode cX4_init 17 = .ok (.aload_n 0, 1) := by decide +kernel
theorem dX4_init_18 : decode cX4_init 18 = .ok (.iconst 0, 1) := by decide +kernel
theorem dX4_init_19 : decode cX4_init 19 = .ok (.putfield 19, 3) := by decide +kernel
theorem dX4_init_22 : decode cX4_init 22 = .ok (.return_, 1) := by decide +kernel
theorem dX4_isMissing_0 : decode cX4_isMissing 0 = .ok (.aload_n 0, 1) := by decide +kernel
theorem dX4_isMissing_1 : decode cX4_isMissing 1 = .ok (.getfield 15, 3) := by decide +kernel
theorem dX4_isMissing_4 : decode cX4_isMissing 4 = .ok (.ifCond .ne 7, 3) := by decide +kernel
theorem dX4_isMissing_7 : decode cX4_isMissing 7 = .ok (.iconst 1, 1) := by decide +kernel
theorem dX4_isMissing_8 : decode cX4_isMissing 8 = .ok (.goto 4, 3) := by decide +kernel
theorem dX4_isMissing_11 : decode cX4_isMissing 11 = .ok (.iconst 0, 1) := by decide +kernel
theorem dX4_isMissing_12 : decode cX4_isMissing 12 = .ok (.ireturn, 1) := by decide +kernel
theorem dX4_begin_0 : decode cX4_begin 0 = .ok (.aload_n 0, 1) := by decide +kernel
theorem dX4_begin_1 : decode cX4_begin 1 = .ok (.iload_n 1, 1) := by decide +kernel
theorem dX4_begin_2 : decode cX4_begin 2 = .ok (.putfield 15, 3) := by decide +kernel
theorem dX4_begin_5 : decode cX4_begin 5 = .ok (.aload_n 0, 1) := by decide +kernel
theorem dX4_begin_6 : decode cX4_begin 6 = .ok (.iload_n 1, 1) := by decide +kernel
theorem dX4_begin_7 : decode cX4_begin 7 = .ok (.ifCond .ne 7, 3) := by decide +kernel
theorem dX4_begin_10 : decode cX4_begin 10 = .ok (.iconst 0, 1) := by decide +kernel
theorem dX4_begin_11 : decode cX4_begin 11 = .ok (.goto 4, 3) := by decide +kernel
theorem dX4_begin_14 : decode cX4_begin 14 = .ok (.iload_n 2, 1) := by decide +kernel
theorem dX4_begin_15 : decode cX4_begin 15 = .ok (.putfield 19, 3) := by decide +kernel
theorem dX4_begin_18 : decode cX4_begin 18 = .ok (.iconst 0, 1) := by decide +kernel
theorem dX4_begin_19 : decode cX4_begin 19 = .ok (.istore_n 3, 1) := by decide +kernel
theorem dX4_begin_20 : decode cX4_begin 20 = .ok (.iload_n 3, 1) := by decide +kernel
theorem dX4_begin_21 : decode cX4_begin 21 = .ok (.bipush 12, 2) := by decide +kernel
theorem dX4_begin_23 : decode cX4_begin 23 = .ok (.if_icmp .ge 16, 3) := by decide +kernel
theorem dX4_begin_26 : decode cX4_begin 26 = .ok (.aload_n 0, 1) := by decide +kernel
theorem dX4_begin_27 : decode cX4_begin 27 = .ok (.getfield 9, 3) := by decide +kernel
theorem dX4_begin_30 : decode cX4_begin 30 = .ok (.iload_n 3, 1) := by decide +kernel
theorem dX4_begin_31 : decode cX4_begin 31 = .ok (.iconst 0, 1) := by decide +kernel
theorem dX4_begin_32 : decode cX4_begin 32 = .ok (.iastore, 1) := by decide +kernel
theorem dX4_begin_33 : decode cX4_begin 33 = .ok (.iinc 3 1, 3) := by decide +kernel
theorem dX4_begin_36 : decode cX4_begin 36 = .ok (.goto (-16), 3) := by decide +kernel
theorem dX4_begin_39 : decode cX4_begin 39 = .ok (.return_, 1) := by decide +kernel
theorem dX4_replace_0 : decode cX4_replace 0 = .ok (.aload_n 0, 1) := by decide +kernel
theorem dX4_replace_1 : decode cX4_replace 1 = .ok (.getfield 9, 3) := by decide +kernel
theorem dX4_replace_4 : decode cX4_replace 4 = .ok (.iload_n 1, 1) := by decide +kernel
theorem dX4_replace_5 : decode cX4_replace 5 = .ok (.iaload, 1) := by decide +kernel
theorem dX4_replace_6 : decode cX4_replace 6 = .ok (.istore_n 3, 1) := by decide +kernel
theorem dX4_replace_7 : decode cX4_replace 7 = .ok (.aload_n 0, 1) := by decide +kernel
theorem dX4_replace_8 : decode cX4_replace 8 = .ok (.getfield 9, 3) := by decide +kernel
theorem dX4_replace_11 : decode cX4_replace 11 = .ok (.iload_n 1, 1) := by decide +kernel
theorem dX4_replace_12 : decode cX4_replace 12 = .ok (.aload_n 0, 1) := by decide +kernel
theorem dX4_replace_13 : decode cX4_replace 13 = .ok (.iload_n 2, 1) := by decide +kernel
theorem dX4_replace_14 : decode cX4_replace 14 = .ok (.invokevirtual 22, 3) := by decide +kernel
theorem dX4_replace_17 : decode cX4_replace 17 = .ok (.iastore, 1) := by decide +kernel
theorem dX4_replace_18 : decode cX4_replace 18 = .ok (.iload_n 3, 1) := by decide +kernel
theorem dX4_replace_19 : decode cX4_replace 19 = .ok (.ireturn, 1) := by decide +kernel
theorem dX4_lowestBits_0 : decode cX4_lowestBits 0 = .ok (.aload_n 0, 1) := by decide +kernel
theorem dX4_lowestBits_1 : decode cX4_lowestBits 1 = .ok (.getfield 15, 3) := by decide +kernel
theorem dX4_lowestBits_4 : decode cX4_lowestBits 4 = .ok (.bipush 8, 2) := by decide +kernel
theorem dX4_lowestBits_6 : decode cX4_lowestBits 6 = .ok (.if_icmp .ne 6, 3) := by decide +kernel
theorem dX4_lowestBits_9 : decode cX4_lowestBits 9 = .ok (.iload_n 1, 1) := by decide +kernel
theorem dX4_lowestBits_10 : decode cX4_lowestBits 10 = .ok (.i2b, 1) := by decide +kernel
theorem dX4_lowestBits_11 : decode cX4_lowestBits 11 = .ok (.ireturn, 1) := by decide +kernel
theorem dX4_lowestBits_12 : decode cX4_lowestBits 12 = .ok (.aload_n 0, 1) := by decide +kernel
theorem dX4_lowestBits_13 : decode cX4_lowestBits 13 = .ok (.getfield 15, 3) := by decide +kernel
theorem dX4_lowestBits_16 : decode cX4_lowestBits 16 = .ok (.bipush 16, 2) := by decide +kernel
theorem dX4_lowestBits_18 : decode cX4_lowestBits 18 = .ok (.if_icmp .ne 8, 3) := by decide +kernel
theorem dX4_lowestBits_21 : decode cX4_lowestBits 21 = .ok (.iload_n 1, 1) := by decide +kernel
theorem dX4_lowestBits_22 : decode cX4_lowestBits 22 = .ok (.i2s, 1) := by decide +kernel
theorem dX4_lowestBits_23 : decode cX4_lowestBits 23 = .ok (.goto 4, 3) := by decide +kernel
theorem dX4_lowestBits_26 : decode cX4_lowestBits 26 = .ok (.iload_n 1, 1) := by decide +kernel
theorem dX4_lowestBits_27 : decode cX4_lowestBits 27 = .ok (.ireturn, 1) := by decide +kernel
theorem dX4_hasRange_0 : decode cX4_hasRange 0 = .ok (.iload_n 1, 1) := by decide +kernel
theorem dX4_hasRange_1 : decode cX4_hasRange 1 = .ok (.ifCond .lt 21, 3) := by decide +kernel
theorem dX4_hasRange_4 : decode cX4_hasRange 4 = .ok (.iload_n 2, 1) := by decide +kernel
theorem dX4_hasRange_5 : decode cX4_hasRange 5 = .ok (.ifCond .lt 17, 3) := by decide +kernel
theorem dX4_hasRange_8 : decode cX4_hasRange 8 = .ok (.iload_n 2, 1) := by decide +kernel
theorem dX4_hasRange_9 : decode cX4_hasRange 9 = .ok (.aload_n 0, 1) := by decide +kernel
theorem dX4_hasRange_10 : decode cX4_hasRange 10 = .ok (.getfield 19, 3) := by decide +kernel
theorem dX4_hasRange_13 : decode cX4_hasRange 13 = .ok (.iload_n 1, 1) := by decide +kernel
theorem dX4_hasRange_14 : decode cX4_hasRange 14 = .ok (.isub, 1) := by decide +kernel
theorem dX4_hasRange_15 : decode cX4_hasRange 15 = .ok (.if_icmp .gt 7, 3) := by decide +kernel
theorem dX4_hasRange_18 : decode cX4_hasRange 18 = .ok (.iconst 1, 1) := by decide +kernel
theorem dX4_hasRange_19 : decode cX4_hasRange 19 = .ok (.goto 4, 3) := by decide +kernel
theorem dX4_hasRange_22 : decode cX4_hasRange 22 = .ok (.iconst 0, 1) := by decide +kernel
theorem dX4_hasRange_23 : decode cX4_hasRange 23 = .ok (.ireturn, 1) := by decide +kernel
theorem dX4_holdsPlacesAlone_0 : decode cX4_holdsPlacesAlone 0 = .ok (.iconst 0, 1) := by decide +kernel
theorem dX4_holdsPlacesAlone_1 : decode cX4_holdsPlacesAlone 1 = .ok (.istore_n 1, 1) := by decide +kernel
theorem dX4_holdsPlacesAlone_2 : decode cX4_holdsPlacesAlone 2 = .ok (.iload_n 1, 1) := by decide +kernel
theorem dX4_holdsPlacesAlone_3 : decode cX4_holdsPlacesAlone 3 = .ok (.aload_n 0, 1) := by decide +kernel
theorem dX4_holdsPlacesAlone_4 : decode cX4_holdsPlacesAlone 4 = .ok (.getfield 19, 3) := by decide +kernel
theorem dX4_holdsPlacesAlone_7 : decode cX4_holdsPlacesAlone 7 = .ok (.if_icmp .ge 23, 3) := by decide +kernel
theorem dX4_holdsPlacesAlone_10 : decode cX4_holdsPlacesAlone 10 = .ok (.aload_n 0, 1) := by decide +kernel
theorem dX4_holdsPlacesAlone_11 : decode cX4_holdsPlacesAlone 11 = .ok (.getfield 9, 3) := by decide +kernel
theorem dX4_holdsPlacesAlone_14 : decode cX4_holdsPlacesAlone 14 = .ok (.iload_n 1, 1) := by decide +kernel
theorem dX4_holdsPlacesAlone_15 : decode cX4_holdsPlacesAlone 15 = .ok (.iaload, 1) := by decide +kernel
theorem dX4_holdsPlacesAlone_16 : decode cX4_holdsPlacesAlone 16 = .ok (.invokestatic 26, 3) := by decide +kernel
theorem dX4_holdsPlacesAlone_19 : decode cX4_holdsPlacesAlone 19 = .ok (.ifCond .ne 5, 3) := by decide +kernel
theorem dX4_holdsPlacesAlone_22 : decode cX4_holdsPlacesAlone 22 = .ok (.iconst 0, 1) := by decide +kernel
theorem dX4_holdsPlacesAlone_23 : decode cX4_holdsPlacesAlone 23 = .ok (.ireturn, 1) := by decide +kernel
theorem dX4_holdsPlacesAlone_24 : decode cX4_holdsPlacesAlone 24 = .ok (.iinc 1 1, 3) := by decide +kernel
theorem dX4_holdsPlacesAlone_27 : decode cX4_holdsPlacesAlone 27 = .ok (.goto (-25), 3) := by decide +kernel
theorem dX4_holdsPlacesAlone_30 : decode cX4_holdsPlacesAlone 30 = .ok (.iconst 1, 1) := by decide +kernel
theorem dX4_holdsPlacesAlone_31 : decode cX4_holdsPlacesAlone 31 = .ok (.ireturn, 1) := by decide +kernel
theorem dX5_init_0 : decode cX5_init 0 = .ok (.aload_n 0, 1) := by decide +kernel
theorem dX5_init_1 : decode cX5_init 1 = .ok (.invokespecial 3, 3) := by decide +kernel
theorem dX5_init_4 : decode cX5_init 4 = .ok (.aload_n 0, 1) := by decide +kernel
theorem dX5_init_5 : decode cX5_init 5 = .ok (.bipush 6, 2) := by decide +kernel
theorem dX5_init_7 : decode cX5_init 7 = .ok (.newarray .int, 2) := by decide +kernel
theorem dX5_init_9 : decode cX5_init 9 = .ok (.putfield 9, 3) := by decide +kernel
theorem dX5_init_12 : decode cX5_init 12 = .ok (.aload_n 0, 1) := by decide +kernel
theorem dX5_init_13 : decode cX5_init 13 = .ok (.bipush 6, 2) := by decide +kernel
theorem dX5_init_15 : decode cX5_init 15 = .ok (.newarray .int, 2) := by decide +kernel
theorem dX5_init_17 : decode cX5_init 17 = .ok (.putfield 15, 3) := by decide +kernel
theorem dX5_init_20 : decode cX5_init 20 = .ok (.aload_n 0, 1) := by decide +kernel
theorem dX5_init_21 : decode cX5_init 21 = .ok (.bipush 6, 2) := by decide +kernel
theorem dX5_init_23 : decode cX5_init 23 = .ok (.newarray .int, 2) := by decide +kernel
theorem dX5_init_25 : decode cX5_init 25 = .ok (.putfield 18, 3) := by decide +kernel
theorem dX5_init_28 : decode cX5_init 28 = .ok (.return_, 1) := by decide +kernel
theorem dX5_countLook_0 : decode cX5_countLook 0 = .ok (.aload_n 0, 1) := by decide +kernel
theorem dX5_countLook_1 : decode cX5_countLook 1 = .ok (.getfield 15, 3) := by decide +kernel
theorem dX5_countLook_4 : decode cX5_countLook 4 = .ok (.iload_n 1, 1) := by decide +kernel
theorem dX5_countLook_5 : decode cX5_countLook 5 = .ok (.dup2, 1) := by decide +kernel
theorem dX5_countLook_6 : decode cX5_countLook 6 = .ok (.iaload, 1) := by decide +kernel
theorem dX5_countLook_7 : decode cX5_countLook 7 = .ok (.iconst 1, 1) := by decide +kernel
theorem dX5_countLook_8 : decode cX5_countLook 8 = .ok (.iadd, 1) := by decide +kernel
theorem dX5_countLook_9 : decode cX5_countLook 9 = .ok (.iastore, 1) := by decide +kernel
theorem dX5_countLook_10 : decode cX5_countLook 10 = .ok (.iload_n 2, 1) := by decide +kernel
theorem dX5_countLook_11 : decode cX5_countLook 11 = .ok (.ifCond .ne 13, 3) := by decide +kernel
theorem dX5_countLook_14 : decode cX5_countLook 14 = .ok (.aload_n 0, 1) := by decide +kernel
theorem dX5_countLook_15 : decode cX5_countLook 15 = .ok (.getfield 18, 3) := by decide +kernel
theorem dX5_countLook_18 : decode cX5_countLook 18 = .ok (.iload_n 1, 1) := by decide +kernel
theorem dX5_countLook_19 : decode cX5_countLook 19 = .ok (.dup2, 1) := by decide +kernel
theorem dX5_countLook_20 : decode cX5_countLook 20 = .ok (.iaload, 1) := by decide +kernel
theorem dX5_countLook_21 : decode cX5_countLook 21 = .ok (.iconst 1, 1) := by decide +kernel
theorem dX5_countLook_22 : decode cX5_countLook 22 = .ok (.iadd, 1) := by decide +kernel
theorem dX5_countLook_23 : decode cX5_countLook 23 = .ok (.iastore, 1) := by decide +kernel
theorem dX5_countLook_24 : decode cX5_countLook 24 = .ok (.return_, 1) := by decide +kernel
theorem dX5_allClosed_0 : decode cX5_allClosed 0 = .ok (.iconst 0, 1) := by decide +kernel
theorem dX5_allClosed_1 : decode cX5_allClosed 1 = .ok (.istore_n 1, 1) := by decide +kernel
theorem dX5_allClosed_2 : decode cX5_allClosed 2 = .ok (.iconst 0, 1) := by decide +kernel
theorem dX5_allClosed_3 : decode cX5_allClosed 3 = .ok (.istore_n 2, 1) := by decide +kernel
theorem dX5_allClosed_4 : decode cX5_allClosed 4 = .ok (.iload_n 2, 1) := by decide +kernel
theorem dX5_allClosed_5 : decode cX5_allClosed 5 = .ok (.bipush 6, 2) := by decide +kernel
theorem dX5_allClosed_7 : decode cX5_allClosed 7 = .ok (.if_icmp .ge 18, 3) := by decide +kernel
theorem dX5_allClosed_10 : decode cX5_allClosed 10 = .ok (.iload_n 1, 1) := by decide +kernel
theorem dX5_allClosed_11 : decode cX5_allClosed 11 = .ok (.aload_n 0, 1) := by decide +kernel
theorem dX5_allClosed_12 : decode cX5_allClosed 12 = .ok (.getfield 9, 3) := by decide +kernel
theorem dX5_allClosed_15 : decode cX5_allClosed 15 = .ok (.iload_n 2, 1) := by decide +kernel
theorem dX5_allClosed_16 : decode cX5_allClosed 16 = .ok (.iaload, 1) := by decide +kernel
theorem dX5_allClosed_17 : decode cX5_allClosed 17 = .ok (.iadd, 1) := by decide +kernel
theorem dX5_allClosed_18 : decode cX5_allClosed 18 = .ok (.istore_n 1, 1) := by decide +kernel
theorem dX5_allClosed_19 : decode cX5_allClosed 19 = .ok (.iinc 2 1, 3) := by decide +kernel
theorem dX5_allClosed_22 : decode cX5_allClosed 22 = .ok (.goto (-18), 3) := by decide +kernel
theorem dX5_allClosed_25 : decode cX5_allClosed 25 = .ok (.iload_n 1, 1) := by decide +kernel
theorem dX5_allClosed_26 : decode cX5_allClosed 26 = .ok (.ireturn, 1) := by decide +kernel
theorem dX5_detail_0 : decode cX5_detail 0 = .ok (.iload_n 2, 1) := by decide +kernel
theorem dX5_detail_1 : decode cX5_detail 1 = .ok (.tableswitch 48 0 2 #[27, 34, 41], 27) := by decide +kernel
theorem dX5_detail_28 : decode cX5_detail 28 = .ok (.aload_n 0, 1) := by decide +kernel
theorem dX5_detail_29 : decode cX5_detail 29 = .ok (.getfield 9, 3) := by decide +kernel
theorem dX5_detail_32 : decode cX5_detail 32 = .ok (.iload_n 1, 1) := by decide +kernel
theorem dX5_detail_33 : decode cX5_detail 33 = .ok (.iaload, 1) := by decide +kernel
theorem dX5_detail_34 : decode cX5_detail 34 = .ok (.ireturn, 1) := by decide +kernel
theorem dX5_detail_35 : decode cX5_detail 35 = .ok (.aload_n 0, 1) := by decide +kernel
theorem dX5_detail_36 : decode cX5_detail 36 = .ok (.getfield 15, 3) := by decide +kernel
theorem dX5_detail_39 : decode cX5_detail 39 = .ok (.iload_n 1, 1) := by decide +kernel
theorem dX5_detail_40 : decode cX5_detail 40 = .ok (.iaload, 1) := by decide +kernel
theorem dX5_detail_41 : decode cX5_detail 41 = .ok (.ireturn, 1) := by decide +kernel
theorem dX5_detail_42 : decode cX5_detail 42 = .ok (.aload_n 0, 1) := by decide +kernel
theorem dX5_detail_43 : decode cX5_detail 43 = .ok (.getfield 18, 3) := by decide +kernel
theorem dX5_detail_46 : decode cX5_detail 46 = .ok (.iload_n 1, 1) := by decide +kernel
theorem dX5_detail_47 : decode cX5_detail 47 = .ok (.iaload, 1) := by decide +kernel
theorem dX5_detail_48 : decode cX5_detail 48 = .ok (.ireturn, 1) := by decide +kernel
theorem dX5_detail_49 : decode cX5_detail 49 = .ok (.aload_n 0, 1) := by decide +kernel
theorem dX5_detail_50 : decode cX5_detail 50 = .ok (.getfield 18, 3) := by decide +kernel
theorem dX5_detail_53 : decode cX5_detail 53 = .ok (.iload_n 1, 1) := by decide +kernel
theorem dX5_detail_54 : decode cX5_detail 54 = .ok (.iaload, 1) := by decide +kernel
theorem dX5_detail_55 : decode cX5_detail 55 = .ok (.aload_n 0, 1) := by decide +kernel
theorem dX5_detail_56 : decode cX5_detail 56 = .ok (.getfield 9, 3) := by decide +kernel
theorem dX5_detail_59 : decode cX5_detail 59 = .ok (.iload_n 1, 1) := by decide +kernel
theorem dX5_detail_60 : decode cX5_detail 60 = .ok (.iaload, 1) := by decide +kernel
theorem dX5_detail_61 : decode cX5_detail 61 = .ok (.iadd, 1) := by decide +kernel
theorem dX5_detail_62 : decode cX5_detail 62 = .ok (.aload_n 0, 1) := by decide +kernel
theorem dX5_detail_63 : decode cX5_detail 63 = .ok (.getfield 15, 3) := by decide +kernel
theorem dX5_detail_66 : decode cX5_detail 66 = .ok (.iload_n 1, 1) := by decide +kernel
theorem dX5_detail_67 : decode cX5_detail 67 = .ok (.iaload, 1) := by decide +kernel
theorem dX5_detail_68 : decode cX5_detail 68 = .ok (.isub, 1) := by decide +kernel
theorem dX5_detail_69 : decode cX5_detail 69 = .ok (.ireturn, 1) := by decide +kernel
theorem dX6_init_0 : decode cX6_init 0 = .ok (.aload_n 0, 1) := by decide +kernel
theorem dX6_init_1 : decode cX6_init 1 = .ok (.invokespecial 1, 3) := by decide +kernel
theorem dX6_init_4 : decode cX6_init 4 = .ok (.aload_n 0, 1) := by decide +kernel
theorem dX6_init_5 : decode cX6_init 5 = .ok (.bipush 80, 2) := by decide +kernel
theorem dX6_init_7 : decode cX6_init 7 = .ok (.newarray .int, 2) := by decide +kernel
theorem dX6_init_9 : decode cX6_init 9 = .ok (.putfield 9, 3) := by decide +kernel
theorem dX6_init_12 : decode cX6_init 12 = .ok (.aload_n 0, 1) := by decide +kernel
theorem dX6_init_13 : decode cX6_init 13 = .ok (.iconst 0, 1) := by decide +kernel
theorem dX6_init_14 : decode cX6_init 14 = .ok (.putfield 13, 3) := by decide +kernel
theorem dX6_init_17 : decode cX6_init 17 = .ok (.return_, 1) := by decide +kernel
theorem dX6_append_0 : decode cX6_append 0 = .ok (.iconst 0, 1) := by decide +kernel
theorem dX6_append_1 : decode cX6_append 1 = .ok (.istore 4, 2) := by decide +kernel
theorem dX6_append_3 : decode cX6_append 3 = .ok (.iload 4, 2) := by decide +kernel
theorem dX6_append_5 : decode cX6_append 5 = .ok (.iload_n 3, 1) := by decide +kernel
theorem dX6_append_6 : decode cX6_append 6 = .ok (.if_icmp .ge 40, 3) := by decide +kernel
theorem dX6_append_9 : decode cX6_append 9 = .ok (.aload_n 0, 1) := by decide +kernel
theorem dX6_append_10 : decode cX6_append 10 = .ok (.getfield 9, 3) := by decide +kernel
theorem dX6_append_13 : decode cX6_append 13 = .ok (.aload_n 0, 1) := by decide +kernel
theorem dX6_append_14 : decode cX6_append 14 = .ok (.getfield 13, 3) := by decide +kernel
theorem dX6_append_17 : decode cX6_append 17 = .ok (.lload_n 1, 1) := by decide +kernel
theorem dX6_append_18 : decode cX6_append 18 = .ok (.bipush 8, 2) := by decide +kernel
theorem dX6_append_20 : decode cX6_append 20 = .ok (.iload 4, 2) := by decide +kernel
theorem dX6_append_22 : decode cX6_append 22 = .ok (.imul, 1) := by decide +kernel
theorem dX6_append_23 : decode cX6_append 23 = .ok (.lushr, 1) := by decide +kernel
theorem dX6_append_24 : decode cX6_append 24 = .ok (.l2i, 1) := by decide +kernel
theorem dX6_append_25 : decode cX6_append 25 = .ok (.sipush 255, 3) := by decide +kernel
theorem dX6_append_28 : decode cX6_append 28 = .ok (.iand, 1) := by decide +kernel
theorem dX6_append_29 : decode cX6_append 29 = .ok (.iastore, 1) := by decide +kernel
theorem dX6_append_30 : decode cX6_append 30 = .ok (.aload_n 0, 1) := by decide +kernel
theorem dX6_append_31 : decode cX6_append 31 = .ok (.dup, 1) := by decide +kernel
theorem dX6_append_32 : decode cX6_append 32 = .ok (.getfield 13, 3) := by decide +kernel
theorem dX6_append_35 : decode cX6_append 35 = .ok (.iconst 1, 1) := by decide +kernel
theorem dX6_append_36 : decode cX6_append 36 = .ok (.iadd, 1) := by decide +kernel
theorem dX6_append_37 : decode cX6_append 37 = .ok (.putfield 13, 3) := by decide +kernel
theorem dX6_append_40 : decode cX6_append 40 = .ok (.iinc 4 1, 3) := by decide +kernel
theorem dX6_append_43 : decode cX6_append 43 = .ok (.goto (-40), 3) := by decide +kernel
theorem dX6_append_46 : decode cX6_append 46 = .ok (.return_, 1) := by decide +kernel
theorem dX7_init_0 : decode cX7_init 0 = .ok (.aload_n 0, 1) := by decide +kernel
theorem dX7_init_1 : decode cX7_init 1 = .ok (.invokespecial 3, 3) := by decide +kernel
theorem dX7_init_4 : decode cX7_init 4 = .ok (.aload_n 0, 1) := by decide +kernel
theorem dX7_init_5 : decode cX7_init 5 = .ok (.bipush 40, 2) := by decide +kernel
theorem dX7_init_7 : decode cX7_init 7 = .ok (.newarray .int, 2) := by decide +kernel
theorem dX7_init_9 : decode cX7_init 9 = .ok (.putfield 9, 3) := by decide +kernel
theorem dX7_init_12 : decode cX7_init 12 = .ok (.aload_n 0, 1) := by decide +kernel
theorem dX7_init_13 : decode cX7_init 13 = .ok (.bipush 40, 2) := by decide +kernel
theorem dX7_init_15 : decode cX7_init 15 = .ok (.newarray .boolean, 2) := by decide +kernel
theorem dX7_init_17 : decode cX7_init 17 = .ok (.putfield 15, 3) := by decide +kernel
theorem dX7_init_20 : decode cX7_init 20 = .ok (.aload_n 0, 1) := by decide +kernel
theorem dX7_init_21 : decode cX7_init 21 = .ok (.bipush 40, 2) := by decide +kernel
theorem dX7_init_23 : decode cX7_init 23 = .ok (.newarray .int, 2) := by decide +kernel
theorem dX7_init_25 : decode cX7_init 25 = .ok (.putfield 19, 3) := by decide +kernel
theorem dX7_init_28 : decode cX7_init 28 = .ok (.aload_n 0, 1) := by decide +kernel
theorem dX7_init_29 : decode cX7_init 29 = .ok (.bipush 40, 2) := by decide +kernel
theorem dX7_init_31 : decode cX7_init 31 = .ok (.newarray .int, 2) := by decide +kernel
theorem dX7_init_33 : decode cX7_init 33 = .ok (.putfield 22, 3) := by decide +kernel
theorem dX7_init_36 : decode cX7_init 36 = .ok (.aload_n 0, 1) := by decide +kernel
theorem dX7_init_37 : decode cX7_init 37 = .ok (.bipush 40, 2) := by decide +kernel
theorem dX7_init_39 : decode cX7_init 39 = .ok (.newarray .int, 2) := by decide +kernel
theorem dX7_init_41 : decode cX7_init 41 = .ok (.putfield 25, 3) := by decide +kernel
theorem dX7_init_44 : decode cX7_init 44 = .ok (.aload_n 0, 1) := by decide +kernel
theorem dX7_init_45 : decode cX7_init 45 = .ok (.bipush 40, 2) := by decide +kernel
theorem dX7_init_47 : decode cX7_init 47 = .ok (.newarray .boolean, 2) := by decide +kernel
theorem dX7_init_49 : decode cX7_init 49 = .ok (.putfield 28, 3) := by decide +kernel
theorem dX7_init_52 : decode cX7_init 52 = .ok (.aload_n 0, 1) := by decide +kernel
theorem dX7_init_53 : decode cX7_init 53 = .ok (.iconst 0, 1) := by decide +kernel
theorem dX7_init_54 : decode cX7_init 54 = .ok (.putfield 31, 3) := by decide +kernel
theorem dX7_init_57 : decode cX7_init 57 = .ok (.return_, 1) := by decide +kernel
theorem dX7_begin_0 : decode cX7_begin 0 = .ok (.aload_n 0, 1) := by decide +kernel
theorem dX7_begin_1 : decode cX7_begin 1 = .ok (.getfield 31, 3) := by decide +kernel
theorem dX7_begin_4 : decode cX7_begin 4 = .ok (.istore_n 2, 1) := by decide +kernel
theorem dX7_begin_5 : decode cX7_begin 5 = .ok (.aload_n 0, 1) := by decide +kernel
theorem dX7_begin_6 : decode cX7_begin 6 = .ok (.getfield 9, 3) := by decide +kernel
theorem dX7_begin_9 : decode cX7_begin 9 = .ok (.iload_n 2, 1) := by decide +kernel
theorem dX7_begin_10 : decode cX7_begin 10 = .ok (.iload_n 1, 1) := by decide +kernel
theorem dX7_begin_11 : decode cX7_begin 11 = .ok (.iastore, 1) := by decide +kernel
theorem dX7_begin_12 : decode cX7_begin 12 = .ok (.aload_n 0, 1) := by decide +kernel
theorem dX7_begin_13 : decode cX7_begin 13 = .ok (.getfield 15, 3) := by decide +kernel
theorem dX7_begin_16 : decode cX7_begin 16 = .ok (.iload_n 2, 1) := by decide +kernel
theorem dX7_begin_17 : decode cX7_begin 17 = .ok (.iconst 1, 1) := by decide +kernel
theorem dX7_begin_18 : decode cX7_begin 18 = .ok (.bastore, 1) := by decide +kernel
theorem dX7_begin_19 : decode cX7_begin 19 = .ok (.aload_n 0, 1) := by decide +kernel
theorem dX7_begin_20 : decode cX7_begin 20 = .ok (.getfield 22, 3) := by decide +kernel
theorem dX7_begin_23 : decode cX7_begin 23 = .ok (.iload_n 2, 1) := by decide +kernel
theorem dX7_begin_24 : decode cX7_begin 24 = .ok (.iconst (-1), 1) := by decide +kernel
theorem dX7_begin_25 : decode cX7_begin 25 = .ok (.iastore, 1) := by decide +kernel
theorem dX7_begin_26 : decode cX7_begin 26 = .ok (.aload_n 0, 1) := by decide +kernel
theorem dX7_begin_27 : decode cX7_begin 27 = .ok (.dup, 1) := by decide +kernel
theorem dX7_begin_28 : decode cX7_begin 28 = .ok (.getfield 31, 3) := by decide +kernel
theorem dX7_begin_31 : decode cX7_begin 31 = .ok (.iconst 1, 1) := by decide +kernel
theorem dX7_begin_32 : decode cX7_begin 32 = .ok (.iadd, 1) := by decide +kernel
theorem dX7_begin_33 : decode cX7_begin 33 = .ok (.putfield 31, 3) := by decide +kernel
theorem dX7_begin_36 : decode cX7_begin 36 = .ok (.iload_n 2, 1) := by decide +kernel
theorem dX7_begin_37 : decode cX7_begin 37 = .ok (.ireturn, 1) := by decide +kernel
theorem dX7_shut_0 : decode cX7_shut 0 = .ok (.aload_n 0, 1) := by decide +kernel
theorem dX7_shut_1 : decode cX7_shut 1 = .ok (.getfield 15, 3) := by decide +kernel
theorem dX7_shut_4 : decode cX7_shut 4 = .ok (.iload_n 1, 1) := by decide +kernel
theorem dX7_shut_5 : decode cX7_shut 5 = .ok (.iconst 0, 1) := by decide +kernel
theorem dX7_shut_6 : decode cX7_shut 6 = .ok (.bastore, 1) := by decide +kernel
theorem dX7_shut_7 : decode cX7_shut 7 = .ok (.aload_n 0, 1) := by decide +kernel
theorem dX7_shut_8 : decode cX7_shut 8 = .ok (.getfield 19, 3) := by decide +kernel
theorem dX7_shut_11 : decode cX7_shut 11 = .ok (.iload_n 1, 1) := by decide +kernel
theorem dX7_shut_12 : decode cX7_shut 12 = .ok (.dup2, 1) := by decide +kernel
theorem dX7_shut_13 : decode cX7_shut 13 = .ok (.iaload, 1) := by decide +kernel
theorem dX7_shut_14 : decode cX7_shut 14 = .ok (.iconst 1, 1) := by decide +kernel
theorem dX7_shut_15 : decode cX7_shut 15 = .ok (.iadd, 1) := by decide +kernel
theorem dX7_shut_16 : decode cX7_shut 16 = .ok (.iastore, 1) := by decide +kernel
theorem dX7_shut_17 : decode cX7_shut 17 = .ok (.aload_n 0, 1) := by decide +kernel
theorem dX7_shut_18 : decode cX7_shut 18 = .ok (.getfield 22, 3) := by decide +kernel
theorem dX7_shut_21 : decode cX7_shut 21 = .ok (.iload_n 1, 1) := by decide +kernel
theorem dX7_shut_22 : decode cX7_shut 22 = .ok (.iload_n 2, 1) := by decide +kernel
theorem dX7_shut_23 : decode cX7_shut 23 = .ok (.iastore, 1) := by decide +kernel
theorem dX7_shut_24 : decode cX7_shut 24 = .ok (.aload_n 0, 1) := by decide +kernel
theorem dX7_shut_25 : decode cX7_shut 25 = .ok (.getfield 25, 3) := by decide +kernel
theorem dX7_shut_28 : decode cX7_shut 28 = .ok (.iload_n 1, 1) := by decide +kernel
theorem dX7_shut_29 : decode cX7_shut 29 = .ok (.iload_n 3, 1) := by decide +kernel
theorem dX7_shut_30 : decode cX7_shut 30 = .ok (.iastore, 1) := by decide +kernel
theorem dX7_shut_31 : decode cX7_shut 31 = .ok (.aload_n 0, 1) := by decide +kernel
theorem dX7_shut_32 : decode cX7_shut 32 = .ok (.getfield 28, 3) := by decide +kernel
theorem dX7_shut_35 : decode cX7_shut 35 = .ok (.iload_n 1, 1) := by decide +kernel
theorem dX7_shut_36 : decode cX7_shut 36 = .ok (.iconst 0, 1) := by decide +kernel
theorem dX7_shut_37 : decode cX7_shut 37 = .ok (.bastore, 1) := by decide +kernel
theorem dX7_shut_38 : decode cX7_shut 38 = .ok (.return_, 1) := by decide +kernel
theorem dX7_countOpen_0 : decode cX7_countOpen 0 = .ok (.iconst 0, 1) := by decide +kernel
theorem dX7_countOpen_1 : decode cX7_countOpen 1 = .ok (.istore_n 1, 1) := by decide +kernel
theorem dX7_countOpen_2 : decode cX7_countOpen 2 = .ok (.iconst 0, 1) := by decide +kernel
theorem dX7_countOpen_3 : decode cX7_countOpen 3 = .ok (.istore_n 2, 1) := by decide +kernel
theorem dX7_countOpen_4 : decode cX7_countOpen 4 = .ok (.iload_n 2, 1) := by decide +kernel
theorem dX7_countOpen_5 : decode cX7_countOpen 5 = .ok (.aload_n 0, 1) := by decide +kernel
theorem dX7_countOpen_6 : decode cX7_countOpen 6 = .ok (.getfield 31, 3) := by decide +kernel
theorem dX7_countOpen_9 : decode cX7_countOpen 9 = .ok (.if_icmp .ge 21, 3) := by decide +kernel
theorem dX7_countOpen_12 : decode cX7_countOpen 12 = .ok (.aload_n 0, 1) := by decide +kernel
theorem dX7_countOpen_13 : decode cX7_countOpen 13 = .ok (.getfield 15, 3) := by decide +kernel
theorem dX7_countOpen_16 : decode cX7_countOpen 16 = .ok (.iload_n 2, 1) := by decide +kernel
theorem dX7_countOpen_17 : decode cX7_countOpen 17 = .ok (.baload, 1) := by decide +kernel
theorem dX7_countOpen_18 : decode cX7_countOpen 18 = .ok (.ifCond .eq 6, 3) := by decide +kernel
theorem dX7_countOpen_21 : decode cX7_countOpen 21 = .ok (.iinc 1 1, 3) := by decide +kernel
theorem dX7_countOpen_24 : decode cX7_countOpen 24 = .ok (.iinc 2 1, 3) := by decide +kernel
theorem dX7_countOpen_27 : decode cX7_countOpen 27 = .ok (.goto (-23), 3) := by decide +kernel
theorem dX7_countOpen_30 : decode cX7_countOpen 30 = .ok (.iload_n 1, 1) := by decide +kernel
theorem dX7_countOpen_31 : decode cX7_countOpen 31 = .ok (.ireturn, 1) := by decide +kernel
theorem dJ6_bitCount_0f7a4_0 : decode cJ6_bitCount_0f7a4 0 = .ok (.iload_n 0, 1) := by decide +kernel
theorem dJ6_bitCount_0f7a4_1 : decode cJ6_bitCount_0f7a4 1 = .ok (.iload_n 0, 1) := by decide +kernel
theorem dJ6_bitCount_0f7a4_2 : decode cJ6_bitCount_0f7a4 2 = .ok (.iconst 1, 1) := by decide +kernel
theorem dJ6_bitCount_0f7a4_3 : decode cJ6_bitCount_0f7a4 3 = .ok (.iushr, 1) := by decide +kernel
theorem dJ6_bitCount_0f7a4_4 : decode cJ6_bitCount_0f7a4 4 = .ok (.ldc_w 265, 3) := by decide +kernel
theorem dJ6_bitCount_0f7a4_7 : decode cJ6_bitCount_0f7a4 7 = .ok (.iand, 1) := by decide +kernel
theorem dJ6_bitCount_0f7a4_8 : decode cJ6_bitCount_0f7a4 8 = .ok (.isub, 1) := by decide +kernel
theorem dJ6_bitCount_0f7a4_9 : decode cJ6_bitCount_0f7a4 9 = .ok (.istore_n 0, 1) := by decide +kernel
theorem dJ6_bitCount_0f7a4_10 : decode cJ6_bitCount_0f7a4 10 = .ok (.iload_n 0, 1) := by decide +kernel
theorem dJ6_bitCount_0f7a4_11 : decode cJ6_bitCount_0f7a4 11 = .ok (.ldc_w 266, 3) := by decide +kernel
theorem dJ6_bitCount_0f7a4_14 : decode cJ6_bitCount_0f7a4 14 = .ok (.iand, 1) := by decide +kernel
theorem dJ6_bitCount_0f7a4_15 : decode cJ6_bitCount_0f7a4 15 = .ok (.iload_n 0, 1) := by decide +kernel
theorem dJ6_bitCount_0f7a4_16 : decode cJ6_bitCount_0f7a4 16 = .ok (.iconst 2, 1) := by decide +kernel
theorem dJ6_bitCount_0f7a4_17 : decode cJ6_bitCount_0f7a4 17 = .ok (.iushr, 1) := by decide +kernel
theorem dJ6_bitCount_0f7a4_18 : decode cJ6_bitCount_0f7a4 18 = .ok (.ldc_w 266, 3) := by decide +kernel
theorem dJ6_bitCount_0f7a4_21 : decode cJ6_bitCount_0f7a4 21 = .ok (.iand, 1) := by decide +kernel
theorem dJ6_bitCount_0f7a4_22 : decode cJ6_bitCount_0f7a4 22 = .ok (.iadd, 1) := by decide +kernel
theorem dJ6_bitCount_0f7a4_23 : decode cJ6_bitCount_0f7a4 23 = .ok (.istore_n 0, 1) := by decide +kernel
theorem dJ6_bitCount_0f7a4_24 : decode cJ6_bitCount_0f7a4 24 = .ok (.iload_n 0, 1) := by decide +kernel
theorem dJ6_bitCount_0f7a4_25 : decode cJ6_bitCount_0f7a4 25 = .ok (.iload_n 0, 1) := by decide +kernel
theorem dJ6_bitCount_0f7a4_26 : decode cJ6_bitCount_0f7a4 26 = .ok (.iconst 4, 1) := by decide +kernel
theorem dJ6_bitCount_0f7a4_27 : decode cJ6_bitCount_0f7a4 27 = .ok (.iushr, 1) := by decide +kernel
theorem dJ6_bitCount_0f7a4_28 : decode cJ6_bitCount_0f7a4 28 = .ok (.iadd, 1) := by decide +kernel
theorem dJ6_bitCount_0f7a4_29 : decode cJ6_bitCount_0f7a4 29 = .ok (.ldc_w 267, 3) := by decide +kernel
theorem dJ6_bitCount_0f7a4_32 : decode cJ6_bitCount_0f7a4 32 = .ok (.iand, 1) := by decide +kernel
theorem dJ6_bitCount_0f7a4_33 : decode cJ6_bitCount_0f7a4 33 = .ok (.istore_n 0, 1) := by decide +kernel
theorem dJ6_bitCount_0f7a4_34 : decode cJ6_bitCount_0f7a4 34 = .ok (.iload_n 0, 1) := by decide +kernel
theorem dJ6_bitCount_0f7a4_35 : decode cJ6_bitCount_0f7a4 35 = .ok (.iload_n 0, 1) := by decide +kernel
theorem dJ6_bitCount_0f7a4_36 : decode cJ6_bitCount_0f7a4 36 = .ok (.bipush 8, 2) := by decide +kernel
theorem dJ6_bitCount_0f7a4_38 : decode cJ6_bitCount_0f7a4 38 = .ok (.iushr, 1) := by decide +kernel
theorem dJ6_bitCount_0f7a4_39 : decode cJ6_bitCount_0f7a4 39 = .ok (.iadd, 1) := by decide +kernel
theorem dJ6_bitCount_0f7a4_40 : decode cJ6_bitCount_0f7a4 40 = .ok (.istore_n 0, 1) := by decide +kernel
theorem dJ6_bitCount_0f7a4_41 : decode cJ6_bitCount_0f7a4 41 = .ok (.iload_n 0, 1) := by decide +kernel
theorem dJ6_bitCount_0f7a4_42 : decode cJ6_bitCount_0f7a4 42 = .ok (.iload_n 0, 1) := by decide +kernel
theorem dJ6_bitCount_0f7a4_43 : decode cJ6_bitCount_0f7a4 43 = .ok (.bipush 16, 2) := by decide +kernel
theorem dJ6_bitCount_0f7a4_45 : decode cJ6_bitCount_0f7a4 45 = .ok (.iushr, 1) := by decide +kernel
theorem dJ6_bitCount_0f7a4_46 : decode cJ6_bitCount_0f7a4 46 = .ok (.iadd, 1) := by decide +kernel
theorem dJ6_bitCount_0f7a4_47 : decode cJ6_bitCount_0f7a4 47 = .ok (.istore_n 0, 1) := by decide +kernel
theorem dJ6_bitCount_0f7a4_48 : decode cJ6_bitCount_0f7a4 48 = .ok (.iload_n 0, 1) := by decide +kernel
theorem dJ6_bitCount_0f7a4_49 : decode cJ6_bitCount_0f7a4 49 = .ok (.bipush 63, 2) := by decide +kernel
theorem dJ6_bitCount_0f7a4_51 : decode cJ6_bitCount_0f7a4 51 = .ok (.iand, 1) := by decide +kernel
theorem dJ6_bitCount_0f7a4_52 : decode cJ6_bitCount_0f7a4 52 = .ok (.ireturn, 1) := by decide +kernel
theorem dJ9_abs_0f7a4_0 : decode cJ9_abs_0f7a4 0 = .ok (.iload_n 0, 1) := by decide +kernel
theorem dJ9_abs_0f7a4_1 : decode cJ9_abs_0f7a4 1 = .ok (.ifCond .ge 8, 3) := by decide +kernel
theorem dJ9_abs_0f7a4_4 : decode cJ9_abs_0f7a4 4 = .ok (.iload_n 0, 1) := by decide +kernel
theorem dJ9_abs_0f7a4_5 : decode cJ9_abs_0f7a4 5 = .ok (.ineg, 1) := by decide +kernel
theorem dJ9_abs_0f7a4_6 : decode cJ9_abs_0f7a4 6 = .ok (.goto 4, 3) := by decide +kernel
theorem dJ9_abs_0f7a4_9 : decode cJ9_abs_0f7a4 9 = .ok (.iload_n 0, 1) := by decide +kernel
theorem dJ9_abs_0f7a4_10 : decode cJ9_abs_0f7a4 10 = .ok (.ireturn, 1) := by decide +kernel
end
section
theorem dX8_init_0 : decode cX8_init 0 = .ok (.aload_n 0, 1) := by decide +kernel
theorem dX8_init_1 : decode cX8_init 1 = .ok (.invokespecial 1, 3) := by decide +kernel
theorem dX8_init_4 : decode cX8_init 4 = .ok (.aload_n 0, 1) := by decide +kernel
theorem dX8_init_5 : decode cX8_init 5 = .ok (.new 7, 3) := by decide +kernel
theorem dX8_init_8 : decode cX8_init 8 = .ok (.dup, 1) := by decide +kernel
theorem dX8_init_9 : decode cX8_init 9 = .ok (.invokespecial 9, 3) := by decide +kernel
theorem dX8_init_12 : decode cX8_init 12 = .ok (.putfield 10, 3) := by decide +kernel
theorem dX8_init_15 : decode cX8_init 15 = .ok (.aload_n 0, 1) := by decide +kernel
theorem dX8_init_16 : decode cX8_init 16 = .ok (.new 16, 3) := by decide +kernel
theorem dX8_init_19 : decode cX8_init 19 = .ok (.dup, 1) := by decide +kernel
theorem dX8_init_20 : decode cX8_init 20 = .ok (.invokespecial 18, 3) := by decide +kernel
theorem dX8_init_23 : decode cX8_init 23 = .ok (.putfield 19, 3) := by decide +kernel
theorem dX8_init_26 : decode cX8_init 26 = .ok (.aload_n 0, 1) := by decide +kernel
theorem dX8_init_27 : decode cX8_init 27 = .ok (.new 23, 3) := by decide +kernel
theorem dX8_init_30 : decode cX8_init 30 = .ok (.dup, 1) := by decide +kernel
theorem dX8_init_31 : decode cX8_init 31 = .ok (.invokespecial 25, 3) := by decide +kernel
theorem dX8_init_34 : decode cX8_init 34 = .ok (.putfield 26, 3) := by decide +kernel
theorem dX8_init_37 : decode cX8_init 37 = .ok (.aload_n 0, 1) := by decide +kernel
theorem dX8_init_38 : decode cX8_init 38 = .ok (.new 30, 3) := by decide +kernel
theorem dX8_init_41 : decode cX8_init 41 = .ok (.dup, 1) := by decide +kernel
theorem dX8_init_42 : decode cX8_init 42 = .ok (.invokespecial 32, 3) := by decide +kernel
theorem dX8_init_45 : decode cX8_init 45 = .ok (.putfield 33, 3) := by decide +kernel
theorem dX8_init_48 : decode cX8_init 48 = .ok (.aload_n 0, 1) := by decide +kernel
theorem dX8_init_49 : decode cX8_init 49 = .ok (.new 37, 3) := by decide +kernel
theorem dX8_init_52 : decode cX8_init 52 = .ok (.dup, 1) := by decide +kernel
theorem dX8_init_53 : decode cX8_init 53 = .ok (.invokespecial 39, 3) := by decide +kernel
theorem dX8_init_56 : decode cX8_init 56 = .ok (.putfield 40, 3) := by decide +kernel
theorem dX8_init_59 : decode cX8_init 59 = .ok (.aload_n 0, 1) := by decide +kernel
theorem dX8_init_60 : decode cX8_init 60 = .ok (.new 44, 3) := by decide +kernel
theorem dX8_init_63 : decode cX8_init 63 = .ok (.dup, 1) := by decide +kernel
theorem dX8_init_64 : decode cX8_init 64 = .ok (.invokespecial 46, 3) := by decide +kernel
theorem dX8_init_67 : decode cX8_init 67 = .ok (.putfield 47, 3) := by decide +kernel
theorem dX8_init_70 : decode cX8_init 70 = .ok (.aload_n 0, 1) := by decide +kernel
theorem dX8_init_71 : decode cX8_init 71 = .ok (.iconst 5, 1) := by decide +kernel
theorem dX8_init_72 : decode cX8_init 72 = .ok (.newarray .int, 2) := by decide +kernel
theorem dX8_init_74 : decode cX8_init 74 = .ok (.dup, 1) := by decide +kernel
theorem dX8_init_75 : decode cX8_init 75 = .ok (.iconst 0, 1) := by decide +kernel
theorem dX8_init_76 : decode cX8_init 76 = .ok (.iconst 4, 1) := by decide +kernel
theorem dX8_init_77 : decode cX8_init 77 = .ok (.iastore, 1) := by decide +kernel
theorem dX8_init_78 : decode cX8_init 78 = .ok (.dup, 1) := by decide +kernel
theorem dX8_init_79 : decode cX8_init 79 = .ok (.iconst 1, 1) := by decide +kernel
theorem dX8_init_80 : decode cX8_init 80 = .ok (.iconst 4, 1) := by decide +kernel
theorem dX8_init_81 : decode cX8_init 81 = .ok (.iastore, 1) := by decide +kernel
theorem dX8_init_82 : decode cX8_init 82 = .ok (.dup, 1) := by decide +kernel
theorem dX8_init_83 : decode cX8_init 83 = .ok (.iconst 2, 1) := by decide +kernel
theorem dX8_init_84 : decode cX8_init 84 = .ok (.iconst 4, 1) := by decide +kernel
theorem dX8_init_85 : decode cX8_init 85 = .ok (.iastore, 1) := by decide +kernel
theorem dX8_init_86 : decode cX8_init 86 = .ok (.dup, 1) := by decide +kernel
theorem dX8_init_87 : decode cX8_init 87 = .ok (.iconst 3, 1) := by decide +kernel
theorem dX8_init_88 : decode cX8_init 88 = .ok (.iconst 4, 1) := by decide +kernel
theorem dX8_init_89 : decode cX8_init 89 = .ok (.iastore, 1) := by decide +kernel
theorem dX8_init_90 : decode cX8_init 90 = .ok (.dup, 1) := by decide +kernel
theorem dX8_init_91 : decode cX8_init 91 = .ok (.iconst 4, 1) := by decide +kernel
theorem dX8_init_92 : decode cX8_init 92 = .ok (.iconst 4, 1) := by decide +kernel
theorem dX8_init_93 : decode cX8_init 93 = .ok (.iastore, 1) := by decide +kernel
theorem dX8_init_94 : decode cX8_init 94 = .ok (.putfield 51, 3) := by decide +kernel
theorem dX8_init_97 : decode cX8_init 97 = .ok (.aload_n 0, 1) := by decide +kernel
theorem dX8_init_98 : decode cX8_init 98 = .ok (.new 55, 3) := by decide +kernel
theorem dX8_init_101 : decode cX8_init 101 = .ok (.dup, 1) := by decide +kernel
theorem dX8_init_102 : decode cX8_init 102 = .ok (.invokespecial 57, 3) := by decide +kernel
theorem dX8_init_105 : decode cX8_init 105 = .ok (.putfield 58, 3) := by decide +kernel
theorem dX8_init_108 : decode cX8_init 108 = .ok (.aload_n 0, 1) := by decide +kernel
theorem dX8_init_109 : decode cX8_init 109 = .ok (.iconst 4, 1) := by decide +kernel
theorem dX8_init_110 : decode cX8_init 110 = .ok (.newarray .int, 2) := by decide +kernel
theorem dX8_init_112 : decode cX8_init 112 = .ok (.putfield 62, 3) := by decide +kernel
theorem dX8_init_115 : decode cX8_init 115 = .ok (.aload_n 0, 1) := by decide +kernel
theorem dX8_init_116 : decode cX8_init 116 = .ok (.iconst 4, 1) := by decide +kernel
theorem dX8_init_117 : decode cX8_init 117 = .ok (.newarray .int, 2) := by decide +kernel
theorem dX8_init_119 : decode cX8_init 119 = .ok (.putfield 65, 3) := by decide +kernel
theorem dX8_init_122 : decode cX8_init 122 = .ok (.aload_n 0, 1) := by decide +kernel
theorem dX8_init_123 : decode cX8_init 123 = .ok (.iconst 4, 1) := by decide +kernel
theorem dX8_init_124 : decode cX8_init 124 = .ok (.anewarray 68, 3) := by decide +kernel
theorem dX8_init_127 : decode cX8_init 127 = .ok (.putfield 70, 3) := by decide +kernel
theorem dX8_init_130 : decode cX8_init 130 = .ok (.iconst 0, 1) := by decide +kernel
theorem dX8_init_131 : decode cX8_init 131 = .ok (.istore_n 1, 1) := by decide +kernel
theorem dX8_init_132 : decode cX8_init 132 = .ok (.iload_n 1, 1) := by decide +kernel
theorem dX8_init_133 : decode cX8_init 133 = .ok (.iconst 4, 1) := by decide +kernel
theorem dX8_init_134 : decode cX8_init 134 = .ok (.if_icmp .ge 22, 3) := by decide +kernel
theorem dX8_init_137 : decode cX8_init 137 = .ok (.aload_n 0, 1) := by decide +kernel
theorem dX8_init_138 : decode cX8_init 138 = .ok (.getfield 70, 3) := by decide +kernel
theorem dX8_init_141 : decode cX8_init 141 = .ok (.iload_n 1, 1) := by decide +kernel
theorem dX8_init_142 : decode cX8_init 142 = .ok (.new 68, 3) := by decide +kernel
theorem dX8_init_145 : decode cX8_init 145 = .ok (.dup, 1) := by decide +kernel
theorem dX8_init_146 : decode cX8_init 146 = .ok (.invokespecial 74, 3) := by decide +kernel
theorem dX8_init_149 : decode cX8_init 149 = .ok (.aastore, 1) := by decide +kernel
theorem dX8_init_150 : decode cX8_init 150 = .ok (.iinc 1 1, 3) := by decide +kernel
theorem dX8_init_153 : decode cX8_init 153 = .ok (.goto (-21), 3) := by decide +kernel
theorem dX8_init_156 : decode cX8_init 156 = .ok (.aload_n 0, 1) := by decide +kernel
theorem dX8_init_157 : decode cX8_init 157 = .ok (.iconst 0, 1) := by decide +kernel
theorem dX8_init_158 : decode cX8_init 158 = .ok (.putfield 75, 3) := by decide +kernel
theorem dX8_init_161 : decode cX8_init 161 = .ok (.return_, 1) := by decide +kernel
theorem dX8_ask_0 : decode cX8_ask 0 = .ok (.iload_n 2, 1) := by decide +kernel
theorem dX8_ask_1 : decode cX8_ask 1 = .ok (.iconst 0, 1) := by decide +kernel
theorem dX8_ask_2 : decode cX8_ask 2 = .ok (.bipush 31, 2) := by decide +kernel
theorem dX8_ask_4 : decode cX8_ask 4 = .ok (.invokestatic 79, 3) := by decide +kernel
theorem dX8_ask_7 : decode cX8_ask 7 = .ok (.ifCond .eq 17, 3) := by decide +kernel
theorem dX8_ask_10 : decode cX8_ask 10 = .ok (.iload_n 3, 1) := by decide +kernel
theorem dX8_ask_11 : decode cX8_ask 11 = .ok (.iconst 0, 1) := by decide +kernel
theorem dX8_ask_12 : decode cX8_ask 12 = .ok (.bipush 31, 2) := by decide +kernel
theorem dX8_ask_14 : decode cX8_ask 14 = .ok (.invokestatic 79, 3) := by decide +kernel
theorem dX8_ask_17 : decode cX8_ask 17 = .ok (.ifCond .eq 7, 3) := by decide +kernel
theorem dX8_ask_20 : decode cX8_ask 20 = .ok (.iconst 1, 1) := by decide +kernel
theorem dX8_ask_21 : decode cX8_ask 21 = .ok (.goto 4, 3) := by decide +kernel
theorem dX8_ask_24 : decode cX8_ask 24 = .ok (.iconst 0, 1) := by decide +kernel
theorem dX8_ask_25 : decode cX8_ask 25 = .ok (.istore 6, 2) := by decide +kernel
theorem dX8_ask_27 : decode cX8_ask 27 = .ok (.iload_n 1, 1) := by decide +kernel
theorem dX8_ask_28 : decode cX8_ask 28 = .ok (.invokestatic 83, 3) := by decide +kernel
theorem dX8_ask_31 : decode cX8_ask 31 = .ok (.ifCond .eq 28, 3) := by decide +kernel
theorem dX8_ask_34 : decode cX8_ask 34 = .ok (.iload 6, 2) := by decide +kernel
theorem dX8_ask_36 : decode cX8_ask 36 = .ok (.ifCond .eq 23, 3) := by decide +kernel
theorem dX8_ask_39 : decode cX8_ask 39 = .ok (.iload 4, 2) := by decide +kernel
theorem dX8_ask_41 : decode cX8_ask 41 = .ok (.iconst 0, 1) := by decide +kernel
theorem dX8_ask_42 : decode cX8_ask 42 = .ok (.bipush 9, 2) := by decide +kernel
theorem dX8_ask_44 : decode cX8_ask 44 = .ok (.invokestatic 79, 3) := by decide +kernel
theorem dX8_ask_47 : decode cX8_ask 47 = .ok (.ifCond .eq 12, 3) := by decide +kernel
theorem dX8_ask_50 : decode cX8_ask 50 = .ok (.aload_n 0, 1) := by decide +kernel
theorem dX8_ask_51 : decode cX8_ask 51 = .ok (.iload 5, 2) := by decide +kernel
theorem dX8_ask_53 : decode cX8_ask 53 = .ok (.invokevirtual 87, 3) := by decide +kernel
theorem dX8_ask_56 : decode cX8_ask 56 = .ok (.ifCond .ne 10, 3) := by decide +kernel
theorem dX8_ask_59 : decode cX8_ask 59 = .ok (.aload_n 0, 1) := by decide +kernel
theorem dX8_ask_60 : decode cX8_ask 60 = .ok (.ldc 90, 2) := by decide +kernel
theorem dX8_ask_62 : decode cX8_ask 62 = .ok (.invokevirtual 91, 3) := by decide +kernel
theorem dX8_ask_65 : decode cX8_ask 65 = .ok (.ireturn, 1) := by decide +kernel
theorem dX8_ask_66 : decode cX8_ask 66 = .ok (.aload_n 0, 1) := by decide +kernel
theorem dX8_ask_67 : decode cX8_ask 67 = .ok (.getfield 10, 3) := by decide +kernel
theorem dX8_ask_70 : decode cX8_ask 70 = .ok (.getfield 95, 3) := by decide +kernel
theorem dX8_ask_73 : decode cX8_ask 73 = .ok (.bipush 40, 2) := by decide +kernel
theorem dX8_ask_75 : decode cX8_ask 75 = .ok (.if_icmp .lt 10, 3) := by decide +kernel
theorem dX8_ask_78 : decode cX8_ask 78 = .ok (.aload_n 0, 1) := by decide +kernel
theorem dX8_ask_79 : decode cX8_ask 79 = .ok (.ldc 98, 2) := by decide +kernel
theorem dX8_ask_81 : decode cX8_ask 81 = .ok (.invokevirtual 91, 3) := by decide +kernel
theorem dX8_ask_84 : decode cX8_ask 84 = .ok (.ireturn, 1) := by decide +kernel
theorem dX8_ask_85 : decode cX8_ask 85 = .ok (.aload_n 0, 1) := by decide +kernel
theorem dX8_ask_86 : decode cX8_ask 86 = .ok (.iload_n 1, 1) := by decide +kernel
theorem dX8_ask_87 : decode cX8_ask 87 = .ok (.iload_n 2, 1) := by decide +kernel
theorem dX8_ask_88 : decode cX8_ask 88 = .ok (.iload_n 3, 1) := by decide +kernel
theorem dX8_ask_89 : decode cX8_ask 89 = .ok (.iload 4, 2) := by decide +kernel
theorem dX8_ask_91 : decode cX8_ask 91 = .ok (.iload 5, 2) := by decide +kernel
theorem dX8_ask_93 : decode cX8_ask 93 = .ok (.invokevirtual 99, 3) := by decide +kernel
theorem dX8_ask_96 : decode cX8_ask 96 = .ok (.ireturn, 1) := by decide +kernel
theorem dX8_marks_0 : decode cX8_marks 0 = .ok (.iload_n 1, 1) := by decide +kernel
theorem dX8_marks_1 : decode cX8_marks 1 = .ok (.invokestatic 83, 3) := by decide +kernel
theorem dX8_marks_4 : decode cX8_marks 4 = .ok (.ifCond .eq 23, 3) := by decide +kernel
theorem dX8_marks_7 : decode cX8_marks 7 = .ok (.iload_n 2, 1) := by decide +kernel
theorem dX8_marks_8 : decode cX8_marks 8 = .ok (.iconst 0, 1) := by decide +kernel
theorem dX8_marks_9 : decode cX8_marks 9 = .ok (.bipush 20, 2) := by decide +kernel
theorem dX8_marks_11 : decode cX8_marks 11 = .ok (.invokestatic 79, 3) := by decide +kernel
theorem dX8_marks_14 : decode cX8_marks 14 = .ok (.ifCond .eq 13, 3) := by decide +kernel
theorem dX8_marks_17 : decode cX8_marks 17 = .ok (.iload_n 3, 1) := by decide +kernel
theorem dX8_marks_18 : decode cX8_marks 18 = .ok (.iconst 0, 1) := by decide +kernel
theorem dX8_marks_19 : decode cX8_marks 19 = .ok (.bipush 99, 2) := by decide +kernel
theorem dX8_marks_21 : decode cX8_marks 21 = .ok (.invokestatic 79, 3) := by decide +kernel
theorem dX8_marks_24 : decode cX8_marks 24 = .ok (.ifCond .ne 10, 3) := by decide +kernel
theorem dX8_marks_27 : decode cX8_marks 27 = .ok (.aload_n 0, 1) := by decide +kernel
theorem dX8_marks_28 : decode cX8_marks 28 = .ok (.ldc 90, 2) := by decide +kernel
theorem dX8_marks_30 : decode cX8_marks 30 = .ok (.invokevirtual 91, 3) := by decide +kernel
theorem dX8_marks_33 : decode cX8_marks 33 = .ok (.ireturn, 1) := by decide +kernel
theorem dX8_marks_34 : decode cX8_marks 34 = .ok (.aload_n 0, 1) := by decide +kernel
theorem dX8_marks_35 : decode cX8_marks 35 = .ok (.getfield 10, 3) := by decide +kernel
theorem dX8_marks_38 : decode cX8_marks 38 = .ok (.getfield 103, 3) := by decide +kernel
theorem dX8_marks_41 : decode cX8_marks 41 = .ok (.iload_n 1, 1) := by decide +kernel
theorem dX8_marks_42 : decode cX8_marks 42 = .ok (.iload_n 2, 1) := by decide +kernel
theorem dX8_marks_43 : decode cX8_marks 43 = .ok (.iastore, 1) := by decide +kernel
theorem dX8_marks_44 : decode cX8_marks 44 = .ok (.aload_n 0, 1) := by decide +kernel
theorem dX8_marks_45 : decode cX8_marks 45 = .ok (.getfield 10, 3) := by decide +kernel
theorem dX8_marks_48 : decode cX8_marks 48 = .ok (.getfield 106, 3) := by decide +kernel
theorem dX8_marks_51 : decode cX8_marks 51 = .ok (.iload_n 1, 1) := by decide +kernel
theorem dX8_marks_52 : decode cX8_marks 52 = .ok (.iload_n 3, 1) := by decide +kernel
theorem dX8_marks_53 : decode cX8_marks 53 = .ok (.iastore, 1) := by decide +kernel
theorem dX8_marks_54 : decode cX8_marks 54 = .ok (.iconst 1, 1) := by decide +kernel
theorem dX8_marks_55 : decode cX8_marks 55 = .ok (.ireturn, 1) := by decide +kernel
theorem dX8_meet_0 : decode cX8_meet 0 = .ok (.aload_n 0, 1) := by decide +kernel
theorem dX8_meet_1 : decode cX8_meet 1 = .ok (.iload_n 1, 1) := by decide +kernel
theorem dX8_meet_2 : decode cX8_meet 2 = .ok (.invokevirtual 109, 3) := by decide +kernel
theorem dX8_meet_5 : decode cX8_meet 5 = .ok (.ifCond .eq 16, 3) := by decide +kernel
theorem dX8_meet_8 : decode cX8_meet 8 = .ok (.aload_n 0, 1) := by decide +kernel
theorem dX8_meet_9 : decode cX8_meet 9 = .ok (.iload_n 2, 1) := by decide +kernel
theorem dX8_meet_10 : decode cX8_meet 10 = .ok (.invokevirtual 109, 3) := by decide +kernel
theorem dX8_meet_13 : decode cX8_meet 13 = .ok (.ifCond .eq 8, 3) := by decide +kernel
theorem dX8_meet_16 : decode cX8_meet 16 = .ok (.iload_n 1, 1) := by decide +kernel
theorem dX8_meet_17 : decode cX8_meet 17 = .ok (.iload_n 2, 1) := by decide +kernel
theorem dX8_meet_18 : decode cX8_meet 18 = .ok (.if_icmp .ne 10, 3) := by decide +kernel
theorem dX8_meet_21 : decode cX8_meet 21 = .ok (.aload_n 0, 1) := by decide +kernel
theorem dX8_meet_22 : decode cX8_meet 22 = .ok (.ldc 90, 2) := by decide +kernel
theorem dX8_meet_24 : decode cX8_meet 24 = .ok (.invokevirtual 91, 3) := by decide +kernel
theorem dX8_meet_27 : decode cX8_meet 27 = .ok (.ireturn, 1) := by decide +kernel
theorem dX8_meet_28 : decode cX8_meet 28 = .ok (.aload_n 0, 1) := by decide +kernel
theorem dX8_meet_29 : decode cX8_meet 29 = .ok (.getfield 10, 3) := by decide +kernel
theorem dX8_meet_32 : decode cX8_meet 32 = .ok (.iload_n 1, 1) := by decide +kernel
theorem dX8_meet_33 : decode cX8_meet 33 = .ok (.iload_n 2, 1) := by decide +kernel
theorem dX8_meet_34 : decode cX8_meet 34 = .ok (.invokevirtual 112, 3) := by decide +kernel
theorem dX8_meet_37 : decode cX8_meet 37 = .ok (.ifCond .eq 7, 3) := by decide +kernel
theorem dX8_meet_40 : decode cX8_meet 40 = .ok (.iconst 1, 1) := by decide +kernel
theorem dX8_meet_41 : decode cX8_meet 41 = .ok (.goto 4, 3) := by decide +kernel
theorem dX8_meet_44 : decode cX8_meet 44 = .ok (.iconst 0, 1) := by decide +kernel
theorem dX8_meet_45 : decode cX8_meet 45 = .ok (.ireturn, 1) := by decide +kernel
theorem dX8_of_0 : decode cX8_of 0 = .ok (.aload_n 0, 1) := by decide +kernel
theorem dX8_of_1 : decode cX8_of 1 = .ok (.iload_n 1, 1) := by decide +kernel
theorem dX8_of_2 : decode cX8_of 2 = .ok (.invokevirtual 109, 3) := by decide +kernel
theorem dX8_of_5 : decode cX8_of 5 = .ok (.ifCond .eq 13, 3) := by decide +kernel
theorem dX8_of_8 : decode cX8_of 8 = .ok (.iload_n 2, 1) := by decide +kernel
theorem dX8_of_9 : decode cX8_of 9 = .ok (.iconst 0, 1) := by decide +kernel
theorem dX8_of_10 : decode cX8_of 10 = .ok (.bipush 6, 2) := by decide +kernel
theorem dX8_of_12 : decode cX8_of 12 = .ok (.invokestatic 79, 3) := by decide +kernel
theorem dX8_of_15 : decode cX8_of 15 = .ok (.ifCond .ne 10, 3) := by decide +kernel
theorem dX8_of_18 : decode cX8_of 18 = .ok (.aload_n 0, 1) := by decide +kernel
theorem dX8_of_19 : decode cX8_of 19 = .ok (.ldc 90, 2) := by decide +kernel
theorem dX8_of_21 : decode cX8_of 21 = .ok (.invokevirtual 91, 3) := by decide +kernel
theorem dX8_of_24 : decode cX8_of 24 = .ok (.ireturn, 1) := by decide +kernel
theorem dX8_of_25 : decode cX8_of 25 = .ok (.aload_n 0, 1) := by decide +kernel
theorem dX8_of_26 : decode cX8_of 26 = .ok (.getfield 10, 3) := by decide +kernel
theorem dX8_of_29 : decode cX8_of 29 = .ok (.iload_n 1, 1) := by decide +kernel
theorem dX8_of_30 : decode cX8_of 30 = .ok (.iload_n 2, 1) := by decide +kernel
theorem dX8_of_31 : decode cX8_of 31 = .ok (.invokevirtual 116, 3) := by decide +kernel
theorem dX8_of_34 : decode cX8_of 34 = .ok (.ireturn, 1) := by decide +kernel
theorem dX8_as_0 : decode cX8_as 0 = .ok (.aload_n 0, 1) := by decide +kernel
theorem dX8_as_1 : decode cX8_as 1 = .ok (.iload_n 1, 1) := by decide +kernel
theorem dX8_as_2 : decode cX8_as 2 = .ok (.invokevirtual 109, 3) := by decide +kernel
theorem dX8_as_5 : decode cX8_as 5 = .ok (.ifCond .eq 10, 3) := by decide +kernel
theorem dX8_as_8 : decode cX8_as 8 = .ok (.iload_n 2, 1) := by decide +kernel
theorem dX8_as_9 : decode cX8_as 9 = .ok (.invokestatic 83, 3) := by decide +kernel
theorem dX8_as_12 : decode cX8_as 12 = .ok (.ifCond .ne 10, 3) := by decide +kernel
theorem dX8_as_15 : decode cX8_as 15 = .ok (.aload_n 0, 1) := by decide +kernel
theorem dX8_as_16 : decode cX8_as 16 = .ok (.ldc 90, 2) := by decide +kernel
theorem dX8_as_18 : decode cX8_as 18 = .ok (.invokevirtual 91, 3) := by decide +kernel
theorem dX8_as_21 : decode cX8_as 21 = .ok (.ireturn, 1) := by decide +kernel
theorem dX8_as_22 : decode cX8_as 22 = .ok (.aload_n 0, 1) := by decide +kernel
theorem dX8_as_23 : decode cX8_as 23 = .ok (.getfield 10, 3) := by decide +kernel
theorem dX8_as_26 : decode cX8_as 26 = .ok (.getfield 120, 3) := by decide +kernel
theorem dX8_as_29 : decode cX8_as 29 = .ok (.iload_n 1, 1) := by decide +kernel
theorem dX8_as_30 : decode cX8_as 30 = .ok (.iaload, 1) := by decide +kernel
theorem dX8_as_31 : decode cX8_as 31 = .ok (.iload_n 2, 1) := by decide +kernel
theorem dX8_as_32 : decode cX8_as 32 = .ok (.invokestatic 123, 3) := by decide +kernel
theorem dX8_as_35 : decode cX8_as 35 = .ok (.ifCond .ne 10, 3) := by decide +kernel
theorem dX8_as_38 : decode cX8_as 38 = .ok (.aload_n 0, 1) := by decide +kernel
theorem dX8_as_39 : decode cX8_as 39 = .ok (.ldc 126, 2) := by decide +kernel
theorem dX8_as_41 : decode cX8_as 41 = .ok (.invokevirtual 91, 3) := by decide +kernel
theorem dX8_as_44 : decode cX8_as 44 = .ok (.ireturn, 1) := by decide +kernel
theorem dX8_as_45 : decode cX8_as 45 = .ok (.aload_n 0, 1) := by decide +kernel
theorem dX8_as_46 : decode cX8_as 46 = .ok (.getfield 10, 3) := by decide +kernel
theorem dX8_as_49 : decode cX8_as 49 = .ok (.getfield 127, 3) := by decide +kernel
theorem dX8_as_52 : decode cX8_as 52 = .ok (.iload_n 1, 1) := by decide +kernel
theorem dX8_as_53 : decode cX8_as 53 = .ok (.iaload, 1) := by decide +kernel
theorem dX8_as_54 : decode cX8_as 54 = .ok (.ireturn, 1) := by decide +kernel
theorem dX8_fewest_0 : decode cX8_fewest 0 = .ok (.iload_n 1, 1) := by decide +kernel
theorem dX8_fewest_1 : decode cX8_fewest 1 = .ok (.ifCond .lt 20, 3) := by decide +kernel
theorem dX8_fewest_4 : decode cX8_fewest 4 = .ok (.iload_n 2, 1) := by decide +kernel
theorem dX8_fewest_5 : decode cX8_fewest 5 = .ok (.ifCond .lt 16, 3) := by decide +kernel
theorem dX8_fewest_8 : decode cX8_fewest 8 = .ok (.iload_n 2, 1) := by decide +kernel
theorem dX8_fewest_9 : decode cX8_fewest 9 = .ok (.aload_n 0, 1) := by decide +kernel
theorem dX8_fewest_10 : decode cX8_fewest 10 = .ok (.getfield 10, 3) := by decide +kernel
theorem dX8_fewest_13 : decode cX8_fewest 13 = .ok (.getfield 95, 3) := by decide +kernel
theorem dX8_fewest_16 : decode cX8_fewest 16 = .ok (.iload_n 1, 1) := by decide +kernel
theorem dX8_fewest_17 : decode cX8_fewest 17 = .ok (.isub, 1) := by decide +kernel
theorem dX8_fewest_18 : decode cX8_fewest 18 = .ok (.if_icmp .le 10, 3) := by decide +kernel
theorem dX8_fewest_21 : decode cX8_fewest 21 = .ok (.aload_n 0, 1) := by decide +kernel
theorem dX8_fewest_22 : decode cX8_fewest 22 = .ok (.ldc 90, 2) := by decide +kernel
theorem dX8_fewest_24 : decode cX8_fewest 24 = .ok (.invokevirtual 91, 3) := by decide +kernel
theorem dX8_fewest_27 : decode cX8_fewest 27 = .ok (.ireturn, 1) := by decide +kernel
theorem dX8_fewest_28 : decode cX8_fewest 28 = .ok (.iload_n 2, 1) := by decide +kernel
theorem dX8_fewest_29 : decode cX8_fewest 29 = .ok (.bipush 12, 2) := by decide +kernel
theorem dX8_fewest_31 : decode cX8_fewest 31 = .ok (.if_icmp .le 10, 3) := by decide +kernel
theorem dX8_fewest_34 : decode cX8_fewest 34 = .ok (.aload_n 0, 1) := by decide +kernel
theorem dX8_fewest_35 : decode cX8_fewest 35 = .ok (.ldc 130, 2) := by decide +kernel
theorem dX8_fewest_37 : decode cX8_fewest 37 = .ok (.invokevirtual 91, 3) := by decide +kernel
theorem dX8_fewest_40 : decode cX8_fewest 40 = .ok (.ireturn, 1) := by decide +kernel
theorem dX8_fewest_41 : decode cX8_fewest 41 = .ok (.aload_n 0, 1) := by decide +kernel
theorem dX8_fewest_42 : decode cX8_fewest 42 = .ok (.getfield 26, 3) := by decide +kernel
theorem dX8_fewest_45 : decode cX8_fewest 45 = .ok (.aload_n 0, 1) := by decide +kernel
theorem dX8_fewest_46 : decode cX8_fewest 46 = .ok (.getfield 10, 3) := by decide +kernel
theorem dX8_fewest_49 : decode cX8_fewest 49 = .ok (.iload_n 1, 1) := by decide +kernel
theorem dX8_fewest_50 : decode cX8_fewest 50 = .ok (.iload_n 2, 1) := by decide +kernel
theorem dX8_fewest_51 : decode cX8_fewest 51 = .ok (.invokevirtual 131, 3) := by decide +kernel
theorem dX8_fewest_54 : decode cX8_fewest 54 = .ok (.ireturn, 1) := by decide +kernel
theorem dX8_thing_0 : decode cX8_thing 0 = .ok (.aload_n 0, 1) := by decide +kernel
theorem dX8_thing_1 : decode cX8_thing 1 = .ok (.iload_n 1, 1) := by decide +kernel
theorem dX8_thing_2 : decode cX8_thing 2 = .ok (.invokevirtual 135, 3) := by decide +kernel
theorem dX8_thing_5 : decode cX8_thing 5 = .ok (.ifCond .eq 13, 3) := by decide +kernel
theorem dX8_thing_8 : decode cX8_thing 8 = .ok (.iload_n 2, 1) := by decide +kernel
theorem dX8_thing_9 : decode cX8_thing 9 = .ok (.iconst 0, 1) := by decide +kernel
theorem dX8_thing_10 : decode cX8_thing 10 = .ok (.bipush 8, 2) := by decide +kernel
theorem dX8_thing_12 : decode cX8_thing 12 = .ok (.invokestatic 79, 3) := by decide +kernel
theorem dX8_thing_15 : decode cX8_thing 15 = .ok (.ifCond .ne 10, 3) := by decide +kernel
theorem dX8_thing_18 : decode cX8_thing 18 = .ok (.aload_n 0, 1) := by decide +kernel
theorem dX8_thing_19 : decode cX8_thing 19 = .ok (.ldc 90, 2) := by decide +kernel
theorem dX8_thing_21 : decode cX8_thing 21 = .ok (.invokevirtual 91, 3) := by decide +kernel
theorem dX8_thing_24 : decode cX8_thing 24 = .ok (.ireturn, 1) := by decide +kernel
theorem dX8_thing_25 : decode cX8_thing 25 = .ok (.iload_n 2, 1) := by decide +kernel
theorem dX8_thing_26 : decode cX8_thing 26 = .ok (.iconst 4, 1) := by decide +kernel
theorem dX8_thing_27 : decode cX8_thing 27 = .ok (.if_icmp .ge 12, 3) := by decide +kernel
theorem dX8_thing_30 : decode cX8_thing 30 = .ok (.aload_n 0, 1) := by decide +kernel
theorem dX8_thing_31 : decode cX8_thing 31 = .ok (.iload_n 1, 1) := by decide +kernel
theorem dX8_thing_32 : decode cX8_thing 32 = .ok (.iload_n 2, 1) := by decide +kernel
theorem dX8_thing_33 : decode cX8_thing 33 = .ok (.invokevirtual 138, 3) := by decide +kernel
theorem dX8_thing_36 : decode cX8_thing 36 = .ok (.goto 9, 3) := by decide +kernel
theorem dX8_thing_39 : decode cX8_thing 39 = .ok (.aload_n 0, 1) := by decide +kernel
theorem dX8_thing_40 : decode cX8_thing 40 = .ok (.iload_n 1, 1) := by decide +kernel
theorem dX8_thing_41 : decode cX8_thing 41 = .ok (.iload_n 2, 1) := by decide +kernel
theorem dX8_thing_42 : decode cX8_thing 42 = .ok (.invokevirtual 141, 3) := by decide +kernel
theorem dX8_thing_45 : decode cX8_thing 45 = .ok (.ireturn, 1) := by decide +kernel
theorem dX8_asked_0 : decode cX8_asked 0 = .ok (.aload_n 0, 1) := by decide +kernel
theorem dX8_asked_1 : decode cX8_asked 1 = .ok (.iload_n 1, 1) := by decide +kernel
theorem dX8_asked_2 : decode cX8_asked 2 = .ok (.invokevirtual 135, 3) := by decide +kernel
theorem dX8_asked_5 : decode cX8_asked 5 = .ok (.ifCond .eq 7, 3) := by decide +kernel
theorem dX8_asked_8 : decode cX8_asked 8 = .ok (.iload_n 2, 1) := by decide +kernel
theorem dX8_asked_9 : decode cX8_asked 9 = .ok (.ifCond .ge 10, 3) := by decide +kernel
theorem dX8_asked_12 : decode cX8_asked 12 = .ok (.aload_n 0, 1) := by decide +kernel
theorem dX8_asked_13 : decode cX8_asked 13 = .ok (.ldc 90, 2) := by decide +kernel
theorem dX8_asked_15 : decode cX8_asked 15 = .ok (.invokevirtual 91, 3) := by decide +kernel
theorem dX8_asked_18 : decode cX8_asked 18 = .ok (.ireturn, 1) := by decide +kernel
theorem dX8_asked_19 : decode cX8_asked 19 = .ok (.aload_n 0, 1) := by decide +kernel
theorem dX8_asked_20 : decode cX8_asked 20 = .ok (.getfield 10, 3) := by decide +kernel
theorem dX8_asked_23 : decode cX8_asked 23 = .ok (.iload_n 1, 1) := by decide +kernel
theorem dX8_asked_24 : decode cX8_asked 24 = .ok (.iload_n 2, 1) := by decide +kernel
theorem dX8_asked_25 : decode cX8_asked 25 = .ok (.invokevirtual 144, 3) := by decide +kernel
theorem dX8_asked_28 : decode cX8_asked 28 = .ok (.ireturn, 1) := by decide +kernel
theorem dX8_feed_0 : decode cX8_feed 0 = .ok (.iload_n 3, 1) := by decide +kernel
theorem dX8_feed_1 : decode cX8_feed 1 = .ok (.iconst 1, 1) := by decide +kernel
theorem dX8_feed_2 : decode cX8_feed 2 = .ok (.bipush 8, 2) := by decide +kernel
theorem dX8_feed_4 : decode cX8_feed 4 = .ok (.invokestatic 79, 3) := by decide +kernel
theorem dX8_feed_7 : decode cX8_feed 7 = .ok (.ifCond .ne 10, 3) := by decide +kernel
theorem dX8_feed_10 : decode cX8_feed 10 = .ok (.aload_n 0, 1) := by decide +kernel
theorem dX8_feed_11 : decode cX8_feed 11 = .ok (.ldc 90, 2) := by decide +kernel
theorem dX8_feed_13 : decode cX8_feed 13 = .ok (.invokevirtual 91, 3) := by decide +kernel
theorem dX8_feed_16 : decode cX8_feed 16 = .ok (.ireturn, 1) := by decide +kernel
theorem dX8_feed_17 : decode cX8_feed 17 = .ok (.aload_n 0, 1) := by decide +kernel
theorem dX8_feed_18 : decode cX8_feed 18 = .ok (.getfield 33, 3) := by decide +kernel
theorem dX8_feed_21 : decode cX8_feed 21 = .ok (.getfield 147, 3) := by decide +kernel
theorem dX8_feed_24 : decode cX8_feed 24 = .ok (.iload_n 3, 1) := by decide +kernel
theorem dX8_feed_25 : decode cX8_feed 25 = .ok (.iadd, 1) := by decide +kernel
theorem dX8_feed_26 : decode cX8_feed 26 = .ok (.bipush 80, 2) := by decide +kernel
theorem dX8_feed_28 : decode cX8_feed 28 = .ok (.if_icmp .le 10, 3) := by decide +kernel
theorem dX8_feed_31 : decode cX8_feed 31 = .ok (.aload_n 0, 1) := by decide +kernel
theorem dX8_feed_32 : decode cX8_feed 32 = .ok (.ldc 98, 2) := by decide +kernel
theorem dX8_feed_34 : decode cX8_feed 34 = .ok (.invokevirtual 91, 3) := by decide +kernel
theorem dX8_feed_37 : decode cX8_feed 37 = .ok (.ireturn, 1) := by decide +kernel
theorem dX8_feed_38 : decode cX8_feed 38 = .ok (.aload_n 0, 1) := by decide +kernel
theorem dX8_feed_39 : decode cX8_feed 39 = .ok (.getfield 33, 3) := by decide +kernel
theorem dX8_feed_42 : decode cX8_feed 42 = .ok (.lload_n 1, 1) := by decide +kernel
theorem dX8_feed_43 : decode cX8_feed 43 = .ok (.iload_n 3, 1) := by decide +kernel
theorem dX8_feed_44 : decode cX8_feed 44 = .ok (.invokevirtual 150, 3) := by decide +kernel
theorem dX8_feed_47 : decode cX8_feed 47 = .ok (.aload_n 0, 1) := by decide +kernel
theorem dX8_feed_48 : decode cX8_feed 48 = .ok (.getfield 33, 3) := by decide +kernel
theorem dX8_feed_51 : decode cX8_feed 51 = .ok (.getfield 147, 3) := by decide +kernel
theorem dX8_feed_54 : decode cX8_feed 54 = .ok (.ireturn, 1) := by decide +kernel
theorem dX8_text_0 : decode cX8_text 0 = .ok (.aload_n 0, 1) := by decide +kernel
theorem dX8_text_1 : decode cX8_text 1 = .ok (.getfield 40, 3) := by decide +kernel
theorem dX8_text_4 : decode cX8_text 4 = .ok (.aload_n 0, 1) := by decide +kernel
theorem dX8_text_5 : decode cX8_text 5 = .ok (.getfield 33, 3) := by decide +kernel
theorem dX8_text_8 : decode cX8_text 8 = .ok (.invokevirtual 154, 3) := by decide +kernel
theorem dX8_text_11 : decode cX8_text 11 = .ok (.istore_n 1, 1) := by decide +kernel
theorem dX8_text_12 : decode cX8_text 12 = .ok (.iload_n 1, 1) := by decide +kernel
theorem dX8_text_13 : decode cX8_text 13 = .ok (.iconst (-1), 1) := by decide +kernel
theorem dX8_text_14 : decode cX8_text 14 = .ok (.if_icmp .ne 14, 3) := by decide +kernel
theorem dX8_text_17 : decode cX8_text 17 = .ok (.aload_n 0, 1) := by decide +kernel
theorem dX8_text_18 : decode cX8_text 18 = .ok (.getfield 40, 3) := by decide +kernel
theorem dX8_text_21 : decode cX8_text 21 = .ok (.aload_n 0, 1) := by decide +kernel
theorem dX8_text_22 : decode cX8_text 22 = .ok (.getfield 33, 3) := by decide +kernel
theorem dX8_text_25 : decode cX8_text 25 = .ok (.invokevirtual 158, 3) := by decide +kernel
theorem dX8_text_28 : decode cX8_text 28 = .ok (.aload_n 0, 1) := by decide +kernel
theorem dX8_text_29 : decode cX8_text 29 = .ok (.getfield 33, 3) := by decide +kernel
theorem dX8_text_32 : decode cX8_text 32 = .ok (.iconst 0, 1) := by decide +kernel
theorem dX8_text_33 : decode cX8_text 33 = .ok (.putfield 147, 3) := by decide +kernel
theorem dX8_text_36 : decode cX8_text 36 = .ok (.iload_n 1, 1) := by decide +kernel
theorem dX8_text_37 : decode cX8_text 37 = .ok (.iconst (-1), 1) := by decide +kernel
theorem dX8_text_38 : decode cX8_text 38 = .ok (.if_icmp .ne 13, 3) := by decide +kernel
theorem dX8_text_41 : decode cX8_text 41 = .ok (.aload_n 0, 1) := by decide +kernel
theorem dX8_text_42 : decode cX8_text 42 = .ok (.getfield 40, 3) := by decide +kernel
theorem dX8_text_45 : decode cX8_text 45 = .ok (.getfield 162, 3) := by decide +kernel
theorem dX8_text_48 : decode cX8_text 48 = .ok (.goto 11, 3) := by decide +kernel
theorem dX8_text_51 : decode cX8_text 51 = .ok (.aload_n 0, 1) := by decide +kernel
theorem dX8_text_52 : decode cX8_text 52 = .ok (.ldc 165, 2) := by decide +kernel
theorem dX8_text_54 : decode cX8_text 54 = .ok (.iload_n 1, 1) := by decide +kernel
theorem dX8_text_55 : decode cX8_text 55 = .ok (.isub, 1) := by decide +kernel
theorem dX8_text_56 : decode cX8_text 56 = .ok (.invokevirtual 91, 3) := by decide +kernel
theorem dX8_text_59 : decode cX8_text 59 = .ok (.ireturn, 1) := by decide +kernel
theorem dX8_whose_0 : decode cX8_whose 0 = .ok (.aload_n 0, 1) := by decide +kernel
theorem dX8_whose_1 : decode cX8_whose 1 = .ok (.iload_n 1, 1) := by decide +kernel
theorem dX8_whose_2 : decode cX8_whose 2 = .ok (.invokevirtual 135, 3) := by decide +kernel
theorem dX8_whose_5 : decode cX8_whose 5 = .ok (.ifCond .ne 10, 3) := by decide +kernel
theorem dX8_whose_8 : decode cX8_whose 8 = .ok (.aload_n 0, 1) := by decide +kernel
theorem dX8_whose_9 : decode cX8_whose 9 = .ok (.ldc 90, 2) := by decide +kernel
theorem dX8_whose_11 : decode cX8_whose 11 = .ok (.invokevirtual 91, 3) := by decide +kernel
theorem dX8_whose_14 : decode cX8_whose 14 = .ok (.ireturn, 1) := by decide +kernel
theorem dX8_whose_15 : decode cX8_whose 15 = .ok (.aload_n 0, 1) := by decide +kernel
theorem dX8_whose_16 : decode cX8_whose 16 = .ok (.iload_n 1, 1) := by decide +kernel
theorem dX8_whose_17 : decode cX8_whose 17 = .ok (.invokevirtual 166, 3) := by decide +kernel
theorem dX8_whose_20 : decode cX8_whose 20 = .ok (.istore_n 2, 1) := by decide +kernel
theorem dX8_whose_21 : decode cX8_whose 21 = .ok (.iload_n 2, 1) := by decide +kernel
theorem dX8_whose_22 : decode cX8_whose 22 = .ok (.ifCond .ge 11, 3) := by decide +kernel
theorem dX8_whose_25 : decode cX8_whose 25 = .ok (.aload_n 0, 1) := by decide +kernel
theorem dX8_whose_26 : decode cX8_whose 26 = .ok (.iload_n 2, 1) := by decide +kernel
theorem dX8_whose_27 : decode cX8_whose 27 = .ok (.invokevirtual 91, 3) := by decide +kernel
theorem dX8_whose_30 : decode cX8_whose 30 = .ok (.goto 4, 3) := by decide +kernel
theorem dX8_whose_33 : decode cX8_whose 33 = .ok (.iload_n 2, 1) := by decide +kernel
theorem dX8_whose_34 : decode cX8_whose 34 = .ok (.ireturn, 1) := by decide +kernel
theorem dX8_promise_0 : decode cX8_promise 0 = .ok (.aload_n 0, 1) := by decide +kernel
theorem dX8_promise_1 : decode cX8_promise 1 = .ok (.iload_n 1, 1) := by decide +kernel
theorem dX8_promise_2 : decode cX8_promise 2 = .ok (.invokevirtual 135, 3) := by decide +kernel
theorem dX8_promise_5 : decode cX8_promise 5 = .ok (.ifCond .ne 10, 3) := by decide +kernel
theorem dX8_promise_8 : decode cX8_promise 8 = .ok (.aload_n 0, 1) := by decide +kernel
theorem dX8_promise_9 : decode cX8_promise 9 = .ok (.ldc 90, 2) := by decide +kernel
theorem dX8_promise_11 : decode cX8_promise 11 = .ok (.invokevirtual 91, 3) := by decide +kernel
theorem dX8_promise_14 : decode cX8_promise 14 = .ok (.ireturn, 1) := by decide +kernel
theorem dX8_promise_15 : decode cX8_promise 15 = .ok (.aload_n 0, 1) := by decide +kernel
theorem dX8_promise_16 : decode cX8_promise 16 = .ok (.getfield 40, 3) := by decide +kernel
theorem dX8_promise_19 : decode cX8_promise 19 = .ok (.aload_n 0, 1) := by decide +kernel
theorem dX8_promise_20 : decode cX8_promise 20 = .ok (.iload_n 1, 1) := by decide +kernel
theorem dX8_promise_21 : decode cX8_promise 21 = .ok (.invokevirtual 169, 3) := by decide +kernel
theorem dX8_promise_24 : decode cX8_promise 24 = .ok (.invokevirtual 172, 3) := by decide +kernel
theorem dX8_promise_27 : decode cX8_promise 27 = .ok (.istore_n 2, 1) := by decide +kernel
theorem dX8_promise_28 : decode cX8_promise 28 = .ok (.iload_n 2, 1) := by decide +kernel
theorem dX8_promise_29 : decode cX8_promise 29 = .ok (.iconst (-1), 1) := by decide +kernel
theorem dX8_promise_30 : decode cX8_promise 30 = .ok (.if_icmp .ne 12, 3) := by decide +kernel
theorem dX8_promise_33 : decode cX8_promise 33 = .ok (.aload_n 0, 1) := by decide +kernel
theorem dX8_promise_34 : decode cX8_promise 34 = .ok (.ldc 175, 2) := by decide +kernel
theorem dX8_promise_36 : decode cX8_promise 36 = .ok (.invokevirtual 91, 3) := by decide +kernel
theorem dX8_promise_39 : decode cX8_promise 39 = .ok (.goto 10, 3) := by decide +kernel
theorem dX8_promise_42 : decode cX8_promise 42 = .ok (.aload_n 0, 1) := by decide +kernel
theorem dX8_promise_43 : decode cX8_promise 43 = .ok (.iload_n 1, 1) := by decide +kernel
theorem dX8_promise_44 : decode cX8_promise 44 = .ok (.invokevirtual 176, 3) := by decide +kernel
theorem dX8_promise_47 : decode cX8_promise 47 = .ok (.iload_n 2, 1) := by decide +kernel
theorem dX8_promise_48 : decode cX8_promise 48 = .ok (.iadd, 1) := by decide +kernel
theorem dX8_promise_49 : decode cX8_promise 49 = .ok (.ireturn, 1) := by decide +kernel
theorem dX8_sent_0 : decode cX8_sent 0 = .ok (.aload_n 0, 1) := by decide +kernel
theorem dX8_sent_1 : decode cX8_sent 1 = .ok (.iload_n 1, 1) := by decide +kernel
theorem dX8_sent_2 : decode cX8_sent 2 = .ok (.invokevirtual 135, 3) := by decide +kernel
theorem dX8_sent_5 : decode cX8_sent 5 = .ok (.ifCond .ne 10, 3) := by decide +kernel
theorem dX8_sent_8 : decode cX8_sent 8 = .ok (.aload_n 0, 1) := by decide +kernel
theorem dX8_sent_9 : decode cX8_sent 9 = .ok (.ldc 90, 2) := by decide +kernel
theorem dX8_sent_11 : decode cX8_sent 11 = .ok (.invokevirtual 91, 3) := by decide +kernel
theorem dX8_sent_14 : decode cX8_sent 14 = .ok (.ireturn, 1) := by decide +kernel
theorem dX8_sent_15 : decode cX8_sent 15 = .ok (.aload_n 0, 1) := by decide +kernel
theorem dX8_sent_16 : decode cX8_sent 16 = .ok (.getfield 40, 3) := by decide +kernel
theorem dX8_sent_19 : decode cX8_sent 19 = .ok (.aload_n 0, 1) := by decide +kernel
theorem dX8_sent_20 : decode cX8_sent 20 = .ok (.iload_n 1, 1) := by decide +kernel
theorem dX8_sent_21 : decode cX8_sent 21 = .ok (.invokevirtual 169, 3) := by decide +kernel
theorem dX8_sent_24 : decode cX8_sent 24 = .ok (.invokevirtual 179, 3) := by decide +kernel
theorem dX8_sent_27 : decode cX8_sent 27 = .ok (.istore_n 2, 1) := by decide +kernel
theorem dX8_sent_28 : decode cX8_sent 28 = .ok (.iload_n 2, 1) := by decide +kernel
theorem dX8_sent_29 : decode cX8_sent 29 = .ok (.iconst (-1), 1) := by decide +kernel
theorem dX8_sent_30 : decode cX8_sent 30 = .ok (.if_icmp .ne 12, 3) := by decide +kernel
theorem dX8_sent_33 : decode cX8_sent 33 = .ok (.aload_n 0, 1) := by decide +kernel
theorem dX8_sent_34 : decode cX8_sent 34 = .ok (.ldc 175, 2) := by decide +kernel
theorem dX8_sent_36 : decode cX8_sent 36 = .ok (.invokevirtual 91, 3) := by decide +kernel
theorem dX8_sent_39 : decode cX8_sent 39 = .ok (.goto 16, 3) := by decide +kernel
theorem dX8_sent_42 : decode cX8_sent 42 = .ok (.aload_n 0, 1) := by decide +kernel
theorem dX8_sent_43 : decode cX8_sent 43 = .ok (.getfield 40, 3) := by decide +kernel
theorem dX8_sent_46 : decode cX8_sent 46 = .ok (.iload_n 2, 1) := by decide +kernel
theorem dX8_sent_47 : decode cX8_sent 47 = .ok (.aload_n 0, 1) := by decide +kernel
theorem dX8_sent_48 : decode cX8_sent 48 = .ok (.iload_n 1, 1) := by decide +kernel
theorem dX8_sent_49 : decode cX8_sent 49 = .ok (.invokevirtual 182, 3) := by decide +kernel
theorem dX8_sent_52 : decode cX8_sent 52 = .ok (.invokevirtual 185, 3) := by decide +kernel
theorem dX8_sent_55 : decode cX8_sent 55 = .ok (.ireturn, 1) := by decide +kernel
theorem dX8_effort_0 : decode cX8_effort 0 = .ok (.iload_n 1, 1) := by decide +kernel
theorem dX8_effort_1 : decode cX8_effort 1 = .ok (.invokestatic 83, 3) := by decide +kernel
theorem dX8_effort_4 : decode cX8_effort 4 = .ok (.ifCond .eq 13, 3) := by decide +kernel
theorem dX8_effort_7 : decode cX8_effort 7 = .ok (.iload_n 2, 1) := by decide +kernel
theorem dX8_effort_8 : decode cX8_effort 8 = .ok (.iconst 1, 1) := by decide +kernel
theorem dX8_effort_9 : decode cX8_effort 9 = .ok (.bipush 40, 2) := by decide +kernel
theorem dX8_effort_11 : decode cX8_effort 11 = .ok (.invokestatic 79, 3) := by decide +kernel
theorem dX8_effort_14 : decode cX8_effort 14 = .ok (.ifCond .ne 10, 3) := by decide +kernel
theorem dX8_effort_17 : decode cX8_effort 17 = .ok (.aload_n 0, 1) := by decide +kernel
theorem dX8_effort_18 : decode cX8_effort 18 = .ok (.ldc 90, 2) := by decide +kernel
theorem dX8_effort_20 : decode cX8_effort 20 = .ok (.invokevirtual 91, 3) := by decide +kernel
theorem dX8_effort_23 : decode cX8_effort 23 = .ok (.ireturn, 1) := by decide +kernel
theorem dX8_effort_24 : decode cX8_effort 24 = .ok (.aload_n 0, 1) := by decide +kernel
theorem dX8_effort_25 : decode cX8_effort 25 = .ok (.getfield 51, 3) := by decide +kernel
theorem dX8_effort_28 : decode cX8_effort 28 = .ok (.iload_n 1, 1) := by decide +kernel
theorem dX8_effort_29 : decode cX8_effort 29 = .ok (.iaload, 1) := by decide +kernel
theorem dX8_effort_30 : decode cX8_effort 30 = .ok (.istore_n 3, 1) := by decide +kernel
theorem dX8_effort_31 : decode cX8_effort 31 = .ok (.aload_n 0, 1) := by decide +kernel
theorem dX8_effort_32 : decode cX8_effort 32 = .ok (.getfield 51, 3) := by decide +kernel
theorem dX8_effort_35 : decode cX8_effort 35 = .ok (.iload_n 1, 1) := by decide +kernel
theorem dX8_effort_36 : decode cX8_effort 36 = .ok (.iload_n 2, 1) := by decide +kernel
theorem dX8_effort_37 : decode cX8_effort 37 = .ok (.iastore, 1) := by decide +kernel
theorem dX8_effort_38 : decode cX8_effort 38 = .ok (.iload_n 3, 1) := by decide +kernel
theorem dX8_effort_39 : decode cX8_effort 39 = .ok (.ireturn, 1) := by decide +kernel
theorem dX8_order_0 : decode cX8_order 0 = .ok (.iload_n 3, 1) := by decide +kernel
theorem dX8_order_1 : decode cX8_order 1 = .ok (.invokestatic 188, 3) := by decide +kernel
theorem dX8_order_4 : decode cX8_order 4 = .ok (.ifCond .eq 15, 3) := by decide +kernel
theorem dX8_order_7 : decode cX8_order 7 = .ok (.iload 4, 2) := by decide +kernel
theorem dX8_order_9 : decode cX8_order 9 = .ok (.invokestatic 191, 3) := by decide +kernel
theorem dX8_order_12 : decode cX8_order 12 = .ok (.ifCond .eq 7, 3) := by decide +kernel
theorem dX8_order_15 : decode cX8_order 15 = .ok (.iconst 1, 1) := by decide +kernel
theorem dX8_order_16 : decode cX8_order 16 = .ok (.goto 4, 3) := by decide +kernel
theorem dX8_order_19 : decode cX8_order 19 = .ok (.iconst 0, 1) := by decide +kernel
theorem dX8_order_20 : decode cX8_order 20 = .ok (.istore 6, 2) := by decide +kernel
theorem dX8_order_22 : decode cX8_order 22 = .ok (.iload_n 1, 1) := by decide +kernel
theorem dX8_order_23 : decode cX8_order 23 = .ok (.ifCond .lt 22, 3) := by decide +kernel
theorem dX8_order_26 : decode cX8_order 26 = .ok (.iload 6, 2) := by decide +kernel
theorem dX8_order_28 : decode cX8_order 28 = .ok (.ifCond .eq 17, 3) := by decide +kernel
theorem dX8_order_31 : decode cX8_order 31 = .ok (.iload 5, 2) := by decide +kernel
theorem dX8_order_33 : decode cX8_order 33 = .ok (.ifCond .lt 12, 3) := by decide +kernel
theorem dX8_order_36 : decode cX8_order 36 = .ok (.aload_n 0, 1) := by decide +kernel
theorem dX8_order_37 : decode cX8_order 37 = .ok (.iload_n 1, 1) := by decide +kernel
theorem dX8_order_38 : decode cX8_order 38 = .ok (.iload_n 2, 1) := by decide +kernel
theorem dX8_order_39 : decode cX8_order 39 = .ok (.invokevirtual 194, 3) := by decide +kernel
theorem dX8_order_42 : decode cX8_order 42 = .ok (.ifCond .ne 10, 3) := by decide +kernel
theorem dX8_order_45 : decode cX8_order 45 = .ok (.aload_n 0, 1) := by decide +kernel
theorem dX8_order_46 : decode cX8_order 46 = .ok (.ldc 90, 2) := by decide +kernel
theorem dX8_order_48 : decode cX8_order 48 = .ok (.invokevirtual 91, 3) := by decide +kernel
theorem dX8_order_51 : decode cX8_order 51 = .ok (.ireturn, 1) := by decide +kernel
theorem dX8_order_52 : decode cX8_order 52 = .ok (.iload_n 2, 1) := by decide +kernel
theorem dX8_order_53 : decode cX8_order 53 = .ok (.invokestatic 197, 3) := by decide +kernel
theorem dX8_order_56 : decode cX8_order 56 = .ok (.bipush 6, 2) := by decide +kernel
theorem dX8_order_58 : decode cX8_order 58 = .ok (.if_icmp .le 10, 3) := by decide +kernel
theorem dX8_order_61 : decode cX8_order 61 = .ok (.aload_n 0, 1) := by decide +kernel
theorem dX8_order_62 : decode cX8_order 62 = .ok (.ldc 130, 2) := by decide +kernel
theorem dX8_order_64 : decode cX8_order 64 = .ok (.invokevirtual 91, 3) := by decide +kernel
theorem dX8_order_67 : decode cX8_order 67 = .ok (.ireturn, 1) := by decide +kernel
theorem dX8_order_68 : decode cX8_order 68 = .ok (.aload_n 0, 1) := by decide +kernel
theorem dX8_order_69 : decode cX8_order 69 = .ok (.getfield 47, 3) := by decide +kernel
theorem dX8_order_72 : decode cX8_order 72 = .ok (.iload 4, 2) := by decide +kernel
theorem dX8_order_74 : decode cX8_order 74 = .ok (.invokevirtual 202, 3) := by decide +kernel
theorem dX8_order_77 : decode cX8_order 77 = .ok (.iconst 0, 1) := by decide +kernel
theorem dX8_order_78 : decode cX8_order 78 = .ok (.istore 7, 2) := by decide +kernel
theorem dX8_order_80 : decode cX8_order 80 = .ok (.iload 7, 2) := by decide +kernel
theorem dX8_order_82 : decode cX8_order 82 = .ok (.bipush 8, 2) := by decide +kernel
theorem dX8_order_84 : decode cX8_order 84 = .ok (.if_icmp .ge 26, 3) := by decide +kernel
theorem dX8_order_87 : decode cX8_order 87 = .ok (.iload_n 2, 1) := by decide +kernel
theorem dX8_order_88 : decode cX8_order 88 = .ok (.iload 7, 2) := by decide +kernel
theorem dX8_order_90 : decode cX8_order 90 = .ok (.invokestatic 206, 3) := by decide +kernel
theorem dX8_order_93 : decode cX8_order 93 = .ok (.ifCond .eq 11, 3) := by decide +kernel
theorem dX8_order_96 : decode cX8_order 96 = .ok (.aload_n 0, 1) := by decide +kernel
theorem dX8_order_97 : decode cX8_order 97 = .ok (.iload_n 1, 1) := by decide +kernel
theorem dX8_order_98 : decode cX8_order 98 = .ok (.iload 7, 2) := by decide +kernel
theorem dX8_order_100 : decode cX8_order 100 = .ok (.iadd, 1) := by decide +kernel
theorem dX8_order_101 : decode cX8_order 101 = .ok (.invokevirtual 209, 3) := by decide +kernel
theorem dX8_order_104 : decode cX8_order 104 = .ok (.iinc 7 1, 3) := by decide +kernel
theorem dX8_order_107 : decode cX8_order 107 = .ok (.goto (-27), 3) := by decide +kernel
theorem dX8_order_110 : decode cX8_order 110 = .ok (.aload_n 0, 1) := by decide +kernel
theorem dX8_order_111 : decode cX8_order 111 = .ok (.getfield 47, 3) := by decide +kernel
theorem dX8_order_114 : decode cX8_order 114 = .ok (.iload_n 3, 1) := by decide +kernel
theorem dX8_order_115 : decode cX8_order 115 = .ok (.bipush 32, 2) := by decide +kernel
theorem dX8_order_117 : decode cX8_order 117 = .ok (.idiv, 1) := by decide +kernel
theorem dX8_order_118 : decode cX8_order 118 = .ok (.iload_n 3, 1) := by decide +kernel
theorem dX8_order_119 : decode cX8_order 119 = .ok (.bipush 32, 2) := by decide +kernel
theorem dX8_order_121 : decode cX8_order 121 = .ok (.irem, 1) := by decide +kernel
theorem dX8_order_122 : decode cX8_order 122 = .ok (.invokevirtual 212, 3) := by decide +kernel
theorem dX8_order_125 : decode cX8_order 125 = .ok (.aload_n 0, 1) := by decide +kernel
theorem dX8_order_126 : decode cX8_order 126 = .ok (.getfield 47, 3) := by decide +kernel
theorem dX8_order_129 : decode cX8_order 129 = .ok (.iload 5, 2) := by decide +kernel
theorem dX8_order_131 : decode cX8_order 131 = .ok (.invokevirtual 216, 3) := by decide +kernel
theorem dX8_order_134 : decode cX8_order 134 = .ok (.ireturn, 1) := by decide +kernel
theorem dX8_close_0 : decode cX8_close 0 = .ok (.aload_n 0, 1) := by decide +kernel
theorem dX8_close_1 : decode cX8_close 1 = .ok (.iload_n 1, 1) := by decide +kernel
theorem dX8_close_2 : decode cX8_close 2 = .ok (.invokevirtual 135, 3) := by decide +kernel
theorem dX8_close_5 : decode cX8_close 5 = .ok (.ifCond .eq 10, 3) := by decide +kernel
theorem dX8_close_8 : decode cX8_close 8 = .ok (.iload_n 2, 1) := by decide +kernel
theorem dX8_close_9 : decode cX8_close 9 = .ok (.invokestatic 191, 3) := by decide +kernel
theorem dX8_close_12 : decode cX8_close 12 = .ok (.ifCond .ne 10, 3) := by decide +kernel
theorem dX8_close_15 : decode cX8_close 15 = .ok (.aload_n 0, 1) := by decide +kernel
theorem dX8_close_16 : decode cX8_close 16 = .ok (.ldc 90, 2) := by decide +kernel
theorem dX8_close_18 : decode cX8_close 18 = .ok (.invokevirtual 91, 3) := by decide +kernel
theorem dX8_close_21 : decode cX8_close 21 = .ok (.ireturn, 1) := by decide +kernel
theorem dX8_close_22 : decode cX8_close 22 = .ok (.aload_n 0, 1) := by decide +kernel
theorem dX8_close_23 : decode cX8_close 23 = .ok (.getfield 19, 3) := by decide +kernel
theorem dX8_close_26 : decode cX8_close 26 = .ok (.getfield 218, 3) := by decide +kernel
theorem dX8_close_29 : decode cX8_close 29 = .ok (.iload_n 1, 1) := by decide +kernel
theorem dX8_close_30 : decode cX8_close 30 = .ok (.baload, 1) := by decide +kernel
theorem dX8_close_31 : decode cX8_close 31 = .ok (.ifCond .eq 12, 3) := by decide +kernel
theorem dX8_close_34 : decode cX8_close 34 = .ok (.iload_n 2, 1) := by decide +kernel
theorem dX8_close_35 : decode cX8_close 35 = .ok (.aload_n 0, 1) := by decide +kernel
theorem dX8_close_36 : decode cX8_close 36 = .ok (.iload_n 1, 1) := by decide +kernel
theorem dX8_close_37 : decode cX8_close 37 = .ok (.invokevirtual 176, 3) := by decide +kernel
theorem dX8_close_40 : decode cX8_close 40 = .ok (.if_icmp .ge 10, 3) := by decide +kernel
theorem dX8_close_43 : decode cX8_close 43 = .ok (.aload_n 0, 1) := by decide +kernel
theorem dX8_close_44 : decode cX8_close 44 = .ok (.ldc 222, 2) := by decide +kernel
theorem dX8_close_46 : decode cX8_close 46 = .ok (.invokevirtual 91, 3) := by decide +kernel
theorem dX8_close_49 : decode cX8_close 49 = .ok (.ireturn, 1) := by decide +kernel
theorem dX8_close_50 : decode cX8_close 50 = .ok (.aload_n 0, 1) := by decide +kernel
theorem dX8_close_51 : decode cX8_close 51 = .ok (.iload_n 1, 1) := by decide +kernel
theorem dX8_close_52 : decode cX8_close 52 = .ok (.invokevirtual 166, 3) := by decide +kernel
theorem dX8_close_55 : decode cX8_close 55 = .ok (.istore_n 3, 1) := by decide +kernel
theorem dX8_close_56 : decode cX8_close 56 = .ok (.iload_n 3, 1) := by decide +kernel
theorem dX8_close_57 : decode cX8_close 57 = .ok (.ifCond .ge 9, 3) := by decide +kernel
theorem dX8_close_60 : decode cX8_close 60 = .ok (.aload_n 0, 1) := by decide +kernel
theorem dX8_close_61 : decode cX8_close 61 = .ok (.iload_n 3, 1) := by decide +kernel
theorem dX8_close_62 : decode cX8_close 62 = .ok (.invokevirtual 91, 3) := by decide +kernel
theorem dX8_close_65 : decode cX8_close 65 = .ok (.ireturn, 1) := by decide +kernel
theorem dX8_close_66 : decode cX8_close 66 = .ok (.aload_n 0, 1) := by decide +kernel
theorem dX8_close_67 : decode cX8_close 67 = .ok (.getfield 19, 3) := by decide +kernel
theorem dX8_close_70 : decode cX8_close 70 = .ok (.iload_n 1, 1) := by decide +kernel
theorem dX8_close_71 : decode cX8_close 71 = .ok (.iload_n 2, 1) := by decide +kernel
theorem dX8_close_72 : decode cX8_close 72 = .ok (.iload_n 3, 1) := by decide +kernel
theorem dX8_close_73 : decode cX8_close 73 = .ok (.invokevirtual 223, 3) := by decide +kernel
theorem dX8_close_76 : decode cX8_close 76 = .ok (.aload_n 0, 1) := by decide +kernel
theorem dX8_close_77 : decode cX8_close 77 = .ok (.getfield 58, 3) := by decide +kernel
theorem dX8_close_80 : decode cX8_close 80 = .ok (.getfield 227, 3) := by decide +kernel
theorem dX8_close_83 : decode cX8_close 83 = .ok (.iload_n 3, 1) := by decide +kernel
theorem dX8_close_84 : decode cX8_close 84 = .ok (.dup2, 1) := by decide +kernel
theorem dX8_close_85 : decode cX8_close 85 = .ok (.iaload, 1) := by decide +kernel
theorem dX8_close_86 : decode cX8_close 86 = .ok (.iconst 1, 1) := by decide +kernel
theorem dX8_close_87 : decode cX8_close 87 = .ok (.iadd, 1) := by decide +kernel
theorem dX8_close_88 : decode cX8_close 88 = .ok (.iastore, 1) := by decide +kernel
theorem dX8_close_89 : decode cX8_close 89 = .ok (.iload_n 3, 1) := by decide +kernel
theorem dX8_close_90 : decode cX8_close 90 = .ok (.ireturn, 1) := by decide +kernel
theorem dX8_look_0 : decode cX8_look 0 = .ok (.aload_n 0, 1) := by decide +kernel
theorem dX8_look_1 : decode cX8_look 1 = .ok (.iload_n 1, 1) := by decide +kernel
theorem dX8_look_2 : decode cX8_look 2 = .ok (.invokevirtual 135, 3) := by decide +kernel
theorem dX8_look_5 : decode cX8_look 5 = .ok (.ifCond .ne 10, 3) := by decide +kernel
theorem dX8_look_8 : decode cX8_look 8 = .ok (.aload_n 0, 1) := by decide +kernel
theorem dX8_look_9 : decode cX8_look 9 = .ok (.ldc 90, 2) := by decide +kernel
theorem dX8_look_11 : decode cX8_look 11 = .ok (.invokevirtual 91, 3) := by decide +kernel
theorem dX8_look_14 : decode cX8_look 14 = .ok (.ireturn, 1) := by decide +kernel
theorem dX8_look_15 : decode cX8_look 15 = .ok (.aload_n 0, 1) := by decide +kernel
theorem dX8_look_16 : decode cX8_look 16 = .ok (.getfield 19, 3) := by decide +kernel
theorem dX8_look_19 : decode cX8_look 19 = .ok (.getfield 218, 3) := by decide +kernel
theorem dX8_look_22 : decode cX8_look 22 = .ok (.iload_n 1, 1) := by decide +kernel
theorem dX8_look_23 : decode cX8_look 23 = .ok (.baload, 1) := by decide +kernel
theorem dX8_look_24 : decode cX8_look 24 = .ok (.ifCond .ne 15, 3) := by decide +kernel
theorem dX8_look_27 : decode cX8_look 27 = .ok (.aload_n 0, 1) := by decide +kernel
theorem dX8_look_28 : decode cX8_look 28 = .ok (.getfield 19, 3) := by decide +kernel
theorem dX8_look_31 : decode cX8_look 31 = .ok (.getfield 230, 3) := by decide +kernel
theorem dX8_look_34 : decode cX8_look 34 = .ok (.iload_n 1, 1) := by decide +kernel
theorem dX8_look_35 : decode cX8_look 35 = .ok (.baload, 1) := by decide +kernel
theorem dX8_look_36 : decode cX8_look 36 = .ok (.ifCond .eq 10, 3) := by decide +kernel
theorem dX8_look_39 : decode cX8_look 39 = .ok (.aload_n 0, 1) := by decide +kernel
theorem dX8_look_40 : decode cX8_look 40 = .ok (.ldc 222, 2) := by decide +kernel
theorem dX8_look_42 : decode cX8_look 42 = .ok (.invokevirtual 91, 3) := by decide +kernel
theorem dX8_look_45 : decode cX8_look 45 = .ok (.ireturn, 1) := by decide +kernel
theorem dX8_look_46 : decode cX8_look 46 = .ok (.aload_n 0, 1) := by decide +kernel
theorem dX8_look_47 : decode cX8_look 47 = .ok (.getfield 58, 3) := by decide +kernel
theorem dX8_look_50 : decode cX8_look 50 = .ok (.aload_n 0, 1) := by decide +kernel
theorem dX8_look_51 : decode cX8_look 51 = .ok (.getfield 19, 3) := by decide +kernel
theorem dX8_look_54 : decode cX8_look 54 = .ok (.getfield 233, 3) := by decide +kernel
theorem dX8_look_57 : decode cX8_look 57 = .ok (.iload_n 1, 1) := by decide +kernel
theorem dX8_look_58 : decode cX8_look 58 = .ok (.iaload, 1) := by decide +kernel
theorem dX8_look_59 : decode cX8_look 59 = .ok (.iload_n 2, 1) := by decide +kernel
theorem dX8_look_60 : decode cX8_look 60 = .ok (.invokevirtual 236, 3) := by decide +kernel
theorem dX8_look_63 : decode cX8_look 63 = .ok (.iload_n 2, 1) := by decide +kernel
theorem dX8_look_64 : decode cX8_look 64 = .ok (.ifCond .eq 16, 3) := by decide +kernel
theorem dX8_look_67 : decode cX8_look 67 = .ok (.aload_n 0, 1) := by decide +kernel
theorem dX8_look_68 : decode cX8_look 68 = .ok (.getfield 19, 3) := by decide +kernel
theorem dX8_look_71 : decode cX8_look 71 = .ok (.getfield 230, 3) := by decide +kernel
theorem dX8_look_74 : decode cX8_look 74 = .ok (.iload_n 1, 1) := by decide +kernel
theorem dX8_look_75 : decode cX8_look 75 = .ok (.iconst 1, 1) := by decide +kernel
theorem dX8_look_76 : decode cX8_look 76 = .ok (.bastore, 1) := by decide +kernel
theorem dX8_look_77 : decode cX8_look 77 = .ok (.goto 13, 3) := by decide +kernel
theorem dX8_look_80 : decode cX8_look 80 = .ok (.aload_n 0, 1) := by decide +kernel
theorem dX8_look_81 : decode cX8_look 81 = .ok (.getfield 19, 3) := by decide +kernel
theorem dX8_look_84 : decode cX8_look 84 = .ok (.getfield 218, 3) := by decide +kernel
theorem dX8_look_87 : decode cX8_look 87 = .ok (.iload_n 1, 1) := by decide +kernel
theorem dX8_look_88 : decode cX8_look 88 = .ok (.iconst 1, 1) := by decide +kernel
theorem dX8_look_89 : decode cX8_look 89 = .ok (.bastore, 1) := by decide +kernel
theorem dX8_look_90 : decode cX8_look 90 = .ok (.iconst 1, 1) := by decide +kernel
theorem dX8_look_91 : decode cX8_look 91 = .ok (.ireturn, 1) := by decide +kernel
theorem dX8_closings_0 : decode cX8_closings 0 = .ok (.iload_n 1, 1) := by decide +kernel
theorem dX8_closings_1 : decode cX8_closings 1 = .ok (.iconst 0, 1) := by decide +kernel
theorem dX8_closings_2 : decode cX8_closings 2 = .ok (.iconst 5, 1) := by decide +kernel
theorem dX8_closings_3 : decode cX8_closings 3 = .ok (.invokestatic 79, 3) := by decide +kernel
theorem dX8_closings_6 : decode cX8_closings 6 = .ok (.ifCond .eq 12, 3) := by decide +kernel
theorem dX8_closings_9 : decode cX8_closings 9 = .ok (.iload_n 2, 1) := by decide +kernel
theorem dX8_closings_10 : decode cX8_closings 10 = .ok (.iconst 0, 1) := by decide +kernel
theorem dX8_closings_11 : decode cX8_closings 11 = .ok (.iconst 3, 1) := by decide +kernel
theorem dX8_closings_12 : decode cX8_closings 12 = .ok (.invokestatic 79, 3) := by decide +kernel
theorem dX8_closings_15 : decode cX8_closings 15 = .ok (.ifCond .ne 10, 3) := by decide +kernel
theorem dX8_closings_18 : decode cX8_closings 18 = .ok (.aload_n 0, 1) := by decide +kernel
theorem dX8_closings_19 : decode cX8_closings 19 = .ok (.ldc 90, 2) := by decide +kernel
theorem dX8_closings_21 : decode cX8_closings 21 = .ok (.invokevirtual 91, 3) := by decide +kernel
theorem dX8_closings_24 : decode cX8_closings 24 = .ok (.ireturn, 1) := by decide +kernel
theorem dX8_closings_25 : decode cX8_closings 25 = .ok (.aload_n 0, 1) := by decide +kernel
theorem dX8_closings_26 : decode cX8_closings 26 = .ok (.getfield 58, 3) := by decide +kernel
theorem dX8_closings_29 : decode cX8_closings 29 = .ok (.iload_n 1, 1) := by decide +kernel
theorem dX8_closings_30 : decode cX8_closings 30 = .ok (.iload_n 2, 1) := by decide +kernel
theorem dX8_closings_31 : decode cX8_closings 31 = .ok (.invokevirtual 240, 3) := by decide +kernel
theorem dX8_closings_34 : decode cX8_closings 34 = .ok (.ireturn, 1) := by decide +kernel
theorem dX8_walk_0 : decode cX8_walk 0 = .ok (.iload_n 1, 1) := by decide +kernel
theorem dX8_walk_1 : decode cX8_walk 1 = .ok (.invokestatic 241, 3) := by decide +kernel
theorem dX8_walk_4 : decode cX8_walk 4 = .ok (.ifCond .eq 23, 3) := by decide +kernel
theorem dX8_walk_7 : decode cX8_walk 7 = .ok (.iload_n 2, 1) := by decide +kernel
theorem dX8_walk_8 : decode cX8_walk 8 = .ok (.iconst 0, 1) := by decide +kernel
theorem dX8_walk_9 : decode cX8_walk 9 = .ok (.sipush 1000, 3) := by decide +kernel
theorem dX8_walk_12 : decode cX8_walk 12 = .ok (.invokestatic 79, 3) := by decide +kernel
theorem dX8_walk_15 : decode cX8_walk 15 = .ok (.ifCond .eq 12, 3) := by decide +kernel
theorem dX8_walk_18 : decode cX8_walk 18 = .ok (.iload_n 3, 1) := by decide +kernel
theorem dX8_walk_19 : decode cX8_walk 19 = .ok (.iconst 0, 1) := by decide +kernel
theorem dX8_walk_20 : decode cX8_walk 20 = .ok (.iload_n 2, 1) := by decide +kernel
theorem dX8_walk_21 : decode cX8_walk 21 = .ok (.invokestatic 79, 3) := by decide +kernel
theorem dX8_walk_24 : decode cX8_walk 24 = .ok (.ifCond .ne 10, 3) := by decide +kernel
theorem dX8_walk_27 : decode cX8_walk 27 = .ok (.aload_n 0, 1) := by decide +kernel
theorem dX8_walk_28 : decode cX8_walk 28 = .ok (.ldc 90, 2) := by decide +kernel
theorem dX8_walk_30 : decode cX8_walk 30 = .ok (.invokevirtual 91, 3) := by decide +kernel
theorem dX8_walk_33 : decode cX8_walk 33 = .ok (.ireturn, 1) := by decide +kernel
theorem dX8_walk_34 : decode cX8_walk 34 = .ok (.aload_n 0, 1) := by decide +kernel
theorem dX8_walk_35 : decode cX8_walk 35 = .ok (.getfield 62, 3) := by decide +kernel
theorem dX8_walk_38 : decode cX8_walk 38 = .ok (.iload_n 1, 1) := by decide +kernel
theorem dX8_walk_39 : decode cX8_walk 39 = .ok (.iload_n 2, 1) := by decide +kernel
theorem dX8_walk_40 : decode cX8_walk 40 = .ok (.iastore, 1) := by decide +kernel
theorem dX8_walk_41 : decode cX8_walk 41 = .ok (.aload_n 0, 1) := by decide +kernel
theorem dX8_walk_42 : decode cX8_walk 42 = .ok (.getfield 65, 3) := by decide +kernel
theorem dX8_walk_45 : decode cX8_walk 45 = .ok (.iload_n 1, 1) := by decide +kernel
theorem dX8_walk_46 : decode cX8_walk 46 = .ok (.iload_n 3, 1) := by decide +kernel
theorem dX8_walk_47 : decode cX8_walk 47 = .ok (.iastore, 1) := by decide +kernel
theorem dX8_walk_48 : decode cX8_walk 48 = .ok (.iconst 1, 1) := by decide +kernel
theorem dX8_walk_49 : decode cX8_walk 49 = .ok (.ireturn, 1) := by decide +kernel
theorem dX8_quarter_0 : decode cX8_quarter 0 = .ok (.iload_n 1, 1) := by decide +kernel
theorem dX8_quarter_1 : decode cX8_quarter 1 = .ok (.invokestatic 241, 3) := by decide +kernel
theorem dX8_quarter_4 : decode cX8_quarter 4 = .ok (.ifCond .eq 12, 3) := by decide +kernel
theorem dX8_quarter_7 : decode cX8_quarter 7 = .ok (.iload_n 2, 1) := by decide +kernel
theorem dX8_quarter_8 : decode cX8_quarter 8 = .ok (.iconst 0, 1) := by decide +kernel
theorem dX8_quarter_9 : decode cX8_quarter 9 = .ok (.iconst 4, 1) := by decide +kernel
theorem dX8_quarter_10 : decode cX8_quarter 10 = .ok (.invokestatic 79, 3) := by decide +kernel
theorem dX8_quarter_13 : decode cX8_quarter 13 = .ok (.ifCond .ne 10, 3) := by decide +kernel
theorem dX8_quarter_16 : decode cX8_quarter 16 = .ok (.aload_n 0, 1) := by decide +kernel
theorem dX8_quarter_17 : decode cX8_quarter 17 = .ok (.ldc 90, 2) := by decide +kernel
theorem dX8_quarter_19 : decode cX8_quarter 19 = .ok (.invokevirtual 91, 3) := by decide +kernel
theorem dX8_quarter_22 : decode cX8_quarter 22 = .ok (.ireturn, 1) := by decide +kernel
theorem dX8_quarter_23 : decode cX8_quarter 23 = .ok (.iload_n 2, 1) := by decide +kernel
theorem dX8_quarter_24 : decode cX8_quarter 24 = .ok (.tableswitch 61 0 3 #[32, 39, 48, 55], 32) := by decide +kernel
theorem dX8_quarter_56 : decode cX8_quarter 56 = .ok (.aload_n 0, 1) := by decide +kernel
theorem dX8_quarter_57 : decode cX8_quarter 57 = .ok (.iload_n 1, 1) := by decide +kernel
theorem dX8_quarter_58 : decode cX8_quarter 58 = .ok (.iconst 0, 1) := by decide +kernel
theorem dX8_quarter_59 : decode cX8_quarter 59 = .ok (.invokevirtual 244, 3) := by decide +kernel
theorem dX8_quarter_62 : decode cX8_quarter 62 = .ok (.ireturn, 1) := by decide +kernel
theorem dX8_quarter_63 : decode cX8_quarter 63 = .ok (.aload_n 0, 1) := by decide +kernel
theorem dX8_quarter_64 : decode cX8_quarter 64 = .ok (.getfield 10, 3) := by decide +kernel
theorem dX8_quarter_67 : decode cX8_quarter 67 = .ok (.iload_n 1, 1) := by decide +kernel
theorem dX8_quarter_68 : decode cX8_quarter 68 = .ok (.invokevirtual 248, 3) := by decide +kernel
theorem dX8_quarter_71 : decode cX8_quarter 71 = .ok (.ireturn, 1) := by decide +kernel
theorem dX8_quarter_72 : decode cX8_quarter 72 = .ok (.aload_n 0, 1) := by decide +kernel
theorem dX8_quarter_73 : decode cX8_quarter 73 = .ok (.iload_n 1, 1) := by decide +kernel
theorem dX8_quarter_74 : decode cX8_quarter 74 = .ok (.iconst 1, 1) := by decide +kernel
theorem dX8_quarter_75 : decode cX8_quarter 75 = .ok (.invokevirtual 244, 3) := by decide +kernel
theorem dX8_quarter_78 : decode cX8_quarter 78 = .ok (.ireturn, 1) := by decide +kernel
theorem dX8_quarter_79 : decode cX8_quarter 79 = .ok (.aload_n 0, 1) := by decide +kernel
theorem dX8_quarter_80 : decode cX8_quarter 80 = .ok (.iload_n 1, 1) := by decide +kernel
theorem dX8_quarter_81 : decode cX8_quarter 81 = .ok (.invokevirtual 251, 3) := by decide +kernel
theorem dX8_quarter_84 : decode cX8_quarter 84 = .ok (.ireturn, 1) := by decide +kernel
theorem dX8_quarter_85 : decode cX8_quarter 85 = .ok (.aload_n 0, 1) := by decide +kernel
theorem dX8_quarter_86 : decode cX8_quarter 86 = .ok (.iload_n 1, 1) := by decide +kernel
theorem dX8_quarter_87 : decode cX8_quarter 87 = .ok (.invokevirtual 254, 3) := by decide +kernel
theorem dX8_quarter_90 : decode cX8_quarter 90 = .ok (.ireturn, 1) := by decide +kernel
theorem dX8_sheet_0 : decode cX8_sheet 0 = .ok (.iload_n 1, 1) := by decide +kernel
theorem dX8_sheet_1 : decode cX8_sheet 1 = .ok (.invokestatic 257, 3) := by decide +kernel
theorem dX8_sheet_4 : decode cX8_sheet 4 = .ok (.ifCond .eq 25, 3) := by decide +kernel
theorem dX8_sheet_7 : decode cX8_sheet 7 = .ok (.iload_n 2, 1) := by decide +kernel
theorem dX8_sheet_8 : decode cX8_sheet 8 = .ok (.ifCond .eq 28, 3) := by decide +kernel
theorem dX8_sheet_11 : decode cX8_sheet 11 = .ok (.iload_n 2, 1) := by decide +kernel
theorem dX8_sheet_12 : decode cX8_sheet 12 = .ok (.bipush 8, 2) := by decide +kernel
theorem dX8_sheet_14 : decode cX8_sheet 14 = .ok (.if_icmp .eq 22, 3) := by decide +kernel
theorem dX8_sheet_17 : decode cX8_sheet 17 = .ok (.iload_n 2, 1) := by decide +kernel
theorem dX8_sheet_18 : decode cX8_sheet 18 = .ok (.bipush 16, 2) := by decide +kernel
theorem dX8_sheet_20 : decode cX8_sheet 20 = .ok (.if_icmp .eq 16, 3) := by decide +kernel
theorem dX8_sheet_23 : decode cX8_sheet 23 = .ok (.iload_n 2, 1) := by decide +kernel
theorem dX8_sheet_24 : decode cX8_sheet 24 = .ok (.bipush 32, 2) := by decide +kernel
theorem dX8_sheet_26 : decode cX8_sheet 26 = .ok (.if_icmp .eq 10, 3) := by decide +kernel
theorem dX8_sheet_29 : decode cX8_sheet 29 = .ok (.aload_n 0, 1) := by decide +kernel
theorem dX8_sheet_30 : decode cX8_sheet 30 = .ok (.ldc 90, 2) := by decide +kernel
theorem dX8_sheet_32 : decode cX8_sheet 32 = .ok (.invokevirtual 91, 3) := by decide +kernel
theorem dX8_sheet_35 : decode cX8_sheet 35 = .ok (.ireturn, 1) := by decide +kernel
theorem dX8_sheet_36 : decode cX8_sheet 36 = .ok (.iload_n 3, 1) := by decide +kernel
theorem dX8_sheet_37 : decode cX8_sheet 37 = .ok (.ifCond .ge 11, 3) := by decide +kernel
theorem dX8_sheet_40 : decode cX8_sheet 40 = .ok (.aload_n 0, 1) := by decide +kernel
theorem dX8_sheet_41 : decode cX8_sheet 41 = .ok (.ldc_w 260, 3) := by decide +kernel
theorem dX8_sheet_44 : decode cX8_sheet 44 = .ok (.invokevirtual 91, 3) := by decide +kernel
theorem dX8_sheet_47 : decode cX8_sheet 47 = .ok (.ireturn, 1) := by decide +kernel
theorem dX8_sheet_48 : decode cX8_sheet 48 = .ok (.iload_n 3, 1) := by decide +kernel
theorem dX8_sheet_49 : decode cX8_sheet 49 = .ok (.bipush 12, 2) := by decide +kernel
theorem dX8_sheet_51 : decode cX8_sheet 51 = .ok (.if_icmp .le 10, 3) := by decide +kernel
theorem dX8_sheet_54 : decode cX8_sheet 54 = .ok (.aload_n 0, 1) := by decide +kernel
theorem dX8_sheet_55 : decode cX8_sheet 55 = .ok (.ldc 90, 2) := by decide +kernel
theorem dX8_sheet_57 : decode cX8_sheet 57 = .ok (.invokevirtual 91, 3) := by decide +kernel
theorem dX8_sheet_60 : decode cX8_sheet 60 = .ok (.ireturn, 1) := by decide +kernel
theorem dX8_sheet_61 : decode cX8_sheet 61 = .ok (.aload_n 0, 1) := by decide +kernel
theorem dX8_sheet_62 : decode cX8_sheet 62 = .ok (.getfield 70, 3) := by decide +kernel
theorem dX8_sheet_65 : decode cX8_sheet 65 = .ok (.iload_n 1, 1) := by decide +kernel
theorem dX8_sheet_66 : decode cX8_sheet 66 = .ok (.aaload, 1) := by decide +kernel
theorem dX8_sheet_67 : decode cX8_sheet 67 = .ok (.iload_n 2, 1) := by decide +kernel
theorem dX8_sheet_68 : decode cX8_sheet 68 = .ok (.iload_n 3, 1) := by decide +kernel
theorem dX8_sheet_69 : decode cX8_sheet 69 = .ok (.invokevirtual 261, 3) := by decide +kernel
theorem dX8_sheet_72 : decode cX8_sheet 72 = .ok (.aload_n 0, 1) := by decide +kernel
theorem dX8_sheet_73 : decode cX8_sheet 73 = .ok (.getfield 70, 3) := by decide +kernel
theorem dX8_sheet_76 : decode cX8_sheet 76 = .ok (.iload_n 1, 1) := by decide +kernel
theorem dX8_sheet_77 : decode cX8_sheet 77 = .ok (.aaload, 1) := by decide +kernel
theorem dX8_sheet_78 : decode cX8_sheet 78 = .ok (.getfield 263, 3) := by decide +kernel
theorem dX8_sheet_81 : decode cX8_sheet 81 = .ok (.ireturn, 1) := by decide +kernel
theorem dX8_write_0 : decode cX8_write 0 = .ok (.iload_n 1, 1) := by decide +kernel
theorem dX8_write_1 : decode cX8_write 1 = .ok (.invokestatic 257, 3) := by decide +kernel
theorem dX8_write_4 : decode cX8_write 4 = .ok (.ifCond .ne 10, 3) := by decide +kernel
theorem dX8_write_7 : decode cX8_write 7 = .ok (.aload_n 0, 1) := by decide +kernel
theorem dX8_write_8 : decode cX8_write 8 = .ok (.ldc 90, 2) := by decide +kernel
theorem dX8_write_10 : decode cX8_write 10 = .ok (.invokevirtual 91, 3) := by decide +kernel
theorem dX8_write_13 : decode cX8_write 13 = .ok (.ireturn, 1) := by decide +kernel
theorem dX8_write_14 : decode cX8_write 14 = .ok (.aload_n 0, 1) := by decide +kernel
theorem dX8_write_15 : decode cX8_write 15 = .ok (.getfield 70, 3) := by decide +kernel
theorem dX8_write_18 : decode cX8_write 18 = .ok (.iload_n 1, 1) := by decide +kernel
theorem dX8_write_19 : decode cX8_write 19 = .ok (.aaload, 1) := by decide +kernel
theorem dX8_write_20 : decode cX8_write 20 = .ok (.invokevirtual 266, 3) := by decide +kernel
theorem dX8_write_23 : decode cX8_write 23 = .ok (.ifCond .eq 11, 3) := by decide +kernel
theorem dX8_write_26 : decode cX8_write 26 = .ok (.aload_n 0, 1) := by decide +kernel
theorem dX8_write_27 : decode cX8_write 27 = .ok (.ldc_w 270, 3) := by decide +kernel
theorem dX8_write_30 : decode cX8_write 30 = .ok (.invokevirtual 91, 3) := by decide +kernel
theorem dX8_write_33 : decode cX8_write 33 = .ok (.ireturn, 1) := by decide +kernel
theorem dX8_write_34 : decode cX8_write 34 = .ok (.iload_n 2, 1) := by decide +kernel
theorem dX8_write_35 : decode cX8_write 35 = .ok (.iconst 0, 1) := by decide +kernel
theorem dX8_write_36 : decode cX8_write 36 = .ok (.aload_n 0, 1) := by decide +kernel
theorem dX8_write_37 : decode cX8_write 37 = .ok (.getfield 70, 3) := by decide +kernel
theorem dX8_write_40 : decode cX8_write 40 = .ok (.iload_n 1, 1) := by decide +kernel
theorem dX8_write_41 : decode cX8_write 41 = .ok (.aaload, 1) := by decide +kernel
theorem dX8_write_42 : decode cX8_write 42 = .ok (.getfield 263, 3) := by decide +kernel
theorem dX8_write_45 : decode cX8_write 45 = .ok (.iconst 1, 1) := by decide +kernel
theorem dX8_write_46 : decode cX8_write 46 = .ok (.isub, 1) := by decide +kernel
theorem dX8_write_47 : decode cX8_write 47 = .ok (.invokestatic 79, 3) := by decide +kernel
theorem dX8_write_50 : decode cX8_write 50 = .ok (.ifCond .ne 10, 3) := by decide +kernel
theorem dX8_write_53 : decode cX8_write 53 = .ok (.aload_n 0, 1) := by decide +kernel
theorem dX8_write_54 : decode cX8_write 54 = .ok (.ldc 90, 2) := by decide +kernel
theorem dX8_write_56 : decode cX8_write 56 = .ok (.invokevirtual 91, 3) := by decide +kernel
theorem dX8_write_59 : decode cX8_write 59 = .ok (.ireturn, 1) := by decide +kernel
theorem dX8_write_60 : decode cX8_write 60 = .ok (.aload_n 0, 1) := by decide +kernel
theorem dX8_write_61 : decode cX8_write 61 = .ok (.getfield 70, 3) := by decide +kernel
theorem dX8_write_64 : decode cX8_write 64 = .ok (.iload_n 1, 1) := by decide +kernel
theorem dX8_write_65 : decode cX8_write 65 = .ok (.aaload, 1) := by decide +kernel
theorem dX8_write_66 : decode cX8_write 66 = .ok (.iload_n 2, 1) := by decide +kernel
theorem dX8_write_67 : decode cX8_write 67 = .ok (.iload_n 3, 1) := by decide +kernel
theorem dX8_write_68 : decode cX8_write 68 = .ok (.invokevirtual 271, 3) := by decide +kernel
theorem dX8_write_71 : decode cX8_write 71 = .ok (.ireturn, 1) := by decide +kernel
theorem dX8_copy_0 : decode cX8_copy 0 = .ok (.iload_n 1, 1) := by decide +kernel
theorem dX8_copy_1 : decode cX8_copy 1 = .ok (.invokestatic 257, 3) := by decide +kernel
theorem dX8_copy_4 : decode cX8_copy 4 = .ok (.ifCond .eq 10, 3) := by decide +kernel
theorem dX8_copy_7 : decode cX8_copy 7 = .ok (.iload_n 3, 1) := by decide +kernel
theorem dX8_copy_8 : decode cX8_copy 8 = .ok (.invokestatic 257, 3) := by decide +kernel
theorem dX8_copy_11 : decode cX8_copy 11 = .ok (.ifCond .ne 10, 3) := by decide +kernel
theorem dX8_copy_14 : decode cX8_copy 14 = .ok (.aload_n 0, 1) := by decide +kernel
theorem dX8_copy_15 : decode cX8_copy 15 = .ok (.ldc 90, 2) := by decide +kernel
theorem dX8_copy_17 : decode cX8_copy 17 = .ok (.invokevirtual 91, 3) := by decide +kernel
theorem dX8_copy_20 : decode cX8_copy 20 = .ok (.ireturn, 1) := by decide +kernel
theorem dX8_copy_21 : decode cX8_copy 21 = .ok (.aload_n 0, 1) := by decide +kernel
theorem dX8_copy_22 : decode cX8_copy 22 = .ok (.getfield 70, 3) := by decide +kernel
theorem dX8_copy_25 : decode cX8_copy 25 = .ok (.iload_n 1, 1) := by decide +kernel
theorem dX8_copy_26 : decode cX8_copy 26 = .ok (.aaload, 1) := by decide +kernel
theorem dX8_copy_27 : decode cX8_copy 27 = .ok (.astore 6, 2) := by decide +kernel
theorem dX8_copy_29 : decode cX8_copy 29 = .ok (.aload_n 0, 1) := by decide +kernel
theorem dX8_copy_30 : decode cX8_copy 30 = .ok (.getfield 70, 3) := by decide +kernel
theorem dX8_copy_33 : decode cX8_copy 33 = .ok (.iload_n 3, 1) := by decide +kernel
theorem dX8_copy_34 : decode cX8_copy 34 = .ok (.aaload, 1) := by decide +kernel
theorem dX8_copy_35 : decode cX8_copy 35 = .ok (.astore 7, 2) := by decide +kernel
theorem dX8_copy_37 : decode cX8_copy 37 = .ok (.aload 6, 2) := by decide +kernel
theorem dX8_copy_39 : decode cX8_copy 39 = .ok (.invokevirtual 266, 3) := by decide +kernel
theorem dX8_copy_42 : decode cX8_copy 42 = .ok (.ifCond .ne 11, 3) := by decide +kernel
theorem dX8_copy_45 : decode cX8_copy 45 = .ok (.aload 7, 2) := by decide +kernel
theorem dX8_copy_47 : decode cX8_copy 47 = .ok (.invokevirtual 266, 3) := by decide +kernel
theorem dX8_copy_50 : decode cX8_copy 50 = .ok (.ifCond .eq 11, 3) := by decide +kernel
theorem dX8_copy_53 : decode cX8_copy 53 = .ok (.aload_n 0, 1) := by decide +kernel
theorem dX8_copy_54 : decode cX8_copy 54 = .ok (.ldc_w 270, 3) := by decide +kernel
theorem dX8_copy_57 : decode cX8_copy 57 = .ok (.invokevirtual 91, 3) := by decide +kernel
theorem dX8_copy_60 : decode cX8_copy 60 = .ok (.ireturn, 1) := by decide +kernel
theorem dX8_copy_61 : decode cX8_copy 61 = .ok (.aload 6, 2) := by decide +kernel
theorem dX8_copy_63 : decode cX8_copy 63 = .ok (.getfield 274, 3) := by decide +kernel
theorem dX8_copy_66 : decode cX8_copy 66 = .ok (.aload 7, 2) := by decide +kernel
theorem dX8_copy_68 : decode cX8_copy 68 = .ok (.getfield 274, 3) := by decide +kernel
theorem dX8_copy_71 : decode cX8_copy 71 = .ok (.if_icmp .eq 10, 3) := by decide +kernel
theorem dX8_copy_74 : decode cX8_copy 74 = .ok (.aload_n 0, 1) := by decide +kernel
theorem dX8_copy_75 : decode cX8_copy 75 = .ok (.ldc 126, 2) := by decide +kernel
theorem dX8_copy_77 : decode cX8_copy 77 = .ok (.invokevirtual 91, 3) := by decide +kernel
theorem dX8_copy_80 : decode cX8_copy 80 = .ok (.ireturn, 1) := by decide +kernel
theorem dX8_copy_81 : decode cX8_copy 81 = .ok (.aload 6, 2) := by decide +kernel
theorem dX8_copy_83 : decode cX8_copy 83 = .ok (.iload_n 2, 1) := by decide +kernel
theorem dX8_copy_84 : decode cX8_copy 84 = .ok (.iload 5, 2) := by decide +kernel
theorem dX8_copy_86 : decode cX8_copy 86 = .ok (.invokevirtual 277, 3) := by decide +kernel
theorem dX8_copy_89 : decode cX8_copy 89 = .ok (.ifCond .eq 15, 3) := by decide +kernel
theorem dX8_copy_92 : decode cX8_copy 92 = .ok (.aload 7, 2) := by decide +kernel
theorem dX8_copy_94 : decode cX8_copy 94 = .ok (.iload 4, 2) := by decide +kernel
theorem dX8_copy_96 : decode cX8_copy 96 = .ok (.iload 5, 2) := by decide +kernel
theorem dX8_copy_98 : decode cX8_copy 98 = .ok (.invokevirtual 277, 3) := by decide +kernel
theorem dX8_copy_101 : decode cX8_copy 101 = .ok (.ifCond .ne 10, 3) := by decide +kernel
theorem dX8_copy_104 : decode cX8_copy 104 = .ok (.aload_n 0, 1) := by decide +kernel
theorem dX8_copy_105 : decode cX8_copy 105 = .ok (.ldc 90, 2) := by decide +kernel
theorem dX8_copy_107 : decode cX8_copy 107 = .ok (.invokevirtual 91, 3) := by decide +kernel
theorem dX8_copy_110 : decode cX8_copy 110 = .ok (.ireturn, 1) := by decide +kernel
theorem dX8_copy_111 : decode cX8_copy 111 = .ok (.aload 6, 2) := by decide +kernel
theorem dX8_copy_113 : decode cX8_copy 113 = .ok (.getfield 280, 3) := by decide +kernel
theorem dX8_copy_116 : decode cX8_copy 116 = .ok (.iload_n 2, 1) := by decide +kernel
theorem dX8_copy_117 : decode cX8_copy 117 = .ok (.aload 7, 2) := by decide +kernel
theorem dX8_copy_119 : decode cX8_copy 119 = .ok (.getfield 280, 3) := by decide +kernel
theorem dX8_copy_122 : decode cX8_copy 122 = .ok (.iload 4, 2) := by decide +kernel
theorem dX8_copy_124 : decode cX8_copy 124 = .ok (.iload 5, 2) := by decide +kernel
theorem dX8_copy_126 : decode cX8_copy 126 = .ok (.invokestatic 283, 3) := by decide +kernel
theorem dX8_copy_129 : decode cX8_copy 129 = .ok (.iload 5, 2) := by decide +kernel
theorem dX8_copy_131 : decode cX8_copy 131 = .ok (.ireturn, 1) := by decide +kernel
theorem dX8_read_0 : decode cX8_read 0 = .ok (.iload_n 1, 1) := by decide +kernel
theorem dX8_read_1 : decode cX8_read 1 = .ok (.invokestatic 257, 3) := by decide +kernel
theorem dX8_read_4 : decode cX8_read 4 = .ok (.ifCond .eq 18, 3) := by decide +kernel
theorem dX8_read_7 : decode cX8_read 7 = .ok (.iload_n 2, 1) := by decide +kernel
theorem dX8_read_8 : decode cX8_read 8 = .ok (.invokestatic 83, 3) := by decide +kernel
theorem dX8_read_11 : decode cX8_read 11 = .ok (.ifCond .eq 11, 3) := by decide +kernel
theorem dX8_read_14 : decode cX8_read 14 = .ok (.aload_n 0, 1) := by decide +kernel
theorem dX8_read_15 : decode cX8_read 15 = .ok (.iload_n 3, 1) := by decide +kernel
theorem dX8_read_16 : decode cX8_read 16 = .ok (.invokevirtual 87, 3) := by decide +kernel
theorem dX8_read_19 : decode cX8_read 19 = .ok (.ifCond .ne 10, 3) := by decide +kernel
theorem dX8_read_22 : decode cX8_read 22 = .ok (.aload_n 0, 1) := by decide +kernel
theorem dX8_read_23 : decode cX8_read 23 = .ok (.ldc 90, 2) := by decide +kernel
theorem dX8_read_25 : decode cX8_read 25 = .ok (.invokevirtual 91, 3) := by decide +kernel
theorem dX8_read_28 : decode cX8_read 28 = .ok (.ireturn, 1) := by decide +kernel
theorem dX8_read_29 : decode cX8_read 29 = .ok (.aload_n 0, 1) := by decide +kernel
theorem dX8_read_30 : decode cX8_read 30 = .ok (.getfield 70, 3) := by decide +kernel
theorem dX8_read_33 : decode cX8_read 33 = .ok (.iload_n 1, 1) := by decide +kernel
theorem dX8_read_34 : decode cX8_read 34 = .ok (.aaload, 1) := by decide +kernel
theorem dX8_read_35 : decode cX8_read 35 = .ok (.astore 4, 2) := by decide +kernel
theorem dX8_read_37 : decode cX8_read 37 = .ok (.aload 4, 2) := by decide +kernel
theorem dX8_read_39 : decode cX8_read 39 = .ok (.invokevirtual 266, 3) := by decide +kernel
theorem dX8_read_42 : decode cX8_read 42 = .ok (.ifCond .eq 11, 3) := by decide +kernel
theorem dX8_read_45 : decode cX8_read 45 = .ok (.aload_n 0, 1) := by decide +kernel
theorem dX8_read_46 : decode cX8_read 46 = .ok (.ldc_w 270, 3) := by decide +kernel
theorem dX8_read_49 : decode cX8_read 49 = .ok (.invokevirtual 91, 3) := by decide +kernel
theorem dX8_read_52 : decode cX8_read 52 = .ok (.ireturn, 1) := by decide +kernel
theorem dX8_read_53 : decode cX8_read 53 = .ok (.aload 4, 2) := by decide +kernel
theorem dX8_read_55 : decode cX8_read 55 = .ok (.invokevirtual 289, 3) := by decide +kernel
theorem dX8_read_58 : decode cX8_read 58 = .ok (.ifCond .ne 10, 3) := by decide +kernel
theorem dX8_read_61 : decode cX8_read 61 = .ok (.aload_n 0, 1) := by decide +kernel
theorem dX8_read_62 : decode cX8_read 62 = .ok (.ldc 90, 2) := by decide +kernel
theorem dX8_read_64 : decode cX8_read 64 = .ok (.invokevirtual 91, 3) := by decide +kernel
theorem dX8_read_67 : decode cX8_read 67 = .ok (.ireturn, 1) := by decide +kernel
theorem dX8_read_68 : decode cX8_read 68 = .ok (.aload_n 0, 1) := by decide +kernel
theorem dX8_read_69 : decode cX8_read 69 = .ok (.getfield 10, 3) := by decide +kernel
theorem dX8_read_72 : decode cX8_read 72 = .ok (.getfield 95, 3) := by decide +kernel
theorem dX8_read_75 : decode cX8_read 75 = .ok (.aload 4, 2) := by decide +kernel
theorem dX8_read_77 : decode cX8_read 77 = .ok (.getfield 263, 3) := by decide +kernel
theorem dX8_read_80 : decode cX8_read 80 = .ok (.iadd, 1) := by decide +kernel
theorem dX8_read_81 : decode cX8_read 81 = .ok (.bipush 40, 2) := by decide +kernel
theorem dX8_read_83 : decode cX8_read 83 = .ok (.if_icmp .le 10, 3) := by decide +kernel
theorem dX8_read_86 : decode cX8_read 86 = .ok (.aload_n 0, 1) := by decide +kernel
theorem dX8_read_87 : decode cX8_read 87 = .ok (.ldc 98, 2) := by decide +kernel
theorem dX8_read_89 : decode cX8_read 89 = .ok (.invokevirtual 91, 3) := by decide +kernel
theorem dX8_read_92 : decode cX8_read 92 = .ok (.ireturn, 1) := by decide +kernel
theorem dX8_read_93 : decode cX8_read 93 = .ok (.iconst 0, 1) := by decide +kernel
theorem dX8_read_94 : decode cX8_read 94 = .ok (.istore 5, 2) := by decide +kernel
theorem dX8_read_96 : decode cX8_read 96 = .ok (.iload 5, 2) := by decide +kernel
theorem dX8_read_98 : decode cX8_read 98 = .ok (.aload 4, 2) := by decide +kernel
theorem dX8_read_100 : decode cX8_read 100 = .ok (.getfield 263, 3) := by decide +kernel
theorem dX8_read_103 : decode cX8_read 103 = .ok (.if_icmp .ge 39, 3) := by decide +kernel
theorem dX8_read_106 : decode cX8_read 106 = .ok (.aload_n 0, 1) := by decide +kernel
theorem dX8_read_107 : decode cX8_read 107 = .ok (.iload_n 2, 1) := by decide +kernel
theorem dX8_read_108 : decode cX8_read 108 = .ok (.aload 4, 2) := by decide +kernel
theorem dX8_read_110 : decode cX8_read 110 = .ok (.getfield 280, 3) := by decide +kernel
theorem dX8_read_113 : decode cX8_read 113 = .ok (.iload 5, 2) := by decide +kernel
theorem dX8_read_115 : decode cX8_read 115 = .ok (.iaload, 1) := by decide +kernel
theorem dX8_read_116 : decode cX8_read 116 = .ok (.bipush 32, 2) := by decide +kernel
theorem dX8_read_118 : decode cX8_read 118 = .ok (.idiv, 1) := by decide +kernel
theorem dX8_read_119 : decode cX8_read 119 = .ok (.aload 4, 2) := by decide +kernel
theorem dX8_read_121 : decode cX8_read 121 = .ok (.getfield 280, 3) := by decide +kernel
theorem dX8_read_124 : decode cX8_read 124 = .ok (.iload 5, 2) := by decide +kernel
theorem dX8_read_126 : decode cX8_read 126 = .ok (.iaload, 1) := by decide +kernel
theorem dX8_read_127 : decode cX8_read 127 = .ok (.bipush 32, 2) := by decide +kernel
theorem dX8_read_129 : decode cX8_read 129 = .ok (.irem, 1) := by decide +kernel
theorem dX8_read_130 : decode cX8_read 130 = .ok (.iconst 0, 1) := by decide +kernel
theorem dX8_read_131 : decode cX8_read 131 = .ok (.iload_n 3, 1) := by decide +kernel
theorem dX8_read_132 : decode cX8_read 132 = .ok (.invokevirtual 99, 3) := by decide +kernel
theorem dX8_read_135 : decode cX8_read 135 = .ok (.pop, 1) := by decide +kernel
theorem dX8_read_136 : decode cX8_read 136 = .ok (.iinc 5 1, 3) := by decide +kernel
theorem dX8_read_139 : decode cX8_read 139 = .ok (.goto (-43), 3) := by decide +kernel
theorem dX8_read_142 : decode cX8_read 142 = .ok (.aload_n 0, 1) := by decide +kernel
theorem dX8_read_143 : decode cX8_read 143 = .ok (.getfield 10, 3) := by decide +kernel
theorem dX8_read_146 : decode cX8_read 146 = .ok (.getfield 95, 3) := by decide +kernel
theorem dX8_read_149 : decode cX8_read 149 = .ok (.ireturn, 1) := by decide +kernel
theorem dX8_told_0 : decode cX8_told 0 = .ok (.iload_n 1, 1) := by decide +kernel
theorem dX8_told_1 : decode cX8_told 1 = .ok (.tableswitch 108 0 7 #[47, 55, 63, 71, 79, 87, 95, 103], 47) := by decide +kernel
theorem dX8_told_48 : decode cX8_told 48 = .ok (.aload_n 0, 1) := by decide +kernel
theorem dX8_told_49 : decode cX8_told 49 = .ok (.getfield 10, 3) := by decide +kernel
theorem dX8_told_52 : decode cX8_told 52 = .ok (.getfield 95, 3) := by decide +kernel
theorem dX8_told_55 : decode cX8_told 55 = .ok (.ireturn, 1) := by decide +kernel
theorem dX8_told_56 : decode cX8_told 56 = .ok (.aload_n 0, 1) := by decide +kernel
theorem dX8_told_57 : decode cX8_told 57 = .ok (.getfield 19, 3) := by decide +kernel
theorem dX8_told_60 : decode cX8_told 60 = .ok (.getfield 292, 3) := by decide +kernel
theorem dX8_told_63 : decode cX8_told 63 = .ok (.ireturn, 1) := by decide +kernel
theorem dX8_told_64 : decode cX8_told 64 = .ok (.aload_n 0, 1) := by decide +kernel
theorem dX8_told_65 : decode cX8_told 65 = .ok (.getfield 19, 3) := by decide +kernel
theorem dX8_told_68 : decode cX8_told 68 = .ok (.invokevirtual 293, 3) := by decide +kernel
theorem dX8_told_71 : decode cX8_told 71 = .ok (.ireturn, 1) := by decide +kernel
theorem dX8_told_72 : decode cX8_told 72 = .ok (.aload_n 0, 1) := by decide +kernel
theorem dX8_told_73 : decode cX8_told 73 = .ok (.getfield 40, 3) := by decide +kernel
theorem dX8_told_76 : decode cX8_told 76 = .ok (.getfield 162, 3) := by decide +kernel
theorem dX8_told_79 : decode cX8_told 79 = .ok (.ireturn, 1) := by decide +kernel
theorem dX8_told_80 : decode cX8_told 80 = .ok (.aload_n 0, 1) := by decide +kernel
theorem dX8_told_81 : decode cX8_told 81 = .ok (.getfield 33, 3) := by decide +kernel
theorem dX8_told_84 : decode cX8_told 84 = .ok (.getfield 147, 3) := by decide +kernel
theorem dX8_told_87 : decode cX8_told 87 = .ok (.ireturn, 1) := by decide +kernel
theorem dX8_told_88 : decode cX8_told 88 = .ok (.aload_n 0, 1) := by decide +kernel
theorem dX8_told_89 : decode cX8_told 89 = .ok (.getfield 58, 3) := by decide +kernel
theorem dX8_told_92 : decode cX8_told 92 = .ok (.invokevirtual 297, 3) := by decide +kernel
theorem dX8_told_95 : decode cX8_told 95 = .ok (.ireturn, 1) := by decide +kernel
theorem dX8_told_96 : decode cX8_told 96 = .ok (.aload_n 0, 1) := by decide +kernel
theorem dX8_told_97 : decode cX8_told 97 = .ok (.getfield 10, 3) := by decide +kernel
theorem dX8_told_100 : decode cX8_told 100 = .ok (.invokevirtual 300, 3) := by decide +kernel
theorem dX8_told_103 : decode cX8_told 103 = .ok (.ireturn, 1) := by decide +kernel
theorem dX8_told_104 : decode cX8_told 104 = .ok (.aload_n 0, 1) := by decide +kernel
theorem dX8_told_105 : decode cX8_told 105 = .ok (.getfield 75, 3) := by decide +kernel
theorem dX8_told_108 : decode cX8_told 108 = .ok (.ireturn, 1) := by decide +kernel
theorem dX8_told_109 : decode cX8_told 109 = .ok (.aload_n 0, 1) := by decide +kernel
theorem dX8_told_110 : decode cX8_told 110 = .ok (.ldc 90, 2) := by decide +kernel
theorem dX8_told_112 : decode cX8_told 112 = .ok (.invokevirtual 91, 3) := by decide +kernel
theorem dX8_told_115 : decode cX8_told 115 = .ok (.ireturn, 1) := by decide +kernel
theorem dX8_finding_0 : decode cX8_finding 0 = .ok (.aload_n 0, 1) := by decide +kernel
theorem dX8_finding_1 : decode cX8_finding 1 = .ok (.dup, 1) := by decide +kernel
theorem dX8_finding_2 : decode cX8_finding 2 = .ok (.getfield 75, 3) := by decide +kernel
theorem dX8_finding_5 : decode cX8_finding 5 = .ok (.iconst 1, 1) := by decide +kernel
theorem dX8_finding_6 : decode cX8_finding 6 = .ok (.iadd, 1) := by decide +kernel
theorem dX8_finding_7 : decode cX8_finding 7 = .ok (.putfield 75, 3) := by decide +kernel
theorem dX8_finding_10 : decode cX8_finding 10 = .ok (.iload_n 1, 1) := by decide +kernel
theorem dX8_finding_11 : decode cX8_finding 11 = .ok (.ireturn, 1) := by decide +kernel
theorem dX8_within_0 : decode cX8_within 0 = .ok (.iload_n 0, 1) := by decide +kernel
theorem dX8_within_1 : decode cX8_within 1 = .ok (.iload_n 1, 1) := by decide +kernel
theorem dX8_within_2 : decode cX8_within 2 = .ok (.if_icmp .lt 12, 3) := by decide +kernel
theorem dX8_within_5 : decode cX8_within 5 = .ok (.iload_n 0, 1) := by decide +kernel
theorem dX8_within_6 : decode cX8_within 6 = .ok (.iload_n 2, 1) := by decide +kernel
theorem dX8_within_7 : decode cX8_within 7 = .ok (.if_icmp .gt 7, 3) := by decide +kernel
theorem dX8_within_10 : decode cX8_within 10 = .ok (.iconst 1, 1) := by decide +kernel
theorem dX8_within_11 : decode cX8_within 11 = .ok (.goto 4, 3) := by decide +kernel
theorem dX8_within_14 : decode cX8_within 14 = .ok (.iconst 0, 1) := by decide +kernel
theorem dX8_within_15 : decode cX8_within 15 = .ok (.ireturn, 1) := by decide +kernel
theorem dX8_hasBit_0 : decode cX8_hasBit 0 = .ok (.iload_n 0, 1) := by decide +kernel
theorem dX8_hasBit_1 : decode cX8_hasBit 1 = .ok (.iload_n 1, 1) := by decide +kernel
theorem dX8_hasBit_2 : decode cX8_hasBit 2 = .ok (.ishr, 1) := by decide +kernel
theorem dX8_hasBit_3 : decode cX8_hasBit 3 = .ok (.iconst 1, 1) := by decide +kernel
theorem dX8_hasBit_4 : decode cX8_hasBit 4 = .ok (.iand, 1) := by decide +kernel
theorem dX8_hasBit_5 : decode cX8_hasBit 5 = .ok (.ifCond .eq 7, 3) := by decide +kernel
theorem dX8_hasBit_8 : decode cX8_hasBit 8 = .ok (.iconst 1, 1) := by decide +kernel
theorem dX8_hasBit_9 : decode cX8_hasBit 9 = .ok (.goto 4, 3) := by decide +kernel
theorem dX8_hasBit_12 : decode cX8_hasBit 12 = .ok (.iconst 0, 1) := by decide +kernel
theorem dX8_hasBit_13 : decode cX8_hasBit 13 = .ok (.ireturn, 1) := by decide +kernel
theorem dX8_isKind_0 : decode cX8_isKind 0 = .ok (.iload_n 0, 1) := by decide +kernel
theorem dX8_isKind_1 : decode cX8_isKind 1 = .ok (.iconst 0, 1) := by decide +kernel
theorem dX8_isKind_2 : decode cX8_isKind 2 = .ok (.iconst 4, 1) := by decide +kernel
theorem dX8_isKind_3 : decode cX8_isKind 3 = .ok (.invokestatic 79, 3) := by decide +kernel
theorem dX8_isKind_6 : decode cX8_isKind 6 = .ok (.ireturn, 1) := by decide +kernel
theorem dX8_isDay_0 : decode cX8_isDay 0 = .ok (.iload_n 0, 1) := by decide +kernel
theorem dX8_isDay_1 : decode cX8_isDay 1 = .ok (.iconst 0, 1) := by decide +kernel
theorem dX8_isDay_2 : decode cX8_isDay 2 = .ok (.sipush 999, 3) := by decide +kernel
theorem dX8_isDay_5 : decode cX8_isDay 5 = .ok (.invokestatic 79, 3) := by decide +kernel
theorem dX8_isDay_8 : decode cX8_isDay 8 = .ok (.ireturn, 1) := by decide +kernel
theorem dX8_isPlace_0 : decode cX8_isPlace 0 = .ok (.iload_n 0, 1) := by decide +kernel
theorem dX8_isPlace_1 : decode cX8_isPlace 1 = .ok (.iconst 0, 1) := by decide +kernel
theorem dX8_isPlace_2 : decode cX8_isPlace 2 = .ok (.sipush 1023, 3) := by decide +kernel
theorem dX8_isPlace_5 : decode cX8_isPlace 5 = .ok (.invokestatic 79, 3) := by decide +kernel
theorem dX8_isPlace_8 : decode cX8_isPlace 8 = .ok (.ireturn, 1) := by decide +kernel
theorem dX8_isQuarter_0 : decode cX8_isQuarter 0 = .ok (.iload_n 0, 1) := by decide +kernel
theorem dX8_isQuarter_1 : decode cX8_isQuarter 1 = .ok (.iconst 0, 1) := by decide +kernel
theorem dX8_isQuarter_2 : decode cX8_isQuarter 2 = .ok (.iconst 3, 1) := by decide +kernel
theorem dX8_isQuarter_3 : decode cX8_isQuarter 3 = .ok (.invokestatic 79, 3) := by decide +kernel
theorem dX8_isQuarter_6 : decode cX8_isQuarter 6 = .ok (.ireturn, 1) := by decide +kernel
theorem dX8_isSheet_0 : decode cX8_isSheet 0 = .ok (.iload_n 0, 1) := by decide +kernel
theorem dX8_isSheet_1 : decode cX8_isSheet 1 = .ok (.iconst 0, 1) := by decide +kernel
theorem dX8_isSheet_2 : decode cX8_isSheet 2 = .ok (.iconst 3, 1) := by decide +kernel
theorem dX8_isSheet_3 : decode cX8_isSheet 3 = .ok (.invokestatic 79, 3) := by decide +kernel
theorem dX8_isSheet_6 : decode cX8_isSheet 6 = .ok (.ireturn, 1) := by decide +kernel
theorem dX8_isAsk_0 : decode cX8_isAsk 0 = .ok (.iload_n 1, 1) := by decide +kernel
theorem dX8_isAsk_1 : decode cX8_isAsk 1 = .ok (.iconst 0, 1) := by decide +kernel
theorem dX8_isAsk_2 : decode cX8_isAsk 2 = .ok (.aload_n 0, 1) := by decide +kernel
theorem dX8_isAsk_3 : decode cX8_isAsk 3 = .ok (.getfield 10, 3) := by decide +kernel
theorem dX8_isAsk_6 : decode cX8_isAsk 6 = .ok (.getfield 95, 3) := by decide +kernel
theorem dX8_isAsk_9 : decode cX8_isAsk 9 = .ok (.iconst 1, 1) := by decide +kernel
theorem dX8_isAsk_10 : decode cX8_isAsk 10 = .ok (.isub, 1) := by decide +kernel
theorem dX8_isAsk_11 : decode cX8_isAsk 11 = .ok (.invokestatic 79, 3) := by decide +kernel
theorem dX8_isAsk_14 : decode cX8_isAsk 14 = .ok (.ireturn, 1) := by decide +kernel
theorem dX8_isThing_0 : decode cX8_isThing 0 = .ok (.iload_n 1, 1) := by decide +kernel
theorem dX8_isThing_1 : decode cX8_isThing 1 = .ok (.iconst 0, 1) := by decide +kernel
theorem dX8_isThing_2 : decode cX8_isThing 2 = .ok (.aload_n 0, 1) := by decide +kernel
theorem dX8_isThing_3 : decode cX8_isThing 3 = .ok (.getfield 19, 3) := by decide +kernel
theorem dX8_isThing_6 : decode cX8_isThing 6 = .ok (.getfield 292, 3) := by decide +kernel
theorem dX8_isThing_9 : decode cX8_isThing 9 = .ok (.iconst 1, 1) := by decide +kernel
theorem dX8_isThing_10 : decode cX8_isThing 10 = .ok (.isub, 1) := by decide +kernel
theorem dX8_isThing_11 : decode cX8_isThing 11 = .ok (.invokestatic 79, 3) := by decide +kernel
theorem dX8_isThing_14 : decode cX8_isThing 14 = .ok (.ireturn, 1) := by decide +kernel
theorem dX8_canComeOn_0 : decode cX8_canComeOn 0 = .ok (.iload_n 1, 1) := by decide +kernel
theorem dX8_canComeOn_1 : decode cX8_canComeOn 1 = .ok (.invokestatic 191, 3) := by decide +kernel
theorem dX8_canComeOn_4 : decode cX8_canComeOn 4 = .ok (.ifCond .eq 18, 3) := by decide +kernel
theorem dX8_canComeOn_7 : decode cX8_canComeOn 7 = .ok (.iload_n 1, 1) := by decide +kernel
theorem dX8_canComeOn_8 : decode cX8_canComeOn 8 = .ok (.aload_n 0, 1) := by decide +kernel
theorem dX8_canComeOn_9 : decode cX8_canComeOn 9 = .ok (.getfield 10, 3) := by decide +kernel
theorem dX8_canComeOn_12 : decode cX8_canComeOn 12 = .ok (.invokevirtual 300, 3) := by decide +kernel
theorem dX8_canComeOn_15 : decode cX8_canComeOn 15 = .ok (.if_icmp .lt 7, 3) := by decide +kernel
theorem dX8_canComeOn_18 : decode cX8_canComeOn 18 = .ok (.iconst 1, 1) := by decide +kernel
theorem dX8_canComeOn_19 : decode cX8_canComeOn 19 = .ok (.goto 4, 3) := by decide +kernel
theorem dX8_canComeOn_22 : decode cX8_canComeOn 22 = .ok (.iconst 0, 1) := by decide +kernel
theorem dX8_canComeOn_23 : decode cX8_canComeOn 23 = .ok (.ireturn, 1) := by decide +kernel
theorem dX8_areThings_0 : decode cX8_areThings 0 = .ok (.iload_n 2, 1) := by decide +kernel
theorem dX8_areThings_1 : decode cX8_areThings 1 = .ok (.iconst 1, 1) := by decide +kernel
theorem dX8_areThings_2 : decode cX8_areThings 2 = .ok (.sipush 255, 3) := by decide +kernel
theorem dX8_areThings_5 : decode cX8_areThings 5 = .ok (.invokestatic 79, 3) := by decide +kernel
theorem dX8_areThings_8 : decode cX8_areThings 8 = .ok (.ifCond .ne 5, 3) := by decide +kernel
theorem dX8_areThings_11 : decode cX8_areThings 11 = .ok (.iconst 0, 1) := by decide +kernel
theorem dX8_areThings_12 : decode cX8_areThings 12 = .ok (.ireturn, 1) := by decide +kernel
theorem dX8_areThings_13 : decode cX8_areThings 13 = .ok (.aload_n 0, 1) := by decide +kernel
theorem dX8_areThings_14 : decode cX8_areThings 14 = .ok (.getfield 19, 3) := by decide +kernel
theorem dX8_areThings_17 : decode cX8_areThings 17 = .ok (.getfield 292, 3) := by decide +kernel
theorem dX8_areThings_20 : decode cX8_areThings 20 = .ok (.iload_n 1, 1) := by decide +kernel
theorem dX8_areThings_21 : decode cX8_areThings 21 = .ok (.isub, 1) := by decide +kernel
theorem dX8_areThings_22 : decode cX8_areThings 22 = .ok (.istore_n 3, 1) := by decide +kernel
theorem dX8_areThings_23 : decode cX8_areThings 23 = .ok (.iload_n 3, 1) := by decide +kernel
theorem dX8_areThings_24 : decode cX8_areThings 24 = .ok (.bipush 8, 2) := by decide +kernel
theorem dX8_areThings_26 : decode cX8_areThings 26 = .ok (.if_icmp .ge 14, 3) := by decide +kernel
theorem dX8_areThings_29 : decode cX8_areThings 29 = .ok (.iload_n 3, 1) := by decide +kernel
theorem dX8_areThings_30 : decode cX8_areThings 30 = .ok (.ifCond .le 14, 3) := by decide +kernel
theorem dX8_areThings_33 : decode cX8_areThings 33 = .ok (.iload_n 2, 1) := by decide +kernel
theorem dX8_areThings_34 : decode cX8_areThings 34 = .ok (.iconst 1, 1) := by decide +kernel
theorem dX8_areThings_35 : decode cX8_areThings 35 = .ok (.iload_n 3, 1) := by decide +kernel
theorem dX8_areThings_36 : decode cX8_areThings 36 = .ok (.ishl, 1) := by decide +kernel
theorem dX8_areThings_37 : decode cX8_areThings 37 = .ok (.if_icmp .ge 7, 3) := by decide +kernel
theorem dX8_areThings_40 : decode cX8_areThings 40 = .ok (.iconst 1, 1) := by decide +kernel
theorem dX8_areThings_41 : decode cX8_areThings 41 = .ok (.goto 4, 3) := by decide +kernel
theorem dX8_areThings_44 : decode cX8_areThings 44 = .ok (.iconst 0, 1) := by decide +kernel
theorem dX8_areThings_45 : decode cX8_areThings 45 = .ok (.ireturn, 1) := by decide +kernel
theorem dX8_isOrIsUnder_0 : decode cX8_isOrIsUnder 0 = .ok (.iload_n 0, 1) := by decide +kernel
theorem dX8_isOrIsUnder_1 : decode cX8_isOrIsUnder 1 = .ok (.istore_n 2, 1) := by decide +kernel
theorem dX8_isOrIsUnder_2 : decode cX8_isOrIsUnder 2 = .ok (.iconst 0, 1) := by decide +kernel
theorem dX8_isOrIsUnder_3 : decode cX8_isOrIsUnder 3 = .ok (.istore_n 3, 1) := by decide +kernel
theorem dX8_isOrIsUnder_4 : decode cX8_isOrIsUnder 4 = .ok (.iload_n 3, 1) := by decide +kernel
theorem dX8_isOrIsUnder_5 : decode cX8_isOrIsUnder 5 = .ok (.iconst 5, 1) := by decide +kernel
theorem dX8_isOrIsUnder_6 : decode cX8_isOrIsUnder 6 = .ok (.if_icmp .ge 27, 3) := by decide +kernel
theorem dX8_isOrIsUnder_9 : decode cX8_isOrIsUnder 9 = .ok (.iload_n 2, 1) := by decide +kernel
theorem dX8_isOrIsUnder_10 : decode cX8_isOrIsUnder 10 = .ok (.iconst (-1), 1) := by decide +kernel
theorem dX8_isOrIsUnder_11 : decode cX8_isOrIsUnder 11 = .ok (.if_icmp .eq 22, 3) := by decide +kernel
theorem dX8_isOrIsUnder_14 : decode cX8_isOrIsUnder 14 = .ok (.iload_n 2, 1) := by decide +kernel
theorem dX8_isOrIsUnder_15 : decode cX8_isOrIsUnder 15 = .ok (.iload_n 1, 1) := by decide +kernel
theorem dX8_isOrIsUnder_16 : decode cX8_isOrIsUnder 16 = .ok (.if_icmp .ne 5, 3) := by decide +kernel
theorem dX8_isOrIsUnder_19 : decode cX8_isOrIsUnder 19 = .ok (.iconst 1, 1) := by decide +kernel
theorem dX8_isOrIsUnder_20 : decode cX8_isOrIsUnder 20 = .ok (.ireturn, 1) := by decide +kernel
theorem dX8_isOrIsUnder_21 : decode cX8_isOrIsUnder 21 = .ok (.getstatic 303, 3) := by decide +kernel
theorem dX8_isOrIsUnder_24 : decode cX8_isOrIsUnder 24 = .ok (.iload_n 2, 1) := by decide +kernel
theorem dX8_isOrIsUnder_25 : decode cX8_isOrIsUnder 25 = .ok (.iaload, 1) := by decide +kernel
theorem dX8_isOrIsUnder_26 : decode cX8_isOrIsUnder 26 = .ok (.istore_n 2, 1) := by decide +kernel
theorem dX8_isOrIsUnder_27 : decode cX8_isOrIsUnder 27 = .ok (.iinc 3 1, 3) := by decide +kernel
theorem dX8_isOrIsUnder_30 : decode cX8_isOrIsUnder 30 = .ok (.goto (-26), 3) := by decide +kernel
theorem dX8_isOrIsUnder_33 : decode cX8_isOrIsUnder 33 = .ok (.iconst 0, 1) := by decide +kernel
theorem dX8_isOrIsUnder_34 : decode cX8_isOrIsUnder 34 = .ok (.ireturn, 1) := by decide +kernel
theorem dX8_quarterAt_0 : decode cX8_quarterAt 0 = .ok (.iload_n 0, 1) := by decide +kernel
theorem dX8_quarterAt_1 : decode cX8_quarterAt 1 = .ok (.bipush 16, 2) := by decide +kernel
theorem dX8_quarterAt_3 : decode cX8_quarterAt 3 = .ok (.if_icmp .lt 7, 3) := by decide +kernel
theorem dX8_quarterAt_6 : decode cX8_quarterAt 6 = .ok (.iconst 1, 1) := by decide +kernel
theorem dX8_quarterAt_7 : decode cX8_quarterAt 7 = .ok (.goto 4, 3) := by decide +kernel
theorem dX8_quarterAt_10 : decode cX8_quarterAt 10 = .ok (.iconst 0, 1) := by decide +kernel
theorem dX8_quarterAt_11 : decode cX8_quarterAt 11 = .ok (.iload_n 1, 1) := by decide +kernel
theorem dX8_quarterAt_12 : decode cX8_quarterAt 12 = .ok (.bipush 16, 2) := by decide +kernel
theorem dX8_quarterAt_14 : decode cX8_quarterAt 14 = .ok (.if_icmp .lt 7, 3) := by decide +kernel
theorem dX8_quarterAt_17 : decode cX8_quarterAt 17 = .ok (.iconst 2, 1) := by decide +kernel
theorem dX8_quarterAt_18 : decode cX8_quarterAt 18 = .ok (.goto 4, 3) := by decide +kernel
theorem dX8_quarterAt_21 : decode cX8_quarterAt 21 = .ok (.iconst 0, 1) := by decide +kernel
theorem dX8_quarterAt_22 : decode cX8_quarterAt 22 = .ok (.iadd, 1) := by decide +kernel
theorem dX8_quarterAt_23 : decode cX8_quarterAt 23 = .ok (.ireturn, 1) := by decide +kernel
theorem dX8_far_0 : decode cX8_far 0 = .ok (.iload_n 0, 1) := by decide +kernel
theorem dX8_far_1 : decode cX8_far 1 = .ok (.iload_n 2, 1) := by decide +kernel
theorem dX8_far_2 : decode cX8_far 2 = .ok (.isub, 1) := by decide +kernel
theorem dX8_far_3 : decode cX8_far 3 = .ok (.invokestatic 306, 3) := by decide +kernel
theorem dX8_far_6 : decode cX8_far 6 = .ok (.iload_n 1, 1) := by decide +kernel
theorem dX8_far_7 : decode cX8_far 7 = .ok (.iload_n 3, 1) := by decide +kernel
theorem dX8_far_8 : decode cX8_far 8 = .ok (.isub, 1) := by decide +kernel
theorem dX8_far_9 : decode cX8_far 9 = .ok (.invokestatic 306, 3) := by decide +kernel
theorem dX8_far_12 : decode cX8_far 12 = .ok (.iadd, 1) := by decide +kernel
theorem dX8_far_13 : decode cX8_far 13 = .ok (.ireturn, 1) := by decide +kernel
theorem dX8_join_0 : decode cX8_join 0 = .ok (.aload_n 0, 1) := by decide +kernel
theorem dX8_join_1 : decode cX8_join 1 = .ok (.getfield 10, 3) := by decide +kernel
theorem dX8_join_4 : decode cX8_join 4 = .ok (.iload_n 1, 1) := by decide +kernel
theorem dX8_join_5 : decode cX8_join 5 = .ok (.iload_n 2, 1) := by decide +kernel
theorem dX8_join_6 : decode cX8_join 6 = .ok (.iload_n 3, 1) := by decide +kernel
theorem dX8_join_7 : decode cX8_join 7 = .ok (.iload 4, 2) := by decide +kernel
theorem dX8_join_9 : decode cX8_join 9 = .ok (.iload 5, 2) := by decide +kernel
theorem dX8_join_11 : decode cX8_join 11 = .ok (.invokevirtual 311, 3) := by decide +kernel
theorem dX8_join_14 : decode cX8_join 14 = .ok (.istore 6, 2) := by decide +kernel
theorem dX8_join_16 : decode cX8_join 16 = .ok (.aload_n 0, 1) := by decide +kernel
theorem dX8_join_17 : decode cX8_join 17 = .ok (.iload 6, 2) := by decide +kernel
theorem dX8_join_19 : decode cX8_join 19 = .ok (.invokevirtual 314, 3) := by decide +kernel
theorem dX8_join_22 : decode cX8_join 22 = .ok (.istore 7, 2) := by decide +kernel
theorem dX8_join_24 : decode cX8_join 24 = .ok (.iload 7, 2) := by decide +kernel
theorem dX8_join_26 : decode cX8_join 26 = .ok (.iconst (-1), 1) := by decide +kernel
theorem dX8_join_27 : decode cX8_join 27 = .ok (.if_icmp .ne 14, 3) := by decide +kernel
theorem dX8_join_30 : decode cX8_join 30 = .ok (.aload_n 0, 1) := by decide +kernel
theorem dX8_join_31 : decode cX8_join 31 = .ok (.getfield 19, 3) := by decide +kernel
theorem dX8_join_34 : decode cX8_join 34 = .ok (.iload 6, 2) := by decide +kernel
theorem dX8_join_36 : decode cX8_join 36 = .ok (.invokevirtual 317, 3) := by decide +kernel
theorem dX8_join_39 : decode cX8_join 39 = .ok (.istore 7, 2) := by decide +kernel
theorem dX8_join_41 : decode cX8_join 41 = .ok (.aload_n 0, 1) := by decide +kernel
theorem dX8_join_42 : decode cX8_join 42 = .ok (.getfield 10, 3) := by decide +kernel
theorem dX8_join_45 : decode cX8_join 45 = .ok (.getfield 127, 3) := by decide +kernel
theorem dX8_join_48 : decode cX8_join 48 = .ok (.iload 6, 2) := by decide +kernel
theorem dX8_join_50 : decode cX8_join 50 = .ok (.iload 7, 2) := by decide +kernel
theorem dX8_join_52 : decode cX8_join 52 = .ok (.iastore, 1) := by decide +kernel
theorem dX8_join_53 : decode cX8_join 53 = .ok (.iload 7, 2) := by decide +kernel
theorem dX8_join_55 : decode cX8_join 55 = .ok (.ireturn, 1) := by decide +kernel
theorem dX8_firstOpenThingFor_0 : decode cX8_firstOpenThingFor 0 = .ok (.iconst 0, 1) := by decide +kernel
theorem dX8_firstOpenThingFor_1 : decode cX8_firstOpenThingFor 1 = .ok (.istore_n 2, 1) := by decide +kernel
theorem dX8_firstOpenThingFor_2 : decode cX8_firstOpenThingFor 2 = .ok (.iload_n 2, 1) := by decide +kernel
theorem dX8_firstOpenThingFor_3 : decode cX8_firstOpenThingFor 3 = .ok (.aload_n 0, 1) := by decide +kernel
theorem dX8_firstOpenThingFor_4 : decode cX8_firstOpenThingFor 4 = .ok (.getfield 19, 3) := by decide +kernel
theorem dX8_firstOpenThingFor_7 : decode cX8_firstOpenThingFor 7 = .ok (.getfield 292, 3) := by decide +kernel
theorem dX8_firstOpenThingFor_10 : decode cX8_firstOpenThingFor 10 = .ok (.if_icmp .ge 35, 3) := by decide +kernel
theorem dX8_firstOpenThingFor_13 : decode cX8_firstOpenThingFor 13 = .ok (.aload_n 0, 1) := by decide +kernel
theorem dX8_firstOpenThingFor_14 : decode cX8_firstOpenThingFor 14 = .ok (.getfield 19, 3) := by decide +kernel
theorem dX8_firstOpenThingFor_17 : decode cX8_firstOpenThingFor 17 = .ok (.getfield 218, 3) := by decide +kernel
theorem dX8_firstOpenThingFor_20 : decode cX8_firstOpenThingFor 20 = .ok (.iload_n 2, 1) := by decide +kernel
theorem dX8_firstOpenThingFor_21 : decode cX8_firstOpenThingFor 21 = .ok (.baload, 1) := by decide +kernel
theorem dX8_firstOpenThingFor_22 : decode cX8_firstOpenThingFor 22 = .ok (.ifCond .eq 17, 3) := by decide +kernel
theorem dX8_firstOpenThingFor_25 : decode cX8_firstOpenThingFor 25 = .ok (.aload_n 0, 1) := by decide +kernel
theorem dX8_firstOpenThingFor_26 : decode cX8_firstOpenThingFor 26 = .ok (.getfield 10, 3) := by decide +kernel
theorem dX8_firstOpenThingFor_29 : decode cX8_firstOpenThingFor 29 = .ok (.iload_n 1, 1) := by decide +kernel
theorem dX8_firstOpenThingFor_30 : decode cX8_firstOpenThingFor 30 = .ok (.iload_n 2, 1) := by decide +kernel
theorem dX8_firstOpenThingFor_31 : decode cX8_firstOpenThingFor 31 = .ok (.invokevirtual 319, 3) := by decide +kernel
theorem dX8_firstOpenThingFor_34 : decode cX8_firstOpenThingFor 34 = .ok (.ifCond .eq 5, 3) := by decide +kernel
theorem dX8_firstOpenThingFor_37 : decode cX8_firstOpenThingFor 37 = .ok (.iload_n 2, 1) := by decide +kernel
theorem dX8_firstOpenThingFor_38 : decode cX8_firstOpenThingFor 38 = .ok (.ireturn, 1) := by decide +kernel
theorem dX8_firstOpenThingFor_39 : decode cX8_firstOpenThingFor 39 = .ok (.iinc 2 1, 3) := by decide +kernel
theorem dX8_firstOpenThingFor_42 : decode cX8_firstOpenThingFor 42 = .ok (.goto (-40), 3) := by decide +kernel
theorem dX8_firstOpenThingFor_45 : decode cX8_firstOpenThingFor 45 = .ok (.iconst (-1), 1) := by decide +kernel
theorem dX8_firstOpenThingFor_46 : decode cX8_firstOpenThingFor 46 = .ok (.ireturn, 1) := by decide +kernel
theorem dX8_kindOf_0 : decode cX8_kindOf 0 = .ok (.aload_n 0, 1) := by decide +kernel
theorem dX8_kindOf_1 : decode cX8_kindOf 1 = .ok (.getfield 10, 3) := by decide +kernel
theorem dX8_kindOf_4 : decode cX8_kindOf 4 = .ok (.getfield 120, 3) := by decide +kernel
theorem dX8_kindOf_7 : decode cX8_kindOf 7 = .ok (.aload_n 0, 1) := by decide +kernel
theorem dX8_kindOf_8 : decode cX8_kindOf 8 = .ok (.getfield 19, 3) := by decide +kernel
theorem dX8_kindOf_11 : decode cX8_kindOf 11 = .ok (.getfield 322, 3) := by decide +kernel
theorem dX8_kindOf_14 : decode cX8_kindOf 14 = .ok (.iload_n 1, 1) := by decide +kernel
theorem dX8_kindOf_15 : decode cX8_kindOf 15 = .ok (.iaload, 1) := by decide +kernel
theorem dX8_kindOf_16 : decode cX8_kindOf 16 = .ok (.iaload, 1) := by decide +kernel
theorem dX8_kindOf_17 : decode cX8_kindOf 17 = .ok (.ireturn, 1) := by decide +kernel
theorem dX8_dayOf_0 : decode cX8_dayOf 0 = .ok (.aload_n 0, 1) := by decide +kernel
theorem dX8_dayOf_1 : decode cX8_dayOf 1 = .ok (.getfield 10, 3) := by decide +kernel
theorem dX8_dayOf_4 : decode cX8_dayOf 4 = .ok (.getfield 325, 3) := by decide +kernel
theorem dX8_dayOf_7 : decode cX8_dayOf 7 = .ok (.aload_n 0, 1) := by decide +kernel
theorem dX8_dayOf_8 : decode cX8_dayOf 8 = .ok (.getfield 19, 3) := by decide +kernel
theorem dX8_dayOf_11 : decode cX8_dayOf 11 = .ok (.getfield 322, 3) := by decide +kernel
theorem dX8_dayOf_14 : decode cX8_dayOf 14 = .ok (.iload_n 1, 1) := by decide +kernel
theorem dX8_dayOf_15 : decode cX8_dayOf 15 = .ok (.iaload, 1) := by decide +kernel
theorem dX8_dayOf_16 : decode cX8_dayOf 16 = .ok (.iaload, 1) := by decide +kernel
theorem dX8_dayOf_17 : decode cX8_dayOf 17 = .ok (.ireturn, 1) := by decide +kernel
theorem dX8_quarterOfThing_0 : decode cX8_quarterOfThing 0 = .ok (.aload_n 0, 1) := by decide +kernel
theorem dX8_quarterOfThing_1 : decode cX8_quarterOfThing 1 = .ok (.getfield 10, 3) := by decide +kernel
theorem dX8_quarterOfThing_4 : decode cX8_quarterOfThing 4 = .ok (.aload_n 0, 1) := by decide +kernel
theorem dX8_quarterOfThing_5 : decode cX8_quarterOfThing 5 = .ok (.getfield 19, 3) := by decide +kernel
theorem dX8_quarterOfThing_8 : decode cX8_quarterOfThing 8 = .ok (.getfield 322, 3) := by decide +kernel
theorem dX8_quarterOfThing_11 : decode cX8_quarterOfThing 11 = .ok (.iload_n 1, 1) := by decide +kernel
theorem dX8_quarterOfThing_12 : decode cX8_quarterOfThing 12 = .ok (.iaload, 1) := by decide +kernel
theorem dX8_quarterOfThing_13 : decode cX8_quarterOfThing 13 = .ok (.invokevirtual 328, 3) := by decide +kernel
theorem dX8_quarterOfThing_16 : decode cX8_quarterOfThing 16 = .ok (.ireturn, 1) := by decide +kernel
theorem dX8_placeDetail_0 : decode cX8_placeDetail 0 = .ok (.aload_n 0, 1) := by decide +kernel
theorem dX8_placeDetail_1 : decode cX8_placeDetail 1 = .ok (.getfield 19, 3) := by decide +kernel
theorem dX8_placeDetail_4 : decode cX8_placeDetail 4 = .ok (.getfield 322, 3) := by decide +kernel
theorem dX8_placeDetail_7 : decode cX8_placeDetail 7 = .ok (.iload_n 1, 1) := by decide +kernel
theorem dX8_placeDetail_8 : decode cX8_placeDetail 8 = .ok (.iaload, 1) := by decide +kernel
theorem dX8_placeDetail_9 : decode cX8_placeDetail 9 = .ok (.istore_n 3, 1) := by decide +kernel
theorem dX8_placeDetail_10 : decode cX8_placeDetail 10 = .ok (.iload_n 2, 1) := by decide +kernel
theorem dX8_placeDetail_11 : decode cX8_placeDetail 11 = .ok (.tableswitch 55 0 2 #[25, 35, 45], 25) := by decide +kernel
theorem dX8_placeDetail_36 : decode cX8_placeDetail 36 = .ok (.aload_n 0, 1) := by decide +kernel
theorem dX8_placeDetail_37 : decode cX8_placeDetail 37 = .ok (.getfield 10, 3) := by decide +kernel
theorem dX8_placeDetail_40 : decode cX8_placeDetail 40 = .ok (.getfield 120, 3) := by decide +kernel
theorem dX8_placeDetail_43 : decode cX8_placeDetail 43 = .ok (.iload_n 3, 1) := by decide +kernel
theorem dX8_placeDetail_44 : decode cX8_placeDetail 44 = .ok (.iaload, 1) := by decide +kernel
theorem dX8_placeDetail_45 : decode cX8_placeDetail 45 = .ok (.ireturn, 1) := by decide +kernel
theorem dX8_placeDetail_46 : decode cX8_placeDetail 46 = .ok (.aload_n 0, 1) := by decide +kernel
theorem dX8_placeDetail_47 : decode cX8_placeDetail 47 = .ok (.getfield 10, 3) := by decide +kernel
theorem dX8_placeDetail_50 : decode cX8_placeDetail 50 = .ok (.getfield 331, 3) := by decide +kernel
theorem dX8_placeDetail_53 : decode cX8_placeDetail 53 = .ok (.iload_n 3, 1) := by decide +kernel
theorem dX8_placeDetail_54 : decode cX8_placeDetail 54 = .ok (.iaload, 1) := by decide +kernel
theorem dX8_placeDetail_55 : decode cX8_placeDetail 55 = .ok (.ireturn, 1) := by decide +kernel
theorem dX8_placeDetail_56 : decode cX8_placeDetail 56 = .ok (.aload_n 0, 1) := by decide +kernel
theorem dX8_placeDetail_57 : decode cX8_placeDetail 57 = .ok (.getfield 10, 3) := by decide +kernel
theorem dX8_placeDetail_60 : decode cX8_placeDetail 60 = .ok (.getfield 334, 3) := by decide +kernel
theorem dX8_placeDetail_63 : decode cX8_placeDetail 63 = .ok (.iload_n 3, 1) := by decide +kernel
theorem dX8_placeDetail_64 : decode cX8_placeDetail 64 = .ok (.iaload, 1) := by decide +kernel
theorem dX8_placeDetail_65 : decode cX8_placeDetail 65 = .ok (.ireturn, 1) := by decide +kernel
theorem dX8_placeDetail_66 : decode cX8_placeDetail 66 = .ok (.aload_n 0, 1) := by decide +kernel
theorem dX8_placeDetail_67 : decode cX8_placeDetail 67 = .ok (.getfield 10, 3) := by decide +kernel
theorem dX8_placeDetail_70 : decode cX8_placeDetail 70 = .ok (.getfield 325, 3) := by decide +kernel
theorem dX8_placeDetail_73 : decode cX8_placeDetail 73 = .ok (.iload_n 3, 1) := by decide +kernel
theorem dX8_placeDetail_74 : decode cX8_placeDetail 74 = .ok (.iaload, 1) := by decide +kernel
theorem dX8_placeDetail_75 : decode cX8_placeDetail 75 = .ok (.ireturn, 1) := by decide +kernel
theorem dX8_stateDetail_0 : decode cX8_stateDetail 0 = .ok (.iload_n 2, 1) := by decide +kernel
theorem dX8_stateDetail_1 : decode cX8_stateDetail 1 = .ok (.tableswitch 78 4 7 #[31, 40, 58, 68], 31) := by decide +kernel
theorem dX8_stateDetail_32 : decode cX8_stateDetail 32 = .ok (.aload_n 0, 1) := by decide +kernel
theorem dX8_stateDetail_33 : decode cX8_stateDetail 33 = .ok (.getfield 10, 3) := by decide +kernel
theorem dX8_stateDetail_36 : decode cX8_stateDetail 36 = .ok (.iload_n 1, 1) := by decide +kernel
theorem dX8_stateDetail_37 : decode cX8_stateDetail 37 = .ok (.invokevirtual 337, 3) := by decide +kernel
theorem dX8_stateDetail_40 : decode cX8_stateDetail 40 = .ok (.ireturn, 1) := by decide +kernel
theorem dX8_stateDetail_41 : decode cX8_stateDetail 41 = .ok (.aload_n 0, 1) := by decide +kernel
theorem dX8_stateDetail_42 : decode cX8_stateDetail 42 = .ok (.getfield 19, 3) := by decide +kernel
theorem dX8_stateDetail_45 : decode cX8_stateDetail 45 = .ok (.getfield 218, 3) := by decide +kernel
theorem dX8_stateDetail_48 : decode cX8_stateDetail 48 = .ok (.iload_n 1, 1) := by decide +kernel
theorem dX8_stateDetail_49 : decode cX8_stateDetail 49 = .ok (.baload, 1) := by decide +kernel
theorem dX8_stateDetail_50 : decode cX8_stateDetail 50 = .ok (.ifCond .eq 7, 3) := by decide +kernel
theorem dX8_stateDetail_53 : decode cX8_stateDetail 53 = .ok (.iconst 1, 1) := by decide +kernel
theorem dX8_stateDetail_54 : decode cX8_stateDetail 54 = .ok (.goto 4, 3) := by decide +kernel
theorem dX8_stateDetail_57 : decode cX8_stateDetail 57 = .ok (.iconst 0, 1) := by decide +kernel
theorem dX8_stateDetail_58 : decode cX8_stateDetail 58 = .ok (.ireturn, 1) := by decide +kernel
theorem dX8_stateDetail_59 : decode cX8_stateDetail 59 = .ok (.aload_n 0, 1) := by decide +kernel
theorem dX8_stateDetail_60 : decode cX8_stateDetail 60 = .ok (.getfield 19, 3) := by decide +kernel
theorem dX8_stateDetail_63 : decode cX8_stateDetail 63 = .ok (.getfield 340, 3) := by decide +kernel
theorem dX8_stateDetail_66 : decode cX8_stateDetail 66 = .ok (.iload_n 1, 1) := by decide +kernel
theorem dX8_stateDetail_67 : decode cX8_stateDetail 67 = .ok (.iaload, 1) := by decide +kernel
theorem dX8_stateDetail_68 : decode cX8_stateDetail 68 = .ok (.ireturn, 1) := by decide +kernel
theorem dX8_stateDetail_69 : decode cX8_stateDetail 69 = .ok (.aload_n 0, 1) := by decide +kernel
theorem dX8_stateDetail_70 : decode cX8_stateDetail 70 = .ok (.getfield 19, 3) := by decide +kernel
theorem dX8_stateDetail_73 : decode cX8_stateDetail 73 = .ok (.getfield 343, 3) := by decide +kernel
theorem dX8_stateDetail_76 : decode cX8_stateDetail 76 = .ok (.iload_n 1, 1) := by decide +kernel
theorem dX8_stateDetail_77 : decode cX8_stateDetail 77 = .ok (.iaload, 1) := by decide +kernel
theorem dX8_stateDetail_78 : decode cX8_stateDetail 78 = .ok (.ireturn, 1) := by decide +kernel
theorem dX8_stateDetail_79 : decode cX8_stateDetail 79 = .ok (.aload_n 0, 1) := by decide +kernel
theorem dX8_stateDetail_80 : decode cX8_stateDetail 80 = .ok (.getfield 19, 3) := by decide +kernel
theorem dX8_stateDetail_83 : decode cX8_stateDetail 83 = .ok (.getfield 218, 3) := by decide +kernel
theorem dX8_stateDetail_86 : decode cX8_stateDetail 86 = .ok (.iload_n 1, 1) := by decide +kernel
theorem dX8_stateDetail_87 : decode cX8_stateDetail 87 = .ok (.baload, 1) := by decide +kernel
theorem dX8_stateDetail_88 : decode cX8_stateDetail 88 = .ok (.ifCond .ne 19, 3) := by decide +kernel
theorem dX8_stateDetail_91 : decode cX8_stateDetail 91 = .ok (.aload_n 0, 1) := by decide +kernel
theorem dX8_stateDetail_92 : decode cX8_stateDetail 92 = .ok (.getfield 19, 3) := by decide +kernel
theorem dX8_stateDetail_95 : decode cX8_stateDetail 95 = .ok (.getfield 230, 3) := by decide +kernel
theorem dX8_stateDetail_98 : decode cX8_stateDetail 98 = .ok (.iload_n 1, 1) := by decide +kernel
theorem dX8_stateDetail_99 : decode cX8_stateDetail 99 = .ok (.baload, 1) := by decide +kernel
theorem dX8_stateDetail_100 : decode cX8_stateDetail 100 = .ok (.ifCond .eq 7, 3) := by decide +kernel
theorem dX8_stateDetail_103 : decode cX8_stateDetail 103 = .ok (.iconst 1, 1) := by decide +kernel
theorem dX8_stateDetail_104 : decode cX8_stateDetail 104 = .ok (.goto 4, 3) := by decide +kernel
theorem dX8_stateDetail_107 : decode cX8_stateDetail 107 = .ok (.iconst 0, 1) := by decide +kernel
theorem dX8_stateDetail_108 : decode cX8_stateDetail 108 = .ok (.ireturn, 1) := by decide +kernel
theorem dX8_ownerOf_0 : decode cX8_ownerOf 0 = .ok (.aload_n 0, 1) := by decide +kernel
theorem dX8_ownerOf_1 : decode cX8_ownerOf 1 = .ok (.getfield 40, 3) := by decide +kernel
theorem dX8_ownerOf_4 : decode cX8_ownerOf 4 = .ok (.aload_n 0, 1) := by decide +kernel
theorem dX8_ownerOf_5 : decode cX8_ownerOf 5 = .ok (.iload_n 1, 1) := by decide +kernel
theorem dX8_ownerOf_6 : decode cX8_ownerOf 6 = .ok (.invokevirtual 169, 3) := by decide +kernel
theorem dX8_ownerOf_9 : decode cX8_ownerOf 9 = .ok (.invokevirtual 179, 3) := by decide +kernel
theorem dX8_ownerOf_12 : decode cX8_ownerOf 12 = .ok (.istore_n 2, 1) := by decide +kernel
theorem dX8_ownerOf_13 : decode cX8_ownerOf 13 = .ok (.iload_n 2, 1) := by decide +kernel
theorem dX8_ownerOf_14 : decode cX8_ownerOf 14 = .ok (.iconst (-1), 1) := by decide +kernel
theorem dX8_ownerOf_15 : decode cX8_ownerOf 15 = .ok (.if_icmp .ne 8, 3) := by decide +kernel
theorem dX8_ownerOf_18 : decode cX8_ownerOf 18 = .ok (.ldc 175, 2) := by decide +kernel
theorem dX8_ownerOf_20 : decode cX8_ownerOf 20 = .ok (.goto 16, 3) := by decide +kernel
theorem dX8_ownerOf_23 : decode cX8_ownerOf 23 = .ok (.aload_n 0, 1) := by decide +kernel
theorem dX8_ownerOf_24 : decode cX8_ownerOf 24 = .ok (.getfield 40, 3) := by decide +kernel
theorem dX8_ownerOf_27 : decode cX8_ownerOf 27 = .ok (.iload_n 2, 1) := by decide +kernel
theorem dX8_ownerOf_28 : decode cX8_ownerOf 28 = .ok (.aload_n 0, 1) := by decide +kernel
theorem dX8_ownerOf_29 : decode cX8_ownerOf 29 = .ok (.iload_n 1, 1) := by decide +kernel
theorem dX8_ownerOf_30 : decode cX8_ownerOf 30 = .ok (.invokevirtual 182, 3) := by decide +kernel
theorem dX8_ownerOf_33 : decode cX8_ownerOf 33 = .ok (.invokevirtual 346, 3) := by decide +kernel
theorem dX8_ownerOf_36 : decode cX8_ownerOf 36 = .ok (.ireturn, 1) := by decide +kernel
theorem dX8_giveToCrew_0 : decode cX8_giveToCrew 0 = .ok (.aload_n 0, 1) := by decide +kernel
theorem dX8_giveToCrew_1 : decode cX8_giveToCrew 1 = .ok (.getfield 19, 3) := by decide +kernel
theorem dX8_giveToCrew_4 : decode cX8_giveToCrew 4 = .ok (.getfield 322, 3) := by decide +kernel
theorem dX8_giveToCrew_7 : decode cX8_giveToCrew 7 = .ok (.iload_n 1, 1) := by decide +kernel
theorem dX8_giveToCrew_8 : decode cX8_giveToCrew 8 = .ok (.iaload, 1) := by decide +kernel
theorem dX8_giveToCrew_9 : decode cX8_giveToCrew 9 = .ok (.istore_n 2, 1) := by decide +kernel
theorem dX8_giveToCrew_10 : decode cX8_giveToCrew 10 = .ok (.aload_n 0, 1) := by decide +kernel
theorem dX8_giveToCrew_11 : decode cX8_giveToCrew 11 = .ok (.getfield 40, 3) := by decide +kernel
theorem dX8_giveToCrew_14 : decode cX8_giveToCrew 14 = .ok (.aload_n 0, 1) := by decide +kernel
theorem dX8_giveToCrew_15 : decode cX8_giveToCrew 15 = .ok (.getfield 10, 3) := by decide +kernel
theorem dX8_giveToCrew_18 : decode cX8_giveToCrew 18 = .ok (.getfield 120, 3) := by decide +kernel
theorem dX8_giveToCrew_21 : decode cX8_giveToCrew 21 = .ok (.iload_n 2, 1) := by decide +kernel
theorem dX8_giveToCrew_22 : decode cX8_giveToCrew 22 = .ok (.iaload, 1) := by decide +kernel
theorem dX8_giveToCrew_23 : decode cX8_giveToCrew 23 = .ok (.invokevirtual 172, 3) := by decide +kernel
theorem dX8_giveToCrew_26 : decode cX8_giveToCrew 26 = .ok (.istore_n 3, 1) := by decide +kernel
theorem dX8_giveToCrew_27 : decode cX8_giveToCrew 27 = .ok (.iload_n 3, 1) := by decide +kernel
theorem dX8_giveToCrew_28 : decode cX8_giveToCrew 28 = .ok (.iconst (-1), 1) := by decide +kernel
theorem dX8_giveToCrew_29 : decode cX8_giveToCrew 29 = .ok (.if_icmp .ne 9, 3) := by decide +kernel
theorem dX8_giveToCrew_32 : decode cX8_giveToCrew 32 = .ok (.ldc_w 349, 3) := by decide +kernel
theorem dX8_giveToCrew_35 : decode cX8_giveToCrew 35 = .ok (.goto 14, 3) := by decide +kernel
theorem dX8_giveToCrew_38 : decode cX8_giveToCrew 38 = .ok (.aload_n 0, 1) := by decide +kernel
theorem dX8_giveToCrew_39 : decode cX8_giveToCrew 39 = .ok (.getfield 10, 3) := by decide +kernel
theorem dX8_giveToCrew_42 : decode cX8_giveToCrew 42 = .ok (.getfield 325, 3) := by decide +kernel
theorem dX8_giveToCrew_45 : decode cX8_giveToCrew 45 = .ok (.iload_n 2, 1) := by decide +kernel
theorem dX8_giveToCrew_46 : decode cX8_giveToCrew 46 = .ok (.iaload, 1) := by decide +kernel
theorem dX8_giveToCrew_47 : decode cX8_giveToCrew 47 = .ok (.iload_n 3, 1) := by decide +kernel
theorem dX8_giveToCrew_48 : decode cX8_giveToCrew 48 = .ok (.iadd, 1) := by decide +kernel
theorem dX8_giveToCrew_49 : decode cX8_giveToCrew 49 = .ok (.istore 4, 2) := by decide +kernel
theorem dX8_giveToCrew_51 : decode cX8_giveToCrew 51 = .ok (.aload_n 0, 1) := by decide +kernel
theorem dX8_giveToCrew_52 : decode cX8_giveToCrew 52 = .ok (.getfield 47, 3) := by decide +kernel
theorem dX8_giveToCrew_55 : decode cX8_giveToCrew 55 = .ok (.iload_n 1, 1) := by decide +kernel
theorem dX8_giveToCrew_56 : decode cX8_giveToCrew 56 = .ok (.aload_n 0, 1) := by decide +kernel
theorem dX8_giveToCrew_57 : decode cX8_giveToCrew 57 = .ok (.getfield 10, 3) := by decide +kernel
theorem dX8_giveToCrew_60 : decode cX8_giveToCrew 60 = .ok (.getfield 331, 3) := by decide +kernel
theorem dX8_giveToCrew_63 : decode cX8_giveToCrew 63 = .ok (.iload_n 2, 1) := by decide +kernel
theorem dX8_giveToCrew_64 : decode cX8_giveToCrew 64 = .ok (.iaload, 1) := by decide +kernel
theorem dX8_giveToCrew_65 : decode cX8_giveToCrew 65 = .ok (.aload_n 0, 1) := by decide +kernel
theorem dX8_giveToCrew_66 : decode cX8_giveToCrew 66 = .ok (.getfield 10, 3) := by decide +kernel
theorem dX8_giveToCrew_69 : decode cX8_giveToCrew 69 = .ok (.getfield 334, 3) := by decide +kernel
theorem dX8_giveToCrew_72 : decode cX8_giveToCrew 72 = .ok (.iload_n 2, 1) := by decide +kernel
theorem dX8_giveToCrew_73 : decode cX8_giveToCrew 73 = .ok (.iaload, 1) := by decide +kernel
theorem dX8_giveToCrew_74 : decode cX8_giveToCrew 74 = .ok (.aload_n 0, 1) := by decide +kernel
theorem dX8_giveToCrew_75 : decode cX8_giveToCrew 75 = .ok (.getfield 51, 3) := by decide +kernel
theorem dX8_giveToCrew_78 : decode cX8_giveToCrew 78 = .ok (.aload_n 0, 1) := by decide +kernel
theorem dX8_giveToCrew_79 : decode cX8_giveToCrew 79 = .ok (.getfield 10, 3) := by decide +kernel
theorem dX8_giveToCrew_82 : decode cX8_giveToCrew 82 = .ok (.getfield 120, 3) := by decide +kernel
theorem dX8_giveToCrew_85 : decode cX8_giveToCrew 85 = .ok (.iload_n 2, 1) := by decide +kernel
theorem dX8_giveToCrew_86 : decode cX8_giveToCrew 86 = .ok (.iaload, 1) := by decide +kernel
theorem dX8_giveToCrew_87 : decode cX8_giveToCrew 87 = .ok (.iaload, 1) := by decide +kernel
theorem dX8_giveToCrew_88 : decode cX8_giveToCrew 88 = .ok (.iload 4, 2) := by decide +kernel
theorem dX8_giveToCrew_90 : decode cX8_giveToCrew 90 = .ok (.invokevirtual 350, 3) := by decide +kernel
theorem dX8_giveToCrew_93 : decode cX8_giveToCrew 93 = .ok (.return_, 1) := by decide +kernel
theorem dX8_thingsIn_0 : decode cX8_thingsIn 0 = .ok (.iconst 0, 1) := by decide +kernel
theorem dX8_thingsIn_1 : decode cX8_thingsIn 1 = .ok (.istore_n 3, 1) := by decide +kernel
theorem dX8_thingsIn_2 : decode cX8_thingsIn 2 = .ok (.iconst 0, 1) := by decide +kernel
theorem dX8_thingsIn_3 : decode cX8_thingsIn 3 = .ok (.istore 4, 2) := by decide +kernel
theorem dX8_thingsIn_5 : decode cX8_thingsIn 5 = .ok (.iload 4, 2) := by decide +kernel
theorem dX8_thingsIn_7 : decode cX8_thingsIn 7 = .ok (.aload_n 0, 1) := by decide +kernel
theorem dX8_thingsIn_8 : decode cX8_thingsIn 8 = .ok (.getfield 19, 3) := by decide +kernel
theorem dX8_thingsIn_11 : decode cX8_thingsIn 11 = .ok (.getfield 292, 3) := by decide +kernel
theorem dX8_thingsIn_14 : decode cX8_thingsIn 14 = .ok (.if_icmp .ge 39, 3) := by decide +kernel
theorem dX8_thingsIn_17 : decode cX8_thingsIn 17 = .ok (.aload_n 0, 1) := by decide +kernel
theorem dX8_thingsIn_18 : decode cX8_thingsIn 18 = .ok (.iload 4, 2) := by decide +kernel
theorem dX8_thingsIn_20 : decode cX8_thingsIn 20 = .ok (.invokevirtual 182, 3) := by decide +kernel
theorem dX8_thingsIn_23 : decode cX8_thingsIn 23 = .ok (.iload_n 1, 1) := by decide +kernel
theorem dX8_thingsIn_24 : decode cX8_thingsIn 24 = .ok (.if_icmp .ne 23, 3) := by decide +kernel
theorem dX8_thingsIn_27 : decode cX8_thingsIn 27 = .ok (.iload_n 2, 1) := by decide +kernel
theorem dX8_thingsIn_28 : decode cX8_thingsIn 28 = .ok (.ifCond .eq 16, 3) := by decide +kernel
theorem dX8_thingsIn_31 : decode cX8_thingsIn 31 = .ok (.aload_n 0, 1) := by decide +kernel
theorem dX8_thingsIn_32 : decode cX8_thingsIn 32 = .ok (.getfield 19, 3) := by decide +kernel
theorem dX8_thingsIn_35 : decode cX8_thingsIn 35 = .ok (.getfield 218, 3) := by decide +kernel
theorem dX8_thingsIn_38 : decode cX8_thingsIn 38 = .ok (.iload 4, 2) := by decide +kernel
theorem dX8_thingsIn_40 : decode cX8_thingsIn 40 = .ok (.baload, 1) := by decide +kernel
theorem dX8_thingsIn_41 : decode cX8_thingsIn 41 = .ok (.ifCond .ne 6, 3) := by decide +kernel
theorem dX8_thingsIn_44 : decode cX8_thingsIn 44 = .ok (.iinc 3 1, 3) := by decide +kernel
theorem dX8_thingsIn_47 : decode cX8_thingsIn 47 = .ok (.iinc 4 1, 3) := by decide +kernel
theorem dX8_thingsIn_50 : decode cX8_thingsIn 50 = .ok (.goto (-45), 3) := by decide +kernel
theorem dX8_thingsIn_53 : decode cX8_thingsIn 53 = .ok (.iload_n 3, 1) := by decide +kernel
theorem dX8_thingsIn_54 : decode cX8_thingsIn 54 = .ok (.ireturn, 1) := by decide +kernel
theorem dX8_askedOfHundred_0 : decode cX8_askedOfHundred 0 = .ok (.aload_n 0, 1) := by decide +kernel
theorem dX8_askedOfHundred_1 : decode cX8_askedOfHundred 1 = .ok (.getfield 62, 3) := by decide +kernel
theorem dX8_askedOfHundred_4 : decode cX8_askedOfHundred 4 = .ok (.iload_n 1, 1) := by decide +kernel
theorem dX8_askedOfHundred_5 : decode cX8_askedOfHundred 5 = .ok (.iaload, 1) := by decide +kernel
theorem dX8_askedOfHundred_6 : decode cX8_askedOfHundred 6 = .ok (.istore_n 2, 1) := by decide +kernel
theorem dX8_askedOfHundred_7 : decode cX8_askedOfHundred 7 = .ok (.iload_n 2, 1) := by decide +kernel
theorem dX8_askedOfHundred_8 : decode cX8_askedOfHundred 8 = .ok (.ifCond .ne 8, 3) := by decide +kernel
theorem dX8_askedOfHundred_11 : decode cX8_askedOfHundred 11 = .ok (.bipush 100, 2) := by decide +kernel
theorem dX8_askedOfHundred_13 : decode cX8_askedOfHundred 13 = .ok (.goto 14, 3) := by decide +kernel
theorem dX8_askedOfHundred_16 : decode cX8_askedOfHundred 16 = .ok (.aload_n 0, 1) := by decide +kernel
theorem dX8_askedOfHundred_17 : decode cX8_askedOfHundred 17 = .ok (.getfield 65, 3) := by decide +kernel
theorem dX8_askedOfHundred_20 : decode cX8_askedOfHundred 20 = .ok (.iload_n 1, 1) := by decide +kernel
theorem dX8_askedOfHundred_21 : decode cX8_askedOfHundred 21 = .ok (.iaload, 1) := by decide +kernel
theorem dX8_askedOfHundred_22 : decode cX8_askedOfHundred 22 = .ok (.bipush 100, 2) := by decide +kernel
theorem dX8_askedOfHundred_24 : decode cX8_askedOfHundred 24 = .ok (.imul, 1) := by decide +kernel
theorem dX8_askedOfHundred_25 : decode cX8_askedOfHundred 25 = .ok (.iload_n 2, 1) := by decide +kernel
theorem dX8_askedOfHundred_26 : decode cX8_askedOfHundred 26 = .ok (.idiv, 1) := by decide +kernel
theorem dX8_askedOfHundred_27 : decode cX8_askedOfHundred 27 = .ok (.ireturn, 1) := by decide +kernel
theorem dX8_thingsReckoned_0 : decode cX8_thingsReckoned 0 = .ok (.aload_n 0, 1) := by decide +kernel
theorem dX8_thingsReckoned_1 : decode cX8_thingsReckoned 1 = .ok (.iload_n 1, 1) := by decide +kernel
theorem dX8_thingsReckoned_2 : decode cX8_thingsReckoned 2 = .ok (.invokevirtual 251, 3) := by decide +kernel
theorem dX8_thingsReckoned_5 : decode cX8_thingsReckoned 5 = .ok (.istore_n 2, 1) := by decide +kernel
theorem dX8_thingsReckoned_6 : decode cX8_thingsReckoned 6 = .ok (.iload_n 2, 1) := by decide +kernel
theorem dX8_thingsReckoned_7 : decode cX8_thingsReckoned 7 = .ok (.ifCond .ne 12, 3) := by decide +kernel
theorem dX8_thingsReckoned_10 : decode cX8_thingsReckoned 10 = .ok (.aload_n 0, 1) := by decide +kernel
theorem dX8_thingsReckoned_11 : decode cX8_thingsReckoned 11 = .ok (.ldc 175, 2) := by decide +kernel
theorem dX8_thingsReckoned_13 : decode cX8_thingsReckoned 13 = .ok (.invokevirtual 91, 3) := by decide +kernel
theorem dX8_thingsReckoned_16 : decode cX8_thingsReckoned 16 = .ok (.goto 14, 3) := by decide +kernel
theorem dX8_thingsReckoned_19 : decode cX8_thingsReckoned 19 = .ok (.aload_n 0, 1) := by decide +kernel
theorem dX8_thingsReckoned_20 : decode cX8_thingsReckoned 20 = .ok (.iload_n 1, 1) := by decide +kernel
theorem dX8_thingsReckoned_21 : decode cX8_thingsReckoned 21 = .ok (.iconst 0, 1) := by decide +kernel
theorem dX8_thingsReckoned_22 : decode cX8_thingsReckoned 22 = .ok (.invokevirtual 244, 3) := by decide +kernel
theorem dX8_thingsReckoned_25 : decode cX8_thingsReckoned 25 = .ok (.bipush 100, 2) := by decide +kernel
theorem dX8_thingsReckoned_27 : decode cX8_thingsReckoned 27 = .ok (.imul, 1) := by decide +kernel
theorem dX8_thingsReckoned_28 : decode cX8_thingsReckoned 28 = .ok (.iload_n 2, 1) := by decide +kernel
theorem dX8_thingsReckoned_29 : decode cX8_thingsReckoned 29 = .ok (.idiv, 1) := by decide +kernel
theorem dX8_thingsReckoned_30 : decode cX8_thingsReckoned 30 = .ok (.ireturn, 1) := by decide +kernel
end
section
theorem dX9_init_0 : decode cX9_init 0 = .ok (.aload_n 0, 1) := by decide +kernel
theorem dX9_init_1 : decode cX9_init 1 = .ok (.invokespecial 1, 3) := by decide +kernel
theorem dX9_init_4 : decode cX9_init 4 = .ok (.aload_n 0, 1) := by decide +kernel
theorem dX9_init_5 : decode cX9_init 5 = .ok (.bipush 40, 2) := by decide +kernel
theorem dX9_init_7 : decode cX9_init 7 = .ok (.newarray .int, 2) := by decide +kernel
theorem dX9_init_9 : decode cX9_init 9 = .ok (.putfield 7, 3) := by decide +kernel
theorem dX9_init_12 : decode cX9_init 12 = .ok (.aload_n 0, 1) := by decide +kernel
theorem dX9_init_13 : decode cX9_init 13 = .ok (.bipush 40, 2) := by decide +kernel
theorem dX9_init_15 : decode cX9_init 15 = .ok (.newarray .int, 2) := by decide +kernel
theorem dX9_init_17 : decode cX9_init 17 = .ok (.putfield 13, 3) := by decide +kernel
theorem dX9_init_20 : decode cX9_init 20 = .ok (.aload_n 0, 1) := by decide +kernel
theorem dX9_init_21 : decode cX9_init 21 = .ok (.bipush 40, 2) := by decide +kernel
theorem dX9_init_23 : decode cX9_init 23 = .ok (.newarray .int, 2) := by decide +kernel
theorem dX9_init_25 : decode cX9_init 25 = .ok (.putfield 16, 3) := by decide +kernel
theorem dX9_init_28 : decode cX9_init 28 = .ok (.aload_n 0, 1) := by decide +kernel
theorem dX9_init_29 : decode cX9_init 29 = .ok (.bipush 40, 2) := by decide +kernel
theorem dX9_init_31 : decode cX9_init 31 = .ok (.newarray .int, 2) := by decide +kernel
theorem dX9_init_33 : decode cX9_init 33 = .ok (.putfield 19, 3) := by decide +kernel
theorem dX9_init_36 : decode cX9_init 36 = .ok (.aload_n 0, 1) := by decide +kernel
theorem dX9_init_37 : decode cX9_init 37 = .ok (.bipush 40, 2) := by decide +kernel
theorem dX9_init_39 : decode cX9_init 39 = .ok (.newarray .int, 2) := by decide +kernel
theorem dX9_init_41 : decode cX9_init 41 = .ok (.putfield 22, 3) := by decide +kernel
theorem dX9_init_44 : decode cX9_init 44 = .ok (.aload_n 0, 1) := by decide +kernel
theorem dX9_init_45 : decode cX9_init 45 = .ok (.bipush 40, 2) := by decide +kernel
theorem dX9_init_47 : decode cX9_init 47 = .ok (.newarray .int, 2) := by decide +kernel
theorem dX9_init_49 : decode cX9_init 49 = .ok (.putfield 25, 3) := by decide +kernel
theorem dX9_init_52 : decode cX9_init 52 = .ok (.aload_n 0, 1) := by decide +kernel
theorem dX9_init_53 : decode cX9_init 53 = .ok (.iconst 5, 1) := by decide +kernel
theorem dX9_init_54 : decode cX9_init 54 = .ok (.newarray .int, 2) := by decide +kernel
theorem dX9_init_56 : decode cX9_init 56 = .ok (.dup, 1) := by decide +kernel
theorem dX9_init_57 : decode cX9_init 57 = .ok (.iconst 0, 1) := by decide +kernel
theorem dX9_init_58 : decode cX9_init 58 = .ok (.iconst 2, 1) := by decide +kernel
theorem dX9_init_59 : decode cX9_init 59 = .ok (.iastore, 1) := by decide +kernel
theorem dX9_init_60 : decode cX9_init 60 = .ok (.dup, 1) := by decide +kernel
theorem dX9_init_61 : decode cX9_init 61 = .ok (.iconst 1, 1) := by decide +kernel
theorem dX9_init_62 : decode cX9_init 62 = .ok (.iconst 2, 1) := by decide +kernel
theorem dX9_init_63 : decode cX9_init 63 = .ok (.iastore, 1) := by decide +kernel
theorem dX9_init_64 : decode cX9_init 64 = .ok (.dup, 1) := by decide +kernel
theorem dX9_init_65 : decode cX9_init 65 = .ok (.iconst 2, 1) := by decide +kernel
theorem dX9_init_66 : decode cX9_init 66 = .ok (.iconst 2, 1) := by decide +kernel
theorem dX9_init_67 : decode cX9_init 67 = .ok (.iastore, 1) := by decide +kernel
theorem dX9_init_68 : decode cX9_init 68 = .ok (.dup, 1) := by decide +kernel
theorem dX9_init_69 : decode cX9_init 69 = .ok (.iconst 3, 1) := by decide +kernel
theorem dX9_init_70 : decode cX9_init 70 = .ok (.iconst 2, 1) := by decide +kernel
theorem dX9_init_71 : decode cX9_init 71 = .ok (.iastore, 1) := by decide +kernel
theorem dX9_init_72 : decode cX9_init 72 = .ok (.dup, 1) := by decide +kernel
theorem dX9_init_73 : decode cX9_init 73 = .ok (.iconst 4, 1) := by decide +kernel
theorem dX9_init_74 : decode cX9_init 74 = .ok (.iconst 2, 1) := by decide +kernel
theorem dX9_init_75 : decode cX9_init 75 = .ok (.iastore, 1) := by decide +kernel
theorem dX9_init_76 : decode cX9_init 76 = .ok (.putfield 28, 3) := by decide +kernel
theorem dX9_init_79 : decode cX9_init 79 = .ok (.aload_n 0, 1) := by decide +kernel
theorem dX9_init_80 : decode cX9_init 80 = .ok (.iconst 5, 1) := by decide +kernel
theorem dX9_init_81 : decode cX9_init 81 = .ok (.newarray .int, 2) := by decide +kernel
theorem dX9_init_83 : decode cX9_init 83 = .ok (.dup, 1) := by decide +kernel
theorem dX9_init_84 : decode cX9_init 84 = .ok (.iconst 0, 1) := by decide +kernel
theorem dX9_init_85 : decode cX9_init 85 = .ok (.bipush 30, 2) := by decide +kernel
theorem dX9_init_87 : decode cX9_init 87 = .ok (.iastore, 1) := by decide +kernel
theorem dX9_init_88 : decode cX9_init 88 = .ok (.dup, 1) := by decide +kernel
theorem dX9_init_89 : decode cX9_init 89 = .ok (.iconst 1, 1) := by decide +kernel
theorem dX9_init_90 : decode cX9_init 90 = .ok (.bipush 30, 2) := by decide +kernel
theorem dX9_init_92 : decode cX9_init 92 = .ok (.iastore, 1) := by decide +kernel
theorem dX9_init_93 : decode cX9_init 93 = .ok (.dup, 1) := by decide +kernel
theorem dX9_init_94 : decode cX9_init 94 = .ok (.iconst 2, 1) := by decide +kernel
theorem dX9_init_95 : decode cX9_init 95 = .ok (.bipush 30, 2) := by decide +kernel
theorem dX9_init_97 : decode cX9_init 97 = .ok (.iastore, 1) := by decide +kernel
theorem dX9_init_98 : decode cX9_init 98 = .ok (.dup, 1) := by decide +kernel
theorem dX9_init_99 : decode cX9_init 99 = .ok (.iconst 3, 1) := by decide +kernel
theorem dX9_init_100 : decode cX9_init 100 = .ok (.bipush 30, 2) := by decide +kernel
theorem dX9_init_102 : decode cX9_init 102 = .ok (.iastore, 1) := by decide +kernel
theorem dX9_init_103 : decode cX9_init 103 = .ok (.dup, 1) := by decide +kernel
theorem dX9_init_104 : decode cX9_init 104 = .ok (.iconst 4, 1) := by decide +kernel
theorem dX9_init_105 : decode cX9_init 105 = .ok (.bipush 30, 2) := by decide +kernel
theorem dX9_init_107 : decode cX9_init 107 = .ok (.iastore, 1) := by decide +kernel
theorem dX9_init_108 : decode cX9_init 108 = .ok (.putfield 31, 3) := by decide +kernel
theorem dX9_init_111 : decode cX9_init 111 = .ok (.aload_n 0, 1) := by decide +kernel
theorem dX9_init_112 : decode cX9_init 112 = .ok (.bipush 40, 2) := by decide +kernel
theorem dX9_init_114 : decode cX9_init 114 = .ok (.newarray .int, 2) := by decide +kernel
theorem dX9_init_116 : decode cX9_init 116 = .ok (.putfield 34, 3) := by decide +kernel
theorem dX9_init_119 : decode cX9_init 119 = .ok (.aload_n 0, 1) := by decide +kernel
theorem dX9_init_120 : decode cX9_init 120 = .ok (.bipush 40, 2) := by decide +kernel
theorem dX9_init_122 : decode cX9_init 122 = .ok (.newarray .boolean, 2) := by decide +kernel
theorem dX9_init_124 : decode cX9_init 124 = .ok (.putfield 37, 3) := by decide +kernel
theorem dX9_init_127 : decode cX9_init 127 = .ok (.aload_n 0, 1) := by decide +kernel
theorem dX9_init_128 : decode cX9_init 128 = .ok (.bipush 40, 2) := by decide +kernel
theorem dX9_init_130 : decode cX9_init 130 = .ok (.newarray .int, 2) := by decide +kernel
theorem dX9_init_132 : decode cX9_init 132 = .ok (.putfield 41, 3) := by decide +kernel
theorem dX9_init_135 : decode cX9_init 135 = .ok (.aload_n 0, 1) := by decide +kernel
theorem dX9_init_136 : decode cX9_init 136 = .ok (.bipush 40, 2) := by decide +kernel
theorem dX9_init_138 : decode cX9_init 138 = .ok (.newarray .int, 2) := by decide +kernel
theorem dX9_init_140 : decode cX9_init 140 = .ok (.putfield 44, 3) := by decide +kernel
theorem dX9_init_143 : decode cX9_init 143 = .ok (.aload_n 0, 1) := by decide +kernel
theorem dX9_init_144 : decode cX9_init 144 = .ok (.bipush 40, 2) := by decide +kernel
theorem dX9_init_146 : decode cX9_init 146 = .ok (.newarray .int, 2) := by decide +kernel
theorem dX9_init_148 : decode cX9_init 148 = .ok (.putfield 47, 3) := by decide +kernel
theorem dX9_init_151 : decode cX9_init 151 = .ok (.aload_n 0, 1) := by decide +kernel
theorem dX9_init_152 : decode cX9_init 152 = .ok (.bipush 40, 2) := by decide +kernel
theorem dX9_init_154 : decode cX9_init 154 = .ok (.newarray .boolean, 2) := by decide +kernel
theorem dX9_init_156 : decode cX9_init 156 = .ok (.putfield 50, 3) := by decide +kernel
theorem dX9_init_159 : decode cX9_init 159 = .ok (.aload_n 0, 1) := by decide +kernel
theorem dX9_init_160 : decode cX9_init 160 = .ok (.bipush 80, 2) := by decide +kernel
theorem dX9_init_162 : decode cX9_init 162 = .ok (.newarray .int, 2) := by decide +kernel
theorem dX9_init_164 : decode cX9_init 164 = .ok (.putfield 53, 3) := by decide +kernel
theorem dX9_init_167 : decode cX9_init 167 = .ok (.aload_n 0, 1) := by decide +kernel
theorem dX9_init_168 : decode cX9_init 168 = .ok (.bipush 48, 2) := by decide +kernel
theorem dX9_init_170 : decode cX9_init 170 = .ok (.newarray .int, 2) := by decide +kernel
theorem dX9_init_172 : decode cX9_init 172 = .ok (.putfield 56, 3) := by decide +kernel
theorem dX9_init_175 : decode cX9_init 175 = .ok (.aload_n 0, 1) := by decide +kernel
theorem dX9_init_176 : decode cX9_init 176 = .ok (.iconst 5, 1) := by decide +kernel
theorem dX9_init_177 : decode cX9_init 177 = .ok (.newarray .int, 2) := by decide +kernel
theorem dX9_init_179 : decode cX9_init 179 = .ok (.dup, 1) := by decide +kernel
theorem dX9_init_180 : decode cX9_init 180 = .ok (.iconst 0, 1) := by decide +kernel
theorem dX9_init_181 : decode cX9_init 181 = .ok (.iconst 4, 1) := by decide +kernel
theorem dX9_init_182 : decode cX9_init 182 = .ok (.iastore, 1) := by decide +kernel
theorem dX9_init_183 : decode cX9_init 183 = .ok (.dup, 1) := by decide +kernel
theorem dX9_init_184 : decode cX9_init 184 = .ok (.iconst 1, 1) := by decide +kernel
theorem dX9_init_185 : decode cX9_init 185 = .ok (.iconst 4, 1) := by decide +kernel
theorem dX9_init_186 : decode cX9_init 186 = .ok (.iastore, 1) := by decide +kernel
theorem dX9_init_187 : decode cX9_init 187 = .ok (.dup, 1) := by decide +kernel
theorem dX9_init_188 : decode cX9_init 188 = .ok (.iconst 2, 1) := by decide +kernel
theorem dX9_init_189 : decode cX9_init 189 = .ok (.iconst 4, 1) := by decide +kernel
theorem dX9_init_190 : decode cX9_init 190 = .ok (.iastore, 1) := by decide +kernel
theorem dX9_init_191 : decode cX9_init 191 = .ok (.dup, 1) := by decide +kernel
theorem dX9_init_192 : decode cX9_init 192 = .ok (.iconst 3, 1) := by decide +kernel
theorem dX9_init_193 : decode cX9_init 193 = .ok (.iconst 4, 1) := by decide +kernel
theorem dX9_init_194 : decode cX9_init 194 = .ok (.iastore, 1) := by decide +kernel
theorem dX9_init_195 : decode cX9_init 195 = .ok (.dup, 1) := by decide +kernel
theorem dX9_init_196 : decode cX9_init 196 = .ok (.iconst 4, 1) := by decide +kernel
theorem dX9_init_197 : decode cX9_init 197 = .ok (.iconst 4, 1) := by decide +kernel
theorem dX9_init_198 : decode cX9_init 198 = .ok (.iastore, 1) := by decide +kernel
theorem dX9_init_199 : decode cX9_init 199 = .ok (.putfield 59, 3) := by decide +kernel
theorem dX9_init_202 : decode cX9_init 202 = .ok (.aload_n 0, 1) := by decide +kernel
theorem dX9_init_203 : decode cX9_init 203 = .ok (.bipush 6, 2) := by decide +kernel
theorem dX9_init_205 : decode cX9_init 205 = .ok (.newarray .int, 2) := by decide +kernel
theorem dX9_init_207 : decode cX9_init 207 = .ok (.putfield 62, 3) := by decide +kernel
theorem dX9_init_210 : decode cX9_init 210 = .ok (.aload_n 0, 1) := by decide +kernel
theorem dX9_init_211 : decode cX9_init 211 = .ok (.bipush 6, 2) := by decide +kernel
theorem dX9_init_213 : decode cX9_init 213 = .ok (.newarray .int, 2) := by decide +kernel
theorem dX9_init_215 : decode cX9_init 215 = .ok (.putfield 65, 3) := by decide +kernel
theorem dX9_init_218 : decode cX9_init 218 = .ok (.aload_n 0, 1) := by decide +kernel
theorem dX9_init_219 : decode cX9_init 219 = .ok (.bipush 6, 2) := by decide +kernel
theorem dX9_init_221 : decode cX9_init 221 = .ok (.newarray .int, 2) := by decide +kernel
theorem dX9_init_223 : decode cX9_init 223 = .ok (.putfield 68, 3) := by decide +kernel
theorem dX9_init_226 : decode cX9_init 226 = .ok (.aload_n 0, 1) := by decide +kernel
theorem dX9_init_227 : decode cX9_init 227 = .ok (.iconst 4, 1) := by decide +kernel
theorem dX9_init_228 : decode cX9_init 228 = .ok (.newarray .int, 2) := by decide +kernel
theorem dX9_init_230 : decode cX9_init 230 = .ok (.putfield 71, 3) := by decide +kernel
theorem dX9_init_233 : decode cX9_init 233 = .ok (.aload_n 0, 1) := by decide +kernel
theorem dX9_init_234 : decode cX9_init 234 = .ok (.iconst 4, 1) := by decide +kernel
theorem dX9_init_235 : decode cX9_init 235 = .ok (.newarray .int, 2) := by decide +kernel
theorem dX9_init_237 : decode cX9_init 237 = .ok (.putfield 74, 3) := by decide +kernel
theorem dX9_init_240 : decode cX9_init 240 = .ok (.aload_n 0, 1) := by decide +kernel
theorem dX9_init_241 : decode cX9_init 241 = .ok (.iconst 4, 1) := by decide +kernel
theorem dX9_init_242 : decode cX9_init 242 = .ok (.newarray .int, 2) := by decide +kernel
theorem dX9_init_244 : decode cX9_init 244 = .ok (.putfield 77, 3) := by decide +kernel
theorem dX9_init_247 : decode cX9_init 247 = .ok (.aload_n 0, 1) := by decide +kernel
theorem dX9_init_248 : decode cX9_init 248 = .ok (.iconst 4, 1) := by decide +kernel
theorem dX9_init_249 : decode cX9_init 249 = .ok (.newarray .int, 2) := by decide +kernel
theorem dX9_init_251 : decode cX9_init 251 = .ok (.putfield 80, 3) := by decide +kernel
theorem dX9_init_254 : decode cX9_init 254 = .ok (.aload_n 0, 1) := by decide +kernel
theorem dX9_init_255 : decode cX9_init 255 = .ok (.bipush 48, 2) := by decide +kernel
theorem dX9_init_257 : decode cX9_init 257 = .ok (.newarray .int, 2) := by decide +kernel
theorem dX9_init_259 : decode cX9_init 259 = .ok (.putfield 83, 3) := by decide +kernel
theorem dX9_init_262 : decode cX9_init 262 = .ok (.aload_n 0, 1) := by decide +kernel
theorem dX9_init_263 : decode cX9_init 263 = .ok (.sipush 4096, 3) := by decide +kernel
theorem dX9_init_266 : decode cX9_init 266 = .ok (.newarray .boolean, 2) := by decide +kernel
theorem dX9_init_268 : decode cX9_init 268 = .ok (.putfield 86, 3) := by decide +kernel
theorem dX9_init_271 : decode cX9_init 271 = .ok (.aload_n 0, 1) := by decide +kernel
theorem dX9_init_272 : decode cX9_init 272 = .ok (.sipush 4096, 3) := by decide +kernel
theorem dX9_init_275 : decode cX9_init 275 = .ok (.newarray .int, 2) := by decide +kernel
theorem dX9_init_277 : decode cX9_init 277 = .ok (.putfield 89, 3) := by decide +kernel
theorem dX9_init_280 : decode cX9_init 280 = .ok (.aload_n 0, 1) := by decide +kernel
theorem dX9_init_281 : decode cX9_init 281 = .ok (.bipush 12, 2) := by decide +kernel
theorem dX9_init_283 : decode cX9_init 283 = .ok (.newarray .int, 2) := by decide +kernel
theorem dX9_init_285 : decode cX9_init 285 = .ok (.putfield 92, 3) := by decide +kernel
theorem dX9_init_288 : decode cX9_init 288 = .ok (.aload_n 0, 1) := by decide +kernel
theorem dX9_init_289 : decode cX9_init 289 = .ok (.bipush 6, 2) := by decide +kernel
theorem dX9_init_291 : decode cX9_init 291 = .ok (.newarray .int, 2) := by decide +kernel
theorem dX9_init_293 : decode cX9_init 293 = .ok (.putfield 95, 3) := by decide +kernel
theorem dX9_init_296 : decode cX9_init 296 = .ok (.aload_n 0, 1) := by decide +kernel
theorem dX9_init_297 : decode cX9_init 297 = .ok (.bipush 7, 2) := by decide +kernel
theorem dX9_init_299 : decode cX9_init 299 = .ok (.newarray .int, 2) := by decide +kernel
theorem dX9_init_301 : decode cX9_init 301 = .ok (.putfield 98, 3) := by decide +kernel
theorem dX9_init_304 : decode cX9_init 304 = .ok (.aload_n 0, 1) := by decide +kernel
theorem dX9_init_305 : decode cX9_init 305 = .ok (.bipush 6, 2) := by decide +kernel
theorem dX9_init_307 : decode cX9_init 307 = .ok (.newarray .int, 2) := by decide +kernel
theorem dX9_init_309 : decode cX9_init 309 = .ok (.putfield 101, 3) := by decide +kernel
theorem dX9_init_312 : decode cX9_init 312 = .ok (.aload_n 0, 1) := by decide +kernel
theorem dX9_init_313 : decode cX9_init 313 = .ok (.bipush 12, 2) := by decide +kernel
theorem dX9_init_315 : decode cX9_init 315 = .ok (.newarray .int, 2) := by decide +kernel
theorem dX9_init_317 : decode cX9_init 317 = .ok (.putfield 104, 3) := by decide +kernel
theorem dX9_init_320 : decode cX9_init 320 = .ok (.return_, 1) := by decide +kernel
theorem dX9_in_0 : decode cX9_in 0 = .ok (.iload_n 0, 1) := by decide +kernel
theorem dX9_in_1 : decode cX9_in 1 = .ok (.iload_n 1, 1) := by decide +kernel
theorem dX9_in_2 : decode cX9_in 2 = .ok (.if_icmp .lt 12, 3) := by decide +kernel
theorem dX9_in_5 : decode cX9_in 5 = .ok (.iload_n 0, 1) := by decide +kernel
theorem dX9_in_6 : decode cX9_in 6 = .ok (.iload_n 2, 1) := by decide +kernel
theorem dX9_in_7 : decode cX9_in 7 = .ok (.if_icmp .gt 7, 3) := by decide +kernel
theorem dX9_in_10 : decode cX9_in 10 = .ok (.iconst 1, 1) := by decide +kernel
theorem dX9_in_11 : decode cX9_in 11 = .ok (.goto 4, 3) := by decide +kernel
theorem dX9_in_14 : decode cX9_in 14 = .ok (.iconst 0, 1) := by decide +kernel
theorem dX9_in_15 : decode cX9_in 15 = .ok (.ireturn, 1) := by decide +kernel
theorem dX9_finding_0 : decode cX9_finding 0 = .ok (.aload_n 0, 1) := by decide +kernel
theorem dX9_finding_1 : decode cX9_finding 1 = .ok (.dup, 1) := by decide +kernel
theorem dX9_finding_2 : decode cX9_finding 2 = .ok (.getfield 107, 3) := by decide +kernel
theorem dX9_finding_5 : decode cX9_finding 5 = .ok (.iconst 1, 1) := by decide +kernel
theorem dX9_finding_6 : decode cX9_finding 6 = .ok (.iadd, 1) := by decide +kernel
theorem dX9_finding_7 : decode cX9_finding 7 = .ok (.putfield 107, 3) := by decide +kernel
theorem dX9_finding_10 : decode cX9_finding 10 = .ok (.iload_n 1, 1) := by decide +kernel
theorem dX9_finding_11 : decode cX9_finding 11 = .ok (.ireturn, 1) := by decide +kernel
theorem dX9_away_0 : decode cX9_away 0 = .ok (.iload_n 0, 1) := by decide +kernel
theorem dX9_away_1 : decode cX9_away 1 = .ok (.iload_n 1, 1) := by decide +kernel
theorem dX9_away_2 : decode cX9_away 2 = .ok (.if_icmp .ge 9, 3) := by decide +kernel
theorem dX9_away_5 : decode cX9_away 5 = .ok (.iload_n 1, 1) := by decide +kernel
theorem dX9_away_6 : decode cX9_away 6 = .ok (.iload_n 0, 1) := by decide +kernel
theorem dX9_away_7 : decode cX9_away 7 = .ok (.isub, 1) := by decide +kernel
theorem dX9_away_8 : decode cX9_away 8 = .ok (.goto 6, 3) := by decide +kernel
theorem dX9_away_11 : decode cX9_away 11 = .ok (.iload_n 0, 1) := by decide +kernel
theorem dX9_away_12 : decode cX9_away 12 = .ok (.iload_n 1, 1) := by decide +kernel
theorem dX9_away_13 : decode cX9_away 13 = .ok (.isub, 1) := by decide +kernel
theorem dX9_away_14 : decode cX9_away 14 = .ok (.ireturn, 1) := by decide +kernel
theorem dX9_isKind_0 : decode cX9_isKind 0 = .ok (.iload_n 0, 1) := by decide +kernel
theorem dX9_isKind_1 : decode cX9_isKind 1 = .ok (.iconst 0, 1) := by decide +kernel
theorem dX9_isKind_2 : decode cX9_isKind 2 = .ok (.iconst 4, 1) := by decide +kernel
theorem dX9_isKind_3 : decode cX9_isKind 3 = .ok (.invokestatic 111, 3) := by decide +kernel
theorem dX9_isKind_6 : decode cX9_isKind 6 = .ok (.ireturn, 1) := by decide +kernel
theorem dX9_isAsk_0 : decode cX9_isAsk 0 = .ok (.iload_n 1, 1) := by decide +kernel
theorem dX9_isAsk_1 : decode cX9_isAsk 1 = .ok (.iconst 0, 1) := by decide +kernel
theorem dX9_isAsk_2 : decode cX9_isAsk 2 = .ok (.aload_n 0, 1) := by decide +kernel
theorem dX9_isAsk_3 : decode cX9_isAsk 3 = .ok (.getfield 115, 3) := by decide +kernel
theorem dX9_isAsk_6 : decode cX9_isAsk 6 = .ok (.iconst 1, 1) := by decide +kernel
theorem dX9_isAsk_7 : decode cX9_isAsk 7 = .ok (.isub, 1) := by decide +kernel
theorem dX9_isAsk_8 : decode cX9_isAsk 8 = .ok (.invokestatic 111, 3) := by decide +kernel
theorem dX9_isAsk_11 : decode cX9_isAsk 11 = .ok (.ireturn, 1) := by decide +kernel
theorem dX9_isThing_0 : decode cX9_isThing 0 = .ok (.iload_n 1, 1) := by decide +kernel
theorem dX9_isThing_1 : decode cX9_isThing 1 = .ok (.iconst 0, 1) := by decide +kernel
theorem dX9_isThing_2 : decode cX9_isThing 2 = .ok (.aload_n 0, 1) := by decide +kernel
theorem dX9_isThing_3 : decode cX9_isThing 3 = .ok (.getfield 118, 3) := by decide +kernel
theorem dX9_isThing_6 : decode cX9_isThing 6 = .ok (.iconst 1, 1) := by decide +kernel
theorem dX9_isThing_7 : decode cX9_isThing 7 = .ok (.isub, 1) := by decide +kernel
theorem dX9_isThing_8 : decode cX9_isThing 8 = .ok (.invokestatic 111, 3) := by decide +kernel
theorem dX9_isThing_11 : decode cX9_isThing 11 = .ok (.ireturn, 1) := by decide +kernel
theorem dX9_isDay_0 : decode cX9_isDay 0 = .ok (.iload_n 0, 1) := by decide +kernel
theorem dX9_isDay_1 : decode cX9_isDay 1 = .ok (.iconst 0, 1) := by decide +kernel
theorem dX9_isDay_2 : decode cX9_isDay 2 = .ok (.sipush 999, 3) := by decide +kernel
theorem dX9_isDay_5 : decode cX9_isDay 5 = .ok (.invokestatic 111, 3) := by decide +kernel
theorem dX9_isDay_8 : decode cX9_isDay 8 = .ok (.ireturn, 1) := by decide +kernel
theorem dX9_above_0 : decode cX9_above 0 = .ok (.iload_n 0, 1) := by decide +kernel
theorem dX9_above_1 : decode cX9_above 1 = .ok (.ifCond .ne 7, 3) := by decide +kernel
theorem dX9_above_4 : decode cX9_above 4 = .ok (.iconst (-1), 1) := by decide +kernel
theorem dX9_above_5 : decode cX9_above 5 = .ok (.goto 13, 3) := by decide +kernel
theorem dX9_above_8 : decode cX9_above 8 = .ok (.iload_n 0, 1) := by decide +kernel
theorem dX9_above_9 : decode cX9_above 9 = .ok (.iconst 4, 1) := by decide +kernel
theorem dX9_above_10 : decode cX9_above 10 = .ok (.if_icmp .ne 7, 3) := by decide +kernel
theorem dX9_above_13 : decode cX9_above 13 = .ok (.iconst 2, 1) := by decide +kernel
theorem dX9_above_14 : decode cX9_above 14 = .ok (.goto 4, 3) := by decide +kernel
theorem dX9_above_17 : decode cX9_above 17 = .ok (.iconst 0, 1) := by decide +kernel
theorem dX9_above_18 : decode cX9_above 18 = .ok (.ireturn, 1) := by decide +kernel
theorem dX9_isUnder_0 : decode cX9_isUnder 0 = .ok (.iload_n 0, 1) := by decide +kernel
theorem dX9_isUnder_1 : decode cX9_isUnder 1 = .ok (.istore_n 2, 1) := by decide +kernel
theorem dX9_isUnder_2 : decode cX9_isUnder 2 = .ok (.iload_n 2, 1) := by decide +kernel
theorem dX9_isUnder_3 : decode cX9_isUnder 3 = .ok (.ifCond .lt 16, 3) := by decide +kernel
theorem dX9_isUnder_6 : decode cX9_isUnder 6 = .ok (.iload_n 2, 1) := by decide +kernel
theorem dX9_isUnder_7 : decode cX9_isUnder 7 = .ok (.iload_n 1, 1) := by decide +kernel
theorem dX9_isUnder_8 : decode cX9_isUnder 8 = .ok (.if_icmp .eq 11, 3) := by decide +kernel
theorem dX9_isUnder_11 : decode cX9_isUnder 11 = .ok (.iload_n 2, 1) := by decide +kernel
theorem dX9_isUnder_12 : decode cX9_isUnder 12 = .ok (.invokestatic 121, 3) := by decide +kernel
theorem dX9_isUnder_15 : decode cX9_isUnder 15 = .ok (.istore_n 2, 1) := by decide +kernel
theorem dX9_isUnder_16 : decode cX9_isUnder 16 = .ok (.goto (-14), 3) := by decide +kernel
theorem dX9_isUnder_19 : decode cX9_isUnder 19 = .ok (.iload_n 2, 1) := by decide +kernel
theorem dX9_isUnder_20 : decode cX9_isUnder 20 = .ok (.iload_n 1, 1) := by decide +kernel
theorem dX9_isUnder_21 : decode cX9_isUnder 21 = .ok (.if_icmp .ne 7, 3) := by decide +kernel
theorem dX9_isUnder_24 : decode cX9_isUnder 24 = .ok (.iconst 1, 1) := by decide +kernel
theorem dX9_isUnder_25 : decode cX9_isUnder 25 = .ok (.goto 4, 3) := by decide +kernel
theorem dX9_isUnder_28 : decode cX9_isUnder 28 = .ok (.iconst 0, 1) := by decide +kernel
theorem dX9_isUnder_29 : decode cX9_isUnder 29 = .ok (.ireturn, 1) := by decide +kernel
theorem dX9_quarterOf_0 : decode cX9_quarterOf 0 = .ok (.iload_n 0, 1) := by decide +kernel
theorem dX9_quarterOf_1 : decode cX9_quarterOf 1 = .ok (.bipush 15, 2) := by decide +kernel
theorem dX9_quarterOf_3 : decode cX9_quarterOf 3 = .ok (.if_icmp .le 7, 3) := by decide +kernel
theorem dX9_quarterOf_6 : decode cX9_quarterOf 6 = .ok (.iconst 1, 1) := by decide +kernel
theorem dX9_quarterOf_7 : decode cX9_quarterOf 7 = .ok (.goto 4, 3) := by decide +kernel
theorem dX9_quarterOf_10 : decode cX9_quarterOf 10 = .ok (.iconst 0, 1) := by decide +kernel
theorem dX9_quarterOf_11 : decode cX9_quarterOf 11 = .ok (.iload_n 1, 1) := by decide +kernel
theorem dX9_quarterOf_12 : decode cX9_quarterOf 12 = .ok (.bipush 15, 2) := by decide +kernel
theorem dX9_quarterOf_14 : decode cX9_quarterOf 14 = .ok (.if_icmp .le 7, 3) := by decide +kernel
theorem dX9_quarterOf_17 : decode cX9_quarterOf 17 = .ok (.iconst 2, 1) := by decide +kernel
theorem dX9_quarterOf_18 : decode cX9_quarterOf 18 = .ok (.goto 4, 3) := by decide +kernel
theorem dX9_quarterOf_21 : decode cX9_quarterOf 21 = .ok (.iconst 0, 1) := by decide +kernel
theorem dX9_quarterOf_22 : decode cX9_quarterOf 22 = .ok (.iadd, 1) := by decide +kernel
theorem dX9_quarterOf_23 : decode cX9_quarterOf 23 = .ok (.ireturn, 1) := by decide +kernel
theorem dX9_latest_0 : decode cX9_latest 0 = .ok (.aload_n 0, 1) := by decide +kernel
theorem dX9_latest_1 : decode cX9_latest 1 = .ok (.getfield 115, 3) := by decide +kernel
theorem dX9_latest_4 : decode cX9_latest 4 = .ok (.ifCond .ne 7, 3) := by decide +kernel
theorem dX9_latest_7 : decode cX9_latest 7 = .ok (.iconst 0, 1) := by decide +kernel
theorem dX9_latest_8 : decode cX9_latest 8 = .ok (.goto 14, 3) := by decide +kernel
theorem dX9_latest_11 : decode cX9_latest 11 = .ok (.aload_n 0, 1) := by decide +kernel
theorem dX9_latest_12 : decode cX9_latest 12 = .ok (.getfield 22, 3) := by decide +kernel
theorem dX9_latest_15 : decode cX9_latest 15 = .ok (.aload_n 0, 1) := by decide +kernel
theorem dX9_latest_16 : decode cX9_latest 16 = .ok (.getfield 115, 3) := by decide +kernel
theorem dX9_latest_19 : decode cX9_latest 19 = .ok (.iconst 1, 1) := by decide +kernel
theorem dX9_latest_20 : decode cX9_latest 20 = .ok (.isub, 1) := by decide +kernel
theorem dX9_latest_21 : decode cX9_latest 21 = .ok (.iaload, 1) := by decide +kernel
theorem dX9_latest_22 : decode cX9_latest 22 = .ok (.ireturn, 1) := by decide +kernel
theorem dX9_doMeet_0 : decode cX9_doMeet 0 = .ok (.aload_n 0, 1) := by decide +kernel
theorem dX9_doMeet_1 : decode cX9_doMeet 1 = .ok (.getfield 7, 3) := by decide +kernel
theorem dX9_doMeet_4 : decode cX9_doMeet 4 = .ok (.iload_n 1, 1) := by decide +kernel
theorem dX9_doMeet_5 : decode cX9_doMeet 5 = .ok (.iaload, 1) := by decide +kernel
theorem dX9_doMeet_6 : decode cX9_doMeet 6 = .ok (.istore_n 3, 1) := by decide +kernel
theorem dX9_doMeet_7 : decode cX9_doMeet 7 = .ok (.aload_n 0, 1) := by decide +kernel
theorem dX9_doMeet_8 : decode cX9_doMeet 8 = .ok (.getfield 13, 3) := by decide +kernel
theorem dX9_doMeet_11 : decode cX9_doMeet 11 = .ok (.iload_n 1, 1) := by decide +kernel
theorem dX9_doMeet_12 : decode cX9_doMeet 12 = .ok (.iaload, 1) := by decide +kernel
theorem dX9_doMeet_13 : decode cX9_doMeet 13 = .ok (.aload_n 0, 1) := by decide +kernel
theorem dX9_doMeet_14 : decode cX9_doMeet 14 = .ok (.getfield 13, 3) := by decide +kernel
theorem dX9_doMeet_17 : decode cX9_doMeet 17 = .ok (.iload_n 2, 1) := by decide +kernel
theorem dX9_doMeet_18 : decode cX9_doMeet 18 = .ok (.iaload, 1) := by decide +kernel
theorem dX9_doMeet_19 : decode cX9_doMeet 19 = .ok (.invokestatic 125, 3) := by decide +kernel
theorem dX9_doMeet_22 : decode cX9_doMeet 22 = .ok (.aload_n 0, 1) := by decide +kernel
theorem dX9_doMeet_23 : decode cX9_doMeet 23 = .ok (.getfield 16, 3) := by decide +kernel
theorem dX9_doMeet_26 : decode cX9_doMeet 26 = .ok (.iload_n 1, 1) := by decide +kernel
theorem dX9_doMeet_27 : decode cX9_doMeet 27 = .ok (.iaload, 1) := by decide +kernel
theorem dX9_doMeet_28 : decode cX9_doMeet 28 = .ok (.aload_n 0, 1) := by decide +kernel
theorem dX9_doMeet_29 : decode cX9_doMeet 29 = .ok (.getfield 16, 3) := by decide +kernel
theorem dX9_doMeet_32 : decode cX9_doMeet 32 = .ok (.iload_n 2, 1) := by decide +kernel
theorem dX9_doMeet_33 : decode cX9_doMeet 33 = .ok (.iaload, 1) := by decide +kernel
theorem dX9_doMeet_34 : decode cX9_doMeet 34 = .ok (.invokestatic 125, 3) := by decide +kernel
theorem dX9_doMeet_37 : decode cX9_doMeet 37 = .ok (.iadd, 1) := by decide +kernel
theorem dX9_doMeet_38 : decode cX9_doMeet 38 = .ok (.istore 4, 2) := by decide +kernel
theorem dX9_doMeet_40 : decode cX9_doMeet 40 = .ok (.iload_n 3, 1) := by decide +kernel
theorem dX9_doMeet_41 : decode cX9_doMeet 41 = .ok (.aload_n 0, 1) := by decide +kernel
theorem dX9_doMeet_42 : decode cX9_doMeet 42 = .ok (.getfield 7, 3) := by decide +kernel
theorem dX9_doMeet_45 : decode cX9_doMeet 45 = .ok (.iload_n 2, 1) := by decide +kernel
theorem dX9_doMeet_46 : decode cX9_doMeet 46 = .ok (.iaload, 1) := by decide +kernel
theorem dX9_doMeet_47 : decode cX9_doMeet 47 = .ok (.if_icmp .ne 56, 3) := by decide +kernel
theorem dX9_doMeet_50 : decode cX9_doMeet 50 = .ok (.iload 4, 2) := by decide +kernel
theorem dX9_doMeet_52 : decode cX9_doMeet 52 = .ok (.aload_n 0, 1) := by decide +kernel
theorem dX9_doMeet_53 : decode cX9_doMeet 53 = .ok (.getfield 28, 3) := by decide +kernel
theorem dX9_doMeet_56 : decode cX9_doMeet 56 = .ok (.iload_n 3, 1) := by decide +kernel
theorem dX9_doMeet_57 : decode cX9_doMeet 57 = .ok (.iaload, 1) := by decide +kernel
theorem dX9_doMeet_58 : decode cX9_doMeet 58 = .ok (.aload_n 0, 1) := by decide +kernel
theorem dX9_doMeet_59 : decode cX9_doMeet 59 = .ok (.getfield 19, 3) := by decide +kernel
theorem dX9_doMeet_62 : decode cX9_doMeet 62 = .ok (.iload_n 1, 1) := by decide +kernel
theorem dX9_doMeet_63 : decode cX9_doMeet 63 = .ok (.iaload, 1) := by decide +kernel
theorem dX9_doMeet_64 : decode cX9_doMeet 64 = .ok (.iadd, 1) := by decide +kernel
theorem dX9_doMeet_65 : decode cX9_doMeet 65 = .ok (.aload_n 0, 1) := by decide +kernel
theorem dX9_doMeet_66 : decode cX9_doMeet 66 = .ok (.getfield 19, 3) := by decide +kernel
theorem dX9_doMeet_69 : decode cX9_doMeet 69 = .ok (.iload_n 2, 1) := by decide +kernel
theorem dX9_doMeet_70 : decode cX9_doMeet 70 = .ok (.iaload, 1) := by decide +kernel
theorem dX9_doMeet_71 : decode cX9_doMeet 71 = .ok (.iadd, 1) := by decide +kernel
theorem dX9_doMeet_72 : decode cX9_doMeet 72 = .ok (.if_icmp .gt 31, 3) := by decide +kernel
theorem dX9_doMeet_75 : decode cX9_doMeet 75 = .ok (.aload_n 0, 1) := by decide +kernel
theorem dX9_doMeet_76 : decode cX9_doMeet 76 = .ok (.getfield 22, 3) := by decide +kernel
theorem dX9_doMeet_79 : decode cX9_doMeet 79 = .ok (.iload_n 1, 1) := by decide +kernel
theorem dX9_doMeet_80 : decode cX9_doMeet 80 = .ok (.iaload, 1) := by decide +kernel
theorem dX9_doMeet_81 : decode cX9_doMeet 81 = .ok (.aload_n 0, 1) := by decide +kernel
theorem dX9_doMeet_82 : decode cX9_doMeet 82 = .ok (.getfield 22, 3) := by decide +kernel
theorem dX9_doMeet_85 : decode cX9_doMeet 85 = .ok (.iload_n 2, 1) := by decide +kernel
theorem dX9_doMeet_86 : decode cX9_doMeet 86 = .ok (.iaload, 1) := by decide +kernel
theorem dX9_doMeet_87 : decode cX9_doMeet 87 = .ok (.invokestatic 125, 3) := by decide +kernel
theorem dX9_doMeet_90 : decode cX9_doMeet 90 = .ok (.aload_n 0, 1) := by decide +kernel
theorem dX9_doMeet_91 : decode cX9_doMeet 91 = .ok (.getfield 31, 3) := by decide +kernel
theorem dX9_doMeet_94 : decode cX9_doMeet 94 = .ok (.iload_n 3, 1) := by decide +kernel
theorem dX9_doMeet_95 : decode cX9_doMeet 95 = .ok (.iaload, 1) := by decide +kernel
theorem dX9_doMeet_96 : decode cX9_doMeet 96 = .ok (.if_icmp .gt 7, 3) := by decide +kernel
theorem dX9_doMeet_99 : decode cX9_doMeet 99 = .ok (.iconst 1, 1) := by decide +kernel
theorem dX9_doMeet_100 : decode cX9_doMeet 100 = .ok (.goto 4, 3) := by decide +kernel
theorem dX9_doMeet_103 : decode cX9_doMeet 103 = .ok (.iconst 0, 1) := by decide +kernel
theorem dX9_doMeet_104 : decode cX9_doMeet 104 = .ok (.ireturn, 1) := by decide +kernel
theorem dX9_comes_0 : decode cX9_comes 0 = .ok (.aload_n 0, 1) := by decide +kernel
theorem dX9_comes_1 : decode cX9_comes 1 = .ok (.getfield 7, 3) := by decide +kernel
theorem dX9_comes_4 : decode cX9_comes 4 = .ok (.aload_n 0, 1) := by decide +kernel
theorem dX9_comes_5 : decode cX9_comes 5 = .ok (.getfield 115, 3) := by decide +kernel
theorem dX9_comes_8 : decode cX9_comes 8 = .ok (.iload_n 1, 1) := by decide +kernel
theorem dX9_comes_9 : decode cX9_comes 9 = .ok (.iastore, 1) := by decide +kernel
theorem dX9_comes_10 : decode cX9_comes 10 = .ok (.aload_n 0, 1) := by decide +kernel
theorem dX9_comes_11 : decode cX9_comes 11 = .ok (.getfield 13, 3) := by decide +kernel
theorem dX9_comes_14 : decode cX9_comes 14 = .ok (.aload_n 0, 1) := by decide +kernel
theorem dX9_comes_15 : decode cX9_comes 15 = .ok (.getfield 115, 3) := by decide +kernel
theorem dX9_comes_18 : decode cX9_comes 18 = .ok (.iload_n 2, 1) := by decide +kernel
theorem dX9_comes_19 : decode cX9_comes 19 = .ok (.iastore, 1) := by decide +kernel
theorem dX9_comes_20 : decode cX9_comes 20 = .ok (.aload_n 0, 1) := by decide +kernel
theorem dX9_comes_21 : decode cX9_comes 21 = .ok (.getfield 16, 3) := by decide +kernel
theorem dX9_comes_24 : decode cX9_comes 24 = .ok (.aload_n 0, 1) := by decide +kernel
theorem dX9_comes_25 : decode cX9_comes 25 = .ok (.getfield 115, 3) := by decide +kernel
theorem dX9_comes_28 : decode cX9_comes 28 = .ok (.iload_n 3, 1) := by decide +kernel
theorem dX9_comes_29 : decode cX9_comes 29 = .ok (.iastore, 1) := by decide +kernel
theorem dX9_comes_30 : decode cX9_comes 30 = .ok (.aload_n 0, 1) := by decide +kernel
theorem dX9_comes_31 : decode cX9_comes 31 = .ok (.getfield 19, 3) := by decide +kernel
theorem dX9_comes_34 : decode cX9_comes 34 = .ok (.aload_n 0, 1) := by decide +kernel
theorem dX9_comes_35 : decode cX9_comes 35 = .ok (.getfield 115, 3) := by decide +kernel
theorem dX9_comes_38 : decode cX9_comes 38 = .ok (.iload 4, 2) := by decide +kernel
theorem dX9_comes_40 : decode cX9_comes 40 = .ok (.iastore, 1) := by decide +kernel
theorem dX9_comes_41 : decode cX9_comes 41 = .ok (.aload_n 0, 1) := by decide +kernel
theorem dX9_comes_42 : decode cX9_comes 42 = .ok (.getfield 22, 3) := by decide +kernel
theorem dX9_comes_45 : decode cX9_comes 45 = .ok (.aload_n 0, 1) := by decide +kernel
theorem dX9_comes_46 : decode cX9_comes 46 = .ok (.getfield 115, 3) := by decide +kernel
theorem dX9_comes_49 : decode cX9_comes 49 = .ok (.iload 5, 2) := by decide +kernel
theorem dX9_comes_51 : decode cX9_comes 51 = .ok (.iastore, 1) := by decide +kernel
theorem dX9_comes_52 : decode cX9_comes 52 = .ok (.iconst (-1), 1) := by decide +kernel
theorem dX9_comes_53 : decode cX9_comes 53 = .ok (.istore 6, 2) := by decide +kernel
theorem dX9_comes_55 : decode cX9_comes 55 = .ok (.iconst 0, 1) := by decide +kernel
theorem dX9_comes_56 : decode cX9_comes 56 = .ok (.istore 7, 2) := by decide +kernel
theorem dX9_comes_58 : decode cX9_comes 58 = .ok (.iload 7, 2) := by decide +kernel
theorem dX9_comes_60 : decode cX9_comes 60 = .ok (.aload_n 0, 1) := by decide +kernel
theorem dX9_comes_61 : decode cX9_comes 61 = .ok (.getfield 118, 3) := by decide +kernel
theorem dX9_comes_64 : decode cX9_comes 64 = .ok (.if_icmp .ge 92, 3) := by decide +kernel
theorem dX9_comes_67 : decode cX9_comes 67 = .ok (.iload 6, 2) := by decide +kernel
theorem dX9_comes_69 : decode cX9_comes 69 = .ok (.ifCond .ge 87, 3) := by decide +kernel
theorem dX9_comes_72 : decode cX9_comes 72 = .ok (.aload_n 0, 1) := by decide +kernel
theorem dX9_comes_73 : decode cX9_comes 73 = .ok (.getfield 37, 3) := by decide +kernel
theorem dX9_comes_76 : decode cX9_comes 76 = .ok (.iload 7, 2) := by decide +kernel
theorem dX9_comes_78 : decode cX9_comes 78 = .ok (.baload, 1) := by decide +kernel
theorem dX9_comes_79 : decode cX9_comes 79 = .ok (.istore 8, 2) := by decide +kernel
theorem dX9_comes_81 : decode cX9_comes 81 = .ok (.iconst 0, 1) := by decide +kernel
theorem dX9_comes_82 : decode cX9_comes 82 = .ok (.istore 9, 2) := by decide +kernel
theorem dX9_comes_84 : decode cX9_comes 84 = .ok (.iload 9, 2) := by decide +kernel
theorem dX9_comes_86 : decode cX9_comes 86 = .ok (.aload_n 0, 1) := by decide +kernel
theorem dX9_comes_87 : decode cX9_comes 87 = .ok (.getfield 115, 3) := by decide +kernel
theorem dX9_comes_90 : decode cX9_comes 90 = .ok (.if_icmp .ge 46, 3) := by decide +kernel
theorem dX9_comes_93 : decode cX9_comes 93 = .ok (.iload 8, 2) := by decide +kernel
theorem dX9_comes_95 : decode cX9_comes 95 = .ok (.ifCond .eq 32, 3) := by decide +kernel
theorem dX9_comes_98 : decode cX9_comes 98 = .ok (.aload_n 0, 1) := by decide +kernel
theorem dX9_comes_99 : decode cX9_comes 99 = .ok (.getfield 25, 3) := by decide +kernel
theorem dX9_comes_102 : decode cX9_comes 102 = .ok (.iload 9, 2) := by decide +kernel
theorem dX9_comes_104 : decode cX9_comes 104 = .ok (.iaload, 1) := by decide +kernel
theorem dX9_comes_105 : decode cX9_comes 105 = .ok (.iload 7, 2) := by decide +kernel
theorem dX9_comes_107 : decode cX9_comes 107 = .ok (.if_icmp .ne 16, 3) := by decide +kernel
theorem dX9_comes_110 : decode cX9_comes 110 = .ok (.aload_n 0, 1) := by decide +kernel
theorem dX9_comes_111 : decode cX9_comes 111 = .ok (.iload 9, 2) := by decide +kernel
theorem dX9_comes_113 : decode cX9_comes 113 = .ok (.aload_n 0, 1) := by decide +kernel
theorem dX9_comes_114 : decode cX9_comes 114 = .ok (.getfield 115, 3) := by decide +kernel
theorem dX9_comes_117 : decode cX9_comes 117 = .ok (.invokevirtual 129, 3) := by decide +kernel
theorem dX9_comes_120 : decode cX9_comes 120 = .ok (.ifCond .eq 7, 3) := by decide +kernel
theorem dX9_comes_123 : decode cX9_comes 123 = .ok (.iconst 1, 1) := by decide +kernel
theorem dX9_comes_124 : decode cX9_comes 124 = .ok (.goto 4, 3) := by decide +kernel
theorem dX9_comes_127 : decode cX9_comes 127 = .ok (.iconst 0, 1) := by decide +kernel
theorem dX9_comes_128 : decode cX9_comes 128 = .ok (.istore 8, 2) := by decide +kernel
theorem dX9_comes_130 : decode cX9_comes 130 = .ok (.iinc 9 1, 3) := by decide +kernel
theorem dX9_comes_133 : decode cX9_comes 133 = .ok (.goto (-49), 3) := by decide +kernel
theorem dX9_comes_136 : decode cX9_comes 136 = .ok (.iload 8, 2) := by decide +kernel
theorem dX9_comes_138 : decode cX9_comes 138 = .ok (.ifCond .eq 8, 3) := by decide +kernel
theorem dX9_comes_141 : decode cX9_comes 141 = .ok (.iload 7, 2) := by decide +kernel
theorem dX9_comes_143 : decode cX9_comes 143 = .ok (.goto 5, 3) := by decide +kernel
theorem dX9_comes_146 : decode cX9_comes 146 = .ok (.iload 6, 2) := by decide +kernel
theorem dX9_comes_148 : decode cX9_comes 148 = .ok (.istore 6, 2) := by decide +kernel
theorem dX9_comes_150 : decode cX9_comes 150 = .ok (.iinc 7 1, 3) := by decide +kernel
theorem dX9_comes_153 : decode cX9_comes 153 = .ok (.goto (-95), 3) := by decide +kernel
theorem dX9_comes_156 : decode cX9_comes 156 = .ok (.iload 6, 2) := by decide +kernel
theorem dX9_comes_158 : decode cX9_comes 158 = .ok (.ifCond .ge 72, 3) := by decide +kernel
theorem dX9_comes_161 : decode cX9_comes 161 = .ok (.aload_n 0, 1) := by decide +kernel
theorem dX9_comes_162 : decode cX9_comes 162 = .ok (.getfield 118, 3) := by decide +kernel
theorem dX9_comes_165 : decode cX9_comes 165 = .ok (.istore 6, 2) := by decide +kernel
theorem dX9_comes_167 : decode cX9_comes 167 = .ok (.aload_n 0, 1) := by decide +kernel
theorem dX9_comes_168 : decode cX9_comes 168 = .ok (.getfield 34, 3) := by decide +kernel
theorem dX9_comes_171 : decode cX9_comes 171 = .ok (.aload_n 0, 1) := by decide +kernel
theorem dX9_comes_172 : decode cX9_comes 172 = .ok (.getfield 118, 3) := by decide +kernel
theorem dX9_comes_175 : decode cX9_comes 175 = .ok (.aload_n 0, 1) := by decide +kernel
theorem dX9_comes_176 : decode cX9_comes 176 = .ok (.getfield 115, 3) := by decide +kernel
theorem dX9_comes_179 : decode cX9_comes 179 = .ok (.iastore, 1) := by decide +kernel
theorem dX9_comes_180 : decode cX9_comes 180 = .ok (.aload_n 0, 1) := by decide +kernel
theorem dX9_comes_181 : decode cX9_comes 181 = .ok (.getfield 37, 3) := by decide +kernel
theorem dX9_comes_184 : decode cX9_comes 184 = .ok (.aload_n 0, 1) := by decide +kernel
theorem dX9_comes_185 : decode cX9_comes 185 = .ok (.getfield 118, 3) := by decide +kernel
theorem dX9_comes_188 : decode cX9_comes 188 = .ok (.iconst 1, 1) := by decide +kernel
theorem dX9_comes_189 : decode cX9_comes 189 = .ok (.bastore, 1) := by decide +kernel
theorem dX9_comes_190 : decode cX9_comes 190 = .ok (.aload_n 0, 1) := by decide +kernel
theorem dX9_comes_191 : decode cX9_comes 191 = .ok (.getfield 41, 3) := by decide +kernel
theorem dX9_comes_194 : decode cX9_comes 194 = .ok (.aload_n 0, 1) := by decide +kernel
theorem dX9_comes_195 : decode cX9_comes 195 = .ok (.getfield 118, 3) := by decide +kernel
theorem dX9_comes_198 : decode cX9_comes 198 = .ok (.iconst 0, 1) := by decide +kernel
theorem dX9_comes_199 : decode cX9_comes 199 = .ok (.iastore, 1) := by decide +kernel
theorem dX9_comes_200 : decode cX9_comes 200 = .ok (.aload_n 0, 1) := by decide +kernel
theorem dX9_comes_201 : decode cX9_comes 201 = .ok (.getfield 44, 3) := by decide +kernel
theorem dX9_comes_204 : decode cX9_comes 204 = .ok (.aload_n 0, 1) := by decide +kernel
theorem dX9_comes_205 : decode cX9_comes 205 = .ok (.getfield 118, 3) := by decide +kernel
theorem dX9_comes_208 : decode cX9_comes 208 = .ok (.iconst (-1), 1) := by decide +kernel
theorem dX9_comes_209 : decode cX9_comes 209 = .ok (.iastore, 1) := by decide +kernel
theorem dX9_comes_210 : decode cX9_comes 210 = .ok (.aload_n 0, 1) := by decide +kernel
theorem dX9_comes_211 : decode cX9_comes 211 = .ok (.getfield 50, 3) := by decide +kernel
theorem dX9_comes_214 : decode cX9_comes 214 = .ok (.aload_n 0, 1) := by decide +kernel
theorem dX9_comes_215 : decode cX9_comes 215 = .ok (.getfield 118, 3) := by decide +kernel
theorem dX9_comes_218 : decode cX9_comes 218 = .ok (.iconst 0, 1) := by decide +kernel
theorem dX9_comes_219 : decode cX9_comes 219 = .ok (.bastore, 1) := by decide +kernel
theorem dX9_comes_220 : decode cX9_comes 220 = .ok (.aload_n 0, 1) := by decide +kernel
theorem dX9_comes_221 : decode cX9_comes 221 = .ok (.dup, 1) := by decide +kernel
theorem dX9_comes_222 : decode cX9_comes 222 = .ok (.getfield 118, 3) := by decide +kernel
theorem dX9_comes_225 : decode cX9_comes 225 = .ok (.iconst 1, 1) := by decide +kernel
theorem dX9_comes_226 : decode cX9_comes 226 = .ok (.iadd, 1) := by decide +kernel
theorem dX9_comes_227 : decode cX9_comes 227 = .ok (.putfield 118, 3) := by decide +kernel
theorem dX9_comes_230 : decode cX9_comes 230 = .ok (.aload_n 0, 1) := by decide +kernel
theorem dX9_comes_231 : decode cX9_comes 231 = .ok (.getfield 25, 3) := by decide +kernel
theorem dX9_comes_234 : decode cX9_comes 234 = .ok (.aload_n 0, 1) := by decide +kernel
theorem dX9_comes_235 : decode cX9_comes 235 = .ok (.getfield 115, 3) := by decide +kernel
theorem dX9_comes_238 : decode cX9_comes 238 = .ok (.iload 6, 2) := by decide +kernel
theorem dX9_comes_240 : decode cX9_comes 240 = .ok (.iastore, 1) := by decide +kernel
theorem dX9_comes_241 : decode cX9_comes 241 = .ok (.aload_n 0, 1) := by decide +kernel
theorem dX9_comes_242 : decode cX9_comes 242 = .ok (.dup, 1) := by decide +kernel
theorem dX9_comes_243 : decode cX9_comes 243 = .ok (.getfield 115, 3) := by decide +kernel
theorem dX9_comes_246 : decode cX9_comes 246 = .ok (.iconst 1, 1) := by decide +kernel
theorem dX9_comes_247 : decode cX9_comes 247 = .ok (.iadd, 1) := by decide +kernel
theorem dX9_comes_248 : decode cX9_comes 248 = .ok (.putfield 115, 3) := by decide +kernel
theorem dX9_comes_251 : decode cX9_comes 251 = .ok (.iload 6, 2) := by decide +kernel
theorem dX9_comes_253 : decode cX9_comes 253 = .ok (.ireturn, 1) := by decide +kernel
theorem dX9_ask_0 : decode cX9_ask 0 = .ok (.iload_n 1, 1) := by decide +kernel
theorem dX9_ask_1 : decode cX9_ask 1 = .ok (.invokestatic 133, 3) := by decide +kernel
theorem dX9_ask_4 : decode cX9_ask 4 = .ok (.ifCond .eq 51, 3) := by decide +kernel
theorem dX9_ask_7 : decode cX9_ask 7 = .ok (.iload_n 2, 1) := by decide +kernel
theorem dX9_ask_8 : decode cX9_ask 8 = .ok (.iconst 0, 1) := by decide +kernel
theorem dX9_ask_9 : decode cX9_ask 9 = .ok (.bipush 31, 2) := by decide +kernel
theorem dX9_ask_11 : decode cX9_ask 11 = .ok (.invokestatic 111, 3) := by decide +kernel
theorem dX9_ask_14 : decode cX9_ask 14 = .ok (.ifCond .eq 41, 3) := by decide +kernel
theorem dX9_ask_17 : decode cX9_ask 17 = .ok (.iload_n 3, 1) := by decide +kernel
theorem dX9_ask_18 : decode cX9_ask 18 = .ok (.iconst 0, 1) := by decide +kernel
theorem dX9_ask_19 : decode cX9_ask 19 = .ok (.bipush 31, 2) := by decide +kernel
theorem dX9_ask_21 : decode cX9_ask 21 = .ok (.invokestatic 111, 3) := by decide +kernel
theorem dX9_ask_24 : decode cX9_ask 24 = .ok (.ifCond .eq 31, 3) := by decide +kernel
theorem dX9_ask_27 : decode cX9_ask 27 = .ok (.iload 4, 2) := by decide +kernel
theorem dX9_ask_29 : decode cX9_ask 29 = .ok (.iconst 0, 1) := by decide +kernel
theorem dX9_ask_30 : decode cX9_ask 30 = .ok (.bipush 9, 2) := by decide +kernel
theorem dX9_ask_32 : decode cX9_ask 32 = .ok (.invokestatic 111, 3) := by decide +kernel
theorem dX9_ask_35 : decode cX9_ask 35 = .ok (.ifCond .eq 20, 3) := by decide +kernel
theorem dX9_ask_38 : decode cX9_ask 38 = .ok (.iload 5, 2) := by decide +kernel
theorem dX9_ask_40 : decode cX9_ask 40 = .ok (.invokestatic 137, 3) := by decide +kernel
theorem dX9_ask_43 : decode cX9_ask 43 = .ok (.ifCond .eq 12, 3) := by decide +kernel
theorem dX9_ask_46 : decode cX9_ask 46 = .ok (.iload 5, 2) := by decide +kernel
theorem dX9_ask_48 : decode cX9_ask 48 = .ok (.aload_n 0, 1) := by decide +kernel
theorem dX9_ask_49 : decode cX9_ask 49 = .ok (.invokevirtual 140, 3) := by decide +kernel
theorem dX9_ask_52 : decode cX9_ask 52 = .ok (.if_icmp .ge 10, 3) := by decide +kernel
theorem dX9_ask_55 : decode cX9_ask 55 = .ok (.aload_n 0, 1) := by decide +kernel
theorem dX9_ask_56 : decode cX9_ask 56 = .ok (.ldc 144, 2) := by decide +kernel
theorem dX9_ask_58 : decode cX9_ask 58 = .ok (.invokevirtual 145, 3) := by decide +kernel
theorem dX9_ask_61 : decode cX9_ask 61 = .ok (.ireturn, 1) := by decide +kernel
theorem dX9_ask_62 : decode cX9_ask 62 = .ok (.aload_n 0, 1) := by decide +kernel
theorem dX9_ask_63 : decode cX9_ask 63 = .ok (.getfield 115, 3) := by decide +kernel
theorem dX9_ask_66 : decode cX9_ask 66 = .ok (.bipush 40, 2) := by decide +kernel
theorem dX9_ask_68 : decode cX9_ask 68 = .ok (.if_icmp .ne 10, 3) := by decide +kernel
theorem dX9_ask_71 : decode cX9_ask 71 = .ok (.aload_n 0, 1) := by decide +kernel
theorem dX9_ask_72 : decode cX9_ask 72 = .ok (.ldc 148, 2) := by decide +kernel
theorem dX9_ask_74 : decode cX9_ask 74 = .ok (.invokevirtual 145, 3) := by decide +kernel
theorem dX9_ask_77 : decode cX9_ask 77 = .ok (.ireturn, 1) := by decide +kernel
theorem dX9_ask_78 : decode cX9_ask 78 = .ok (.aload_n 0, 1) := by decide +kernel
theorem dX9_ask_79 : decode cX9_ask 79 = .ok (.iload_n 1, 1) := by decide +kernel
theorem dX9_ask_80 : decode cX9_ask 80 = .ok (.iload_n 2, 1) := by decide +kernel
theorem dX9_ask_81 : decode cX9_ask 81 = .ok (.iload_n 3, 1) := by decide +kernel
theorem dX9_ask_82 : decode cX9_ask 82 = .ok (.iload 4, 2) := by decide +kernel
theorem dX9_ask_84 : decode cX9_ask 84 = .ok (.iload 5, 2) := by decide +kernel
theorem dX9_ask_86 : decode cX9_ask 86 = .ok (.invokevirtual 149, 3) := by decide +kernel
theorem dX9_ask_89 : decode cX9_ask 89 = .ok (.ireturn, 1) := by decide +kernel
theorem dX9_marks_0 : decode cX9_marks 0 = .ok (.iload_n 1, 1) := by decide +kernel
theorem dX9_marks_1 : decode cX9_marks 1 = .ok (.invokestatic 133, 3) := by decide +kernel
theorem dX9_marks_4 : decode cX9_marks 4 = .ok (.ifCond .eq 23, 3) := by decide +kernel
theorem dX9_marks_7 : decode cX9_marks 7 = .ok (.iload_n 2, 1) := by decide +kernel
theorem dX9_marks_8 : decode cX9_marks 8 = .ok (.iconst 0, 1) := by decide +kernel
theorem dX9_marks_9 : decode cX9_marks 9 = .ok (.bipush 20, 2) := by decide +kernel
theorem dX9_marks_11 : decode cX9_marks 11 = .ok (.invokestatic 111, 3) := by decide +kernel
theorem dX9_marks_14 : decode cX9_marks 14 = .ok (.ifCond .eq 13, 3) := by decide +kernel
theorem dX9_marks_17 : decode cX9_marks 17 = .ok (.iload_n 3, 1) := by decide +kernel
theorem dX9_marks_18 : decode cX9_marks 18 = .ok (.iconst 0, 1) := by decide +kernel
theorem dX9_marks_19 : decode cX9_marks 19 = .ok (.bipush 99, 2) := by decide +kernel
theorem dX9_marks_21 : decode cX9_marks 21 = .ok (.invokestatic 111, 3) := by decide +kernel
theorem dX9_marks_24 : decode cX9_marks 24 = .ok (.ifCond .ne 10, 3) := by decide +kernel
theorem dX9_marks_27 : decode cX9_marks 27 = .ok (.aload_n 0, 1) := by decide +kernel
theorem dX9_marks_28 : decode cX9_marks 28 = .ok (.ldc 144, 2) := by decide +kernel
theorem dX9_marks_30 : decode cX9_marks 30 = .ok (.invokevirtual 145, 3) := by decide +kernel
theorem dX9_marks_33 : decode cX9_marks 33 = .ok (.ireturn, 1) := by decide +kernel
theorem dX9_marks_34 : decode cX9_marks 34 = .ok (.aload_n 0, 1) := by decide +kernel
theorem dX9_marks_35 : decode cX9_marks 35 = .ok (.getfield 28, 3) := by decide +kernel
theorem dX9_marks_38 : decode cX9_marks 38 = .ok (.iload_n 1, 1) := by decide +kernel
theorem dX9_marks_39 : decode cX9_marks 39 = .ok (.iload_n 2, 1) := by decide +kernel
theorem dX9_marks_40 : decode cX9_marks 40 = .ok (.iastore, 1) := by decide +kernel
theorem dX9_marks_41 : decode cX9_marks 41 = .ok (.aload_n 0, 1) := by decide +kernel
theorem dX9_marks_42 : decode cX9_marks 42 = .ok (.getfield 31, 3) := by decide +kernel
theorem dX9_marks_45 : decode cX9_marks 45 = .ok (.iload_n 1, 1) := by decide +kernel
theorem dX9_marks_46 : decode cX9_marks 46 = .ok (.iload_n 3, 1) := by decide +kernel
theorem dX9_marks_47 : decode cX9_marks 47 = .ok (.iastore, 1) := by decide +kernel
theorem dX9_marks_48 : decode cX9_marks 48 = .ok (.iconst 1, 1) := by decide +kernel
theorem dX9_marks_49 : decode cX9_marks 49 = .ok (.ireturn, 1) := by decide +kernel
theorem dX9_meet_0 : decode cX9_meet 0 = .ok (.aload_n 0, 1) := by decide +kernel
theorem dX9_meet_1 : decode cX9_meet 1 = .ok (.iload_n 1, 1) := by decide +kernel
theorem dX9_meet_2 : decode cX9_meet 2 = .ok (.invokevirtual 153, 3) := by decide +kernel
theorem dX9_meet_5 : decode cX9_meet 5 = .ok (.ifCond .eq 16, 3) := by decide +kernel
theorem dX9_meet_8 : decode cX9_meet 8 = .ok (.aload_n 0, 1) := by decide +kernel
theorem dX9_meet_9 : decode cX9_meet 9 = .ok (.iload_n 2, 1) := by decide +kernel
theorem dX9_meet_10 : decode cX9_meet 10 = .ok (.invokevirtual 153, 3) := by decide +kernel
theorem dX9_meet_13 : decode cX9_meet 13 = .ok (.ifCond .eq 8, 3) := by decide +kernel
theorem dX9_meet_16 : decode cX9_meet 16 = .ok (.iload_n 1, 1) := by decide +kernel
theorem dX9_meet_17 : decode cX9_meet 17 = .ok (.iload_n 2, 1) := by decide +kernel
theorem dX9_meet_18 : decode cX9_meet 18 = .ok (.if_icmp .ne 10, 3) := by decide +kernel
theorem dX9_meet_21 : decode cX9_meet 21 = .ok (.aload_n 0, 1) := by decide +kernel
theorem dX9_meet_22 : decode cX9_meet 22 = .ok (.ldc 144, 2) := by decide +kernel
theorem dX9_meet_24 : decode cX9_meet 24 = .ok (.invokevirtual 145, 3) := by decide +kernel
theorem dX9_meet_27 : decode cX9_meet 27 = .ok (.ireturn, 1) := by decide +kernel
theorem dX9_meet_28 : decode cX9_meet 28 = .ok (.aload_n 0, 1) := by decide +kernel
theorem dX9_meet_29 : decode cX9_meet 29 = .ok (.iload_n 1, 1) := by decide +kernel
theorem dX9_meet_30 : decode cX9_meet 30 = .ok (.iload_n 2, 1) := by decide +kernel
theorem dX9_meet_31 : decode cX9_meet 31 = .ok (.invokevirtual 129, 3) := by decide +kernel
theorem dX9_meet_34 : decode cX9_meet 34 = .ok (.ifCond .eq 7, 3) := by decide +kernel
theorem dX9_meet_37 : decode cX9_meet 37 = .ok (.iconst 1, 1) := by decide +kernel
theorem dX9_meet_38 : decode cX9_meet 38 = .ok (.goto 4, 3) := by decide +kernel
theorem dX9_meet_41 : decode cX9_meet 41 = .ok (.iconst 0, 1) := by decide +kernel
theorem dX9_meet_42 : decode cX9_meet 42 = .ok (.ireturn, 1) := by decide +kernel
theorem dX9_of_0 : decode cX9_of 0 = .ok (.aload_n 0, 1) := by decide +kernel
theorem dX9_of_1 : decode cX9_of 1 = .ok (.iload_n 1, 1) := by decide +kernel
theorem dX9_of_2 : decode cX9_of 2 = .ok (.invokevirtual 153, 3) := by decide +kernel
theorem dX9_of_5 : decode cX9_of 5 = .ok (.ifCond .eq 13, 3) := by decide +kernel
theorem dX9_of_8 : decode cX9_of 8 = .ok (.iload_n 2, 1) := by decide +kernel
theorem dX9_of_9 : decode cX9_of 9 = .ok (.iconst 0, 1) := by decide +kernel
theorem dX9_of_10 : decode cX9_of 10 = .ok (.bipush 6, 2) := by decide +kernel
theorem dX9_of_12 : decode cX9_of 12 = .ok (.invokestatic 111, 3) := by decide +kernel
theorem dX9_of_15 : decode cX9_of 15 = .ok (.ifCond .ne 10, 3) := by decide +kernel
theorem dX9_of_18 : decode cX9_of 18 = .ok (.aload_n 0, 1) := by decide +kernel
theorem dX9_of_19 : decode cX9_of 19 = .ok (.ldc 144, 2) := by decide +kernel
theorem dX9_of_21 : decode cX9_of 21 = .ok (.invokevirtual 145, 3) := by decide +kernel
theorem dX9_of_24 : decode cX9_of 24 = .ok (.ireturn, 1) := by decide +kernel
theorem dX9_of_25 : decode cX9_of 25 = .ok (.iload_n 2, 1) := by decide +kernel
theorem dX9_of_26 : decode cX9_of 26 = .ok (.tableswitch 80 0 5 #[38, 45, 52, 59, 66, 73], 38) := by decide +kernel
theorem dX9_of_64 : decode cX9_of 64 = .ok (.aload_n 0, 1) := by decide +kernel
theorem dX9_of_65 : decode cX9_of 65 = .ok (.getfield 7, 3) := by decide +kernel
theorem dX9_of_68 : decode cX9_of 68 = .ok (.iload_n 1, 1) := by decide +kernel
theorem dX9_of_69 : decode cX9_of 69 = .ok (.iaload, 1) := by decide +kernel
theorem dX9_of_70 : decode cX9_of 70 = .ok (.ireturn, 1) := by decide +kernel
theorem dX9_of_71 : decode cX9_of 71 = .ok (.aload_n 0, 1) := by decide +kernel
theorem dX9_of_72 : decode cX9_of 72 = .ok (.getfield 13, 3) := by decide +kernel
theorem dX9_of_75 : decode cX9_of 75 = .ok (.iload_n 1, 1) := by decide +kernel
theorem dX9_of_76 : decode cX9_of 76 = .ok (.iaload, 1) := by decide +kernel
theorem dX9_of_77 : decode cX9_of 77 = .ok (.ireturn, 1) := by decide +kernel
theorem dX9_of_78 : decode cX9_of 78 = .ok (.aload_n 0, 1) := by decide +kernel
theorem dX9_of_79 : decode cX9_of 79 = .ok (.getfield 16, 3) := by decide +kernel
theorem dX9_of_82 : decode cX9_of 82 = .ok (.iload_n 1, 1) := by decide +kernel
theorem dX9_of_83 : decode cX9_of 83 = .ok (.iaload, 1) := by decide +kernel
theorem dX9_of_84 : decode cX9_of 84 = .ok (.ireturn, 1) := by decide +kernel
theorem dX9_of_85 : decode cX9_of 85 = .ok (.aload_n 0, 1) := by decide +kernel
theorem dX9_of_86 : decode cX9_of 86 = .ok (.getfield 19, 3) := by decide +kernel
theorem dX9_of_89 : decode cX9_of 89 = .ok (.iload_n 1, 1) := by decide +kernel
theorem dX9_of_90 : decode cX9_of 90 = .ok (.iaload, 1) := by decide +kernel
theorem dX9_of_91 : decode cX9_of 91 = .ok (.ireturn, 1) := by decide +kernel
theorem dX9_of_92 : decode cX9_of 92 = .ok (.aload_n 0, 1) := by decide +kernel
theorem dX9_of_93 : decode cX9_of 93 = .ok (.getfield 22, 3) := by decide +kernel
theorem dX9_of_96 : decode cX9_of 96 = .ok (.iload_n 1, 1) := by decide +kernel
theorem dX9_of_97 : decode cX9_of 97 = .ok (.iaload, 1) := by decide +kernel
theorem dX9_of_98 : decode cX9_of 98 = .ok (.ireturn, 1) := by decide +kernel
theorem dX9_of_99 : decode cX9_of 99 = .ok (.aload_n 0, 1) := by decide +kernel
theorem dX9_of_100 : decode cX9_of 100 = .ok (.getfield 25, 3) := by decide +kernel
theorem dX9_of_103 : decode cX9_of 103 = .ok (.iload_n 1, 1) := by decide +kernel
theorem dX9_of_104 : decode cX9_of 104 = .ok (.iaload, 1) := by decide +kernel
theorem dX9_of_105 : decode cX9_of 105 = .ok (.ireturn, 1) := by decide +kernel
theorem dX9_of_106 : decode cX9_of 106 = .ok (.aload_n 0, 1) := by decide +kernel
theorem dX9_of_107 : decode cX9_of 107 = .ok (.getfield 13, 3) := by decide +kernel
theorem dX9_of_110 : decode cX9_of 110 = .ok (.iload_n 1, 1) := by decide +kernel
theorem dX9_of_111 : decode cX9_of 111 = .ok (.iaload, 1) := by decide +kernel
theorem dX9_of_112 : decode cX9_of 112 = .ok (.aload_n 0, 1) := by decide +kernel
theorem dX9_of_113 : decode cX9_of 113 = .ok (.getfield 16, 3) := by decide +kernel
theorem dX9_of_116 : decode cX9_of 116 = .ok (.iload_n 1, 1) := by decide +kernel
theorem dX9_of_117 : decode cX9_of 117 = .ok (.iaload, 1) := by decide +kernel
theorem dX9_of_118 : decode cX9_of 118 = .ok (.invokestatic 156, 3) := by decide +kernel
theorem dX9_of_121 : decode cX9_of 121 = .ok (.ireturn, 1) := by decide +kernel
theorem dX9_as_0 : decode cX9_as 0 = .ok (.aload_n 0, 1) := by decide +kernel
theorem dX9_as_1 : decode cX9_as 1 = .ok (.iload_n 1, 1) := by decide +kernel
theorem dX9_as_2 : decode cX9_as 2 = .ok (.invokevirtual 153, 3) := by decide +kernel
theorem dX9_as_5 : decode cX9_as 5 = .ok (.ifCond .eq 10, 3) := by decide +kernel
theorem dX9_as_8 : decode cX9_as 8 = .ok (.iload_n 2, 1) := by decide +kernel
theorem dX9_as_9 : decode cX9_as 9 = .ok (.invokestatic 133, 3) := by decide +kernel
theorem dX9_as_12 : decode cX9_as 12 = .ok (.ifCond .ne 10, 3) := by decide +kernel
theorem dX9_as_15 : decode cX9_as 15 = .ok (.aload_n 0, 1) := by decide +kernel
theorem dX9_as_16 : decode cX9_as 16 = .ok (.ldc 144, 2) := by decide +kernel
theorem dX9_as_18 : decode cX9_as 18 = .ok (.invokevirtual 145, 3) := by decide +kernel
theorem dX9_as_21 : decode cX9_as 21 = .ok (.ireturn, 1) := by decide +kernel
theorem dX9_as_22 : decode cX9_as 22 = .ok (.aload_n 0, 1) := by decide +kernel
theorem dX9_as_23 : decode cX9_as 23 = .ok (.getfield 7, 3) := by decide +kernel
theorem dX9_as_26 : decode cX9_as 26 = .ok (.iload_n 1, 1) := by decide +kernel
theorem dX9_as_27 : decode cX9_as 27 = .ok (.iaload, 1) := by decide +kernel
theorem dX9_as_28 : decode cX9_as 28 = .ok (.iload_n 2, 1) := by decide +kernel
theorem dX9_as_29 : decode cX9_as 29 = .ok (.invokestatic 159, 3) := by decide +kernel
theorem dX9_as_32 : decode cX9_as 32 = .ok (.ifCond .eq 12, 3) := by decide +kernel
theorem dX9_as_35 : decode cX9_as 35 = .ok (.aload_n 0, 1) := by decide +kernel
theorem dX9_as_36 : decode cX9_as 36 = .ok (.getfield 25, 3) := by decide +kernel
theorem dX9_as_39 : decode cX9_as 39 = .ok (.iload_n 1, 1) := by decide +kernel
theorem dX9_as_40 : decode cX9_as 40 = .ok (.iaload, 1) := by decide +kernel
theorem dX9_as_41 : decode cX9_as 41 = .ok (.goto 9, 3) := by decide +kernel
theorem dX9_as_44 : decode cX9_as 44 = .ok (.aload_n 0, 1) := by decide +kernel
theorem dX9_as_45 : decode cX9_as 45 = .ok (.ldc 162, 2) := by decide +kernel
theorem dX9_as_47 : decode cX9_as 47 = .ok (.invokevirtual 145, 3) := by decide +kernel
theorem dX9_as_50 : decode cX9_as 50 = .ok (.ireturn, 1) := by decide +kernel
theorem dX9_fewest_0 : decode cX9_fewest 0 = .ok (.iload_n 1, 1) := by decide +kernel
theorem dX9_fewest_1 : decode cX9_fewest 1 = .ok (.ifCond .lt 25, 3) := by decide +kernel
theorem dX9_fewest_4 : decode cX9_fewest 4 = .ok (.iload_n 2, 1) := by decide +kernel
theorem dX9_fewest_5 : decode cX9_fewest 5 = .ok (.ifCond .lt 21, 3) := by decide +kernel
theorem dX9_fewest_8 : decode cX9_fewest 8 = .ok (.iload_n 2, 1) := by decide +kernel
theorem dX9_fewest_9 : decode cX9_fewest 9 = .ok (.aload_n 0, 1) := by decide +kernel
theorem dX9_fewest_10 : decode cX9_fewest 10 = .ok (.getfield 115, 3) := by decide +kernel
theorem dX9_fewest_13 : decode cX9_fewest 13 = .ok (.if_icmp .gt 13, 3) := by decide +kernel
theorem dX9_fewest_16 : decode cX9_fewest 16 = .ok (.iload_n 1, 1) := by decide +kernel
theorem dX9_fewest_17 : decode cX9_fewest 17 = .ok (.aload_n 0, 1) := by decide +kernel
theorem dX9_fewest_18 : decode cX9_fewest 18 = .ok (.getfield 115, 3) := by decide +kernel
theorem dX9_fewest_21 : decode cX9_fewest 21 = .ok (.iload_n 2, 1) := by decide +kernel
theorem dX9_fewest_22 : decode cX9_fewest 22 = .ok (.isub, 1) := by decide +kernel
theorem dX9_fewest_23 : decode cX9_fewest 23 = .ok (.if_icmp .le 10, 3) := by decide +kernel
theorem dX9_fewest_26 : decode cX9_fewest 26 = .ok (.aload_n 0, 1) := by decide +kernel
theorem dX9_fewest_27 : decode cX9_fewest 27 = .ok (.ldc 144, 2) := by decide +kernel
theorem dX9_fewest_29 : decode cX9_fewest 29 = .ok (.invokevirtual 145, 3) := by decide +kernel
theorem dX9_fewest_32 : decode cX9_fewest 32 = .ok (.ireturn, 1) := by decide +kernel
theorem dX9_fewest_33 : decode cX9_fewest 33 = .ok (.iload_n 2, 1) := by decide +kernel
theorem dX9_fewest_34 : decode cX9_fewest 34 = .ok (.bipush 12, 2) := by decide +kernel
theorem dX9_fewest_36 : decode cX9_fewest 36 = .ok (.if_icmp .le 10, 3) := by decide +kernel
theorem dX9_fewest_39 : decode cX9_fewest 39 = .ok (.aload_n 0, 1) := by decide +kernel
theorem dX9_fewest_40 : decode cX9_fewest 40 = .ok (.ldc 163, 2) := by decide +kernel
theorem dX9_fewest_42 : decode cX9_fewest 42 = .ok (.invokevirtual 145, 3) := by decide +kernel
theorem dX9_fewest_45 : decode cX9_fewest 45 = .ok (.ireturn, 1) := by decide +kernel
theorem dX9_fewest_46 : decode cX9_fewest 46 = .ok (.iconst 0, 1) := by decide +kernel
theorem dX9_fewest_47 : decode cX9_fewest 47 = .ok (.istore_n 3, 1) := by decide +kernel
theorem dX9_fewest_48 : decode cX9_fewest 48 = .ok (.iload_n 3, 1) := by decide +kernel
theorem dX9_fewest_49 : decode cX9_fewest 49 = .ok (.iload_n 2, 1) := by decide +kernel
theorem dX9_fewest_50 : decode cX9_fewest 50 = .ok (.if_icmp .ge 70, 3) := by decide +kernel
theorem dX9_fewest_53 : decode cX9_fewest 53 = .ok (.aload_n 0, 1) := by decide +kernel
theorem dX9_fewest_54 : decode cX9_fewest 54 = .ok (.getfield 92, 3) := by decide +kernel
theorem dX9_fewest_57 : decode cX9_fewest 57 = .ok (.iload_n 3, 1) := by decide +kernel
theorem dX9_fewest_58 : decode cX9_fewest 58 = .ok (.iconst 1, 1) := by decide +kernel
theorem dX9_fewest_59 : decode cX9_fewest 59 = .ok (.iload_n 3, 1) := by decide +kernel
theorem dX9_fewest_60 : decode cX9_fewest 60 = .ok (.ishl, 1) := by decide +kernel
theorem dX9_fewest_61 : decode cX9_fewest 61 = .ok (.iastore, 1) := by decide +kernel
theorem dX9_fewest_62 : decode cX9_fewest 62 = .ok (.iconst 0, 1) := by decide +kernel
theorem dX9_fewest_63 : decode cX9_fewest 63 = .ok (.istore 4, 2) := by decide +kernel
theorem dX9_fewest_65 : decode cX9_fewest 65 = .ok (.iload 4, 2) := by decide +kernel
theorem dX9_fewest_67 : decode cX9_fewest 67 = .ok (.iload_n 2, 1) := by decide +kernel
theorem dX9_fewest_68 : decode cX9_fewest 68 = .ok (.if_icmp .ge 46, 3) := by decide +kernel
theorem dX9_fewest_71 : decode cX9_fewest 71 = .ok (.aload_n 0, 1) := by decide +kernel
theorem dX9_fewest_72 : decode cX9_fewest 72 = .ok (.getfield 92, 3) := by decide +kernel
theorem dX9_fewest_75 : decode cX9_fewest 75 = .ok (.iload_n 3, 1) := by decide +kernel
theorem dX9_fewest_76 : decode cX9_fewest 76 = .ok (.dup2, 1) := by decide +kernel
theorem dX9_fewest_77 : decode cX9_fewest 77 = .ok (.iaload, 1) := by decide +kernel
theorem dX9_fewest_78 : decode cX9_fewest 78 = .ok (.iload_n 3, 1) := by decide +kernel
theorem dX9_fewest_79 : decode cX9_fewest 79 = .ok (.iload 4, 2) := by decide +kernel
theorem dX9_fewest_81 : decode cX9_fewest 81 = .ok (.if_icmp .eq 24, 3) := by decide +kernel
theorem dX9_fewest_84 : decode cX9_fewest 84 = .ok (.aload_n 0, 1) := by decide +kernel
theorem dX9_fewest_85 : decode cX9_fewest 85 = .ok (.iload_n 1, 1) := by decide +kernel
theorem dX9_fewest_86 : decode cX9_fewest 86 = .ok (.iload_n 3, 1) := by decide +kernel
theorem dX9_fewest_87 : decode cX9_fewest 87 = .ok (.iadd, 1) := by decide +kernel
theorem dX9_fewest_88 : decode cX9_fewest 88 = .ok (.iload_n 1, 1) := by decide +kernel
theorem dX9_fewest_89 : decode cX9_fewest 89 = .ok (.iload 4, 2) := by decide +kernel
theorem dX9_fewest_91 : decode cX9_fewest 91 = .ok (.iadd, 1) := by decide +kernel
theorem dX9_fewest_92 : decode cX9_fewest 92 = .ok (.invokevirtual 129, 3) := by decide +kernel
theorem dX9_fewest_95 : decode cX9_fewest 95 = .ok (.ifCond .eq 10, 3) := by decide +kernel
theorem dX9_fewest_98 : decode cX9_fewest 98 = .ok (.iconst 1, 1) := by decide +kernel
theorem dX9_fewest_99 : decode cX9_fewest 99 = .ok (.iload 4, 2) := by decide +kernel
theorem dX9_fewest_101 : decode cX9_fewest 101 = .ok (.ishl, 1) := by decide +kernel
theorem dX9_fewest_102 : decode cX9_fewest 102 = .ok (.goto 4, 3) := by decide +kernel
theorem dX9_fewest_105 : decode cX9_fewest 105 = .ok (.iconst 0, 1) := by decide +kernel
theorem dX9_fewest_106 : decode cX9_fewest 106 = .ok (.ior, 1) := by decide +kernel
theorem dX9_fewest_107 : decode cX9_fewest 107 = .ok (.iastore, 1) := by decide +kernel
theorem dX9_fewest_108 : decode cX9_fewest 108 = .ok (.iinc 4 1, 3) := by decide +kernel
theorem dX9_fewest_111 : decode cX9_fewest 111 = .ok (.goto (-46), 3) := by decide +kernel
theorem dX9_fewest_114 : decode cX9_fewest 114 = .ok (.iinc 3 1, 3) := by decide +kernel
theorem dX9_fewest_117 : decode cX9_fewest 117 = .ok (.goto (-69), 3) := by decide +kernel
theorem dX9_fewest_120 : decode cX9_fewest 120 = .ok (.aload_n 0, 1) := by decide +kernel
theorem dX9_fewest_121 : decode cX9_fewest 121 = .ok (.getfield 86, 3) := by decide +kernel
theorem dX9_fewest_124 : decode cX9_fewest 124 = .ok (.iconst 0, 1) := by decide +kernel
theorem dX9_fewest_125 : decode cX9_fewest 125 = .ok (.iconst 1, 1) := by decide +kernel
theorem dX9_fewest_126 : decode cX9_fewest 126 = .ok (.bastore, 1) := by decide +kernel
theorem dX9_fewest_127 : decode cX9_fewest 127 = .ok (.aload_n 0, 1) := by decide +kernel
theorem dX9_fewest_128 : decode cX9_fewest 128 = .ok (.getfield 89, 3) := by decide +kernel
theorem dX9_fewest_131 : decode cX9_fewest 131 = .ok (.iconst 0, 1) := by decide +kernel
theorem dX9_fewest_132 : decode cX9_fewest 132 = .ok (.iconst 0, 1) := by decide +kernel
theorem dX9_fewest_133 : decode cX9_fewest 133 = .ok (.iastore, 1) := by decide +kernel
theorem dX9_fewest_134 : decode cX9_fewest 134 = .ok (.iconst 1, 1) := by decide +kernel
theorem dX9_fewest_135 : decode cX9_fewest 135 = .ok (.istore_n 3, 1) := by decide +kernel
theorem dX9_fewest_136 : decode cX9_fewest 136 = .ok (.iload_n 3, 1) := by decide +kernel
theorem dX9_fewest_137 : decode cX9_fewest 137 = .ok (.iconst 1, 1) := by decide +kernel
theorem dX9_fewest_138 : decode cX9_fewest 138 = .ok (.iload_n 2, 1) := by decide +kernel
theorem dX9_fewest_139 : decode cX9_fewest 139 = .ok (.ishl, 1) := by decide +kernel
theorem dX9_fewest_140 : decode cX9_fewest 140 = .ok (.if_icmp .ge 171, 3) := by decide +kernel
theorem dX9_fewest_143 : decode cX9_fewest 143 = .ok (.iconst 0, 1) := by decide +kernel
theorem dX9_fewest_144 : decode cX9_fewest 144 = .ok (.istore 4, 2) := by decide +kernel
theorem dX9_fewest_146 : decode cX9_fewest 146 = .ok (.iload_n 3, 1) := by decide +kernel
theorem dX9_fewest_147 : decode cX9_fewest 147 = .ok (.iload 4, 2) := by decide +kernel
theorem dX9_fewest_149 : decode cX9_fewest 149 = .ok (.ishr, 1) := by decide +kernel
theorem dX9_fewest_150 : decode cX9_fewest 150 = .ok (.iconst 1, 1) := by decide +kernel
theorem dX9_fewest_151 : decode cX9_fewest 151 = .ok (.iand, 1) := by decide +kernel
theorem dX9_fewest_152 : decode cX9_fewest 152 = .ok (.ifCond .ne 9, 3) := by decide +kernel
theorem dX9_fewest_155 : decode cX9_fewest 155 = .ok (.iinc 4 1, 3) := by decide +kernel
theorem dX9_fewest_158 : decode cX9_fewest 158 = .ok (.goto (-12), 3) := by decide +kernel
theorem dX9_fewest_161 : decode cX9_fewest 161 = .ok (.iload_n 3, 1) := by decide +kernel
theorem dX9_fewest_162 : decode cX9_fewest 162 = .ok (.iconst 1, 1) := by decide +kernel
theorem dX9_fewest_163 : decode cX9_fewest 163 = .ok (.iload 4, 2) := by decide +kernel
theorem dX9_fewest_165 : decode cX9_fewest 165 = .ok (.ishl, 1) := by decide +kernel
theorem dX9_fewest_166 : decode cX9_fewest 166 = .ok (.iconst (-1), 1) := by decide +kernel
theorem dX9_fewest_167 : decode cX9_fewest 167 = .ok (.ixor, 1) := by decide +kernel
theorem dX9_fewest_168 : decode cX9_fewest 168 = .ok (.iand, 1) := by decide +kernel
theorem dX9_fewest_169 : decode cX9_fewest 169 = .ok (.istore 5, 2) := by decide +kernel
theorem dX9_fewest_171 : decode cX9_fewest 171 = .ok (.aload_n 0, 1) := by decide +kernel
theorem dX9_fewest_172 : decode cX9_fewest 172 = .ok (.getfield 86, 3) := by decide +kernel
theorem dX9_fewest_175 : decode cX9_fewest 175 = .ok (.iload_n 3, 1) := by decide +kernel
theorem dX9_fewest_176 : decode cX9_fewest 176 = .ok (.aload_n 0, 1) := by decide +kernel
theorem dX9_fewest_177 : decode cX9_fewest 177 = .ok (.getfield 86, 3) := by decide +kernel
theorem dX9_fewest_180 : decode cX9_fewest 180 = .ok (.iload 5, 2) := by decide +kernel
theorem dX9_fewest_182 : decode cX9_fewest 182 = .ok (.baload, 1) := by decide +kernel
theorem dX9_fewest_183 : decode cX9_fewest 183 = .ok (.ifCond .eq 22, 3) := by decide +kernel
theorem dX9_fewest_186 : decode cX9_fewest 186 = .ok (.iload 5, 2) := by decide +kernel
theorem dX9_fewest_188 : decode cX9_fewest 188 = .ok (.aload_n 0, 1) := by decide +kernel
theorem dX9_fewest_189 : decode cX9_fewest 189 = .ok (.getfield 92, 3) := by decide +kernel
theorem dX9_fewest_192 : decode cX9_fewest 192 = .ok (.iload 4, 2) := by decide +kernel
theorem dX9_fewest_194 : decode cX9_fewest 194 = .ok (.iaload, 1) := by decide +kernel
theorem dX9_fewest_195 : decode cX9_fewest 195 = .ok (.iconst (-1), 1) := by decide +kernel
theorem dX9_fewest_196 : decode cX9_fewest 196 = .ok (.ixor, 1) := by decide +kernel
theorem dX9_fewest_197 : decode cX9_fewest 197 = .ok (.iand, 1) := by decide +kernel
theorem dX9_fewest_198 : decode cX9_fewest 198 = .ok (.ifCond .ne 7, 3) := by decide +kernel
theorem dX9_fewest_201 : decode cX9_fewest 201 = .ok (.iconst 1, 1) := by decide +kernel
theorem dX9_fewest_202 : decode cX9_fewest 202 = .ok (.goto 4, 3) := by decide +kernel
theorem dX9_fewest_205 : decode cX9_fewest 205 = .ok (.iconst 0, 1) := by decide +kernel
theorem dX9_fewest_206 : decode cX9_fewest 206 = .ok (.bastore, 1) := by decide +kernel
theorem dX9_fewest_207 : decode cX9_fewest 207 = .ok (.bipush 100, 2) := by decide +kernel
theorem dX9_fewest_209 : decode cX9_fewest 209 = .ok (.istore 6, 2) := by decide +kernel
theorem dX9_fewest_211 : decode cX9_fewest 211 = .ok (.iload 5, 2) := by decide +kernel
theorem dX9_fewest_213 : decode cX9_fewest 213 = .ok (.istore 7, 2) := by decide +kernel
theorem dX9_fewest_215 : decode cX9_fewest 215 = .ok (.iconst 1, 1) := by decide +kernel
theorem dX9_fewest_216 : decode cX9_fewest 216 = .ok (.istore 8, 2) := by decide +kernel
theorem dX9_fewest_218 : decode cX9_fewest 218 = .ok (.iload 8, 2) := by decide +kernel
theorem dX9_fewest_220 : decode cX9_fewest 220 = .ok (.ifCond .eq 77, 3) := by decide +kernel
theorem dX9_fewest_223 : decode cX9_fewest 223 = .ok (.iload 7, 2) := by decide +kernel
theorem dX9_fewest_225 : decode cX9_fewest 225 = .ok (.iconst 1, 1) := by decide +kernel
theorem dX9_fewest_226 : decode cX9_fewest 226 = .ok (.iload 4, 2) := by decide +kernel
theorem dX9_fewest_228 : decode cX9_fewest 228 = .ok (.ishl, 1) := by decide +kernel
theorem dX9_fewest_229 : decode cX9_fewest 229 = .ok (.ior, 1) := by decide +kernel
theorem dX9_fewest_230 : decode cX9_fewest 230 = .ok (.istore 9, 2) := by decide +kernel
theorem dX9_fewest_232 : decode cX9_fewest 232 = .ok (.iconst 1, 1) := by decide +kernel
theorem dX9_fewest_233 : decode cX9_fewest 233 = .ok (.aload_n 0, 1) := by decide +kernel
theorem dX9_fewest_234 : decode cX9_fewest 234 = .ok (.getfield 89, 3) := by decide +kernel
theorem dX9_fewest_237 : decode cX9_fewest 237 = .ok (.iload_n 3, 1) := by decide +kernel
theorem dX9_fewest_238 : decode cX9_fewest 238 = .ok (.iload 9, 2) := by decide +kernel
theorem dX9_fewest_240 : decode cX9_fewest 240 = .ok (.iconst (-1), 1) := by decide +kernel
theorem dX9_fewest_241 : decode cX9_fewest 241 = .ok (.ixor, 1) := by decide +kernel
theorem dX9_fewest_242 : decode cX9_fewest 242 = .ok (.iand, 1) := by decide +kernel
theorem dX9_fewest_243 : decode cX9_fewest 243 = .ok (.iaload, 1) := by decide +kernel
theorem dX9_fewest_244 : decode cX9_fewest 244 = .ok (.iadd, 1) := by decide +kernel
theorem dX9_fewest_245 : decode cX9_fewest 245 = .ok (.istore 10, 2) := by decide +kernel
theorem dX9_fewest_247 : decode cX9_fewest 247 = .ok (.aload_n 0, 1) := by decide +kernel
theorem dX9_fewest_248 : decode cX9_fewest 248 = .ok (.getfield 86, 3) := by decide +kernel
theorem dX9_fewest_251 : decode cX9_fewest 251 = .ok (.iload 9, 2) := by decide +kernel
theorem dX9_fewest_253 : decode cX9_fewest 253 = .ok (.baload, 1) := by decide +kernel
theorem dX9_fewest_254 : decode cX9_fewest 254 = .ok (.ifCond .eq 15, 3) := by decide +kernel
theorem dX9_fewest_257 : decode cX9_fewest 257 = .ok (.iload 10, 2) := by decide +kernel
theorem dX9_fewest_259 : decode cX9_fewest 259 = .ok (.iload 6, 2) := by decide +kernel
theorem dX9_fewest_261 : decode cX9_fewest 261 = .ok (.if_icmp .ge 8, 3) := by decide +kernel
theorem dX9_fewest_264 : decode cX9_fewest 264 = .ok (.iload 10, 2) := by decide +kernel
theorem dX9_fewest_266 : decode cX9_fewest 266 = .ok (.goto 5, 3) := by decide +kernel
theorem dX9_fewest_269 : decode cX9_fewest 269 = .ok (.iload 6, 2) := by decide +kernel
theorem dX9_fewest_271 : decode cX9_fewest 271 = .ok (.istore 6, 2) := by decide +kernel
theorem dX9_fewest_273 : decode cX9_fewest 273 = .ok (.iload 7, 2) := by decide +kernel
theorem dX9_fewest_275 : decode cX9_fewest 275 = .ok (.ifCond .eq 7, 3) := by decide +kernel
theorem dX9_fewest_278 : decode cX9_fewest 278 = .ok (.iconst 1, 1) := by decide +kernel
theorem dX9_fewest_279 : decode cX9_fewest 279 = .ok (.goto 4, 3) := by decide +kernel
theorem dX9_fewest_282 : decode cX9_fewest 282 = .ok (.iconst 0, 1) := by decide +kernel
theorem dX9_fewest_283 : decode cX9_fewest 283 = .ok (.istore 8, 2) := by decide +kernel
theorem dX9_fewest_285 : decode cX9_fewest 285 = .ok (.iload 7, 2) := by decide +kernel
theorem dX9_fewest_287 : decode cX9_fewest 287 = .ok (.iconst 1, 1) := by decide +kernel
theorem dX9_fewest_288 : decode cX9_fewest 288 = .ok (.isub, 1) := by decide +kernel
theorem dX9_fewest_289 : decode cX9_fewest 289 = .ok (.iload 5, 2) := by decide +kernel
theorem dX9_fewest_291 : decode cX9_fewest 291 = .ok (.iand, 1) := by decide +kernel
theorem dX9_fewest_292 : decode cX9_fewest 292 = .ok (.istore 7, 2) := by decide +kernel
theorem dX9_fewest_294 : decode cX9_fewest 294 = .ok (.goto (-76), 3) := by decide +kernel
theorem dX9_fewest_297 : decode cX9_fewest 297 = .ok (.aload_n 0, 1) := by decide +kernel
theorem dX9_fewest_298 : decode cX9_fewest 298 = .ok (.getfield 89, 3) := by decide +kernel
theorem dX9_fewest_301 : decode cX9_fewest 301 = .ok (.iload_n 3, 1) := by decide +kernel
theorem dX9_fewest_302 : decode cX9_fewest 302 = .ok (.iload 6, 2) := by decide +kernel
theorem dX9_fewest_304 : decode cX9_fewest 304 = .ok (.iastore, 1) := by decide +kernel
theorem dX9_fewest_305 : decode cX9_fewest 305 = .ok (.iinc 3 1, 3) := by decide +kernel
theorem dX9_fewest_308 : decode cX9_fewest 308 = .ok (.goto (-172), 3) := by decide +kernel
theorem dX9_fewest_311 : decode cX9_fewest 311 = .ok (.aload_n 0, 1) := by decide +kernel
theorem dX9_fewest_312 : decode cX9_fewest 312 = .ok (.getfield 89, 3) := by decide +kernel
theorem dX9_fewest_315 : decode cX9_fewest 315 = .ok (.iconst 1, 1) := by decide +kernel
theorem dX9_fewest_316 : decode cX9_fewest 316 = .ok (.iload_n 2, 1) := by decide +kernel
theorem dX9_fewest_317 : decode cX9_fewest 317 = .ok (.ishl, 1) := by decide +kernel
theorem dX9_fewest_318 : decode cX9_fewest 318 = .ok (.iconst 1, 1) := by decide +kernel
theorem dX9_fewest_319 : decode cX9_fewest 319 = .ok (.isub, 1) := by decide +kernel
theorem dX9_fewest_320 : decode cX9_fewest 320 = .ok (.iaload, 1) := by decide +kernel
theorem dX9_fewest_321 : decode cX9_fewest 321 = .ok (.ireturn, 1) := by decide +kernel
theorem dX9_asksOf_0 : decode cX9_asksOf 0 = .ok (.iconst 0, 1) := by decide +kernel
theorem dX9_asksOf_1 : decode cX9_asksOf 1 = .ok (.istore_n 2, 1) := by decide +kernel
theorem dX9_asksOf_2 : decode cX9_asksOf 2 = .ok (.iconst 0, 1) := by decide +kernel
theorem dX9_asksOf_3 : decode cX9_asksOf 3 = .ok (.istore_n 3, 1) := by decide +kernel
theorem dX9_asksOf_4 : decode cX9_asksOf 4 = .ok (.iload_n 3, 1) := by decide +kernel
theorem dX9_asksOf_5 : decode cX9_asksOf 5 = .ok (.aload_n 0, 1) := by decide +kernel
theorem dX9_asksOf_6 : decode cX9_asksOf 6 = .ok (.getfield 115, 3) := by decide +kernel
theorem dX9_asksOf_9 : decode cX9_asksOf 9 = .ok (.if_icmp .ge 27, 3) := by decide +kernel
theorem dX9_asksOf_12 : decode cX9_asksOf 12 = .ok (.iload_n 2, 1) := by decide +kernel
theorem dX9_asksOf_13 : decode cX9_asksOf 13 = .ok (.aload_n 0, 1) := by decide +kernel
theorem dX9_asksOf_14 : decode cX9_asksOf 14 = .ok (.getfield 25, 3) := by decide +kernel
theorem dX9_asksOf_17 : decode cX9_asksOf 17 = .ok (.iload_n 3, 1) := by decide +kernel
theorem dX9_asksOf_18 : decode cX9_asksOf 18 = .ok (.iaload, 1) := by decide +kernel
theorem dX9_asksOf_19 : decode cX9_asksOf 19 = .ok (.iload_n 1, 1) := by decide +kernel
theorem dX9_asksOf_20 : decode cX9_asksOf 20 = .ok (.if_icmp .ne 7, 3) := by decide +kernel
theorem dX9_asksOf_23 : decode cX9_asksOf 23 = .ok (.iconst 1, 1) := by decide +kernel
theorem dX9_asksOf_24 : decode cX9_asksOf 24 = .ok (.goto 4, 3) := by decide +kernel
theorem dX9_asksOf_27 : decode cX9_asksOf 27 = .ok (.iconst 0, 1) := by decide +kernel
theorem dX9_asksOf_28 : decode cX9_asksOf 28 = .ok (.iadd, 1) := by decide +kernel
theorem dX9_asksOf_29 : decode cX9_asksOf 29 = .ok (.istore_n 2, 1) := by decide +kernel
theorem dX9_asksOf_30 : decode cX9_asksOf 30 = .ok (.iinc 3 1, 3) := by decide +kernel
theorem dX9_asksOf_33 : decode cX9_asksOf 33 = .ok (.goto (-29), 3) := by decide +kernel
theorem dX9_asksOf_36 : decode cX9_asksOf 36 = .ok (.iload_n 2, 1) := by decide +kernel
theorem dX9_asksOf_37 : decode cX9_asksOf 37 = .ok (.ireturn, 1) := by decide +kernel
theorem dX9_thing_0 : decode cX9_thing 0 = .ok (.aload_n 0, 1) := by decide +kernel
theorem dX9_thing_1 : decode cX9_thing 1 = .ok (.iload_n 1, 1) := by decide +kernel
theorem dX9_thing_2 : decode cX9_thing 2 = .ok (.invokevirtual 164, 3) := by decide +kernel
theorem dX9_thing_5 : decode cX9_thing 5 = .ok (.ifCond .eq 13, 3) := by decide +kernel
theorem dX9_thing_8 : decode cX9_thing 8 = .ok (.iload_n 2, 1) := by decide +kernel
theorem dX9_thing_9 : decode cX9_thing 9 = .ok (.iconst 0, 1) := by decide +kernel
theorem dX9_thing_10 : decode cX9_thing 10 = .ok (.bipush 8, 2) := by decide +kernel
theorem dX9_thing_12 : decode cX9_thing 12 = .ok (.invokestatic 111, 3) := by decide +kernel
theorem dX9_thing_15 : decode cX9_thing 15 = .ok (.ifCond .ne 10, 3) := by decide +kernel
theorem dX9_thing_18 : decode cX9_thing 18 = .ok (.aload_n 0, 1) := by decide +kernel
theorem dX9_thing_19 : decode cX9_thing 19 = .ok (.ldc 144, 2) := by decide +kernel
theorem dX9_thing_21 : decode cX9_thing 21 = .ok (.invokevirtual 145, 3) := by decide +kernel
theorem dX9_thing_24 : decode cX9_thing 24 = .ok (.ireturn, 1) := by decide +kernel
theorem dX9_thing_25 : decode cX9_thing 25 = .ok (.iload_n 2, 1) := by decide +kernel
theorem dX9_thing_26 : decode cX9_thing 26 = .ok (.tableswitch 129 0 7 #[46, 58, 70, 82, 94, 100, 115, 122], 46) := by decide +kernel
theorem dX9_thing_72 : decode cX9_thing 72 = .ok (.aload_n 0, 1) := by decide +kernel
theorem dX9_thing_73 : decode cX9_thing 73 = .ok (.getfield 7, 3) := by decide +kernel
theorem dX9_thing_76 : decode cX9_thing 76 = .ok (.aload_n 0, 1) := by decide +kernel
theorem dX9_thing_77 : decode cX9_thing 77 = .ok (.getfield 34, 3) := by decide +kernel
theorem dX9_thing_80 : decode cX9_thing 80 = .ok (.iload_n 1, 1) := by decide +kernel
theorem dX9_thing_81 : decode cX9_thing 81 = .ok (.iaload, 1) := by decide +kernel
theorem dX9_thing_82 : decode cX9_thing 82 = .ok (.iaload, 1) := by decide +kernel
theorem dX9_thing_83 : decode cX9_thing 83 = .ok (.ireturn, 1) := by decide +kernel
theorem dX9_thing_84 : decode cX9_thing 84 = .ok (.aload_n 0, 1) := by decide +kernel
theorem dX9_thing_85 : decode cX9_thing 85 = .ok (.getfield 13, 3) := by decide +kernel
theorem dX9_thing_88 : decode cX9_thing 88 = .ok (.aload_n 0, 1) := by decide +kernel
theorem dX9_thing_89 : decode cX9_thing 89 = .ok (.getfield 34, 3) := by decide +kernel
theorem dX9_thing_92 : decode cX9_thing 92 = .ok (.iload_n 1, 1) := by decide +kernel
theorem dX9_thing_93 : decode cX9_thing 93 = .ok (.iaload, 1) := by decide +kernel
theorem dX9_thing_94 : decode cX9_thing 94 = .ok (.iaload, 1) := by decide +kernel
theorem dX9_thing_95 : decode cX9_thing 95 = .ok (.ireturn, 1) := by decide +kernel
theorem dX9_thing_96 : decode cX9_thing 96 = .ok (.aload_n 0, 1) := by decide +kernel
theorem dX9_thing_97 : decode cX9_thing 97 = .ok (.getfield 16, 3) := by decide +kernel
theorem dX9_thing_100 : decode cX9_thing 100 = .ok (.aload_n 0, 1) := by decide +kernel
theorem dX9_thing_101 : decode cX9_thing 101 = .ok (.getfield 34, 3) := by decide +kernel
theorem dX9_thing_104 : decode cX9_thing 104 = .ok (.iload_n 1, 1) := by decide +kernel
theorem dX9_thing_105 : decode cX9_thing 105 = .ok (.iaload, 1) := by decide +kernel
theorem dX9_thing_106 : decode cX9_thing 106 = .ok (.iaload, 1) := by decide +kernel
theorem dX9_thing_107 : decode cX9_thing 107 = .ok (.ireturn, 1) := by decide +kernel
theorem dX9_thing_108 : decode cX9_thing 108 = .ok (.aload_n 0, 1) := by decide +kernel
theorem dX9_thing_109 : decode cX9_thing 109 = .ok (.getfield 22, 3) := by decide +kernel
theorem dX9_thing_112 : decode cX9_thing 112 = .ok (.aload_n 0, 1) := by decide +kernel
theorem dX9_thing_113 : decode cX9_thing 113 = .ok (.getfield 34, 3) := by decide +kernel
theorem dX9_thing_116 : decode cX9_thing 116 = .ok (.iload_n 1, 1) := by decide +kernel
theorem dX9_thing_117 : decode cX9_thing 117 = .ok (.iaload, 1) := by decide +kernel
theorem dX9_thing_118 : decode cX9_thing 118 = .ok (.iaload, 1) := by decide +kernel
theorem dX9_thing_119 : decode cX9_thing 119 = .ok (.ireturn, 1) := by decide +kernel
theorem dX9_thing_120 : decode cX9_thing 120 = .ok (.aload_n 0, 1) := by decide +kernel
theorem dX9_thing_121 : decode cX9_thing 121 = .ok (.iload_n 1, 1) := by decide +kernel
theorem dX9_thing_122 : decode cX9_thing 122 = .ok (.invokevirtual 167, 3) := by decide +kernel
theorem dX9_thing_125 : decode cX9_thing 125 = .ok (.ireturn, 1) := by decide +kernel
theorem dX9_thing_126 : decode cX9_thing 126 = .ok (.aload_n 0, 1) := by decide +kernel
theorem dX9_thing_127 : decode cX9_thing 127 = .ok (.getfield 37, 3) := by decide +kernel
theorem dX9_thing_130 : decode cX9_thing 130 = .ok (.iload_n 1, 1) := by decide +kernel
theorem dX9_thing_131 : decode cX9_thing 131 = .ok (.baload, 1) := by decide +kernel
theorem dX9_thing_132 : decode cX9_thing 132 = .ok (.ifCond .eq 7, 3) := by decide +kernel
theorem dX9_thing_135 : decode cX9_thing 135 = .ok (.iconst 1, 1) := by decide +kernel
theorem dX9_thing_136 : decode cX9_thing 136 = .ok (.goto 4, 3) := by decide +kernel
theorem dX9_thing_139 : decode cX9_thing 139 = .ok (.iconst 0, 1) := by decide +kernel
theorem dX9_thing_140 : decode cX9_thing 140 = .ok (.ireturn, 1) := by decide +kernel
theorem dX9_thing_141 : decode cX9_thing 141 = .ok (.aload_n 0, 1) := by decide +kernel
theorem dX9_thing_142 : decode cX9_thing 142 = .ok (.getfield 41, 3) := by decide +kernel
theorem dX9_thing_145 : decode cX9_thing 145 = .ok (.iload_n 1, 1) := by decide +kernel
theorem dX9_thing_146 : decode cX9_thing 146 = .ok (.iaload, 1) := by decide +kernel
theorem dX9_thing_147 : decode cX9_thing 147 = .ok (.ireturn, 1) := by decide +kernel
theorem dX9_thing_148 : decode cX9_thing 148 = .ok (.aload_n 0, 1) := by decide +kernel
theorem dX9_thing_149 : decode cX9_thing 149 = .ok (.getfield 44, 3) := by decide +kernel
theorem dX9_thing_152 : decode cX9_thing 152 = .ok (.iload_n 1, 1) := by decide +kernel
theorem dX9_thing_153 : decode cX9_thing 153 = .ok (.iaload, 1) := by decide +kernel
theorem dX9_thing_154 : decode cX9_thing 154 = .ok (.ireturn, 1) := by decide +kernel
theorem dX9_thing_155 : decode cX9_thing 155 = .ok (.aload_n 0, 1) := by decide +kernel
theorem dX9_thing_156 : decode cX9_thing 156 = .ok (.getfield 37, 3) := by decide +kernel
theorem dX9_thing_159 : decode cX9_thing 159 = .ok (.iload_n 1, 1) := by decide +kernel
theorem dX9_thing_160 : decode cX9_thing 160 = .ok (.baload, 1) := by decide +kernel
theorem dX9_thing_161 : decode cX9_thing 161 = .ok (.ifCond .ne 16, 3) := by decide +kernel
theorem dX9_thing_164 : decode cX9_thing 164 = .ok (.aload_n 0, 1) := by decide +kernel
theorem dX9_thing_165 : decode cX9_thing 165 = .ok (.getfield 50, 3) := by decide +kernel
theorem dX9_thing_168 : decode cX9_thing 168 = .ok (.iload_n 1, 1) := by decide +kernel
theorem dX9_thing_169 : decode cX9_thing 169 = .ok (.baload, 1) := by decide +kernel
theorem dX9_thing_170 : decode cX9_thing 170 = .ok (.ifCond .eq 7, 3) := by decide +kernel
theorem dX9_thing_173 : decode cX9_thing 173 = .ok (.iconst 1, 1) := by decide +kernel
theorem dX9_thing_174 : decode cX9_thing 174 = .ok (.goto 4, 3) := by decide +kernel
theorem dX9_thing_177 : decode cX9_thing 177 = .ok (.iconst 0, 1) := by decide +kernel
theorem dX9_thing_178 : decode cX9_thing 178 = .ok (.ireturn, 1) := by decide +kernel
theorem dX9_asked_0 : decode cX9_asked 0 = .ok (.aload_n 0, 1) := by decide +kernel
theorem dX9_asked_1 : decode cX9_asked 1 = .ok (.iload_n 1, 1) := by decide +kernel
theorem dX9_asked_2 : decode cX9_asked 2 = .ok (.invokevirtual 164, 3) := by decide +kernel
theorem dX9_asked_5 : decode cX9_asked 5 = .ok (.ifCond .eq 7, 3) := by decide +kernel
theorem dX9_asked_8 : decode cX9_asked 8 = .ok (.iload_n 2, 1) := by decide +kernel
theorem dX9_asked_9 : decode cX9_asked 9 = .ok (.ifCond .ge 10, 3) := by decide +kernel
theorem dX9_asked_12 : decode cX9_asked 12 = .ok (.aload_n 0, 1) := by decide +kernel
theorem dX9_asked_13 : decode cX9_asked 13 = .ok (.ldc 144, 2) := by decide +kernel
theorem dX9_asked_15 : decode cX9_asked 15 = .ok (.invokevirtual 145, 3) := by decide +kernel
theorem dX9_asked_18 : decode cX9_asked 18 = .ok (.ireturn, 1) := by decide +kernel
theorem dX9_asked_19 : decode cX9_asked 19 = .ok (.iload_n 2, 1) := by decide +kernel
theorem dX9_asked_20 : decode cX9_asked 20 = .ok (.istore_n 3, 1) := by decide +kernel
theorem dX9_asked_21 : decode cX9_asked 21 = .ok (.iconst 0, 1) := by decide +kernel
theorem dX9_asked_22 : decode cX9_asked 22 = .ok (.istore 4, 2) := by decide +kernel
theorem dX9_asked_24 : decode cX9_asked 24 = .ok (.iload 4, 2) := by decide +kernel
theorem dX9_asked_26 : decode cX9_asked 26 = .ok (.aload_n 0, 1) := by decide +kernel
theorem dX9_asked_27 : decode cX9_asked 27 = .ok (.getfield 115, 3) := by decide +kernel
theorem dX9_asked_30 : decode cX9_asked 30 = .ok (.if_icmp .ge 30, 3) := by decide +kernel
theorem dX9_asked_33 : decode cX9_asked 33 = .ok (.aload_n 0, 1) := by decide +kernel
theorem dX9_asked_34 : decode cX9_asked 34 = .ok (.getfield 25, 3) := by decide +kernel
theorem dX9_asked_37 : decode cX9_asked 37 = .ok (.iload 4, 2) := by decide +kernel
theorem dX9_asked_39 : decode cX9_asked 39 = .ok (.iaload, 1) := by decide +kernel
theorem dX9_asked_40 : decode cX9_asked 40 = .ok (.iload_n 1, 1) := by decide +kernel
theorem dX9_asked_41 : decode cX9_asked 41 = .ok (.if_icmp .ne 13, 3) := by decide +kernel
theorem dX9_asked_44 : decode cX9_asked 44 = .ok (.iload_n 3, 1) := by decide +kernel
theorem dX9_asked_45 : decode cX9_asked 45 = .ok (.ifCond .ne 6, 3) := by decide +kernel
theorem dX9_asked_48 : decode cX9_asked 48 = .ok (.iload 4, 2) := by decide +kernel
theorem dX9_asked_50 : decode cX9_asked 50 = .ok (.ireturn, 1) := by decide +kernel
theorem dX9_asked_51 : decode cX9_asked 51 = .ok (.iinc 3 (-1), 3) := by decide +kernel
theorem dX9_asked_54 : decode cX9_asked 54 = .ok (.iinc 4 1, 3) := by decide +kernel
theorem dX9_asked_57 : decode cX9_asked 57 = .ok (.goto (-33), 3) := by decide +kernel
theorem dX9_asked_60 : decode cX9_asked 60 = .ok (.iconst (-1), 1) := by decide +kernel
theorem dX9_asked_61 : decode cX9_asked 61 = .ok (.ireturn, 1) := by decide +kernel
theorem dX9_feed_0 : decode cX9_feed 0 = .ok (.iload_n 3, 1) := by decide +kernel
theorem dX9_feed_1 : decode cX9_feed 1 = .ok (.iconst 1, 1) := by decide +kernel
theorem dX9_feed_2 : decode cX9_feed 2 = .ok (.bipush 8, 2) := by decide +kernel
theorem dX9_feed_4 : decode cX9_feed 4 = .ok (.invokestatic 111, 3) := by decide +kernel
theorem dX9_feed_7 : decode cX9_feed 7 = .ok (.ifCond .ne 10, 3) := by decide +kernel
theorem dX9_feed_10 : decode cX9_feed 10 = .ok (.aload_n 0, 1) := by decide +kernel
theorem dX9_feed_11 : decode cX9_feed 11 = .ok (.ldc 144, 2) := by decide +kernel
theorem dX9_feed_13 : decode cX9_feed 13 = .ok (.invokevirtual 145, 3) := by decide +kernel
theorem dX9_feed_16 : decode cX9_feed 16 = .ok (.ireturn, 1) := by decide +kernel
theorem dX9_feed_17 : decode cX9_feed 17 = .ok (.aload_n 0, 1) := by decide +kernel
theorem dX9_feed_18 : decode cX9_feed 18 = .ok (.getfield 170, 3) := by decide +kernel
theorem dX9_feed_21 : decode cX9_feed 21 = .ok (.iload_n 3, 1) := by decide +kernel
theorem dX9_feed_22 : decode cX9_feed 22 = .ok (.iadd, 1) := by decide +kernel
theorem dX9_feed_23 : decode cX9_feed 23 = .ok (.bipush 80, 2) := by decide +kernel
theorem dX9_feed_25 : decode cX9_feed 25 = .ok (.if_icmp .le 10, 3) := by decide +kernel
theorem dX9_feed_28 : decode cX9_feed 28 = .ok (.aload_n 0, 1) := by decide +kernel
theorem dX9_feed_29 : decode cX9_feed 29 = .ok (.ldc 148, 2) := by decide +kernel
theorem dX9_feed_31 : decode cX9_feed 31 = .ok (.invokevirtual 145, 3) := by decide +kernel
theorem dX9_feed_34 : decode cX9_feed 34 = .ok (.ireturn, 1) := by decide +kernel
theorem dX9_feed_35 : decode cX9_feed 35 = .ok (.iconst 0, 1) := by decide +kernel
theorem dX9_feed_36 : decode cX9_feed 36 = .ok (.istore 4, 2) := by decide +kernel
theorem dX9_feed_38 : decode cX9_feed 38 = .ok (.iload 4, 2) := by decide +kernel
theorem dX9_feed_40 : decode cX9_feed 40 = .ok (.iload_n 3, 1) := by decide +kernel
theorem dX9_feed_41 : decode cX9_feed 41 = .ok (.if_icmp .ge 33, 3) := by decide +kernel
theorem dX9_feed_44 : decode cX9_feed 44 = .ok (.aload_n 0, 1) := by decide +kernel
theorem dX9_feed_45 : decode cX9_feed 45 = .ok (.getfield 53, 3) := by decide +kernel
theorem dX9_feed_48 : decode cX9_feed 48 = .ok (.aload_n 0, 1) := by decide +kernel
theorem dX9_feed_49 : decode cX9_feed 49 = .ok (.getfield 170, 3) := by decide +kernel
theorem dX9_feed_52 : decode cX9_feed 52 = .ok (.iload 4, 2) := by decide +kernel
theorem dX9_feed_54 : decode cX9_feed 54 = .ok (.iadd, 1) := by decide +kernel
theorem dX9_feed_55 : decode cX9_feed 55 = .ok (.lload_n 1, 1) := by decide +kernel
theorem dX9_feed_56 : decode cX9_feed 56 = .ok (.bipush 8, 2) := by decide +kernel
theorem dX9_feed_58 : decode cX9_feed 58 = .ok (.iload 4, 2) := by decide +kernel
theorem dX9_feed_60 : decode cX9_feed 60 = .ok (.imul, 1) := by decide +kernel
theorem dX9_feed_61 : decode cX9_feed 61 = .ok (.lshr, 1) := by decide +kernel
theorem dX9_feed_62 : decode cX9_feed 62 = .ok (.ldc2_w 173, 3) := by decide +kernel
theorem dX9_feed_65 : decode cX9_feed 65 = .ok (.land, 1) := by decide +kernel
theorem dX9_feed_66 : decode cX9_feed 66 = .ok (.l2i, 1) := by decide +kernel
theorem dX9_feed_67 : decode cX9_feed 67 = .ok (.iastore, 1) := by decide +kernel
theorem dX9_feed_68 : decode cX9_feed 68 = .ok (.iinc 4 1, 3) := by decide +kernel
theorem dX9_feed_71 : decode cX9_feed 71 = .ok (.goto (-33), 3) := by decide +kernel
theorem dX9_feed_74 : decode cX9_feed 74 = .ok (.aload_n 0, 1) := by decide +kernel
theorem dX9_feed_75 : decode cX9_feed 75 = .ok (.dup, 1) := by decide +kernel
theorem dX9_feed_76 : decode cX9_feed 76 = .ok (.getfield 170, 3) := by decide +kernel
theorem dX9_feed_79 : decode cX9_feed 79 = .ok (.iload_n 3, 1) := by decide +kernel
theorem dX9_feed_80 : decode cX9_feed 80 = .ok (.iadd, 1) := by decide +kernel
theorem dX9_feed_81 : decode cX9_feed 81 = .ok (.putfield 170, 3) := by decide +kernel
theorem dX9_feed_84 : decode cX9_feed 84 = .ok (.aload_n 0, 1) := by decide +kernel
theorem dX9_feed_85 : decode cX9_feed 85 = .ok (.getfield 170, 3) := by decide +kernel
theorem dX9_feed_88 : decode cX9_feed 88 = .ok (.ireturn, 1) := by decide +kernel
theorem dX9_fits_0 : decode cX9_fits 0 = .ok (.aload_n 0, 1) := by decide +kernel
theorem dX9_fits_1 : decode cX9_fits 1 = .ok (.getfield 53, 3) := by decide +kernel
theorem dX9_fits_4 : decode cX9_fits 4 = .ok (.iload_n 1, 1) := by decide +kernel
theorem dX9_fits_5 : decode cX9_fits 5 = .ok (.iaload, 1) := by decide +kernel
theorem dX9_fits_6 : decode cX9_fits 6 = .ok (.istore_n 2, 1) := by decide +kernel
theorem dX9_fits_7 : decode cX9_fits 7 = .ok (.iload_n 1, 1) := by decide +kernel
theorem dX9_fits_8 : decode cX9_fits 8 = .ok (.iload_n 1, 1) := by decide +kernel
theorem dX9_fits_9 : decode cX9_fits 9 = .ok (.iconst 5, 1) := by decide +kernel
theorem dX9_fits_10 : decode cX9_fits 10 = .ok (.irem, 1) := by decide +kernel
theorem dX9_fits_11 : decode cX9_fits 11 = .ok (.isub, 1) := by decide +kernel
theorem dX9_fits_12 : decode cX9_fits 12 = .ok (.istore_n 3, 1) := by decide +kernel
theorem dX9_fits_13 : decode cX9_fits 13 = .ok (.aload_n 0, 1) := by decide +kernel
theorem dX9_fits_14 : decode cX9_fits 14 = .ok (.getfield 53, 3) := by decide +kernel
theorem dX9_fits_17 : decode cX9_fits 17 = .ok (.iload_n 3, 1) := by decide +kernel
theorem dX9_fits_18 : decode cX9_fits 18 = .ok (.iaload, 1) := by decide +kernel
theorem dX9_fits_19 : decode cX9_fits 19 = .ok (.bipush 97, 2) := by decide +kernel
theorem dX9_fits_21 : decode cX9_fits 21 = .ok (.if_icmp .ne 7, 3) := by decide +kernel
theorem dX9_fits_24 : decode cX9_fits 24 = .ok (.iconst 1, 1) := by decide +kernel
theorem dX9_fits_25 : decode cX9_fits 25 = .ok (.goto 4, 3) := by decide +kernel
theorem dX9_fits_28 : decode cX9_fits 28 = .ok (.iconst 0, 1) := by decide +kernel
theorem dX9_fits_29 : decode cX9_fits 29 = .ok (.istore 4, 2) := by decide +kernel
theorem dX9_fits_31 : decode cX9_fits 31 = .ok (.iload_n 1, 1) := by decide +kernel
theorem dX9_fits_32 : decode cX9_fits 32 = .ok (.iconst 5, 1) := by decide +kernel
theorem dX9_fits_33 : decode cX9_fits 33 = .ok (.irem, 1) := by decide +kernel
theorem dX9_fits_34 : decode cX9_fits 34 = .ok (.tableswitch 137 0 3 #[30, 54, 73, 92], 30) := by decide +kernel
theorem dX9_fits_64 : decode cX9_fits 64 = .ok (.iload_n 2, 1) := by decide +kernel
theorem dX9_fits_65 : decode cX9_fits 65 = .ok (.bipush 97, 2) := by decide +kernel
theorem dX9_fits_67 : decode cX9_fits 67 = .ok (.if_icmp .eq 9, 3) := by decide +kernel
theorem dX9_fits_70 : decode cX9_fits 70 = .ok (.iload_n 2, 1) := by decide +kernel
theorem dX9_fits_71 : decode cX9_fits 71 = .ok (.bipush 115, 2) := by decide +kernel
theorem dX9_fits_73 : decode cX9_fits 73 = .ok (.if_icmp .ne 13, 3) := by decide +kernel
theorem dX9_fits_76 : decode cX9_fits 76 = .ok (.iload_n 1, 1) := by decide +kernel
theorem dX9_fits_77 : decode cX9_fits 77 = .ok (.bipush 60, 2) := by decide +kernel
theorem dX9_fits_79 : decode cX9_fits 79 = .ok (.if_icmp .ge 7, 3) := by decide +kernel
theorem dX9_fits_82 : decode cX9_fits 82 = .ok (.iconst 1, 1) := by decide +kernel
theorem dX9_fits_83 : decode cX9_fits 83 = .ok (.goto 4, 3) := by decide +kernel
theorem dX9_fits_86 : decode cX9_fits 86 = .ok (.iconst 0, 1) := by decide +kernel
theorem dX9_fits_87 : decode cX9_fits 87 = .ok (.ireturn, 1) := by decide +kernel
theorem dX9_fits_88 : decode cX9_fits 88 = .ok (.iload_n 2, 1) := by decide +kernel
theorem dX9_fits_89 : decode cX9_fits 89 = .ok (.bipush 48, 2) := by decide +kernel
theorem dX9_fits_91 : decode cX9_fits 91 = .ok (.iload 4, 2) := by decide +kernel
theorem dX9_fits_93 : decode cX9_fits 93 = .ok (.ifCond .eq 8, 3) := by decide +kernel
theorem dX9_fits_96 : decode cX9_fits 96 = .ok (.bipush 52, 2) := by decide +kernel
theorem dX9_fits_98 : decode cX9_fits 98 = .ok (.goto 5, 3) := by decide +kernel
theorem dX9_fits_101 : decode cX9_fits 101 = .ok (.bipush 53, 2) := by decide +kernel
theorem dX9_fits_103 : decode cX9_fits 103 = .ok (.invokestatic 111, 3) := by decide +kernel
theorem dX9_fits_106 : decode cX9_fits 106 = .ok (.ireturn, 1) := by decide +kernel
theorem dX9_fits_107 : decode cX9_fits 107 = .ok (.iload_n 2, 1) := by decide +kernel
theorem dX9_fits_108 : decode cX9_fits 108 = .ok (.bipush 48, 2) := by decide +kernel
theorem dX9_fits_110 : decode cX9_fits 110 = .ok (.iload 4, 2) := by decide +kernel
theorem dX9_fits_112 : decode cX9_fits 112 = .ok (.ifCond .eq 8, 3) := by decide +kernel
theorem dX9_fits_115 : decode cX9_fits 115 = .ok (.bipush 53, 2) := by decide +kernel
theorem dX9_fits_117 : decode cX9_fits 117 = .ok (.goto 5, 3) := by decide +kernel
theorem dX9_fits_120 : decode cX9_fits 120 = .ok (.bipush 51, 2) := by decide +kernel
theorem dX9_fits_122 : decode cX9_fits 122 = .ok (.invokestatic 111, 3) := by decide +kernel
theorem dX9_fits_125 : decode cX9_fits 125 = .ok (.ireturn, 1) := by decide +kernel
theorem dX9_fits_126 : decode cX9_fits 126 = .ok (.iload 4, 2) := by decide +kernel
theorem dX9_fits_128 : decode cX9_fits 128 = .ok (.ifCond .eq 14, 3) := by decide +kernel
theorem dX9_fits_131 : decode cX9_fits 131 = .ok (.iload_n 2, 1) := by decide +kernel
theorem dX9_fits_132 : decode cX9_fits 132 = .ok (.bipush 49, 2) := by decide +kernel
theorem dX9_fits_134 : decode cX9_fits 134 = .ok (.bipush 57, 2) := by decide +kernel
theorem dX9_fits_136 : decode cX9_fits 136 = .ok (.invokestatic 111, 3) := by decide +kernel
theorem dX9_fits_139 : decode cX9_fits 139 = .ok (.goto 31, 3) := by decide +kernel
theorem dX9_fits_142 : decode cX9_fits 142 = .ok (.iload_n 2, 1) := by decide +kernel
theorem dX9_fits_143 : decode cX9_fits 143 = .ok (.bipush 48, 2) := by decide +kernel
theorem dX9_fits_145 : decode cX9_fits 145 = .ok (.bipush 53, 2) := by decide +kernel
theorem dX9_fits_147 : decode cX9_fits 147 = .ok (.invokestatic 111, 3) := by decide +kernel
theorem dX9_fits_150 : decode cX9_fits 150 = .ok (.ifCond .eq 19, 3) := by decide +kernel
theorem dX9_fits_153 : decode cX9_fits 153 = .ok (.iload_n 2, 1) := by decide +kernel
theorem dX9_fits_154 : decode cX9_fits 154 = .ok (.aload_n 0, 1) := by decide +kernel
theorem dX9_fits_155 : decode cX9_fits 155 = .ok (.getfield 53, 3) := by decide +kernel
theorem dX9_fits_158 : decode cX9_fits 158 = .ok (.iload_n 3, 1) := by decide +kernel
theorem dX9_fits_159 : decode cX9_fits 159 = .ok (.iconst 1, 1) := by decide +kernel
theorem dX9_fits_160 : decode cX9_fits 160 = .ok (.iadd, 1) := by decide +kernel
theorem dX9_fits_161 : decode cX9_fits 161 = .ok (.iaload, 1) := by decide +kernel
theorem dX9_fits_162 : decode cX9_fits 162 = .ok (.if_icmp .eq 7, 3) := by decide +kernel
theorem dX9_fits_165 : decode cX9_fits 165 = .ok (.iconst 1, 1) := by decide +kernel
theorem dX9_fits_166 : decode cX9_fits 166 = .ok (.goto 4, 3) := by decide +kernel
theorem dX9_fits_169 : decode cX9_fits 169 = .ok (.iconst 0, 1) := by decide +kernel
theorem dX9_fits_170 : decode cX9_fits 170 = .ok (.ireturn, 1) := by decide +kernel
theorem dX9_fits_171 : decode cX9_fits 171 = .ok (.iload_n 2, 1) := by decide +kernel
theorem dX9_fits_172 : decode cX9_fits 172 = .ok (.bipush 59, 2) := by decide +kernel
theorem dX9_fits_174 : decode cX9_fits 174 = .ok (.if_icmp .ne 7, 3) := by decide +kernel
theorem dX9_fits_177 : decode cX9_fits 177 = .ok (.iconst 1, 1) := by decide +kernel
theorem dX9_fits_178 : decode cX9_fits 178 = .ok (.goto 4, 3) := by decide +kernel
theorem dX9_fits_181 : decode cX9_fits 181 = .ok (.iconst 0, 1) := by decide +kernel
theorem dX9_fits_182 : decode cX9_fits 182 = .ok (.ireturn, 1) := by decide +kernel
theorem dX9_text_0 : decode cX9_text 0 = .ok (.aload_n 0, 1) := by decide +kernel
theorem dX9_text_1 : decode cX9_text 1 = .ok (.getfield 170, 3) := by decide +kernel
theorem dX9_text_4 : decode cX9_text 4 = .ok (.istore_n 1, 1) := by decide +kernel
theorem dX9_text_5 : decode cX9_text 5 = .ok (.iconst 0, 1) := by decide +kernel
theorem dX9_text_6 : decode cX9_text 6 = .ok (.istore_n 2, 1) := by decide +kernel
theorem dX9_text_7 : decode cX9_text 7 = .ok (.iload_n 2, 1) := by decide +kernel
theorem dX9_text_8 : decode cX9_text 8 = .ok (.iload_n 1, 1) := by decide +kernel
theorem dX9_text_9 : decode cX9_text 9 = .ok (.if_icmp .ge 17, 3) := by decide +kernel
theorem dX9_text_12 : decode cX9_text 12 = .ok (.aload_n 0, 1) := by decide +kernel
theorem dX9_text_13 : decode cX9_text 13 = .ok (.iload_n 2, 1) := by decide +kernel
theorem dX9_text_14 : decode cX9_text 14 = .ok (.invokevirtual 175, 3) := by decide +kernel
theorem dX9_text_17 : decode cX9_text 17 = .ok (.ifCond .eq 9, 3) := by decide +kernel
theorem dX9_text_20 : decode cX9_text 20 = .ok (.iinc 2 1, 3) := by decide +kernel
theorem dX9_text_23 : decode cX9_text 23 = .ok (.goto (-16), 3) := by decide +kernel
theorem dX9_text_26 : decode cX9_text 26 = .ok (.aload_n 0, 1) := by decide +kernel
theorem dX9_text_27 : decode cX9_text 27 = .ok (.iconst 0, 1) := by decide +kernel
theorem dX9_text_28 : decode cX9_text 28 = .ok (.putfield 170, 3) := by decide +kernel
theorem dX9_text_31 : decode cX9_text 31 = .ok (.iload_n 2, 1) := by decide +kernel
theorem dX9_text_32 : decode cX9_text 32 = .ok (.iload_n 1, 1) := by decide +kernel
theorem dX9_text_33 : decode cX9_text 33 = .ok (.if_icmp .lt 9, 3) := by decide +kernel
theorem dX9_text_36 : decode cX9_text 36 = .ok (.iload_n 1, 1) := by decide +kernel
theorem dX9_text_37 : decode cX9_text 37 = .ok (.iconst 5, 1) := by decide +kernel
theorem dX9_text_38 : decode cX9_text 38 = .ok (.irem, 1) := by decide +kernel
theorem dX9_text_39 : decode cX9_text 39 = .ok (.ifCond .eq 12, 3) := by decide +kernel
theorem dX9_text_42 : decode cX9_text 42 = .ok (.aload_n 0, 1) := by decide +kernel
theorem dX9_text_43 : decode cX9_text 43 = .ok (.ldc 178, 2) := by decide +kernel
theorem dX9_text_45 : decode cX9_text 45 = .ok (.iload_n 2, 1) := by decide +kernel
theorem dX9_text_46 : decode cX9_text 46 = .ok (.isub, 1) := by decide +kernel
theorem dX9_text_47 : decode cX9_text 47 = .ok (.invokevirtual 145, 3) := by decide +kernel
theorem dX9_text_50 : decode cX9_text 50 = .ok (.ireturn, 1) := by decide +kernel
theorem dX9_text_51 : decode cX9_text 51 = .ok (.aload_n 0, 1) := by decide +kernel
theorem dX9_text_52 : decode cX9_text 52 = .ok (.iload_n 1, 1) := by decide +kernel
theorem dX9_text_53 : decode cX9_text 53 = .ok (.iconst 5, 1) := by decide +kernel
theorem dX9_text_54 : decode cX9_text 54 = .ok (.idiv, 1) := by decide +kernel
theorem dX9_text_55 : decode cX9_text 55 = .ok (.putfield 179, 3) := by decide +kernel
theorem dX9_text_58 : decode cX9_text 58 = .ok (.iconst 0, 1) := by decide +kernel
theorem dX9_text_59 : decode cX9_text 59 = .ok (.istore_n 3, 1) := by decide +kernel
theorem dX9_text_60 : decode cX9_text 60 = .ok (.iload_n 3, 1) := by decide +kernel
theorem dX9_text_61 : decode cX9_text 61 = .ok (.aload_n 0, 1) := by decide +kernel
theorem dX9_text_62 : decode cX9_text 62 = .ok (.getfield 179, 3) := by decide +kernel
theorem dX9_text_65 : decode cX9_text 65 = .ok (.if_icmp .ge 75, 3) := by decide +kernel
theorem dX9_text_68 : decode cX9_text 68 = .ok (.aload_n 0, 1) := by decide +kernel
theorem dX9_text_69 : decode cX9_text 69 = .ok (.getfield 56, 3) := by decide +kernel
theorem dX9_text_72 : decode cX9_text 72 = .ok (.iconst 4, 1) := by decide +kernel
theorem dX9_text_73 : decode cX9_text 73 = .ok (.iload_n 3, 1) := by decide +kernel
theorem dX9_text_74 : decode cX9_text 74 = .ok (.imul, 1) := by decide +kernel
theorem dX9_text_75 : decode cX9_text 75 = .ok (.aload_n 0, 1) := by decide +kernel
theorem dX9_text_76 : decode cX9_text 76 = .ok (.getfield 53, 3) := by decide +kernel
theorem dX9_text_79 : decode cX9_text 79 = .ok (.iconst 5, 1) := by decide +kernel
theorem dX9_text_80 : decode cX9_text 80 = .ok (.iload_n 3, 1) := by decide +kernel
theorem dX9_text_81 : decode cX9_text 81 = .ok (.imul, 1) := by decide +kernel
theorem dX9_text_82 : decode cX9_text 82 = .ok (.iaload, 1) := by decide +kernel
theorem dX9_text_83 : decode cX9_text 83 = .ok (.bipush 97, 2) := by decide +kernel
theorem dX9_text_85 : decode cX9_text 85 = .ok (.if_icmp .ne 7, 3) := by decide +kernel
theorem dX9_text_88 : decode cX9_text 88 = .ok (.iconst 1, 1) := by decide +kernel
theorem dX9_text_89 : decode cX9_text 89 = .ok (.goto 4, 3) := by decide +kernel
theorem dX9_text_92 : decode cX9_text 92 = .ok (.iconst 0, 1) := by decide +kernel
theorem dX9_text_93 : decode cX9_text 93 = .ok (.iastore, 1) := by decide +kernel
theorem dX9_text_94 : decode cX9_text 94 = .ok (.iconst 1, 1) := by decide +kernel
theorem dX9_text_95 : decode cX9_text 95 = .ok (.istore 4, 2) := by decide +kernel
theorem dX9_text_97 : decode cX9_text 97 = .ok (.iload 4, 2) := by decide +kernel
theorem dX9_text_99 : decode cX9_text 99 = .ok (.iconst 4, 1) := by decide +kernel
theorem dX9_text_100 : decode cX9_text 100 = .ok (.if_icmp .ge 34, 3) := by decide +kernel
theorem dX9_text_103 : decode cX9_text 103 = .ok (.aload_n 0, 1) := by decide +kernel
theorem dX9_text_104 : decode cX9_text 104 = .ok (.getfield 56, 3) := by decide +kernel
theorem dX9_text_107 : decode cX9_text 107 = .ok (.iconst 4, 1) := by decide +kernel
theorem dX9_text_108 : decode cX9_text 108 = .ok (.iload_n 3, 1) := by decide +kernel
theorem dX9_text_109 : decode cX9_text 109 = .ok (.imul, 1) := by decide +kernel
theorem dX9_text_110 : decode cX9_text 110 = .ok (.iload 4, 2) := by decide +kernel
theorem dX9_text_112 : decode cX9_text 112 = .ok (.iadd, 1) := by decide +kernel
theorem dX9_text_113 : decode cX9_text 113 = .ok (.aload_n 0, 1) := by decide +kernel
theorem dX9_text_114 : decode cX9_text 114 = .ok (.getfield 53, 3) := by decide +kernel
theorem dX9_text_117 : decode cX9_text 117 = .ok (.iconst 5, 1) := by decide +kernel
theorem dX9_text_118 : decode cX9_text 118 = .ok (.iload_n 3, 1) := by decide +kernel
theorem dX9_text_119 : decode cX9_text 119 = .ok (.imul, 1) := by decide +kernel
theorem dX9_text_120 : decode cX9_text 120 = .ok (.iload 4, 2) := by decide +kernel
theorem dX9_text_122 : decode cX9_text 122 = .ok (.iadd, 1) := by decide +kernel
theorem dX9_text_123 : decode cX9_text 123 = .ok (.iaload, 1) := by decide +kernel
theorem dX9_text_124 : decode cX9_text 124 = .ok (.bipush 48, 2) := by decide +kernel
theorem dX9_text_126 : decode cX9_text 126 = .ok (.isub, 1) := by decide +kernel
theorem dX9_text_127 : decode cX9_text 127 = .ok (.iastore, 1) := by decide +kernel
theorem dX9_text_128 : decode cX9_text 128 = .ok (.iinc 4 1, 3) := by decide +kernel
theorem dX9_text_131 : decode cX9_text 131 = .ok (.goto (-34), 3) := by decide +kernel
theorem dX9_text_134 : decode cX9_text 134 = .ok (.iinc 3 1, 3) := by decide +kernel
theorem dX9_text_137 : decode cX9_text 137 = .ok (.goto (-77), 3) := by decide +kernel
theorem dX9_text_140 : decode cX9_text 140 = .ok (.aload_n 0, 1) := by decide +kernel
theorem dX9_text_141 : decode cX9_text 141 = .ok (.getfield 179, 3) := by decide +kernel
theorem dX9_text_144 : decode cX9_text 144 = .ok (.ireturn, 1) := by decide +kernel
theorem dX9_rowFor_0 : decode cX9_rowFor 0 = .ok (.iload_n 1, 1) := by decide +kernel
theorem dX9_rowFor_1 : decode cX9_rowFor 1 = .ok (.istore_n 2, 1) := by decide +kernel
theorem dX9_rowFor_2 : decode cX9_rowFor 2 = .ok (.iload_n 2, 1) := by decide +kernel
theorem dX9_rowFor_3 : decode cX9_rowFor 3 = .ok (.ifCond .lt 55, 3) := by decide +kernel
theorem dX9_rowFor_6 : decode cX9_rowFor 6 = .ok (.iconst 0, 1) := by decide +kernel
theorem dX9_rowFor_7 : decode cX9_rowFor 7 = .ok (.istore_n 3, 1) := by decide +kernel
theorem dX9_rowFor_8 : decode cX9_rowFor 8 = .ok (.iload_n 3, 1) := by decide +kernel
theorem dX9_rowFor_9 : decode cX9_rowFor 9 = .ok (.aload_n 0, 1) := by decide +kernel
theorem dX9_rowFor_10 : decode cX9_rowFor 10 = .ok (.getfield 179, 3) := by decide +kernel
theorem dX9_rowFor_13 : decode cX9_rowFor 13 = .ok (.if_icmp .ge 37, 3) := by decide +kernel
theorem dX9_rowFor_16 : decode cX9_rowFor 16 = .ok (.aload_n 0, 1) := by decide +kernel
theorem dX9_rowFor_17 : decode cX9_rowFor 17 = .ok (.getfield 56, 3) := by decide +kernel
theorem dX9_rowFor_20 : decode cX9_rowFor 20 = .ok (.iconst 4, 1) := by decide +kernel
theorem dX9_rowFor_21 : decode cX9_rowFor 21 = .ok (.iload_n 3, 1) := by decide +kernel
theorem dX9_rowFor_22 : decode cX9_rowFor 22 = .ok (.imul, 1) := by decide +kernel
theorem dX9_rowFor_23 : decode cX9_rowFor 23 = .ok (.iaload, 1) := by decide +kernel
theorem dX9_rowFor_24 : decode cX9_rowFor 24 = .ok (.iconst 1, 1) := by decide +kernel
theorem dX9_rowFor_25 : decode cX9_rowFor 25 = .ok (.if_icmp .ne 19, 3) := by decide +kernel
theorem dX9_rowFor_28 : decode cX9_rowFor 28 = .ok (.aload_n 0, 1) := by decide +kernel
theorem dX9_rowFor_29 : decode cX9_rowFor 29 = .ok (.getfield 56, 3) := by decide +kernel
theorem dX9_rowFor_32 : decode cX9_rowFor 32 = .ok (.iconst 4, 1) := by decide +kernel
theorem dX9_rowFor_33 : decode cX9_rowFor 33 = .ok (.iload_n 3, 1) := by decide +kernel
theorem dX9_rowFor_34 : decode cX9_rowFor 34 = .ok (.imul, 1) := by decide +kernel
theorem dX9_rowFor_35 : decode cX9_rowFor 35 = .ok (.iconst 1, 1) := by decide +kernel
theorem dX9_rowFor_36 : decode cX9_rowFor 36 = .ok (.iadd, 1) := by decide +kernel
theorem dX9_rowFor_37 : decode cX9_rowFor 37 = .ok (.iaload, 1) := by decide +kernel
theorem dX9_rowFor_38 : decode cX9_rowFor 38 = .ok (.iload_n 2, 1) := by decide +kernel
theorem dX9_rowFor_39 : decode cX9_rowFor 39 = .ok (.if_icmp .ne 5, 3) := by decide +kernel
theorem dX9_rowFor_42 : decode cX9_rowFor 42 = .ok (.iload_n 3, 1) := by decide +kernel
theorem dX9_rowFor_43 : decode cX9_rowFor 43 = .ok (.ireturn, 1) := by decide +kernel
theorem dX9_rowFor_44 : decode cX9_rowFor 44 = .ok (.iinc 3 1, 3) := by decide +kernel
theorem dX9_rowFor_47 : decode cX9_rowFor 47 = .ok (.goto (-39), 3) := by decide +kernel
theorem dX9_rowFor_50 : decode cX9_rowFor 50 = .ok (.iload_n 2, 1) := by decide +kernel
theorem dX9_rowFor_51 : decode cX9_rowFor 51 = .ok (.invokestatic 121, 3) := by decide +kernel
theorem dX9_rowFor_54 : decode cX9_rowFor 54 = .ok (.istore_n 2, 1) := by decide +kernel
theorem dX9_rowFor_55 : decode cX9_rowFor 55 = .ok (.goto (-53), 3) := by decide +kernel
theorem dX9_rowFor_58 : decode cX9_rowFor 58 = .ok (.iconst (-1), 1) := by decide +kernel
theorem dX9_rowFor_59 : decode cX9_rowFor 59 = .ok (.ireturn, 1) := by decide +kernel
theorem dX9_sends_0 : decode cX9_sends 0 = .ok (.iconst 0, 1) := by decide +kernel
theorem dX9_sends_1 : decode cX9_sends 1 = .ok (.istore_n 3, 1) := by decide +kernel
theorem dX9_sends_2 : decode cX9_sends 2 = .ok (.iload_n 3, 1) := by decide +kernel
theorem dX9_sends_3 : decode cX9_sends 3 = .ok (.aload_n 0, 1) := by decide +kernel
theorem dX9_sends_4 : decode cX9_sends 4 = .ok (.getfield 179, 3) := by decide +kernel
theorem dX9_sends_7 : decode cX9_sends 7 = .ok (.if_icmp .ge 59, 3) := by decide +kernel
theorem dX9_sends_10 : decode cX9_sends 10 = .ok (.aload_n 0, 1) := by decide +kernel
theorem dX9_sends_11 : decode cX9_sends 11 = .ok (.getfield 56, 3) := by decide +kernel
theorem dX9_sends_14 : decode cX9_sends 14 = .ok (.iconst 4, 1) := by decide +kernel
theorem dX9_sends_15 : decode cX9_sends 15 = .ok (.iload_n 3, 1) := by decide +kernel
theorem dX9_sends_16 : decode cX9_sends 16 = .ok (.imul, 1) := by decide +kernel
theorem dX9_sends_17 : decode cX9_sends 17 = .ok (.iaload, 1) := by decide +kernel
theorem dX9_sends_18 : decode cX9_sends 18 = .ok (.ifCond .ne 42, 3) := by decide +kernel
theorem dX9_sends_21 : decode cX9_sends 21 = .ok (.aload_n 0, 1) := by decide +kernel
theorem dX9_sends_22 : decode cX9_sends 22 = .ok (.getfield 56, 3) := by decide +kernel
theorem dX9_sends_25 : decode cX9_sends 25 = .ok (.iconst 4, 1) := by decide +kernel
theorem dX9_sends_26 : decode cX9_sends 26 = .ok (.iload_n 3, 1) := by decide +kernel
theorem dX9_sends_27 : decode cX9_sends 27 = .ok (.imul, 1) := by decide +kernel
theorem dX9_sends_28 : decode cX9_sends 28 = .ok (.iconst 1, 1) := by decide +kernel
theorem dX9_sends_29 : decode cX9_sends 29 = .ok (.iadd, 1) := by decide +kernel
theorem dX9_sends_30 : decode cX9_sends 30 = .ok (.iaload, 1) := by decide +kernel
theorem dX9_sends_31 : decode cX9_sends 31 = .ok (.iload_n 1, 1) := by decide +kernel
theorem dX9_sends_32 : decode cX9_sends 32 = .ok (.if_icmp .ne 28, 3) := by decide +kernel
theorem dX9_sends_35 : decode cX9_sends 35 = .ok (.aload_n 0, 1) := by decide +kernel
theorem dX9_sends_36 : decode cX9_sends 36 = .ok (.getfield 56, 3) := by decide +kernel
theorem dX9_sends_39 : decode cX9_sends 39 = .ok (.iconst 4, 1) := by decide +kernel
theorem dX9_sends_40 : decode cX9_sends 40 = .ok (.iload_n 3, 1) := by decide +kernel
theorem dX9_sends_41 : decode cX9_sends 41 = .ok (.imul, 1) := by decide +kernel
theorem dX9_sends_42 : decode cX9_sends 42 = .ok (.iconst 2, 1) := by decide +kernel
theorem dX9_sends_43 : decode cX9_sends 43 = .ok (.iadd, 1) := by decide +kernel
theorem dX9_sends_44 : decode cX9_sends 44 = .ok (.iaload, 1) := by decide +kernel
theorem dX9_sends_45 : decode cX9_sends 45 = .ok (.iload_n 2, 1) := by decide +kernel
theorem dX9_sends_46 : decode cX9_sends 46 = .ok (.if_icmp .ne 14, 3) := by decide +kernel
theorem dX9_sends_49 : decode cX9_sends 49 = .ok (.aload_n 0, 1) := by decide +kernel
theorem dX9_sends_50 : decode cX9_sends 50 = .ok (.getfield 56, 3) := by decide +kernel
theorem dX9_sends_53 : decode cX9_sends 53 = .ok (.iconst 4, 1) := by decide +kernel
theorem dX9_sends_54 : decode cX9_sends 54 = .ok (.iload_n 3, 1) := by decide +kernel
theorem dX9_sends_55 : decode cX9_sends 55 = .ok (.imul, 1) := by decide +kernel
theorem dX9_sends_56 : decode cX9_sends 56 = .ok (.iconst 3, 1) := by decide +kernel
theorem dX9_sends_57 : decode cX9_sends 57 = .ok (.iadd, 1) := by decide +kernel
theorem dX9_sends_58 : decode cX9_sends 58 = .ok (.iaload, 1) := by decide +kernel
theorem dX9_sends_59 : decode cX9_sends 59 = .ok (.ireturn, 1) := by decide +kernel
theorem dX9_sends_60 : decode cX9_sends 60 = .ok (.iinc 3 1, 3) := by decide +kernel
theorem dX9_sends_63 : decode cX9_sends 63 = .ok (.goto (-61), 3) := by decide +kernel
theorem dX9_sends_66 : decode cX9_sends 66 = .ok (.iconst (-1), 1) := by decide +kernel
theorem dX9_sends_67 : decode cX9_sends 67 = .ok (.ireturn, 1) := by decide +kernel
theorem dX9_owner_0 : decode cX9_owner 0 = .ok (.aload_n 0, 1) := by decide +kernel
theorem dX9_owner_1 : decode cX9_owner 1 = .ok (.getfield 34, 3) := by decide +kernel
theorem dX9_owner_4 : decode cX9_owner 4 = .ok (.iload_n 1, 1) := by decide +kernel
theorem dX9_owner_5 : decode cX9_owner 5 = .ok (.iaload, 1) := by decide +kernel
theorem dX9_owner_6 : decode cX9_owner 6 = .ok (.istore_n 2, 1) := by decide +kernel
theorem dX9_owner_7 : decode cX9_owner 7 = .ok (.aload_n 0, 1) := by decide +kernel
theorem dX9_owner_8 : decode cX9_owner 8 = .ok (.aload_n 0, 1) := by decide +kernel
theorem dX9_owner_9 : decode cX9_owner 9 = .ok (.getfield 7, 3) := by decide +kernel
theorem dX9_owner_12 : decode cX9_owner 12 = .ok (.iload_n 2, 1) := by decide +kernel
theorem dX9_owner_13 : decode cX9_owner 13 = .ok (.iaload, 1) := by decide +kernel
theorem dX9_owner_14 : decode cX9_owner 14 = .ok (.invokevirtual 182, 3) := by decide +kernel
theorem dX9_owner_17 : decode cX9_owner 17 = .ok (.istore_n 3, 1) := by decide +kernel
theorem dX9_owner_18 : decode cX9_owner 18 = .ok (.aload_n 0, 1) := by decide +kernel
theorem dX9_owner_19 : decode cX9_owner 19 = .ok (.iconst 0, 1) := by decide +kernel
theorem dX9_owner_20 : decode cX9_owner 20 = .ok (.putfield 185, 3) := by decide +kernel
theorem dX9_owner_23 : decode cX9_owner 23 = .ok (.iload_n 3, 1) := by decide +kernel
theorem dX9_owner_24 : decode cX9_owner 24 = .ok (.ifCond .ge 6, 3) := by decide +kernel
theorem dX9_owner_27 : decode cX9_owner 27 = .ok (.ldc 188, 2) := by decide +kernel
theorem dX9_owner_29 : decode cX9_owner 29 = .ok (.ireturn, 1) := by decide +kernel
theorem dX9_owner_30 : decode cX9_owner 30 = .ok (.aload_n 0, 1) := by decide +kernel
theorem dX9_owner_31 : decode cX9_owner 31 = .ok (.getfield 56, 3) := by decide +kernel
theorem dX9_owner_34 : decode cX9_owner 34 = .ok (.iconst 4, 1) := by decide +kernel
theorem dX9_owner_35 : decode cX9_owner 35 = .ok (.iload_n 3, 1) := by decide +kernel
theorem dX9_owner_36 : decode cX9_owner 36 = .ok (.imul, 1) := by decide +kernel
theorem dX9_owner_37 : decode cX9_owner 37 = .ok (.iconst 2, 1) := by decide +kernel
theorem dX9_owner_38 : decode cX9_owner 38 = .ok (.iadd, 1) := by decide +kernel
theorem dX9_owner_39 : decode cX9_owner 39 = .ok (.iaload, 1) := by decide +kernel
theorem dX9_owner_40 : decode cX9_owner 40 = .ok (.istore 4, 2) := by decide +kernel
theorem dX9_owner_42 : decode cX9_owner 42 = .ok (.iconst 1, 1) := by decide +kernel
theorem dX9_owner_43 : decode cX9_owner 43 = .ok (.iload 4, 2) := by decide +kernel
theorem dX9_owner_45 : decode cX9_owner 45 = .ok (.ishl, 1) := by decide +kernel
theorem dX9_owner_46 : decode cX9_owner 46 = .ok (.istore 5, 2) := by decide +kernel
theorem dX9_owner_48 : decode cX9_owner 48 = .ok (.aload_n 0, 1) := by decide +kernel
theorem dX9_owner_49 : decode cX9_owner 49 = .ok (.iload 4, 2) := by decide +kernel
theorem dX9_owner_51 : decode cX9_owner 51 = .ok (.aload_n 0, 1) := by decide +kernel
theorem dX9_owner_52 : decode cX9_owner 52 = .ok (.getfield 13, 3) := by decide +kernel
theorem dX9_owner_55 : decode cX9_owner 55 = .ok (.iload_n 2, 1) := by decide +kernel
theorem dX9_owner_56 : decode cX9_owner 56 = .ok (.iaload, 1) := by decide +kernel
theorem dX9_owner_57 : decode cX9_owner 57 = .ok (.aload_n 0, 1) := by decide +kernel
theorem dX9_owner_58 : decode cX9_owner 58 = .ok (.getfield 16, 3) := by decide +kernel
theorem dX9_owner_61 : decode cX9_owner 61 = .ok (.iload_n 2, 1) := by decide +kernel
theorem dX9_owner_62 : decode cX9_owner 62 = .ok (.iaload, 1) := by decide +kernel
theorem dX9_owner_63 : decode cX9_owner 63 = .ok (.invokestatic 156, 3) := by decide +kernel
theorem dX9_owner_66 : decode cX9_owner 66 = .ok (.invokevirtual 189, 3) := by decide +kernel
theorem dX9_owner_69 : decode cX9_owner 69 = .ok (.istore 6, 2) := by decide +kernel
theorem dX9_owner_71 : decode cX9_owner 71 = .ok (.iload 6, 2) := by decide +kernel
theorem dX9_owner_73 : decode cX9_owner 73 = .ok (.ifCond .lt 66, 3) := by decide +kernel
theorem dX9_owner_76 : decode cX9_owner 76 = .ok (.aload_n 0, 1) := by decide +kernel
theorem dX9_owner_77 : decode cX9_owner 77 = .ok (.dup, 1) := by decide +kernel
theorem dX9_owner_78 : decode cX9_owner 78 = .ok (.getfield 185, 3) := by decide +kernel
theorem dX9_owner_81 : decode cX9_owner 81 = .ok (.iconst 1, 1) := by decide +kernel
theorem dX9_owner_82 : decode cX9_owner 82 = .ok (.iadd, 1) := by decide +kernel
theorem dX9_owner_83 : decode cX9_owner 83 = .ok (.putfield 185, 3) := by decide +kernel
theorem dX9_owner_86 : decode cX9_owner 86 = .ok (.iload 5, 2) := by decide +kernel
theorem dX9_owner_88 : decode cX9_owner 88 = .ok (.iload 6, 2) := by decide +kernel
theorem dX9_owner_90 : decode cX9_owner 90 = .ok (.ishr, 1) := by decide +kernel
theorem dX9_owner_91 : decode cX9_owner 91 = .ok (.iconst 1, 1) := by decide +kernel
theorem dX9_owner_92 : decode cX9_owner 92 = .ok (.iand, 1) := by decide +kernel
theorem dX9_owner_93 : decode cX9_owner 93 = .ok (.iconst 1, 1) := by decide +kernel
theorem dX9_owner_94 : decode cX9_owner 94 = .ok (.if_icmp .ne 6, 3) := by decide +kernel
theorem dX9_owner_97 : decode cX9_owner 97 = .ok (.ldc 192, 2) := by decide +kernel
theorem dX9_owner_99 : decode cX9_owner 99 = .ok (.ireturn, 1) := by decide +kernel
theorem dX9_owner_100 : decode cX9_owner 100 = .ok (.iload 5, 2) := by decide +kernel
theorem dX9_owner_102 : decode cX9_owner 102 = .ok (.iconst 1, 1) := by decide +kernel
theorem dX9_owner_103 : decode cX9_owner 103 = .ok (.iload 6, 2) := by decide +kernel
theorem dX9_owner_105 : decode cX9_owner 105 = .ok (.ishl, 1) := by decide +kernel
theorem dX9_owner_106 : decode cX9_owner 106 = .ok (.ior, 1) := by decide +kernel
theorem dX9_owner_107 : decode cX9_owner 107 = .ok (.istore 5, 2) := by decide +kernel
theorem dX9_owner_109 : decode cX9_owner 109 = .ok (.iload 6, 2) := by decide +kernel
theorem dX9_owner_111 : decode cX9_owner 111 = .ok (.istore 4, 2) := by decide +kernel
theorem dX9_owner_113 : decode cX9_owner 113 = .ok (.aload_n 0, 1) := by decide +kernel
theorem dX9_owner_114 : decode cX9_owner 114 = .ok (.iload 4, 2) := by decide +kernel
theorem dX9_owner_116 : decode cX9_owner 116 = .ok (.aload_n 0, 1) := by decide +kernel
theorem dX9_owner_117 : decode cX9_owner 117 = .ok (.getfield 13, 3) := by decide +kernel
theorem dX9_owner_120 : decode cX9_owner 120 = .ok (.iload_n 2, 1) := by decide +kernel
theorem dX9_owner_121 : decode cX9_owner 121 = .ok (.iaload, 1) := by decide +kernel
theorem dX9_owner_122 : decode cX9_owner 122 = .ok (.aload_n 0, 1) := by decide +kernel
theorem dX9_owner_123 : decode cX9_owner 123 = .ok (.getfield 16, 3) := by decide +kernel
theorem dX9_owner_126 : decode cX9_owner 126 = .ok (.iload_n 2, 1) := by decide +kernel
theorem dX9_owner_127 : decode cX9_owner 127 = .ok (.iaload, 1) := by decide +kernel
theorem dX9_owner_128 : decode cX9_owner 128 = .ok (.invokestatic 156, 3) := by decide +kernel
theorem dX9_owner_131 : decode cX9_owner 131 = .ok (.invokevirtual 189, 3) := by decide +kernel
theorem dX9_owner_134 : decode cX9_owner 134 = .ok (.istore 6, 2) := by decide +kernel
theorem dX9_owner_136 : decode cX9_owner 136 = .ok (.goto (-65), 3) := by decide +kernel
theorem dX9_owner_139 : decode cX9_owner 139 = .ok (.iload 4, 2) := by decide +kernel
theorem dX9_owner_141 : decode cX9_owner 141 = .ok (.ireturn, 1) := by decide +kernel
theorem dX9_whose_0 : decode cX9_whose 0 = .ok (.aload_n 0, 1) := by decide +kernel
theorem dX9_whose_1 : decode cX9_whose 1 = .ok (.iload_n 1, 1) := by decide +kernel
theorem dX9_whose_2 : decode cX9_whose 2 = .ok (.invokevirtual 164, 3) := by decide +kernel
theorem dX9_whose_5 : decode cX9_whose 5 = .ok (.ifCond .ne 10, 3) := by decide +kernel
theorem dX9_whose_8 : decode cX9_whose 8 = .ok (.aload_n 0, 1) := by decide +kernel
theorem dX9_whose_9 : decode cX9_whose 9 = .ok (.ldc 144, 2) := by decide +kernel
theorem dX9_whose_11 : decode cX9_whose 11 = .ok (.invokevirtual 145, 3) := by decide +kernel
theorem dX9_whose_14 : decode cX9_whose 14 = .ok (.ireturn, 1) := by decide +kernel
theorem dX9_whose_15 : decode cX9_whose 15 = .ok (.aload_n 0, 1) := by decide +kernel
theorem dX9_whose_16 : decode cX9_whose 16 = .ok (.iload_n 1, 1) := by decide +kernel
theorem dX9_whose_17 : decode cX9_whose 17 = .ok (.invokevirtual 193, 3) := by decide +kernel
theorem dX9_whose_20 : decode cX9_whose 20 = .ok (.istore_n 2, 1) := by decide +kernel
theorem dX9_whose_21 : decode cX9_whose 21 = .ok (.iload_n 2, 1) := by decide +kernel
theorem dX9_whose_22 : decode cX9_whose 22 = .ok (.ifCond .ge 11, 3) := by decide +kernel
theorem dX9_whose_25 : decode cX9_whose 25 = .ok (.aload_n 0, 1) := by decide +kernel
theorem dX9_whose_26 : decode cX9_whose 26 = .ok (.iload_n 2, 1) := by decide +kernel
theorem dX9_whose_27 : decode cX9_whose 27 = .ok (.invokevirtual 145, 3) := by decide +kernel
theorem dX9_whose_30 : decode cX9_whose 30 = .ok (.goto 4, 3) := by decide +kernel
theorem dX9_whose_33 : decode cX9_whose 33 = .ok (.iload_n 2, 1) := by decide +kernel
theorem dX9_whose_34 : decode cX9_whose 34 = .ok (.ireturn, 1) := by decide +kernel
theorem dX9_promised_0 : decode cX9_promised 0 = .ok (.aload_n 0, 1) := by decide +kernel
theorem dX9_promised_1 : decode cX9_promised 1 = .ok (.aload_n 0, 1) := by decide +kernel
theorem dX9_promised_2 : decode cX9_promised 2 = .ok (.getfield 7, 3) := by decide +kernel
theorem dX9_promised_5 : decode cX9_promised 5 = .ok (.aload_n 0, 1) := by decide +kernel
theorem dX9_promised_6 : decode cX9_promised 6 = .ok (.getfield 34, 3) := by decide +kernel
theorem dX9_promised_9 : decode cX9_promised 9 = .ok (.iload_n 1, 1) := by decide +kernel
theorem dX9_promised_10 : decode cX9_promised 10 = .ok (.iaload, 1) := by decide +kernel
theorem dX9_promised_11 : decode cX9_promised 11 = .ok (.iaload, 1) := by decide +kernel
theorem dX9_promised_12 : decode cX9_promised 12 = .ok (.invokevirtual 182, 3) := by decide +kernel
theorem dX9_promised_15 : decode cX9_promised 15 = .ok (.istore_n 2, 1) := by decide +kernel
theorem dX9_promised_16 : decode cX9_promised 16 = .ok (.iload_n 2, 1) := by decide +kernel
theorem dX9_promised_17 : decode cX9_promised 17 = .ok (.ifCond .ge 7, 3) := by decide +kernel
theorem dX9_promised_20 : decode cX9_promised 20 = .ok (.iconst (-1), 1) := by decide +kernel
theorem dX9_promised_21 : decode cX9_promised 21 = .ok (.goto 25, 3) := by decide +kernel
theorem dX9_promised_24 : decode cX9_promised 24 = .ok (.aload_n 0, 1) := by decide +kernel
theorem dX9_promised_25 : decode cX9_promised 25 = .ok (.getfield 22, 3) := by decide +kernel
theorem dX9_promised_28 : decode cX9_promised 28 = .ok (.aload_n 0, 1) := by decide +kernel
theorem dX9_promised_29 : decode cX9_promised 29 = .ok (.getfield 34, 3) := by decide +kernel
theorem dX9_promised_32 : decode cX9_promised 32 = .ok (.iload_n 1, 1) := by decide +kernel
theorem dX9_promised_33 : decode cX9_promised 33 = .ok (.iaload, 1) := by decide +kernel
theorem dX9_promised_34 : decode cX9_promised 34 = .ok (.iaload, 1) := by decide +kernel
theorem dX9_promised_35 : decode cX9_promised 35 = .ok (.aload_n 0, 1) := by decide +kernel
theorem dX9_promised_36 : decode cX9_promised 36 = .ok (.getfield 56, 3) := by decide +kernel
theorem dX9_promised_39 : decode cX9_promised 39 = .ok (.iconst 4, 1) := by decide +kernel
theorem dX9_promised_40 : decode cX9_promised 40 = .ok (.iload_n 2, 1) := by decide +kernel
theorem dX9_promised_41 : decode cX9_promised 41 = .ok (.imul, 1) := by decide +kernel
theorem dX9_promised_42 : decode cX9_promised 42 = .ok (.iconst 3, 1) := by decide +kernel
theorem dX9_promised_43 : decode cX9_promised 43 = .ok (.iadd, 1) := by decide +kernel
theorem dX9_promised_44 : decode cX9_promised 44 = .ok (.iaload, 1) := by decide +kernel
theorem dX9_promised_45 : decode cX9_promised 45 = .ok (.iadd, 1) := by decide +kernel
theorem dX9_promised_46 : decode cX9_promised 46 = .ok (.ireturn, 1) := by decide +kernel
theorem dX9_promise_0 : decode cX9_promise 0 = .ok (.aload_n 0, 1) := by decide +kernel
theorem dX9_promise_1 : decode cX9_promise 1 = .ok (.iload_n 1, 1) := by decide +kernel
theorem dX9_promise_2 : decode cX9_promise 2 = .ok (.invokevirtual 164, 3) := by decide +kernel
theorem dX9_promise_5 : decode cX9_promise 5 = .ok (.ifCond .ne 10, 3) := by decide +kernel
theorem dX9_promise_8 : decode cX9_promise 8 = .ok (.aload_n 0, 1) := by decide +kernel
theorem dX9_promise_9 : decode cX9_promise 9 = .ok (.ldc 144, 2) := by decide +kernel
theorem dX9_promise_11 : decode cX9_promise 11 = .ok (.invokevirtual 145, 3) := by decide +kernel
theorem dX9_promise_14 : decode cX9_promise 14 = .ok (.ireturn, 1) := by decide +kernel
theorem dX9_promise_15 : decode cX9_promise 15 = .ok (.aload_n 0, 1) := by decide +kernel
theorem dX9_promise_16 : decode cX9_promise 16 = .ok (.iload_n 1, 1) := by decide +kernel
theorem dX9_promise_17 : decode cX9_promise 17 = .ok (.invokevirtual 196, 3) := by decide +kernel
theorem dX9_promise_20 : decode cX9_promise 20 = .ok (.istore_n 2, 1) := by decide +kernel
theorem dX9_promise_21 : decode cX9_promise 21 = .ok (.iload_n 2, 1) := by decide +kernel
theorem dX9_promise_22 : decode cX9_promise 22 = .ok (.ifCond .ge 12, 3) := by decide +kernel
theorem dX9_promise_25 : decode cX9_promise 25 = .ok (.aload_n 0, 1) := by decide +kernel
theorem dX9_promise_26 : decode cX9_promise 26 = .ok (.ldc 188, 2) := by decide +kernel
theorem dX9_promise_28 : decode cX9_promise 28 = .ok (.invokevirtual 145, 3) := by decide +kernel
theorem dX9_promise_31 : decode cX9_promise 31 = .ok (.goto 4, 3) := by decide +kernel
theorem dX9_promise_34 : decode cX9_promise 34 = .ok (.iload_n 2, 1) := by decide +kernel
theorem dX9_promise_35 : decode cX9_promise 35 = .ok (.ireturn, 1) := by decide +kernel
theorem dX9_sent_0 : decode cX9_sent 0 = .ok (.aload_n 0, 1) := by decide +kernel
theorem dX9_sent_1 : decode cX9_sent 1 = .ok (.iload_n 1, 1) := by decide +kernel
theorem dX9_sent_2 : decode cX9_sent 2 = .ok (.invokevirtual 164, 3) := by decide +kernel
theorem dX9_sent_5 : decode cX9_sent 5 = .ok (.ifCond .ne 10, 3) := by decide +kernel
theorem dX9_sent_8 : decode cX9_sent 8 = .ok (.aload_n 0, 1) := by decide +kernel
theorem dX9_sent_9 : decode cX9_sent 9 = .ok (.ldc 144, 2) := by decide +kernel
theorem dX9_sent_11 : decode cX9_sent 11 = .ok (.invokevirtual 145, 3) := by decide +kernel
theorem dX9_sent_14 : decode cX9_sent 14 = .ok (.ireturn, 1) := by decide +kernel
theorem dX9_sent_15 : decode cX9_sent 15 = .ok (.aload_n 0, 1) := by decide +kernel
theorem dX9_sent_16 : decode cX9_sent 16 = .ok (.iload_n 1, 1) := by decide +kernel
theorem dX9_sent_17 : decode cX9_sent 17 = .ok (.invokevirtual 193, 3) := by decide +kernel
theorem dX9_sent_20 : decode cX9_sent 20 = .ok (.ldc 188, 2) := by decide +kernel
theorem dX9_sent_22 : decode cX9_sent 22 = .ok (.if_icmp .ne 12, 3) := by decide +kernel
theorem dX9_sent_25 : decode cX9_sent 25 = .ok (.aload_n 0, 1) := by decide +kernel
theorem dX9_sent_26 : decode cX9_sent 26 = .ok (.ldc 188, 2) := by decide +kernel
theorem dX9_sent_28 : decode cX9_sent 28 = .ok (.invokevirtual 145, 3) := by decide +kernel
theorem dX9_sent_31 : decode cX9_sent 31 = .ok (.goto 7, 3) := by decide +kernel
theorem dX9_sent_34 : decode cX9_sent 34 = .ok (.aload_n 0, 1) := by decide +kernel
theorem dX9_sent_35 : decode cX9_sent 35 = .ok (.getfield 185, 3) := by decide +kernel
theorem dX9_sent_38 : decode cX9_sent 38 = .ok (.ireturn, 1) := by decide +kernel
theorem dX9_effort_0 : decode cX9_effort 0 = .ok (.iload_n 1, 1) := by decide +kernel
theorem dX9_effort_1 : decode cX9_effort 1 = .ok (.invokestatic 133, 3) := by decide +kernel
theorem dX9_effort_4 : decode cX9_effort 4 = .ok (.ifCond .eq 13, 3) := by decide +kernel
theorem dX9_effort_7 : decode cX9_effort 7 = .ok (.iload_n 2, 1) := by decide +kernel
theorem dX9_effort_8 : decode cX9_effort 8 = .ok (.iconst 1, 1) := by decide +kernel
theorem dX9_effort_9 : decode cX9_effort 9 = .ok (.bipush 40, 2) := by decide +kernel
theorem dX9_effort_11 : decode cX9_effort 11 = .ok (.invokestatic 111, 3) := by decide +kernel
theorem dX9_effort_14 : decode cX9_effort 14 = .ok (.ifCond .ne 10, 3) := by decide +kernel
theorem dX9_effort_17 : decode cX9_effort 17 = .ok (.aload_n 0, 1) := by decide +kernel
theorem dX9_effort_18 : decode cX9_effort 18 = .ok (.ldc 144, 2) := by decide +kernel
theorem dX9_effort_20 : decode cX9_effort 20 = .ok (.invokevirtual 145, 3) := by decide +kernel
theorem dX9_effort_23 : decode cX9_effort 23 = .ok (.ireturn, 1) := by decide +kernel
theorem dX9_effort_24 : decode cX9_effort 24 = .ok (.aload_n 0, 1) := by decide +kernel
theorem dX9_effort_25 : decode cX9_effort 25 = .ok (.getfield 59, 3) := by decide +kernel
theorem dX9_effort_28 : decode cX9_effort 28 = .ok (.iload_n 1, 1) := by decide +kernel
theorem dX9_effort_29 : decode cX9_effort 29 = .ok (.iaload, 1) := by decide +kernel
theorem dX9_effort_30 : decode cX9_effort 30 = .ok (.istore_n 3, 1) := by decide +kernel
theorem dX9_effort_31 : decode cX9_effort 31 = .ok (.aload_n 0, 1) := by decide +kernel
theorem dX9_effort_32 : decode cX9_effort 32 = .ok (.getfield 59, 3) := by decide +kernel
theorem dX9_effort_35 : decode cX9_effort 35 = .ok (.iload_n 1, 1) := by decide +kernel
theorem dX9_effort_36 : decode cX9_effort 36 = .ok (.iload_n 2, 1) := by decide +kernel
theorem dX9_effort_37 : decode cX9_effort 37 = .ok (.iastore, 1) := by decide +kernel
theorem dX9_effort_38 : decode cX9_effort 38 = .ok (.iload_n 3, 1) := by decide +kernel
theorem dX9_effort_39 : decode cX9_effort 39 = .ok (.ireturn, 1) := by decide +kernel
theorem dX9_isChosen_0 : decode cX9_isChosen 0 = .ok (.iconst 0, 1) := by decide +kernel
theorem dX9_isChosen_1 : decode cX9_isChosen 1 = .ok (.istore_n 3, 1) := by decide +kernel
theorem dX9_isChosen_2 : decode cX9_isChosen 2 = .ok (.iconst 0, 1) := by decide +kernel
theorem dX9_isChosen_3 : decode cX9_isChosen 3 = .ok (.istore 4, 2) := by decide +kernel
theorem dX9_isChosen_5 : decode cX9_isChosen 5 = .ok (.iload 4, 2) := by decide +kernel
theorem dX9_isChosen_7 : decode cX9_isChosen 7 = .ok (.iload_n 1, 1) := by decide +kernel
theorem dX9_isChosen_8 : decode cX9_isChosen 8 = .ok (.if_icmp .ge 30, 3) := by decide +kernel
theorem dX9_isChosen_11 : decode cX9_isChosen 11 = .ok (.iload_n 3, 1) := by decide +kernel
theorem dX9_isChosen_12 : decode cX9_isChosen 12 = .ok (.ifCond .ne 14, 3) := by decide +kernel
theorem dX9_isChosen_15 : decode cX9_isChosen 15 = .ok (.aload_n 0, 1) := by decide +kernel
theorem dX9_isChosen_16 : decode cX9_isChosen 16 = .ok (.getfield 98, 3) := by decide +kernel
theorem dX9_isChosen_19 : decode cX9_isChosen 19 = .ok (.iload 4, 2) := by decide +kernel
theorem dX9_isChosen_21 : decode cX9_isChosen 21 = .ok (.iaload, 1) := by decide +kernel
theorem dX9_isChosen_22 : decode cX9_isChosen 22 = .ok (.iload_n 2, 1) := by decide +kernel
theorem dX9_isChosen_23 : decode cX9_isChosen 23 = .ok (.if_icmp .ne 7, 3) := by decide +kernel
theorem dX9_isChosen_26 : decode cX9_isChosen 26 = .ok (.iconst 1, 1) := by decide +kernel
theorem dX9_isChosen_27 : decode cX9_isChosen 27 = .ok (.goto 4, 3) := by decide +kernel
theorem dX9_isChosen_30 : decode cX9_isChosen 30 = .ok (.iconst 0, 1) := by decide +kernel
theorem dX9_isChosen_31 : decode cX9_isChosen 31 = .ok (.istore_n 3, 1) := by decide +kernel
theorem dX9_isChosen_32 : decode cX9_isChosen 32 = .ok (.iinc 4 1, 3) := by decide +kernel
theorem dX9_isChosen_35 : decode cX9_isChosen 35 = .ok (.goto (-30), 3) := by decide +kernel
theorem dX9_isChosen_38 : decode cX9_isChosen 38 = .ok (.iload_n 3, 1) := by decide +kernel
theorem dX9_isChosen_39 : decode cX9_isChosen 39 = .ok (.ireturn, 1) := by decide +kernel
theorem dX9_takes_0 : decode cX9_takes 0 = .ok (.iconst 0, 1) := by decide +kernel
theorem dX9_takes_1 : decode cX9_takes 1 = .ok (.istore_n 3, 1) := by decide +kernel
theorem dX9_takes_2 : decode cX9_takes 2 = .ok (.iconst 0, 1) := by decide +kernel
theorem dX9_takes_3 : decode cX9_takes 3 = .ok (.istore 4, 2) := by decide +kernel
theorem dX9_takes_5 : decode cX9_takes 5 = .ok (.iload_n 1, 1) := by decide +kernel
theorem dX9_takes_6 : decode cX9_takes 6 = .ok (.bipush 32, 2) := by decide +kernel
theorem dX9_takes_8 : decode cX9_takes 8 = .ok (.idiv, 1) := by decide +kernel
theorem dX9_takes_9 : decode cX9_takes 9 = .ok (.istore 5, 2) := by decide +kernel
theorem dX9_takes_11 : decode cX9_takes 11 = .ok (.iload_n 1, 1) := by decide +kernel
theorem dX9_takes_12 : decode cX9_takes 12 = .ok (.bipush 32, 2) := by decide +kernel
theorem dX9_takes_14 : decode cX9_takes 14 = .ok (.irem, 1) := by decide +kernel
theorem dX9_takes_15 : decode cX9_takes 15 = .ok (.istore 6, 2) := by decide +kernel
theorem dX9_takes_17 : decode cX9_takes 17 = .ok (.iconst 0, 1) := by decide +kernel
theorem dX9_takes_18 : decode cX9_takes 18 = .ok (.istore 7, 2) := by decide +kernel
theorem dX9_takes_20 : decode cX9_takes 20 = .ok (.iload 7, 2) := by decide +kernel
theorem dX9_takes_22 : decode cX9_takes 22 = .ok (.aload_n 0, 1) := by decide +kernel
theorem dX9_takes_23 : decode cX9_takes 23 = .ok (.getfield 199, 3) := by decide +kernel
theorem dX9_takes_26 : decode cX9_takes 26 = .ok (.if_icmp .ge 130, 3) := by decide +kernel
theorem dX9_takes_29 : decode cX9_takes 29 = .ok (.aload_n 0, 1) := by decide +kernel
theorem dX9_takes_30 : decode cX9_takes 30 = .ok (.getfield 95, 3) := by decide +kernel
theorem dX9_takes_33 : decode cX9_takes 33 = .ok (.aload_n 0, 1) := by decide +kernel
theorem dX9_takes_34 : decode cX9_takes 34 = .ok (.getfield 98, 3) := by decide +kernel
theorem dX9_takes_37 : decode cX9_takes 37 = .ok (.iload 7, 2) := by decide +kernel
theorem dX9_takes_39 : decode cX9_takes 39 = .ok (.iaload, 1) := by decide +kernel
theorem dX9_takes_40 : decode cX9_takes 40 = .ok (.iaload, 1) := by decide +kernel
theorem dX9_takes_41 : decode cX9_takes 41 = .ok (.istore 8, 2) := by decide +kernel
theorem dX9_takes_43 : decode cX9_takes 43 = .ok (.aload_n 0, 1) := by decide +kernel
theorem dX9_takes_44 : decode cX9_takes 44 = .ok (.getfield 34, 3) := by decide +kernel
theorem dX9_takes_47 : decode cX9_takes 47 = .ok (.iload 8, 2) := by decide +kernel
theorem dX9_takes_49 : decode cX9_takes 49 = .ok (.iaload, 1) := by decide +kernel
theorem dX9_takes_50 : decode cX9_takes 50 = .ok (.istore 9, 2) := by decide +kernel
theorem dX9_takes_52 : decode cX9_takes 52 = .ok (.iload_n 3, 1) := by decide +kernel
theorem dX9_takes_53 : decode cX9_takes 53 = .ok (.iload 5, 2) := by decide +kernel
theorem dX9_takes_55 : decode cX9_takes 55 = .ok (.aload_n 0, 1) := by decide +kernel
theorem dX9_takes_56 : decode cX9_takes 56 = .ok (.getfield 13, 3) := by decide +kernel
theorem dX9_takes_59 : decode cX9_takes 59 = .ok (.iload 9, 2) := by decide +kernel
theorem dX9_takes_61 : decode cX9_takes 61 = .ok (.iaload, 1) := by decide +kernel
theorem dX9_takes_62 : decode cX9_takes 62 = .ok (.invokestatic 125, 3) := by decide +kernel
theorem dX9_takes_65 : decode cX9_takes 65 = .ok (.iload 6, 2) := by decide +kernel
theorem dX9_takes_67 : decode cX9_takes 67 = .ok (.aload_n 0, 1) := by decide +kernel
theorem dX9_takes_68 : decode cX9_takes 68 = .ok (.getfield 16, 3) := by decide +kernel
theorem dX9_takes_71 : decode cX9_takes 71 = .ok (.iload 9, 2) := by decide +kernel
theorem dX9_takes_73 : decode cX9_takes 73 = .ok (.iaload, 1) := by decide +kernel
theorem dX9_takes_74 : decode cX9_takes 74 = .ok (.invokestatic 125, 3) := by decide +kernel
theorem dX9_takes_77 : decode cX9_takes 77 = .ok (.iadd, 1) := by decide +kernel
theorem dX9_takes_78 : decode cX9_takes 78 = .ok (.bipush 8, 2) := by decide +kernel
theorem dX9_takes_80 : decode cX9_takes 80 = .ok (.idiv, 1) := by decide +kernel
theorem dX9_takes_81 : decode cX9_takes 81 = .ok (.aload_n 0, 1) := by decide +kernel
theorem dX9_takes_82 : decode cX9_takes 82 = .ok (.getfield 59, 3) := by decide +kernel
theorem dX9_takes_85 : decode cX9_takes 85 = .ok (.aload_n 0, 1) := by decide +kernel
theorem dX9_takes_86 : decode cX9_takes 86 = .ok (.getfield 7, 3) := by decide +kernel
theorem dX9_takes_89 : decode cX9_takes 89 = .ok (.iload 9, 2) := by decide +kernel
theorem dX9_takes_91 : decode cX9_takes 91 = .ok (.iaload, 1) := by decide +kernel
theorem dX9_takes_92 : decode cX9_takes 92 = .ok (.iaload, 1) := by decide +kernel
theorem dX9_takes_93 : decode cX9_takes 93 = .ok (.iadd, 1) := by decide +kernel
theorem dX9_takes_94 : decode cX9_takes 94 = .ok (.iadd, 1) := by decide +kernel
theorem dX9_takes_95 : decode cX9_takes 95 = .ok (.istore_n 3, 1) := by decide +kernel
theorem dX9_takes_96 : decode cX9_takes 96 = .ok (.aload_n 0, 1) := by decide +kernel
theorem dX9_takes_97 : decode cX9_takes 97 = .ok (.getfield 13, 3) := by decide +kernel
theorem dX9_takes_100 : decode cX9_takes 100 = .ok (.iload 9, 2) := by decide +kernel
theorem dX9_takes_102 : decode cX9_takes 102 = .ok (.iaload, 1) := by decide +kernel
theorem dX9_takes_103 : decode cX9_takes 103 = .ok (.istore 5, 2) := by decide +kernel
theorem dX9_takes_105 : decode cX9_takes 105 = .ok (.aload_n 0, 1) := by decide +kernel
theorem dX9_takes_106 : decode cX9_takes 106 = .ok (.getfield 16, 3) := by decide +kernel
theorem dX9_takes_109 : decode cX9_takes 109 = .ok (.iload 9, 2) := by decide +kernel
theorem dX9_takes_111 : decode cX9_takes 111 = .ok (.iaload, 1) := by decide +kernel
theorem dX9_takes_112 : decode cX9_takes 112 = .ok (.istore 6, 2) := by decide +kernel
theorem dX9_takes_114 : decode cX9_takes 114 = .ok (.aload_n 0, 1) := by decide +kernel
theorem dX9_takes_115 : decode cX9_takes 115 = .ok (.iload 8, 2) := by decide +kernel
theorem dX9_takes_117 : decode cX9_takes 117 = .ok (.invokevirtual 196, 3) := by decide +kernel
theorem dX9_takes_120 : decode cX9_takes 120 = .ok (.istore 10, 2) := by decide +kernel
theorem dX9_takes_122 : decode cX9_takes 122 = .ok (.iload 4, 2) := by decide +kernel
theorem dX9_takes_124 : decode cX9_takes 124 = .ok (.iload 10, 2) := by decide +kernel
theorem dX9_takes_126 : decode cX9_takes 126 = .ok (.ifCond .lt 20, 3) := by decide +kernel
theorem dX9_takes_129 : decode cX9_takes 129 = .ok (.iload_n 2, 1) := by decide +kernel
theorem dX9_takes_130 : decode cX9_takes 130 = .ok (.iload_n 3, 1) := by decide +kernel
theorem dX9_takes_131 : decode cX9_takes 131 = .ok (.iconst 1, 1) := by decide +kernel
theorem dX9_takes_132 : decode cX9_takes 132 = .ok (.isub, 1) := by decide +kernel
theorem dX9_takes_133 : decode cX9_takes 133 = .ok (.bipush 8, 2) := by decide +kernel
theorem dX9_takes_135 : decode cX9_takes 135 = .ok (.idiv, 1) := by decide +kernel
theorem dX9_takes_136 : decode cX9_takes 136 = .ok (.iadd, 1) := by decide +kernel
theorem dX9_takes_137 : decode cX9_takes 137 = .ok (.iload 10, 2) := by decide +kernel
theorem dX9_takes_139 : decode cX9_takes 139 = .ok (.if_icmp .le 7, 3) := by decide +kernel
theorem dX9_takes_142 : decode cX9_takes 142 = .ok (.iconst 1, 1) := by decide +kernel
theorem dX9_takes_143 : decode cX9_takes 143 = .ok (.goto 4, 3) := by decide +kernel
theorem dX9_takes_146 : decode cX9_takes 146 = .ok (.iconst 0, 1) := by decide +kernel
theorem dX9_takes_147 : decode cX9_takes 147 = .ok (.iadd, 1) := by decide +kernel
theorem dX9_takes_148 : decode cX9_takes 148 = .ok (.istore 4, 2) := by decide +kernel
theorem dX9_takes_150 : decode cX9_takes 150 = .ok (.iinc 7 1, 3) := by decide +kernel
theorem dX9_takes_153 : decode cX9_takes 153 = .ok (.goto (-133), 3) := by decide +kernel
theorem dX9_takes_156 : decode cX9_takes 156 = .ok (.aload_n 0, 1) := by decide +kernel
theorem dX9_takes_157 : decode cX9_takes 157 = .ok (.getfield 202, 3) := by decide +kernel
theorem dX9_takes_160 : decode cX9_takes 160 = .ok (.ifCond .lt 29, 3) := by decide +kernel
theorem dX9_takes_163 : decode cX9_takes 163 = .ok (.iload 4, 2) := by decide +kernel
theorem dX9_takes_165 : decode cX9_takes 165 = .ok (.aload_n 0, 1) := by decide +kernel
theorem dX9_takes_166 : decode cX9_takes 166 = .ok (.getfield 202, 3) := by decide +kernel
theorem dX9_takes_169 : decode cX9_takes 169 = .ok (.if_icmp .lt 20, 3) := by decide +kernel
theorem dX9_takes_172 : decode cX9_takes 172 = .ok (.iload 4, 2) := by decide +kernel
theorem dX9_takes_174 : decode cX9_takes 174 = .ok (.aload_n 0, 1) := by decide +kernel
theorem dX9_takes_175 : decode cX9_takes 175 = .ok (.getfield 202, 3) := by decide +kernel
theorem dX9_takes_178 : decode cX9_takes 178 = .ok (.if_icmp .ne 54, 3) := by decide +kernel
theorem dX9_takes_181 : decode cX9_takes 181 = .ok (.iload_n 3, 1) := by decide +kernel
theorem dX9_takes_182 : decode cX9_takes 182 = .ok (.aload_n 0, 1) := by decide +kernel
theorem dX9_takes_183 : decode cX9_takes 183 = .ok (.getfield 205, 3) := by decide +kernel
theorem dX9_takes_186 : decode cX9_takes 186 = .ok (.if_icmp .ge 46, 3) := by decide +kernel
theorem dX9_takes_189 : decode cX9_takes 189 = .ok (.aload_n 0, 1) := by decide +kernel
theorem dX9_takes_190 : decode cX9_takes 190 = .ok (.iload 4, 2) := by decide +kernel
theorem dX9_takes_192 : decode cX9_takes 192 = .ok (.putfield 202, 3) := by decide +kernel
theorem dX9_takes_195 : decode cX9_takes 195 = .ok (.aload_n 0, 1) := by decide +kernel
theorem dX9_takes_196 : decode cX9_takes 196 = .ok (.iload_n 3, 1) := by decide +kernel
theorem dX9_takes_197 : decode cX9_takes 197 = .ok (.putfield 205, 3) := by decide +kernel
theorem dX9_takes_200 : decode cX9_takes 200 = .ok (.iconst 0, 1) := by decide +kernel
theorem dX9_takes_201 : decode cX9_takes 201 = .ok (.istore 7, 2) := by decide +kernel
theorem dX9_takes_203 : decode cX9_takes 203 = .ok (.iload 7, 2) := by decide +kernel
theorem dX9_takes_205 : decode cX9_takes 205 = .ok (.aload_n 0, 1) := by decide +kernel
theorem dX9_takes_206 : decode cX9_takes 206 = .ok (.getfield 199, 3) := by decide +kernel
theorem dX9_takes_209 : decode cX9_takes 209 = .ok (.if_icmp .ge 23, 3) := by decide +kernel
theorem dX9_takes_212 : decode cX9_takes 212 = .ok (.aload_n 0, 1) := by decide +kernel
theorem dX9_takes_213 : decode cX9_takes 213 = .ok (.getfield 101, 3) := by decide +kernel
theorem dX9_takes_216 : decode cX9_takes 216 = .ok (.iload 7, 2) := by decide +kernel
theorem dX9_takes_218 : decode cX9_takes 218 = .ok (.aload_n 0, 1) := by decide +kernel
theorem dX9_takes_219 : decode cX9_takes 219 = .ok (.getfield 98, 3) := by decide +kernel
theorem dX9_takes_222 : decode cX9_takes 222 = .ok (.iload 7, 2) := by decide +kernel
theorem dX9_takes_224 : decode cX9_takes 224 = .ok (.iaload, 1) := by decide +kernel
theorem dX9_takes_225 : decode cX9_takes 225 = .ok (.iastore, 1) := by decide +kernel
theorem dX9_takes_226 : decode cX9_takes 226 = .ok (.iinc 7 1, 3) := by decide +kernel
theorem dX9_takes_229 : decode cX9_takes 229 = .ok (.goto (-26), 3) := by decide +kernel
theorem dX9_takes_232 : decode cX9_takes 232 = .ok (.return_, 1) := by decide +kernel
theorem dX9_findOrder_0 : decode cX9_findOrder 0 = .ok (.aload_n 0, 1) := by decide +kernel
theorem dX9_findOrder_1 : decode cX9_findOrder 1 = .ok (.iconst (-1), 1) := by decide +kernel
theorem dX9_findOrder_2 : decode cX9_findOrder 2 = .ok (.putfield 202, 3) := by decide +kernel
theorem dX9_findOrder_5 : decode cX9_findOrder 5 = .ok (.aload_n 0, 1) := by decide +kernel
theorem dX9_findOrder_6 : decode cX9_findOrder 6 = .ok (.iconst 0, 1) := by decide +kernel
theorem dX9_findOrder_7 : decode cX9_findOrder 7 = .ok (.putfield 205, 3) := by decide +kernel
theorem dX9_findOrder_10 : decode cX9_findOrder 10 = .ok (.iconst 0, 1) := by decide +kernel
theorem dX9_findOrder_11 : decode cX9_findOrder 11 = .ok (.istore_n 3, 1) := by decide +kernel
theorem dX9_findOrder_12 : decode cX9_findOrder 12 = .ok (.aload_n 0, 1) := by decide +kernel
theorem dX9_findOrder_13 : decode cX9_findOrder 13 = .ok (.getfield 98, 3) := by decide +kernel
theorem dX9_findOrder_16 : decode cX9_findOrder 16 = .ok (.iconst 0, 1) := by decide +kernel
theorem dX9_findOrder_17 : decode cX9_findOrder 17 = .ok (.iconst (-1), 1) := by decide +kernel
theorem dX9_findOrder_18 : decode cX9_findOrder 18 = .ok (.iastore, 1) := by decide +kernel
theorem dX9_findOrder_19 : decode cX9_findOrder 19 = .ok (.iload_n 3, 1) := by decide +kernel
theorem dX9_findOrder_20 : decode cX9_findOrder 20 = .ok (.ifCond .lt 81, 3) := by decide +kernel
theorem dX9_findOrder_23 : decode cX9_findOrder 23 = .ok (.aload_n 0, 1) := by decide +kernel
theorem dX9_findOrder_24 : decode cX9_findOrder 24 = .ok (.getfield 98, 3) := by decide +kernel
theorem dX9_findOrder_27 : decode cX9_findOrder 27 = .ok (.iload_n 3, 1) := by decide +kernel
theorem dX9_findOrder_28 : decode cX9_findOrder 28 = .ok (.dup2, 1) := by decide +kernel
theorem dX9_findOrder_29 : decode cX9_findOrder 29 = .ok (.iaload, 1) := by decide +kernel
theorem dX9_findOrder_30 : decode cX9_findOrder 30 = .ok (.iconst 1, 1) := by decide +kernel
theorem dX9_findOrder_31 : decode cX9_findOrder 31 = .ok (.iadd, 1) := by decide +kernel
theorem dX9_findOrder_32 : decode cX9_findOrder 32 = .ok (.iastore, 1) := by decide +kernel
theorem dX9_findOrder_33 : decode cX9_findOrder 33 = .ok (.aload_n 0, 1) := by decide +kernel
theorem dX9_findOrder_34 : decode cX9_findOrder 34 = .ok (.getfield 98, 3) := by decide +kernel
theorem dX9_findOrder_37 : decode cX9_findOrder 37 = .ok (.iload_n 3, 1) := by decide +kernel
theorem dX9_findOrder_38 : decode cX9_findOrder 38 = .ok (.iaload, 1) := by decide +kernel
theorem dX9_findOrder_39 : decode cX9_findOrder 39 = .ok (.aload_n 0, 1) := by decide +kernel
theorem dX9_findOrder_40 : decode cX9_findOrder 40 = .ok (.getfield 199, 3) := by decide +kernel
theorem dX9_findOrder_43 : decode cX9_findOrder 43 = .ok (.if_icmp .ne 9, 3) := by decide +kernel
theorem dX9_findOrder_46 : decode cX9_findOrder 46 = .ok (.iinc 3 (-1), 3) := by decide +kernel
theorem dX9_findOrder_49 : decode cX9_findOrder 49 = .ok (.goto (-30), 3) := by decide +kernel
theorem dX9_findOrder_52 : decode cX9_findOrder 52 = .ok (.aload_n 0, 1) := by decide +kernel
theorem dX9_findOrder_53 : decode cX9_findOrder 53 = .ok (.iload_n 3, 1) := by decide +kernel
theorem dX9_findOrder_54 : decode cX9_findOrder 54 = .ok (.aload_n 0, 1) := by decide +kernel
theorem dX9_findOrder_55 : decode cX9_findOrder 55 = .ok (.getfield 98, 3) := by decide +kernel
theorem dX9_findOrder_58 : decode cX9_findOrder 58 = .ok (.iload_n 3, 1) := by decide +kernel
theorem dX9_findOrder_59 : decode cX9_findOrder 59 = .ok (.iaload, 1) := by decide +kernel
theorem dX9_findOrder_60 : decode cX9_findOrder 60 = .ok (.invokevirtual 208, 3) := by decide +kernel
theorem dX9_findOrder_63 : decode cX9_findOrder 63 = .ok (.ifCond .eq 6, 3) := by decide +kernel
theorem dX9_findOrder_66 : decode cX9_findOrder 66 = .ok (.goto (-47), 3) := by decide +kernel
theorem dX9_findOrder_69 : decode cX9_findOrder 69 = .ok (.iload_n 3, 1) := by decide +kernel
theorem dX9_findOrder_70 : decode cX9_findOrder 70 = .ok (.iconst 1, 1) := by decide +kernel
theorem dX9_findOrder_71 : decode cX9_findOrder 71 = .ok (.iadd, 1) := by decide +kernel
theorem dX9_findOrder_72 : decode cX9_findOrder 72 = .ok (.aload_n 0, 1) := by decide +kernel
theorem dX9_findOrder_73 : decode cX9_findOrder 73 = .ok (.getfield 199, 3) := by decide +kernel
theorem dX9_findOrder_76 : decode cX9_findOrder 76 = .ok (.if_icmp .ne 12, 3) := by decide +kernel
theorem dX9_findOrder_79 : decode cX9_findOrder 79 = .ok (.aload_n 0, 1) := by decide +kernel
theorem dX9_findOrder_80 : decode cX9_findOrder 80 = .ok (.iload_n 1, 1) := by decide +kernel
theorem dX9_findOrder_81 : decode cX9_findOrder 81 = .ok (.iload_n 2, 1) := by decide +kernel
theorem dX9_findOrder_82 : decode cX9_findOrder 82 = .ok (.invokevirtual 211, 3) := by decide +kernel
theorem dX9_findOrder_85 : decode cX9_findOrder 85 = .ok (.goto (-66), 3) := by decide +kernel
theorem dX9_findOrder_88 : decode cX9_findOrder 88 = .ok (.iinc 3 1, 3) := by decide +kernel
theorem dX9_findOrder_91 : decode cX9_findOrder 91 = .ok (.aload_n 0, 1) := by decide +kernel
theorem dX9_findOrder_92 : decode cX9_findOrder 92 = .ok (.getfield 98, 3) := by decide +kernel
theorem dX9_findOrder_95 : decode cX9_findOrder 95 = .ok (.iload_n 3, 1) := by decide +kernel
theorem dX9_findOrder_96 : decode cX9_findOrder 96 = .ok (.iconst (-1), 1) := by decide +kernel
theorem dX9_findOrder_97 : decode cX9_findOrder 97 = .ok (.iastore, 1) := by decide +kernel
theorem dX9_findOrder_98 : decode cX9_findOrder 98 = .ok (.goto (-79), 3) := by decide +kernel
theorem dX9_findOrder_101 : decode cX9_findOrder 101 = .ok (.return_, 1) := by decide +kernel
theorem dX9_order_0 : decode cX9_order 0 = .ok (.iload_n 1, 1) := by decide +kernel
theorem dX9_order_1 : decode cX9_order 1 = .ok (.ifCond .lt 38, 3) := by decide +kernel
theorem dX9_order_4 : decode cX9_order 4 = .ok (.iload_n 3, 1) := by decide +kernel
theorem dX9_order_5 : decode cX9_order 5 = .ok (.iconst 0, 1) := by decide +kernel
theorem dX9_order_6 : decode cX9_order 6 = .ok (.sipush 1023, 3) := by decide +kernel
theorem dX9_order_9 : decode cX9_order 9 = .ok (.invokestatic 111, 3) := by decide +kernel
theorem dX9_order_12 : decode cX9_order 12 = .ok (.ifCond .eq 27, 3) := by decide +kernel
theorem dX9_order_15 : decode cX9_order 15 = .ok (.iload 4, 2) := by decide +kernel
theorem dX9_order_17 : decode cX9_order 17 = .ok (.invokestatic 137, 3) := by decide +kernel
theorem dX9_order_20 : decode cX9_order 20 = .ok (.ifCond .eq 19, 3) := by decide +kernel
theorem dX9_order_23 : decode cX9_order 23 = .ok (.iload 5, 2) := by decide +kernel
theorem dX9_order_25 : decode cX9_order 25 = .ok (.ifCond .lt 14, 3) := by decide +kernel
theorem dX9_order_28 : decode cX9_order 28 = .ok (.iload_n 2, 1) := by decide +kernel
theorem dX9_order_29 : decode cX9_order 29 = .ok (.iconst 1, 1) := by decide +kernel
theorem dX9_order_30 : decode cX9_order 30 = .ok (.sipush 255, 3) := by decide +kernel
theorem dX9_order_33 : decode cX9_order 33 = .ok (.invokestatic 111, 3) := by decide +kernel
theorem dX9_order_36 : decode cX9_order 36 = .ok (.ifCond .ne 10, 3) := by decide +kernel
theorem dX9_order_39 : decode cX9_order 39 = .ok (.aload_n 0, 1) := by decide +kernel
theorem dX9_order_40 : decode cX9_order 40 = .ok (.ldc 144, 2) := by decide +kernel
theorem dX9_order_42 : decode cX9_order 42 = .ok (.invokevirtual 145, 3) := by decide +kernel
theorem dX9_order_45 : decode cX9_order 45 = .ok (.ireturn, 1) := by decide +kernel
theorem dX9_order_46 : decode cX9_order 46 = .ok (.iconst 0, 1) := by decide +kernel
theorem dX9_order_47 : decode cX9_order 47 = .ok (.istore 6, 2) := by decide +kernel
theorem dX9_order_49 : decode cX9_order 49 = .ok (.iconst 0, 1) := by decide +kernel
theorem dX9_order_50 : decode cX9_order 50 = .ok (.istore 7, 2) := by decide +kernel
theorem dX9_order_52 : decode cX9_order 52 = .ok (.iload 7, 2) := by decide +kernel
theorem dX9_order_54 : decode cX9_order 54 = .ok (.bipush 8, 2) := by decide +kernel
theorem dX9_order_56 : decode cX9_order 56 = .ok (.if_icmp .ge 48, 3) := by decide +kernel
theorem dX9_order_59 : decode cX9_order 59 = .ok (.iload_n 2, 1) := by decide +kernel
theorem dX9_order_60 : decode cX9_order 60 = .ok (.iload 7, 2) := by decide +kernel
theorem dX9_order_62 : decode cX9_order 62 = .ok (.ishr, 1) := by decide +kernel
theorem dX9_order_63 : decode cX9_order 63 = .ok (.iconst 1, 1) := by decide +kernel
theorem dX9_order_64 : decode cX9_order 64 = .ok (.iand, 1) := by decide +kernel
theorem dX9_order_65 : decode cX9_order 65 = .ok (.iconst 1, 1) := by decide +kernel
theorem dX9_order_66 : decode cX9_order 66 = .ok (.if_icmp .ne 32, 3) := by decide +kernel
theorem dX9_order_69 : decode cX9_order 69 = .ok (.iload_n 1, 1) := by decide +kernel
theorem dX9_order_70 : decode cX9_order 70 = .ok (.aload_n 0, 1) := by decide +kernel
theorem dX9_order_71 : decode cX9_order 71 = .ok (.getfield 118, 3) := by decide +kernel
theorem dX9_order_74 : decode cX9_order 74 = .ok (.if_icmp .ge 14, 3) := by decide +kernel
theorem dX9_order_77 : decode cX9_order 77 = .ok (.iload_n 1, 1) := by decide +kernel
theorem dX9_order_78 : decode cX9_order 78 = .ok (.iload 7, 2) := by decide +kernel
theorem dX9_order_80 : decode cX9_order 80 = .ok (.iadd, 1) := by decide +kernel
theorem dX9_order_81 : decode cX9_order 81 = .ok (.aload_n 0, 1) := by decide +kernel
theorem dX9_order_82 : decode cX9_order 82 = .ok (.getfield 118, 3) := by decide +kernel
theorem dX9_order_85 : decode cX9_order 85 = .ok (.if_icmp .lt 10, 3) := by decide +kernel
theorem dX9_order_88 : decode cX9_order 88 = .ok (.aload_n 0, 1) := by decide +kernel
theorem dX9_order_89 : decode cX9_order 89 = .ok (.ldc 144, 2) := by decide +kernel
theorem dX9_order_91 : decode cX9_order 91 = .ok (.invokevirtual 145, 3) := by decide +kernel
theorem dX9_order_94 : decode cX9_order 94 = .ok (.ireturn, 1) := by decide +kernel
theorem dX9_order_95 : decode cX9_order 95 = .ok (.iinc 6 1, 3) := by decide +kernel
theorem dX9_order_98 : decode cX9_order 98 = .ok (.iinc 7 1, 3) := by decide +kernel
theorem dX9_order_101 : decode cX9_order 101 = .ok (.goto (-49), 3) := by decide +kernel
theorem dX9_order_104 : decode cX9_order 104 = .ok (.iload 6, 2) := by decide +kernel
theorem dX9_order_106 : decode cX9_order 106 = .ok (.bipush 6, 2) := by decide +kernel
theorem dX9_order_108 : decode cX9_order 108 = .ok (.if_icmp .le 10, 3) := by decide +kernel
theorem dX9_order_111 : decode cX9_order 111 = .ok (.aload_n 0, 1) := by decide +kernel
theorem dX9_order_112 : decode cX9_order 112 = .ok (.ldc 163, 2) := by decide +kernel
theorem dX9_order_114 : decode cX9_order 114 = .ok (.invokevirtual 145, 3) := by decide +kernel
theorem dX9_order_117 : decode cX9_order 117 = .ok (.ireturn, 1) := by decide +kernel
theorem dX9_order_118 : decode cX9_order 118 = .ok (.aload_n 0, 1) := by decide +kernel
theorem dX9_order_119 : decode cX9_order 119 = .ok (.iconst 0, 1) := by decide +kernel
theorem dX9_order_120 : decode cX9_order 120 = .ok (.putfield 199, 3) := by decide +kernel
theorem dX9_order_123 : decode cX9_order 123 = .ok (.iconst 0, 1) := by decide +kernel
theorem dX9_order_124 : decode cX9_order 124 = .ok (.istore 7, 2) := by decide +kernel
theorem dX9_order_126 : decode cX9_order 126 = .ok (.iload 7, 2) := by decide +kernel
theorem dX9_order_128 : decode cX9_order 128 = .ok (.bipush 8, 2) := by decide +kernel
theorem dX9_order_130 : decode cX9_order 130 = .ok (.if_icmp .ge 42, 3) := by decide +kernel
theorem dX9_order_133 : decode cX9_order 133 = .ok (.iload_n 2, 1) := by decide +kernel
theorem dX9_order_134 : decode cX9_order 134 = .ok (.iload 7, 2) := by decide +kernel
theorem dX9_order_136 : decode cX9_order 136 = .ok (.ishr, 1) := by decide +kernel
theorem dX9_order_137 : decode cX9_order 137 = .ok (.iconst 1, 1) := by decide +kernel
theorem dX9_order_138 : decode cX9_order 138 = .ok (.iand, 1) := by decide +kernel
theorem dX9_order_139 : decode cX9_order 139 = .ok (.iconst 1, 1) := by decide +kernel
theorem dX9_order_140 : decode cX9_order 140 = .ok (.if_icmp .ne 26, 3) := by decide +kernel
theorem dX9_order_143 : decode cX9_order 143 = .ok (.aload_n 0, 1) := by decide +kernel
theorem dX9_order_144 : decode cX9_order 144 = .ok (.getfield 95, 3) := by decide +kernel
theorem dX9_order_147 : decode cX9_order 147 = .ok (.aload_n 0, 1) := by decide +kernel
theorem dX9_order_148 : decode cX9_order 148 = .ok (.getfield 199, 3) := by decide +kernel
theorem dX9_order_151 : decode cX9_order 151 = .ok (.iload_n 1, 1) := by decide +kernel
theorem dX9_order_152 : decode cX9_order 152 = .ok (.iload 7, 2) := by decide +kernel
theorem dX9_order_154 : decode cX9_order 154 = .ok (.iadd, 1) := by decide +kernel
theorem dX9_order_155 : decode cX9_order 155 = .ok (.iastore, 1) := by decide +kernel
theorem dX9_order_156 : decode cX9_order 156 = .ok (.aload_n 0, 1) := by decide +kernel
theorem dX9_order_157 : decode cX9_order 157 = .ok (.dup, 1) := by decide +kernel
theorem dX9_order_158 : decode cX9_order 158 = .ok (.getfield 199, 3) := by decide +kernel
theorem dX9_order_161 : decode cX9_order 161 = .ok (.iconst 1, 1) := by decide +kernel
theorem dX9_order_162 : decode cX9_order 162 = .ok (.iadd, 1) := by decide +kernel
theorem dX9_order_163 : decode cX9_order 163 = .ok (.putfield 199, 3) := by decide +kernel
theorem dX9_order_166 : decode cX9_order 166 = .ok (.iinc 7 1, 3) := by decide +kernel
theorem dX9_order_169 : decode cX9_order 169 = .ok (.goto (-43), 3) := by decide +kernel
theorem dX9_order_172 : decode cX9_order 172 = .ok (.aload_n 0, 1) := by decide +kernel
theorem dX9_order_173 : decode cX9_order 173 = .ok (.iload_n 3, 1) := by decide +kernel
theorem dX9_order_174 : decode cX9_order 174 = .ok (.iload 4, 2) := by decide +kernel
theorem dX9_order_176 : decode cX9_order 176 = .ok (.invokevirtual 215, 3) := by decide +kernel
theorem dX9_order_179 : decode cX9_order 179 = .ok (.iload 5, 2) := by decide +kernel
theorem dX9_order_181 : decode cX9_order 181 = .ok (.iconst 2, 1) := by decide +kernel
theorem dX9_order_182 : decode cX9_order 182 = .ok (.if_icmp .ge 20, 3) := by decide +kernel
theorem dX9_order_185 : decode cX9_order 185 = .ok (.iload 5, 2) := by decide +kernel
theorem dX9_order_187 : decode cX9_order 187 = .ok (.ifCond .ne 10, 3) := by decide +kernel
theorem dX9_order_190 : decode cX9_order 190 = .ok (.aload_n 0, 1) := by decide +kernel
theorem dX9_order_191 : decode cX9_order 191 = .ok (.getfield 202, 3) := by decide +kernel
theorem dX9_order_194 : decode cX9_order 194 = .ok (.goto 7, 3) := by decide +kernel
theorem dX9_order_197 : decode cX9_order 197 = .ok (.aload_n 0, 1) := by decide +kernel
theorem dX9_order_198 : decode cX9_order 198 = .ok (.getfield 205, 3) := by decide +kernel
theorem dX9_order_201 : decode cX9_order 201 = .ok (.ireturn, 1) := by decide +kernel
theorem dX9_order_202 : decode cX9_order 202 = .ok (.iload 5, 2) := by decide +kernel
theorem dX9_order_204 : decode cX9_order 204 = .ok (.iconst 2, 1) := by decide +kernel
theorem dX9_order_205 : decode cX9_order 205 = .ok (.isub, 1) := by decide +kernel
theorem dX9_order_206 : decode cX9_order 206 = .ok (.aload_n 0, 1) := by decide +kernel
theorem dX9_order_207 : decode cX9_order 207 = .ok (.getfield 199, 3) := by decide +kernel
theorem dX9_order_210 : decode cX9_order 210 = .ok (.if_icmp .ge 20, 3) := by decide +kernel
theorem dX9_order_213 : decode cX9_order 213 = .ok (.aload_n 0, 1) := by decide +kernel
theorem dX9_order_214 : decode cX9_order 214 = .ok (.getfield 95, 3) := by decide +kernel
theorem dX9_order_217 : decode cX9_order 217 = .ok (.aload_n 0, 1) := by decide +kernel
theorem dX9_order_218 : decode cX9_order 218 = .ok (.getfield 101, 3) := by decide +kernel
theorem dX9_order_221 : decode cX9_order 221 = .ok (.iload 5, 2) := by decide +kernel
theorem dX9_order_223 : decode cX9_order 223 = .ok (.iconst 2, 1) := by decide +kernel
theorem dX9_order_224 : decode cX9_order 224 = .ok (.isub, 1) := by decide +kernel
theorem dX9_order_225 : decode cX9_order 225 = .ok (.iaload, 1) := by decide +kernel
theorem dX9_order_226 : decode cX9_order 226 = .ok (.iaload, 1) := by decide +kernel
theorem dX9_order_227 : decode cX9_order 227 = .ok (.goto 4, 3) := by decide +kernel
theorem dX9_order_230 : decode cX9_order 230 = .ok (.iconst (-1), 1) := by decide +kernel
theorem dX9_order_231 : decode cX9_order 231 = .ok (.ireturn, 1) := by decide +kernel
theorem dX9_close_0 : decode cX9_close 0 = .ok (.aload_n 0, 1) := by decide +kernel
theorem dX9_close_1 : decode cX9_close 1 = .ok (.iload_n 1, 1) := by decide +kernel
theorem dX9_close_2 : decode cX9_close 2 = .ok (.invokevirtual 164, 3) := by decide +kernel
theorem dX9_close_5 : decode cX9_close 5 = .ok (.ifCond .eq 10, 3) := by decide +kernel
theorem dX9_close_8 : decode cX9_close 8 = .ok (.iload_n 2, 1) := by decide +kernel
theorem dX9_close_9 : decode cX9_close 9 = .ok (.invokestatic 137, 3) := by decide +kernel
theorem dX9_close_12 : decode cX9_close 12 = .ok (.ifCond .ne 10, 3) := by decide +kernel
theorem dX9_close_15 : decode cX9_close 15 = .ok (.aload_n 0, 1) := by decide +kernel
theorem dX9_close_16 : decode cX9_close 16 = .ok (.ldc 144, 2) := by decide +kernel
theorem dX9_close_18 : decode cX9_close 18 = .ok (.invokevirtual 145, 3) := by decide +kernel
theorem dX9_close_21 : decode cX9_close 21 = .ok (.ireturn, 1) := by decide +kernel
theorem dX9_close_22 : decode cX9_close 22 = .ok (.aload_n 0, 1) := by decide +kernel
theorem dX9_close_23 : decode cX9_close 23 = .ok (.getfield 37, 3) := by decide +kernel
theorem dX9_close_26 : decode cX9_close 26 = .ok (.iload_n 1, 1) := by decide +kernel
theorem dX9_close_27 : decode cX9_close 27 = .ok (.baload, 1) := by decide +kernel
theorem dX9_close_28 : decode cX9_close 28 = .ok (.ifCond .eq 18, 3) := by decide +kernel
theorem dX9_close_31 : decode cX9_close 31 = .ok (.iload_n 2, 1) := by decide +kernel
theorem dX9_close_32 : decode cX9_close 32 = .ok (.aload_n 0, 1) := by decide +kernel
theorem dX9_close_33 : decode cX9_close 33 = .ok (.getfield 22, 3) := by decide +kernel
theorem dX9_close_36 : decode cX9_close 36 = .ok (.aload_n 0, 1) := by decide +kernel
theorem dX9_close_37 : decode cX9_close 37 = .ok (.getfield 34, 3) := by decide +kernel
theorem dX9_close_40 : decode cX9_close 40 = .ok (.iload_n 1, 1) := by decide +kernel
theorem dX9_close_41 : decode cX9_close 41 = .ok (.iaload, 1) := by decide +kernel
theorem dX9_close_42 : decode cX9_close 42 = .ok (.iaload, 1) := by decide +kernel
theorem dX9_close_43 : decode cX9_close 43 = .ok (.if_icmp .ge 10, 3) := by decide +kernel
theorem dX9_close_46 : decode cX9_close 46 = .ok (.aload_n 0, 1) := by decide +kernel
theorem dX9_close_47 : decode cX9_close 47 = .ok (.ldc 218, 2) := by decide +kernel
theorem dX9_close_49 : decode cX9_close 49 = .ok (.invokevirtual 145, 3) := by decide +kernel
theorem dX9_close_52 : decode cX9_close 52 = .ok (.ireturn, 1) := by decide +kernel
theorem dX9_close_53 : decode cX9_close 53 = .ok (.aload_n 0, 1) := by decide +kernel
theorem dX9_close_54 : decode cX9_close 54 = .ok (.iload_n 1, 1) := by decide +kernel
theorem dX9_close_55 : decode cX9_close 55 = .ok (.invokevirtual 193, 3) := by decide +kernel
theorem dX9_close_58 : decode cX9_close 58 = .ok (.istore_n 3, 1) := by decide +kernel
theorem dX9_close_59 : decode cX9_close 59 = .ok (.iload_n 3, 1) := by decide +kernel
theorem dX9_close_60 : decode cX9_close 60 = .ok (.ifCond .ge 9, 3) := by decide +kernel
theorem dX9_close_63 : decode cX9_close 63 = .ok (.aload_n 0, 1) := by decide +kernel
theorem dX9_close_64 : decode cX9_close 64 = .ok (.iload_n 3, 1) := by decide +kernel
theorem dX9_close_65 : decode cX9_close 65 = .ok (.invokevirtual 145, 3) := by decide +kernel
theorem dX9_close_68 : decode cX9_close 68 = .ok (.ireturn, 1) := by decide +kernel
theorem dX9_close_69 : decode cX9_close 69 = .ok (.aload_n 0, 1) := by decide +kernel
theorem dX9_close_70 : decode cX9_close 70 = .ok (.getfield 37, 3) := by decide +kernel
theorem dX9_close_73 : decode cX9_close 73 = .ok (.iload_n 1, 1) := by decide +kernel
theorem dX9_close_74 : decode cX9_close 74 = .ok (.iconst 0, 1) := by decide +kernel
theorem dX9_close_75 : decode cX9_close 75 = .ok (.bastore, 1) := by decide +kernel
theorem dX9_close_76 : decode cX9_close 76 = .ok (.aload_n 0, 1) := by decide +kernel
theorem dX9_close_77 : decode cX9_close 77 = .ok (.getfield 50, 3) := by decide +kernel
theorem dX9_close_80 : decode cX9_close 80 = .ok (.iload_n 1, 1) := by decide +kernel
theorem dX9_close_81 : decode cX9_close 81 = .ok (.iconst 0, 1) := by decide +kernel
theorem dX9_close_82 : decode cX9_close 82 = .ok (.bastore, 1) := by decide +kernel
theorem dX9_close_83 : decode cX9_close 83 = .ok (.aload_n 0, 1) := by decide +kernel
theorem dX9_close_84 : decode cX9_close 84 = .ok (.getfield 41, 3) := by decide +kernel
theorem dX9_close_87 : decode cX9_close 87 = .ok (.iload_n 1, 1) := by decide +kernel
theorem dX9_close_88 : decode cX9_close 88 = .ok (.dup2, 1) := by decide +kernel
theorem dX9_close_89 : decode cX9_close 89 = .ok (.iaload, 1) := by decide +kernel
theorem dX9_close_90 : decode cX9_close 90 = .ok (.iconst 1, 1) := by decide +kernel
theorem dX9_close_91 : decode cX9_close 91 = .ok (.iadd, 1) := by decide +kernel
theorem dX9_close_92 : decode cX9_close 92 = .ok (.iastore, 1) := by decide +kernel
theorem dX9_close_93 : decode cX9_close 93 = .ok (.aload_n 0, 1) := by decide +kernel
theorem dX9_close_94 : decode cX9_close 94 = .ok (.getfield 44, 3) := by decide +kernel
theorem dX9_close_97 : decode cX9_close 97 = .ok (.iload_n 1, 1) := by decide +kernel
theorem dX9_close_98 : decode cX9_close 98 = .ok (.iload_n 2, 1) := by decide +kernel
theorem dX9_close_99 : decode cX9_close 99 = .ok (.iastore, 1) := by decide +kernel
theorem dX9_close_100 : decode cX9_close 100 = .ok (.aload_n 0, 1) := by decide +kernel
theorem dX9_close_101 : decode cX9_close 101 = .ok (.getfield 47, 3) := by decide +kernel
theorem dX9_close_104 : decode cX9_close 104 = .ok (.iload_n 1, 1) := by decide +kernel
theorem dX9_close_105 : decode cX9_close 105 = .ok (.iload_n 3, 1) := by decide +kernel
theorem dX9_close_106 : decode cX9_close 106 = .ok (.iastore, 1) := by decide +kernel
theorem dX9_close_107 : decode cX9_close 107 = .ok (.aload_n 0, 1) := by decide +kernel
theorem dX9_close_108 : decode cX9_close 108 = .ok (.getfield 62, 3) := by decide +kernel
theorem dX9_close_111 : decode cX9_close 111 = .ok (.iload_n 3, 1) := by decide +kernel
theorem dX9_close_112 : decode cX9_close 112 = .ok (.dup2, 1) := by decide +kernel
theorem dX9_close_113 : decode cX9_close 113 = .ok (.iaload, 1) := by decide +kernel
theorem dX9_close_114 : decode cX9_close 114 = .ok (.iconst 1, 1) := by decide +kernel
theorem dX9_close_115 : decode cX9_close 115 = .ok (.iadd, 1) := by decide +kernel
theorem dX9_close_116 : decode cX9_close 116 = .ok (.iastore, 1) := by decide +kernel
theorem dX9_close_117 : decode cX9_close 117 = .ok (.iload_n 3, 1) := by decide +kernel
theorem dX9_close_118 : decode cX9_close 118 = .ok (.ireturn, 1) := by decide +kernel
theorem dX9_look_0 : decode cX9_look 0 = .ok (.aload_n 0, 1) := by decide +kernel
theorem dX9_look_1 : decode cX9_look 1 = .ok (.iload_n 1, 1) := by decide +kernel
theorem dX9_look_2 : decode cX9_look 2 = .ok (.invokevirtual 164, 3) := by decide +kernel
theorem dX9_look_5 : decode cX9_look 5 = .ok (.ifCond .ne 10, 3) := by decide +kernel
theorem dX9_look_8 : decode cX9_look 8 = .ok (.aload_n 0, 1) := by decide +kernel
theorem dX9_look_9 : decode cX9_look 9 = .ok (.ldc 144, 2) := by decide +kernel
theorem dX9_look_11 : decode cX9_look 11 = .ok (.invokevirtual 145, 3) := by decide +kernel
theorem dX9_look_14 : decode cX9_look 14 = .ok (.ireturn, 1) := by decide +kernel
theorem dX9_look_15 : decode cX9_look 15 = .ok (.aload_n 0, 1) := by decide +kernel
theorem dX9_look_16 : decode cX9_look 16 = .ok (.getfield 37, 3) := by decide +kernel
theorem dX9_look_19 : decode cX9_look 19 = .ok (.iload_n 1, 1) := by decide +kernel
theorem dX9_look_20 : decode cX9_look 20 = .ok (.baload, 1) := by decide +kernel
theorem dX9_look_21 : decode cX9_look 21 = .ok (.ifCond .ne 12, 3) := by decide +kernel
theorem dX9_look_24 : decode cX9_look 24 = .ok (.aload_n 0, 1) := by decide +kernel
theorem dX9_look_25 : decode cX9_look 25 = .ok (.getfield 50, 3) := by decide +kernel
theorem dX9_look_28 : decode cX9_look 28 = .ok (.iload_n 1, 1) := by decide +kernel
theorem dX9_look_29 : decode cX9_look 29 = .ok (.baload, 1) := by decide +kernel
theorem dX9_look_30 : decode cX9_look 30 = .ok (.ifCond .eq 10, 3) := by decide +kernel
theorem dX9_look_33 : decode cX9_look 33 = .ok (.aload_n 0, 1) := by decide +kernel
theorem dX9_look_34 : decode cX9_look 34 = .ok (.ldc 218, 2) := by decide +kernel
theorem dX9_look_36 : decode cX9_look 36 = .ok (.invokevirtual 145, 3) := by decide +kernel
theorem dX9_look_39 : decode cX9_look 39 = .ok (.ireturn, 1) := by decide +kernel
theorem dX9_look_40 : decode cX9_look 40 = .ok (.aload_n 0, 1) := by decide +kernel
theorem dX9_look_41 : decode cX9_look 41 = .ok (.getfield 65, 3) := by decide +kernel
theorem dX9_look_44 : decode cX9_look 44 = .ok (.aload_n 0, 1) := by decide +kernel
theorem dX9_look_45 : decode cX9_look 45 = .ok (.getfield 47, 3) := by decide +kernel
theorem dX9_look_48 : decode cX9_look 48 = .ok (.iload_n 1, 1) := by decide +kernel
theorem dX9_look_49 : decode cX9_look 49 = .ok (.iaload, 1) := by decide +kernel
theorem dX9_look_50 : decode cX9_look 50 = .ok (.dup2, 1) := by decide +kernel
theorem dX9_look_51 : decode cX9_look 51 = .ok (.iaload, 1) := by decide +kernel
theorem dX9_look_52 : decode cX9_look 52 = .ok (.iconst 1, 1) := by decide +kernel
theorem dX9_look_53 : decode cX9_look 53 = .ok (.iadd, 1) := by decide +kernel
theorem dX9_look_54 : decode cX9_look 54 = .ok (.iastore, 1) := by decide +kernel
theorem dX9_look_55 : decode cX9_look 55 = .ok (.aload_n 0, 1) := by decide +kernel
theorem dX9_look_56 : decode cX9_look 56 = .ok (.getfield 50, 3) := by decide +kernel
theorem dX9_look_59 : decode cX9_look 59 = .ok (.iload_n 1, 1) := by decide +kernel
theorem dX9_look_60 : decode cX9_look 60 = .ok (.iconst 1, 1) := by decide +kernel
theorem dX9_look_61 : decode cX9_look 61 = .ok (.bastore, 1) := by decide +kernel
theorem dX9_look_62 : decode cX9_look 62 = .ok (.iload_n 2, 1) := by decide +kernel
theorem dX9_look_63 : decode cX9_look 63 = .ok (.ifCond .ne 25, 3) := by decide +kernel
theorem dX9_look_66 : decode cX9_look 66 = .ok (.aload_n 0, 1) := by decide +kernel
theorem dX9_look_67 : decode cX9_look 67 = .ok (.getfield 68, 3) := by decide +kernel
theorem dX9_look_70 : decode cX9_look 70 = .ok (.aload_n 0, 1) := by decide +kernel
theorem dX9_look_71 : decode cX9_look 71 = .ok (.getfield 47, 3) := by decide +kernel
theorem dX9_look_74 : decode cX9_look 74 = .ok (.iload_n 1, 1) := by decide +kernel
theorem dX9_look_75 : decode cX9_look 75 = .ok (.iaload, 1) := by decide +kernel
theorem dX9_look_76 : decode cX9_look 76 = .ok (.dup2, 1) := by decide +kernel
theorem dX9_look_77 : decode cX9_look 77 = .ok (.iaload, 1) := by decide +kernel
theorem dX9_look_78 : decode cX9_look 78 = .ok (.iconst 1, 1) := by decide +kernel
theorem dX9_look_79 : decode cX9_look 79 = .ok (.iadd, 1) := by decide +kernel
theorem dX9_look_80 : decode cX9_look 80 = .ok (.iastore, 1) := by decide +kernel
theorem dX9_look_81 : decode cX9_look 81 = .ok (.aload_n 0, 1) := by decide +kernel
theorem dX9_look_82 : decode cX9_look 82 = .ok (.getfield 37, 3) := by decide +kernel
theorem dX9_look_85 : decode cX9_look 85 = .ok (.iload_n 1, 1) := by decide +kernel
theorem dX9_look_86 : decode cX9_look 86 = .ok (.iconst 1, 1) := by decide +kernel
theorem dX9_look_87 : decode cX9_look 87 = .ok (.bastore, 1) := by decide +kernel
theorem dX9_look_88 : decode cX9_look 88 = .ok (.iconst 1, 1) := by decide +kernel
theorem dX9_look_89 : decode cX9_look 89 = .ok (.ireturn, 1) := by decide +kernel
theorem dX9_closings_0 : decode cX9_closings 0 = .ok (.iload_n 1, 1) := by decide +kernel
theorem dX9_closings_1 : decode cX9_closings 1 = .ok (.iconst 0, 1) := by decide +kernel
theorem dX9_closings_2 : decode cX9_closings 2 = .ok (.iconst 5, 1) := by decide +kernel
theorem dX9_closings_3 : decode cX9_closings 3 = .ok (.invokestatic 111, 3) := by decide +kernel
theorem dX9_closings_6 : decode cX9_closings 6 = .ok (.ifCond .eq 12, 3) := by decide +kernel
theorem dX9_closings_9 : decode cX9_closings 9 = .ok (.iload_n 2, 1) := by decide +kernel
theorem dX9_closings_10 : decode cX9_closings 10 = .ok (.iconst 0, 1) := by decide +kernel
theorem dX9_closings_11 : decode cX9_closings 11 = .ok (.iconst 3, 1) := by decide +kernel
theorem dX9_closings_12 : decode cX9_closings 12 = .ok (.invokestatic 111, 3) := by decide +kernel
theorem dX9_closings_15 : decode cX9_closings 15 = .ok (.ifCond .ne 10, 3) := by decide +kernel
theorem dX9_closings_18 : decode cX9_closings 18 = .ok (.aload_n 0, 1) := by decide +kernel
theorem dX9_closings_19 : decode cX9_closings 19 = .ok (.ldc 144, 2) := by decide +kernel
theorem dX9_closings_21 : decode cX9_closings 21 = .ok (.invokevirtual 145, 3) := by decide +kernel
theorem dX9_closings_24 : decode cX9_closings 24 = .ok (.ireturn, 1) := by decide +kernel
theorem dX9_closings_25 : decode cX9_closings 25 = .ok (.iload_n 2, 1) := by decide +kernel
theorem dX9_closings_26 : decode cX9_closings 26 = .ok (.ifCond .ne 12, 3) := by decide +kernel
theorem dX9_closings_29 : decode cX9_closings 29 = .ok (.aload_n 0, 1) := by decide +kernel
theorem dX9_closings_30 : decode cX9_closings 30 = .ok (.getfield 62, 3) := by decide +kernel
theorem dX9_closings_33 : decode cX9_closings 33 = .ok (.iload_n 1, 1) := by decide +kernel
theorem dX9_closings_34 : decode cX9_closings 34 = .ok (.iaload, 1) := by decide +kernel
theorem dX9_closings_35 : decode cX9_closings 35 = .ok (.goto 51, 3) := by decide +kernel
theorem dX9_closings_38 : decode cX9_closings 38 = .ok (.iload_n 2, 1) := by decide +kernel
theorem dX9_closings_39 : decode cX9_closings 39 = .ok (.iconst 1, 1) := by decide +kernel
theorem dX9_closings_40 : decode cX9_closings 40 = .ok (.if_icmp .ne 12, 3) := by decide +kernel
theorem dX9_closings_43 : decode cX9_closings 43 = .ok (.aload_n 0, 1) := by decide +kernel
theorem dX9_closings_44 : decode cX9_closings 44 = .ok (.getfield 65, 3) := by decide +kernel
theorem dX9_closings_47 : decode cX9_closings 47 = .ok (.iload_n 1, 1) := by decide +kernel
theorem dX9_closings_48 : decode cX9_closings 48 = .ok (.iaload, 1) := by decide +kernel
theorem dX9_closings_49 : decode cX9_closings 49 = .ok (.goto 37, 3) := by decide +kernel
theorem dX9_closings_52 : decode cX9_closings 52 = .ok (.iload_n 2, 1) := by decide +kernel
theorem dX9_closings_53 : decode cX9_closings 53 = .ok (.iconst 2, 1) := by decide +kernel
theorem dX9_closings_54 : decode cX9_closings 54 = .ok (.if_icmp .ne 12, 3) := by decide +kernel
theorem dX9_closings_57 : decode cX9_closings 57 = .ok (.aload_n 0, 1) := by decide +kernel
theorem dX9_closings_58 : decode cX9_closings 58 = .ok (.getfield 68, 3) := by decide +kernel
theorem dX9_closings_61 : decode cX9_closings 61 = .ok (.iload_n 1, 1) := by decide +kernel
theorem dX9_closings_62 : decode cX9_closings 62 = .ok (.iaload, 1) := by decide +kernel
theorem dX9_closings_63 : decode cX9_closings 63 = .ok (.goto 23, 3) := by decide +kernel
theorem dX9_closings_66 : decode cX9_closings 66 = .ok (.aload_n 0, 1) := by decide +kernel
theorem dX9_closings_67 : decode cX9_closings 67 = .ok (.getfield 68, 3) := by decide +kernel
theorem dX9_closings_70 : decode cX9_closings 70 = .ok (.iload_n 1, 1) := by decide +kernel
theorem dX9_closings_71 : decode cX9_closings 71 = .ok (.iaload, 1) := by decide +kernel
theorem dX9_closings_72 : decode cX9_closings 72 = .ok (.aload_n 0, 1) := by decide +kernel
theorem dX9_closings_73 : decode cX9_closings 73 = .ok (.getfield 62, 3) := by decide +kernel
theorem dX9_closings_76 : decode cX9_closings 76 = .ok (.iload_n 1, 1) := by decide +kernel
theorem dX9_closings_77 : decode cX9_closings 77 = .ok (.iaload, 1) := by decide +kernel
theorem dX9_closings_78 : decode cX9_closings 78 = .ok (.iadd, 1) := by decide +kernel
theorem dX9_closings_79 : decode cX9_closings 79 = .ok (.aload_n 0, 1) := by decide +kernel
theorem dX9_closings_80 : decode cX9_closings 80 = .ok (.getfield 65, 3) := by decide +kernel
theorem dX9_closings_83 : decode cX9_closings 83 = .ok (.iload_n 1, 1) := by decide +kernel
theorem dX9_closings_84 : decode cX9_closings 84 = .ok (.iaload, 1) := by decide +kernel
theorem dX9_closings_85 : decode cX9_closings 85 = .ok (.isub, 1) := by decide +kernel
theorem dX9_closings_86 : decode cX9_closings 86 = .ok (.ireturn, 1) := by decide +kernel
theorem dX9_walk_0 : decode cX9_walk 0 = .ok (.iload_n 1, 1) := by decide +kernel
theorem dX9_walk_1 : decode cX9_walk 1 = .ok (.iconst 0, 1) := by decide +kernel
theorem dX9_walk_2 : decode cX9_walk 2 = .ok (.iconst 3, 1) := by decide +kernel
theorem dX9_walk_3 : decode cX9_walk 3 = .ok (.invokestatic 111, 3) := by decide +kernel
theorem dX9_walk_6 : decode cX9_walk 6 = .ok (.ifCond .eq 23, 3) := by decide +kernel
theorem dX9_walk_9 : decode cX9_walk 9 = .ok (.iload_n 2, 1) := by decide +kernel
theorem dX9_walk_10 : decode cX9_walk 10 = .ok (.iconst 0, 1) := by decide +kernel
theorem dX9_walk_11 : decode cX9_walk 11 = .ok (.sipush 1000, 3) := by decide +kernel
theorem dX9_walk_14 : decode cX9_walk 14 = .ok (.invokestatic 111, 3) := by decide +kernel
theorem dX9_walk_17 : decode cX9_walk 17 = .ok (.ifCond .eq 12, 3) := by decide +kernel
theorem dX9_walk_20 : decode cX9_walk 20 = .ok (.iload_n 3, 1) := by decide +kernel
theorem dX9_walk_21 : decode cX9_walk 21 = .ok (.iconst 0, 1) := by decide +kernel
theorem dX9_walk_22 : decode cX9_walk 22 = .ok (.iload_n 2, 1) := by decide +kernel
theorem dX9_walk_23 : decode cX9_walk 23 = .ok (.invokestatic 111, 3) := by decide +kernel
theorem dX9_walk_26 : decode cX9_walk 26 = .ok (.ifCond .ne 10, 3) := by decide +kernel
theorem dX9_walk_29 : decode cX9_walk 29 = .ok (.aload_n 0, 1) := by decide +kernel
theorem dX9_walk_30 : decode cX9_walk 30 = .ok (.ldc 144, 2) := by decide +kernel
theorem dX9_walk_32 : decode cX9_walk 32 = .ok (.invokevirtual 145, 3) := by decide +kernel
theorem dX9_walk_35 : decode cX9_walk 35 = .ok (.ireturn, 1) := by decide +kernel
theorem dX9_walk_36 : decode cX9_walk 36 = .ok (.aload_n 0, 1) := by decide +kernel
theorem dX9_walk_37 : decode cX9_walk 37 = .ok (.getfield 71, 3) := by decide +kernel
theorem dX9_walk_40 : decode cX9_walk 40 = .ok (.iload_n 1, 1) := by decide +kernel
theorem dX9_walk_41 : decode cX9_walk 41 = .ok (.iload_n 2, 1) := by decide +kernel
theorem dX9_walk_42 : decode cX9_walk 42 = .ok (.iastore, 1) := by decide +kernel
theorem dX9_walk_43 : decode cX9_walk 43 = .ok (.aload_n 0, 1) := by decide +kernel
theorem dX9_walk_44 : decode cX9_walk 44 = .ok (.getfield 74, 3) := by decide +kernel
theorem dX9_walk_47 : decode cX9_walk 47 = .ok (.iload_n 1, 1) := by decide +kernel
theorem dX9_walk_48 : decode cX9_walk 48 = .ok (.iload_n 3, 1) := by decide +kernel
theorem dX9_walk_49 : decode cX9_walk 49 = .ok (.iastore, 1) := by decide +kernel
theorem dX9_walk_50 : decode cX9_walk 50 = .ok (.iconst 1, 1) := by decide +kernel
theorem dX9_walk_51 : decode cX9_walk 51 = .ok (.ireturn, 1) := by decide +kernel
theorem dX9_quarter_0 : decode cX9_quarter 0 = .ok (.iload_n 1, 1) := by decide +kernel
theorem dX9_quarter_1 : decode cX9_quarter 1 = .ok (.iconst 0, 1) := by decide +kernel
theorem dX9_quarter_2 : decode cX9_quarter 2 = .ok (.iconst 3, 1) := by decide +kernel
theorem dX9_quarter_3 : decode cX9_quarter 3 = .ok (.invokestatic 111, 3) := by decide +kernel
theorem dX9_quarter_6 : decode cX9_quarter 6 = .ok (.ifCond .eq 12, 3) := by decide +kernel
theorem dX9_quarter_9 : decode cX9_quarter 9 = .ok (.iload_n 2, 1) := by decide +kernel
theorem dX9_quarter_10 : decode cX9_quarter 10 = .ok (.iconst 0, 1) := by decide +kernel
theorem dX9_quarter_11 : decode cX9_quarter 11 = .ok (.iconst 4, 1) := by decide +kernel
theorem dX9_quarter_12 : decode cX9_quarter 12 = .ok (.invokestatic 111, 3) := by decide +kernel
theorem dX9_quarter_15 : decode cX9_quarter 15 = .ok (.ifCond .ne 10, 3) := by decide +kernel
theorem dX9_quarter_18 : decode cX9_quarter 18 = .ok (.aload_n 0, 1) := by decide +kernel
theorem dX9_quarter_19 : decode cX9_quarter 19 = .ok (.ldc 144, 2) := by decide +kernel
theorem dX9_quarter_21 : decode cX9_quarter 21 = .ok (.invokevirtual 145, 3) := by decide +kernel
theorem dX9_quarter_24 : decode cX9_quarter 24 = .ok (.ireturn, 1) := by decide +kernel
theorem dX9_quarter_25 : decode cX9_quarter 25 = .ok (.iconst 0, 1) := by decide +kernel
theorem dX9_quarter_26 : decode cX9_quarter 26 = .ok (.istore_n 3, 1) := by decide +kernel
theorem dX9_quarter_27 : decode cX9_quarter 27 = .ok (.iconst 0, 1) := by decide +kernel
theorem dX9_quarter_28 : decode cX9_quarter 28 = .ok (.istore 4, 2) := by decide +kernel
theorem dX9_quarter_30 : decode cX9_quarter 30 = .ok (.iconst 0, 1) := by decide +kernel
theorem dX9_quarter_31 : decode cX9_quarter 31 = .ok (.istore 5, 2) := by decide +kernel
theorem dX9_quarter_33 : decode cX9_quarter 33 = .ok (.iload 5, 2) := by decide +kernel
theorem dX9_quarter_35 : decode cX9_quarter 35 = .ok (.aload_n 0, 1) := by decide +kernel
theorem dX9_quarter_36 : decode cX9_quarter 36 = .ok (.getfield 118, 3) := by decide +kernel
theorem dX9_quarter_39 : decode cX9_quarter 39 = .ok (.if_icmp .ge 85, 3) := by decide +kernel
theorem dX9_quarter_42 : decode cX9_quarter 42 = .ok (.aload_n 0, 1) := by decide +kernel
theorem dX9_quarter_43 : decode cX9_quarter 43 = .ok (.getfield 13, 3) := by decide +kernel
theorem dX9_quarter_46 : decode cX9_quarter 46 = .ok (.aload_n 0, 1) := by decide +kernel
theorem dX9_quarter_47 : decode cX9_quarter 47 = .ok (.getfield 34, 3) := by decide +kernel
theorem dX9_quarter_50 : decode cX9_quarter 50 = .ok (.iload 5, 2) := by decide +kernel
theorem dX9_quarter_52 : decode cX9_quarter 52 = .ok (.iaload, 1) := by decide +kernel
theorem dX9_quarter_53 : decode cX9_quarter 53 = .ok (.iaload, 1) := by decide +kernel
theorem dX9_quarter_54 : decode cX9_quarter 54 = .ok (.aload_n 0, 1) := by decide +kernel
theorem dX9_quarter_55 : decode cX9_quarter 55 = .ok (.getfield 16, 3) := by decide +kernel
theorem dX9_quarter_58 : decode cX9_quarter 58 = .ok (.aload_n 0, 1) := by decide +kernel
theorem dX9_quarter_59 : decode cX9_quarter 59 = .ok (.getfield 34, 3) := by decide +kernel
theorem dX9_quarter_62 : decode cX9_quarter 62 = .ok (.iload 5, 2) := by decide +kernel
theorem dX9_quarter_64 : decode cX9_quarter 64 = .ok (.iaload, 1) := by decide +kernel
theorem dX9_quarter_65 : decode cX9_quarter 65 = .ok (.iaload, 1) := by decide +kernel
theorem dX9_quarter_66 : decode cX9_quarter 66 = .ok (.invokestatic 156, 3) := by decide +kernel
theorem dX9_quarter_69 : decode cX9_quarter 69 = .ok (.iload_n 1, 1) := by decide +kernel
theorem dX9_quarter_70 : decode cX9_quarter 70 = .ok (.if_icmp .ne 7, 3) := by decide +kernel
theorem dX9_quarter_73 : decode cX9_quarter 73 = .ok (.iconst 1, 1) := by decide +kernel
theorem dX9_quarter_74 : decode cX9_quarter 74 = .ok (.goto 4, 3) := by decide +kernel
theorem dX9_quarter_77 : decode cX9_quarter 77 = .ok (.iconst 0, 1) := by decide +kernel
theorem dX9_quarter_78 : decode cX9_quarter 78 = .ok (.istore 6, 2) := by decide +kernel
theorem dX9_quarter_80 : decode cX9_quarter 80 = .ok (.iload_n 3, 1) := by decide +kernel
theorem dX9_quarter_81 : decode cX9_quarter 81 = .ok (.iload 6, 2) := by decide +kernel
theorem dX9_quarter_83 : decode cX9_quarter 83 = .ok (.ifCond .eq 7, 3) := by decide +kernel
theorem dX9_quarter_86 : decode cX9_quarter 86 = .ok (.iconst 1, 1) := by decide +kernel
theorem dX9_quarter_87 : decode cX9_quarter 87 = .ok (.goto 4, 3) := by decide +kernel
theorem dX9_quarter_90 : decode cX9_quarter 90 = .ok (.iconst 0, 1) := by decide +kernel
theorem dX9_quarter_91 : decode cX9_quarter 91 = .ok (.iadd, 1) := by decide +kernel
theorem dX9_quarter_92 : decode cX9_quarter 92 = .ok (.istore_n 3, 1) := by decide +kernel
theorem dX9_quarter_93 : decode cX9_quarter 93 = .ok (.iload 4, 2) := by decide +kernel
theorem dX9_quarter_95 : decode cX9_quarter 95 = .ok (.iload 6, 2) := by decide +kernel
theorem dX9_quarter_97 : decode cX9_quarter 97 = .ok (.ifCond .eq 17, 3) := by decide +kernel
theorem dX9_quarter_100 : decode cX9_quarter 100 = .ok (.aload_n 0, 1) := by decide +kernel
theorem dX9_quarter_101 : decode cX9_quarter 101 = .ok (.getfield 37, 3) := by decide +kernel
theorem dX9_quarter_104 : decode cX9_quarter 104 = .ok (.iload 5, 2) := by decide +kernel
theorem dX9_quarter_106 : decode cX9_quarter 106 = .ok (.baload, 1) := by decide +kernel
theorem dX9_quarter_107 : decode cX9_quarter 107 = .ok (.ifCond .ne 7, 3) := by decide +kernel
theorem dX9_quarter_110 : decode cX9_quarter 110 = .ok (.iconst 1, 1) := by decide +kernel
theorem dX9_quarter_111 : decode cX9_quarter 111 = .ok (.goto 4, 3) := by decide +kernel
theorem dX9_quarter_114 : decode cX9_quarter 114 = .ok (.iconst 0, 1) := by decide +kernel
theorem dX9_quarter_115 : decode cX9_quarter 115 = .ok (.iadd, 1) := by decide +kernel
theorem dX9_quarter_116 : decode cX9_quarter 116 = .ok (.istore 4, 2) := by decide +kernel
theorem dX9_quarter_118 : decode cX9_quarter 118 = .ok (.iinc 5 1, 3) := by decide +kernel
theorem dX9_quarter_121 : decode cX9_quarter 121 = .ok (.goto (-88), 3) := by decide +kernel
theorem dX9_quarter_124 : decode cX9_quarter 124 = .ok (.iconst 0, 1) := by decide +kernel
theorem dX9_quarter_125 : decode cX9_quarter 125 = .ok (.istore 5, 2) := by decide +kernel
theorem dX9_quarter_127 : decode cX9_quarter 127 = .ok (.iconst 0, 1) := by decide +kernel
theorem dX9_quarter_128 : decode cX9_quarter 128 = .ok (.istore 6, 2) := by decide +kernel
theorem dX9_quarter_130 : decode cX9_quarter 130 = .ok (.iload 6, 2) := by decide +kernel
theorem dX9_quarter_132 : decode cX9_quarter 132 = .ok (.aload_n 0, 1) := by decide +kernel
theorem dX9_quarter_133 : decode cX9_quarter 133 = .ok (.getfield 115, 3) := by decide +kernel
theorem dX9_quarter_136 : decode cX9_quarter 136 = .ok (.if_icmp .ge 40, 3) := by decide +kernel
theorem dX9_quarter_139 : decode cX9_quarter 139 = .ok (.iload 5, 2) := by decide +kernel
theorem dX9_quarter_141 : decode cX9_quarter 141 = .ok (.aload_n 0, 1) := by decide +kernel
theorem dX9_quarter_142 : decode cX9_quarter 142 = .ok (.getfield 13, 3) := by decide +kernel
theorem dX9_quarter_145 : decode cX9_quarter 145 = .ok (.iload 6, 2) := by decide +kernel
theorem dX9_quarter_147 : decode cX9_quarter 147 = .ok (.iaload, 1) := by decide +kernel
theorem dX9_quarter_148 : decode cX9_quarter 148 = .ok (.aload_n 0, 1) := by decide +kernel
theorem dX9_quarter_149 : decode cX9_quarter 149 = .ok (.getfield 16, 3) := by decide +kernel
theorem dX9_quarter_152 : decode cX9_quarter 152 = .ok (.iload 6, 2) := by decide +kernel
theorem dX9_quarter_154 : decode cX9_quarter 154 = .ok (.iaload, 1) := by decide +kernel
theorem dX9_quarter_155 : decode cX9_quarter 155 = .ok (.invokestatic 156, 3) := by decide +kernel
theorem dX9_quarter_158 : decode cX9_quarter 158 = .ok (.iload_n 1, 1) := by decide +kernel
theorem dX9_quarter_159 : decode cX9_quarter 159 = .ok (.if_icmp .ne 7, 3) := by decide +kernel
theorem dX9_quarter_162 : decode cX9_quarter 162 = .ok (.iconst 1, 1) := by decide +kernel
theorem dX9_quarter_163 : decode cX9_quarter 163 = .ok (.goto 4, 3) := by decide +kernel
theorem dX9_quarter_166 : decode cX9_quarter 166 = .ok (.iconst 0, 1) := by decide +kernel
theorem dX9_quarter_167 : decode cX9_quarter 167 = .ok (.iadd, 1) := by decide +kernel
theorem dX9_quarter_168 : decode cX9_quarter 168 = .ok (.istore 5, 2) := by decide +kernel
theorem dX9_quarter_170 : decode cX9_quarter 170 = .ok (.iinc 6 1, 3) := by decide +kernel
theorem dX9_quarter_173 : decode cX9_quarter 173 = .ok (.goto (-43), 3) := by decide +kernel
theorem dX9_quarter_176 : decode cX9_quarter 176 = .ok (.aload_n 0, 1) := by decide +kernel
theorem dX9_quarter_177 : decode cX9_quarter 177 = .ok (.getfield 71, 3) := by decide +kernel
theorem dX9_quarter_180 : decode cX9_quarter 180 = .ok (.iload_n 1, 1) := by decide +kernel
theorem dX9_quarter_181 : decode cX9_quarter 181 = .ok (.iaload, 1) := by decide +kernel
theorem dX9_quarter_182 : decode cX9_quarter 182 = .ok (.ifCond .ne 8, 3) := by decide +kernel
theorem dX9_quarter_185 : decode cX9_quarter 185 = .ok (.bipush 100, 2) := by decide +kernel
theorem dX9_quarter_187 : decode cX9_quarter 187 = .ok (.goto 19, 3) := by decide +kernel
theorem dX9_quarter_190 : decode cX9_quarter 190 = .ok (.bipush 100, 2) := by decide +kernel
theorem dX9_quarter_192 : decode cX9_quarter 192 = .ok (.aload_n 0, 1) := by decide +kernel
theorem dX9_quarter_193 : decode cX9_quarter 193 = .ok (.getfield 74, 3) := by decide +kernel
theorem dX9_quarter_196 : decode cX9_quarter 196 = .ok (.iload_n 1, 1) := by decide +kernel
theorem dX9_quarter_197 : decode cX9_quarter 197 = .ok (.iaload, 1) := by decide +kernel
theorem dX9_quarter_198 : decode cX9_quarter 198 = .ok (.imul, 1) := by decide +kernel
theorem dX9_quarter_199 : decode cX9_quarter 199 = .ok (.aload_n 0, 1) := by decide +kernel
theorem dX9_quarter_200 : decode cX9_quarter 200 = .ok (.getfield 71, 3) := by decide +kernel
theorem dX9_quarter_203 : decode cX9_quarter 203 = .ok (.iload_n 1, 1) := by decide +kernel
theorem dX9_quarter_204 : decode cX9_quarter 204 = .ok (.iaload, 1) := by decide +kernel
theorem dX9_quarter_205 : decode cX9_quarter 205 = .ok (.idiv, 1) := by decide +kernel
theorem dX9_quarter_206 : decode cX9_quarter 206 = .ok (.istore 6, 2) := by decide +kernel
theorem dX9_quarter_208 : decode cX9_quarter 208 = .ok (.iload_n 2, 1) := by decide +kernel
theorem dX9_quarter_209 : decode cX9_quarter 209 = .ok (.tableswitch 42 0 3 #[31, 33, 36, 39], 31) := by decide +kernel
theorem dX9_quarter_240 : decode cX9_quarter 240 = .ok (.iload_n 3, 1) := by decide +kernel
theorem dX9_quarter_241 : decode cX9_quarter 241 = .ok (.ireturn, 1) := by decide +kernel
theorem dX9_quarter_242 : decode cX9_quarter 242 = .ok (.iload 5, 2) := by decide +kernel
theorem dX9_quarter_244 : decode cX9_quarter 244 = .ok (.ireturn, 1) := by decide +kernel
theorem dX9_quarter_245 : decode cX9_quarter 245 = .ok (.iload 4, 2) := by decide +kernel
theorem dX9_quarter_247 : decode cX9_quarter 247 = .ok (.ireturn, 1) := by decide +kernel
theorem dX9_quarter_248 : decode cX9_quarter 248 = .ok (.iload 6, 2) := by decide +kernel
theorem dX9_quarter_250 : decode cX9_quarter 250 = .ok (.ireturn, 1) := by decide +kernel
theorem dX9_quarter_251 : decode cX9_quarter 251 = .ok (.iload 6, 2) := by decide +kernel
theorem dX9_quarter_253 : decode cX9_quarter 253 = .ok (.ifCond .ne 12, 3) := by decide +kernel
theorem dX9_quarter_256 : decode cX9_quarter 256 = .ok (.aload_n 0, 1) := by decide +kernel
theorem dX9_quarter_257 : decode cX9_quarter 257 = .ok (.ldc 188, 2) := by decide +kernel
theorem dX9_quarter_259 : decode cX9_quarter 259 = .ok (.invokevirtual 145, 3) := by decide +kernel
theorem dX9_quarter_262 : decode cX9_quarter 262 = .ok (.goto 10, 3) := by decide +kernel
theorem dX9_quarter_265 : decode cX9_quarter 265 = .ok (.bipush 100, 2) := by decide +kernel
theorem dX9_quarter_267 : decode cX9_quarter 267 = .ok (.iload_n 3, 1) := by decide +kernel
theorem dX9_quarter_268 : decode cX9_quarter 268 = .ok (.imul, 1) := by decide +kernel
theorem dX9_quarter_269 : decode cX9_quarter 269 = .ok (.iload 6, 2) := by decide +kernel
theorem dX9_quarter_271 : decode cX9_quarter 271 = .ok (.idiv, 1) := by decide +kernel
theorem dX9_quarter_272 : decode cX9_quarter 272 = .ok (.ireturn, 1) := by decide +kernel
theorem dX9_isSheet_0 : decode cX9_isSheet 0 = .ok (.iload_n 0, 1) := by decide +kernel
theorem dX9_isSheet_1 : decode cX9_isSheet 1 = .ok (.iconst 0, 1) := by decide +kernel
theorem dX9_isSheet_2 : decode cX9_isSheet 2 = .ok (.iconst 3, 1) := by decide +kernel
theorem dX9_isSheet_3 : decode cX9_isSheet 3 = .ok (.invokestatic 111, 3) := by decide +kernel
theorem dX9_isSheet_6 : decode cX9_isSheet 6 = .ok (.ireturn, 1) := by decide +kernel
theorem dX9_sheet_0 : decode cX9_sheet 0 = .ok (.iload_n 1, 1) := by decide +kernel
theorem dX9_sheet_1 : decode cX9_sheet 1 = .ok (.invokestatic 219, 3) := by decide +kernel
theorem dX9_sheet_4 : decode cX9_sheet 4 = .ok (.ifCond .eq 25, 3) := by decide +kernel
theorem dX9_sheet_7 : decode cX9_sheet 7 = .ok (.iload_n 2, 1) := by decide +kernel
theorem dX9_sheet_8 : decode cX9_sheet 8 = .ok (.ifCond .eq 28, 3) := by decide +kernel
theorem dX9_sheet_11 : decode cX9_sheet 11 = .ok (.iload_n 2, 1) := by decide +kernel
theorem dX9_sheet_12 : decode cX9_sheet 12 = .ok (.bipush 8, 2) := by decide +kernel
theorem dX9_sheet_14 : decode cX9_sheet 14 = .ok (.if_icmp .eq 22, 3) := by decide +kernel
theorem dX9_sheet_17 : decode cX9_sheet 17 = .ok (.iload_n 2, 1) := by decide +kernel
theorem dX9_sheet_18 : decode cX9_sheet 18 = .ok (.bipush 16, 2) := by decide +kernel
theorem dX9_sheet_20 : decode cX9_sheet 20 = .ok (.if_icmp .eq 16, 3) := by decide +kernel
theorem dX9_sheet_23 : decode cX9_sheet 23 = .ok (.iload_n 2, 1) := by decide +kernel
theorem dX9_sheet_24 : decode cX9_sheet 24 = .ok (.bipush 32, 2) := by decide +kernel
theorem dX9_sheet_26 : decode cX9_sheet 26 = .ok (.if_icmp .eq 10, 3) := by decide +kernel
theorem dX9_sheet_29 : decode cX9_sheet 29 = .ok (.aload_n 0, 1) := by decide +kernel
theorem dX9_sheet_30 : decode cX9_sheet 30 = .ok (.ldc 144, 2) := by decide +kernel
theorem dX9_sheet_32 : decode cX9_sheet 32 = .ok (.invokevirtual 145, 3) := by decide +kernel
theorem dX9_sheet_35 : decode cX9_sheet 35 = .ok (.ireturn, 1) := by decide +kernel
theorem dX9_sheet_36 : decode cX9_sheet 36 = .ok (.iload_n 3, 1) := by decide +kernel
theorem dX9_sheet_37 : decode cX9_sheet 37 = .ok (.ifCond .ge 10, 3) := by decide +kernel
theorem dX9_sheet_40 : decode cX9_sheet 40 = .ok (.aload_n 0, 1) := by decide +kernel
theorem dX9_sheet_41 : decode cX9_sheet 41 = .ok (.ldc 222, 2) := by decide +kernel
theorem dX9_sheet_43 : decode cX9_sheet 43 = .ok (.invokevirtual 145, 3) := by decide +kernel
theorem dX9_sheet_46 : decode cX9_sheet 46 = .ok (.ireturn, 1) := by decide +kernel
theorem dX9_sheet_47 : decode cX9_sheet 47 = .ok (.iload_n 3, 1) := by decide +kernel
theorem dX9_sheet_48 : decode cX9_sheet 48 = .ok (.bipush 12, 2) := by decide +kernel
theorem dX9_sheet_50 : decode cX9_sheet 50 = .ok (.if_icmp .le 10, 3) := by decide +kernel
theorem dX9_sheet_53 : decode cX9_sheet 53 = .ok (.aload_n 0, 1) := by decide +kernel
theorem dX9_sheet_54 : decode cX9_sheet 54 = .ok (.ldc 144, 2) := by decide +kernel
theorem dX9_sheet_56 : decode cX9_sheet 56 = .ok (.invokevirtual 145, 3) := by decide +kernel
theorem dX9_sheet_59 : decode cX9_sheet 59 = .ok (.ireturn, 1) := by decide +kernel
theorem dX9_sheet_60 : decode cX9_sheet 60 = .ok (.iload_n 2, 1) := by decide +kernel
theorem dX9_sheet_61 : decode cX9_sheet 61 = .ok (.ifCond .ne 19, 3) := by decide +kernel
theorem dX9_sheet_64 : decode cX9_sheet 64 = .ok (.aload_n 0, 1) := by decide +kernel
theorem dX9_sheet_65 : decode cX9_sheet 65 = .ok (.getfield 77, 3) := by decide +kernel
theorem dX9_sheet_68 : decode cX9_sheet 68 = .ok (.iload_n 1, 1) := by decide +kernel
theorem dX9_sheet_69 : decode cX9_sheet 69 = .ok (.iconst 0, 1) := by decide +kernel
theorem dX9_sheet_70 : decode cX9_sheet 70 = .ok (.iastore, 1) := by decide +kernel
theorem dX9_sheet_71 : decode cX9_sheet 71 = .ok (.aload_n 0, 1) := by decide +kernel
theorem dX9_sheet_72 : decode cX9_sheet 72 = .ok (.getfield 80, 3) := by decide +kernel
theorem dX9_sheet_75 : decode cX9_sheet 75 = .ok (.iload_n 1, 1) := by decide +kernel
theorem dX9_sheet_76 : decode cX9_sheet 76 = .ok (.iconst 0, 1) := by decide +kernel
theorem dX9_sheet_77 : decode cX9_sheet 77 = .ok (.iastore, 1) := by decide +kernel
theorem dX9_sheet_78 : decode cX9_sheet 78 = .ok (.iconst 0, 1) := by decide +kernel
theorem dX9_sheet_79 : decode cX9_sheet 79 = .ok (.ireturn, 1) := by decide +kernel
theorem dX9_sheet_80 : decode cX9_sheet 80 = .ok (.aload_n 0, 1) := by decide +kernel
theorem dX9_sheet_81 : decode cX9_sheet 81 = .ok (.getfield 77, 3) := by decide +kernel
theorem dX9_sheet_84 : decode cX9_sheet 84 = .ok (.iload_n 1, 1) := by decide +kernel
theorem dX9_sheet_85 : decode cX9_sheet 85 = .ok (.iload_n 2, 1) := by decide +kernel
theorem dX9_sheet_86 : decode cX9_sheet 86 = .ok (.iastore, 1) := by decide +kernel
theorem dX9_sheet_87 : decode cX9_sheet 87 = .ok (.aload_n 0, 1) := by decide +kernel
theorem dX9_sheet_88 : decode cX9_sheet 88 = .ok (.getfield 80, 3) := by decide +kernel
theorem dX9_sheet_91 : decode cX9_sheet 91 = .ok (.iload_n 1, 1) := by decide +kernel
theorem dX9_sheet_92 : decode cX9_sheet 92 = .ok (.iload_n 3, 1) := by decide +kernel
theorem dX9_sheet_93 : decode cX9_sheet 93 = .ok (.iastore, 1) := by decide +kernel
theorem dX9_sheet_94 : decode cX9_sheet 94 = .ok (.iconst 0, 1) := by decide +kernel
theorem dX9_sheet_95 : decode cX9_sheet 95 = .ok (.istore 4, 2) := by decide +kernel
theorem dX9_sheet_97 : decode cX9_sheet 97 = .ok (.iload 4, 2) := by decide +kernel
theorem dX9_sheet_99 : decode cX9_sheet 99 = .ok (.bipush 12, 2) := by decide +kernel
theorem dX9_sheet_101 : decode cX9_sheet 101 = .ok (.if_icmp .ge 22, 3) := by decide +kernel
theorem dX9_sheet_104 : decode cX9_sheet 104 = .ok (.aload_n 0, 1) := by decide +kernel
theorem dX9_sheet_105 : decode cX9_sheet 105 = .ok (.getfield 83, 3) := by decide +kernel
theorem dX9_sheet_108 : decode cX9_sheet 108 = .ok (.bipush 12, 2) := by decide +kernel
theorem dX9_sheet_110 : decode cX9_sheet 110 = .ok (.iload_n 1, 1) := by decide +kernel
theorem dX9_sheet_111 : decode cX9_sheet 111 = .ok (.imul, 1) := by decide +kernel
theorem dX9_sheet_112 : decode cX9_sheet 112 = .ok (.iload 4, 2) := by decide +kernel
theorem dX9_sheet_114 : decode cX9_sheet 114 = .ok (.iadd, 1) := by decide +kernel
theorem dX9_sheet_115 : decode cX9_sheet 115 = .ok (.iconst 0, 1) := by decide +kernel
theorem dX9_sheet_116 : decode cX9_sheet 116 = .ok (.iastore, 1) := by decide +kernel
theorem dX9_sheet_117 : decode cX9_sheet 117 = .ok (.iinc 4 1, 3) := by decide +kernel
theorem dX9_sheet_120 : decode cX9_sheet 120 = .ok (.goto (-23), 3) := by decide +kernel
theorem dX9_sheet_123 : decode cX9_sheet 123 = .ok (.iload_n 3, 1) := by decide +kernel
theorem dX9_sheet_124 : decode cX9_sheet 124 = .ok (.ireturn, 1) := by decide +kernel
theorem dX9_cut_0 : decode cX9_cut 0 = .ok (.iload_n 1, 1) := by decide +kernel
theorem dX9_cut_1 : decode cX9_cut 1 = .ok (.bipush 8, 2) := by decide +kernel
theorem dX9_cut_3 : decode cX9_cut 3 = .ok (.if_icmp .ne 8, 3) := by decide +kernel
theorem dX9_cut_6 : decode cX9_cut 6 = .ok (.iload_n 0, 1) := by decide +kernel
theorem dX9_cut_7 : decode cX9_cut 7 = .ok (.i2b, 1) := by decide +kernel
theorem dX9_cut_8 : decode cX9_cut 8 = .ok (.goto 15, 3) := by decide +kernel
theorem dX9_cut_11 : decode cX9_cut 11 = .ok (.iload_n 1, 1) := by decide +kernel
theorem dX9_cut_12 : decode cX9_cut 12 = .ok (.bipush 16, 2) := by decide +kernel
theorem dX9_cut_14 : decode cX9_cut 14 = .ok (.if_icmp .ne 8, 3) := by decide +kernel
theorem dX9_cut_17 : decode cX9_cut 17 = .ok (.iload_n 0, 1) := by decide +kernel
theorem dX9_cut_18 : decode cX9_cut 18 = .ok (.i2s, 1) := by decide +kernel
theorem dX9_cut_19 : decode cX9_cut 19 = .ok (.goto 4, 3) := by decide +kernel
theorem dX9_cut_22 : decode cX9_cut 22 = .ok (.iload_n 0, 1) := by decide +kernel
theorem dX9_cut_23 : decode cX9_cut 23 = .ok (.ireturn, 1) := by decide +kernel
theorem dX9_write_0 : decode cX9_write 0 = .ok (.iload_n 1, 1) := by decide +kernel
theorem dX9_write_1 : decode cX9_write 1 = .ok (.invokestatic 219, 3) := by decide +kernel
theorem dX9_write_4 : decode cX9_write 4 = .ok (.ifCond .ne 10, 3) := by decide +kernel
theorem dX9_write_7 : decode cX9_write 7 = .ok (.aload_n 0, 1) := by decide +kernel
theorem dX9_write_8 : decode cX9_write 8 = .ok (.ldc 144, 2) := by decide +kernel
theorem dX9_write_10 : decode cX9_write 10 = .ok (.invokevirtual 145, 3) := by decide +kernel
theorem dX9_write_13 : decode cX9_write 13 = .ok (.ireturn, 1) := by decide +kernel
theorem dX9_write_14 : decode cX9_write 14 = .ok (.aload_n 0, 1) := by decide +kernel
theorem dX9_write_15 : decode cX9_write 15 = .ok (.getfield 77, 3) := by decide +kernel
theorem dX9_write_18 : decode cX9_write 18 = .ok (.iload_n 1, 1) := by decide +kernel
theorem dX9_write_19 : decode cX9_write 19 = .ok (.iaload, 1) := by decide +kernel
theorem dX9_write_20 : decode cX9_write 20 = .ok (.ifCond .ne 10, 3) := by decide +kernel
theorem dX9_write_23 : decode cX9_write 23 = .ok (.aload_n 0, 1) := by decide +kernel
theorem dX9_write_24 : decode cX9_write 24 = .ok (.ldc 223, 2) := by decide +kernel
theorem dX9_write_26 : decode cX9_write 26 = .ok (.invokevirtual 145, 3) := by decide +kernel
theorem dX9_write_29 : decode cX9_write 29 = .ok (.ireturn, 1) := by decide +kernel
theorem dX9_write_30 : decode cX9_write 30 = .ok (.iload_n 2, 1) := by decide +kernel
theorem dX9_write_31 : decode cX9_write 31 = .ok (.iconst 0, 1) := by decide +kernel
theorem dX9_write_32 : decode cX9_write 32 = .ok (.aload_n 0, 1) := by decide +kernel
theorem dX9_write_33 : decode cX9_write 33 = .ok (.getfield 80, 3) := by decide +kernel
theorem dX9_write_36 : decode cX9_write 36 = .ok (.iload_n 1, 1) := by decide +kernel
theorem dX9_write_37 : decode cX9_write 37 = .ok (.iaload, 1) := by decide +kernel
theorem dX9_write_38 : decode cX9_write 38 = .ok (.iconst 1, 1) := by decide +kernel
theorem dX9_write_39 : decode cX9_write 39 = .ok (.isub, 1) := by decide +kernel
theorem dX9_write_40 : decode cX9_write 40 = .ok (.invokestatic 111, 3) := by decide +kernel
theorem dX9_write_43 : decode cX9_write 43 = .ok (.ifCond .ne 10, 3) := by decide +kernel
theorem dX9_write_46 : decode cX9_write 46 = .ok (.aload_n 0, 1) := by decide +kernel
theorem dX9_write_47 : decode cX9_write 47 = .ok (.ldc 144, 2) := by decide +kernel
theorem dX9_write_49 : decode cX9_write 49 = .ok (.invokevirtual 145, 3) := by decide +kernel
theorem dX9_write_52 : decode cX9_write 52 = .ok (.ireturn, 1) := by decide +kernel
theorem dX9_write_53 : decode cX9_write 53 = .ok (.aload_n 0, 1) := by decide +kernel
theorem dX9_write_54 : decode cX9_write 54 = .ok (.getfield 83, 3) := by decide +kernel
theorem dX9_write_57 : decode cX9_write 57 = .ok (.bipush 12, 2) := by decide +kernel
theorem dX9_write_59 : decode cX9_write 59 = .ok (.iload_n 1, 1) := by decide +kernel
theorem dX9_write_60 : decode cX9_write 60 = .ok (.imul, 1) := by decide +kernel
theorem dX9_write_61 : decode cX9_write 61 = .ok (.iload_n 2, 1) := by decide +kernel
theorem dX9_write_62 : decode cX9_write 62 = .ok (.iadd, 1) := by decide +kernel
theorem dX9_write_63 : decode cX9_write 63 = .ok (.iaload, 1) := by decide +kernel
theorem dX9_write_64 : decode cX9_write 64 = .ok (.istore 4, 2) := by decide +kernel
theorem dX9_write_66 : decode cX9_write 66 = .ok (.aload_n 0, 1) := by decide +kernel
theorem dX9_write_67 : decode cX9_write 67 = .ok (.getfield 83, 3) := by decide +kernel
theorem dX9_write_70 : decode cX9_write 70 = .ok (.bipush 12, 2) := by decide +kernel
theorem dX9_write_72 : decode cX9_write 72 = .ok (.iload_n 1, 1) := by decide +kernel
theorem dX9_write_73 : decode cX9_write 73 = .ok (.imul, 1) := by decide +kernel
theorem dX9_write_74 : decode cX9_write 74 = .ok (.iload_n 2, 1) := by decide +kernel
theorem dX9_write_75 : decode cX9_write 75 = .ok (.iadd, 1) := by decide +kernel
theorem dX9_write_76 : decode cX9_write 76 = .ok (.iload_n 3, 1) := by decide +kernel
theorem dX9_write_77 : decode cX9_write 77 = .ok (.aload_n 0, 1) := by decide +kernel
theorem dX9_write_78 : decode cX9_write 78 = .ok (.getfield 77, 3) := by decide +kernel
theorem dX9_write_81 : decode cX9_write 81 = .ok (.iload_n 1, 1) := by decide +kernel
theorem dX9_write_82 : decode cX9_write 82 = .ok (.iaload, 1) := by decide +kernel
theorem dX9_write_83 : decode cX9_write 83 = .ok (.invokestatic 224, 3) := by decide +kernel
theorem dX9_write_86 : decode cX9_write 86 = .ok (.iastore, 1) := by decide +kernel
theorem dX9_write_87 : decode cX9_write 87 = .ok (.iload 4, 2) := by decide +kernel
theorem dX9_write_89 : decode cX9_write 89 = .ok (.ireturn, 1) := by decide +kernel
theorem dX9_copy_0 : decode cX9_copy 0 = .ok (.iload_n 1, 1) := by decide +kernel
theorem dX9_copy_1 : decode cX9_copy 1 = .ok (.invokestatic 219, 3) := by decide +kernel
theorem dX9_copy_4 : decode cX9_copy 4 = .ok (.ifCond .eq 10, 3) := by decide +kernel
theorem dX9_copy_7 : decode cX9_copy 7 = .ok (.iload_n 3, 1) := by decide +kernel
theorem dX9_copy_8 : decode cX9_copy 8 = .ok (.invokestatic 219, 3) := by decide +kernel
theorem dX9_copy_11 : decode cX9_copy 11 = .ok (.ifCond .ne 10, 3) := by decide +kernel
theorem dX9_copy_14 : decode cX9_copy 14 = .ok (.aload_n 0, 1) := by decide +kernel
theorem dX9_copy_15 : decode cX9_copy 15 = .ok (.ldc 144, 2) := by decide +kernel
theorem dX9_copy_17 : decode cX9_copy 17 = .ok (.invokevirtual 145, 3) := by decide +kernel
theorem dX9_copy_20 : decode cX9_copy 20 = .ok (.ireturn, 1) := by decide +kernel
theorem dX9_copy_21 : decode cX9_copy 21 = .ok (.aload_n 0, 1) := by decide +kernel
theorem dX9_copy_22 : decode cX9_copy 22 = .ok (.getfield 77, 3) := by decide +kernel
theorem dX9_copy_25 : decode cX9_copy 25 = .ok (.iload_n 1, 1) := by decide +kernel
theorem dX9_copy_26 : decode cX9_copy 26 = .ok (.iaload, 1) := by decide +kernel
theorem dX9_copy_27 : decode cX9_copy 27 = .ok (.ifCond .eq 12, 3) := by decide +kernel
theorem dX9_copy_30 : decode cX9_copy 30 = .ok (.aload_n 0, 1) := by decide +kernel
theorem dX9_copy_31 : decode cX9_copy 31 = .ok (.getfield 77, 3) := by decide +kernel
theorem dX9_copy_34 : decode cX9_copy 34 = .ok (.iload_n 3, 1) := by decide +kernel
theorem dX9_copy_35 : decode cX9_copy 35 = .ok (.iaload, 1) := by decide +kernel
theorem dX9_copy_36 : decode cX9_copy 36 = .ok (.ifCond .ne 10, 3) := by decide +kernel
theorem dX9_copy_39 : decode cX9_copy 39 = .ok (.aload_n 0, 1) := by decide +kernel
theorem dX9_copy_40 : decode cX9_copy 40 = .ok (.ldc 223, 2) := by decide +kernel
theorem dX9_copy_42 : decode cX9_copy 42 = .ok (.invokevirtual 145, 3) := by decide +kernel
theorem dX9_copy_45 : decode cX9_copy 45 = .ok (.ireturn, 1) := by decide +kernel
theorem dX9_copy_46 : decode cX9_copy 46 = .ok (.aload_n 0, 1) := by decide +kernel
theorem dX9_copy_47 : decode cX9_copy 47 = .ok (.getfield 77, 3) := by decide +kernel
theorem dX9_copy_50 : decode cX9_copy 50 = .ok (.iload_n 1, 1) := by decide +kernel
theorem dX9_copy_51 : decode cX9_copy 51 = .ok (.iaload, 1) := by decide +kernel
theorem dX9_copy_52 : decode cX9_copy 52 = .ok (.aload_n 0, 1) := by decide +kernel
theorem dX9_copy_53 : decode cX9_copy 53 = .ok (.getfield 77, 3) := by decide +kernel
theorem dX9_copy_56 : decode cX9_copy 56 = .ok (.iload_n 3, 1) := by decide +kernel
theorem dX9_copy_57 : decode cX9_copy 57 = .ok (.iaload, 1) := by decide +kernel
theorem dX9_copy_58 : decode cX9_copy 58 = .ok (.if_icmp .eq 10, 3) := by decide +kernel
theorem dX9_copy_61 : decode cX9_copy 61 = .ok (.aload_n 0, 1) := by decide +kernel
theorem dX9_copy_62 : decode cX9_copy 62 = .ok (.ldc 162, 2) := by decide +kernel
theorem dX9_copy_64 : decode cX9_copy 64 = .ok (.invokevirtual 145, 3) := by decide +kernel
theorem dX9_copy_67 : decode cX9_copy 67 = .ok (.ireturn, 1) := by decide +kernel
theorem dX9_copy_68 : decode cX9_copy 68 = .ok (.iload_n 2, 1) := by decide +kernel
theorem dX9_copy_69 : decode cX9_copy 69 = .ok (.ifCond .lt 62, 3) := by decide +kernel
theorem dX9_copy_72 : decode cX9_copy 72 = .ok (.iload 4, 2) := by decide +kernel
theorem dX9_copy_74 : decode cX9_copy 74 = .ok (.ifCond .lt 57, 3) := by decide +kernel
theorem dX9_copy_77 : decode cX9_copy 77 = .ok (.iload 5, 2) := by decide +kernel
theorem dX9_copy_79 : decode cX9_copy 79 = .ok (.ifCond .lt 52, 3) := by decide +kernel
theorem dX9_copy_82 : decode cX9_copy 82 = .ok (.iload 5, 2) := by decide +kernel
theorem dX9_copy_84 : decode cX9_copy 84 = .ok (.aload_n 0, 1) := by decide +kernel
theorem dX9_copy_85 : decode cX9_copy 85 = .ok (.getfield 80, 3) := by decide +kernel
theorem dX9_copy_88 : decode cX9_copy 88 = .ok (.iload_n 1, 1) := by decide +kernel
theorem dX9_copy_89 : decode cX9_copy 89 = .ok (.iaload, 1) := by decide +kernel
theorem dX9_copy_90 : decode cX9_copy 90 = .ok (.if_icmp .gt 41, 3) := by decide +kernel
theorem dX9_copy_93 : decode cX9_copy 93 = .ok (.iload_n 2, 1) := by decide +kernel
theorem dX9_copy_94 : decode cX9_copy 94 = .ok (.aload_n 0, 1) := by decide +kernel
theorem dX9_copy_95 : decode cX9_copy 95 = .ok (.getfield 80, 3) := by decide +kernel
theorem dX9_copy_98 : decode cX9_copy 98 = .ok (.iload_n 1, 1) := by decide +kernel
theorem dX9_copy_99 : decode cX9_copy 99 = .ok (.iaload, 1) := by decide +kernel
theorem dX9_copy_100 : decode cX9_copy 100 = .ok (.iload 5, 2) := by decide +kernel
theorem dX9_copy_102 : decode cX9_copy 102 = .ok (.isub, 1) := by decide +kernel
theorem dX9_copy_103 : decode cX9_copy 103 = .ok (.if_icmp .gt 28, 3) := by decide +kernel
theorem dX9_copy_106 : decode cX9_copy 106 = .ok (.iload 5, 2) := by decide +kernel
theorem dX9_copy_108 : decode cX9_copy 108 = .ok (.aload_n 0, 1) := by decide +kernel
theorem dX9_copy_109 : decode cX9_copy 109 = .ok (.getfield 80, 3) := by decide +kernel
theorem dX9_copy_112 : decode cX9_copy 112 = .ok (.iload_n 3, 1) := by decide +kernel
theorem dX9_copy_113 : decode cX9_copy 113 = .ok (.iaload, 1) := by decide +kernel
theorem dX9_copy_114 : decode cX9_copy 114 = .ok (.if_icmp .gt 17, 3) := by decide +kernel
theorem dX9_copy_117 : decode cX9_copy 117 = .ok (.iload 4, 2) := by decide +kernel
theorem dX9_copy_119 : decode cX9_copy 119 = .ok (.aload_n 0, 1) := by decide +kernel
theorem dX9_copy_120 : decode cX9_copy 120 = .ok (.getfield 80, 3) := by decide +kernel
theorem dX9_copy_123 : decode cX9_copy 123 = .ok (.iload_n 3, 1) := by decide +kernel
theorem dX9_copy_124 : decode cX9_copy 124 = .ok (.iaload, 1) := by decide +kernel
theorem dX9_copy_125 : decode cX9_copy 125 = .ok (.iload 5, 2) := by decide +kernel
theorem dX9_copy_127 : decode cX9_copy 127 = .ok (.isub, 1) := by decide +kernel
theorem dX9_copy_128 : decode cX9_copy 128 = .ok (.if_icmp .le 10, 3) := by decide +kernel
theorem dX9_copy_131 : decode cX9_copy 131 = .ok (.aload_n 0, 1) := by decide +kernel
theorem dX9_copy_132 : decode cX9_copy 132 = .ok (.ldc 144, 2) := by decide +kernel
theorem dX9_copy_134 : decode cX9_copy 134 = .ok (.invokevirtual 145, 3) := by decide +kernel
theorem dX9_copy_137 : decode cX9_copy 137 = .ok (.ireturn, 1) := by decide +kernel
theorem dX9_copy_138 : decode cX9_copy 138 = .ok (.iconst 0, 1) := by decide +kernel
theorem dX9_copy_139 : decode cX9_copy 139 = .ok (.istore 6, 2) := by decide +kernel
theorem dX9_copy_141 : decode cX9_copy 141 = .ok (.iload 6, 2) := by decide +kernel
theorem dX9_copy_143 : decode cX9_copy 143 = .ok (.iload 5, 2) := by decide +kernel
theorem dX9_copy_145 : decode cX9_copy 145 = .ok (.if_icmp .ge 30, 3) := by decide +kernel
theorem dX9_copy_148 : decode cX9_copy 148 = .ok (.aload_n 0, 1) := by decide +kernel
theorem dX9_copy_149 : decode cX9_copy 149 = .ok (.getfield 104, 3) := by decide +kernel
theorem dX9_copy_152 : decode cX9_copy 152 = .ok (.iload 6, 2) := by decide +kernel
theorem dX9_copy_154 : decode cX9_copy 154 = .ok (.aload_n 0, 1) := by decide +kernel
theorem dX9_copy_155 : decode cX9_copy 155 = .ok (.getfield 83, 3) := by decide +kernel
theorem dX9_copy_158 : decode cX9_copy 158 = .ok (.bipush 12, 2) := by decide +kernel
theorem dX9_copy_160 : decode cX9_copy 160 = .ok (.iload_n 1, 1) := by decide +kernel
theorem dX9_copy_161 : decode cX9_copy 161 = .ok (.imul, 1) := by decide +kernel
theorem dX9_copy_162 : decode cX9_copy 162 = .ok (.iload_n 2, 1) := by decide +kernel
theorem dX9_copy_163 : decode cX9_copy 163 = .ok (.iadd, 1) := by decide +kernel
theorem dX9_copy_164 : decode cX9_copy 164 = .ok (.iload 6, 2) := by decide +kernel
theorem dX9_copy_166 : decode cX9_copy 166 = .ok (.iadd, 1) := by decide +kernel
theorem dX9_copy_167 : decode cX9_copy 167 = .ok (.iaload, 1) := by decide +kernel
theorem dX9_copy_168 : decode cX9_copy 168 = .ok (.iastore, 1) := by decide +kernel
theorem dX9_copy_169 : decode cX9_copy 169 = .ok (.iinc 6 1, 3) := by decide +kernel
theorem dX9_copy_172 : decode cX9_copy 172 = .ok (.goto (-31), 3) := by decide +kernel
theorem dX9_copy_175 : decode cX9_copy 175 = .ok (.iconst 0, 1) := by decide +kernel
theorem dX9_copy_176 : decode cX9_copy 176 = .ok (.istore 6, 2) := by decide +kernel
theorem dX9_copy_178 : decode cX9_copy 178 = .ok (.iload 6, 2) := by decide +kernel
theorem dX9_copy_180 : decode cX9_copy 180 = .ok (.iload 5, 2) := by decide +kernel
theorem dX9_copy_182 : decode cX9_copy 182 = .ok (.if_icmp .ge 31, 3) := by decide +kernel
theorem dX9_copy_185 : decode cX9_copy 185 = .ok (.aload_n 0, 1) := by decide +kernel
theorem dX9_copy_186 : decode cX9_copy 186 = .ok (.getfield 83, 3) := by decide +kernel
theorem dX9_copy_189 : decode cX9_copy 189 = .ok (.bipush 12, 2) := by decide +kernel
theorem dX9_copy_191 : decode cX9_copy 191 = .ok (.iload_n 3, 1) := by decide +kernel
theorem dX9_copy_192 : decode cX9_copy 192 = .ok (.imul, 1) := by decide +kernel
theorem dX9_copy_193 : decode cX9_copy 193 = .ok (.iload 4, 2) := by decide +kernel
theorem dX9_copy_195 : decode cX9_copy 195 = .ok (.iadd, 1) := by decide +kernel
theorem dX9_copy_196 : decode cX9_copy 196 = .ok (.iload 6, 2) := by decide +kernel
theorem dX9_copy_198 : decode cX9_copy 198 = .ok (.iadd, 1) := by decide +kernel
theorem dX9_copy_199 : decode cX9_copy 199 = .ok (.aload_n 0, 1) := by decide +kernel
theorem dX9_copy_200 : decode cX9_copy 200 = .ok (.getfield 104, 3) := by decide +kernel
theorem dX9_copy_203 : decode cX9_copy 203 = .ok (.iload 6, 2) := by decide +kernel
theorem dX9_copy_205 : decode cX9_copy 205 = .ok (.iaload, 1) := by decide +kernel
theorem dX9_copy_206 : decode cX9_copy 206 = .ok (.iastore, 1) := by decide +kernel
theorem dX9_copy_207 : decode cX9_copy 207 = .ok (.iinc 6 1, 3) := by decide +kernel
theorem dX9_copy_210 : decode cX9_copy 210 = .ok (.goto (-32), 3) := by decide +kernel
theorem dX9_copy_213 : decode cX9_copy 213 = .ok (.iload 5, 2) := by decide +kernel
theorem dX9_copy_215 : decode cX9_copy 215 = .ok (.ireturn, 1) := by decide +kernel
theorem dX9_read_0 : decode cX9_read 0 = .ok (.iload_n 1, 1) := by decide +kernel
theorem dX9_read_1 : decode cX9_read 1 = .ok (.invokestatic 219, 3) := by decide +kernel
theorem dX9_read_4 : decode cX9_read 4 = .ok (.ifCond .eq 25, 3) := by decide +kernel
theorem dX9_read_7 : decode cX9_read 7 = .ok (.iload_n 2, 1) := by decide +kernel
theorem dX9_read_8 : decode cX9_read 8 = .ok (.invokestatic 133, 3) := by decide +kernel
theorem dX9_read_11 : decode cX9_read 11 = .ok (.ifCond .eq 18, 3) := by decide +kernel
theorem dX9_read_14 : decode cX9_read 14 = .ok (.iload_n 3, 1) := by decide +kernel
theorem dX9_read_15 : decode cX9_read 15 = .ok (.invokestatic 137, 3) := by decide +kernel
theorem dX9_read_18 : decode cX9_read 18 = .ok (.ifCond .eq 11, 3) := by decide +kernel
theorem dX9_read_21 : decode cX9_read 21 = .ok (.iload_n 3, 1) := by decide +kernel
theorem dX9_read_22 : decode cX9_read 22 = .ok (.aload_n 0, 1) := by decide +kernel
theorem dX9_read_23 : decode cX9_read 23 = .ok (.invokevirtual 140, 3) := by decide +kernel
theorem dX9_read_26 : decode cX9_read 26 = .ok (.if_icmp .ge 10, 3) := by decide +kernel
theorem dX9_read_29 : decode cX9_read 29 = .ok (.aload_n 0, 1) := by decide +kernel
theorem dX9_read_30 : decode cX9_read 30 = .ok (.ldc 144, 2) := by decide +kernel
theorem dX9_read_32 : decode cX9_read 32 = .ok (.invokevirtual 145, 3) := by decide +kernel
theorem dX9_read_35 : decode cX9_read 35 = .ok (.ireturn, 1) := by decide +kernel
theorem dX9_read_36 : decode cX9_read 36 = .ok (.aload_n 0, 1) := by decide +kernel
theorem dX9_read_37 : decode cX9_read 37 = .ok (.getfield 77, 3) := by decide +kernel
theorem dX9_read_40 : decode cX9_read 40 = .ok (.iload_n 1, 1) := by decide +kernel
theorem dX9_read_41 : decode cX9_read 41 = .ok (.iaload, 1) := by decide +kernel
theorem dX9_read_42 : decode cX9_read 42 = .ok (.ifCond .ne 10, 3) := by decide +kernel
theorem dX9_read_45 : decode cX9_read 45 = .ok (.aload_n 0, 1) := by decide +kernel
theorem dX9_read_46 : decode cX9_read 46 = .ok (.ldc 223, 2) := by decide +kernel
theorem dX9_read_48 : decode cX9_read 48 = .ok (.invokevirtual 145, 3) := by decide +kernel
theorem dX9_read_51 : decode cX9_read 51 = .ok (.ireturn, 1) := by decide +kernel
theorem dX9_read_52 : decode cX9_read 52 = .ok (.iconst 0, 1) := by decide +kernel
theorem dX9_read_53 : decode cX9_read 53 = .ok (.istore 4, 2) := by decide +kernel
theorem dX9_read_55 : decode cX9_read 55 = .ok (.iload 4, 2) := by decide +kernel
theorem dX9_read_57 : decode cX9_read 57 = .ok (.aload_n 0, 1) := by decide +kernel
theorem dX9_read_58 : decode cX9_read 58 = .ok (.getfield 80, 3) := by decide +kernel
theorem dX9_read_61 : decode cX9_read 61 = .ok (.iload_n 1, 1) := by decide +kernel
theorem dX9_read_62 : decode cX9_read 62 = .ok (.iaload, 1) := by decide +kernel
theorem dX9_read_63 : decode cX9_read 63 = .ok (.if_icmp .ge 38, 3) := by decide +kernel
theorem dX9_read_66 : decode cX9_read 66 = .ok (.aload_n 0, 1) := by decide +kernel
theorem dX9_read_67 : decode cX9_read 67 = .ok (.getfield 83, 3) := by decide +kernel
theorem dX9_read_70 : decode cX9_read 70 = .ok (.bipush 12, 2) := by decide +kernel
theorem dX9_read_72 : decode cX9_read 72 = .ok (.iload_n 1, 1) := by decide +kernel
theorem dX9_read_73 : decode cX9_read 73 = .ok (.imul, 1) := by decide +kernel
theorem dX9_read_74 : decode cX9_read 74 = .ok (.iload 4, 2) := by decide +kernel
theorem dX9_read_76 : decode cX9_read 76 = .ok (.iadd, 1) := by decide +kernel
theorem dX9_read_77 : decode cX9_read 77 = .ok (.iaload, 1) := by decide +kernel
theorem dX9_read_78 : decode cX9_read 78 = .ok (.iconst 0, 1) := by decide +kernel
theorem dX9_read_79 : decode cX9_read 79 = .ok (.sipush 1023, 3) := by decide +kernel
theorem dX9_read_82 : decode cX9_read 82 = .ok (.invokestatic 111, 3) := by decide +kernel
theorem dX9_read_85 : decode cX9_read 85 = .ok (.ifCond .ne 10, 3) := by decide +kernel
theorem dX9_read_88 : decode cX9_read 88 = .ok (.aload_n 0, 1) := by decide +kernel
theorem dX9_read_89 : decode cX9_read 89 = .ok (.ldc 144, 2) := by decide +kernel
theorem dX9_read_91 : decode cX9_read 91 = .ok (.invokevirtual 145, 3) := by decide +kernel
theorem dX9_read_94 : decode cX9_read 94 = .ok (.ireturn, 1) := by decide +kernel
theorem dX9_read_95 : decode cX9_read 95 = .ok (.iinc 4 1, 3) := by decide +kernel
theorem dX9_read_98 : decode cX9_read 98 = .ok (.goto (-43), 3) := by decide +kernel
theorem dX9_read_101 : decode cX9_read 101 = .ok (.aload_n 0, 1) := by decide +kernel
theorem dX9_read_102 : decode cX9_read 102 = .ok (.getfield 115, 3) := by decide +kernel
theorem dX9_read_105 : decode cX9_read 105 = .ok (.aload_n 0, 1) := by decide +kernel
theorem dX9_read_106 : decode cX9_read 106 = .ok (.getfield 80, 3) := by decide +kernel
theorem dX9_read_109 : decode cX9_read 109 = .ok (.iload_n 1, 1) := by decide +kernel
theorem dX9_read_110 : decode cX9_read 110 = .ok (.iaload, 1) := by decide +kernel
theorem dX9_read_111 : decode cX9_read 111 = .ok (.iadd, 1) := by decide +kernel
theorem dX9_read_112 : decode cX9_read 112 = .ok (.bipush 40, 2) := by decide +kernel
theorem dX9_read_114 : decode cX9_read 114 = .ok (.if_icmp .le 10, 3) := by decide +kernel
theorem dX9_read_117 : decode cX9_read 117 = .ok (.aload_n 0, 1) := by decide +kernel
theorem dX9_read_118 : decode cX9_read 118 = .ok (.ldc 148, 2) := by decide +kernel
theorem dX9_read_120 : decode cX9_read 120 = .ok (.invokevirtual 145, 3) := by decide +kernel
theorem dX9_read_123 : decode cX9_read 123 = .ok (.ireturn, 1) := by decide +kernel
theorem dX9_read_124 : decode cX9_read 124 = .ok (.iconst 0, 1) := by decide +kernel
theorem dX9_read_125 : decode cX9_read 125 = .ok (.istore 4, 2) := by decide +kernel
theorem dX9_read_127 : decode cX9_read 127 = .ok (.iload 4, 2) := by decide +kernel
theorem dX9_read_129 : decode cX9_read 129 = .ok (.aload_n 0, 1) := by decide +kernel
theorem dX9_read_130 : decode cX9_read 130 = .ok (.getfield 80, 3) := by decide +kernel
theorem dX9_read_133 : decode cX9_read 133 = .ok (.iload_n 1, 1) := by decide +kernel
theorem dX9_read_134 : decode cX9_read 134 = .ok (.iaload, 1) := by decide +kernel
theorem dX9_read_135 : decode cX9_read 135 = .ok (.if_icmp .ge 48, 3) := by decide +kernel
theorem dX9_read_138 : decode cX9_read 138 = .ok (.aload_n 0, 1) := by decide +kernel
theorem dX9_read_139 : decode cX9_read 139 = .ok (.iload_n 2, 1) := by decide +kernel
theorem dX9_read_140 : decode cX9_read 140 = .ok (.aload_n 0, 1) := by decide +kernel
theorem dX9_read_141 : decode cX9_read 141 = .ok (.getfield 83, 3) := by decide +kernel
theorem dX9_read_144 : decode cX9_read 144 = .ok (.bipush 12, 2) := by decide +kernel
theorem dX9_read_146 : decode cX9_read 146 = .ok (.iload_n 1, 1) := by decide +kernel
theorem dX9_read_147 : decode cX9_read 147 = .ok (.imul, 1) := by decide +kernel
theorem dX9_read_148 : decode cX9_read 148 = .ok (.iload 4, 2) := by decide +kernel
theorem dX9_read_150 : decode cX9_read 150 = .ok (.iadd, 1) := by decide +kernel
theorem dX9_read_151 : decode cX9_read 151 = .ok (.iaload, 1) := by decide +kernel
theorem dX9_read_152 : decode cX9_read 152 = .ok (.bipush 32, 2) := by decide +kernel
theorem dX9_read_154 : decode cX9_read 154 = .ok (.idiv, 1) := by decide +kernel
theorem dX9_read_155 : decode cX9_read 155 = .ok (.aload_n 0, 1) := by decide +kernel
theorem dX9_read_156 : decode cX9_read 156 = .ok (.getfield 83, 3) := by decide +kernel
theorem dX9_read_159 : decode cX9_read 159 = .ok (.bipush 12, 2) := by decide +kernel
theorem dX9_read_161 : decode cX9_read 161 = .ok (.iload_n 1, 1) := by decide +kernel
theorem dX9_read_162 : decode cX9_read 162 = .ok (.imul, 1) := by decide +kernel
theorem dX9_read_163 : decode cX9_read 163 = .ok (.iload 4, 2) := by decide +kernel
theorem dX9_read_165 : decode cX9_read 165 = .ok (.iadd, 1) := by decide +kernel
theorem dX9_read_166 : decode cX9_read 166 = .ok (.iaload, 1) := by decide +kernel
theorem dX9_read_167 : decode cX9_read 167 = .ok (.bipush 32, 2) := by decide +kernel
theorem dX9_read_169 : decode cX9_read 169 = .ok (.irem, 1) := by decide +kernel
theorem dX9_read_170 : decode cX9_read 170 = .ok (.iconst 0, 1) := by decide +kernel
theorem dX9_read_171 : decode cX9_read 171 = .ok (.iload_n 3, 1) := by decide +kernel
theorem dX9_read_172 : decode cX9_read 172 = .ok (.invokevirtual 149, 3) := by decide +kernel
theorem dX9_read_175 : decode cX9_read 175 = .ok (.istore 5, 2) := by decide +kernel
theorem dX9_read_177 : decode cX9_read 177 = .ok (.iinc 4 1, 3) := by decide +kernel
theorem dX9_read_180 : decode cX9_read 180 = .ok (.goto (-53), 3) := by decide +kernel
theorem dX9_read_183 : decode cX9_read 183 = .ok (.aload_n 0, 1) := by decide +kernel
theorem dX9_read_184 : decode cX9_read 184 = .ok (.getfield 115, 3) := by decide +kernel
theorem dX9_read_187 : decode cX9_read 187 = .ok (.ireturn, 1) := by decide +kernel
theorem dX9_openMany_0 : decode cX9_openMany 0 = .ok (.iconst 0, 1) := by decide +kernel
theorem dX9_openMany_1 : decode cX9_openMany 1 = .ok (.istore_n 1, 1) := by decide +kernel
theorem dX9_openMany_2 : decode cX9_openMany 2 = .ok (.iconst 0, 1) := by decide +kernel
theorem dX9_openMany_3 : decode cX9_openMany 3 = .ok (.istore_n 2, 1) := by decide +kernel
theorem dX9_openMany_4 : decode cX9_openMany 4 = .ok (.iload_n 2, 1) := by decide +kernel
theorem dX9_openMany_5 : decode cX9_openMany 5 = .ok (.aload_n 0, 1) := by decide +kernel
theorem dX9_openMany_6 : decode cX9_openMany 6 = .ok (.getfield 118, 3) := by decide +kernel
theorem dX9_openMany_9 : decode cX9_openMany 9 = .ok (.if_icmp .ge 26, 3) := by decide +kernel
theorem dX9_openMany_12 : decode cX9_openMany 12 = .ok (.iload_n 1, 1) := by decide +kernel
theorem dX9_openMany_13 : decode cX9_openMany 13 = .ok (.aload_n 0, 1) := by decide +kernel
theorem dX9_openMany_14 : decode cX9_openMany 14 = .ok (.getfield 37, 3) := by decide +kernel
theorem dX9_openMany_17 : decode cX9_openMany 17 = .ok (.iload_n 2, 1) := by decide +kernel
theorem dX9_openMany_18 : decode cX9_openMany 18 = .ok (.baload, 1) := by decide +kernel
theorem dX9_openMany_19 : decode cX9_openMany 19 = .ok (.ifCond .eq 7, 3) := by decide +kernel
theorem dX9_openMany_22 : decode cX9_openMany 22 = .ok (.iconst 1, 1) := by decide +kernel
theorem dX9_openMany_23 : decode cX9_openMany 23 = .ok (.goto 4, 3) := by decide +kernel
theorem dX9_openMany_26 : decode cX9_openMany 26 = .ok (.iconst 0, 1) := by decide +kernel
theorem dX9_openMany_27 : decode cX9_openMany 27 = .ok (.iadd, 1) := by decide +kernel
theorem dX9_openMany_28 : decode cX9_openMany 28 = .ok (.istore_n 1, 1) := by decide +kernel
theorem dX9_openMany_29 : decode cX9_openMany 29 = .ok (.iinc 2 1, 3) := by decide +kernel
theorem dX9_openMany_32 : decode cX9_openMany 32 = .ok (.goto (-28), 3) := by decide +kernel
theorem dX9_openMany_35 : decode cX9_openMany 35 = .ok (.iload_n 1, 1) := by decide +kernel
theorem dX9_openMany_36 : decode cX9_openMany 36 = .ok (.ireturn, 1) := by decide +kernel
theorem dX9_allClosings_0 : decode cX9_allClosings 0 = .ok (.iconst 0, 1) := by decide +kernel
theorem dX9_allClosings_1 : decode cX9_allClosings 1 = .ok (.istore_n 1, 1) := by decide +kernel
theorem dX9_allClosings_2 : decode cX9_allClosings 2 = .ok (.iconst 0, 1) := by decide +kernel
theorem dX9_allClosings_3 : decode cX9_allClosings 3 = .ok (.istore_n 2, 1) := by decide +kernel
theorem dX9_allClosings_4 : decode cX9_allClosings 4 = .ok (.iload_n 2, 1) := by decide +kernel
theorem dX9_allClosings_5 : decode cX9_allClosings 5 = .ok (.bipush 6, 2) := by decide +kernel
theorem dX9_allClosings_7 : decode cX9_allClosings 7 = .ok (.if_icmp .ge 18, 3) := by decide +kernel
theorem dX9_allClosings_10 : decode cX9_allClosings 10 = .ok (.iload_n 1, 1) := by decide +kernel
theorem dX9_allClosings_11 : decode cX9_allClosings 11 = .ok (.aload_n 0, 1) := by decide +kernel
theorem dX9_allClosings_12 : decode cX9_allClosings 12 = .ok (.getfield 62, 3) := by decide +kernel
theorem dX9_allClosings_15 : decode cX9_allClosings 15 = .ok (.iload_n 2, 1) := by decide +kernel
theorem dX9_allClosings_16 : decode cX9_allClosings 16 = .ok (.iaload, 1) := by decide +kernel
theorem dX9_allClosings_17 : decode cX9_allClosings 17 = .ok (.iadd, 1) := by decide +kernel
theorem dX9_allClosings_18 : decode cX9_allClosings 18 = .ok (.istore_n 1, 1) := by decide +kernel
theorem dX9_allClosings_19 : decode cX9_allClosings 19 = .ok (.iinc 2 1, 3) := by decide +kernel
theorem dX9_allClosings_22 : decode cX9_allClosings 22 = .ok (.goto (-18), 3) := by decide +kernel
theorem dX9_allClosings_25 : decode cX9_allClosings 25 = .ok (.iload_n 1, 1) := by decide +kernel
theorem dX9_allClosings_26 : decode cX9_allClosings 26 = .ok (.ireturn, 1) := by decide +kernel
theorem dX9_told_0 : decode cX9_told 0 = .ok (.iload_n 1, 1) := by decide +kernel
theorem dX9_told_1 : decode cX9_told 1 = .ok (.tableswitch 87 0 7 #[47, 52, 57, 62, 67, 72, 77, 82], 47) := by decide +kernel
theorem dX9_told_48 : decode cX9_told 48 = .ok (.aload_n 0, 1) := by decide +kernel
theorem dX9_told_49 : decode cX9_told 49 = .ok (.getfield 115, 3) := by decide +kernel
theorem dX9_told_52 : decode cX9_told 52 = .ok (.ireturn, 1) := by decide +kernel
theorem dX9_told_53 : decode cX9_told 53 = .ok (.aload_n 0, 1) := by decide +kernel
theorem dX9_told_54 : decode cX9_told 54 = .ok (.getfield 118, 3) := by decide +kernel
theorem dX9_told_57 : decode cX9_told 57 = .ok (.ireturn, 1) := by decide +kernel
theorem dX9_told_58 : decode cX9_told 58 = .ok (.aload_n 0, 1) := by decide +kernel
theorem dX9_told_59 : decode cX9_told 59 = .ok (.invokevirtual 227, 3) := by decide +kernel
theorem dX9_told_62 : decode cX9_told 62 = .ok (.ireturn, 1) := by decide +kernel
theorem dX9_told_63 : decode cX9_told 63 = .ok (.aload_n 0, 1) := by decide +kernel
theorem dX9_told_64 : decode cX9_told 64 = .ok (.getfield 179, 3) := by decide +kernel
theorem dX9_told_67 : decode cX9_told 67 = .ok (.ireturn, 1) := by decide +kernel
theorem dX9_told_68 : decode cX9_told 68 = .ok (.aload_n 0, 1) := by decide +kernel
theorem dX9_told_69 : decode cX9_told 69 = .ok (.getfield 170, 3) := by decide +kernel
theorem dX9_told_72 : decode cX9_told 72 = .ok (.ireturn, 1) := by decide +kernel
theorem dX9_told_73 : decode cX9_told 73 = .ok (.aload_n 0, 1) := by decide +kernel
theorem dX9_told_74 : decode cX9_told 74 = .ok (.invokevirtual 230, 3) := by decide +kernel
theorem dX9_told_77 : decode cX9_told 77 = .ok (.ireturn, 1) := by decide +kernel
theorem dX9_told_78 : decode cX9_told 78 = .ok (.aload_n 0, 1) := by decide +kernel
theorem dX9_told_79 : decode cX9_told 79 = .ok (.invokevirtual 140, 3) := by decide +kernel
theorem dX9_told_82 : decode cX9_told 82 = .ok (.ireturn, 1) := by decide +kernel
theorem dX9_told_83 : decode cX9_told 83 = .ok (.aload_n 0, 1) := by decide +kernel
theorem dX9_told_84 : decode cX9_told 84 = .ok (.getfield 107, 3) := by decide +kernel
theorem dX9_told_87 : decode cX9_told 87 = .ok (.ireturn, 1) := by decide +kernel
theorem dX9_told_88 : decode cX9_told 88 = .ok (.aload_n 0, 1) := by decide +kernel
theorem dX9_told_89 : decode cX9_told 89 = .ok (.ldc 144, 2) := by decide +kernel
theorem dX9_told_91 : decode cX9_told 91 = .ok (.invokevirtual 145, 3) := by decide +kernel
theorem dX9_told_94 : decode cX9_told 94 = .ok (.ireturn, 1) := by decide +kernel
end
section
theorem dL_law_0 : decode cL_law 0 = .ok (.new 7, 3) := by decide +kernel
theorem dL_law_3 : decode cL_law 3 = .ok (.dup, 1) := by decide +kernel
theorem dL_law_4 : decode cL_law 4 = .ok (.invokespecial 9, 3) := by decide +kernel
theorem dL_law_7 : decode cL_law 7 = .ok (.astore_n 1, 1) := by decide +kernel
theorem dL_law_8 : decode cL_law 8 = .ok (.new 10, 3) := by decide +kernel
theorem dL_law_11 : decode cL_law 11 = .ok (.dup, 1) := by decide +kernel
theorem dL_law_12 : decode cL_law 12 = .ok (.invokespecial 12, 3) := by decide +kernel
theorem dL_law_15 : decode cL_law 15 = .ok (.astore_n 2, 1) := by decide +kernel
theorem dL_law_16 : decode cL_law 16 = .ok (.iconst 0, 1) := by decide +kernel
theorem dL_law_17 : decode cL_law 17 = .ok (.istore_n 3, 1) := by decide +kernel
theorem dL_law_18 : decode cL_law 18 = .ok (.iload_n 3, 1) := by decide +kernel
theorem dL_law_19 : decode cL_law 19 = .ok (.aload_n 0, 1) := by decide +kernel
theorem dL_law_20 : decode cL_law 20 = .ok (.arraylength, 1) := by decide +kernel
theorem dL_law_21 : decode cL_law 21 = .ok (.bipush 6, 2) := by decide +kernel
theorem dL_law_23 : decode cL_law 23 = .ok (.isub, 1) := by decide +kernel
theorem dL_law_24 : decode cL_law 24 = .ok (.if_icmp .gt 1081, 3) := by decide +kernel
theorem dL_law_27 : decode cL_law 27 = .ok (.aload_n 0, 1) := by decide +kernel
theorem dL_law_28 : decode cL_law 28 = .ok (.iload_n 3, 1) := by decide +kernel
theorem dL_law_29 : decode cL_law 29 = .ok (.iaload, 1) := by decide +kernel
theorem dL_law_30 : decode cL_law 30 = .ok (.bipush 31, 2) := by decide +kernel
theorem dL_law_32 : decode cL_law 32 = .ok (.iand, 1) := by decide +kernel
theorem dL_law_33 : decode cL_law 33 = .ok (.tableswitch 1066 0 24 #[115, 178, 221, 254, 287, 320, 353, 386, 419, 482, 495, 518, 541, 564, 597, 660, 693, 742, 775, 818, 851, 894, 937, 1000, 1043], 115) := by decide +kernel
theorem dL_law_148 : decode cL_law 148 = .ok (.aload_n 1, 1) := by decide +kernel
theorem dL_law_149 : decode cL_law 149 = .ok (.aload_n 0, 1) := by decide +kernel
theorem dL_law_150 : decode cL_law 150 = .ok (.iload_n 3, 1) := by decide +kernel
theorem dL_law_151 : decode cL_law 151 = .ok (.iconst 1, 1) := by decide +kernel
theorem dL_law_152 : decode cL_law 152 = .ok (.iadd, 1) := by decide +kernel
theorem dL_law_153 : decode cL_law 153 = .ok (.iaload, 1) := by decide +kernel
theorem dL_law_154 : decode cL_law 154 = .ok (.aload_n 0, 1) := by decide +kernel
theorem dL_law_155 : decode cL_law 155 = .ok (.iload_n 3, 1) := by decide +kernel
theorem dL_law_156 : decode cL_law 156 = .ok (.iconst 2, 1) := by decide +kernel
theorem dL_law_157 : decode cL_law 157 = .ok (.iadd, 1) := by decide +kernel
theorem dL_law_158 : decode cL_law 158 = .ok (.iaload, 1) := by decide +kernel
theorem dL_law_159 : decode cL_law 159 = .ok (.aload_n 0, 1) := by decide +kernel
theorem dL_law_160 : decode cL_law 160 = .ok (.iload_n 3, 1) := by decide +kernel
theorem dL_law_161 : decode cL_law 161 = .ok (.iconst 3, 1) := by decide +kernel
theorem dL_law_162 : decode cL_law 162 = .ok (.iadd, 1) := by decide +kernel
theorem dL_law_163 : decode cL_law 163 = .ok (.iaload, 1) := by decide +kernel
theorem dL_law_164 : decode cL_law 164 = .ok (.aload_n 0, 1) := by decide +kernel
theorem dL_law_165 : decode cL_law 165 = .ok (.iload_n 3, 1) := by decide +kernel
theorem dL_law_166 : decode cL_law 166 = .ok (.iconst 4, 1) := by decide +kernel
theorem dL_law_167 : decode cL_law 167 = .ok (.iadd, 1) := by decide +kernel
theorem dL_law_168 : decode cL_law 168 = .ok (.iaload, 1) := by decide +kernel
theorem dL_law_169 : decode cL_law 169 = .ok (.aload_n 0, 1) := by decide +kernel
theorem dL_law_170 : decode cL_law 170 = .ok (.iload_n 3, 1) := by decide +kernel
theorem dL_law_171 : decode cL_law 171 = .ok (.iconst 5, 1) := by decide +kernel
theorem dL_law_172 : decode cL_law 172 = .ok (.iadd, 1) := by decide +kernel
theorem dL_law_173 : decode cL_law 173 = .ok (.iaload, 1) := by decide +kernel
theorem dL_law_174 : decode cL_law 174 = .ok (.invokevirtual 13, 3) := by decide +kernel
theorem dL_law_177 : decode cL_law 177 = .ok (.aload_n 2, 1) := by decide +kernel
theorem dL_law_178 : decode cL_law 178 = .ok (.aload_n 0, 1) := by decide +kernel
theorem dL_law_179 : decode cL_law 179 = .ok (.iload_n 3, 1) := by decide +kernel
theorem dL_law_180 : decode cL_law 180 = .ok (.iconst 1, 1) := by decide +kernel
theorem dL_law_181 : decode cL_law 181 = .ok (.iadd, 1) := by decide +kernel
theorem dL_law_182 : decode cL_law 182 = .ok (.iaload, 1) := by decide +kernel
theorem dL_law_183 : decode cL_law 183 = .ok (.aload_n 0, 1) := by decide +kernel
theorem dL_law_184 : decode cL_law 184 = .ok (.iload_n 3, 1) := by decide +kernel
theorem dL_law_185 : decode cL_law 185 = .ok (.iconst 2, 1) := by decide +kernel
theorem dL_law_186 : decode cL_law 186 = .ok (.iadd, 1) := by decide +kernel
theorem dL_law_187 : decode cL_law 187 = .ok (.iaload, 1) := by decide +kernel
theorem dL_law_188 : decode cL_law 188 = .ok (.aload_n 0, 1) := by decide +kernel
theorem dL_law_189 : decode cL_law 189 = .ok (.iload_n 3, 1) := by decide +kernel
theorem dL_law_190 : decode cL_law 190 = .ok (.iconst 3, 1) := by decide +kernel
theorem dL_law_191 : decode cL_law 191 = .ok (.iadd, 1) := by decide +kernel
theorem dL_law_192 : decode cL_law 192 = .ok (.iaload, 1) := by decide +kernel
theorem dL_law_193 : decode cL_law 193 = .ok (.aload_n 0, 1) := by decide +kernel
theorem dL_law_194 : decode cL_law 194 = .ok (.iload_n 3, 1) := by decide +kernel
theorem dL_law_195 : decode cL_law 195 = .ok (.iconst 4, 1) := by decide +kernel
theorem dL_law_196 : decode cL_law 196 = .ok (.iadd, 1) := by decide +kernel
theorem dL_law_197 : decode cL_law 197 = .ok (.iaload, 1) := by decide +kernel
theorem dL_law_198 : decode cL_law 198 = .ok (.aload_n 0, 1) := by decide +kernel
theorem dL_law_199 : decode cL_law 199 = .ok (.iload_n 3, 1) := by decide +kernel
theorem dL_law_200 : decode cL_law 200 = .ok (.iconst 5, 1) := by decide +kernel
theorem dL_law_201 : decode cL_law 201 = .ok (.iadd, 1) := by decide +kernel
theorem dL_law_202 : decode cL_law 202 = .ok (.iaload, 1) := by decide +kernel
theorem dL_law_203 : decode cL_law 203 = .ok (.invokevirtual 17, 3) := by decide +kernel
theorem dL_law_206 : decode cL_law 206 = .ok (.if_icmp .eq 893, 3) := by decide +kernel
theorem dL_law_209 : decode cL_law 209 = .ok (.iconst 0, 1) := by decide +kernel
theorem dL_law_210 : decode cL_law 210 = .ok (.ireturn, 1) := by decide +kernel
theorem dL_law_211 : decode cL_law 211 = .ok (.aload_n 1, 1) := by decide +kernel
theorem dL_law_212 : decode cL_law 212 = .ok (.aload_n 0, 1) := by decide +kernel
theorem dL_law_213 : decode cL_law 213 = .ok (.iload_n 3, 1) := by decide +kernel
theorem dL_law_214 : decode cL_law 214 = .ok (.iconst 1, 1) := by decide +kernel
theorem dL_law_215 : decode cL_law 215 = .ok (.iadd, 1) := by decide +kernel
theorem dL_law_216 : decode cL_law 216 = .ok (.iaload, 1) := by decide +kernel
theorem dL_law_217 : decode cL_law 217 = .ok (.aload_n 0, 1) := by decide +kernel
theorem dL_law_218 : decode cL_law 218 = .ok (.iload_n 3, 1) := by decide +kernel
theorem dL_law_219 : decode cL_law 219 = .ok (.iconst 2, 1) := by decide +kernel
theorem dL_law_220 : decode cL_law 220 = .ok (.iadd, 1) := by decide +kernel
theorem dL_law_221 : decode cL_law 221 = .ok (.iaload, 1) := by decide +kernel
theorem dL_law_222 : decode cL_law 222 = .ok (.aload_n 0, 1) := by decide +kernel
theorem dL_law_223 : decode cL_law 223 = .ok (.iload_n 3, 1) := by decide +kernel
theorem dL_law_224 : decode cL_law 224 = .ok (.iconst 3, 1) := by decide +kernel
theorem dL_law_225 : decode cL_law 225 = .ok (.iadd, 1) := by decide +kernel
theorem dL_law_226 : decode cL_law 226 = .ok (.iaload, 1) := by decide +kernel
theorem dL_law_227 : decode cL_law 227 = .ok (.invokevirtual 18, 3) := by decide +kernel
theorem dL_law_230 : decode cL_law 230 = .ok (.aload_n 2, 1) := by decide +kernel
theorem dL_law_231 : decode cL_law 231 = .ok (.aload_n 0, 1) := by decide +kernel
theorem dL_law_232 : decode cL_law 232 = .ok (.iload_n 3, 1) := by decide +kernel
theorem dL_law_233 : decode cL_law 233 = .ok (.iconst 1, 1) := by decide +kernel
theorem dL_law_234 : decode cL_law 234 = .ok (.iadd, 1) := by decide +kernel
theorem dL_law_235 : decode cL_law 235 = .ok (.iaload, 1) := by decide +kernel
theorem dL_law_236 : decode cL_law 236 = .ok (.aload_n 0, 1) := by decide +kernel
theorem dL_law_237 : decode cL_law 237 = .ok (.iload_n 3, 1) := by decide +kernel
theorem dL_law_238 : decode cL_law 238 = .ok (.iconst 2, 1) := by decide +kernel
theorem dL_law_239 : decode cL_law 239 = .ok (.iadd, 1) := by decide +kernel
theorem dL_law_240 : decode cL_law 240 = .ok (.iaload, 1) := by decide +kernel
theorem dL_law_241 : decode cL_law 241 = .ok (.aload_n 0, 1) := by decide +kernel
theorem dL_law_242 : decode cL_law 242 = .ok (.iload_n 3, 1) := by decide +kernel
theorem dL_law_243 : decode cL_law 243 = .ok (.iconst 3, 1) := by decide +kernel
theorem dL_law_244 : decode cL_law 244 = .ok (.iadd, 1) := by decide +kernel
theorem dL_law_245 : decode cL_law 245 = .ok (.iaload, 1) := by decide +kernel
theorem dL_law_246 : decode cL_law 246 = .ok (.invokevirtual 22, 3) := by decide +kernel
theorem dL_law_249 : decode cL_law 249 = .ok (.if_icmp .eq 850, 3) := by decide +kernel
theorem dL_law_252 : decode cL_law 252 = .ok (.iconst 0, 1) := by decide +kernel
theorem dL_law_253 : decode cL_law 253 = .ok (.ireturn, 1) := by decide +kernel
theorem dL_law_254 : decode cL_law 254 = .ok (.aload_n 1, 1) := by decide +kernel
theorem dL_law_255 : decode cL_law 255 = .ok (.aload_n 0, 1) := by decide +kernel
theorem dL_law_256 : decode cL_law 256 = .ok (.iload_n 3, 1) := by decide +kernel
theorem dL_law_257 : decode cL_law 257 = .ok (.iconst 1, 1) := by decide +kernel
theorem dL_law_258 : decode cL_law 258 = .ok (.iadd, 1) := by decide +kernel
theorem dL_law_259 : decode cL_law 259 = .ok (.iaload, 1) := by decide +kernel
theorem dL_law_260 : decode cL_law 260 = .ok (.aload_n 0, 1) := by decide +kernel
theorem dL_law_261 : decode cL_law 261 = .ok (.iload_n 3, 1) := by decide +kernel
theorem dL_law_262 : decode cL_law 262 = .ok (.iconst 2, 1) := by decide +kernel
theorem dL_law_263 : decode cL_law 263 = .ok (.iadd, 1) := by decide +kernel
theorem dL_law_264 : decode cL_law 264 = .ok (.iaload, 1) := by decide +kernel
theorem dL_law_265 : decode cL_law 265 = .ok (.invokevirtual 23, 3) := by decide +kernel
theorem dL_law_268 : decode cL_law 268 = .ok (.aload_n 2, 1) := by decide +kernel
theorem dL_law_269 : decode cL_law 269 = .ok (.aload_n 0, 1) := by decide +kernel
theorem dL_law_270 : decode cL_law 270 = .ok (.iload_n 3, 1) := by decide +kernel
theorem dL_law_271 : decode cL_law 271 = .ok (.iconst 1, 1) := by decide +kernel
theorem dL_law_272 : decode cL_law 272 = .ok (.iadd, 1) := by decide +kernel
theorem dL_law_273 : decode cL_law 273 = .ok (.iaload, 1) := by decide +kernel
theorem dL_law_274 : decode cL_law 274 = .ok (.aload_n 0, 1) := by decide +kernel
theorem dL_law_275 : decode cL_law 275 = .ok (.iload_n 3, 1) := by decide +kernel
theorem dL_law_276 : decode cL_law 276 = .ok (.iconst 2, 1) := by decide +kernel
theorem dL_law_277 : decode cL_law 277 = .ok (.iadd, 1) := by decide +kernel
theorem dL_law_278 : decode cL_law 278 = .ok (.iaload, 1) := by decide +kernel
theorem dL_law_279 : decode cL_law 279 = .ok (.invokevirtual 27, 3) := by decide +kernel
theorem dL_law_282 : decode cL_law 282 = .ok (.if_icmp .eq 817, 3) := by decide +kernel
theorem dL_law_285 : decode cL_law 285 = .ok (.iconst 0, 1) := by decide +kernel
theorem dL_law_286 : decode cL_law 286 = .ok (.ireturn, 1) := by decide +kernel
theorem dL_law_287 : decode cL_law 287 = .ok (.aload_n 1, 1) := by decide +kernel
theorem dL_law_288 : decode cL_law 288 = .ok (.aload_n 0, 1) := by decide +kernel
theorem dL_law_289 : decode cL_law 289 = .ok (.iload_n 3, 1) := by decide +kernel
theorem dL_law_290 : decode cL_law 290 = .ok (.iconst 1, 1) := by decide +kernel
theorem dL_law_291 : decode cL_law 291 = .ok (.iadd, 1) := by decide +kernel
theorem dL_law_292 : decode cL_law 292 = .ok (.iaload, 1) := by decide +kernel
theorem dL_law_293 : decode cL_law 293 = .ok (.aload_n 0, 1) := by decide +kernel
theorem dL_law_294 : decode cL_law 294 = .ok (.iload_n 3, 1) := by decide +kernel
theorem dL_law_295 : decode cL_law 295 = .ok (.iconst 2, 1) := by decide +kernel
theorem dL_law_296 : decode cL_law 296 = .ok (.iadd, 1) := by decide +kernel
theorem dL_law_297 : decode cL_law 297 = .ok (.iaload, 1) := by decide +kernel
theorem dL_law_298 : decode cL_law 298 = .ok (.invokevirtual 28, 3) := by decide +kernel
theorem dL_law_301 : decode cL_law 301 = .ok (.aload_n 2, 1) := by decide +kernel
theorem dL_law_302 : decode cL_law 302 = .ok (.aload_n 0, 1) := by decide +kernel
theorem dL_law_303 : decode cL_law 303 = .ok (.iload_n 3, 1) := by decide +kernel
theorem dL_law_304 : decode cL_law 304 = .ok (.iconst 1, 1) := by decide +kernel
theorem dL_law_305 : decode cL_law 305 = .ok (.iadd, 1) := by decide +kernel
theorem dL_law_306 : decode cL_law 306 = .ok (.iaload, 1) := by decide +kernel
theorem dL_law_307 : decode cL_law 307 = .ok (.aload_n 0, 1) := by decide +kernel
theorem dL_law_308 : decode cL_law 308 = .ok (.iload_n 3, 1) := by decide +kernel
theorem dL_law_309 : decode cL_law 309 = .ok (.iconst 2, 1) := by decide +kernel
theorem dL_law_310 : decode cL_law 310 = .ok (.iadd, 1) := by decide +kernel
theorem dL_law_311 : decode cL_law 311 = .ok (.iaload, 1) := by decide +kernel
theorem dL_law_312 : decode cL_law 312 = .ok (.invokevirtual 31, 3) := by decide +kernel
theorem dL_law_315 : decode cL_law 315 = .ok (.if_icmp .eq 784, 3) := by decide +kernel
theorem dL_law_318 : decode cL_law 318 = .ok (.iconst 0, 1) := by decide +kernel
theorem dL_law_319 : decode cL_law 319 = .ok (.ireturn, 1) := by decide +kernel
theorem dL_law_320 : decode cL_law 320 = .ok (.aload_n 1, 1) := by decide +kernel
theorem dL_law_321 : decode cL_law 321 = .ok (.aload_n 0, 1) := by decide +kernel
theorem dL_law_322 : decode cL_law 322 = .ok (.iload_n 3, 1) := by decide +kernel
theorem dL_law_323 : decode cL_law 323 = .ok (.iconst 1, 1) := by decide +kernel
theorem dL_law_324 : decode cL_law 324 = .ok (.iadd, 1) := by decide +kernel
theorem dL_law_325 : decode cL_law 325 = .ok (.iaload, 1) := by decide +kernel
theorem dL_law_326 : decode cL_law 326 = .ok (.aload_n 0, 1) := by decide +kernel
theorem dL_law_327 : decode cL_law 327 = .ok (.iload_n 3, 1) := by decide +kernel
theorem dL_law_328 : decode cL_law 328 = .ok (.iconst 2, 1) := by decide +kernel
theorem dL_law_329 : decode cL_law 329 = .ok (.iadd, 1) := by decide +kernel
theorem dL_law_330 : decode cL_law 330 = .ok (.iaload, 1) := by decide +kernel
theorem dL_law_331 : decode cL_law 331 = .ok (.invokevirtual 32, 3) := by decide +kernel
theorem dL_law_334 : decode cL_law 334 = .ok (.aload_n 2, 1) := by decide +kernel
theorem dL_law_335 : decode cL_law 335 = .ok (.aload_n 0, 1) := by decide +kernel
theorem dL_law_336 : decode cL_law 336 = .ok (.iload_n 3, 1) := by decide +kernel
theorem dL_law_337 : decode cL_law 337 = .ok (.iconst 1, 1) := by decide +kernel
theorem dL_law_338 : decode cL_law 338 = .ok (.iadd, 1) := by decide +kernel
theorem dL_law_339 : decode cL_law 339 = .ok (.iaload, 1) := by decide +kernel
theorem dL_law_340 : decode cL_law 340 = .ok (.aload_n 0, 1) := by decide +kernel
theorem dL_law_341 : decode cL_law 341 = .ok (.iload_n 3, 1) := by decide +kernel
theorem dL_law_342 : decode cL_law 342 = .ok (.iconst 2, 1) := by decide +kernel
theorem dL_law_343 : decode cL_law 343 = .ok (.iadd, 1) := by decide +kernel
theorem dL_law_344 : decode cL_law 344 = .ok (.iaload, 1) := by decide +kernel
theorem dL_law_345 : decode cL_law 345 = .ok (.invokevirtual 35, 3) := by decide +kernel
theorem dL_law_348 : decode cL_law 348 = .ok (.if_icmp .eq 751, 3) := by decide +kernel
theorem dL_law_351 : decode cL_law 351 = .ok (.iconst 0, 1) := by decide +kernel
theorem dL_law_352 : decode cL_law 352 = .ok (.ireturn, 1) := by decide +kernel
theorem dL_law_353 : decode cL_law 353 = .ok (.aload_n 1, 1) := by decide +kernel
theorem dL_law_354 : decode cL_law 354 = .ok (.aload_n 0, 1) := by decide +kernel
theorem dL_law_355 : decode cL_law 355 = .ok (.iload_n 3, 1) := by decide +kernel
theorem dL_law_356 : decode cL_law 356 = .ok (.iconst 1, 1) := by decide +kernel
theorem dL_law_357 : decode cL_law 357 = .ok (.iadd, 1) := by decide +kernel
theorem dL_law_358 : decode cL_law 358 = .ok (.iaload, 1) := by decide +kernel
theorem dL_law_359 : decode cL_law 359 = .ok (.aload_n 0, 1) := by decide +kernel
theorem dL_law_360 : decode cL_law 360 = .ok (.iload_n 3, 1) := by decide +kernel
theorem dL_law_361 : decode cL_law 361 = .ok (.iconst 2, 1) := by decide +kernel
theorem dL_law_362 : decode cL_law 362 = .ok (.iadd, 1) := by decide +kernel
theorem dL_law_363 : decode cL_law 363 = .ok (.iaload, 1) := by decide +kernel
theorem dL_law_364 : decode cL_law 364 = .ok (.invokevirtual 36, 3) := by decide +kernel
theorem dL_law_367 : decode cL_law 367 = .ok (.aload_n 2, 1) := by decide +kernel
theorem dL_law_368 : decode cL_law 368 = .ok (.aload_n 0, 1) := by decide +kernel
theorem dL_law_369 : decode cL_law 369 = .ok (.iload_n 3, 1) := by decide +kernel
theorem dL_law_370 : decode cL_law 370 = .ok (.iconst 1, 1) := by decide +kernel
theorem dL_law_371 : decode cL_law 371 = .ok (.iadd, 1) := by decide +kernel
theorem dL_law_372 : decode cL_law 372 = .ok (.iaload, 1) := by decide +kernel
theorem dL_law_373 : decode cL_law 373 = .ok (.aload_n 0, 1) := by decide +kernel
theorem dL_law_374 : decode cL_law 374 = .ok (.iload_n 3, 1) := by decide +kernel
theorem dL_law_375 : decode cL_law 375 = .ok (.iconst 2, 1) := by decide +kernel
theorem dL_law_376 : decode cL_law 376 = .ok (.iadd, 1) := by decide +kernel
theorem dL_law_377 : decode cL_law 377 = .ok (.iaload, 1) := by decide +kernel
theorem dL_law_378 : decode cL_law 378 = .ok (.invokevirtual 39, 3) := by decide +kernel
theorem dL_law_381 : decode cL_law 381 = .ok (.if_icmp .eq 718, 3) := by decide +kernel
theorem dL_law_384 : decode cL_law 384 = .ok (.iconst 0, 1) := by decide +kernel
theorem dL_law_385 : decode cL_law 385 = .ok (.ireturn, 1) := by decide +kernel
theorem dL_law_386 : decode cL_law 386 = .ok (.aload_n 1, 1) := by decide +kernel
theorem dL_law_387 : decode cL_law 387 = .ok (.aload_n 0, 1) := by decide +kernel
theorem dL_law_388 : decode cL_law 388 = .ok (.iload_n 3, 1) := by decide +kernel
theorem dL_law_389 : decode cL_law 389 = .ok (.iconst 1, 1) := by decide +kernel
theorem dL_law_390 : decode cL_law 390 = .ok (.iadd, 1) := by decide +kernel
theorem dL_law_391 : decode cL_law 391 = .ok (.iaload, 1) := by decide +kernel
theorem dL_law_392 : decode cL_law 392 = .ok (.aload_n 0, 1) := by decide +kernel
theorem dL_law_393 : decode cL_law 393 = .ok (.iload_n 3, 1) := by decide +kernel
theorem dL_law_394 : decode cL_law 394 = .ok (.iconst 2, 1) := by decide +kernel
theorem dL_law_395 : decode cL_law 395 = .ok (.iadd, 1) := by decide +kernel
theorem dL_law_396 : decode cL_law 396 = .ok (.iaload, 1) := by decide +kernel
theorem dL_law_397 : decode cL_law 397 = .ok (.invokevirtual 40, 3) := by decide +kernel
theorem dL_law_400 : decode cL_law 400 = .ok (.aload_n 2, 1) := by decide +kernel
theorem dL_law_401 : decode cL_law 401 = .ok (.aload_n 0, 1) := by decide +kernel
theorem dL_law_402 : decode cL_law 402 = .ok (.iload_n 3, 1) := by decide +kernel
theorem dL_law_403 : decode cL_law 403 = .ok (.iconst 1, 1) := by decide +kernel
theorem dL_law_404 : decode cL_law 404 = .ok (.iadd, 1) := by decide +kernel
theorem dL_law_405 : decode cL_law 405 = .ok (.iaload, 1) := by decide +kernel
theorem dL_law_406 : decode cL_law 406 = .ok (.aload_n 0, 1) := by decide +kernel
theorem dL_law_407 : decode cL_law 407 = .ok (.iload_n 3, 1) := by decide +kernel
theorem dL_law_408 : decode cL_law 408 = .ok (.iconst 2, 1) := by decide +kernel
theorem dL_law_409 : decode cL_law 409 = .ok (.iadd, 1) := by decide +kernel
theorem dL_law_410 : decode cL_law 410 = .ok (.iaload, 1) := by decide +kernel
theorem dL_law_411 : decode cL_law 411 = .ok (.invokevirtual 43, 3) := by decide +kernel
theorem dL_law_414 : decode cL_law 414 = .ok (.if_icmp .eq 685, 3) := by decide +kernel
theorem dL_law_417 : decode cL_law 417 = .ok (.iconst 0, 1) := by decide +kernel
theorem dL_law_418 : decode cL_law 418 = .ok (.ireturn, 1) := by decide +kernel
theorem dL_law_419 : decode cL_law 419 = .ok (.aload_n 1, 1) := by decide +kernel
theorem dL_law_420 : decode cL_law 420 = .ok (.aload_n 0, 1) := by decide +kernel
theorem dL_law_421 : decode cL_law 421 = .ok (.iload_n 3, 1) := by decide +kernel
theorem dL_law_422 : decode cL_law 422 = .ok (.iconst 1, 1) := by decide +kernel
theorem dL_law_423 : decode cL_law 423 = .ok (.iadd, 1) := by decide +kernel
theorem dL_law_424 : decode cL_law 424 = .ok (.iaload, 1) := by decide +kernel
theorem dL_law_425 : decode cL_law 425 = .ok (.aload_n 0, 1) := by decide +kernel
theorem dL_law_426 : decode cL_law 426 = .ok (.iload_n 3, 1) := by decide +kernel
theorem dL_law_427 : decode cL_law 427 = .ok (.iconst 2, 1) := by decide +kernel
theorem dL_law_428 : decode cL_law 428 = .ok (.iadd, 1) := by decide +kernel
theorem dL_law_429 : decode cL_law 429 = .ok (.iaload, 1) := by decide +kernel
theorem dL_law_430 : decode cL_law 430 = .ok (.invokevirtual 44, 3) := by decide +kernel
theorem dL_law_433 : decode cL_law 433 = .ok (.aload_n 2, 1) := by decide +kernel
theorem dL_law_434 : decode cL_law 434 = .ok (.aload_n 0, 1) := by decide +kernel
theorem dL_law_435 : decode cL_law 435 = .ok (.iload_n 3, 1) := by decide +kernel
theorem dL_law_436 : decode cL_law 436 = .ok (.iconst 1, 1) := by decide +kernel
theorem dL_law_437 : decode cL_law 437 = .ok (.iadd, 1) := by decide +kernel
theorem dL_law_438 : decode cL_law 438 = .ok (.iaload, 1) := by decide +kernel
theorem dL_law_439 : decode cL_law 439 = .ok (.aload_n 0, 1) := by decide +kernel
theorem dL_law_440 : decode cL_law 440 = .ok (.iload_n 3, 1) := by decide +kernel
theorem dL_law_441 : decode cL_law 441 = .ok (.iconst 2, 1) := by decide +kernel
theorem dL_law_442 : decode cL_law 442 = .ok (.iadd, 1) := by decide +kernel
theorem dL_law_443 : decode cL_law 443 = .ok (.iaload, 1) := by decide +kernel
theorem dL_law_444 : decode cL_law 444 = .ok (.invokevirtual 47, 3) := by decide +kernel
theorem dL_law_447 : decode cL_law 447 = .ok (.if_icmp .eq 652, 3) := by decide +kernel
theorem dL_law_450 : decode cL_law 450 = .ok (.iconst 0, 1) := by decide +kernel
theorem dL_law_451 : decode cL_law 451 = .ok (.ireturn, 1) := by decide +kernel
theorem dL_law_452 : decode cL_law 452 = .ok (.aload_n 1, 1) := by decide +kernel
theorem dL_law_453 : decode cL_law 453 = .ok (.aload_n 0, 1) := by decide +kernel
theorem dL_law_454 : decode cL_law 454 = .ok (.iload_n 3, 1) := by decide +kernel
theorem dL_law_455 : decode cL_law 455 = .ok (.iconst 1, 1) := by decide +kernel
theorem dL_law_456 : decode cL_law 456 = .ok (.iadd, 1) := by decide +kernel
theorem dL_law_457 : decode cL_law 457 = .ok (.iaload, 1) := by decide +kernel
theorem dL_law_458 : decode cL_law 458 = .ok (.i2l, 1) := by decide +kernel
theorem dL_law_459 : decode cL_law 459 = .ok (.bipush 32, 2) := by decide +kernel
theorem dL_law_461 : decode cL_law 461 = .ok (.lshl, 1) := by decide +kernel
theorem dL_law_462 : decode cL_law 462 = .ok (.aload_n 0, 1) := by decide +kernel
theorem dL_law_463 : decode cL_law 463 = .ok (.iload_n 3, 1) := by decide +kernel
theorem dL_law_464 : decode cL_law 464 = .ok (.iconst 2, 1) := by decide +kernel
theorem dL_law_465 : decode cL_law 465 = .ok (.iadd, 1) := by decide +kernel
theorem dL_law_466 : decode cL_law 466 = .ok (.iaload, 1) := by decide +kernel
theorem dL_law_467 : decode cL_law 467 = .ok (.i2l, 1) := by decide +kernel
theorem dL_law_468 : decode cL_law 468 = .ok (.ldc2_w 48, 3) := by decide +kernel
theorem dL_law_471 : decode cL_law 471 = .ok (.land, 1) := by decide +kernel
theorem dL_law_472 : decode cL_law 472 = .ok (.lor, 1) := by decide +kernel
theorem dL_law_473 : decode cL_law 473 = .ok (.aload_n 0, 1) := by decide +kernel
theorem dL_law_474 : decode cL_law 474 = .ok (.iload_n 3, 1) := by decide +kernel
theorem dL_law_475 : decode cL_law 475 = .ok (.iconst 3, 1) := by decide +kernel
theorem dL_law_476 : decode cL_law 476 = .ok (.iadd, 1) := by decide +kernel
theorem dL_law_477 : decode cL_law 477 = .ok (.iaload, 1) := by decide +kernel
theorem dL_law_478 : decode cL_law 478 = .ok (.invokevirtual 50, 3) := by decide +kernel
theorem dL_law_481 : decode cL_law 481 = .ok (.aload_n 2, 1) := by decide +kernel
theorem dL_law_482 : decode cL_law 482 = .ok (.aload_n 0, 1) := by decide +kernel
theorem dL_law_483 : decode cL_law 483 = .ok (.iload_n 3, 1) := by decide +kernel
theorem dL_law_484 : decode cL_law 484 = .ok (.iconst 1, 1) := by decide +kernel
theorem dL_law_485 : decode cL_law 485 = .ok (.iadd, 1) := by decide +kernel
theorem dL_law_486 : decode cL_law 486 = .ok (.iaload, 1) := by decide +kernel
theorem dL_law_487 : decode cL_law 487 = .ok (.i2l, 1) := by decide +kernel
theorem dL_law_488 : decode cL_law 488 = .ok (.bipush 32, 2) := by decide +kernel
theorem dL_law_490 : decode cL_law 490 = .ok (.lshl, 1) := by decide +kernel
theorem dL_law_491 : decode cL_law 491 = .ok (.aload_n 0, 1) := by decide +kernel
theorem dL_law_492 : decode cL_law 492 = .ok (.iload_n 3, 1) := by decide +kernel
theorem dL_law_493 : decode cL_law 493 = .ok (.iconst 2, 1) := by decide +kernel
theorem dL_law_494 : decode cL_law 494 = .ok (.iadd, 1) := by decide +kernel
theorem dL_law_495 : decode cL_law 495 = .ok (.iaload, 1) := by decide +kernel
theorem dL_law_496 : decode cL_law 496 = .ok (.i2l, 1) := by decide +kernel
theorem dL_law_497 : decode cL_law 497 = .ok (.ldc2_w 48, 3) := by decide +kernel
theorem dL_law_500 : decode cL_law 500 = .ok (.land, 1) := by decide +kernel
theorem dL_law_501 : decode cL_law 501 = .ok (.lor, 1) := by decide +kernel
theorem dL_law_502 : decode cL_law 502 = .ok (.aload_n 0, 1) := by decide +kernel
theorem dL_law_503 : decode cL_law 503 = .ok (.iload_n 3, 1) := by decide +kernel
theorem dL_law_504 : decode cL_law 504 = .ok (.iconst 3, 1) := by decide +kernel
theorem dL_law_505 : decode cL_law 505 = .ok (.iadd, 1) := by decide +kernel
theorem dL_law_506 : decode cL_law 506 = .ok (.iaload, 1) := by decide +kernel
theorem dL_law_507 : decode cL_law 507 = .ok (.invokevirtual 54, 3) := by decide +kernel
theorem dL_law_510 : decode cL_law 510 = .ok (.if_icmp .eq 589, 3) := by decide +kernel
theorem dL_law_513 : decode cL_law 513 = .ok (.iconst 0, 1) := by decide +kernel
theorem dL_law_514 : decode cL_law 514 = .ok (.ireturn, 1) := by decide +kernel
theorem dL_law_515 : decode cL_law 515 = .ok (.aload_n 1, 1) := by decide +kernel
theorem dL_law_516 : decode cL_law 516 = .ok (.invokevirtual 55, 3) := by decide +kernel
theorem dL_law_519 : decode cL_law 519 = .ok (.aload_n 2, 1) := by decide +kernel
theorem dL_law_520 : decode cL_law 520 = .ok (.invokevirtual 59, 3) := by decide +kernel
theorem dL_law_523 : decode cL_law 523 = .ok (.if_icmp .eq 576, 3) := by decide +kernel
theorem dL_law_526 : decode cL_law 526 = .ok (.iconst 0, 1) := by decide +kernel
theorem dL_law_527 : decode cL_law 527 = .ok (.ireturn, 1) := by decide +kernel
theorem dL_law_528 : decode cL_law 528 = .ok (.aload_n 1, 1) := by decide +kernel
theorem dL_law_529 : decode cL_law 529 = .ok (.aload_n 0, 1) := by decide +kernel
theorem dL_law_530 : decode cL_law 530 = .ok (.iload_n 3, 1) := by decide +kernel
theorem dL_law_531 : decode cL_law 531 = .ok (.iconst 1, 1) := by decide +kernel
theorem dL_law_532 : decode cL_law 532 = .ok (.iadd, 1) := by decide +kernel
theorem dL_law_533 : decode cL_law 533 = .ok (.iaload, 1) := by decide +kernel
theorem dL_law_534 : decode cL_law 534 = .ok (.invokevirtual 60, 3) := by decide +kernel
theorem dL_law_537 : decode cL_law 537 = .ok (.aload_n 2, 1) := by decide +kernel
theorem dL_law_538 : decode cL_law 538 = .ok (.aload_n 0, 1) := by decide +kernel
theorem dL_law_539 : decode cL_law 539 = .ok (.iload_n 3, 1) := by decide +kernel
theorem dL_law_540 : decode cL_law 540 = .ok (.iconst 1, 1) := by decide +kernel
theorem dL_law_541 : decode cL_law 541 = .ok (.iadd, 1) := by decide +kernel
theorem dL_law_542 : decode cL_law 542 = .ok (.iaload, 1) := by decide +kernel
theorem dL_law_543 : decode cL_law 543 = .ok (.invokevirtual 64, 3) := by decide +kernel
theorem dL_law_546 : decode cL_law 546 = .ok (.if_icmp .eq 553, 3) := by decide +kernel
theorem dL_law_549 : decode cL_law 549 = .ok (.iconst 0, 1) := by decide +kernel
theorem dL_law_550 : decode cL_law 550 = .ok (.ireturn, 1) := by decide +kernel
theorem dL_law_551 : decode cL_law 551 = .ok (.aload_n 1, 1) := by decide +kernel
theorem dL_law_552 : decode cL_law 552 = .ok (.aload_n 0, 1) := by decide +kernel
theorem dL_law_553 : decode cL_law 553 = .ok (.iload_n 3, 1) := by decide +kernel
theorem dL_law_554 : decode cL_law 554 = .ok (.iconst 1, 1) := by decide +kernel
theorem dL_law_555 : decode cL_law 555 = .ok (.iadd, 1) := by decide +kernel
theorem dL_law_556 : decode cL_law 556 = .ok (.iaload, 1) := by decide +kernel
theorem dL_law_557 : decode cL_law 557 = .ok (.invokevirtual 65, 3) := by decide +kernel
theorem dL_law_560 : decode cL_law 560 = .ok (.aload_n 2, 1) := by decide +kernel
theorem dL_law_561 : decode cL_law 561 = .ok (.aload_n 0, 1) := by decide +kernel
theorem dL_law_562 : decode cL_law 562 = .ok (.iload_n 3, 1) := by decide +kernel
theorem dL_law_563 : decode cL_law 563 = .ok (.iconst 1, 1) := by decide +kernel
theorem dL_law_564 : decode cL_law 564 = .ok (.iadd, 1) := by decide +kernel
theorem dL_law_565 : decode cL_law 565 = .ok (.iaload, 1) := by decide +kernel
theorem dL_law_566 : decode cL_law 566 = .ok (.invokevirtual 68, 3) := by decide +kernel
theorem dL_law_569 : decode cL_law 569 = .ok (.if_icmp .eq 530, 3) := by decide +kernel
theorem dL_law_572 : decode cL_law 572 = .ok (.iconst 0, 1) := by decide +kernel
theorem dL_law_573 : decode cL_law 573 = .ok (.ireturn, 1) := by decide +kernel
theorem dL_law_574 : decode cL_law 574 = .ok (.aload_n 1, 1) := by decide +kernel
theorem dL_law_575 : decode cL_law 575 = .ok (.aload_n 0, 1) := by decide +kernel
theorem dL_law_576 : decode cL_law 576 = .ok (.iload_n 3, 1) := by decide +kernel
theorem dL_law_577 : decode cL_law 577 = .ok (.iconst 1, 1) := by decide +kernel
theorem dL_law_578 : decode cL_law 578 = .ok (.iadd, 1) := by decide +kernel
theorem dL_law_579 : decode cL_law 579 = .ok (.iaload, 1) := by decide +kernel
theorem dL_law_580 : decode cL_law 580 = .ok (.invokevirtual 69, 3) := by decide +kernel
theorem dL_law_583 : decode cL_law 583 = .ok (.aload_n 2, 1) := by decide +kernel
theorem dL_law_584 : decode cL_law 584 = .ok (.aload_n 0, 1) := by decide +kernel
theorem dL_law_585 : decode cL_law 585 = .ok (.iload_n 3, 1) := by decide +kernel
theorem dL_law_586 : decode cL_law 586 = .ok (.iconst 1, 1) := by decide +kernel
theorem dL_law_587 : decode cL_law 587 = .ok (.iadd, 1) := by decide +kernel
theorem dL_law_588 : decode cL_law 588 = .ok (.iaload, 1) := by decide +kernel
theorem dL_law_589 : decode cL_law 589 = .ok (.invokevirtual 72, 3) := by decide +kernel
theorem dL_law_592 : decode cL_law 592 = .ok (.if_icmp .eq 507, 3) := by decide +kernel
theorem dL_law_595 : decode cL_law 595 = .ok (.iconst 0, 1) := by decide +kernel
theorem dL_law_596 : decode cL_law 596 = .ok (.ireturn, 1) := by decide +kernel
theorem dL_law_597 : decode cL_law 597 = .ok (.aload_n 1, 1) := by decide +kernel
theorem dL_law_598 : decode cL_law 598 = .ok (.aload_n 0, 1) := by decide +kernel
theorem dL_law_599 : decode cL_law 599 = .ok (.iload_n 3, 1) := by decide +kernel
theorem dL_law_600 : decode cL_law 600 = .ok (.iconst 1, 1) := by decide +kernel
theorem dL_law_601 : decode cL_law 601 = .ok (.iadd, 1) := by decide +kernel
theorem dL_law_602 : decode cL_law 602 = .ok (.iaload, 1) := by decide +kernel
theorem dL_law_603 : decode cL_law 603 = .ok (.aload_n 0, 1) := by decide +kernel
theorem dL_law_604 : decode cL_law 604 = .ok (.iload_n 3, 1) := by decide +kernel
theorem dL_law_605 : decode cL_law 605 = .ok (.iconst 2, 1) := by decide +kernel
theorem dL_law_606 : decode cL_law 606 = .ok (.iadd, 1) := by decide +kernel
theorem dL_law_607 : decode cL_law 607 = .ok (.iaload, 1) := by decide +kernel
theorem dL_law_608 : decode cL_law 608 = .ok (.invokevirtual 73, 3) := by decide +kernel
theorem dL_law_611 : decode cL_law 611 = .ok (.aload_n 2, 1) := by decide +kernel
theorem dL_law_612 : decode cL_law 612 = .ok (.aload_n 0, 1) := by decide +kernel
theorem dL_law_613 : decode cL_law 613 = .ok (.iload_n 3, 1) := by decide +kernel
theorem dL_law_614 : decode cL_law 614 = .ok (.iconst 1, 1) := by decide +kernel
theorem dL_law_615 : decode cL_law 615 = .ok (.iadd, 1) := by decide +kernel
theorem dL_law_616 : decode cL_law 616 = .ok (.iaload, 1) := by decide +kernel
theorem dL_law_617 : decode cL_law 617 = .ok (.aload_n 0, 1) := by decide +kernel
theorem dL_law_618 : decode cL_law 618 = .ok (.iload_n 3, 1) := by decide +kernel
theorem dL_law_619 : decode cL_law 619 = .ok (.iconst 2, 1) := by decide +kernel
theorem dL_law_620 : decode cL_law 620 = .ok (.iadd, 1) := by decide +kernel
theorem dL_law_621 : decode cL_law 621 = .ok (.iaload, 1) := by decide +kernel
theorem dL_law_622 : decode cL_law 622 = .ok (.invokevirtual 76, 3) := by decide +kernel
theorem dL_law_625 : decode cL_law 625 = .ok (.if_icmp .eq 474, 3) := by decide +kernel
theorem dL_law_628 : decode cL_law 628 = .ok (.iconst 0, 1) := by decide +kernel
theorem dL_law_629 : decode cL_law 629 = .ok (.ireturn, 1) := by decide +kernel
theorem dL_law_630 : decode cL_law 630 = .ok (.aload_n 1, 1) := by decide +kernel
theorem dL_law_631 : decode cL_law 631 = .ok (.aload_n 0, 1) := by decide +kernel
theorem dL_law_632 : decode cL_law 632 = .ok (.iload_n 3, 1) := by decide +kernel
theorem dL_law_633 : decode cL_law 633 = .ok (.iconst 1, 1) := by decide +kernel
theorem dL_law_634 : decode cL_law 634 = .ok (.iadd, 1) := by decide +kernel
theorem dL_law_635 : decode cL_law 635 = .ok (.iaload, 1) := by decide +kernel
theorem dL_law_636 : decode cL_law 636 = .ok (.aload_n 0, 1) := by decide +kernel
theorem dL_law_637 : decode cL_law 637 = .ok (.iload_n 3, 1) := by decide +kernel
theorem dL_law_638 : decode cL_law 638 = .ok (.iconst 2, 1) := by decide +kernel
theorem dL_law_639 : decode cL_law 639 = .ok (.iadd, 1) := by decide +kernel
theorem dL_law_640 : decode cL_law 640 = .ok (.iaload, 1) := by decide +kernel
theorem dL_law_641 : decode cL_law 641 = .ok (.aload_n 0, 1) := by decide +kernel
theorem dL_law_642 : decode cL_law 642 = .ok (.iload_n 3, 1) := by decide +kernel
theorem dL_law_643 : decode cL_law 643 = .ok (.iconst 3, 1) := by decide +kernel
theorem dL_law_644 : decode cL_law 644 = .ok (.iadd, 1) := by decide +kernel
theorem dL_law_645 : decode cL_law 645 = .ok (.iaload, 1) := by decide +kernel
theorem dL_law_646 : decode cL_law 646 = .ok (.aload_n 0, 1) := by decide +kernel
theorem dL_law_647 : decode cL_law 647 = .ok (.iload_n 3, 1) := by decide +kernel
theorem dL_law_648 : decode cL_law 648 = .ok (.iconst 4, 1) := by decide +kernel
theorem dL_law_649 : decode cL_law 649 = .ok (.iadd, 1) := by decide +kernel
theorem dL_law_650 : decode cL_law 650 = .ok (.iaload, 1) := by decide +kernel
theorem dL_law_651 : decode cL_law 651 = .ok (.aload_n 0, 1) := by decide +kernel
theorem dL_law_652 : decode cL_law 652 = .ok (.iload_n 3, 1) := by decide +kernel
theorem dL_law_653 : decode cL_law 653 = .ok (.iconst 5, 1) := by decide +kernel
theorem dL_law_654 : decode cL_law 654 = .ok (.iadd, 1) := by decide +kernel
theorem dL_law_655 : decode cL_law 655 = .ok (.iaload, 1) := by decide +kernel
theorem dL_law_656 : decode cL_law 656 = .ok (.invokevirtual 77, 3) := by decide +kernel
theorem dL_law_659 : decode cL_law 659 = .ok (.aload_n 2, 1) := by decide +kernel
theorem dL_law_660 : decode cL_law 660 = .ok (.aload_n 0, 1) := by decide +kernel
theorem dL_law_661 : decode cL_law 661 = .ok (.iload_n 3, 1) := by decide +kernel
theorem dL_law_662 : decode cL_law 662 = .ok (.iconst 1, 1) := by decide +kernel
theorem dL_law_663 : decode cL_law 663 = .ok (.iadd, 1) := by decide +kernel
theorem dL_law_664 : decode cL_law 664 = .ok (.iaload, 1) := by decide +kernel
theorem dL_law_665 : decode cL_law 665 = .ok (.aload_n 0, 1) := by decide +kernel
theorem dL_law_666 : decode cL_law 666 = .ok (.iload_n 3, 1) := by decide +kernel
theorem dL_law_667 : decode cL_law 667 = .ok (.iconst 2, 1) := by decide +kernel
theorem dL_law_668 : decode cL_law 668 = .ok (.iadd, 1) := by decide +kernel
theorem dL_law_669 : decode cL_law 669 = .ok (.iaload, 1) := by decide +kernel
theorem dL_law_670 : decode cL_law 670 = .ok (.aload_n 0, 1) := by decide +kernel
theorem dL_law_671 : decode cL_law 671 = .ok (.iload_n 3, 1) := by decide +kernel
theorem dL_law_672 : decode cL_law 672 = .ok (.iconst 3, 1) := by decide +kernel
theorem dL_law_673 : decode cL_law 673 = .ok (.iadd, 1) := by decide +kernel
theorem dL_law_674 : decode cL_law 674 = .ok (.iaload, 1) := by decide +kernel
theorem dL_law_675 : decode cL_law 675 = .ok (.aload_n 0, 1) := by decide +kernel
theorem dL_law_676 : decode cL_law 676 = .ok (.iload_n 3, 1) := by decide +kernel
theorem dL_law_677 : decode cL_law 677 = .ok (.iconst 4, 1) := by decide +kernel
theorem dL_law_678 : decode cL_law 678 = .ok (.iadd, 1) := by decide +kernel
theorem dL_law_679 : decode cL_law 679 = .ok (.iaload, 1) := by decide +kernel
theorem dL_law_680 : decode cL_law 680 = .ok (.aload_n 0, 1) := by decide +kernel
theorem dL_law_681 : decode cL_law 681 = .ok (.iload_n 3, 1) := by decide +kernel
theorem dL_law_682 : decode cL_law 682 = .ok (.iconst 5, 1) := by decide +kernel
theorem dL_law_683 : decode cL_law 683 = .ok (.iadd, 1) := by decide +kernel
theorem dL_law_684 : decode cL_law 684 = .ok (.iaload, 1) := by decide +kernel
theorem dL_law_685 : decode cL_law 685 = .ok (.invokevirtual 80, 3) := by decide +kernel
theorem dL_law_688 : decode cL_law 688 = .ok (.if_icmp .eq 411, 3) := by decide +kernel
theorem dL_law_691 : decode cL_law 691 = .ok (.iconst 0, 1) := by decide +kernel
theorem dL_law_692 : decode cL_law 692 = .ok (.ireturn, 1) := by decide +kernel
theorem dL_law_693 : decode cL_law 693 = .ok (.aload_n 1, 1) := by decide +kernel
theorem dL_law_694 : decode cL_law 694 = .ok (.aload_n 0, 1) := by decide +kernel
theorem dL_law_695 : decode cL_law 695 = .ok (.iload_n 3, 1) := by decide +kernel
theorem dL_law_696 : decode cL_law 696 = .ok (.iconst 1, 1) := by decide +kernel
theorem dL_law_697 : decode cL_law 697 = .ok (.iadd, 1) := by decide +kernel
theorem dL_law_698 : decode cL_law 698 = .ok (.iaload, 1) := by decide +kernel
theorem dL_law_699 : decode cL_law 699 = .ok (.aload_n 0, 1) := by decide +kernel
theorem dL_law_700 : decode cL_law 700 = .ok (.iload_n 3, 1) := by decide +kernel
theorem dL_law_701 : decode cL_law 701 = .ok (.iconst 2, 1) := by decide +kernel
theorem dL_law_702 : decode cL_law 702 = .ok (.iadd, 1) := by decide +kernel
theorem dL_law_703 : decode cL_law 703 = .ok (.iaload, 1) := by decide +kernel
theorem dL_law_704 : decode cL_law 704 = .ok (.invokevirtual 81, 3) := by decide +kernel
theorem dL_law_707 : decode cL_law 707 = .ok (.aload_n 2, 1) := by decide +kernel
theorem dL_law_708 : decode cL_law 708 = .ok (.aload_n 0, 1) := by decide +kernel
theorem dL_law_709 : decode cL_law 709 = .ok (.iload_n 3, 1) := by decide +kernel
theorem dL_law_710 : decode cL_law 710 = .ok (.iconst 1, 1) := by decide +kernel
theorem dL_law_711 : decode cL_law 711 = .ok (.iadd, 1) := by decide +kernel
theorem dL_law_712 : decode cL_law 712 = .ok (.iaload, 1) := by decide +kernel
theorem dL_law_713 : decode cL_law 713 = .ok (.aload_n 0, 1) := by decide +kernel
theorem dL_law_714 : decode cL_law 714 = .ok (.iload_n 3, 1) := by decide +kernel
theorem dL_law_715 : decode cL_law 715 = .ok (.iconst 2, 1) := by decide +kernel
theorem dL_law_716 : decode cL_law 716 = .ok (.iadd, 1) := by decide +kernel
theorem dL_law_717 : decode cL_law 717 = .ok (.iaload, 1) := by decide +kernel
theorem dL_law_718 : decode cL_law 718 = .ok (.invokevirtual 84, 3) := by decide +kernel
theorem dL_law_721 : decode cL_law 721 = .ok (.if_icmp .eq 378, 3) := by decide +kernel
theorem dL_law_724 : decode cL_law 724 = .ok (.iconst 0, 1) := by decide +kernel
theorem dL_law_725 : decode cL_law 725 = .ok (.ireturn, 1) := by decide +kernel
theorem dL_law_726 : decode cL_law 726 = .ok (.aload_n 1, 1) := by decide +kernel
theorem dL_law_727 : decode cL_law 727 = .ok (.aload_n 0, 1) := by decide +kernel
theorem dL_law_728 : decode cL_law 728 = .ok (.iload_n 3, 1) := by decide +kernel
theorem dL_law_729 : decode cL_law 729 = .ok (.iconst 1, 1) := by decide +kernel
theorem dL_law_730 : decode cL_law 730 = .ok (.iadd, 1) := by decide +kernel
theorem dL_law_731 : decode cL_law 731 = .ok (.iaload, 1) := by decide +kernel
theorem dL_law_732 : decode cL_law 732 = .ok (.aload_n 0, 1) := by decide +kernel
theorem dL_law_733 : decode cL_law 733 = .ok (.iload_n 3, 1) := by decide +kernel
theorem dL_law_734 : decode cL_law 734 = .ok (.iconst 2, 1) := by decide +kernel
theorem dL_law_735 : decode cL_law 735 = .ok (.iadd, 1) := by decide +kernel
theorem dL_law_736 : decode cL_law 736 = .ok (.iaload, 1) := by decide +kernel
theorem dL_law_737 : decode cL_law 737 = .ok (.ifCond .eq 7, 3) := by decide +kernel
theorem dL_law_740 : decode cL_law 740 = .ok (.iconst 1, 1) := by decide +kernel
theorem dL_law_741 : decode cL_law 741 = .ok (.goto 4, 3) := by decide +kernel
theorem dL_law_744 : decode cL_law 744 = .ok (.iconst 0, 1) := by decide +kernel
theorem dL_law_745 : decode cL_law 745 = .ok (.invokevirtual 85, 3) := by decide +kernel
theorem dL_law_748 : decode cL_law 748 = .ok (.aload_n 2, 1) := by decide +kernel
theorem dL_law_749 : decode cL_law 749 = .ok (.aload_n 0, 1) := by decide +kernel
theorem dL_law_750 : decode cL_law 750 = .ok (.iload_n 3, 1) := by decide +kernel
theorem dL_law_751 : decode cL_law 751 = .ok (.iconst 1, 1) := by decide +kernel
theorem dL_law_752 : decode cL_law 752 = .ok (.iadd, 1) := by decide +kernel
theorem dL_law_753 : decode cL_law 753 = .ok (.iaload, 1) := by decide +kernel
theorem dL_law_754 : decode cL_law 754 = .ok (.aload_n 0, 1) := by decide +kernel
theorem dL_law_755 : decode cL_law 755 = .ok (.iload_n 3, 1) := by decide +kernel
theorem dL_law_756 : decode cL_law 756 = .ok (.iconst 2, 1) := by decide +kernel
theorem dL_law_757 : decode cL_law 757 = .ok (.iadd, 1) := by decide +kernel
theorem dL_law_758 : decode cL_law 758 = .ok (.iaload, 1) := by decide +kernel
theorem dL_law_759 : decode cL_law 759 = .ok (.ifCond .eq 7, 3) := by decide +kernel
theorem dL_law_762 : decode cL_law 762 = .ok (.iconst 1, 1) := by decide +kernel
theorem dL_law_763 : decode cL_law 763 = .ok (.goto 4, 3) := by decide +kernel
theorem dL_law_766 : decode cL_law 766 = .ok (.iconst 0, 1) := by decide +kernel
theorem dL_law_767 : decode cL_law 767 = .ok (.invokevirtual 89, 3) := by decide +kernel
theorem dL_law_770 : decode cL_law 770 = .ok (.if_icmp .eq 329, 3) := by decide +kernel
theorem dL_law_773 : decode cL_law 773 = .ok (.iconst 0, 1) := by decide +kernel
theorem dL_law_774 : decode cL_law 774 = .ok (.ireturn, 1) := by decide +kernel
theorem dL_law_775 : decode cL_law 775 = .ok (.aload_n 1, 1) := by decide +kernel
theorem dL_law_776 : decode cL_law 776 = .ok (.aload_n 0, 1) := by decide +kernel
theorem dL_law_777 : decode cL_law 777 = .ok (.iload_n 3, 1) := by decide +kernel
theorem dL_law_778 : decode cL_law 778 = .ok (.iconst 1, 1) := by decide +kernel
theorem dL_law_779 : decode cL_law 779 = .ok (.iadd, 1) := by decide +kernel
theorem dL_law_780 : decode cL_law 780 = .ok (.iaload, 1) := by decide +kernel
theorem dL_law_781 : decode cL_law 781 = .ok (.aload_n 0, 1) := by decide +kernel
theorem dL_law_782 : decode cL_law 782 = .ok (.iload_n 3, 1) := by decide +kernel
theorem dL_law_783 : decode cL_law 783 = .ok (.iconst 2, 1) := by decide +kernel
theorem dL_law_784 : decode cL_law 784 = .ok (.iadd, 1) := by decide +kernel
theorem dL_law_785 : decode cL_law 785 = .ok (.iaload, 1) := by decide +kernel
theorem dL_law_786 : decode cL_law 786 = .ok (.invokevirtual 90, 3) := by decide +kernel
theorem dL_law_789 : decode cL_law 789 = .ok (.aload_n 2, 1) := by decide +kernel
theorem dL_law_790 : decode cL_law 790 = .ok (.aload_n 0, 1) := by decide +kernel
theorem dL_law_791 : decode cL_law 791 = .ok (.iload_n 3, 1) := by decide +kernel
theorem dL_law_792 : decode cL_law 792 = .ok (.iconst 1, 1) := by decide +kernel
theorem dL_law_793 : decode cL_law 793 = .ok (.iadd, 1) := by decide +kernel
theorem dL_law_794 : decode cL_law 794 = .ok (.iaload, 1) := by decide +kernel
theorem dL_law_795 : decode cL_law 795 = .ok (.aload_n 0, 1) := by decide +kernel
theorem dL_law_796 : decode cL_law 796 = .ok (.iload_n 3, 1) := by decide +kernel
theorem dL_law_797 : decode cL_law 797 = .ok (.iconst 2, 1) := by decide +kernel
theorem dL_law_798 : decode cL_law 798 = .ok (.iadd, 1) := by decide +kernel
theorem dL_law_799 : decode cL_law 799 = .ok (.iaload, 1) := by decide +kernel
theorem dL_law_800 : decode cL_law 800 = .ok (.invokevirtual 93, 3) := by decide +kernel
theorem dL_law_803 : decode cL_law 803 = .ok (.if_icmp .eq 296, 3) := by decide +kernel
theorem dL_law_806 : decode cL_law 806 = .ok (.iconst 0, 1) := by decide +kernel
theorem dL_law_807 : decode cL_law 807 = .ok (.ireturn, 1) := by decide +kernel
theorem dL_law_808 : decode cL_law 808 = .ok (.aload_n 1, 1) := by decide +kernel
theorem dL_law_809 : decode cL_law 809 = .ok (.aload_n 0, 1) := by decide +kernel
theorem dL_law_810 : decode cL_law 810 = .ok (.iload_n 3, 1) := by decide +kernel
theorem dL_law_811 : decode cL_law 811 = .ok (.iconst 1, 1) := by decide +kernel
theorem dL_law_812 : decode cL_law 812 = .ok (.iadd, 1) := by decide +kernel
theorem dL_law_813 : decode cL_law 813 = .ok (.iaload, 1) := by decide +kernel
theorem dL_law_814 : decode cL_law 814 = .ok (.aload_n 0, 1) := by decide +kernel
theorem dL_law_815 : decode cL_law 815 = .ok (.iload_n 3, 1) := by decide +kernel
theorem dL_law_816 : decode cL_law 816 = .ok (.iconst 2, 1) := by decide +kernel
theorem dL_law_817 : decode cL_law 817 = .ok (.iadd, 1) := by decide +kernel
theorem dL_law_818 : decode cL_law 818 = .ok (.iaload, 1) := by decide +kernel
theorem dL_law_819 : decode cL_law 819 = .ok (.aload_n 0, 1) := by decide +kernel
theorem dL_law_820 : decode cL_law 820 = .ok (.iload_n 3, 1) := by decide +kernel
theorem dL_law_821 : decode cL_law 821 = .ok (.iconst 3, 1) := by decide +kernel
theorem dL_law_822 : decode cL_law 822 = .ok (.iadd, 1) := by decide +kernel
theorem dL_law_823 : decode cL_law 823 = .ok (.iaload, 1) := by decide +kernel
theorem dL_law_824 : decode cL_law 824 = .ok (.invokevirtual 94, 3) := by decide +kernel
theorem dL_law_827 : decode cL_law 827 = .ok (.aload_n 2, 1) := by decide +kernel
theorem dL_law_828 : decode cL_law 828 = .ok (.aload_n 0, 1) := by decide +kernel
theorem dL_law_829 : decode cL_law 829 = .ok (.iload_n 3, 1) := by decide +kernel
theorem dL_law_830 : decode cL_law 830 = .ok (.iconst 1, 1) := by decide +kernel
theorem dL_law_831 : decode cL_law 831 = .ok (.iadd, 1) := by decide +kernel
theorem dL_law_832 : decode cL_law 832 = .ok (.iaload, 1) := by decide +kernel
theorem dL_law_833 : decode cL_law 833 = .ok (.aload_n 0, 1) := by decide +kernel
theorem dL_law_834 : decode cL_law 834 = .ok (.iload_n 3, 1) := by decide +kernel
theorem dL_law_835 : decode cL_law 835 = .ok (.iconst 2, 1) := by decide +kernel
theorem dL_law_836 : decode cL_law 836 = .ok (.iadd, 1) := by decide +kernel
theorem dL_law_837 : decode cL_law 837 = .ok (.iaload, 1) := by decide +kernel
theorem dL_law_838 : decode cL_law 838 = .ok (.aload_n 0, 1) := by decide +kernel
theorem dL_law_839 : decode cL_law 839 = .ok (.iload_n 3, 1) := by decide +kernel
theorem dL_law_840 : decode cL_law 840 = .ok (.iconst 3, 1) := by decide +kernel
theorem dL_law_841 : decode cL_law 841 = .ok (.iadd, 1) := by decide +kernel
theorem dL_law_842 : decode cL_law 842 = .ok (.iaload, 1) := by decide +kernel
theorem dL_law_843 : decode cL_law 843 = .ok (.invokevirtual 97, 3) := by decide +kernel
theorem dL_law_846 : decode cL_law 846 = .ok (.if_icmp .eq 253, 3) := by decide +kernel
theorem dL_law_849 : decode cL_law 849 = .ok (.iconst 0, 1) := by decide +kernel
theorem dL_law_850 : decode cL_law 850 = .ok (.ireturn, 1) := by decide +kernel
theorem dL_law_851 : decode cL_law 851 = .ok (.aload_n 1, 1) := by decide +kernel
theorem dL_law_852 : decode cL_law 852 = .ok (.aload_n 0, 1) := by decide +kernel
theorem dL_law_853 : decode cL_law 853 = .ok (.iload_n 3, 1) := by decide +kernel
theorem dL_law_854 : decode cL_law 854 = .ok (.iconst 1, 1) := by decide +kernel
theorem dL_law_855 : decode cL_law 855 = .ok (.iadd, 1) := by decide +kernel
theorem dL_law_856 : decode cL_law 856 = .ok (.iaload, 1) := by decide +kernel
theorem dL_law_857 : decode cL_law 857 = .ok (.aload_n 0, 1) := by decide +kernel
theorem dL_law_858 : decode cL_law 858 = .ok (.iload_n 3, 1) := by decide +kernel
theorem dL_law_859 : decode cL_law 859 = .ok (.iconst 2, 1) := by decide +kernel
theorem dL_law_860 : decode cL_law 860 = .ok (.iadd, 1) := by decide +kernel
theorem dL_law_861 : decode cL_law 861 = .ok (.iaload, 1) := by decide +kernel
theorem dL_law_862 : decode cL_law 862 = .ok (.invokevirtual 98, 3) := by decide +kernel
theorem dL_law_865 : decode cL_law 865 = .ok (.aload_n 2, 1) := by decide +kernel
theorem dL_law_866 : decode cL_law 866 = .ok (.aload_n 0, 1) := by decide +kernel
theorem dL_law_867 : decode cL_law 867 = .ok (.iload_n 3, 1) := by decide +kernel
theorem dL_law_868 : decode cL_law 868 = .ok (.iconst 1, 1) := by decide +kernel
theorem dL_law_869 : decode cL_law 869 = .ok (.iadd, 1) := by decide +kernel
theorem dL_law_870 : decode cL_law 870 = .ok (.iaload, 1) := by decide +kernel
theorem dL_law_871 : decode cL_law 871 = .ok (.aload_n 0, 1) := by decide +kernel
theorem dL_law_872 : decode cL_law 872 = .ok (.iload_n 3, 1) := by decide +kernel
theorem dL_law_873 : decode cL_law 873 = .ok (.iconst 2, 1) := by decide +kernel
theorem dL_law_874 : decode cL_law 874 = .ok (.iadd, 1) := by decide +kernel
theorem dL_law_875 : decode cL_law 875 = .ok (.iaload, 1) := by decide +kernel
theorem dL_law_876 : decode cL_law 876 = .ok (.invokevirtual 101, 3) := by decide +kernel
theorem dL_law_879 : decode cL_law 879 = .ok (.if_icmp .eq 220, 3) := by decide +kernel
theorem dL_law_882 : decode cL_law 882 = .ok (.iconst 0, 1) := by decide +kernel
theorem dL_law_883 : decode cL_law 883 = .ok (.ireturn, 1) := by decide +kernel
theorem dL_law_884 : decode cL_law 884 = .ok (.aload_n 1, 1) := by decide +kernel
theorem dL_law_885 : decode cL_law 885 = .ok (.aload_n 0, 1) := by decide +kernel
theorem dL_law_886 : decode cL_law 886 = .ok (.iload_n 3, 1) := by decide +kernel
theorem dL_law_887 : decode cL_law 887 = .ok (.iconst 1, 1) := by decide +kernel
theorem dL_law_888 : decode cL_law 888 = .ok (.iadd, 1) := by decide +kernel
theorem dL_law_889 : decode cL_law 889 = .ok (.iaload, 1) := by decide +kernel
theorem dL_law_890 : decode cL_law 890 = .ok (.aload_n 0, 1) := by decide +kernel
theorem dL_law_891 : decode cL_law 891 = .ok (.iload_n 3, 1) := by decide +kernel
theorem dL_law_892 : decode cL_law 892 = .ok (.iconst 2, 1) := by decide +kernel
theorem dL_law_893 : decode cL_law 893 = .ok (.iadd, 1) := by decide +kernel
theorem dL_law_894 : decode cL_law 894 = .ok (.iaload, 1) := by decide +kernel
theorem dL_law_895 : decode cL_law 895 = .ok (.aload_n 0, 1) := by decide +kernel
theorem dL_law_896 : decode cL_law 896 = .ok (.iload_n 3, 1) := by decide +kernel
theorem dL_law_897 : decode cL_law 897 = .ok (.iconst 3, 1) := by decide +kernel
theorem dL_law_898 : decode cL_law 898 = .ok (.iadd, 1) := by decide +kernel
theorem dL_law_899 : decode cL_law 899 = .ok (.iaload, 1) := by decide +kernel
theorem dL_law_900 : decode cL_law 900 = .ok (.invokevirtual 102, 3) := by decide +kernel
theorem dL_law_903 : decode cL_law 903 = .ok (.aload_n 2, 1) := by decide +kernel
theorem dL_law_904 : decode cL_law 904 = .ok (.aload_n 0, 1) := by decide +kernel
theorem dL_law_905 : decode cL_law 905 = .ok (.iload_n 3, 1) := by decide +kernel
theorem dL_law_906 : decode cL_law 906 = .ok (.iconst 1, 1) := by decide +kernel
theorem dL_law_907 : decode cL_law 907 = .ok (.iadd, 1) := by decide +kernel
theorem dL_law_908 : decode cL_law 908 = .ok (.iaload, 1) := by decide +kernel
theorem dL_law_909 : decode cL_law 909 = .ok (.aload_n 0, 1) := by decide +kernel
theorem dL_law_910 : decode cL_law 910 = .ok (.iload_n 3, 1) := by decide +kernel
theorem dL_law_911 : decode cL_law 911 = .ok (.iconst 2, 1) := by decide +kernel
theorem dL_law_912 : decode cL_law 912 = .ok (.iadd, 1) := by decide +kernel
theorem dL_law_913 : decode cL_law 913 = .ok (.iaload, 1) := by decide +kernel
theorem dL_law_914 : decode cL_law 914 = .ok (.aload_n 0, 1) := by decide +kernel
theorem dL_law_915 : decode cL_law 915 = .ok (.iload_n 3, 1) := by decide +kernel
theorem dL_law_916 : decode cL_law 916 = .ok (.iconst 3, 1) := by decide +kernel
theorem dL_law_917 : decode cL_law 917 = .ok (.iadd, 1) := by decide +kernel
theorem dL_law_918 : decode cL_law 918 = .ok (.iaload, 1) := by decide +kernel
theorem dL_law_919 : decode cL_law 919 = .ok (.invokevirtual 105, 3) := by decide +kernel
theorem dL_law_922 : decode cL_law 922 = .ok (.if_icmp .eq 177, 3) := by decide +kernel
theorem dL_law_925 : decode cL_law 925 = .ok (.iconst 0, 1) := by decide +kernel
theorem dL_law_926 : decode cL_law 926 = .ok (.ireturn, 1) := by decide +kernel
theorem dL_law_927 : decode cL_law 927 = .ok (.aload_n 1, 1) := by decide +kernel
theorem dL_law_928 : decode cL_law 928 = .ok (.aload_n 0, 1) := by decide +kernel
theorem dL_law_929 : decode cL_law 929 = .ok (.iload_n 3, 1) := by decide +kernel
theorem dL_law_930 : decode cL_law 930 = .ok (.iconst 1, 1) := by decide +kernel
theorem dL_law_931 : decode cL_law 931 = .ok (.iadd, 1) := by decide +kernel
theorem dL_law_932 : decode cL_law 932 = .ok (.iaload, 1) := by decide +kernel
theorem dL_law_933 : decode cL_law 933 = .ok (.aload_n 0, 1) := by decide +kernel
theorem dL_law_934 : decode cL_law 934 = .ok (.iload_n 3, 1) := by decide +kernel
theorem dL_law_935 : decode cL_law 935 = .ok (.iconst 2, 1) := by decide +kernel
theorem dL_law_936 : decode cL_law 936 = .ok (.iadd, 1) := by decide +kernel
theorem dL_law_937 : decode cL_law 937 = .ok (.iaload, 1) := by decide +kernel
theorem dL_law_938 : decode cL_law 938 = .ok (.aload_n 0, 1) := by decide +kernel
theorem dL_law_939 : decode cL_law 939 = .ok (.iload_n 3, 1) := by decide +kernel
theorem dL_law_940 : decode cL_law 940 = .ok (.iconst 3, 1) := by decide +kernel
theorem dL_law_941 : decode cL_law 941 = .ok (.iadd, 1) := by decide +kernel
theorem dL_law_942 : decode cL_law 942 = .ok (.iaload, 1) := by decide +kernel
theorem dL_law_943 : decode cL_law 943 = .ok (.invokevirtual 106, 3) := by decide +kernel
theorem dL_law_946 : decode cL_law 946 = .ok (.aload_n 2, 1) := by decide +kernel
theorem dL_law_947 : decode cL_law 947 = .ok (.aload_n 0, 1) := by decide +kernel
theorem dL_law_948 : decode cL_law 948 = .ok (.iload_n 3, 1) := by decide +kernel
theorem dL_law_949 : decode cL_law 949 = .ok (.iconst 1, 1) := by decide +kernel
theorem dL_law_950 : decode cL_law 950 = .ok (.iadd, 1) := by decide +kernel
theorem dL_law_951 : decode cL_law 951 = .ok (.iaload, 1) := by decide +kernel
theorem dL_law_952 : decode cL_law 952 = .ok (.aload_n 0, 1) := by decide +kernel
theorem dL_law_953 : decode cL_law 953 = .ok (.iload_n 3, 1) := by decide +kernel
theorem dL_law_954 : decode cL_law 954 = .ok (.iconst 2, 1) := by decide +kernel
theorem dL_law_955 : decode cL_law 955 = .ok (.iadd, 1) := by decide +kernel
theorem dL_law_956 : decode cL_law 956 = .ok (.iaload, 1) := by decide +kernel
theorem dL_law_957 : decode cL_law 957 = .ok (.aload_n 0, 1) := by decide +kernel
theorem dL_law_958 : decode cL_law 958 = .ok (.iload_n 3, 1) := by decide +kernel
theorem dL_law_959 : decode cL_law 959 = .ok (.iconst 3, 1) := by decide +kernel
theorem dL_law_960 : decode cL_law 960 = .ok (.iadd, 1) := by decide +kernel
theorem dL_law_961 : decode cL_law 961 = .ok (.iaload, 1) := by decide +kernel
theorem dL_law_962 : decode cL_law 962 = .ok (.invokevirtual 109, 3) := by decide +kernel
theorem dL_law_965 : decode cL_law 965 = .ok (.if_icmp .eq 134, 3) := by decide +kernel
theorem dL_law_968 : decode cL_law 968 = .ok (.iconst 0, 1) := by decide +kernel
theorem dL_law_969 : decode cL_law 969 = .ok (.ireturn, 1) := by decide +kernel
theorem dL_law_970 : decode cL_law 970 = .ok (.aload_n 1, 1) := by decide +kernel
theorem dL_law_971 : decode cL_law 971 = .ok (.aload_n 0, 1) := by decide +kernel
theorem dL_law_972 : decode cL_law 972 = .ok (.iload_n 3, 1) := by decide +kernel
theorem dL_law_973 : decode cL_law 973 = .ok (.iconst 1, 1) := by decide +kernel
theorem dL_law_974 : decode cL_law 974 = .ok (.iadd, 1) := by decide +kernel
theorem dL_law_975 : decode cL_law 975 = .ok (.iaload, 1) := by decide +kernel
theorem dL_law_976 : decode cL_law 976 = .ok (.aload_n 0, 1) := by decide +kernel
theorem dL_law_977 : decode cL_law 977 = .ok (.iload_n 3, 1) := by decide +kernel
theorem dL_law_978 : decode cL_law 978 = .ok (.iconst 2, 1) := by decide +kernel
theorem dL_law_979 : decode cL_law 979 = .ok (.iadd, 1) := by decide +kernel
theorem dL_law_980 : decode cL_law 980 = .ok (.iaload, 1) := by decide +kernel
theorem dL_law_981 : decode cL_law 981 = .ok (.aload_n 0, 1) := by decide +kernel
theorem dL_law_982 : decode cL_law 982 = .ok (.iload_n 3, 1) := by decide +kernel
theorem dL_law_983 : decode cL_law 983 = .ok (.iconst 3, 1) := by decide +kernel
theorem dL_law_984 : decode cL_law 984 = .ok (.iadd, 1) := by decide +kernel
theorem dL_law_985 : decode cL_law 985 = .ok (.iaload, 1) := by decide +kernel
theorem dL_law_986 : decode cL_law 986 = .ok (.aload_n 0, 1) := by decide +kernel
theorem dL_law_987 : decode cL_law 987 = .ok (.iload_n 3, 1) := by decide +kernel
theorem dL_law_988 : decode cL_law 988 = .ok (.iconst 4, 1) := by decide +kernel
theorem dL_law_989 : decode cL_law 989 = .ok (.iadd, 1) := by decide +kernel
theorem dL_law_990 : decode cL_law 990 = .ok (.iaload, 1) := by decide +kernel
theorem dL_law_991 : decode cL_law 991 = .ok (.aload_n 0, 1) := by decide +kernel
theorem dL_law_992 : decode cL_law 992 = .ok (.iload_n 3, 1) := by decide +kernel
theorem dL_law_993 : decode cL_law 993 = .ok (.iconst 5, 1) := by decide +kernel
theorem dL_law_994 : decode cL_law 994 = .ok (.iadd, 1) := by decide +kernel
theorem dL_law_995 : decode cL_law 995 = .ok (.iaload, 1) := by decide +kernel
theorem dL_law_996 : decode cL_law 996 = .ok (.invokevirtual 110, 3) := by decide +kernel
theorem dL_law_999 : decode cL_law 999 = .ok (.aload_n 2, 1) := by decide +kernel
theorem dL_law_1000 : decode cL_law 1000 = .ok (.aload_n 0, 1) := by decide +kernel
theorem dL_law_1001 : decode cL_law 1001 = .ok (.iload_n 3, 1) := by decide +kernel
theorem dL_law_1002 : decode cL_law 1002 = .ok (.iconst 1, 1) := by decide +kernel
theorem dL_law_1003 : decode cL_law 1003 = .ok (.iadd, 1) := by decide +kernel
theorem dL_law_1004 : decode cL_law 1004 = .ok (.iaload, 1) := by decide +kernel
theorem dL_law_1005 : decode cL_law 1005 = .ok (.aload_n 0, 1) := by decide +kernel
theorem dL_law_1006 : decode cL_law 1006 = .ok (.iload_n 3, 1) := by decide +kernel
theorem dL_law_1007 : decode cL_law 1007 = .ok (.iconst 2, 1) := by decide +kernel
theorem dL_law_1008 : decode cL_law 1008 = .ok (.iadd, 1) := by decide +kernel
theorem dL_law_1009 : decode cL_law 1009 = .ok (.iaload, 1) := by decide +kernel
theorem dL_law_1010 : decode cL_law 1010 = .ok (.aload_n 0, 1) := by decide +kernel
theorem dL_law_1011 : decode cL_law 1011 = .ok (.iload_n 3, 1) := by decide +kernel
theorem dL_law_1012 : decode cL_law 1012 = .ok (.iconst 3, 1) := by decide +kernel
theorem dL_law_1013 : decode cL_law 1013 = .ok (.iadd, 1) := by decide +kernel
theorem dL_law_1014 : decode cL_law 1014 = .ok (.iaload, 1) := by decide +kernel
theorem dL_law_1015 : decode cL_law 1015 = .ok (.aload_n 0, 1) := by decide +kernel
theorem dL_law_1016 : decode cL_law 1016 = .ok (.iload_n 3, 1) := by decide +kernel
theorem dL_law_1017 : decode cL_law 1017 = .ok (.iconst 4, 1) := by decide +kernel
theorem dL_law_1018 : decode cL_law 1018 = .ok (.iadd, 1) := by decide +kernel
theorem dL_law_1019 : decode cL_law 1019 = .ok (.iaload, 1) := by decide +kernel
theorem dL_law_1020 : decode cL_law 1020 = .ok (.aload_n 0, 1) := by decide +kernel
theorem dL_law_1021 : decode cL_law 1021 = .ok (.iload_n 3, 1) := by decide +kernel
theorem dL_law_1022 : decode cL_law 1022 = .ok (.iconst 5, 1) := by decide +kernel
theorem dL_law_1023 : decode cL_law 1023 = .ok (.iadd, 1) := by decide +kernel
theorem dL_law_1024 : decode cL_law 1024 = .ok (.iaload, 1) := by decide +kernel
theorem dL_law_1025 : decode cL_law 1025 = .ok (.invokevirtual 113, 3) := by decide +kernel
theorem dL_law_1028 : decode cL_law 1028 = .ok (.if_icmp .eq 71, 3) := by decide +kernel
theorem dL_law_1031 : decode cL_law 1031 = .ok (.iconst 0, 1) := by decide +kernel
theorem dL_law_1032 : decode cL_law 1032 = .ok (.ireturn, 1) := by decide +kernel
theorem dL_law_1033 : decode cL_law 1033 = .ok (.aload_n 1, 1) := by decide +kernel
theorem dL_law_1034 : decode cL_law 1034 = .ok (.aload_n 0, 1) := by decide +kernel
theorem dL_law_1035 : decode cL_law 1035 = .ok (.iload_n 3, 1) := by decide +kernel
theorem dL_law_1036 : decode cL_law 1036 = .ok (.iconst 1, 1) := by decide +kernel
theorem dL_law_1037 : decode cL_law 1037 = .ok (.iadd, 1) := by decide +kernel
theorem dL_law_1038 : decode cL_law 1038 = .ok (.iaload, 1) := by decide +kernel
theorem dL_law_1039 : decode cL_law 1039 = .ok (.aload_n 0, 1) := by decide +kernel
theorem dL_law_1040 : decode cL_law 1040 = .ok (.iload_n 3, 1) := by decide +kernel
theorem dL_law_1041 : decode cL_law 1041 = .ok (.iconst 2, 1) := by decide +kernel
theorem dL_law_1042 : decode cL_law 1042 = .ok (.iadd, 1) := by decide +kernel
theorem dL_law_1043 : decode cL_law 1043 = .ok (.iaload, 1) := by decide +kernel
theorem dL_law_1044 : decode cL_law 1044 = .ok (.aload_n 0, 1) := by decide +kernel
theorem dL_law_1045 : decode cL_law 1045 = .ok (.iload_n 3, 1) := by decide +kernel
theorem dL_law_1046 : decode cL_law 1046 = .ok (.iconst 3, 1) := by decide +kernel
theorem dL_law_1047 : decode cL_law 1047 = .ok (.iadd, 1) := by decide +kernel
theorem dL_law_1048 : decode cL_law 1048 = .ok (.iaload, 1) := by decide +kernel
theorem dL_law_1049 : decode cL_law 1049 = .ok (.invokevirtual 114, 3) := by decide +kernel
theorem dL_law_1052 : decode cL_law 1052 = .ok (.aload_n 2, 1) := by decide +kernel
theorem dL_law_1053 : decode cL_law 1053 = .ok (.aload_n 0, 1) := by decide +kernel
theorem dL_law_1054 : decode cL_law 1054 = .ok (.iload_n 3, 1) := by decide +kernel
theorem dL_law_1055 : decode cL_law 1055 = .ok (.iconst 1, 1) := by decide +kernel
theorem dL_law_1056 : decode cL_law 1056 = .ok (.iadd, 1) := by decide +kernel
theorem dL_law_1057 : decode cL_law 1057 = .ok (.iaload, 1) := by decide +kernel
theorem dL_law_1058 : decode cL_law 1058 = .ok (.aload_n 0, 1) := by decide +kernel
theorem dL_law_1059 : decode cL_law 1059 = .ok (.iload_n 3, 1) := by decide +kernel
theorem dL_law_1060 : decode cL_law 1060 = .ok (.iconst 2, 1) := by decide +kernel
theorem dL_law_1061 : decode cL_law 1061 = .ok (.iadd, 1) := by decide +kernel
theorem dL_law_1062 : decode cL_law 1062 = .ok (.iaload, 1) := by decide +kernel
theorem dL_law_1063 : decode cL_law 1063 = .ok (.aload_n 0, 1) := by decide +kernel
theorem dL_law_1064 : decode cL_law 1064 = .ok (.iload_n 3, 1) := by decide +kernel
theorem dL_law_1065 : decode cL_law 1065 = .ok (.iconst 3, 1) := by decide +kernel
theorem dL_law_1066 : decode cL_law 1066 = .ok (.iadd, 1) := by decide +kernel
theorem dL_law_1067 : decode cL_law 1067 = .ok (.iaload, 1) := by decide +kernel
theorem dL_law_1068 : decode cL_law 1068 = .ok (.invokevirtual 117, 3) := by decide +kernel
theorem dL_law_1071 : decode cL_law 1071 = .ok (.if_icmp .eq 28, 3) := by decide +kernel
theorem dL_law_1074 : decode cL_law 1074 = .ok (.iconst 0, 1) := by decide +kernel
theorem dL_law_1075 : decode cL_law 1075 = .ok (.ireturn, 1) := by decide +kernel
theorem dL_law_1076 : decode cL_law 1076 = .ok (.aload_n 1, 1) := by decide +kernel
theorem dL_law_1077 : decode cL_law 1077 = .ok (.aload_n 0, 1) := by decide +kernel
theorem dL_law_1078 : decode cL_law 1078 = .ok (.iload_n 3, 1) := by decide +kernel
theorem dL_law_1079 : decode cL_law 1079 = .ok (.iconst 1, 1) := by decide +kernel
theorem dL_law_1080 : decode cL_law 1080 = .ok (.iadd, 1) := by decide +kernel
theorem dL_law_1081 : decode cL_law 1081 = .ok (.iaload, 1) := by decide +kernel
theorem dL_law_1082 : decode cL_law 1082 = .ok (.invokevirtual 118, 3) := by decide +kernel
theorem dL_law_1085 : decode cL_law 1085 = .ok (.aload_n 2, 1) := by decide +kernel
theorem dL_law_1086 : decode cL_law 1086 = .ok (.aload_n 0, 1) := by decide +kernel
theorem dL_law_1087 : decode cL_law 1087 = .ok (.iload_n 3, 1) := by decide +kernel
theorem dL_law_1088 : decode cL_law 1088 = .ok (.iconst 1, 1) := by decide +kernel
theorem dL_law_1089 : decode cL_law 1089 = .ok (.iadd, 1) := by decide +kernel
theorem dL_law_1090 : decode cL_law 1090 = .ok (.iaload, 1) := by decide +kernel
theorem dL_law_1091 : decode cL_law 1091 = .ok (.invokevirtual 121, 3) := by decide +kernel
theorem dL_law_1094 : decode cL_law 1094 = .ok (.if_icmp .eq 5, 3) := by decide +kernel
theorem dL_law_1097 : decode cL_law 1097 = .ok (.iconst 0, 1) := by decide +kernel
theorem dL_law_1098 : decode cL_law 1098 = .ok (.ireturn, 1) := by decide +kernel
theorem dL_law_1099 : decode cL_law 1099 = .ok (.iinc 3 6, 3) := by decide +kernel
theorem dL_law_1102 : decode cL_law 1102 = .ok (.goto (-1084), 3) := by decide +kernel
theorem dL_law_1105 : decode cL_law 1105 = .ok (.iconst 1, 1) := by decide +kernel
theorem dL_law_1106 : decode cL_law 1106 = .ok (.ireturn, 1) := by decide +kernel
end
section
/-! WORLDS AS NUMBERS: a world is n places; place k lies at the address ad k and holds a cell that is a function of the numbers h k -/
abbrev Hp : Type := Nat → Nat → Int32
abbrev Wd : Type := Nat × (Nat → Nat) × (Nat → (Nat → Int32) → va_E)
abbrev Ev : Type := va_G × (Nat → ClassId) × (Nat → Nat) × Nat
abbrev Kx : Type := Program × Launch × Env × Room × State × MethodId × Array Value × List Frame × Method × Code × Nat × Nat × (State → Prop)
def mkW (w : Wd) (h : Hp) : va_W := (List.range w.1).map (fun k => (w.2.1 k, w.2.2 k (h k)))
theorem mkW_at {w : Wd} {h : Hp} {k : Nat} (hk : k < w.1) : (mkW w h)[k]? = some (w.2.1 k, w.2.2 k (h k)) := by
  unfold mkW
  rw [List.getElem?_map, List.getElem?_range hk]
  rfl
theorem mkW_inv {w : Wd} {h : Hp} {k : Nat} {q : Nat × va_E} (hq : (mkW w h)[k]? = some q) : k < w.1 ∧ q = (w.2.1 k, w.2.2 k (h k)) := by
  have hl := (List.getElem?_eq_some_iff.mp hq).1
  have hk : k < w.1 := by simpa [mkW] using hl
  rw [mkW_at hk] at hq
  exact ⟨hk, (Option.some.inj hq).symm⟩
def up2 (h : Hp) (k : Nat) (g : Nat → Int32) : Hp := fun j => if j = k then g else h j
def put (h : Hp) (k i : Nat) (v : Int32) : Hp := up2 h k (upd (h k) i v)
theorem up2_s {h : Hp} {k : Nat} {g : Nat → Int32} : up2 h k g k = g := by simp [up2]
theorem up2_n {h : Hp} {k j : Nat} {g : Nat → Int32} (n : j ≠ k) : up2 h k g j = h j := by simp [up2, n]
theorem put_s {h : Hp} {k i : Nat} {v : Int32} : put h k i v k i = v := by simp [put, up2, upd]
theorem put_n {h : Hp} {k i j : Nat} {v : Int32} (n : j ≠ k) : put h k i v j = h j := by simp [put, up2, n]
theorem put_i {h : Hp} {k i j : Nat} {v : Int32} (n : j ≠ i) : put h k i v k j = h k j := by simp [put, up2, upd, n]
theorem put_k {h : Hp} {k i : Nat} {v : Int32} : put h k i v k = upd (h k) i v := up2_s
theorem mkW_set {w : Wd} {h : Hp} {k : Nat} {g : Nat → Int32} (hk : k < w.1) : (mkW w h).set k (w.2.1 k, w.2.2 k g) = mkW w (up2 h k g) := by
  apply List.ext_getElem?
  intro j
  by_cases hj : j = k
  · subst hj
    rw [List.getElem?_set_self (by simpa [mkW] using hk), mkW_at hk, up2_s]
  · rw [List.getElem?_set_ne (Ne.symm hj)]
    by_cases hl : j < w.1
    · rw [mkW_at hl, mkW_at hl, up2_n hj]
    · rw [List.getElem?_eq_none (by simpa [mkW] using hl), List.getElem?_eq_none (by simpa [mkW] using hl)]
/-- which cells a method may change: its world's, and those that it makes -/
def AW (w : Wd) (sz : Nat) : Nat → Prop := fun q => (∃ k, k < w.1 ∧ q = w.2.1 k) ∨ sz ≤ q
theorem AW_in {w : Wd} {sz k : Nat} (hk : k < w.1) : AW w sz (w.2.1 k) := Or.inl ⟨k, hk, rfl⟩
theorem mkW_D {w : Wd} {h h2 : Hp} {A B : Nat → Prop} (hD : va_D A (mkW w h)) (hB : ∀ k, k < w.1 → B (w.2.1 k)) : va_D B (mkW w h2) := by
  refine ⟨fun i j x y hi hj hxy => ?_, fun k q hk => ?_⟩
  · obtain ⟨li, rfl⟩ := mkW_inv hi
    obtain ⟨lj, rfl⟩ := mkW_inv hj
    exact hD.1 i j _ _ (mkW_at li) (mkW_at lj) hxy
  · obtain ⟨lk, rfl⟩ := mkW_inv hk
    exact hB k lk
/-! words: one list for all methods -/
def TB : List Cond := lw_tbl.filter goodWord
theorem TB_of {w : Cond} (i : Nat) (h : lw_tbl[i]? = some w) (g : goodWord w = true) : w ∈ TB := List.mem_filter.mpr ⟨List.mem_of_getElem? h, g⟩
def isNest : Cond → Bool
  | .fieldLinkNest .. => true
  | .methodLinkNest .. => true
  | _ => false
def NWl : List Cond := lw_tbl.filter isNest
theorem NWl_of {w : Cond} (i : Nat) (h : lw_tbl[i]? = some w) (g : isNest w = true) : w ∈ NWl := List.mem_filter.mpr ⟨List.mem_of_getElem? h, g⟩
def NW (U : State) : Prop := ∀ w ∈ NWl, va_Nw w U
theorem NW.warm {s U : State} (hW : s.WarmedH U.vm) (h : NW s) : NW U := fun w hw => by
  have hn := (List.mem_filter.mp hw).2
  have h1 := h w hw
  cases w <;> first | (cases hn; done) | exact va_Nw.warmF hW h1 | exact va_Nw.warmM hW h1
theorem NW.same {u U : State} (e : u.vm = U.vm) (h : NW u) : NW U := fun w hw => by
  have hn := (List.mem_filter.mp hw).2
  have h1 := h w hw
  cases w <;> first | (cases hn; done) | exact va_Nw.same rfl e h1
def abv : Nat → Int32
  | 0 => -1
  | 4 => 2
  | _ => 0
def abF : Nat → Value := fun j => .int (abv j)
abbrev tyE (E : Ev) : List (ClassId × FieldType) := [(E.2.1 0, .int), (E.2.1 1, .boolean), (E.2.1 2, .object "TownAsks$Sheet")]
def ZZ (E : Ev) (A : Nat → Prop) (U : State) (H : Heap) : Prop := va_Z "TownAsks" "ABOVE" "[I" (.ref E.2.2.2) A U H ∧ va_T .int E.2.2.2 5 abF A U H
abbrev wsM (y : MethodName) (cc : ByteArray) (nL : Nat) (ret : Option FieldType) : List Cond := .code y cc nL ret :: TB
theorem wsM_good {c0 : Cond} {y : MethodName} {cc : ByteArray} {nL : Nat} {ret : Option FieldType} (hc : Cond.code y cc nL ret ∈ TB) : GoodIn (c0 :: TB) (wsM y cc nL ret) := fun w h => by
  have hw : w ∈ TB := by
    rcases List.mem_cons.mp h with h | h
    · rw [h]; exact hc
    · exact h
  exact ⟨List.mem_cons_of_mem _ hw, good_of_word (List.mem_filter.mp hw).2⟩
theorem wsM_good0 {y : MethodName} {cc : ByteArray} {nL : Nat} {ret : Option FieldType} (hc : Cond.code y cc nL ret ∈ TB) : GoodIn TB (wsM y cc nL ret) := fun w h => by
  have hw : w ∈ TB := by
    rcases List.mem_cons.mp h with h | h
    · rw [h]; exact hc
    · exact h
  exact ⟨hw, good_of_word (List.mem_filter.mp hw).2⟩
/-! locals by their places -/
def lvp : Nat → List (Option Value) → List (Nat × Value)
  | _, [] => []
  | i, none :: r => lvp (i + 1) r
  | i, some v :: r => (i, v) :: lvp (i + 1) r
theorem lvp_mem : ∀ (lo : List (Option Value)) (n j : Nat) (v : Value), (j, v) ∈ lvp n lo ↔ n ≤ j ∧ lo[j - n]? = some (some v)
  | [], n, j, v => by simp [lvp]
  | none :: r, n, j, v => by
    rw [lvp, lvp_mem r (n + 1) j v]
    constructor
    · rintro ⟨h1, h2⟩
      refine ⟨by omega, ?_⟩
      rw [show j - n = (j - (n + 1)) + 1 by omega, List.getElem?_cons_succ]
      exact h2
    · rintro ⟨h1, h2⟩
      by_cases e : j = n
      · subst e
        simp at h2
      · refine ⟨by omega, ?_⟩
        rw [show j - n = (j - (n + 1)) + 1 by omega, List.getElem?_cons_succ] at h2
        exact h2
  | some u :: r, n, j, v => by
    rw [lvp, List.mem_cons, lvp_mem r (n + 1) j v]
    constructor
    · rintro (h | ⟨h1, h2⟩)
      · obtain ⟨rfl, rfl⟩ := Prod.mk.inj h
        simp
      · refine ⟨by omega, ?_⟩
        rw [show j - n = (j - (n + 1)) + 1 by omega, List.getElem?_cons_succ]
        exact h2
    · rintro ⟨h1, h2⟩
      by_cases e : j = n
      · subst e
        simp at h2
        exact Or.inl (by rw [h2])
      · refine Or.inr ⟨by omega, ?_⟩
        rw [show j - n = (j - (n + 1)) + 1 by omega, List.getElem?_cons_succ] at h2
        exact h2
theorem lvp_at {ls : Array Slot} {nL : Nat} {lo : List (Option Value)} (h : lv_has ls nL (lvp 0 lo)) (i : Nat) {v : Value} (hi : lo[i]? = some (some v)) : ls[i]? = some (.val v) :=
  h.2.2 (i, v) ((lvp_mem lo 0 i v).mpr ⟨Nat.zero_le _, hi⟩)
def lvok (lo : List (Option Value)) : Nat → Bool
  | 0 => true
  | j + 1 => match lo[j]? with
    | some (some w) => w.category == 1
    | _ => true
theorem lvp_store {ls : Array Slot} {nL i : Nat} {lo lo' : List (Option Value)} {v : Value} (h : lv_has ls nL ((i, v) :: (lvp 0 lo).filter (fun q => !(q.1 == i) && !(q.1 + 1 == i && q.2.category == 2)))) (hs : lo.set i (some v) = lo') (hok : lvok lo i = true) : lv_has ls nL (lvp 0 lo') := by
  refine ⟨h.1, h.2.1, fun q hq => ?_⟩
  obtain ⟨j, w⟩ := q
  obtain ⟨-, hj⟩ := (lvp_mem lo' 0 j w).mp hq
  subst hs
  rw [Nat.sub_zero] at hj
  by_cases e : j = i
  · subst e
    have hl : j < lo.length := by
      have := (List.getElem?_eq_some_iff.mp hj).1
      simpa using this
    rw [List.getElem?_set_self hl] at hj
    cases hj
    exact h.2.2 _ List.mem_cons_self
  · rw [List.getElem?_set_ne (Ne.symm e)] at hj
    refine h.2.2 _ (List.mem_cons_of_mem _ (List.mem_filter.mpr ⟨(lvp_mem lo 0 j w).mpr ⟨Nat.zero_le _, hj⟩, ?_⟩))
    have h1 : (j == i) = false := by simpa using e
    have h2 : (j + 1 == i && w.category == 2) = false := by
      by_cases e2 : j + 1 = i
      · subst e2
        rw [lvok, hj] at hok
        have hc : w.category = 1 := by simpa using hok
        simp [hc]
      · have : (j + 1 == i) = false := by simpa using e2
        simp [this]
    simp [h1, h2]
/-! the judgement -/
def Cx (K : Kx) (own : String) (cc : ByteArray) (nL : Nat) (ret : Option FieldType) (E : Ev) (A : Nat → Prop) (d : Nat) : Prop :=
  match K with
  | (p, _, _, R, s, m, args, _, meth, c, cells, slots, _) =>
    p.tables.exec = Jvm.exec ∧ c.code = cc ∧ c.maxLocals = nL ∧ meth.sig.returnType = ret ∧ meth.locks = false ∧ s.vm.findClass own = some m.cls ∧ (∀ w ∈ TB, w.before args s = true) ∧ NW s ∧ va_K E.1 vwCl (tyE E) s ∧ (∀ q, s.heap.size ≤ q → A q) ∧ ZZ E A s s.heap ∧ d ≤ R.frames ∧ 40 * d ≤ R.locals ∧ cells ≤ R.cells ∧ slots ≤ R.slots
def GW (K : Kx) (nL : Nat) (E : Ev) (wd : Wd) (A : Nat → Prop) (pc : Nat) (lo : List (Option Value)) (st : List Value) (h : Hp) : Prop :=
  match K with
  | (p, l, e, R, s, m, args, below, meth, c, cells, slots, Q) =>
    ∀ (H : Heap) (locs : List Loc) (ls : Array Slot), va_P E.1 vwCl (mkW wd h) H → va_D A (mkW wd h) → va_S A s.heap H locs → lv_has ls nL (lvp 0 lo) → W p l e R s m args below meth c H locs cells slots Q (F0 m pc ls st)
def QP (E : Ev) (wd : Wd) (post : Option Value → Hp → Prop) (A : Nat → Prop) : Array Value → State → Outcome → State → Prop := fun _ st oc t =>
  (∃ (v : Option Value) (h : Hp), oc = .returned v ∧ post v h ∧ va_P E.1 vwCl (mkW wd h) t.heap ∧ va_K E.1 vwCl (tyE E) t ∧ va_D A (mkW wd h)) ∧ va_F A st t
def KQ (K : Kx) (E : Ev) (wd : Wd) (post : Option Value → Hp → Prop) (A : Nat → Prop) : Prop :=
  match K with
  | (_, _, _, _, s, _, args, below, _, _, cells, slots, Q) => Q = MQ below (QP E wd post A) args s cells slots A
abbrev rmD (d : Nat) : Room := { frames := d, cells := 0, slots := 0, locals := 40 * d }
def PP (E : Ev) (wd : Wd) (avs : List Value) (h : Hp) (sz : Nat) : Array Value → State → Prop := va_Pc avs (fun U => U.heap.size = sz ∧ va_P E.1 vwCl (mkW wd h) U.heap ∧ va_K E.1 vwCl (tyE E) U ∧ va_D (fun _ => True) (mkW wd h) ∧ NW U ∧ ZZ E (AW wd sz) U U.heap)
/-- a method's contract over a world of numbers -/
def Cl (d : Nat) (y : MethodName) (cc : ByteArray) (nL : Nat) (ret : Option FieldType) (E : Ev) (wd : Wd) (avs : List Value) (h : Hp) (post : Option Value → Hp → Prop) : Prop :=
  ∀ (l : Launch) (sz : Nat), Met l y (wsM y cc nL ret) (rmD d) (PP E wd avs h sz) (QP E wd post (AW wd sz)) 0 0 (AW wd sz)
theorem PP_blind {E : Ev} {wd : Wd} {avs : List Value} {h : Hp} {sz : Nat} : FrameBlind (PP E wd avs h sz) := by
  intro a U g mk q
  obtain ⟨q0, q1, qP, qK, qD, qN, qZ, qT⟩ := q
  exact ⟨q0, q1, qP, va_K.moved (u := U) (U := U.calling g mk a) (Vm.Alike.refl U.vm) qK, qD, NW.same (u := U) rfl qN, va_Z.moved (u := U) (U := U.calling g mk a) (Vm.Alike.refl U.vm) qZ, va_T.moved (u := U) (U := U.calling g mk a) (Vm.Alike.refl U.vm) qT⟩
theorem Cl_of {d : Nat} {y : MethodName} {cc : ByteArray} {nL : Nat} {ret : Option FieldType} {E : Ev} {wd : Wd} {avs : List Value} {h : Hp} {post : Option Value → Hp → Prop} (lo : List (Option Value)) (hy : plainName y.cls = true) (hlo : lvp 0 lo = lv_args 0 avs) (hn : (lg_sl avs).length ≤ nL)
    (body : ∀ (K : Kx) (A : Nat → Prop), Cx K y.cls cc nL ret E A d → KQ K E wd post A → GW K nL E wd A 0 lo [] h) : Cl d y cc nL ret E wd avs h post := by
  intro l sz
  refine Met.ofW (cc := cc) (maxL := nL) (ret := ret) hy rfl ?_
  intro p e s m args below meth c s₁ B hml hv
  obtain ⟨rfl, hsz, hP, hK, hD0, hN, hZ⟩ := hv
  subst hsz
  have hts := atoms_spec (ws := wsM y cc nL ret) B.pre
  have hl := lv_entry avs hn
  rw [← hlo] at hl
  rw [lg_entry_eq]
  refine body (p, l, e, rmD d, s, m, avs.toArray, below, meth, c, 0, 0, MQ below (QP E wd post (AW wd s.heap.size)) avs.toArray s 0 0 (AW wd s.heap.size)) (AW wd s.heap.size) ⟨B.exec, B.bytes, hml, B.returns, B.notSynchronized, findClass_of_methodNamed B.named, fun w hw => hts w (List.mem_cons_of_mem _ hw), hN, hK, fun q hq => Or.inr hq, hZ, Nat.le_refl _, Nat.le_refl _, Nat.le_refl _, Nat.le_refl _⟩ rfl s.heap [] _ hP (mkW_D hD0 (fun k hk => AW_in hk)) va_S.rf hl
def Rt (v : Option Value) (h : Hp) : Option Value → Hp → Prop := fun r h' => r = v ∧ h' = h

section PR
variable {K : Kx} {own : String} {cc : ByteArray} {nL : Nat} {ret : Option FieldType} {E : Ev} {wd : Wd} {A : Nat → Prop} {d : Nat} {pc : Nat} {lo : List (Option Value)} {st : List Value} {h : Hp}
theorem P_iadd (X : Cx K own cc nL ret E A d) {x y : Int32} (q : Nat) (hd : decode cc pc = .ok (.iadd, 1)) (hq : pc + 1 = q) (k : GW K nL E wd A q lo (.int (x + y) :: st) h) : GW K nL E wd A pc lo (.int y :: .int x :: st) h := by
  subst hq
  obtain ⟨p, l, e, R, s, m, args, below, meth, c, cells, slots, Q⟩ := K
  obtain ⟨hx, hb, hml, hret, hlk, hown, hts, hN, hK, hA, hZ, hdf, hdl, hcc, hcs⟩ := X
  exact fun H locs ls hP hD hS hl => lv_iadd hx hb hd (k H locs ls hP hD hS hl)
theorem P_isub (X : Cx K own cc nL ret E A d) {x y : Int32} (q : Nat) (hd : decode cc pc = .ok (.isub, 1)) (hq : pc + 1 = q) (k : GW K nL E wd A q lo (.int (x - y) :: st) h) : GW K nL E wd A pc lo (.int y :: .int x :: st) h := by
  subst hq
  obtain ⟨p, l, e, R, s, m, args, below, meth, c, cells, slots, Q⟩ := K
  obtain ⟨hx, hb, hml, hret, hlk, hown, hts, hN, hK, hA, hZ, hdf, hdl, hcc, hcs⟩ := X
  exact fun H locs ls hP hD hS hl => lv_isub hx hb hd (k H locs ls hP hD hS hl)
theorem P_imul (X : Cx K own cc nL ret E A d) {x y : Int32} (q : Nat) (hd : decode cc pc = .ok (.imul, 1)) (hq : pc + 1 = q) (k : GW K nL E wd A q lo (.int (x * y) :: st) h) : GW K nL E wd A pc lo (.int y :: .int x :: st) h := by
  subst hq
  obtain ⟨p, l, e, R, s, m, args, below, meth, c, cells, slots, Q⟩ := K
  obtain ⟨hx, hb, hml, hret, hlk, hown, hts, hN, hK, hA, hZ, hdf, hdl, hcc, hcs⟩ := X
  exact fun H locs ls hP hD hS hl => lv_imul hx hb hd (k H locs ls hP hD hS hl)
theorem P_iand (X : Cx K own cc nL ret E A d) {x y : Int32} (q : Nat) (hd : decode cc pc = .ok (.iand, 1)) (hq : pc + 1 = q) (k : GW K nL E wd A q lo (.int (x &&& y) :: st) h) : GW K nL E wd A pc lo (.int y :: .int x :: st) h := by
  subst hq
  obtain ⟨p, l, e, R, s, m, args, below, meth, c, cells, slots, Q⟩ := K
  obtain ⟨hx, hb, hml, hret, hlk, hown, hts, hN, hK, hA, hZ, hdf, hdl, hcc, hcs⟩ := X
  exact fun H locs ls hP hD hS hl => lv_iand hx hb hd (k H locs ls hP hD hS hl)
theorem P_ior (X : Cx K own cc nL ret E A d) {x y : Int32} (q : Nat) (hd : decode cc pc = .ok (.ior, 1)) (hq : pc + 1 = q) (k : GW K nL E wd A q lo (.int (x ||| y) :: st) h) : GW K nL E wd A pc lo (.int y :: .int x :: st) h := by
  subst hq
  obtain ⟨p, l, e, R, s, m, args, below, meth, c, cells, slots, Q⟩ := K
  obtain ⟨hx, hb, hml, hret, hlk, hown, hts, hN, hK, hA, hZ, hdf, hdl, hcc, hcs⟩ := X
  exact fun H locs ls hP hD hS hl => lv_ior hx hb hd (k H locs ls hP hD hS hl)
theorem P_ixor (X : Cx K own cc nL ret E A d) {x y : Int32} (q : Nat) (hd : decode cc pc = .ok (.ixor, 1)) (hq : pc + 1 = q) (k : GW K nL E wd A q lo (.int (x ^^^ y) :: st) h) : GW K nL E wd A pc lo (.int y :: .int x :: st) h := by
  subst hq
  obtain ⟨p, l, e, R, s, m, args, below, meth, c, cells, slots, Q⟩ := K
  obtain ⟨hx, hb, hml, hret, hlk, hown, hts, hN, hK, hA, hZ, hdf, hdl, hcc, hcs⟩ := X
  exact fun H locs ls hP hD hS hl => lv_ixor hx hb hd (k H locs ls hP hD hS hl)
theorem P_land (X : Cx K own cc nL ret E A d) {x y : Int64} (q : Nat) (hd : decode cc pc = .ok (.land, 1)) (hq : pc + 1 = q) (k : GW K nL E wd A q lo (.long (x &&& y) :: st) h) : GW K nL E wd A pc lo (.long y :: .long x :: st) h := by
  subst hq
  obtain ⟨p, l, e, R, s, m, args, below, meth, c, cells, slots, Q⟩ := K
  obtain ⟨hx, hb, hml, hret, hlk, hown, hts, hN, hK, hA, hZ, hdf, hdl, hcc, hcs⟩ := X
  exact fun H locs ls hP hD hS hl => lv_land hx hb hd (k H locs ls hP hD hS hl)
theorem P_lor (X : Cx K own cc nL ret E A d) {x y : Int64} (q : Nat) (hd : decode cc pc = .ok (.lor, 1)) (hq : pc + 1 = q) (k : GW K nL E wd A q lo (.long (x ||| y) :: st) h) : GW K nL E wd A pc lo (.long y :: .long x :: st) h := by
  subst hq
  obtain ⟨p, l, e, R, s, m, args, below, meth, c, cells, slots, Q⟩ := K
  obtain ⟨hx, hb, hml, hret, hlk, hown, hts, hN, hK, hA, hZ, hdf, hdl, hcc, hcs⟩ := X
  exact fun H locs ls hP hD hS hl => lv_lor hx hb hd (k H locs ls hP hD hS hl)
theorem P_idiv (X : Cx K own cc nL ret E A d) {x y : Int32} (hne : ¬ y = 0) (q : Nat) (hd : decode cc pc = .ok (.idiv, 1)) (hq : pc + 1 = q) (k : GW K nL E wd A q lo (.int (x / y) :: st) h) : GW K nL E wd A pc lo (.int y :: .int x :: st) h := by
  subst hq
  obtain ⟨p, l, e, R, s, m, args, below, meth, c, cells, slots, Q⟩ := K
  obtain ⟨hx, hb, hml, hret, hlk, hown, hts, hN, hK, hA, hZ, hdf, hdl, hcc, hcs⟩ := X
  exact fun H locs ls hP hD hS hl => lv_idiv hx hb hd hne (k H locs ls hP hD hS hl)
theorem P_irem (X : Cx K own cc nL ret E A d) {x y : Int32} (hne : ¬ y = 0) (q : Nat) (hd : decode cc pc = .ok (.irem, 1)) (hq : pc + 1 = q) (k : GW K nL E wd A q lo (.int (x - x / y * y) :: st) h) : GW K nL E wd A pc lo (.int y :: .int x :: st) h := by
  subst hq
  obtain ⟨p, l, e, R, s, m, args, below, meth, c, cells, slots, Q⟩ := K
  obtain ⟨hx, hb, hml, hret, hlk, hown, hts, hN, hK, hA, hZ, hdf, hdl, hcc, hcs⟩ := X
  exact fun H locs ls hP hD hS hl => lv_irem hx hb hd hne (k H locs ls hP hD hS hl)
theorem P_ineg (X : Cx K own cc nL ret E A d) {x : Int32} (q : Nat) (hd : decode cc pc = .ok (.ineg, 1)) (hq : pc + 1 = q) (k : GW K nL E wd A q lo (.int (0 - x) :: st) h) : GW K nL E wd A pc lo (.int x :: st) h := by
  subst hq
  obtain ⟨p, l, e, R, s, m, args, below, meth, c, cells, slots, Q⟩ := K
  obtain ⟨hx, hb, hml, hret, hlk, hown, hts, hN, hK, hA, hZ, hdf, hdl, hcc, hcs⟩ := X
  exact fun H locs ls hP hD hS hl => lv_ineg hx hb hd (k H locs ls hP hD hS hl)
theorem P_ishl (X : Cx K own cc nL ret E A d) {x y : Int32} (q : Nat) (hd : decode cc pc = .ok (.ishl, 1)) (hq : pc + 1 = q) (k : GW K nL E wd A q lo (.int (x <<< (y &&& 31)) :: st) h) : GW K nL E wd A pc lo (.int y :: .int x :: st) h := by
  subst hq
  obtain ⟨p, l, e, R, s, m, args, below, meth, c, cells, slots, Q⟩ := K
  obtain ⟨hx, hb, hml, hret, hlk, hown, hts, hN, hK, hA, hZ, hdf, hdl, hcc, hcs⟩ := X
  exact fun H locs ls hP hD hS hl => lv_ishl hx hb hd (k H locs ls hP hD hS hl)
theorem P_ishr (X : Cx K own cc nL ret E A d) {x y : Int32} (q : Nat) (hd : decode cc pc = .ok (.ishr, 1)) (hq : pc + 1 = q) (k : GW K nL E wd A q lo (.int (x >>> (y &&& 31)) :: st) h) : GW K nL E wd A pc lo (.int y :: .int x :: st) h := by
  subst hq
  obtain ⟨p, l, e, R, s, m, args, below, meth, c, cells, slots, Q⟩ := K
  obtain ⟨hx, hb, hml, hret, hlk, hown, hts, hN, hK, hA, hZ, hdf, hdl, hcc, hcs⟩ := X
  exact fun H locs ls hP hD hS hl => lv_ishr hx hb hd (k H locs ls hP hD hS hl)
theorem P_iushr (X : Cx K own cc nL ret E A d) {x y : Int32} (q : Nat) (hd : decode cc pc = .ok (.iushr, 1)) (hq : pc + 1 = q) (k : GW K nL E wd A q lo (.int (x.toUInt32 >>> (y.toUInt32 &&& Int32.toUInt32 31)).toInt32 :: st) h) : GW K nL E wd A pc lo (.int y :: .int x :: st) h := by
  subst hq
  obtain ⟨p, l, e, R, s, m, args, below, meth, c, cells, slots, Q⟩ := K
  obtain ⟨hx, hb, hml, hret, hlk, hown, hts, hN, hK, hA, hZ, hdf, hdl, hcc, hcs⟩ := X
  exact fun H locs ls hP hD hS hl => lv_iushr hx hb hd rfl (k H locs ls hP hD hS hl)
theorem P_i2l (X : Cx K own cc nL ret E A d) {x : Int32} (q : Nat) (hd : decode cc pc = .ok (.i2l, 1)) (hq : pc + 1 = q) (k : GW K nL E wd A q lo (.long x.toInt64 :: st) h) : GW K nL E wd A pc lo (.int x :: st) h := by
  subst hq
  obtain ⟨p, l, e, R, s, m, args, below, meth, c, cells, slots, Q⟩ := K
  obtain ⟨hx, hb, hml, hret, hlk, hown, hts, hN, hK, hA, hZ, hdf, hdl, hcc, hcs⟩ := X
  exact fun H locs ls hP hD hS hl => lv_i2l hx hb hd rfl (k H locs ls hP hD hS hl)
theorem P_l2i (X : Cx K own cc nL ret E A d) {x : Int64} (q : Nat) (hd : decode cc pc = .ok (.l2i, 1)) (hq : pc + 1 = q) (k : GW K nL E wd A q lo (.int x.toInt32 :: st) h) : GW K nL E wd A pc lo (.long x :: st) h := by
  subst hq
  obtain ⟨p, l, e, R, s, m, args, below, meth, c, cells, slots, Q⟩ := K
  obtain ⟨hx, hb, hml, hret, hlk, hown, hts, hN, hK, hA, hZ, hdf, hdl, hcc, hcs⟩ := X
  exact fun H locs ls hP hD hS hl => lv_l2i hx hb hd rfl (k H locs ls hP hD hS hl)
theorem P_i2b (X : Cx K own cc nL ret E A d) {x : Int32} (q : Nat) (hd : decode cc pc = .ok (.i2b, 1)) (hq : pc + 1 = q) (k : GW K nL E wd A q lo (.int x.toInt8.toInt32 :: st) h) : GW K nL E wd A pc lo (.int x :: st) h := by
  subst hq
  obtain ⟨p, l, e, R, s, m, args, below, meth, c, cells, slots, Q⟩ := K
  obtain ⟨hx, hb, hml, hret, hlk, hown, hts, hN, hK, hA, hZ, hdf, hdl, hcc, hcs⟩ := X
  exact fun H locs ls hP hD hS hl => lv_i2b hx hb hd rfl (k H locs ls hP hD hS hl)
theorem P_i2s (X : Cx K own cc nL ret E A d) {x : Int32} (q : Nat) (hd : decode cc pc = .ok (.i2s, 1)) (hq : pc + 1 = q) (k : GW K nL E wd A q lo (.int x.toInt16.toInt32 :: st) h) : GW K nL E wd A pc lo (.int x :: st) h := by
  subst hq
  obtain ⟨p, l, e, R, s, m, args, below, meth, c, cells, slots, Q⟩ := K
  obtain ⟨hx, hb, hml, hret, hlk, hown, hts, hN, hK, hA, hZ, hdf, hdl, hcc, hcs⟩ := X
  exact fun H locs ls hP hD hS hl => lv_i2s hx hb hd rfl (k H locs ls hP hD hS hl)
theorem P_lushr (X : Cx K own cc nL ret E A d) {x : Int64} {y : Int32} (q : Nat) (hd : decode cc pc = .ok (.lushr, 1)) (hq : pc + 1 = q) (k : GW K nL E wd A q lo (.long (x.toUInt64 >>> (y.toInt64.toUInt64 &&& Int64.toUInt64 63)).toInt64 :: st) h) : GW K nL E wd A pc lo (.int y :: .long x :: st) h := by
  subst hq
  obtain ⟨p, l, e, R, s, m, args, below, meth, c, cells, slots, Q⟩ := K
  obtain ⟨hx, hb, hml, hret, hlk, hown, hts, hN, hK, hA, hZ, hdf, hdl, hcc, hcs⟩ := X
  exact fun H locs ls hP hD hS hl => lv_lushr hx hb hd rfl (k H locs ls hP hD hS hl)
theorem P_lshl (X : Cx K own cc nL ret E A d) {x : Int64} {y : Int32} (q : Nat) (hd : decode cc pc = .ok (.lshl, 1)) (hq : pc + 1 = q) (k : GW K nL E wd A q lo (.long (x <<< (y.toInt64 &&& 63)) :: st) h) : GW K nL E wd A pc lo (.int y :: .long x :: st) h := by
  subst hq
  obtain ⟨p, l, e, R, s, m, args, below, meth, c, cells, slots, Q⟩ := K
  obtain ⟨hx, hb, hml, hret, hlk, hown, hts, hN, hK, hA, hZ, hdf, hdl, hcc, hcs⟩ := X
  exact fun H locs ls hP hD hS hl => lv_lshl hx hb hd rfl (k H locs ls hP hD hS hl)
theorem P_lshr (X : Cx K own cc nL ret E A d) {x : Int64} {y : Int32} (q : Nat) (hd : decode cc pc = .ok (.lshr, 1)) (hq : pc + 1 = q) (k : GW K nL E wd A q lo (.long (x >>> (y.toInt64 &&& 63)) :: st) h) : GW K nL E wd A pc lo (.int y :: .long x :: st) h := by
  subst hq
  obtain ⟨p, l, e, R, s, m, args, below, meth, c, cells, slots, Q⟩ := K
  obtain ⟨hx, hb, hml, hret, hlk, hown, hts, hN, hK, hA, hZ, hdf, hdl, hcc, hcs⟩ := X
  exact fun H locs ls hP hD hS hl => lv_lshr hx hb hd rfl (k H locs ls hP hD hS hl)
theorem P_dup (X : Cx K own cc nL ret E A d) {v : Value} (hv : v.category = 1) (q : Nat) (hd : decode cc pc = .ok (.dup, 1)) (hq : pc + 1 = q) (k : GW K nL E wd A q lo (v :: v :: st) h) : GW K nL E wd A pc lo (v :: st) h := by
  subst hq
  obtain ⟨p, l, e, R, s, m, args, below, meth, c, cells, slots, Q⟩ := K
  obtain ⟨hx, hb, hml, hret, hlk, hown, hts, hN, hK, hA, hZ, hdf, hdl, hcc, hcs⟩ := X
  exact fun H locs ls hP hD hS hl => lv_dup hx hb hd hv (k H locs ls hP hD hS hl)
theorem P_dup2 (X : Cx K own cc nL ret E A d) {v u : Value} (hv : v.category = 1) (hu : u.category = 1) (q : Nat) (hd : decode cc pc = .ok (.dup2, 1)) (hq : pc + 1 = q) (k : GW K nL E wd A q lo (v :: u :: v :: u :: st) h) : GW K nL E wd A pc lo (v :: u :: st) h := by
  subst hq
  obtain ⟨p, l, e, R, s, m, args, below, meth, c, cells, slots, Q⟩ := K
  obtain ⟨hx, hb, hml, hret, hlk, hown, hts, hN, hK, hA, hZ, hdf, hdl, hcc, hcs⟩ := X
  exact fun H locs ls hP hD hS hl => lv_dup2_11 hx hb hd hv hu (k H locs ls hP hD hS hl)
theorem P_pop (X : Cx K own cc nL ret E A d) {v : Value} (hv : v.category = 1) (q : Nat) (hd : decode cc pc = .ok (.pop, 1)) (hq : pc + 1 = q) (k : GW K nL E wd A q lo (st) h) : GW K nL E wd A pc lo (v :: st) h := by
  subst hq
  obtain ⟨p, l, e, R, s, m, args, below, meth, c, cells, slots, Q⟩ := K
  obtain ⟨hx, hb, hml, hret, hlk, hown, hts, hN, hK, hA, hZ, hdf, hdl, hcc, hcs⟩ := X
  exact fun H locs ls hP hD hS hl => lv_pop hx hb hd hv (k H locs ls hP hD hS hl)
theorem P_iconst (X : Cx K own cc nL ret E A d) {n : Int} (v : Int32) (hv : Int32.ofInt n = v) (q : Nat) (hd : decode cc pc = .ok (.iconst n, 1)) (hq : pc + 1 = q) (k : GW K nL E wd A q lo (.int v :: st) h) : GW K nL E wd A pc lo (st) h := by
  subst hq
  obtain ⟨p, l, e, R, s, m, args, below, meth, c, cells, slots, Q⟩ := K
  obtain ⟨hx, hb, hml, hret, hlk, hown, hts, hN, hK, hA, hZ, hdf, hdl, hcc, hcs⟩ := X
  exact fun H locs ls hP hD hS hl => lv_iconst hx hb hd hv (k H locs ls hP hD hS hl)
theorem P_bipush (X : Cx K own cc nL ret E A d) {n : Int} (v : Int32) (hv : (Int8.ofInt n).toInt32 = v) (q : Nat) (hd : decode cc pc = .ok (.bipush n, 2)) (hq : pc + 2 = q) (k : GW K nL E wd A q lo (.int v :: st) h) : GW K nL E wd A pc lo (st) h := by
  subst hq
  obtain ⟨p, l, e, R, s, m, args, below, meth, c, cells, slots, Q⟩ := K
  obtain ⟨hx, hb, hml, hret, hlk, hown, hts, hN, hK, hA, hZ, hdf, hdl, hcc, hcs⟩ := X
  exact fun H locs ls hP hD hS hl => lv_bipush hx hb hd hv (k H locs ls hP hD hS hl)
theorem P_sipush (X : Cx K own cc nL ret E A d) {n : Int} (v : Int32) (hv : (Int16.ofInt n).toInt32 = v) (q : Nat) (hd : decode cc pc = .ok (.sipush n, 3)) (hq : pc + 3 = q) (k : GW K nL E wd A q lo (.int v :: st) h) : GW K nL E wd A pc lo (st) h := by
  subst hq
  obtain ⟨p, l, e, R, s, m, args, below, meth, c, cells, slots, Q⟩ := K
  obtain ⟨hx, hb, hml, hret, hlk, hown, hts, hN, hK, hA, hZ, hdf, hdl, hcc, hcs⟩ := X
  exact fun H locs ls hP hD hS hl => lv_sipush hx hb hd hv (k H locs ls hP hD hS hl)
theorem P_ldc (X : Cx K own cc nL ret E A d) {ix : Nat} {v : Int32} (hw : Cond.constant own ix v ∈ TB) (q : Nat) (hd : decode cc pc = .ok (.ldc ix, 2)) (hq : pc + 2 = q) (k : GW K nL E wd A q lo (.int v :: st) h) : GW K nL E wd A pc lo (st) h := by
  subst hq
  obtain ⟨p, l, e, R, s, m, args, below, meth, c, cells, slots, Q⟩ := K
  obtain ⟨hx, hb, hml, hret, hlk, hown, hts, hN, hK, hA, hZ, hdf, hdl, hcc, hcs⟩ := X
  exact fun H locs ls hP hD hS hl => lv_ldc hx hb hown (hts _ hw) hd (k H locs ls hP hD hS hl)
theorem P_ldcw (X : Cx K own cc nL ret E A d) {ix : Nat} {v : Int32} (hw : Cond.constant own ix v ∈ TB) (q : Nat) (hd : decode cc pc = .ok (.ldc_w ix, 3)) (hq : pc + 3 = q) (k : GW K nL E wd A q lo (.int v :: st) h) : GW K nL E wd A pc lo (st) h := by
  subst hq
  obtain ⟨p, l, e, R, s, m, args, below, meth, c, cells, slots, Q⟩ := K
  obtain ⟨hx, hb, hml, hret, hlk, hown, hts, hN, hK, hA, hZ, hdf, hdl, hcc, hcs⟩ := X
  exact fun H locs ls hP hD hS hl => lv_ldcw hx hb hown (hts _ hw) hd (k H locs ls hP hD hS hl)
theorem P_ldc2 (X : Cx K own cc nL ret E A d) {ix : Nat} {v : Int64} (hw : Cond.constantLong own ix v ∈ TB) (q : Nat) (hd : decode cc pc = .ok (.ldc2_w ix, 3)) (hq : pc + 3 = q) (k : GW K nL E wd A q lo (.long v :: st) h) : GW K nL E wd A pc lo (st) h := by
  subst hq
  obtain ⟨p, l, e, R, s, m, args, below, meth, c, cells, slots, Q⟩ := K
  obtain ⟨hx, hb, hml, hret, hlk, hown, hts, hN, hK, hA, hZ, hdf, hdl, hcc, hcs⟩ := X
  exact fun H locs ls hP hD hS hl => lv_ldc2 hx hb hown (hts _ hw) hd (k H locs ls hP hD hS hl)
theorem P_goto (X : Cx K own cc nL ret E A d) {off : Int} (q : Nat) (hd : decode cc pc = .ok (.goto off, 3)) (hq : (pc : Int) + off = (q : Int)) (k : GW K nL E wd A q lo st h) : GW K nL E wd A pc lo st h := by
  obtain ⟨p, l, e, R, s, m, args, below, meth, c, cells, slots, Q⟩ := K
  obtain ⟨hx, hb, hml, hret, hlk, hown, hts, hN, hK, hA, hZ, hdf, hdl, hcc, hcs⟩ := X
  exact fun H locs ls hP hD hS hl => lv_goto hx hb hd hq (k H locs ls hP hD hS hl)
theorem P_if_eq (X : Cx K own cc nL ret E A d) {x : Int32} {off : Int} (tgt q : Nat) (hd : decode cc pc = .ok (.ifCond .eq off, 3)) (ht : (pc : Int) + off = (tgt : Int)) (hq : pc + 3 = q) (kt : x = 0 → GW K nL E wd A tgt lo st h) (kf : ¬ x = 0 → GW K nL E wd A q lo st h) : GW K nL E wd A pc lo (.int x :: st) h := by
  subst hq
  obtain ⟨p, l, e, R, s, m, args, below, meth, c, cells, slots, Q⟩ := K
  obtain ⟨hx, hb, hml, hret, hlk, hown, hts, hN, hK, hA, hZ, hdf, hdl, hcc, hcs⟩ := X
  exact fun H locs ls hP hD hS hl => lv_if_eq hx hb hd ht (fun z => kt z H locs ls hP hD hS hl) (fun z => kf z H locs ls hP hD hS hl)
theorem P_icmp_eq (X : Cx K own cc nL ret E A d) {x y : Int32} {off : Int} (tgt q : Nat) (hd : decode cc pc = .ok (.if_icmp .eq off, 3)) (ht : (pc : Int) + off = (tgt : Int)) (hq : pc + 3 = q) (kt : x = y → GW K nL E wd A tgt lo st h) (kf : ¬ x = y → GW K nL E wd A q lo st h) : GW K nL E wd A pc lo (.int y :: .int x :: st) h := by
  subst hq
  obtain ⟨p, l, e, R, s, m, args, below, meth, c, cells, slots, Q⟩ := K
  obtain ⟨hx, hb, hml, hret, hlk, hown, hts, hN, hK, hA, hZ, hdf, hdl, hcc, hcs⟩ := X
  exact fun H locs ls hP hD hS hl => lv_icmp_eq hx hb hd ht (fun z => kt z H locs ls hP hD hS hl) (fun z => kf z H locs ls hP hD hS hl)
theorem P_if_ne (X : Cx K own cc nL ret E A d) {x : Int32} {off : Int} (tgt q : Nat) (hd : decode cc pc = .ok (.ifCond .ne off, 3)) (ht : (pc : Int) + off = (tgt : Int)) (hq : pc + 3 = q) (kt : ¬ x = 0 → GW K nL E wd A tgt lo st h) (kf : x = 0 → GW K nL E wd A q lo st h) : GW K nL E wd A pc lo (.int x :: st) h := by
  subst hq
  obtain ⟨p, l, e, R, s, m, args, below, meth, c, cells, slots, Q⟩ := K
  obtain ⟨hx, hb, hml, hret, hlk, hown, hts, hN, hK, hA, hZ, hdf, hdl, hcc, hcs⟩ := X
  exact fun H locs ls hP hD hS hl => lv_if_ne hx hb hd ht (fun z => kt z H locs ls hP hD hS hl) (fun z => kf z H locs ls hP hD hS hl)
theorem P_icmp_ne (X : Cx K own cc nL ret E A d) {x y : Int32} {off : Int} (tgt q : Nat) (hd : decode cc pc = .ok (.if_icmp .ne off, 3)) (ht : (pc : Int) + off = (tgt : Int)) (hq : pc + 3 = q) (kt : ¬ x = y → GW K nL E wd A tgt lo st h) (kf : x = y → GW K nL E wd A q lo st h) : GW K nL E wd A pc lo (.int y :: .int x :: st) h := by
  subst hq
  obtain ⟨p, l, e, R, s, m, args, below, meth, c, cells, slots, Q⟩ := K
  obtain ⟨hx, hb, hml, hret, hlk, hown, hts, hN, hK, hA, hZ, hdf, hdl, hcc, hcs⟩ := X
  exact fun H locs ls hP hD hS hl => lv_icmp_ne hx hb hd ht (fun z => kt z H locs ls hP hD hS hl) (fun z => kf z H locs ls hP hD hS hl)
theorem P_if_lt (X : Cx K own cc nL ret E A d) {x : Int32} {off : Int} (tgt q : Nat) (hd : decode cc pc = .ok (.ifCond .lt off, 3)) (ht : (pc : Int) + off = (tgt : Int)) (hq : pc + 3 = q) (kt : x < 0 → GW K nL E wd A tgt lo st h) (kf : ¬ x < 0 → GW K nL E wd A q lo st h) : GW K nL E wd A pc lo (.int x :: st) h := by
  subst hq
  obtain ⟨p, l, e, R, s, m, args, below, meth, c, cells, slots, Q⟩ := K
  obtain ⟨hx, hb, hml, hret, hlk, hown, hts, hN, hK, hA, hZ, hdf, hdl, hcc, hcs⟩ := X
  exact fun H locs ls hP hD hS hl => lv_if_lt hx hb hd ht (fun z => kt z H locs ls hP hD hS hl) (fun z => kf z H locs ls hP hD hS hl)
theorem P_icmp_lt (X : Cx K own cc nL ret E A d) {x y : Int32} {off : Int} (tgt q : Nat) (hd : decode cc pc = .ok (.if_icmp .lt off, 3)) (ht : (pc : Int) + off = (tgt : Int)) (hq : pc + 3 = q) (kt : x < y → GW K nL E wd A tgt lo st h) (kf : ¬ x < y → GW K nL E wd A q lo st h) : GW K nL E wd A pc lo (.int y :: .int x :: st) h := by
  subst hq
  obtain ⟨p, l, e, R, s, m, args, below, meth, c, cells, slots, Q⟩ := K
  obtain ⟨hx, hb, hml, hret, hlk, hown, hts, hN, hK, hA, hZ, hdf, hdl, hcc, hcs⟩ := X
  exact fun H locs ls hP hD hS hl => lv_icmp_lt hx hb hd ht (fun z => kt z H locs ls hP hD hS hl) (fun z => kf z H locs ls hP hD hS hl)
theorem P_if_ge (X : Cx K own cc nL ret E A d) {x : Int32} {off : Int} (tgt q : Nat) (hd : decode cc pc = .ok (.ifCond .ge off, 3)) (ht : (pc : Int) + off = (tgt : Int)) (hq : pc + 3 = q) (kt : 0 ≤ x → GW K nL E wd A tgt lo st h) (kf : ¬ 0 ≤ x → GW K nL E wd A q lo st h) : GW K nL E wd A pc lo (.int x :: st) h := by
  subst hq
  obtain ⟨p, l, e, R, s, m, args, below, meth, c, cells, slots, Q⟩ := K
  obtain ⟨hx, hb, hml, hret, hlk, hown, hts, hN, hK, hA, hZ, hdf, hdl, hcc, hcs⟩ := X
  exact fun H locs ls hP hD hS hl => lv_if_ge hx hb hd ht (fun z => kt z H locs ls hP hD hS hl) (fun z => kf z H locs ls hP hD hS hl)
theorem P_icmp_ge (X : Cx K own cc nL ret E A d) {x y : Int32} {off : Int} (tgt q : Nat) (hd : decode cc pc = .ok (.if_icmp .ge off, 3)) (ht : (pc : Int) + off = (tgt : Int)) (hq : pc + 3 = q) (kt : y ≤ x → GW K nL E wd A tgt lo st h) (kf : ¬ y ≤ x → GW K nL E wd A q lo st h) : GW K nL E wd A pc lo (.int y :: .int x :: st) h := by
  subst hq
  obtain ⟨p, l, e, R, s, m, args, below, meth, c, cells, slots, Q⟩ := K
  obtain ⟨hx, hb, hml, hret, hlk, hown, hts, hN, hK, hA, hZ, hdf, hdl, hcc, hcs⟩ := X
  exact fun H locs ls hP hD hS hl => lv_icmp_ge hx hb hd ht (fun z => kt z H locs ls hP hD hS hl) (fun z => kf z H locs ls hP hD hS hl)
theorem P_if_gt (X : Cx K own cc nL ret E A d) {x : Int32} {off : Int} (tgt q : Nat) (hd : decode cc pc = .ok (.ifCond .gt off, 3)) (ht : (pc : Int) + off = (tgt : Int)) (hq : pc + 3 = q) (kt : 0 < x → GW K nL E wd A tgt lo st h) (kf : ¬ 0 < x → GW K nL E wd A q lo st h) : GW K nL E wd A pc lo (.int x :: st) h := by
  subst hq
  obtain ⟨p, l, e, R, s, m, args, below, meth, c, cells, slots, Q⟩ := K
  obtain ⟨hx, hb, hml, hret, hlk, hown, hts, hN, hK, hA, hZ, hdf, hdl, hcc, hcs⟩ := X
  exact fun H locs ls hP hD hS hl => lv_if_gt hx hb hd ht (fun z => kt z H locs ls hP hD hS hl) (fun z => kf z H locs ls hP hD hS hl)
theorem P_icmp_gt (X : Cx K own cc nL ret E A d) {x y : Int32} {off : Int} (tgt q : Nat) (hd : decode cc pc = .ok (.if_icmp .gt off, 3)) (ht : (pc : Int) + off = (tgt : Int)) (hq : pc + 3 = q) (kt : y < x → GW K nL E wd A tgt lo st h) (kf : ¬ y < x → GW K nL E wd A q lo st h) : GW K nL E wd A pc lo (.int y :: .int x :: st) h := by
  subst hq
  obtain ⟨p, l, e, R, s, m, args, below, meth, c, cells, slots, Q⟩ := K
  obtain ⟨hx, hb, hml, hret, hlk, hown, hts, hN, hK, hA, hZ, hdf, hdl, hcc, hcs⟩ := X
  exact fun H locs ls hP hD hS hl => lv_icmp_gt hx hb hd ht (fun z => kt z H locs ls hP hD hS hl) (fun z => kf z H locs ls hP hD hS hl)
theorem P_if_le (X : Cx K own cc nL ret E A d) {x : Int32} {off : Int} (tgt q : Nat) (hd : decode cc pc = .ok (.ifCond .le off, 3)) (ht : (pc : Int) + off = (tgt : Int)) (hq : pc + 3 = q) (kt : x ≤ 0 → GW K nL E wd A tgt lo st h) (kf : ¬ x ≤ 0 → GW K nL E wd A q lo st h) : GW K nL E wd A pc lo (.int x :: st) h := by
  subst hq
  obtain ⟨p, l, e, R, s, m, args, below, meth, c, cells, slots, Q⟩ := K
  obtain ⟨hx, hb, hml, hret, hlk, hown, hts, hN, hK, hA, hZ, hdf, hdl, hcc, hcs⟩ := X
  exact fun H locs ls hP hD hS hl => lv_if_le hx hb hd ht (fun z => kt z H locs ls hP hD hS hl) (fun z => kf z H locs ls hP hD hS hl)
theorem P_icmp_le (X : Cx K own cc nL ret E A d) {x y : Int32} {off : Int} (tgt q : Nat) (hd : decode cc pc = .ok (.if_icmp .le off, 3)) (ht : (pc : Int) + off = (tgt : Int)) (hq : pc + 3 = q) (kt : x ≤ y → GW K nL E wd A tgt lo st h) (kf : ¬ x ≤ y → GW K nL E wd A q lo st h) : GW K nL E wd A pc lo (.int y :: .int x :: st) h := by
  subst hq
  obtain ⟨p, l, e, R, s, m, args, below, meth, c, cells, slots, Q⟩ := K
  obtain ⟨hx, hb, hml, hret, hlk, hown, hts, hN, hK, hA, hZ, hdf, hdl, hcc, hcs⟩ := X
  exact fun H locs ls hP hD hS hl => lv_icmp_le hx hb hd ht (fun z => kt z H locs ls hP hD hS hl) (fun z => kf z H locs ls hP hD hS hl)
theorem P_iload0 (X : Cx K own cc nL ret E A d) {x : Int32} (q : Nat) (hd : decode cc pc = .ok (.iload_n 0, 1)) (hq : pc + 1 = q) (k : GW K nL E wd A q (some (.int x) :: lo) (.int x :: st) h) : GW K nL E wd A pc (some (.int x) :: lo) (st) h := by
  subst hq
  obtain ⟨p, l, e, R, s, m, args, below, meth, c, cells, slots, Q⟩ := K
  obtain ⟨hx, hb, hml, hret, hlk, hown, hts, hN, hK, hA, hZ, hdf, hdl, hcc, hcs⟩ := X
  exact fun H locs ls hP hD hS hl => lv_iload_n hx hb hd rfl (lvp_at hl 0 rfl) (k H locs ls hP hD hS hl)
theorem P_aload0 (X : Cx K own cc nL ret E A d) {x : Nat} (q : Nat) (hd : decode cc pc = .ok (.aload_n 0, 1)) (hq : pc + 1 = q) (k : GW K nL E wd A q (some (.ref x) :: lo) (.ref x :: st) h) : GW K nL E wd A pc (some (.ref x) :: lo) (st) h := by
  subst hq
  obtain ⟨p, l, e, R, s, m, args, below, meth, c, cells, slots, Q⟩ := K
  obtain ⟨hx, hb, hml, hret, hlk, hown, hts, hN, hK, hA, hZ, hdf, hdl, hcc, hcs⟩ := X
  exact fun H locs ls hP hD hS hl => lv_aload_n hx hb hd rfl (lvp_at hl 0 rfl) (k H locs ls hP hD hS hl)
theorem P_lload0 (X : Cx K own cc nL ret E A d) {x : Int64} (q : Nat) (hd : decode cc pc = .ok (.lload_n 0, 1)) (hq : pc + 1 = q) (k : GW K nL E wd A q (some (.long x) :: lo) (.long x :: st) h) : GW K nL E wd A pc (some (.long x) :: lo) (st) h := by
  subst hq
  obtain ⟨p, l, e, R, s, m, args, below, meth, c, cells, slots, Q⟩ := K
  obtain ⟨hx, hb, hml, hret, hlk, hown, hts, hN, hK, hA, hZ, hdf, hdl, hcc, hcs⟩ := X
  exact fun H locs ls hP hD hS hl => lv_lload_n hx hb hd rfl (lvp_at hl 0 rfl) (k H locs ls hP hD hS hl)
theorem P_istore0 (X : Cx K own cc nL ret E A d) {ow : Option Value} {x : Int32} (q : Nat) (hd : decode cc pc = .ok (.istore_n 0, 1)) (hq : pc + 1 = q) (hn : 0 < nL) (hok : lvok (ow :: lo) 0 = true) (k : GW K nL E wd A q (some (.int x) :: lo) st h) : GW K nL E wd A pc (ow :: lo) (.int x :: st) h := by
  subst hq
  obtain ⟨p, l, e, R, s, m, args, below, meth, c, cells, slots, Q⟩ := K
  obtain ⟨hx, hb, hml, hret, hlk, hown, hts, hN, hK, hA, hZ, hdf, hdl, hcc, hcs⟩ := X
  exact fun H locs ls hP hD hS hl => lv_istore_n hx hb hd rfl hl hn rfl (fun ls' hl' => k H locs ls' hP hD hS (lvp_store hl' rfl hok))
theorem P_astore0 (X : Cx K own cc nL ret E A d) {ow : Option Value} {x : Nat} (q : Nat) (hd : decode cc pc = .ok (.astore_n 0, 1)) (hq : pc + 1 = q) (hn : 0 < nL) (hok : lvok (ow :: lo) 0 = true) (k : GW K nL E wd A q (some (.ref x) :: lo) st h) : GW K nL E wd A pc (ow :: lo) (.ref x :: st) h := by
  subst hq
  obtain ⟨p, l, e, R, s, m, args, below, meth, c, cells, slots, Q⟩ := K
  obtain ⟨hx, hb, hml, hret, hlk, hown, hts, hN, hK, hA, hZ, hdf, hdl, hcc, hcs⟩ := X
  exact fun H locs ls hP hD hS hl => lv_astore_n hx hb hd rfl hl hn rfl (fun ls' hl' => k H locs ls' hP hD hS (lvp_store hl' rfl hok))
theorem P_iinc0 (X : Cx K own cc nL ret E A d) {x : Int32} {n : Int} (v : Int32) (hv : Int32.ofInt n = v) (q : Nat) (hd : decode cc pc = .ok (.iinc 0 n, 3)) (hq : pc + 3 = q) (hn : 0 < nL) (hok : lvok (some (.int x) :: lo) 0 = true) (k : GW K nL E wd A q (some (.int (x + v)) :: lo) st h) : GW K nL E wd A pc (some (.int x) :: lo) st h := by
  subst hq
  obtain ⟨p, l, e, R, s, m, args, below, meth, c, cells, slots, Q⟩ := K
  obtain ⟨hx, hb, hml, hret, hlk, hown, hts, hN, hK, hA, hZ, hdf, hdl, hcc, hcs⟩ := X
  intro H locs ls hP hD hS hl
  obtain ⟨kk, hkk⟩ := List.getElem?_of_mem ((lvp_mem (some (.int x) :: lo) 0 0 (.int x)).mpr ⟨Nat.zero_le _, rfl⟩)
  exact lv_iinc hx hb hd hl hkk (by rw [hv]) hn rfl (fun ls' hl' => k H locs ls' hP hD hS (lvp_store hl' rfl hok))
theorem P_iload1 (X : Cx K own cc nL ret E A d) {o0 : Option Value} {x : Int32} (q : Nat) (hd : decode cc pc = .ok (.iload_n 1, 1)) (hq : pc + 1 = q) (k : GW K nL E wd A q (o0 :: some (.int x) :: lo) (.int x :: st) h) : GW K nL E wd A pc (o0 :: some (.int x) :: lo) (st) h := by
  subst hq
  obtain ⟨p, l, e, R, s, m, args, below, meth, c, cells, slots, Q⟩ := K
  obtain ⟨hx, hb, hml, hret, hlk, hown, hts, hN, hK, hA, hZ, hdf, hdl, hcc, hcs⟩ := X
  exact fun H locs ls hP hD hS hl => lv_iload_n hx hb hd rfl (lvp_at hl 1 rfl) (k H locs ls hP hD hS hl)
theorem P_aload1 (X : Cx K own cc nL ret E A d) {o0 : Option Value} {x : Nat} (q : Nat) (hd : decode cc pc = .ok (.aload_n 1, 1)) (hq : pc + 1 = q) (k : GW K nL E wd A q (o0 :: some (.ref x) :: lo) (.ref x :: st) h) : GW K nL E wd A pc (o0 :: some (.ref x) :: lo) (st) h := by
  subst hq
  obtain ⟨p, l, e, R, s, m, args, below, meth, c, cells, slots, Q⟩ := K
  obtain ⟨hx, hb, hml, hret, hlk, hown, hts, hN, hK, hA, hZ, hdf, hdl, hcc, hcs⟩ := X
  exact fun H locs ls hP hD hS hl => lv_aload_n hx hb hd rfl (lvp_at hl 1 rfl) (k H locs ls hP hD hS hl)
theorem P_lload1 (X : Cx K own cc nL ret E A d) {o0 : Option Value} {x : Int64} (q : Nat) (hd : decode cc pc = .ok (.lload_n 1, 1)) (hq : pc + 1 = q) (k : GW K nL E wd A q (o0 :: some (.long x) :: lo) (.long x :: st) h) : GW K nL E wd A pc (o0 :: some (.long x) :: lo) (st) h := by
  subst hq
  obtain ⟨p, l, e, R, s, m, args, below, meth, c, cells, slots, Q⟩ := K
  obtain ⟨hx, hb, hml, hret, hlk, hown, hts, hN, hK, hA, hZ, hdf, hdl, hcc, hcs⟩ := X
  exact fun H locs ls hP hD hS hl => lv_lload_n hx hb hd rfl (lvp_at hl 1 rfl) (k H locs ls hP hD hS hl)
theorem P_istore1 (X : Cx K own cc nL ret E A d) {o0 : Option Value} {ow : Option Value} {x : Int32} (q : Nat) (hd : decode cc pc = .ok (.istore_n 1, 1)) (hq : pc + 1 = q) (hn : 1 < nL) (hok : lvok (o0 :: ow :: lo) 1 = true) (k : GW K nL E wd A q (o0 :: some (.int x) :: lo) st h) : GW K nL E wd A pc (o0 :: ow :: lo) (.int x :: st) h := by
  subst hq
  obtain ⟨p, l, e, R, s, m, args, below, meth, c, cells, slots, Q⟩ := K
  obtain ⟨hx, hb, hml, hret, hlk, hown, hts, hN, hK, hA, hZ, hdf, hdl, hcc, hcs⟩ := X
  exact fun H locs ls hP hD hS hl => lv_istore_n hx hb hd rfl hl hn rfl (fun ls' hl' => k H locs ls' hP hD hS (lvp_store hl' rfl hok))
theorem P_astore1 (X : Cx K own cc nL ret E A d) {o0 : Option Value} {ow : Option Value} {x : Nat} (q : Nat) (hd : decode cc pc = .ok (.astore_n 1, 1)) (hq : pc + 1 = q) (hn : 1 < nL) (hok : lvok (o0 :: ow :: lo) 1 = true) (k : GW K nL E wd A q (o0 :: some (.ref x) :: lo) st h) : GW K nL E wd A pc (o0 :: ow :: lo) (.ref x :: st) h := by
  subst hq
  obtain ⟨p, l, e, R, s, m, args, below, meth, c, cells, slots, Q⟩ := K
  obtain ⟨hx, hb, hml, hret, hlk, hown, hts, hN, hK, hA, hZ, hdf, hdl, hcc, hcs⟩ := X
  exact fun H locs ls hP hD hS hl => lv_astore_n hx hb hd rfl hl hn rfl (fun ls' hl' => k H locs ls' hP hD hS (lvp_store hl' rfl hok))
theorem P_iinc1 (X : Cx K own cc nL ret E A d) {o0 : Option Value} {x : Int32} {n : Int} (v : Int32) (hv : Int32.ofInt n = v) (q : Nat) (hd : decode cc pc = .ok (.iinc 1 n, 3)) (hq : pc + 3 = q) (hn : 1 < nL) (hok : lvok (o0 :: some (.int x) :: lo) 1 = true) (k : GW K nL E wd A q (o0 :: some (.int (x + v)) :: lo) st h) : GW K nL E wd A pc (o0 :: some (.int x) :: lo) st h := by
  subst hq
  obtain ⟨p, l, e, R, s, m, args, below, meth, c, cells, slots, Q⟩ := K
  obtain ⟨hx, hb, hml, hret, hlk, hown, hts, hN, hK, hA, hZ, hdf, hdl, hcc, hcs⟩ := X
  intro H locs ls hP hD hS hl
  obtain ⟨kk, hkk⟩ := List.getElem?_of_mem ((lvp_mem (o0 :: some (.int x) :: lo) 0 1 (.int x)).mpr ⟨Nat.zero_le _, rfl⟩)
  exact lv_iinc hx hb hd hl hkk (by rw [hv]) hn rfl (fun ls' hl' => k H locs ls' hP hD hS (lvp_store hl' rfl hok))
theorem P_iload2 (X : Cx K own cc nL ret E A d) {o0 o1 : Option Value} {x : Int32} (q : Nat) (hd : decode cc pc = .ok (.iload_n 2, 1)) (hq : pc + 1 = q) (k : GW K nL E wd A q (o0 :: o1 :: some (.int x) :: lo) (.int x :: st) h) : GW K nL E wd A pc (o0 :: o1 :: some (.int x) :: lo) (st) h := by
  subst hq
  obtain ⟨p, l, e, R, s, m, args, below, meth, c, cells, slots, Q⟩ := K
  obtain ⟨hx, hb, hml, hret, hlk, hown, hts, hN, hK, hA, hZ, hdf, hdl, hcc, hcs⟩ := X
  exact fun H locs ls hP hD hS hl => lv_iload_n hx hb hd rfl (lvp_at hl 2 rfl) (k H locs ls hP hD hS hl)
theorem P_aload2 (X : Cx K own cc nL ret E A d) {o0 o1 : Option Value} {x : Nat} (q : Nat) (hd : decode cc pc = .ok (.aload_n 2, 1)) (hq : pc + 1 = q) (k : GW K nL E wd A q (o0 :: o1 :: some (.ref x) :: lo) (.ref x :: st) h) : GW K nL E wd A pc (o0 :: o1 :: some (.ref x) :: lo) (st) h := by
  subst hq
  obtain ⟨p, l, e, R, s, m, args, below, meth, c, cells, slots, Q⟩ := K
  obtain ⟨hx, hb, hml, hret, hlk, hown, hts, hN, hK, hA, hZ, hdf, hdl, hcc, hcs⟩ := X
  exact fun H locs ls hP hD hS hl => lv_aload_n hx hb hd rfl (lvp_at hl 2 rfl) (k H locs ls hP hD hS hl)
theorem P_lload2 (X : Cx K own cc nL ret E A d) {o0 o1 : Option Value} {x : Int64} (q : Nat) (hd : decode cc pc = .ok (.lload_n 2, 1)) (hq : pc + 1 = q) (k : GW K nL E wd A q (o0 :: o1 :: some (.long x) :: lo) (.long x :: st) h) : GW K nL E wd A pc (o0 :: o1 :: some (.long x) :: lo) (st) h := by
  subst hq
  obtain ⟨p, l, e, R, s, m, args, below, meth, c, cells, slots, Q⟩ := K
  obtain ⟨hx, hb, hml, hret, hlk, hown, hts, hN, hK, hA, hZ, hdf, hdl, hcc, hcs⟩ := X
  exact fun H locs ls hP hD hS hl => lv_lload_n hx hb hd rfl (lvp_at hl 2 rfl) (k H locs ls hP hD hS hl)
theorem P_istore2 (X : Cx K own cc nL ret E A d) {o0 o1 : Option Value} {ow : Option Value} {x : Int32} (q : Nat) (hd : decode cc pc = .ok (.istore_n 2, 1)) (hq : pc + 1 = q) (hn : 2 < nL) (hok : lvok (o0 :: o1 :: ow :: lo) 2 = true) (k : GW K nL E wd A q (o0 :: o1 :: some (.int x) :: lo) st h) : GW K nL E wd A pc (o0 :: o1 :: ow :: lo) (.int x :: st) h := by
  subst hq
  obtain ⟨p, l, e, R, s, m, args, below, meth, c, cells, slots, Q⟩ := K
  obtain ⟨hx, hb, hml, hret, hlk, hown, hts, hN, hK, hA, hZ, hdf, hdl, hcc, hcs⟩ := X
  exact fun H locs ls hP hD hS hl => lv_istore_n hx hb hd rfl hl hn rfl (fun ls' hl' => k H locs ls' hP hD hS (lvp_store hl' rfl hok))
theorem P_astore2 (X : Cx K own cc nL ret E A d) {o0 o1 : Option Value} {ow : Option Value} {x : Nat} (q : Nat) (hd : decode cc pc = .ok (.astore_n 2, 1)) (hq : pc + 1 = q) (hn : 2 < nL) (hok : lvok (o0 :: o1 :: ow :: lo) 2 = true) (k : GW K nL E wd A q (o0 :: o1 :: some (.ref x) :: lo) st h) : GW K nL E wd A pc (o0 :: o1 :: ow :: lo) (.ref x :: st) h := by
  subst hq
  obtain ⟨p, l, e, R, s, m, args, below, meth, c, cells, slots, Q⟩ := K
  obtain ⟨hx, hb, hml, hret, hlk, hown, hts, hN, hK, hA, hZ, hdf, hdl, hcc, hcs⟩ := X
  exact fun H locs ls hP hD hS hl => lv_astore_n hx hb hd rfl hl hn rfl (fun ls' hl' => k H locs ls' hP hD hS (lvp_store hl' rfl hok))
theorem P_iinc2 (X : Cx K own cc nL ret E A d) {o0 o1 : Option Value} {x : Int32} {n : Int} (v : Int32) (hv : Int32.ofInt n = v) (q : Nat) (hd : decode cc pc = .ok (.iinc 2 n, 3)) (hq : pc + 3 = q) (hn : 2 < nL) (hok : lvok (o0 :: o1 :: some (.int x) :: lo) 2 = true) (k : GW K nL E wd A q (o0 :: o1 :: some (.int (x + v)) :: lo) st h) : GW K nL E wd A pc (o0 :: o1 :: some (.int x) :: lo) st h := by
  subst hq
  obtain ⟨p, l, e, R, s, m, args, below, meth, c, cells, slots, Q⟩ := K
  obtain ⟨hx, hb, hml, hret, hlk, hown, hts, hN, hK, hA, hZ, hdf, hdl, hcc, hcs⟩ := X
  intro H locs ls hP hD hS hl
  obtain ⟨kk, hkk⟩ := List.getElem?_of_mem ((lvp_mem (o0 :: o1 :: some (.int x) :: lo) 0 2 (.int x)).mpr ⟨Nat.zero_le _, rfl⟩)
  exact lv_iinc hx hb hd hl hkk (by rw [hv]) hn rfl (fun ls' hl' => k H locs ls' hP hD hS (lvp_store hl' rfl hok))
theorem P_iload3 (X : Cx K own cc nL ret E A d) {o0 o1 o2 : Option Value} {x : Int32} (q : Nat) (hd : decode cc pc = .ok (.iload_n 3, 1)) (hq : pc + 1 = q) (k : GW K nL E wd A q (o0 :: o1 :: o2 :: some (.int x) :: lo) (.int x :: st) h) : GW K nL E wd A pc (o0 :: o1 :: o2 :: some (.int x) :: lo) (st) h := by
  subst hq
  obtain ⟨p, l, e, R, s, m, args, below, meth, c, cells, slots, Q⟩ := K
  obtain ⟨hx, hb, hml, hret, hlk, hown, hts, hN, hK, hA, hZ, hdf, hdl, hcc, hcs⟩ := X
  exact fun H locs ls hP hD hS hl => lv_iload_n hx hb hd rfl (lvp_at hl 3 rfl) (k H locs ls hP hD hS hl)
theorem P_aload3 (X : Cx K own cc nL ret E A d) {o0 o1 o2 : Option Value} {x : Nat} (q : Nat) (hd : decode cc pc = .ok (.aload_n 3, 1)) (hq : pc + 1 = q) (k : GW K nL E wd A q (o0 :: o1 :: o2 :: some (.ref x) :: lo) (.ref x :: st) h) : GW K nL E wd A pc (o0 :: o1 :: o2 :: some (.ref x) :: lo) (st) h := by
  subst hq
  obtain ⟨p, l, e, R, s, m, args, below, meth, c, cells, slots, Q⟩ := K
  obtain ⟨hx, hb, hml, hret, hlk, hown, hts, hN, hK, hA, hZ, hdf, hdl, hcc, hcs⟩ := X
  exact fun H locs ls hP hD hS hl => lv_aload_n hx hb hd rfl (lvp_at hl 3 rfl) (k H locs ls hP hD hS hl)
theorem P_lload3 (X : Cx K own cc nL ret E A d) {o0 o1 o2 : Option Value} {x : Int64} (q : Nat) (hd : decode cc pc = .ok (.lload_n 3, 1)) (hq : pc + 1 = q) (k : GW K nL E wd A q (o0 :: o1 :: o2 :: some (.long x) :: lo) (.long x :: st) h) : GW K nL E wd A pc (o0 :: o1 :: o2 :: some (.long x) :: lo) (st) h := by
  subst hq
  obtain ⟨p, l, e, R, s, m, args, below, meth, c, cells, slots, Q⟩ := K
  obtain ⟨hx, hb, hml, hret, hlk, hown, hts, hN, hK, hA, hZ, hdf, hdl, hcc, hcs⟩ := X
  exact fun H locs ls hP hD hS hl => lv_lload_n hx hb hd rfl (lvp_at hl 3 rfl) (k H locs ls hP hD hS hl)
theorem P_istore3 (X : Cx K own cc nL ret E A d) {o0 o1 o2 : Option Value} {ow : Option Value} {x : Int32} (q : Nat) (hd : decode cc pc = .ok (.istore_n 3, 1)) (hq : pc + 1 = q) (hn : 3 < nL) (hok : lvok (o0 :: o1 :: o2 :: ow :: lo) 3 = true) (k : GW K nL E wd A q (o0 :: o1 :: o2 :: some (.int x) :: lo) st h) : GW K nL E wd A pc (o0 :: o1 :: o2 :: ow :: lo) (.int x :: st) h := by
  subst hq
  obtain ⟨p, l, e, R, s, m, args, below, meth, c, cells, slots, Q⟩ := K
  obtain ⟨hx, hb, hml, hret, hlk, hown, hts, hN, hK, hA, hZ, hdf, hdl, hcc, hcs⟩ := X
  exact fun H locs ls hP hD hS hl => lv_istore_n hx hb hd rfl hl hn rfl (fun ls' hl' => k H locs ls' hP hD hS (lvp_store hl' rfl hok))
theorem P_astore3 (X : Cx K own cc nL ret E A d) {o0 o1 o2 : Option Value} {ow : Option Value} {x : Nat} (q : Nat) (hd : decode cc pc = .ok (.astore_n 3, 1)) (hq : pc + 1 = q) (hn : 3 < nL) (hok : lvok (o0 :: o1 :: o2 :: ow :: lo) 3 = true) (k : GW K nL E wd A q (o0 :: o1 :: o2 :: some (.ref x) :: lo) st h) : GW K nL E wd A pc (o0 :: o1 :: o2 :: ow :: lo) (.ref x :: st) h := by
  subst hq
  obtain ⟨p, l, e, R, s, m, args, below, meth, c, cells, slots, Q⟩ := K
  obtain ⟨hx, hb, hml, hret, hlk, hown, hts, hN, hK, hA, hZ, hdf, hdl, hcc, hcs⟩ := X
  exact fun H locs ls hP hD hS hl => lv_astore_n hx hb hd rfl hl hn rfl (fun ls' hl' => k H locs ls' hP hD hS (lvp_store hl' rfl hok))
theorem P_iinc3 (X : Cx K own cc nL ret E A d) {o0 o1 o2 : Option Value} {x : Int32} {n : Int} (v : Int32) (hv : Int32.ofInt n = v) (q : Nat) (hd : decode cc pc = .ok (.iinc 3 n, 3)) (hq : pc + 3 = q) (hn : 3 < nL) (hok : lvok (o0 :: o1 :: o2 :: some (.int x) :: lo) 3 = true) (k : GW K nL E wd A q (o0 :: o1 :: o2 :: some (.int (x + v)) :: lo) st h) : GW K nL E wd A pc (o0 :: o1 :: o2 :: some (.int x) :: lo) st h := by
  subst hq
  obtain ⟨p, l, e, R, s, m, args, below, meth, c, cells, slots, Q⟩ := K
  obtain ⟨hx, hb, hml, hret, hlk, hown, hts, hN, hK, hA, hZ, hdf, hdl, hcc, hcs⟩ := X
  intro H locs ls hP hD hS hl
  obtain ⟨kk, hkk⟩ := List.getElem?_of_mem ((lvp_mem (o0 :: o1 :: o2 :: some (.int x) :: lo) 0 3 (.int x)).mpr ⟨Nat.zero_le _, rfl⟩)
  exact lv_iinc hx hb hd hl hkk (by rw [hv]) hn rfl (fun ls' hl' => k H locs ls' hP hD hS (lvp_store hl' rfl hok))
theorem P_iload4 (X : Cx K own cc nL ret E A d) {o0 o1 o2 o3 : Option Value} {x : Int32} (q : Nat) (hd : decode cc pc = .ok (.iload 4, 2)) (hq : pc + 2 = q) (k : GW K nL E wd A q (o0 :: o1 :: o2 :: o3 :: some (.int x) :: lo) (.int x :: st) h) : GW K nL E wd A pc (o0 :: o1 :: o2 :: o3 :: some (.int x) :: lo) (st) h := by
  subst hq
  obtain ⟨p, l, e, R, s, m, args, below, meth, c, cells, slots, Q⟩ := K
  obtain ⟨hx, hb, hml, hret, hlk, hown, hts, hN, hK, hA, hZ, hdf, hdl, hcc, hcs⟩ := X
  exact fun H locs ls hP hD hS hl => lv_iload hx hb hd (lvp_at hl 4 rfl) (k H locs ls hP hD hS hl)
theorem P_aload4 (X : Cx K own cc nL ret E A d) {o0 o1 o2 o3 : Option Value} {x : Nat} (q : Nat) (hd : decode cc pc = .ok (.aload 4, 2)) (hq : pc + 2 = q) (k : GW K nL E wd A q (o0 :: o1 :: o2 :: o3 :: some (.ref x) :: lo) (.ref x :: st) h) : GW K nL E wd A pc (o0 :: o1 :: o2 :: o3 :: some (.ref x) :: lo) (st) h := by
  subst hq
  obtain ⟨p, l, e, R, s, m, args, below, meth, c, cells, slots, Q⟩ := K
  obtain ⟨hx, hb, hml, hret, hlk, hown, hts, hN, hK, hA, hZ, hdf, hdl, hcc, hcs⟩ := X
  exact fun H locs ls hP hD hS hl => lv_aload hx hb hd (lvp_at hl 4 rfl) (k H locs ls hP hD hS hl)
theorem P_istore4 (X : Cx K own cc nL ret E A d) {o0 o1 o2 o3 : Option Value} {ow : Option Value} {x : Int32} (q : Nat) (hd : decode cc pc = .ok (.istore 4, 2)) (hq : pc + 2 = q) (hn : 4 < nL) (hok : lvok (o0 :: o1 :: o2 :: o3 :: ow :: lo) 4 = true) (k : GW K nL E wd A q (o0 :: o1 :: o2 :: o3 :: some (.int x) :: lo) st h) : GW K nL E wd A pc (o0 :: o1 :: o2 :: o3 :: ow :: lo) (.int x :: st) h := by
  subst hq
  obtain ⟨p, l, e, R, s, m, args, below, meth, c, cells, slots, Q⟩ := K
  obtain ⟨hx, hb, hml, hret, hlk, hown, hts, hN, hK, hA, hZ, hdf, hdl, hcc, hcs⟩ := X
  exact fun H locs ls hP hD hS hl => lv_istore hx hb hd hl hn rfl (fun ls' hl' => k H locs ls' hP hD hS (lvp_store hl' rfl hok))
theorem P_astore4 (X : Cx K own cc nL ret E A d) {o0 o1 o2 o3 : Option Value} {ow : Option Value} {x : Nat} (q : Nat) (hd : decode cc pc = .ok (.astore 4, 2)) (hq : pc + 2 = q) (hn : 4 < nL) (hok : lvok (o0 :: o1 :: o2 :: o3 :: ow :: lo) 4 = true) (k : GW K nL E wd A q (o0 :: o1 :: o2 :: o3 :: some (.ref x) :: lo) st h) : GW K nL E wd A pc (o0 :: o1 :: o2 :: o3 :: ow :: lo) (.ref x :: st) h := by
  subst hq
  obtain ⟨p, l, e, R, s, m, args, below, meth, c, cells, slots, Q⟩ := K
  obtain ⟨hx, hb, hml, hret, hlk, hown, hts, hN, hK, hA, hZ, hdf, hdl, hcc, hcs⟩ := X
  exact fun H locs ls hP hD hS hl => lv_astore hx hb hd hl hn rfl (fun ls' hl' => k H locs ls' hP hD hS (lvp_store hl' rfl hok))
theorem P_iinc4 (X : Cx K own cc nL ret E A d) {o0 o1 o2 o3 : Option Value} {x : Int32} {n : Int} (v : Int32) (hv : Int32.ofInt n = v) (q : Nat) (hd : decode cc pc = .ok (.iinc 4 n, 3)) (hq : pc + 3 = q) (hn : 4 < nL) (hok : lvok (o0 :: o1 :: o2 :: o3 :: some (.int x) :: lo) 4 = true) (k : GW K nL E wd A q (o0 :: o1 :: o2 :: o3 :: some (.int (x + v)) :: lo) st h) : GW K nL E wd A pc (o0 :: o1 :: o2 :: o3 :: some (.int x) :: lo) st h := by
  subst hq
  obtain ⟨p, l, e, R, s, m, args, below, meth, c, cells, slots, Q⟩ := K
  obtain ⟨hx, hb, hml, hret, hlk, hown, hts, hN, hK, hA, hZ, hdf, hdl, hcc, hcs⟩ := X
  intro H locs ls hP hD hS hl
  obtain ⟨kk, hkk⟩ := List.getElem?_of_mem ((lvp_mem (o0 :: o1 :: o2 :: o3 :: some (.int x) :: lo) 0 4 (.int x)).mpr ⟨Nat.zero_le _, rfl⟩)
  exact lv_iinc hx hb hd hl hkk (by rw [hv]) hn rfl (fun ls' hl' => k H locs ls' hP hD hS (lvp_store hl' rfl hok))
theorem P_iload5 (X : Cx K own cc nL ret E A d) {o0 o1 o2 o3 o4 : Option Value} {x : Int32} (q : Nat) (hd : decode cc pc = .ok (.iload 5, 2)) (hq : pc + 2 = q) (k : GW K nL E wd A q (o0 :: o1 :: o2 :: o3 :: o4 :: some (.int x) :: lo) (.int x :: st) h) : GW K nL E wd A pc (o0 :: o1 :: o2 :: o3 :: o4 :: some (.int x) :: lo) (st) h := by
  subst hq
  obtain ⟨p, l, e, R, s, m, args, below, meth, c, cells, slots, Q⟩ := K
  obtain ⟨hx, hb, hml, hret, hlk, hown, hts, hN, hK, hA, hZ, hdf, hdl, hcc, hcs⟩ := X
  exact fun H locs ls hP hD hS hl => lv_iload hx hb hd (lvp_at hl 5 rfl) (k H locs ls hP hD hS hl)
theorem P_aload5 (X : Cx K own cc nL ret E A d) {o0 o1 o2 o3 o4 : Option Value} {x : Nat} (q : Nat) (hd : decode cc pc = .ok (.aload 5, 2)) (hq : pc + 2 = q) (k : GW K nL E wd A q (o0 :: o1 :: o2 :: o3 :: o4 :: some (.ref x) :: lo) (.ref x :: st) h) : GW K nL E wd A pc (o0 :: o1 :: o2 :: o3 :: o4 :: some (.ref x) :: lo) (st) h := by
  subst hq
  obtain ⟨p, l, e, R, s, m, args, below, meth, c, cells, slots, Q⟩ := K
  obtain ⟨hx, hb, hml, hret, hlk, hown, hts, hN, hK, hA, hZ, hdf, hdl, hcc, hcs⟩ := X
  exact fun H locs ls hP hD hS hl => lv_aload hx hb hd (lvp_at hl 5 rfl) (k H locs ls hP hD hS hl)
theorem P_istore5 (X : Cx K own cc nL ret E A d) {o0 o1 o2 o3 o4 : Option Value} {ow : Option Value} {x : Int32} (q : Nat) (hd : decode cc pc = .ok (.istore 5, 2)) (hq : pc + 2 = q) (hn : 5 < nL) (hok : lvok (o0 :: o1 :: o2 :: o3 :: o4 :: ow :: lo) 5 = true) (k : GW K nL E wd A q (o0 :: o1 :: o2 :: o3 :: o4 :: some (.int x) :: lo) st h) : GW K nL E wd A pc (o0 :: o1 :: o2 :: o3 :: o4 :: ow :: lo) (.int x :: st) h := by
  subst hq
  obtain ⟨p, l, e, R, s, m, args, below, meth, c, cells, slots, Q⟩ := K
  obtain ⟨hx, hb, hml, hret, hlk, hown, hts, hN, hK, hA, hZ, hdf, hdl, hcc, hcs⟩ := X
  exact fun H locs ls hP hD hS hl => lv_istore hx hb hd hl hn rfl (fun ls' hl' => k H locs ls' hP hD hS (lvp_store hl' rfl hok))
theorem P_astore5 (X : Cx K own cc nL ret E A d) {o0 o1 o2 o3 o4 : Option Value} {ow : Option Value} {x : Nat} (q : Nat) (hd : decode cc pc = .ok (.astore 5, 2)) (hq : pc + 2 = q) (hn : 5 < nL) (hok : lvok (o0 :: o1 :: o2 :: o3 :: o4 :: ow :: lo) 5 = true) (k : GW K nL E wd A q (o0 :: o1 :: o2 :: o3 :: o4 :: some (.ref x) :: lo) st h) : GW K nL E wd A pc (o0 :: o1 :: o2 :: o3 :: o4 :: ow :: lo) (.ref x :: st) h := by
  subst hq
  obtain ⟨p, l, e, R, s, m, args, below, meth, c, cells, slots, Q⟩ := K
  obtain ⟨hx, hb, hml, hret, hlk, hown, hts, hN, hK, hA, hZ, hdf, hdl, hcc, hcs⟩ := X
  exact fun H locs ls hP hD hS hl => lv_astore hx hb hd hl hn rfl (fun ls' hl' => k H locs ls' hP hD hS (lvp_store hl' rfl hok))
theorem P_iinc5 (X : Cx K own cc nL ret E A d) {o0 o1 o2 o3 o4 : Option Value} {x : Int32} {n : Int} (v : Int32) (hv : Int32.ofInt n = v) (q : Nat) (hd : decode cc pc = .ok (.iinc 5 n, 3)) (hq : pc + 3 = q) (hn : 5 < nL) (hok : lvok (o0 :: o1 :: o2 :: o3 :: o4 :: some (.int x) :: lo) 5 = true) (k : GW K nL E wd A q (o0 :: o1 :: o2 :: o3 :: o4 :: some (.int (x + v)) :: lo) st h) : GW K nL E wd A pc (o0 :: o1 :: o2 :: o3 :: o4 :: some (.int x) :: lo) st h := by
  subst hq
  obtain ⟨p, l, e, R, s, m, args, below, meth, c, cells, slots, Q⟩ := K
  obtain ⟨hx, hb, hml, hret, hlk, hown, hts, hN, hK, hA, hZ, hdf, hdl, hcc, hcs⟩ := X
  intro H locs ls hP hD hS hl
  obtain ⟨kk, hkk⟩ := List.getElem?_of_mem ((lvp_mem (o0 :: o1 :: o2 :: o3 :: o4 :: some (.int x) :: lo) 0 5 (.int x)).mpr ⟨Nat.zero_le _, rfl⟩)
  exact lv_iinc hx hb hd hl hkk (by rw [hv]) hn rfl (fun ls' hl' => k H locs ls' hP hD hS (lvp_store hl' rfl hok))
theorem P_iload6 (X : Cx K own cc nL ret E A d) {o0 o1 o2 o3 o4 o5 : Option Value} {x : Int32} (q : Nat) (hd : decode cc pc = .ok (.iload 6, 2)) (hq : pc + 2 = q) (k : GW K nL E wd A q (o0 :: o1 :: o2 :: o3 :: o4 :: o5 :: some (.int x) :: lo) (.int x :: st) h) : GW K nL E wd A pc (o0 :: o1 :: o2 :: o3 :: o4 :: o5 :: some (.int x) :: lo) (st) h := by
  subst hq
  obtain ⟨p, l, e, R, s, m, args, below, meth, c, cells, slots, Q⟩ := K
  obtain ⟨hx, hb, hml, hret, hlk, hown, hts, hN, hK, hA, hZ, hdf, hdl, hcc, hcs⟩ := X
  exact fun H locs ls hP hD hS hl => lv_iload hx hb hd (lvp_at hl 6 rfl) (k H locs ls hP hD hS hl)
theorem P_aload6 (X : Cx K own cc nL ret E A d) {o0 o1 o2 o3 o4 o5 : Option Value} {x : Nat} (q : Nat) (hd : decode cc pc = .ok (.aload 6, 2)) (hq : pc + 2 = q) (k : GW K nL E wd A q (o0 :: o1 :: o2 :: o3 :: o4 :: o5 :: some (.ref x) :: lo) (.ref x :: st) h) : GW K nL E wd A pc (o0 :: o1 :: o2 :: o3 :: o4 :: o5 :: some (.ref x) :: lo) (st) h := by
  subst hq
  obtain ⟨p, l, e, R, s, m, args, below, meth, c, cells, slots, Q⟩ := K
  obtain ⟨hx, hb, hml, hret, hlk, hown, hts, hN, hK, hA, hZ, hdf, hdl, hcc, hcs⟩ := X
  exact fun H locs ls hP hD hS hl => lv_aload hx hb hd (lvp_at hl 6 rfl) (k H locs ls hP hD hS hl)
theorem P_istore6 (X : Cx K own cc nL ret E A d) {o0 o1 o2 o3 o4 o5 : Option Value} {ow : Option Value} {x : Int32} (q : Nat) (hd : decode cc pc = .ok (.istore 6, 2)) (hq : pc + 2 = q) (hn : 6 < nL) (hok : lvok (o0 :: o1 :: o2 :: o3 :: o4 :: o5 :: ow :: lo) 6 = true) (k : GW K nL E wd A q (o0 :: o1 :: o2 :: o3 :: o4 :: o5 :: some (.int x) :: lo) st h) : GW K nL E wd A pc (o0 :: o1 :: o2 :: o3 :: o4 :: o5 :: ow :: lo) (.int x :: st) h := by
  subst hq
  obtain ⟨p, l, e, R, s, m, args, below, meth, c, cells, slots, Q⟩ := K
  obtain ⟨hx, hb, hml, hret, hlk, hown, hts, hN, hK, hA, hZ, hdf, hdl, hcc, hcs⟩ := X
  exact fun H locs ls hP hD hS hl => lv_istore hx hb hd hl hn rfl (fun ls' hl' => k H locs ls' hP hD hS (lvp_store hl' rfl hok))
theorem P_astore6 (X : Cx K own cc nL ret E A d) {o0 o1 o2 o3 o4 o5 : Option Value} {ow : Option Value} {x : Nat} (q : Nat) (hd : decode cc pc = .ok (.astore 6, 2)) (hq : pc + 2 = q) (hn : 6 < nL) (hok : lvok (o0 :: o1 :: o2 :: o3 :: o4 :: o5 :: ow :: lo) 6 = true) (k : GW K nL E wd A q (o0 :: o1 :: o2 :: o3 :: o4 :: o5 :: some (.ref x) :: lo) st h) : GW K nL E wd A pc (o0 :: o1 :: o2 :: o3 :: o4 :: o5 :: ow :: lo) (.ref x :: st) h := by
  subst hq
  obtain ⟨p, l, e, R, s, m, args, below, meth, c, cells, slots, Q⟩ := K
  obtain ⟨hx, hb, hml, hret, hlk, hown, hts, hN, hK, hA, hZ, hdf, hdl, hcc, hcs⟩ := X
  exact fun H locs ls hP hD hS hl => lv_astore hx hb hd hl hn rfl (fun ls' hl' => k H locs ls' hP hD hS (lvp_store hl' rfl hok))
theorem P_iinc6 (X : Cx K own cc nL ret E A d) {o0 o1 o2 o3 o4 o5 : Option Value} {x : Int32} {n : Int} (v : Int32) (hv : Int32.ofInt n = v) (q : Nat) (hd : decode cc pc = .ok (.iinc 6 n, 3)) (hq : pc + 3 = q) (hn : 6 < nL) (hok : lvok (o0 :: o1 :: o2 :: o3 :: o4 :: o5 :: some (.int x) :: lo) 6 = true) (k : GW K nL E wd A q (o0 :: o1 :: o2 :: o3 :: o4 :: o5 :: some (.int (x + v)) :: lo) st h) : GW K nL E wd A pc (o0 :: o1 :: o2 :: o3 :: o4 :: o5 :: some (.int x) :: lo) st h := by
  subst hq
  obtain ⟨p, l, e, R, s, m, args, below, meth, c, cells, slots, Q⟩ := K
  obtain ⟨hx, hb, hml, hret, hlk, hown, hts, hN, hK, hA, hZ, hdf, hdl, hcc, hcs⟩ := X
  intro H locs ls hP hD hS hl
  obtain ⟨kk, hkk⟩ := List.getElem?_of_mem ((lvp_mem (o0 :: o1 :: o2 :: o3 :: o4 :: o5 :: some (.int x) :: lo) 0 6 (.int x)).mpr ⟨Nat.zero_le _, rfl⟩)
  exact lv_iinc hx hb hd hl hkk (by rw [hv]) hn rfl (fun ls' hl' => k H locs ls' hP hD hS (lvp_store hl' rfl hok))
theorem P_iload7 (X : Cx K own cc nL ret E A d) {o0 o1 o2 o3 o4 o5 o6 : Option Value} {x : Int32} (q : Nat) (hd : decode cc pc = .ok (.iload 7, 2)) (hq : pc + 2 = q) (k : GW K nL E wd A q (o0 :: o1 :: o2 :: o3 :: o4 :: o5 :: o6 :: some (.int x) :: lo) (.int x :: st) h) : GW K nL E wd A pc (o0 :: o1 :: o2 :: o3 :: o4 :: o5 :: o6 :: some (.int x) :: lo) (st) h := by
  subst hq
  obtain ⟨p, l, e, R, s, m, args, below, meth, c, cells, slots, Q⟩ := K
  obtain ⟨hx, hb, hml, hret, hlk, hown, hts, hN, hK, hA, hZ, hdf, hdl, hcc, hcs⟩ := X
  exact fun H locs ls hP hD hS hl => lv_iload hx hb hd (lvp_at hl 7 rfl) (k H locs ls hP hD hS hl)
theorem P_aload7 (X : Cx K own cc nL ret E A d) {o0 o1 o2 o3 o4 o5 o6 : Option Value} {x : Nat} (q : Nat) (hd : decode cc pc = .ok (.aload 7, 2)) (hq : pc + 2 = q) (k : GW K nL E wd A q (o0 :: o1 :: o2 :: o3 :: o4 :: o5 :: o6 :: some (.ref x) :: lo) (.ref x :: st) h) : GW K nL E wd A pc (o0 :: o1 :: o2 :: o3 :: o4 :: o5 :: o6 :: some (.ref x) :: lo) (st) h := by
  subst hq
  obtain ⟨p, l, e, R, s, m, args, below, meth, c, cells, slots, Q⟩ := K
  obtain ⟨hx, hb, hml, hret, hlk, hown, hts, hN, hK, hA, hZ, hdf, hdl, hcc, hcs⟩ := X
  exact fun H locs ls hP hD hS hl => lv_aload hx hb hd (lvp_at hl 7 rfl) (k H locs ls hP hD hS hl)
theorem P_istore7 (X : Cx K own cc nL ret E A d) {o0 o1 o2 o3 o4 o5 o6 : Option Value} {ow : Option Value} {x : Int32} (q : Nat) (hd : decode cc pc = .ok (.istore 7, 2)) (hq : pc + 2 = q) (hn : 7 < nL) (hok : lvok (o0 :: o1 :: o2 :: o3 :: o4 :: o5 :: o6 :: ow :: lo) 7 = true) (k : GW K nL E wd A q (o0 :: o1 :: o2 :: o3 :: o4 :: o5 :: o6 :: some (.int x) :: lo) st h) : GW K nL E wd A pc (o0 :: o1 :: o2 :: o3 :: o4 :: o5 :: o6 :: ow :: lo) (.int x :: st) h := by
  subst hq
  obtain ⟨p, l, e, R, s, m, args, below, meth, c, cells, slots, Q⟩ := K
  obtain ⟨hx, hb, hml, hret, hlk, hown, hts, hN, hK, hA, hZ, hdf, hdl, hcc, hcs⟩ := X
  exact fun H locs ls hP hD hS hl => lv_istore hx hb hd hl hn rfl (fun ls' hl' => k H locs ls' hP hD hS (lvp_store hl' rfl hok))
theorem P_astore7 (X : Cx K own cc nL ret E A d) {o0 o1 o2 o3 o4 o5 o6 : Option Value} {ow : Option Value} {x : Nat} (q : Nat) (hd : decode cc pc = .ok (.astore 7, 2)) (hq : pc + 2 = q) (hn : 7 < nL) (hok : lvok (o0 :: o1 :: o2 :: o3 :: o4 :: o5 :: o6 :: ow :: lo) 7 = true) (k : GW K nL E wd A q (o0 :: o1 :: o2 :: o3 :: o4 :: o5 :: o6 :: some (.ref x) :: lo) st h) : GW K nL E wd A pc (o0 :: o1 :: o2 :: o3 :: o4 :: o5 :: o6 :: ow :: lo) (.ref x :: st) h := by
  subst hq
  obtain ⟨p, l, e, R, s, m, args, below, meth, c, cells, slots, Q⟩ := K
  obtain ⟨hx, hb, hml, hret, hlk, hown, hts, hN, hK, hA, hZ, hdf, hdl, hcc, hcs⟩ := X
  exact fun H locs ls hP hD hS hl => lv_astore hx hb hd hl hn rfl (fun ls' hl' => k H locs ls' hP hD hS (lvp_store hl' rfl hok))
theorem P_iinc7 (X : Cx K own cc nL ret E A d) {o0 o1 o2 o3 o4 o5 o6 : Option Value} {x : Int32} {n : Int} (v : Int32) (hv : Int32.ofInt n = v) (q : Nat) (hd : decode cc pc = .ok (.iinc 7 n, 3)) (hq : pc + 3 = q) (hn : 7 < nL) (hok : lvok (o0 :: o1 :: o2 :: o3 :: o4 :: o5 :: o6 :: some (.int x) :: lo) 7 = true) (k : GW K nL E wd A q (o0 :: o1 :: o2 :: o3 :: o4 :: o5 :: o6 :: some (.int (x + v)) :: lo) st h) : GW K nL E wd A pc (o0 :: o1 :: o2 :: o3 :: o4 :: o5 :: o6 :: some (.int x) :: lo) st h := by
  subst hq
  obtain ⟨p, l, e, R, s, m, args, below, meth, c, cells, slots, Q⟩ := K
  obtain ⟨hx, hb, hml, hret, hlk, hown, hts, hN, hK, hA, hZ, hdf, hdl, hcc, hcs⟩ := X
  intro H locs ls hP hD hS hl
  obtain ⟨kk, hkk⟩ := List.getElem?_of_mem ((lvp_mem (o0 :: o1 :: o2 :: o3 :: o4 :: o5 :: o6 :: some (.int x) :: lo) 0 7 (.int x)).mpr ⟨Nat.zero_le _, rfl⟩)
  exact lv_iinc hx hb hd hl hkk (by rw [hv]) hn rfl (fun ls' hl' => k H locs ls' hP hD hS (lvp_store hl' rfl hok))
theorem P_iload8 (X : Cx K own cc nL ret E A d) {o0 o1 o2 o3 o4 o5 o6 o7 : Option Value} {x : Int32} (q : Nat) (hd : decode cc pc = .ok (.iload 8, 2)) (hq : pc + 2 = q) (k : GW K nL E wd A q (o0 :: o1 :: o2 :: o3 :: o4 :: o5 :: o6 :: o7 :: some (.int x) :: lo) (.int x :: st) h) : GW K nL E wd A pc (o0 :: o1 :: o2 :: o3 :: o4 :: o5 :: o6 :: o7 :: some (.int x) :: lo) (st) h := by
  subst hq
  obtain ⟨p, l, e, R, s, m, args, below, meth, c, cells, slots, Q⟩ := K
  obtain ⟨hx, hb, hml, hret, hlk, hown, hts, hN, hK, hA, hZ, hdf, hdl, hcc, hcs⟩ := X
  exact fun H locs ls hP hD hS hl => lv_iload hx hb hd (lvp_at hl 8 rfl) (k H locs ls hP hD hS hl)
theorem P_aload8 (X : Cx K own cc nL ret E A d) {o0 o1 o2 o3 o4 o5 o6 o7 : Option Value} {x : Nat} (q : Nat) (hd : decode cc pc = .ok (.aload 8, 2)) (hq : pc + 2 = q) (k : GW K nL E wd A q (o0 :: o1 :: o2 :: o3 :: o4 :: o5 :: o6 :: o7 :: some (.ref x) :: lo) (.ref x :: st) h) : GW K nL E wd A pc (o0 :: o1 :: o2 :: o3 :: o4 :: o5 :: o6 :: o7 :: some (.ref x) :: lo) (st) h := by
  subst hq
  obtain ⟨p, l, e, R, s, m, args, below, meth, c, cells, slots, Q⟩ := K
  obtain ⟨hx, hb, hml, hret, hlk, hown, hts, hN, hK, hA, hZ, hdf, hdl, hcc, hcs⟩ := X
  exact fun H locs ls hP hD hS hl => lv_aload hx hb hd (lvp_at hl 8 rfl) (k H locs ls hP hD hS hl)
theorem P_istore8 (X : Cx K own cc nL ret E A d) {o0 o1 o2 o3 o4 o5 o6 o7 : Option Value} {ow : Option Value} {x : Int32} (q : Nat) (hd : decode cc pc = .ok (.istore 8, 2)) (hq : pc + 2 = q) (hn : 8 < nL) (hok : lvok (o0 :: o1 :: o2 :: o3 :: o4 :: o5 :: o6 :: o7 :: ow :: lo) 8 = true) (k : GW K nL E wd A q (o0 :: o1 :: o2 :: o3 :: o4 :: o5 :: o6 :: o7 :: some (.int x) :: lo) st h) : GW K nL E wd A pc (o0 :: o1 :: o2 :: o3 :: o4 :: o5 :: o6 :: o7 :: ow :: lo) (.int x :: st) h := by
  subst hq
  obtain ⟨p, l, e, R, s, m, args, below, meth, c, cells, slots, Q⟩ := K
  obtain ⟨hx, hb, hml, hret, hlk, hown, hts, hN, hK, hA, hZ, hdf, hdl, hcc, hcs⟩ := X
  exact fun H locs ls hP hD hS hl => lv_istore hx hb hd hl hn rfl (fun ls' hl' => k H locs ls' hP hD hS (lvp_store hl' rfl hok))
theorem P_astore8 (X : Cx K own cc nL ret E A d) {o0 o1 o2 o3 o4 o5 o6 o7 : Option Value} {ow : Option Value} {x : Nat} (q : Nat) (hd : decode cc pc = .ok (.astore 8, 2)) (hq : pc + 2 = q) (hn : 8 < nL) (hok : lvok (o0 :: o1 :: o2 :: o3 :: o4 :: o5 :: o6 :: o7 :: ow :: lo) 8 = true) (k : GW K nL E wd A q (o0 :: o1 :: o2 :: o3 :: o4 :: o5 :: o6 :: o7 :: some (.ref x) :: lo) st h) : GW K nL E wd A pc (o0 :: o1 :: o2 :: o3 :: o4 :: o5 :: o6 :: o7 :: ow :: lo) (.ref x :: st) h := by
  subst hq
  obtain ⟨p, l, e, R, s, m, args, below, meth, c, cells, slots, Q⟩ := K
  obtain ⟨hx, hb, hml, hret, hlk, hown, hts, hN, hK, hA, hZ, hdf, hdl, hcc, hcs⟩ := X
  exact fun H locs ls hP hD hS hl => lv_astore hx hb hd hl hn rfl (fun ls' hl' => k H locs ls' hP hD hS (lvp_store hl' rfl hok))
theorem P_iinc8 (X : Cx K own cc nL ret E A d) {o0 o1 o2 o3 o4 o5 o6 o7 : Option Value} {x : Int32} {n : Int} (v : Int32) (hv : Int32.ofInt n = v) (q : Nat) (hd : decode cc pc = .ok (.iinc 8 n, 3)) (hq : pc + 3 = q) (hn : 8 < nL) (hok : lvok (o0 :: o1 :: o2 :: o3 :: o4 :: o5 :: o6 :: o7 :: some (.int x) :: lo) 8 = true) (k : GW K nL E wd A q (o0 :: o1 :: o2 :: o3 :: o4 :: o5 :: o6 :: o7 :: some (.int (x + v)) :: lo) st h) : GW K nL E wd A pc (o0 :: o1 :: o2 :: o3 :: o4 :: o5 :: o6 :: o7 :: some (.int x) :: lo) st h := by
  subst hq
  obtain ⟨p, l, e, R, s, m, args, below, meth, c, cells, slots, Q⟩ := K
  obtain ⟨hx, hb, hml, hret, hlk, hown, hts, hN, hK, hA, hZ, hdf, hdl, hcc, hcs⟩ := X
  intro H locs ls hP hD hS hl
  obtain ⟨kk, hkk⟩ := List.getElem?_of_mem ((lvp_mem (o0 :: o1 :: o2 :: o3 :: o4 :: o5 :: o6 :: o7 :: some (.int x) :: lo) 0 8 (.int x)).mpr ⟨Nat.zero_le _, rfl⟩)
  exact lv_iinc hx hb hd hl hkk (by rw [hv]) hn rfl (fun ls' hl' => k H locs ls' hP hD hS (lvp_store hl' rfl hok))
theorem P_iload9 (X : Cx K own cc nL ret E A d) {o0 o1 o2 o3 o4 o5 o6 o7 o8 : Option Value} {x : Int32} (q : Nat) (hd : decode cc pc = .ok (.iload 9, 2)) (hq : pc + 2 = q) (k : GW K nL E wd A q (o0 :: o1 :: o2 :: o3 :: o4 :: o5 :: o6 :: o7 :: o8 :: some (.int x) :: lo) (.int x :: st) h) : GW K nL E wd A pc (o0 :: o1 :: o2 :: o3 :: o4 :: o5 :: o6 :: o7 :: o8 :: some (.int x) :: lo) (st) h := by
  subst hq
  obtain ⟨p, l, e, R, s, m, args, below, meth, c, cells, slots, Q⟩ := K
  obtain ⟨hx, hb, hml, hret, hlk, hown, hts, hN, hK, hA, hZ, hdf, hdl, hcc, hcs⟩ := X
  exact fun H locs ls hP hD hS hl => lv_iload hx hb hd (lvp_at hl 9 rfl) (k H locs ls hP hD hS hl)
theorem P_aload9 (X : Cx K own cc nL ret E A d) {o0 o1 o2 o3 o4 o5 o6 o7 o8 : Option Value} {x : Nat} (q : Nat) (hd : decode cc pc = .ok (.aload 9, 2)) (hq : pc + 2 = q) (k : GW K nL E wd A q (o0 :: o1 :: o2 :: o3 :: o4 :: o5 :: o6 :: o7 :: o8 :: some (.ref x) :: lo) (.ref x :: st) h) : GW K nL E wd A pc (o0 :: o1 :: o2 :: o3 :: o4 :: o5 :: o6 :: o7 :: o8 :: some (.ref x) :: lo) (st) h := by
  subst hq
  obtain ⟨p, l, e, R, s, m, args, below, meth, c, cells, slots, Q⟩ := K
  obtain ⟨hx, hb, hml, hret, hlk, hown, hts, hN, hK, hA, hZ, hdf, hdl, hcc, hcs⟩ := X
  exact fun H locs ls hP hD hS hl => lv_aload hx hb hd (lvp_at hl 9 rfl) (k H locs ls hP hD hS hl)
theorem P_istore9 (X : Cx K own cc nL ret E A d) {o0 o1 o2 o3 o4 o5 o6 o7 o8 : Option Value} {ow : Option Value} {x : Int32} (q : Nat) (hd : decode cc pc = .ok (.istore 9, 2)) (hq : pc + 2 = q) (hn : 9 < nL) (hok : lvok (o0 :: o1 :: o2 :: o3 :: o4 :: o5 :: o6 :: o7 :: o8 :: ow :: lo) 9 = true) (k : GW K nL E wd A q (o0 :: o1 :: o2 :: o3 :: o4 :: o5 :: o6 :: o7 :: o8 :: some (.int x) :: lo) st h) : GW K nL E wd A pc (o0 :: o1 :: o2 :: o3 :: o4 :: o5 :: o6 :: o7 :: o8 :: ow :: lo) (.int x :: st) h := by
  subst hq
  obtain ⟨p, l, e, R, s, m, args, below, meth, c, cells, slots, Q⟩ := K
  obtain ⟨hx, hb, hml, hret, hlk, hown, hts, hN, hK, hA, hZ, hdf, hdl, hcc, hcs⟩ := X
  exact fun H locs ls hP hD hS hl => lv_istore hx hb hd hl hn rfl (fun ls' hl' => k H locs ls' hP hD hS (lvp_store hl' rfl hok))
theorem P_astore9 (X : Cx K own cc nL ret E A d) {o0 o1 o2 o3 o4 o5 o6 o7 o8 : Option Value} {ow : Option Value} {x : Nat} (q : Nat) (hd : decode cc pc = .ok (.astore 9, 2)) (hq : pc + 2 = q) (hn : 9 < nL) (hok : lvok (o0 :: o1 :: o2 :: o3 :: o4 :: o5 :: o6 :: o7 :: o8 :: ow :: lo) 9 = true) (k : GW K nL E wd A q (o0 :: o1 :: o2 :: o3 :: o4 :: o5 :: o6 :: o7 :: o8 :: some (.ref x) :: lo) st h) : GW K nL E wd A pc (o0 :: o1 :: o2 :: o3 :: o4 :: o5 :: o6 :: o7 :: o8 :: ow :: lo) (.ref x :: st) h := by
  subst hq
  obtain ⟨p, l, e, R, s, m, args, below, meth, c, cells, slots, Q⟩ := K
  obtain ⟨hx, hb, hml, hret, hlk, hown, hts, hN, hK, hA, hZ, hdf, hdl, hcc, hcs⟩ := X
  exact fun H locs ls hP hD hS hl => lv_astore hx hb hd hl hn rfl (fun ls' hl' => k H locs ls' hP hD hS (lvp_store hl' rfl hok))
theorem P_iinc9 (X : Cx K own cc nL ret E A d) {o0 o1 o2 o3 o4 o5 o6 o7 o8 : Option Value} {x : Int32} {n : Int} (v : Int32) (hv : Int32.ofInt n = v) (q : Nat) (hd : decode cc pc = .ok (.iinc 9 n, 3)) (hq : pc + 3 = q) (hn : 9 < nL) (hok : lvok (o0 :: o1 :: o2 :: o3 :: o4 :: o5 :: o6 :: o7 :: o8 :: some (.int x) :: lo) 9 = true) (k : GW K nL E wd A q (o0 :: o1 :: o2 :: o3 :: o4 :: o5 :: o6 :: o7 :: o8 :: some (.int (x + v)) :: lo) st h) : GW K nL E wd A pc (o0 :: o1 :: o2 :: o3 :: o4 :: o5 :: o6 :: o7 :: o8 :: some (.int x) :: lo) st h := by
  subst hq
  obtain ⟨p, l, e, R, s, m, args, below, meth, c, cells, slots, Q⟩ := K
  obtain ⟨hx, hb, hml, hret, hlk, hown, hts, hN, hK, hA, hZ, hdf, hdl, hcc, hcs⟩ := X
  intro H locs ls hP hD hS hl
  obtain ⟨kk, hkk⟩ := List.getElem?_of_mem ((lvp_mem (o0 :: o1 :: o2 :: o3 :: o4 :: o5 :: o6 :: o7 :: o8 :: some (.int x) :: lo) 0 9 (.int x)).mpr ⟨Nat.zero_le _, rfl⟩)
  exact lv_iinc hx hb hd hl hkk (by rw [hv]) hn rfl (fun ls' hl' => k H locs ls' hP hD hS (lvp_store hl' rfl hok))
theorem P_iload10 (X : Cx K own cc nL ret E A d) {o0 o1 o2 o3 o4 o5 o6 o7 o8 o9 : Option Value} {x : Int32} (q : Nat) (hd : decode cc pc = .ok (.iload 10, 2)) (hq : pc + 2 = q) (k : GW K nL E wd A q (o0 :: o1 :: o2 :: o3 :: o4 :: o5 :: o6 :: o7 :: o8 :: o9 :: some (.int x) :: lo) (.int x :: st) h) : GW K nL E wd A pc (o0 :: o1 :: o2 :: o3 :: o4 :: o5 :: o6 :: o7 :: o8 :: o9 :: some (.int x) :: lo) (st) h := by
  subst hq
  obtain ⟨p, l, e, R, s, m, args, below, meth, c, cells, slots, Q⟩ := K
  obtain ⟨hx, hb, hml, hret, hlk, hown, hts, hN, hK, hA, hZ, hdf, hdl, hcc, hcs⟩ := X
  exact fun H locs ls hP hD hS hl => lv_iload hx hb hd (lvp_at hl 10 rfl) (k H locs ls hP hD hS hl)
theorem P_aload10 (X : Cx K own cc nL ret E A d) {o0 o1 o2 o3 o4 o5 o6 o7 o8 o9 : Option Value} {x : Nat} (q : Nat) (hd : decode cc pc = .ok (.aload 10, 2)) (hq : pc + 2 = q) (k : GW K nL E wd A q (o0 :: o1 :: o2 :: o3 :: o4 :: o5 :: o6 :: o7 :: o8 :: o9 :: some (.ref x) :: lo) (.ref x :: st) h) : GW K nL E wd A pc (o0 :: o1 :: o2 :: o3 :: o4 :: o5 :: o6 :: o7 :: o8 :: o9 :: some (.ref x) :: lo) (st) h := by
  subst hq
  obtain ⟨p, l, e, R, s, m, args, below, meth, c, cells, slots, Q⟩ := K
  obtain ⟨hx, hb, hml, hret, hlk, hown, hts, hN, hK, hA, hZ, hdf, hdl, hcc, hcs⟩ := X
  exact fun H locs ls hP hD hS hl => lv_aload hx hb hd (lvp_at hl 10 rfl) (k H locs ls hP hD hS hl)
theorem P_istore10 (X : Cx K own cc nL ret E A d) {o0 o1 o2 o3 o4 o5 o6 o7 o8 o9 : Option Value} {ow : Option Value} {x : Int32} (q : Nat) (hd : decode cc pc = .ok (.istore 10, 2)) (hq : pc + 2 = q) (hn : 10 < nL) (hok : lvok (o0 :: o1 :: o2 :: o3 :: o4 :: o5 :: o6 :: o7 :: o8 :: o9 :: ow :: lo) 10 = true) (k : GW K nL E wd A q (o0 :: o1 :: o2 :: o3 :: o4 :: o5 :: o6 :: o7 :: o8 :: o9 :: some (.int x) :: lo) st h) : GW K nL E wd A pc (o0 :: o1 :: o2 :: o3 :: o4 :: o5 :: o6 :: o7 :: o8 :: o9 :: ow :: lo) (.int x :: st) h := by
  subst hq
  obtain ⟨p, l, e, R, s, m, args, below, meth, c, cells, slots, Q⟩ := K
  obtain ⟨hx, hb, hml, hret, hlk, hown, hts, hN, hK, hA, hZ, hdf, hdl, hcc, hcs⟩ := X
  exact fun H locs ls hP hD hS hl => lv_istore hx hb hd hl hn rfl (fun ls' hl' => k H locs ls' hP hD hS (lvp_store hl' rfl hok))
theorem P_astore10 (X : Cx K own cc nL ret E A d) {o0 o1 o2 o3 o4 o5 o6 o7 o8 o9 : Option Value} {ow : Option Value} {x : Nat} (q : Nat) (hd : decode cc pc = .ok (.astore 10, 2)) (hq : pc + 2 = q) (hn : 10 < nL) (hok : lvok (o0 :: o1 :: o2 :: o3 :: o4 :: o5 :: o6 :: o7 :: o8 :: o9 :: ow :: lo) 10 = true) (k : GW K nL E wd A q (o0 :: o1 :: o2 :: o3 :: o4 :: o5 :: o6 :: o7 :: o8 :: o9 :: some (.ref x) :: lo) st h) : GW K nL E wd A pc (o0 :: o1 :: o2 :: o3 :: o4 :: o5 :: o6 :: o7 :: o8 :: o9 :: ow :: lo) (.ref x :: st) h := by
  subst hq
  obtain ⟨p, l, e, R, s, m, args, below, meth, c, cells, slots, Q⟩ := K
  obtain ⟨hx, hb, hml, hret, hlk, hown, hts, hN, hK, hA, hZ, hdf, hdl, hcc, hcs⟩ := X
  exact fun H locs ls hP hD hS hl => lv_astore hx hb hd hl hn rfl (fun ls' hl' => k H locs ls' hP hD hS (lvp_store hl' rfl hok))
theorem P_iinc10 (X : Cx K own cc nL ret E A d) {o0 o1 o2 o3 o4 o5 o6 o7 o8 o9 : Option Value} {x : Int32} {n : Int} (v : Int32) (hv : Int32.ofInt n = v) (q : Nat) (hd : decode cc pc = .ok (.iinc 10 n, 3)) (hq : pc + 3 = q) (hn : 10 < nL) (hok : lvok (o0 :: o1 :: o2 :: o3 :: o4 :: o5 :: o6 :: o7 :: o8 :: o9 :: some (.int x) :: lo) 10 = true) (k : GW K nL E wd A q (o0 :: o1 :: o2 :: o3 :: o4 :: o5 :: o6 :: o7 :: o8 :: o9 :: some (.int (x + v)) :: lo) st h) : GW K nL E wd A pc (o0 :: o1 :: o2 :: o3 :: o4 :: o5 :: o6 :: o7 :: o8 :: o9 :: some (.int x) :: lo) st h := by
  subst hq
  obtain ⟨p, l, e, R, s, m, args, below, meth, c, cells, slots, Q⟩ := K
  obtain ⟨hx, hb, hml, hret, hlk, hown, hts, hN, hK, hA, hZ, hdf, hdl, hcc, hcs⟩ := X
  intro H locs ls hP hD hS hl
  obtain ⟨kk, hkk⟩ := List.getElem?_of_mem ((lvp_mem (o0 :: o1 :: o2 :: o3 :: o4 :: o5 :: o6 :: o7 :: o8 :: o9 :: some (.int x) :: lo) 0 10 (.int x)).mpr ⟨Nat.zero_le _, rfl⟩)
  exact lv_iinc hx hb hd hl hkk (by rw [hv]) hn rfl (fun ls' hl' => k H locs ls' hP hD hS (lvp_store hl' rfl hok))
theorem P_iload11 (X : Cx K own cc nL ret E A d) {o0 o1 o2 o3 o4 o5 o6 o7 o8 o9 o10 : Option Value} {x : Int32} (q : Nat) (hd : decode cc pc = .ok (.iload 11, 2)) (hq : pc + 2 = q) (k : GW K nL E wd A q (o0 :: o1 :: o2 :: o3 :: o4 :: o5 :: o6 :: o7 :: o8 :: o9 :: o10 :: some (.int x) :: lo) (.int x :: st) h) : GW K nL E wd A pc (o0 :: o1 :: o2 :: o3 :: o4 :: o5 :: o6 :: o7 :: o8 :: o9 :: o10 :: some (.int x) :: lo) (st) h := by
  subst hq
  obtain ⟨p, l, e, R, s, m, args, below, meth, c, cells, slots, Q⟩ := K
  obtain ⟨hx, hb, hml, hret, hlk, hown, hts, hN, hK, hA, hZ, hdf, hdl, hcc, hcs⟩ := X
  exact fun H locs ls hP hD hS hl => lv_iload hx hb hd (lvp_at hl 11 rfl) (k H locs ls hP hD hS hl)
theorem P_aload11 (X : Cx K own cc nL ret E A d) {o0 o1 o2 o3 o4 o5 o6 o7 o8 o9 o10 : Option Value} {x : Nat} (q : Nat) (hd : decode cc pc = .ok (.aload 11, 2)) (hq : pc + 2 = q) (k : GW K nL E wd A q (o0 :: o1 :: o2 :: o3 :: o4 :: o5 :: o6 :: o7 :: o8 :: o9 :: o10 :: some (.ref x) :: lo) (.ref x :: st) h) : GW K nL E wd A pc (o0 :: o1 :: o2 :: o3 :: o4 :: o5 :: o6 :: o7 :: o8 :: o9 :: o10 :: some (.ref x) :: lo) (st) h := by
  subst hq
  obtain ⟨p, l, e, R, s, m, args, below, meth, c, cells, slots, Q⟩ := K
  obtain ⟨hx, hb, hml, hret, hlk, hown, hts, hN, hK, hA, hZ, hdf, hdl, hcc, hcs⟩ := X
  exact fun H locs ls hP hD hS hl => lv_aload hx hb hd (lvp_at hl 11 rfl) (k H locs ls hP hD hS hl)
theorem P_istore11 (X : Cx K own cc nL ret E A d) {o0 o1 o2 o3 o4 o5 o6 o7 o8 o9 o10 : Option Value} {ow : Option Value} {x : Int32} (q : Nat) (hd : decode cc pc = .ok (.istore 11, 2)) (hq : pc + 2 = q) (hn : 11 < nL) (hok : lvok (o0 :: o1 :: o2 :: o3 :: o4 :: o5 :: o6 :: o7 :: o8 :: o9 :: o10 :: ow :: lo) 11 = true) (k : GW K nL E wd A q (o0 :: o1 :: o2 :: o3 :: o4 :: o5 :: o6 :: o7 :: o8 :: o9 :: o10 :: some (.int x) :: lo) st h) : GW K nL E wd A pc (o0 :: o1 :: o2 :: o3 :: o4 :: o5 :: o6 :: o7 :: o8 :: o9 :: o10 :: ow :: lo) (.int x :: st) h := by
  subst hq
  obtain ⟨p, l, e, R, s, m, args, below, meth, c, cells, slots, Q⟩ := K
  obtain ⟨hx, hb, hml, hret, hlk, hown, hts, hN, hK, hA, hZ, hdf, hdl, hcc, hcs⟩ := X
  exact fun H locs ls hP hD hS hl => lv_istore hx hb hd hl hn rfl (fun ls' hl' => k H locs ls' hP hD hS (lvp_store hl' rfl hok))
theorem P_astore11 (X : Cx K own cc nL ret E A d) {o0 o1 o2 o3 o4 o5 o6 o7 o8 o9 o10 : Option Value} {ow : Option Value} {x : Nat} (q : Nat) (hd : decode cc pc = .ok (.astore 11, 2)) (hq : pc + 2 = q) (hn : 11 < nL) (hok : lvok (o0 :: o1 :: o2 :: o3 :: o4 :: o5 :: o6 :: o7 :: o8 :: o9 :: o10 :: ow :: lo) 11 = true) (k : GW K nL E wd A q (o0 :: o1 :: o2 :: o3 :: o4 :: o5 :: o6 :: o7 :: o8 :: o9 :: o10 :: some (.ref x) :: lo) st h) : GW K nL E wd A pc (o0 :: o1 :: o2 :: o3 :: o4 :: o5 :: o6 :: o7 :: o8 :: o9 :: o10 :: ow :: lo) (.ref x :: st) h := by
  subst hq
  obtain ⟨p, l, e, R, s, m, args, below, meth, c, cells, slots, Q⟩ := K
  obtain ⟨hx, hb, hml, hret, hlk, hown, hts, hN, hK, hA, hZ, hdf, hdl, hcc, hcs⟩ := X
  exact fun H locs ls hP hD hS hl => lv_astore hx hb hd hl hn rfl (fun ls' hl' => k H locs ls' hP hD hS (lvp_store hl' rfl hok))
theorem P_iinc11 (X : Cx K own cc nL ret E A d) {o0 o1 o2 o3 o4 o5 o6 o7 o8 o9 o10 : Option Value} {x : Int32} {n : Int} (v : Int32) (hv : Int32.ofInt n = v) (q : Nat) (hd : decode cc pc = .ok (.iinc 11 n, 3)) (hq : pc + 3 = q) (hn : 11 < nL) (hok : lvok (o0 :: o1 :: o2 :: o3 :: o4 :: o5 :: o6 :: o7 :: o8 :: o9 :: o10 :: some (.int x) :: lo) 11 = true) (k : GW K nL E wd A q (o0 :: o1 :: o2 :: o3 :: o4 :: o5 :: o6 :: o7 :: o8 :: o9 :: o10 :: some (.int (x + v)) :: lo) st h) : GW K nL E wd A pc (o0 :: o1 :: o2 :: o3 :: o4 :: o5 :: o6 :: o7 :: o8 :: o9 :: o10 :: some (.int x) :: lo) st h := by
  subst hq
  obtain ⟨p, l, e, R, s, m, args, below, meth, c, cells, slots, Q⟩ := K
  obtain ⟨hx, hb, hml, hret, hlk, hown, hts, hN, hK, hA, hZ, hdf, hdl, hcc, hcs⟩ := X
  intro H locs ls hP hD hS hl
  obtain ⟨kk, hkk⟩ := List.getElem?_of_mem ((lvp_mem (o0 :: o1 :: o2 :: o3 :: o4 :: o5 :: o6 :: o7 :: o8 :: o9 :: o10 :: some (.int x) :: lo) 0 11 (.int x)).mpr ⟨Nat.zero_le _, rfl⟩)
  exact lv_iinc hx hb hd hl hkk (by rw [hv]) hn rfl (fun ls' hl' => k H locs ls' hP hD hS (lvp_store hl' rfl hok))
theorem P_iload12 (X : Cx K own cc nL ret E A d) {o0 o1 o2 o3 o4 o5 o6 o7 o8 o9 o10 o11 : Option Value} {x : Int32} (q : Nat) (hd : decode cc pc = .ok (.iload 12, 2)) (hq : pc + 2 = q) (k : GW K nL E wd A q (o0 :: o1 :: o2 :: o3 :: o4 :: o5 :: o6 :: o7 :: o8 :: o9 :: o10 :: o11 :: some (.int x) :: lo) (.int x :: st) h) : GW K nL E wd A pc (o0 :: o1 :: o2 :: o3 :: o4 :: o5 :: o6 :: o7 :: o8 :: o9 :: o10 :: o11 :: some (.int x) :: lo) (st) h := by
  subst hq
  obtain ⟨p, l, e, R, s, m, args, below, meth, c, cells, slots, Q⟩ := K
  obtain ⟨hx, hb, hml, hret, hlk, hown, hts, hN, hK, hA, hZ, hdf, hdl, hcc, hcs⟩ := X
  exact fun H locs ls hP hD hS hl => lv_iload hx hb hd (lvp_at hl 12 rfl) (k H locs ls hP hD hS hl)
theorem P_aload12 (X : Cx K own cc nL ret E A d) {o0 o1 o2 o3 o4 o5 o6 o7 o8 o9 o10 o11 : Option Value} {x : Nat} (q : Nat) (hd : decode cc pc = .ok (.aload 12, 2)) (hq : pc + 2 = q) (k : GW K nL E wd A q (o0 :: o1 :: o2 :: o3 :: o4 :: o5 :: o6 :: o7 :: o8 :: o9 :: o10 :: o11 :: some (.ref x) :: lo) (.ref x :: st) h) : GW K nL E wd A pc (o0 :: o1 :: o2 :: o3 :: o4 :: o5 :: o6 :: o7 :: o8 :: o9 :: o10 :: o11 :: some (.ref x) :: lo) (st) h := by
  subst hq
  obtain ⟨p, l, e, R, s, m, args, below, meth, c, cells, slots, Q⟩ := K
  obtain ⟨hx, hb, hml, hret, hlk, hown, hts, hN, hK, hA, hZ, hdf, hdl, hcc, hcs⟩ := X
  exact fun H locs ls hP hD hS hl => lv_aload hx hb hd (lvp_at hl 12 rfl) (k H locs ls hP hD hS hl)
theorem P_istore12 (X : Cx K own cc nL ret E A d) {o0 o1 o2 o3 o4 o5 o6 o7 o8 o9 o10 o11 : Option Value} {ow : Option Value} {x : Int32} (q : Nat) (hd : decode cc pc = .ok (.istore 12, 2)) (hq : pc + 2 = q) (hn : 12 < nL) (hok : lvok (o0 :: o1 :: o2 :: o3 :: o4 :: o5 :: o6 :: o7 :: o8 :: o9 :: o10 :: o11 :: ow :: lo) 12 = true) (k : GW K nL E wd A q (o0 :: o1 :: o2 :: o3 :: o4 :: o5 :: o6 :: o7 :: o8 :: o9 :: o10 :: o11 :: some (.int x) :: lo) st h) : GW K nL E wd A pc (o0 :: o1 :: o2 :: o3 :: o4 :: o5 :: o6 :: o7 :: o8 :: o9 :: o10 :: o11 :: ow :: lo) (.int x :: st) h := by
  subst hq
  obtain ⟨p, l, e, R, s, m, args, below, meth, c, cells, slots, Q⟩ := K
  obtain ⟨hx, hb, hml, hret, hlk, hown, hts, hN, hK, hA, hZ, hdf, hdl, hcc, hcs⟩ := X
  exact fun H locs ls hP hD hS hl => lv_istore hx hb hd hl hn rfl (fun ls' hl' => k H locs ls' hP hD hS (lvp_store hl' rfl hok))
theorem P_astore12 (X : Cx K own cc nL ret E A d) {o0 o1 o2 o3 o4 o5 o6 o7 o8 o9 o10 o11 : Option Value} {ow : Option Value} {x : Nat} (q : Nat) (hd : decode cc pc = .ok (.astore 12, 2)) (hq : pc + 2 = q) (hn : 12 < nL) (hok : lvok (o0 :: o1 :: o2 :: o3 :: o4 :: o5 :: o6 :: o7 :: o8 :: o9 :: o10 :: o11 :: ow :: lo) 12 = true) (k : GW K nL E wd A q (o0 :: o1 :: o2 :: o3 :: o4 :: o5 :: o6 :: o7 :: o8 :: o9 :: o10 :: o11 :: some (.ref x) :: lo) st h) : GW K nL E wd A pc (o0 :: o1 :: o2 :: o3 :: o4 :: o5 :: o6 :: o7 :: o8 :: o9 :: o10 :: o11 :: ow :: lo) (.ref x :: st) h := by
  subst hq
  obtain ⟨p, l, e, R, s, m, args, below, meth, c, cells, slots, Q⟩ := K
  obtain ⟨hx, hb, hml, hret, hlk, hown, hts, hN, hK, hA, hZ, hdf, hdl, hcc, hcs⟩ := X
  exact fun H locs ls hP hD hS hl => lv_astore hx hb hd hl hn rfl (fun ls' hl' => k H locs ls' hP hD hS (lvp_store hl' rfl hok))
theorem P_iinc12 (X : Cx K own cc nL ret E A d) {o0 o1 o2 o3 o4 o5 o6 o7 o8 o9 o10 o11 : Option Value} {x : Int32} {n : Int} (v : Int32) (hv : Int32.ofInt n = v) (q : Nat) (hd : decode cc pc = .ok (.iinc 12 n, 3)) (hq : pc + 3 = q) (hn : 12 < nL) (hok : lvok (o0 :: o1 :: o2 :: o3 :: o4 :: o5 :: o6 :: o7 :: o8 :: o9 :: o10 :: o11 :: some (.int x) :: lo) 12 = true) (k : GW K nL E wd A q (o0 :: o1 :: o2 :: o3 :: o4 :: o5 :: o6 :: o7 :: o8 :: o9 :: o10 :: o11 :: some (.int (x + v)) :: lo) st h) : GW K nL E wd A pc (o0 :: o1 :: o2 :: o3 :: o4 :: o5 :: o6 :: o7 :: o8 :: o9 :: o10 :: o11 :: some (.int x) :: lo) st h := by
  subst hq
  obtain ⟨p, l, e, R, s, m, args, below, meth, c, cells, slots, Q⟩ := K
  obtain ⟨hx, hb, hml, hret, hlk, hown, hts, hN, hK, hA, hZ, hdf, hdl, hcc, hcs⟩ := X
  intro H locs ls hP hD hS hl
  obtain ⟨kk, hkk⟩ := List.getElem?_of_mem ((lvp_mem (o0 :: o1 :: o2 :: o3 :: o4 :: o5 :: o6 :: o7 :: o8 :: o9 :: o10 :: o11 :: some (.int x) :: lo) 0 12 (.int x)).mpr ⟨Nat.zero_le _, rfl⟩)
  exact lv_iinc hx hb hd hl hkk (by rw [hv]) hn rfl (fun ls' hl' => k H locs ls' hP hD hS (lvp_store hl' rfl hok))
theorem P_iload13 (X : Cx K own cc nL ret E A d) {o0 o1 o2 o3 o4 o5 o6 o7 o8 o9 o10 o11 o12 : Option Value} {x : Int32} (q : Nat) (hd : decode cc pc = .ok (.iload 13, 2)) (hq : pc + 2 = q) (k : GW K nL E wd A q (o0 :: o1 :: o2 :: o3 :: o4 :: o5 :: o6 :: o7 :: o8 :: o9 :: o10 :: o11 :: o12 :: some (.int x) :: lo) (.int x :: st) h) : GW K nL E wd A pc (o0 :: o1 :: o2 :: o3 :: o4 :: o5 :: o6 :: o7 :: o8 :: o9 :: o10 :: o11 :: o12 :: some (.int x) :: lo) (st) h := by
  subst hq
  obtain ⟨p, l, e, R, s, m, args, below, meth, c, cells, slots, Q⟩ := K
  obtain ⟨hx, hb, hml, hret, hlk, hown, hts, hN, hK, hA, hZ, hdf, hdl, hcc, hcs⟩ := X
  exact fun H locs ls hP hD hS hl => lv_iload hx hb hd (lvp_at hl 13 rfl) (k H locs ls hP hD hS hl)
theorem P_aload13 (X : Cx K own cc nL ret E A d) {o0 o1 o2 o3 o4 o5 o6 o7 o8 o9 o10 o11 o12 : Option Value} {x : Nat} (q : Nat) (hd : decode cc pc = .ok (.aload 13, 2)) (hq : pc + 2 = q) (k : GW K nL E wd A q (o0 :: o1 :: o2 :: o3 :: o4 :: o5 :: o6 :: o7 :: o8 :: o9 :: o10 :: o11 :: o12 :: some (.ref x) :: lo) (.ref x :: st) h) : GW K nL E wd A pc (o0 :: o1 :: o2 :: o3 :: o4 :: o5 :: o6 :: o7 :: o8 :: o9 :: o10 :: o11 :: o12 :: some (.ref x) :: lo) (st) h := by
  subst hq
  obtain ⟨p, l, e, R, s, m, args, below, meth, c, cells, slots, Q⟩ := K
  obtain ⟨hx, hb, hml, hret, hlk, hown, hts, hN, hK, hA, hZ, hdf, hdl, hcc, hcs⟩ := X
  exact fun H locs ls hP hD hS hl => lv_aload hx hb hd (lvp_at hl 13 rfl) (k H locs ls hP hD hS hl)
theorem P_istore13 (X : Cx K own cc nL ret E A d) {o0 o1 o2 o3 o4 o5 o6 o7 o8 o9 o10 o11 o12 : Option Value} {ow : Option Value} {x : Int32} (q : Nat) (hd : decode cc pc = .ok (.istore 13, 2)) (hq : pc + 2 = q) (hn : 13 < nL) (hok : lvok (o0 :: o1 :: o2 :: o3 :: o4 :: o5 :: o6 :: o7 :: o8 :: o9 :: o10 :: o11 :: o12 :: ow :: lo) 13 = true) (k : GW K nL E wd A q (o0 :: o1 :: o2 :: o3 :: o4 :: o5 :: o6 :: o7 :: o8 :: o9 :: o10 :: o11 :: o12 :: some (.int x) :: lo) st h) : GW K nL E wd A pc (o0 :: o1 :: o2 :: o3 :: o4 :: o5 :: o6 :: o7 :: o8 :: o9 :: o10 :: o11 :: o12 :: ow :: lo) (.int x :: st) h := by
  subst hq
  obtain ⟨p, l, e, R, s, m, args, below, meth, c, cells, slots, Q⟩ := K
  obtain ⟨hx, hb, hml, hret, hlk, hown, hts, hN, hK, hA, hZ, hdf, hdl, hcc, hcs⟩ := X
  exact fun H locs ls hP hD hS hl => lv_istore hx hb hd hl hn rfl (fun ls' hl' => k H locs ls' hP hD hS (lvp_store hl' rfl hok))
theorem P_astore13 (X : Cx K own cc nL ret E A d) {o0 o1 o2 o3 o4 o5 o6 o7 o8 o9 o10 o11 o12 : Option Value} {ow : Option Value} {x : Nat} (q : Nat) (hd : decode cc pc = .ok (.astore 13, 2)) (hq : pc + 2 = q) (hn : 13 < nL) (hok : lvok (o0 :: o1 :: o2 :: o3 :: o4 :: o5 :: o6 :: o7 :: o8 :: o9 :: o10 :: o11 :: o12 :: ow :: lo) 13 = true) (k : GW K nL E wd A q (o0 :: o1 :: o2 :: o3 :: o4 :: o5 :: o6 :: o7 :: o8 :: o9 :: o10 :: o11 :: o12 :: some (.ref x) :: lo) st h) : GW K nL E wd A pc (o0 :: o1 :: o2 :: o3 :: o4 :: o5 :: o6 :: o7 :: o8 :: o9 :: o10 :: o11 :: o12 :: ow :: lo) (.ref x :: st) h := by
  subst hq
  obtain ⟨p, l, e, R, s, m, args, below, meth, c, cells, slots, Q⟩ := K
  obtain ⟨hx, hb, hml, hret, hlk, hown, hts, hN, hK, hA, hZ, hdf, hdl, hcc, hcs⟩ := X
  exact fun H locs ls hP hD hS hl => lv_astore hx hb hd hl hn rfl (fun ls' hl' => k H locs ls' hP hD hS (lvp_store hl' rfl hok))
theorem P_iinc13 (X : Cx K own cc nL ret E A d) {o0 o1 o2 o3 o4 o5 o6 o7 o8 o9 o10 o11 o12 : Option Value} {x : Int32} {n : Int} (v : Int32) (hv : Int32.ofInt n = v) (q : Nat) (hd : decode cc pc = .ok (.iinc 13 n, 3)) (hq : pc + 3 = q) (hn : 13 < nL) (hok : lvok (o0 :: o1 :: o2 :: o3 :: o4 :: o5 :: o6 :: o7 :: o8 :: o9 :: o10 :: o11 :: o12 :: some (.int x) :: lo) 13 = true) (k : GW K nL E wd A q (o0 :: o1 :: o2 :: o3 :: o4 :: o5 :: o6 :: o7 :: o8 :: o9 :: o10 :: o11 :: o12 :: some (.int (x + v)) :: lo) st h) : GW K nL E wd A pc (o0 :: o1 :: o2 :: o3 :: o4 :: o5 :: o6 :: o7 :: o8 :: o9 :: o10 :: o11 :: o12 :: some (.int x) :: lo) st h := by
  subst hq
  obtain ⟨p, l, e, R, s, m, args, below, meth, c, cells, slots, Q⟩ := K
  obtain ⟨hx, hb, hml, hret, hlk, hown, hts, hN, hK, hA, hZ, hdf, hdl, hcc, hcs⟩ := X
  intro H locs ls hP hD hS hl
  obtain ⟨kk, hkk⟩ := List.getElem?_of_mem ((lvp_mem (o0 :: o1 :: o2 :: o3 :: o4 :: o5 :: o6 :: o7 :: o8 :: o9 :: o10 :: o11 :: o12 :: some (.int x) :: lo) 0 13 (.int x)).mpr ⟨Nat.zero_le _, rfl⟩)
  exact lv_iinc hx hb hd hl hkk (by rw [hv]) hn rfl (fun ls' hl' => k H locs ls' hP hD hS (lvp_store hl' rfl hok))
theorem P_iload14 (X : Cx K own cc nL ret E A d) {o0 o1 o2 o3 o4 o5 o6 o7 o8 o9 o10 o11 o12 o13 : Option Value} {x : Int32} (q : Nat) (hd : decode cc pc = .ok (.iload 14, 2)) (hq : pc + 2 = q) (k : GW K nL E wd A q (o0 :: o1 :: o2 :: o3 :: o4 :: o5 :: o6 :: o7 :: o8 :: o9 :: o10 :: o11 :: o12 :: o13 :: some (.int x) :: lo) (.int x :: st) h) : GW K nL E wd A pc (o0 :: o1 :: o2 :: o3 :: o4 :: o5 :: o6 :: o7 :: o8 :: o9 :: o10 :: o11 :: o12 :: o13 :: some (.int x) :: lo) (st) h := by
  subst hq
  obtain ⟨p, l, e, R, s, m, args, below, meth, c, cells, slots, Q⟩ := K
  obtain ⟨hx, hb, hml, hret, hlk, hown, hts, hN, hK, hA, hZ, hdf, hdl, hcc, hcs⟩ := X
  exact fun H locs ls hP hD hS hl => lv_iload hx hb hd (lvp_at hl 14 rfl) (k H locs ls hP hD hS hl)
theorem P_aload14 (X : Cx K own cc nL ret E A d) {o0 o1 o2 o3 o4 o5 o6 o7 o8 o9 o10 o11 o12 o13 : Option Value} {x : Nat} (q : Nat) (hd : decode cc pc = .ok (.aload 14, 2)) (hq : pc + 2 = q) (k : GW K nL E wd A q (o0 :: o1 :: o2 :: o3 :: o4 :: o5 :: o6 :: o7 :: o8 :: o9 :: o10 :: o11 :: o12 :: o13 :: some (.ref x) :: lo) (.ref x :: st) h) : GW K nL E wd A pc (o0 :: o1 :: o2 :: o3 :: o4 :: o5 :: o6 :: o7 :: o8 :: o9 :: o10 :: o11 :: o12 :: o13 :: some (.ref x) :: lo) (st) h := by
  subst hq
  obtain ⟨p, l, e, R, s, m, args, below, meth, c, cells, slots, Q⟩ := K
  obtain ⟨hx, hb, hml, hret, hlk, hown, hts, hN, hK, hA, hZ, hdf, hdl, hcc, hcs⟩ := X
  exact fun H locs ls hP hD hS hl => lv_aload hx hb hd (lvp_at hl 14 rfl) (k H locs ls hP hD hS hl)
theorem P_istore14 (X : Cx K own cc nL ret E A d) {o0 o1 o2 o3 o4 o5 o6 o7 o8 o9 o10 o11 o12 o13 : Option Value} {ow : Option Value} {x : Int32} (q : Nat) (hd : decode cc pc = .ok (.istore 14, 2)) (hq : pc + 2 = q) (hn : 14 < nL) (hok : lvok (o0 :: o1 :: o2 :: o3 :: o4 :: o5 :: o6 :: o7 :: o8 :: o9 :: o10 :: o11 :: o12 :: o13 :: ow :: lo) 14 = true) (k : GW K nL E wd A q (o0 :: o1 :: o2 :: o3 :: o4 :: o5 :: o6 :: o7 :: o8 :: o9 :: o10 :: o11 :: o12 :: o13 :: some (.int x) :: lo) st h) : GW K nL E wd A pc (o0 :: o1 :: o2 :: o3 :: o4 :: o5 :: o6 :: o7 :: o8 :: o9 :: o10 :: o11 :: o12 :: o13 :: ow :: lo) (.int x :: st) h := by
  subst hq
  obtain ⟨p, l, e, R, s, m, args, below, meth, c, cells, slots, Q⟩ := K
  obtain ⟨hx, hb, hml, hret, hlk, hown, hts, hN, hK, hA, hZ, hdf, hdl, hcc, hcs⟩ := X
  exact fun H locs ls hP hD hS hl => lv_istore hx hb hd hl hn rfl (fun ls' hl' => k H locs ls' hP hD hS (lvp_store hl' rfl hok))
theorem P_astore14 (X : Cx K own cc nL ret E A d) {o0 o1 o2 o3 o4 o5 o6 o7 o8 o9 o10 o11 o12 o13 : Option Value} {ow : Option Value} {x : Nat} (q : Nat) (hd : decode cc pc = .ok (.astore 14, 2)) (hq : pc + 2 = q) (hn : 14 < nL) (hok : lvok (o0 :: o1 :: o2 :: o3 :: o4 :: o5 :: o6 :: o7 :: o8 :: o9 :: o10 :: o11 :: o12 :: o13 :: ow :: lo) 14 = true) (k : GW K nL E wd A q (o0 :: o1 :: o2 :: o3 :: o4 :: o5 :: o6 :: o7 :: o8 :: o9 :: o10 :: o11 :: o12 :: o13 :: some (.ref x) :: lo) st h) : GW K nL E wd A pc (o0 :: o1 :: o2 :: o3 :: o4 :: o5 :: o6 :: o7 :: o8 :: o9 :: o10 :: o11 :: o12 :: o13 :: ow :: lo) (.ref x :: st) h := by
  subst hq
  obtain ⟨p, l, e, R, s, m, args, below, meth, c, cells, slots, Q⟩ := K
  obtain ⟨hx, hb, hml, hret, hlk, hown, hts, hN, hK, hA, hZ, hdf, hdl, hcc, hcs⟩ := X
  exact fun H locs ls hP hD hS hl => lv_astore hx hb hd hl hn rfl (fun ls' hl' => k H locs ls' hP hD hS (lvp_store hl' rfl hok))
theorem P_iinc14 (X : Cx K own cc nL ret E A d) {o0 o1 o2 o3 o4 o5 o6 o7 o8 o9 o10 o11 o12 o13 : Option Value} {x : Int32} {n : Int} (v : Int32) (hv : Int32.ofInt n = v) (q : Nat) (hd : decode cc pc = .ok (.iinc 14 n, 3)) (hq : pc + 3 = q) (hn : 14 < nL) (hok : lvok (o0 :: o1 :: o2 :: o3 :: o4 :: o5 :: o6 :: o7 :: o8 :: o9 :: o10 :: o11 :: o12 :: o13 :: some (.int x) :: lo) 14 = true) (k : GW K nL E wd A q (o0 :: o1 :: o2 :: o3 :: o4 :: o5 :: o6 :: o7 :: o8 :: o9 :: o10 :: o11 :: o12 :: o13 :: some (.int (x + v)) :: lo) st h) : GW K nL E wd A pc (o0 :: o1 :: o2 :: o3 :: o4 :: o5 :: o6 :: o7 :: o8 :: o9 :: o10 :: o11 :: o12 :: o13 :: some (.int x) :: lo) st h := by
  subst hq
  obtain ⟨p, l, e, R, s, m, args, below, meth, c, cells, slots, Q⟩ := K
  obtain ⟨hx, hb, hml, hret, hlk, hown, hts, hN, hK, hA, hZ, hdf, hdl, hcc, hcs⟩ := X
  intro H locs ls hP hD hS hl
  obtain ⟨kk, hkk⟩ := List.getElem?_of_mem ((lvp_mem (o0 :: o1 :: o2 :: o3 :: o4 :: o5 :: o6 :: o7 :: o8 :: o9 :: o10 :: o11 :: o12 :: o13 :: some (.int x) :: lo) 0 14 (.int x)).mpr ⟨Nat.zero_le _, rfl⟩)
  exact lv_iinc hx hb hd hl hkk (by rw [hv]) hn rfl (fun ls' hl' => k H locs ls' hP hD hS (lvp_store hl' rfl hok))
theorem P_iload15 (X : Cx K own cc nL ret E A d) {o0 o1 o2 o3 o4 o5 o6 o7 o8 o9 o10 o11 o12 o13 o14 : Option Value} {x : Int32} (q : Nat) (hd : decode cc pc = .ok (.iload 15, 2)) (hq : pc + 2 = q) (k : GW K nL E wd A q (o0 :: o1 :: o2 :: o3 :: o4 :: o5 :: o6 :: o7 :: o8 :: o9 :: o10 :: o11 :: o12 :: o13 :: o14 :: some (.int x) :: lo) (.int x :: st) h) : GW K nL E wd A pc (o0 :: o1 :: o2 :: o3 :: o4 :: o5 :: o6 :: o7 :: o8 :: o9 :: o10 :: o11 :: o12 :: o13 :: o14 :: some (.int x) :: lo) (st) h := by
  subst hq
  obtain ⟨p, l, e, R, s, m, args, below, meth, c, cells, slots, Q⟩ := K
  obtain ⟨hx, hb, hml, hret, hlk, hown, hts, hN, hK, hA, hZ, hdf, hdl, hcc, hcs⟩ := X
  exact fun H locs ls hP hD hS hl => lv_iload hx hb hd (lvp_at hl 15 rfl) (k H locs ls hP hD hS hl)
theorem P_aload15 (X : Cx K own cc nL ret E A d) {o0 o1 o2 o3 o4 o5 o6 o7 o8 o9 o10 o11 o12 o13 o14 : Option Value} {x : Nat} (q : Nat) (hd : decode cc pc = .ok (.aload 15, 2)) (hq : pc + 2 = q) (k : GW K nL E wd A q (o0 :: o1 :: o2 :: o3 :: o4 :: o5 :: o6 :: o7 :: o8 :: o9 :: o10 :: o11 :: o12 :: o13 :: o14 :: some (.ref x) :: lo) (.ref x :: st) h) : GW K nL E wd A pc (o0 :: o1 :: o2 :: o3 :: o4 :: o5 :: o6 :: o7 :: o8 :: o9 :: o10 :: o11 :: o12 :: o13 :: o14 :: some (.ref x) :: lo) (st) h := by
  subst hq
  obtain ⟨p, l, e, R, s, m, args, below, meth, c, cells, slots, Q⟩ := K
  obtain ⟨hx, hb, hml, hret, hlk, hown, hts, hN, hK, hA, hZ, hdf, hdl, hcc, hcs⟩ := X
  exact fun H locs ls hP hD hS hl => lv_aload hx hb hd (lvp_at hl 15 rfl) (k H locs ls hP hD hS hl)
theorem P_istore15 (X : Cx K own cc nL ret E A d) {o0 o1 o2 o3 o4 o5 o6 o7 o8 o9 o10 o11 o12 o13 o14 : Option Value} {ow : Option Value} {x : Int32} (q : Nat) (hd : decode cc pc = .ok (.istore 15, 2)) (hq : pc + 2 = q) (hn : 15 < nL) (hok : lvok (o0 :: o1 :: o2 :: o3 :: o4 :: o5 :: o6 :: o7 :: o8 :: o9 :: o10 :: o11 :: o12 :: o13 :: o14 :: ow :: lo) 15 = true) (k : GW K nL E wd A q (o0 :: o1 :: o2 :: o3 :: o4 :: o5 :: o6 :: o7 :: o8 :: o9 :: o10 :: o11 :: o12 :: o13 :: o14 :: some (.int x) :: lo) st h) : GW K nL E wd A pc (o0 :: o1 :: o2 :: o3 :: o4 :: o5 :: o6 :: o7 :: o8 :: o9 :: o10 :: o11 :: o12 :: o13 :: o14 :: ow :: lo) (.int x :: st) h := by
  subst hq
  obtain ⟨p, l, e, R, s, m, args, below, meth, c, cells, slots, Q⟩ := K
  obtain ⟨hx, hb, hml, hret, hlk, hown, hts, hN, hK, hA, hZ, hdf, hdl, hcc, hcs⟩ := X
  exact fun H locs ls hP hD hS hl => lv_istore hx hb hd hl hn rfl (fun ls' hl' => k H locs ls' hP hD hS (lvp_store hl' rfl hok))
theorem P_astore15 (X : Cx K own cc nL ret E A d) {o0 o1 o2 o3 o4 o5 o6 o7 o8 o9 o10 o11 o12 o13 o14 : Option Value} {ow : Option Value} {x : Nat} (q : Nat) (hd : decode cc pc = .ok (.astore 15, 2)) (hq : pc + 2 = q) (hn : 15 < nL) (hok : lvok (o0 :: o1 :: o2 :: o3 :: o4 :: o5 :: o6 :: o7 :: o8 :: o9 :: o10 :: o11 :: o12 :: o13 :: o14 :: ow :: lo) 15 = true) (k : GW K nL E wd A q (o0 :: o1 :: o2 :: o3 :: o4 :: o5 :: o6 :: o7 :: o8 :: o9 :: o10 :: o11 :: o12 :: o13 :: o14 :: some (.ref x) :: lo) st h) : GW K nL E wd A pc (o0 :: o1 :: o2 :: o3 :: o4 :: o5 :: o6 :: o7 :: o8 :: o9 :: o10 :: o11 :: o12 :: o13 :: o14 :: ow :: lo) (.ref x :: st) h := by
  subst hq
  obtain ⟨p, l, e, R, s, m, args, below, meth, c, cells, slots, Q⟩ := K
  obtain ⟨hx, hb, hml, hret, hlk, hown, hts, hN, hK, hA, hZ, hdf, hdl, hcc, hcs⟩ := X
  exact fun H locs ls hP hD hS hl => lv_astore hx hb hd hl hn rfl (fun ls' hl' => k H locs ls' hP hD hS (lvp_store hl' rfl hok))
theorem P_iinc15 (X : Cx K own cc nL ret E A d) {o0 o1 o2 o3 o4 o5 o6 o7 o8 o9 o10 o11 o12 o13 o14 : Option Value} {x : Int32} {n : Int} (v : Int32) (hv : Int32.ofInt n = v) (q : Nat) (hd : decode cc pc = .ok (.iinc 15 n, 3)) (hq : pc + 3 = q) (hn : 15 < nL) (hok : lvok (o0 :: o1 :: o2 :: o3 :: o4 :: o5 :: o6 :: o7 :: o8 :: o9 :: o10 :: o11 :: o12 :: o13 :: o14 :: some (.int x) :: lo) 15 = true) (k : GW K nL E wd A q (o0 :: o1 :: o2 :: o3 :: o4 :: o5 :: o6 :: o7 :: o8 :: o9 :: o10 :: o11 :: o12 :: o13 :: o14 :: some (.int (x + v)) :: lo) st h) : GW K nL E wd A pc (o0 :: o1 :: o2 :: o3 :: o4 :: o5 :: o6 :: o7 :: o8 :: o9 :: o10 :: o11 :: o12 :: o13 :: o14 :: some (.int x) :: lo) st h := by
  subst hq
  obtain ⟨p, l, e, R, s, m, args, below, meth, c, cells, slots, Q⟩ := K
  obtain ⟨hx, hb, hml, hret, hlk, hown, hts, hN, hK, hA, hZ, hdf, hdl, hcc, hcs⟩ := X
  intro H locs ls hP hD hS hl
  obtain ⟨kk, hkk⟩ := List.getElem?_of_mem ((lvp_mem (o0 :: o1 :: o2 :: o3 :: o4 :: o5 :: o6 :: o7 :: o8 :: o9 :: o10 :: o11 :: o12 :: o13 :: o14 :: some (.int x) :: lo) 0 15 (.int x)).mpr ⟨Nat.zero_le _, rfl⟩)
  exact lv_iinc hx hb hd hl hkk (by rw [hv]) hn rfl (fun ls' hl' => k H locs ls' hP hD hS (lvp_store hl' rfl hok))
end PR
end
section
/-! fields, arrays, calls, ends -/
def bI (b : Bool) : Int32 := if b then 1 else 0
theorem bI_01 (b : Bool) : bI b = 0 ∨ bI b = 1 := by cases b <;> simp [bI]
theorem bI_0 {b : Bool} : bI b = 0 ↔ b = false := by cases b <;> simp [bI]
theorem bI_n0 {b : Bool} : ¬ bI b = 0 ↔ b = true := by cases b <;> simp [bI]
/-- a field: own's entry ix is slot i of class number ci -/
def FL (own : String) (ix ci i : Nat) : Prop := ∃ (C : String) (T : u_T) (N : Nat), vwCl[ci]? = some (C, T, N) ∧ i < N ∧ (∀ w ∈ u_ws C T N, w ∈ TB) ∧ (Cond.fieldLink own ix C (T i).2.1 (T i).2.2.1 ∈ TB ∨ ∃ host, Cond.fieldLinkNest own ix C (T i).2.1 (T i).2.2.1 host ∈ NWl) ∧ (T i).1 = C
/-- a field of an int that may be written -/
def FW (own : String) (ix ci i : Nat) : Prop := ∃ (C : String) (T : u_T) (N : Nat) (ty : Nat → FieldType), vwCl[ci]? = some (C, T, N) ∧ i < N ∧ (∀ w ∈ u_ws C T N, w ∈ TB) ∧ (Cond.fieldLink own ix C (T i).2.1 (T i).2.2.1 ∈ TB ∨ ∃ host, Cond.fieldLinkNest own ix C (T i).2.1 (T i).2.2.1 host ∈ NWl) ∧ (T i).1 = C ∧ (∀ k, k < N → parseFieldDescriptor (T k).2.2.1 = some (ty k)) ∧ (∀ a, a < N → ∀ b, b < N → a ≠ b → (T a).2.1 ≠ (T b).2.1) ∧ (T i).2.2.2 = false ∧ parseFieldDescriptor (T i).2.2.1 = some .int
def LK (own : String) (ix : Nat) (y : MethodName) : Prop := Cond.methodLink own ix y ∈ TB ∨ ∃ host, Cond.methodLinkNest own ix y host ∈ NWl
def MK (y : MethodName) (cc : ByteArray) (nL : Nat) (ret : Option FieldType) (n : Nat) : Prop := Cond.code y cc nL ret ∈ TB ∧ Cond.initialized y.cls ∈ TB ∧ (y.cls ≠ "java/lang/invoke/MethodHandle" ∧ y.cls ≠ "java/lang/invoke/VarHandle" ∧ (parseMethodDescriptor y.desc).map (fun d => d.parameters.length) = some n) ∧ nL ≤ 21
def MV (y : MethodName) (cc : ByteArray) (nL : Nat) (ret : Option FieldType) (n : Nat) : Prop := MK y cc nL ret n ∧ Cond.instanceMethod y ∈ TB ∧ Cond.selects y.cls y y ∈ TB
def MS (y : MethodName) (cc : ByteArray) (nL : Nat) (ret : Option FieldType) (n : Nat) : Prop := MK y cc nL ret n ∧ Cond.static y ∈ TB
section PR2
variable {K : Kx} {own : String} {cc : ByteArray} {nL : Nat} {ret : Option FieldType} {E : Ev} {wd : Wd} {A : Nat → Prop} {d : Nat} {pc : Nat} {lo : List (Option Value)} {st : List Value} {h : Hp}
theorem P_get (X : Cx K own cc nL ret E A d) {ix ci i k : Nat} {fs : List Value} {v : Value} (q : Nat) (hd : decode cc pc = .ok (.getfield ix, 3)) (hq : pc + 3 = q) (hF : FL own ix ci i) (hk : k < wd.1) (hc : wd.2.2 k (h k) = .inr (ci, fs)) (hv : fs[i]? = some v) (kk : GW K nL E wd A q lo (v :: st) h) : GW K nL E wd A pc lo (.ref (wd.2.1 k) :: st) h := by
  subst hq
  obtain ⟨p, l, e, R, s, m, args, below, meth, c, cells, slots, Q⟩ := K
  obtain ⟨hx, hb, hml, hret, hlk, hown, hts, hN, hK, hA, hZ, hdf, hdl, hcc, hcs⟩ := X
  obtain ⟨C, T, N, f1, f2, f3, f4, f5⟩ := hF
  intro H locs ls hP hD hS hl
  have he : (mkW wd h)[k]? = some (wd.2.1 k, .inr (ci, fs)) := by rw [mkW_at hk, hc]
  rcases f4 with f4 | ⟨host, f4⟩
  · exact va_get hx hb hts f3 hown hK hP k he f1 i f2 (hts _ f4) (fun x hx => by rw [f5] at hx; exact hx) hv hd (kk H locs ls hP hD hS hl)
  · exact va_getN hx hb hts f3 hown hK hP k he f1 i f2 (va_Nw.use rfl (hN _ f4)) (fun x hx => by rw [f5] at hx; exact hx) hv hd (kk H locs ls hP hD hS hl)
theorem P_put (X : Cx K own cc nL ret E A d) {ix ci i k : Nat} {fs : (Nat → Int32) → List Value} {x : Int32} (q : Nat) (hd : decode cc pc = .ok (.putfield ix, 3)) (hq : pc + 3 = q) (hF : FW own ix ci i) (hk : k < wd.1) (hc : ∀ f, wd.2.2 k f = .inr (ci, fs f)) (hs : ∀ f x, (fs f).set i (.int x) = fs (upd f i x)) (hlen : i < (fs (h k)).length) (kk : GW K nL E wd A q lo st (put h k i x)) : GW K nL E wd A pc lo (.int x :: .ref (wd.2.1 k) :: st) h := by
  subst hq
  obtain ⟨p, l, e, R, s, m, args, below, meth, c, cells, slots, Q⟩ := K
  obtain ⟨hx, hb, hml, hret, hlk, hown, hts, hN, hK, hA, hZ, hdf, hdl, hcc, hcs⟩ := X
  obtain ⟨C, T, N, ty, f1, f2, f3, f4, f5, f6, f7, f8, f9⟩ := hF
  intro H locs ls hP hD hS hl
  have he : (mkW wd h)[k]? = some (wd.2.1 k, .inr (ci, fs (h k))) := by rw [mkW_at hk, hc]
  have e2 : (mkW wd h).set k (wd.2.1 k, .inr (ci, (fs (h k)).set i (.int x))) = mkW wd (put h k i x) := by
    rw [hs, ← hc, mkW_set hk]; rfl
  rcases f4 with f4 | ⟨host, f4⟩
  · exact va_put hx hb hts f3 ty f6 f7 hown hK hP hD hS k he f1 i f2 (hts _ f4) (fun x hx => by rw [f5] at hx; exact hx) f8 f9 rfl rfl hlen hd (fun H1 locs1 h1 h2 h3 => kk H1 locs1 ls (by rw [e2] at h1; exact h1) (by rw [e2] at h2; exact h2) h3 hl)
  · exact va_putN hx hb hts f3 ty f6 f7 hown hK hP hD hS k he f1 i f2 (va_Nw.use rfl (hN _ f4)) (fun x hx => by rw [f5] at hx; exact hx) f8 f9 rfl rfl hlen hd (fun H1 locs1 h1 h2 h3 => kk H1 locs1 ls (by rw [e2] at h1; exact h1) (by rw [e2] at h2; exact h2) h3 hl)
theorem P_iald (X : Cx K own cc nL ret E A d) {k n j : Nat} {i : Int32} (q : Nat) (hd : decode cc pc = .ok (.iaload, 1)) (hq : pc + 1 = q) (hk : k < wd.1) (hc : ∀ f, wd.2.2 k f = .inl (E.2.1 0, n, .inl f)) (hn : n < 2 ^ 31) (hi : i = nI j) (hj : j < n) (kk : GW K nL E wd A q lo (.int (h k j) :: st) h) : GW K nL E wd A pc lo (.int i :: .ref (wd.2.1 k) :: st) h := by
  subst hq hi
  obtain ⟨p, l, e, R, s, m, args, below, meth, c, cells, slots, Q⟩ := K
  obtain ⟨hx, hb, hml, hret, hlk, hown, hts, hN, hK, hA, hZ, hdf, hdl, hcc, hcs⟩ := X
  intro H locs ls hP hD hS hl
  have he : (mkW wd h)[k]? = some (wd.2.1 k, .inl (E.2.1 0, n, .inl (h k))) := by rw [mkW_at hk, hc]
  refine va_iald hx hb hK hP k 0 he rfl (nI_in hj hn) hd ?_
  rw [nI_clamp (Nat.lt_trans hj hn)]
  exact kk H locs ls hP hD hS hl
theorem P_zald (X : Cx K own cc nL ret E A d) {k n j : Nat} {i : Int32} (q : Nat) (hd : decode cc pc = .ok (.baload, 1)) (hq : pc + 1 = q) (hk : k < wd.1) (hc : ∀ f, wd.2.2 k f = .inl (E.2.1 1, n, .inl f)) (hn : n < 2 ^ 31) (hi : i = nI j) (hj : j < n) (kk : GW K nL E wd A q lo (.int (h k j) :: st) h) : GW K nL E wd A pc lo (.int i :: .ref (wd.2.1 k) :: st) h := by
  subst hq hi
  obtain ⟨p, l, e, R, s, m, args, below, meth, c, cells, slots, Q⟩ := K
  obtain ⟨hx, hb, hml, hret, hlk, hown, hts, hN, hK, hA, hZ, hdf, hdl, hcc, hcs⟩ := X
  intro H locs ls hP hD hS hl
  have he : (mkW wd h)[k]? = some (wd.2.1 k, .inl (E.2.1 1, n, .inl (h k))) := by rw [mkW_at hk, hc]
  refine va_zald hx hb hK hP k 1 he rfl (nI_in hj hn) hd ?_
  rw [nI_clamp (Nat.lt_trans hj hn)]
  exact kk H locs ls hP hD hS hl
theorem P_iast (X : Cx K own cc nL ret E A d) {k n j : Nat} {i x : Int32} (q : Nat) (hd : decode cc pc = .ok (.iastore, 1)) (hq : pc + 1 = q) (hk : k < wd.1) (hc : ∀ f, wd.2.2 k f = .inl (E.2.1 0, n, .inl f)) (hn : n < 2 ^ 31) (hi : i = nI j) (hj : j < n) (kk : GW K nL E wd A q lo st (put h k j x)) : GW K nL E wd A pc lo (.int x :: .int i :: .ref (wd.2.1 k) :: st) h := by
  subst hq hi
  obtain ⟨p, l, e, R, s, m, args, below, meth, c, cells, slots, Q⟩ := K
  obtain ⟨hx, hb, hml, hret, hlk, hown, hts, hN, hK, hA, hZ, hdf, hdl, hcc, hcs⟩ := X
  intro H locs ls hP hD hS hl
  have he : (mkW wd h)[k]? = some (wd.2.1 k, .inl (E.2.1 0, n, .inl (h k))) := by rw [mkW_at hk, hc]
  have e2 : (mkW wd h).set k (wd.2.1 k, .inl (E.2.1 0, n, .inl (upd (h k) j x))) = mkW wd (put h k j x) := by
    rw [← hc, mkW_set hk]; rfl
  refine va_iast hx hb hK hP hD hS k 0 he rfl (nI_in hj hn) hd (fun H1 locs1 h1 h2 h3 => ?_)
  rw [nI_clamp (Nat.lt_trans hj hn), e2] at h1 h2
  exact kk H1 locs1 ls h1 h2 h3 hl
theorem P_zast (X : Cx K own cc nL ret E A d) {k n j : Nat} {i x : Int32} (q : Nat) (hd : decode cc pc = .ok (.bastore, 1)) (hq : pc + 1 = q) (hk : k < wd.1) (hc : ∀ f, wd.2.2 k f = .inl (E.2.1 1, n, .inl f)) (hn : n < 2 ^ 31) (hi : i = nI j) (hj : j < n) (h01 : x = 0 ∨ x = 1) (kk : GW K nL E wd A q lo st (put h k j x)) : GW K nL E wd A pc lo (.int x :: .int i :: .ref (wd.2.1 k) :: st) h := by
  subst hq hi
  obtain ⟨p, l, e, R, s, m, args, below, meth, c, cells, slots, Q⟩ := K
  obtain ⟨hx, hb, hml, hret, hlk, hown, hts, hN, hK, hA, hZ, hdf, hdl, hcc, hcs⟩ := X
  intro H locs ls hP hD hS hl
  have he : (mkW wd h)[k]? = some (wd.2.1 k, .inl (E.2.1 1, n, .inl (h k))) := by rw [mkW_at hk, hc]
  have e2 : (mkW wd h).set k (wd.2.1 k, .inl (E.2.1 1, n, .inl (upd (h k) j x))) = mkW wd (put h k j x) := by
    rw [← hc, mkW_set hk]; rfl
  refine va_zast hx hb hK hP hD hS k 1 he rfl (nI_in hj hn) hd (fun H1 locs1 h1 h2 h3 => ?_)
  have e3 : vp_nar .boolean x = x := by rcases h01 with rfl | rfl <;> decide +kernel
  rw [nI_clamp (Nat.lt_trans hj hn), e3, e2] at h1 h2
  exact kk H1 locs1 ls h1 h2 h3 hl
theorem P_aald (X : Cx K own cc nL ret E A d) {k n j : Nat} {i : Int32} {f : Nat → Option Nat} {a : Nat} (q : Nat) (hd : decode cc pc = .ok (.aaload, 1)) (hq : pc + 1 = q) (hk : k < wd.1) (hc : wd.2.2 k (h k) = .inl (E.2.1 2, n, .inr (.inr (.inr (.inr f))))) (hn : n < 2 ^ 31) (hi : i = nI j) (hj : j < n) (ha : f j = some a) (kk : GW K nL E wd A q lo (.ref a :: st) h) : GW K nL E wd A pc lo (.int i :: .ref (wd.2.1 k) :: st) h := by
  subst hq hi
  obtain ⟨p, l, e, R, s, m, args, below, meth, c, cells, slots, Q⟩ := K
  obtain ⟨hx, hb, hml, hret, hlk, hown, hts, hN, hK, hA, hZ, hdf, hdl, hcc, hcs⟩ := X
  intro H locs ls hP hD hS hl
  have he : (mkW wd h)[k]? = some (wd.2.1 k, .inl (E.2.1 2, n, .inr (.inr (.inr (.inr f))))) := by rw [mkW_at hk, hc]
  refine va_aldq hx hb hK hP k 2 he rfl (nI_in hj hn) hd ?_
  rw [nI_clamp (Nat.lt_trans hj hn), ha]
  exact kk H locs ls hP hD hS hl
/-- ABOVE -/
theorem P_above (X : Cx K own cc nL ret E A d) {ix : Nat} (q : Nat) (hd : decode cc pc = .ok (.getstatic ix, 3)) (hq : pc + 3 = q) (hF : Cond.fieldLink own ix "TownAsks" "ABOVE" "[I" ∈ TB ∨ ∃ host, Cond.fieldLinkNest own ix "TownAsks" "ABOVE" "[I" host ∈ NWl) (kk : GW K nL E wd A q lo (.ref E.2.2.2 :: st) h) : GW K nL E wd A pc lo st h := by
  subst hq
  obtain ⟨p, l, e, R, s, m, args, below, meth, c, cells, slots, Q⟩ := K
  obtain ⟨hx, hb, hml, hret, hlk, hown, hts, hN, hK, hA, hZ, hdf, hdl, hcc, hcs⟩ := X
  intro H locs ls hP hD hS hl
  rcases hF with f4 | ⟨host, f4⟩
  · exact va_gets hx hb hZ.1 hS hown (hts _ f4) (fun _ z => z) hd (kk H locs ls hP hD hS hl)
  · exact va_getsN hx hb hZ.1 hS hown (va_Nw.use rfl (hN _ f4)) (fun _ z => z) hd (kk H locs ls hP hD hS hl)
theorem P_aboveld (X : Cx K own cc nL ret E A d) {j : Nat} {i : Int32} (q : Nat) (hd : decode cc pc = .ok (.iaload, 1)) (hq : pc + 1 = q) (hi : i = nI j) (hj : j < 5) (kk : GW K nL E wd A q lo (.int (abv j) :: st) h) : GW K nL E wd A pc lo (.int i :: .ref E.2.2.2 :: st) h := by
  subst hq hi
  obtain ⟨p, l, e, R, s, m, args, below, meth, c, cells, slots, Q⟩ := K
  obtain ⟨hx, hb, hml, hret, hlk, hown, hts, hN, hK, hA, hZ, hdf, hdl, hcc, hcs⟩ := X
  intro H locs ls hP hD hS hl
  exact va_ti hx hb hZ.2 hS (nI_in hj (by decide)) (by rw [nI_clamp (by omega)]; rfl) hd (kk H locs ls hP hD hS hl)
theorem P_abs (X : Cx K own cc nL ret E A d) {ix : Nat} {x : Int32} (q : Nat) (hd : decode cc pc = .ok (.invokestatic ix, 3)) (hq : pc + 3 = q) (w1 : Cond.methodLink own ix Lib.Math.abs.name ∈ TB) (w2 : Cond.static Lib.Math.abs.name ∈ TB) (w3 : Cond.initialized "java/lang/Math" ∈ TB) (w4 : Cond.code Lib.Math.abs.name Lib.Math.abs.code 1 (some .int) ∈ TB) (h1 : 1 ≤ d) (hcat : (st.map fun v => v.category).sum ≤ 8) (kk : GW K nL E wd A q lo (.int (if 0 ≤ x then x else 0 - x) :: st) h) : GW K nL E wd A pc lo (.int x :: st) h := by
  subst hq
  obtain ⟨p, l, e, R, s, m, args, below, meth, c, cells, slots, Q⟩ := K
  obtain ⟨hx, hb, hml, hret, hlk, hown, hts, hN, hK, hA, hZ, hdf, hdl, hcc, hcs⟩ := X
  intro H locs ls hP hD hS hl
  exact va_mabs hx hb (by rw [hml]; exact hl.1.symm) hown (hts _ w1) (hts _ w2) (hts _ w3) (hts _ w4) (by omega) (by omega) hcc hcs hd (kk H locs ls hP hD hS hl)
theorem P_iret (X : Cx K own cc nL (some .int) E A d) {post : Option Value → Hp → Prop} (hQ : KQ K E wd post A) {v : Int32} (hd : decode cc pc = .ok (.ireturn, 1)) (hp : post (some (.int v)) h) : GW K nL E wd A pc lo [.int v] h := by
  obtain ⟨p, l, e, R, s, m, args, below, meth, c, cells, slots, Q⟩ := K
  obtain ⟨hx, hb, hml, hret, hlk, hown, hts, hN, hK, hA, hZ, hdf, hdl, hcc, hcs⟩ := X
  cases hQ
  intro H locs ls hP hD hS hl
  exact W.iret hx hb hret (fun t ht hW => ⟨⟨some (.int v), h, rfl, hp, by rw [ht]; exact hP, va_K.moved hW.alike hK, hD⟩, hS.F ht⟩) hS.2.2 hd hlk
theorem P_zret (X : Cx K own cc nL (some .boolean) E A d) {post : Option Value → Hp → Prop} (hQ : KQ K E wd post A) {v : Int32} (hd : decode cc pc = .ok (.ireturn, 1)) (h01 : v = 0 ∨ v = 1) (hp : post (some (.int v)) h) : GW K nL E wd A pc lo [.int v] h := by
  obtain ⟨p, l, e, R, s, m, args, below, meth, c, cells, slots, Q⟩ := K
  obtain ⟨hx, hb, hml, hret, hlk, hown, hts, hN, hK, hA, hZ, hdf, hdl, hcc, hcs⟩ := X
  cases hQ
  intro H locs ls hP hD hS hl
  exact W.zret hx hb hret (by rcases h01 with rfl | rfl <;> decide +kernel) (fun t ht hW => ⟨⟨some (.int v), h, rfl, hp, by rw [ht]; exact hP, va_K.moved hW.alike hK, hD⟩, hS.F ht⟩) hS.2.2 hd hlk
theorem P_ret (X : Cx K own cc nL none E A d) {post : Option Value → Hp → Prop} (hQ : KQ K E wd post A) (hd : decode cc pc = .ok (.return_, 1)) (hp : post none h) : GW K nL E wd A pc lo [] h := by
  obtain ⟨p, l, e, R, s, m, args, below, meth, c, cells, slots, Q⟩ := K
  obtain ⟨hx, hb, hml, hret, hlk, hown, hts, hN, hK, hA, hZ, hdf, hdl, hcc, hcs⟩ := X
  cases hQ
  intro H locs ls hP hD hS hl
  exact W.vret hx hb hret (fun t ht hW => ⟨⟨none, h, rfl, hp, by rw [ht]; exact hP, va_K.moved hW.alike hK, hD⟩, hS.F ht⟩) hS.2.2 hd hlk
theorem P_lookup (X : Cx K own cc nL ret E A d) {dflt : Int} {ps : Array (Int × Int)} {len : Nat} {x : Int32} {off : Int} (q : Nat) (hd : decode cc pc = .ok (.lookupswitch dflt ps, len)) (hp : (ps.toList.zip (ps.toList.drop 1)).all (fun (a, next) => a.1 < next.1) = true) (ho : Op.lookupswitch.offset ps.toList dflt x.toInt = off) (hq : (pc : Int) + off = (q : Int)) (k : GW K nL E wd A q lo st h) : GW K nL E wd A pc lo (.int x :: st) h := by
  obtain ⟨p, l, e, R, s, m, args, below, meth, c, cells, slots, Q⟩ := K
  obtain ⟨hx, hb, hml, hret, hlk, hown, hts, hN, hK, hA, hZ, hdf, hdl, hcc, hcs⟩ := X
  exact fun H locs ls hP hD hS hl => lv_lookup hx hb hd hp ho hq (k H locs ls hP hD hS hl)
theorem P_tblOut (X : Cx K own cc nL ret E A d) {dflt lw hi : Int} {offs : Array Int} {len : Nat} {x : Int32} (q : Nat) (hd : decode cc pc = .ok (.tableswitch dflt lw hi offs, len)) (hz : x.toInt < lw ∨ hi < x.toInt) (hq : (pc : Int) + dflt = (q : Int)) (k : GW K nL E wd A q lo st h) : GW K nL E wd A pc lo (.int x :: st) h := by
  obtain ⟨p, l, e, R, s, m, args, below, meth, c, cells, slots, Q⟩ := K
  obtain ⟨hx, hb, hml, hret, hlk, hown, hts, hN, hK, hA, hZ, hdf, hdl, hcc, hcs⟩ := X
  exact fun H locs ls hP hD hS hl => lv_tableOut hx hb hd hz hq (k H locs ls hP hD hS hl)
theorem P_tblIn (X : Cx K own cc nL ret E A d) {dflt lw hi : Int} {offs : Array Int} {len : Nat} {x : Int32} {off : Int} (q : Nat) (hd : decode cc pc = .ok (.tableswitch dflt lw hi offs, len)) (h1 : ¬ x.toInt < lw) (h2 : ¬ hi < x.toInt) (ho : offs[(x.toInt - lw).toNat]? = some off) (hq : (pc : Int) + off = (q : Int)) (k : GW K nL E wd A q lo st h) : GW K nL E wd A pc lo (.int x :: st) h := by
  obtain ⟨p, l, e, R, s, m, args, below, meth, c, cells, slots, Q⟩ := K
  obtain ⟨hx, hb, hml, hret, hlk, hown, hts, hN, hK, hA, hZ, hdf, hdl, hcc, hcs⟩ := X
  exact fun H locs ls hP hD hS hl => lv_tableIn hx hb hd h1 h2 ho hq (k H locs ls hP hD hS hl)
theorem P_top {x y : Int32} (e : x = y) (k : GW K nL E wd A pc lo (.int y :: st) h) : GW K nL E wd A pc lo (.int x :: st) h := by rw [e]; exact k
theorem P_tn (x : Int32) (k : ∀ y, y = x → GW K nL E wd A pc lo (.int y :: st) h) : GW K nL E wd A pc lo (.int x :: st) h := k x rfl
/-- what a callee's start needs, out of the caller's -/
theorem PP_of {s U : State} {H : Heap} {locs : List Loc} {avs : List Value} (hN : NW s) (hK : va_K E.1 vwCl (tyE E) s) (hA : ∀ q, s.heap.size ≤ q → A q) (hZ : ZZ E A s s.heap) (hP : va_P E.1 vwCl (mkW wd h) H) (hD : va_D A (mkW wd h)) (hS : va_S A s.heap H locs) (hU : U.heap = H) (hW : s.WarmedH U.vm) : PP E wd avs h H.size avs.toArray U := by
  have hF : ∀ q, AW wd H.size q → A q := by
    intro q hq
    rcases hq with ⟨k, hk, rfl⟩ | hq
    · exact hD.2 k _ (mkW_at hk)
    · exact hA q (Nat.le_trans hS.1 hq)
  subst hU
  exact ⟨rfl, rfl, hP, va_K.moved hW.alike hK, mkW_D hD (fun _ _ => trivial), NW.warm hW hN, (va_Z.moved hW.alike (hZ.1.kept hS.2.1)).narrow hF, (va_T.moved hW.alike (hZ.2.kept hS.2.1)).narrow hF⟩
theorem P_run {p : Program} {l : Launch} {e : Env} {R : Room} {s : State} {m : MethodId} {args : Array Value} {below : List Frame} {meth : Method} {c : Code} {cells slots : Nat} {Q : State → Prop} {H : Heap} {locs : List Loc} {ls : Array Slot} {st0 : List Value} {post : Option Value → Hp → Prop} {a : Array Value}
    (hA : ∀ q, s.heap.size ≤ q → A q) (hD : va_D A (mkW wd h)) (hS : va_S A s.heap H locs) (hl : lv_has ls nL (lvp 0 lo))
    (run : va_Run p l e R s m args below meth c H locs cells slots 0 0 (F0 m pc ls st0) st (QP E wd post (AW wd H.size) a) (AW wd H.size))
    (kk : ∀ r h', post r h' → GW (p, l, e, R, s, m, args, below, meth, c, cells, slots, Q) nL E wd A (pc + 3) lo (r.toList ++ st) h') : W p l e R s m args below meth c H locs cells slots Q (F0 m pc ls st0) := by
  have hF : ∀ q, AW wd H.size q → A q := by
    intro q hq
    rcases hq with ⟨k, hk, rfl⟩ | hq
    · exact hD.2 k _ (mkW_at hk)
    · exact hA q (Nat.le_trans hS.1 hq)
  intro T hT XX
  obtain ⟨v, st₀, t, T', L, h0, X', hL, e1, e2, ⟨⟨r, h', hv, hp, hP1, hK1, hD1⟩, hz, hkk⟩, stp⟩ := run T hT XX
  cases hv
  rw [h0] at hz hkk
  obtain ⟨t2, a1, b1⟩ := kk v h' hp T'.heap (locs ++ L) ls (by rw [e1]; exact hP1) (mkW_D hD (fun k hk => hD.2 k _ (mkW_at hk)))
    ⟨Nat.le_trans hS.1 (by rw [e1]; exact hz), fun q h1 h2 => by rw [e1, hkk q (Nat.lt_of_lt_of_le h1 hS.1) (fun z => h2 (hF q z))]; exact hS.2.1 q h1 h2, fun q hq => by
      rcases List.mem_append.mp hq with h | h
      · exact hS.2.2 q h
      · exact hF _ (hL q h)⟩ hl T' rfl X'
  exact ⟨t2, stp t2 a1, b1⟩
theorem P_callV (X : Cx K own cc nL ret E A d) {y : MethodName} {cc' : ByteArray} {nL' n ix k ci N : Nat} {ret' : Option FieldType} {post : Option Value → Hp → Prop} {avs st0 fs : List Value} {T : u_T} (q : Nat) (hd : decode cc pc = .ok (.invokevirtual ix, 3)) (hq : pc + 3 = q) (hL : LK own ix y) (hV : MV y cc' nL' ret' n) (h1 : 1 ≤ d) (hM : Cl (d - 1) y cc' nL' ret' E wd (.ref (wd.2.1 k) :: avs) h post) (hst : st0 = avs.reverse ++ .ref (wd.2.1 k) :: st) (hn : avs.length = n) (hcat : (st.map fun v => v.category).sum ≤ 8) (hk : k < wd.1) (hc : wd.2.2 k (h k) = .inr (ci, fs)) (hcl : vwCl[ci]? = some (y.cls, T, N)) (kk : ∀ r h', post r h' → GW K nL E wd A q lo (r.toList ++ st) h') : GW K nL E wd A pc lo st0 h := by
  subst hq
  obtain ⟨p, l, e, R, s, m, args, below, meth, c, cells, slots, Q⟩ := K
  obtain ⟨hx, hb, hml, hret, hlk, hown, hts, hN, hK, hA, hZ, hdf, hdl, hcc, hcs⟩ := X
  obtain ⟨⟨m1, m2, m3, m4⟩, m5, m6⟩ := hV
  intro H locs ls hP hD hS hl
  have he : (mkW wd h)[k]? = some (wd.2.1 k, .inr (ci, fs)) := by rw [mkW_at hk, hc]
  have hR : (rmD (d - 1)).frames + 1 ≤ R.frames ∧ 8 + (nL' + 11) + (rmD (d - 1)).locals ≤ R.locals := ⟨by show d - 1 + 1 ≤ _; omega, by show 8 + (nL' + 11) + 40 * (d - 1) ≤ _; omega⟩
  have hp : PreV s H y.cls (wd.2.1 k) (PP E wd (.ref (wd.2.1 k) :: avs) h H.size) avs := ⟨PP_blind, va_recv hK hP hcl he, fun U hU hW => PP_of hN hK hA hZ hP hD hS hU hW⟩
  refine P_run (a := (Value.ref (wd.2.1 k) :: avs).toArray) hA hD hS hl ?_ kk
  rcases hL with hL | ⟨host, hL⟩
  · exact va_runV ⟨hx, hb, hml, hown, hts⟩ (hM l H.size) ⟨callB_of n hts (wsM_good0 m1) rfl rfl rfl (hts _ m2) (hts _ hL) m3 hR, hts _ m5, hts _ m6⟩ hp rfl hn hl.1 hst (lv_room hcat) hd ⟨hcc, hcs⟩
  · exact va_runVN ⟨hx, hb, hml, hown, hts⟩ (hM l H.size) ⟨va_cnB n hts (wsM_good0 m1) rfl rfl rfl (hN _ hL) (hts _ m2) m3 hR, hts _ m5, hts _ m6⟩ hp rfl hn hl.1 hst (lv_room hcat) hd ⟨hcc, hcs⟩
theorem P_callS (X : Cx K own cc nL ret E A d) {y : MethodName} {cc' : ByteArray} {nL' n ix : Nat} {ret' : Option FieldType} {post : Option Value → Hp → Prop} {avs st0 : List Value} (q : Nat) (hd : decode cc pc = .ok (.invokestatic ix, 3)) (hq : pc + 3 = q) (hL : LK own ix y) (hV : MS y cc' nL' ret' n) (h1 : 1 ≤ d) (hM : Cl (d - 1) y cc' nL' ret' E wd avs h post) (hst : st0 = avs.reverse ++ st) (hn : avs.length = n) (hcat : (st.map fun v => v.category).sum ≤ 8) (kk : ∀ r h', post r h' → GW K nL E wd A q lo (r.toList ++ st) h') : GW K nL E wd A pc lo st0 h := by
  subst hq
  obtain ⟨p, l, e, R, s, m, args, below, meth, c, cells, slots, Q⟩ := K
  obtain ⟨hx, hb, hml, hret, hlk, hown, hts, hN, hK, hA, hZ, hdf, hdl, hcc, hcs⟩ := X
  obtain ⟨⟨m1, m2, m3, m4⟩, m5⟩ := hV
  intro H locs ls hP hD hS hl
  have hR : (rmD (d - 1)).frames + 1 ≤ R.frames ∧ 8 + (nL' + 11) + (rmD (d - 1)).locals ≤ R.locals := ⟨by show d - 1 + 1 ≤ _; omega, by show 8 + (nL' + 11) + 40 * (d - 1) ≤ _; omega⟩
  have hp : PreS s H (PP E wd avs h H.size) avs := ⟨PP_blind, fun U hU hW => PP_of hN hK hA hZ hP hD hS hU hW⟩
  refine P_run (a := avs.toArray) hA hD hS hl ?_ kk
  rcases hL with hL | ⟨host, hL⟩
  · exact va_runS ⟨hx, hb, hml, hown, hts⟩ (hM l H.size) ⟨callB_of n hts (wsM_good0 m1) rfl rfl rfl (hts _ m2) (hts _ hL) m3 hR, hts _ m5⟩ hp rfl hn hl.1 hst (lv_room hcat) hd ⟨hcc, hcs⟩
  · exact va_runSN ⟨hx, hb, hml, hown, hts⟩ (hM l H.size) ⟨va_cnB n hts (wsM_good0 m1) rfl rfl rfl (hN _ hL) (hts _ m2) m3 hR, hts _ m5, trivial⟩ hp rfl hn hl.1 hst (lv_room hcat) hd ⟨hcc, hcs⟩
theorem P_cpy (X : Cx K own cc nL ret E A d) {ix k0 k1 n0 n1 js jd jn : Nat} {sp dp n : Int32} (q : Nat) (hd : decode cc pc = .ok (.invokestatic ix, 3)) (hq : pc + 3 = q) (w1 : Cond.methodLink own ix arraycopyName ∈ TB) (w2 : Cond.native arraycopyName ∈ TB) (w3 : Cond.static arraycopyName ∈ TB) (w4 : Cond.initialized "java/lang/System" ∈ TB) (h1 : 1 ≤ d) (hk0 : k0 < wd.1) (hk1 : k1 < wd.1) (hc0 : ∀ f, wd.2.2 k0 f = .inl (E.2.1 0, n0, .inl f)) (hc1 : ∀ f, wd.2.2 k1 f = .inl (E.2.1 0, n1, .inl f)) (hs : sp = nI js) (hdd : dp = nI jd) (hnn : n = nI jn) (b0 : js + jn ≤ n0) (b1 : jd + jn ≤ n1) (b2 : n0 < 2 ^ 31) (b3 : n1 < 2 ^ 31) (hcat : (st.map fun v => v.category).sum ≤ 8)
    (kk : GW K nL E wd A q lo st (up2 h k1 (va_cpy (h k0) (h k1) js jd jn))) : GW K nL E wd A pc lo (.int n :: .int dp :: .ref (wd.2.1 k1) :: .int sp :: .ref (wd.2.1 k0) :: st) h := by
  subst hq hs hdd hnn
  obtain ⟨p, l, e, R, s, m, args, below, meth, c, cells, slots, Q⟩ := K
  obtain ⟨hx, hb, hml, hret, hlk, hown, hts, hN, hK, hA, hZ, hdf, hdl, hcc, hcs⟩ := X
  intro H locs ls hP hD hS hl
  have he0 : (mkW wd h)[k0]? = some (wd.2.1 k0, .inl (E.2.1 0, n0, .inl (h k0))) := by rw [mkW_at hk0, hc0]
  have he1 : (mkW wd h)[k1]? = some (wd.2.1 k1, .inl (E.2.1 0, n1, .inl (h k1))) := by rw [mkW_at hk1, hc1]
  have e2 : (mkW wd h).set k1 (wd.2.1 k1, .inl (E.2.1 0, n1, .inl (va_cpy (h k0) (h k1) js jd jn))) = mkW wd (up2 h k1 (va_cpy (h k0) (h k1) js jd jn)) := by
    rw [← hc1, mkW_set hk1]
  have cs : (nI js).toNatClampNeg = js := nI_clamp (by omega)
  have cd : (nI jd).toNatClampNeg = jd := nI_clamp (by omega)
  have cn : (nI jn).toNatClampNeg = jn := nI_clamp (by omega)
  refine va_copyi hx hb (by rw [hml]; exact hl.1.symm) hown (hts _ w1) (hts _ w2) (hts _ w3) (hts _ w4) hK hP hD hS k0 k1 0 0 he0 he1 rfl rfl rfl (nI_pos (by omega)) (nI_pos (by omega)) (nI_pos (by omega)) (by rw [cs, cn]; exact b0) (by rw [cd, cn]; exact b1) (fun _ _ => rfl) (by omega) (by show _ + (7 + 11) ≤ _; omega) hd (fun H1 locs1 h1 h2 h3 => ?_)
  rw [cs, cd, cn, e2] at h1 h2
  exact kk H1 locs1 ls h1 h2 h3 hl
end PR2
end
section
theorem uwX0 : ∀ w ∈ u_ws RX0 TX0 9, w ∈ TB := by decide +kernel
theorem uwX1 : ∀ w ∈ u_ws RX1 TX1 11, w ∈ TB := by decide +kernel
theorem uwX2 : ∀ w ∈ u_ws RX2 TX2 5, w ∈ TB := by decide +kernel
theorem uwX3 : ∀ w ∈ u_ws RX3 TX3 4, w ∈ TB := by decide +kernel
theorem uwX4 : ∀ w ∈ u_ws RX4 TX4 3, w ∈ TB := by decide +kernel
theorem uwX5 : ∀ w ∈ u_ws RX5 TX5 3, w ∈ TB := by decide +kernel
theorem uwX6 : ∀ w ∈ u_ws RX6 TX6 2, w ∈ TB := by decide +kernel
theorem uwX7 : ∀ w ∈ u_ws RX7 TX7 7, w ∈ TB := by decide +kernel
theorem uwX8 : ∀ w ∈ u_ws RX8 TX8 12, w ∈ TB := by decide +kernel
theorem uwX9 : ∀ w ∈ u_ws RX9 TX9 41, w ∈ TB := by decide +kernel
theorem lk_L_9 : LK RL 9 yX8_init := Or.inl (TB_of 57 (by decide +kernel) rfl)
theorem lo_X8_1 : Cond.methodLink RX8 1 objectInit ∈ TB := TB_of 60 (by decide +kernel) rfl
theorem lk_X8_9 : LK RX8 9 yX0_init := Or.inr ⟨"TownAsks", NWl_of 65 (by decide +kernel) rfl⟩
theorem lo_X0_3 : Cond.methodLink RX0 3 objectInit ∈ TB := TB_of 68 (by decide +kernel) rfl
theorem fl_X0_9 : FL RX0 9 0 0 := ⟨RX0, TX0, 9, rfl, by decide, uwX0, Or.inl (TB_of 69 (by decide +kernel) rfl), rfl⟩
theorem fl_X8_120 : FL RX8 120 0 0 := ⟨RX0, TX0, 9, rfl, by decide, uwX0, Or.inr ⟨"TownAsks", NWl_of 70 (by decide +kernel) rfl⟩, rfl⟩
theorem fl_X0_15 : FL RX0 15 0 1 := ⟨RX0, TX0, 9, rfl, by decide, uwX0, Or.inl (TB_of 71 (by decide +kernel) rfl), rfl⟩
theorem fl_X8_331 : FL RX8 331 0 1 := ⟨RX0, TX0, 9, rfl, by decide, uwX0, Or.inr ⟨"TownAsks", NWl_of 72 (by decide +kernel) rfl⟩, rfl⟩
theorem fl_X0_18 : FL RX0 18 0 2 := ⟨RX0, TX0, 9, rfl, by decide, uwX0, Or.inl (TB_of 73 (by decide +kernel) rfl), rfl⟩
theorem fl_X8_334 : FL RX8 334 0 2 := ⟨RX0, TX0, 9, rfl, by decide, uwX0, Or.inr ⟨"TownAsks", NWl_of 74 (by decide +kernel) rfl⟩, rfl⟩
theorem fl_X0_21 : FL RX0 21 0 3 := ⟨RX0, TX0, 9, rfl, by decide, uwX0, Or.inl (TB_of 75 (by decide +kernel) rfl), rfl⟩
theorem fl_X0_24 : FL RX0 24 0 4 := ⟨RX0, TX0, 9, rfl, by decide, uwX0, Or.inl (TB_of 76 (by decide +kernel) rfl), rfl⟩
theorem fl_X8_325 : FL RX8 325 0 4 := ⟨RX0, TX0, 9, rfl, by decide, uwX0, Or.inr ⟨"TownAsks", NWl_of 77 (by decide +kernel) rfl⟩, rfl⟩
theorem fl_X0_27 : FL RX0 27 0 5 := ⟨RX0, TX0, 9, rfl, by decide, uwX0, Or.inl (TB_of 78 (by decide +kernel) rfl), rfl⟩
theorem fl_X8_127 : FL RX8 127 0 5 := ⟨RX0, TX0, 9, rfl, by decide, uwX0, Or.inr ⟨"TownAsks", NWl_of 79 (by decide +kernel) rfl⟩, rfl⟩
theorem fl_X0_30 : FL RX0 30 0 6 := ⟨RX0, TX0, 9, rfl, by decide, uwX0, Or.inl (TB_of 80 (by decide +kernel) rfl), rfl⟩
theorem fl_X8_103 : FL RX8 103 0 6 := ⟨RX0, TX0, 9, rfl, by decide, uwX0, Or.inr ⟨"TownAsks", NWl_of 81 (by decide +kernel) rfl⟩, rfl⟩
theorem fl_X0_33 : FL RX0 33 0 7 := ⟨RX0, TX0, 9, rfl, by decide, uwX0, Or.inl (TB_of 82 (by decide +kernel) rfl), rfl⟩
theorem fl_X8_106 : FL RX8 106 0 7 := ⟨RX0, TX0, 9, rfl, by decide, uwX0, Or.inr ⟨"TownAsks", NWl_of 83 (by decide +kernel) rfl⟩, rfl⟩
theorem fl_X0_36 : FL RX0 36 0 8 := ⟨RX0, TX0, 9, rfl, by decide, uwX0, Or.inl (TB_of 84 (by decide +kernel) rfl), rfl⟩
theorem fw_X0_36 : FW RX0 36 0 8 := ⟨RX0, TX0, 9, tyX0, rfl, by decide, uwX0, Or.inl (TB_of 84 (by decide +kernel) rfl), rfl, tyX0_ok, nmX0, rfl, by decide +kernel⟩
theorem fl_X8_95 : FL RX8 95 0 8 := ⟨RX0, TX0, 9, rfl, by decide, uwX0, Or.inr ⟨"TownAsks", NWl_of 85 (by decide +kernel) rfl⟩, rfl⟩
theorem fw_X8_95 : FW RX8 95 0 8 := ⟨RX0, TX0, 9, tyX0, rfl, by decide, uwX0, Or.inr ⟨"TownAsks", NWl_of 85 (by decide +kernel) rfl⟩, rfl, tyX0_ok, nmX0, rfl, by decide +kernel⟩
theorem lk_X8_18 : LK RX8 18 yX7_init := Or.inr ⟨"TownAsks", NWl_of 108 (by decide +kernel) rfl⟩
theorem lo_X7_3 : Cond.methodLink RX7 3 objectInit ∈ TB := TB_of 111 (by decide +kernel) rfl
theorem fl_X7_9 : FL RX7 9 7 0 := ⟨RX7, TX7, 7, rfl, by decide, uwX7, Or.inl (TB_of 112 (by decide +kernel) rfl), rfl⟩
theorem fl_X8_322 : FL RX8 322 7 0 := ⟨RX7, TX7, 7, rfl, by decide, uwX7, Or.inr ⟨"TownAsks", NWl_of 113 (by decide +kernel) rfl⟩, rfl⟩
theorem fl_X7_15 : FL RX7 15 7 1 := ⟨RX7, TX7, 7, rfl, by decide, uwX7, Or.inl (TB_of 114 (by decide +kernel) rfl), rfl⟩
theorem fl_X8_218 : FL RX8 218 7 1 := ⟨RX7, TX7, 7, rfl, by decide, uwX7, Or.inr ⟨"TownAsks", NWl_of 115 (by decide +kernel) rfl⟩, rfl⟩
theorem fl_X7_19 : FL RX7 19 7 2 := ⟨RX7, TX7, 7, rfl, by decide, uwX7, Or.inl (TB_of 116 (by decide +kernel) rfl), rfl⟩
theorem fl_X8_340 : FL RX8 340 7 2 := ⟨RX7, TX7, 7, rfl, by decide, uwX7, Or.inr ⟨"TownAsks", NWl_of 117 (by decide +kernel) rfl⟩, rfl⟩
theorem fl_X7_22 : FL RX7 22 7 3 := ⟨RX7, TX7, 7, rfl, by decide, uwX7, Or.inl (TB_of 118 (by decide +kernel) rfl), rfl⟩
theorem fl_X8_343 : FL RX8 343 7 3 := ⟨RX7, TX7, 7, rfl, by decide, uwX7, Or.inr ⟨"TownAsks", NWl_of 119 (by decide +kernel) rfl⟩, rfl⟩
theorem fl_X7_25 : FL RX7 25 7 4 := ⟨RX7, TX7, 7, rfl, by decide, uwX7, Or.inl (TB_of 120 (by decide +kernel) rfl), rfl⟩
theorem fl_X8_233 : FL RX8 233 7 4 := ⟨RX7, TX7, 7, rfl, by decide, uwX7, Or.inr ⟨"TownAsks", NWl_of 121 (by decide +kernel) rfl⟩, rfl⟩
theorem fl_X7_28 : FL RX7 28 7 5 := ⟨RX7, TX7, 7, rfl, by decide, uwX7, Or.inl (TB_of 122 (by decide +kernel) rfl), rfl⟩
theorem fl_X8_230 : FL RX8 230 7 5 := ⟨RX7, TX7, 7, rfl, by decide, uwX7, Or.inr ⟨"TownAsks", NWl_of 123 (by decide +kernel) rfl⟩, rfl⟩
theorem fl_X7_31 : FL RX7 31 7 6 := ⟨RX7, TX7, 7, rfl, by decide, uwX7, Or.inl (TB_of 124 (by decide +kernel) rfl), rfl⟩
theorem fw_X7_31 : FW RX7 31 7 6 := ⟨RX7, TX7, 7, tyX7, rfl, by decide, uwX7, Or.inl (TB_of 124 (by decide +kernel) rfl), rfl, tyX7_ok, nmX7, rfl, by decide +kernel⟩
theorem fl_X8_292 : FL RX8 292 7 6 := ⟨RX7, TX7, 7, rfl, by decide, uwX7, Or.inr ⟨"TownAsks", NWl_of 125 (by decide +kernel) rfl⟩, rfl⟩
theorem fw_X8_292 : FW RX8 292 7 6 := ⟨RX7, TX7, 7, tyX7, rfl, by decide, uwX7, Or.inr ⟨"TownAsks", NWl_of 125 (by decide +kernel) rfl⟩, rfl, tyX7_ok, nmX7, rfl, by decide +kernel⟩
theorem lk_X8_25 : LK RX8 25 yX3_init := Or.inr ⟨"TownAsks", NWl_of 144 (by decide +kernel) rfl⟩
theorem lo_X3_3 : Cond.methodLink RX3 3 objectInit ∈ TB := TB_of 147 (by decide +kernel) rfl
theorem fl_X3_9 : FL RX3 9 3 0 := ⟨RX3, TX3, 4, rfl, by decide, uwX3, Or.inl (TB_of 148 (by decide +kernel) rfl), rfl⟩
theorem fl_X3_15 : FL RX3 15 3 1 := ⟨RX3, TX3, 4, rfl, by decide, uwX3, Or.inl (TB_of 149 (by decide +kernel) rfl), rfl⟩
theorem fl_X3_24 : FL RX3 24 3 2 := ⟨RX3, TX3, 4, rfl, by decide, uwX3, Or.inl (TB_of 150 (by decide +kernel) rfl), rfl⟩
theorem fw_X3_24 : FW RX3 24 3 2 := ⟨RX3, TX3, 4, tyX3, rfl, by decide, uwX3, Or.inl (TB_of 150 (by decide +kernel) rfl), rfl, tyX3_ok, nmX3, rfl, by decide +kernel⟩
theorem fl_X3_28 : FL RX3 28 3 3 := ⟨RX3, TX3, 4, rfl, by decide, uwX3, Or.inl (TB_of 151 (by decide +kernel) rfl), rfl⟩
theorem fw_X3_28 : FW RX3 28 3 3 := ⟨RX3, TX3, 4, tyX3, rfl, by decide, uwX3, Or.inl (TB_of 151 (by decide +kernel) rfl), rfl, tyX3_ok, nmX3, rfl, by decide +kernel⟩
theorem lk_X8_32 : LK RX8 32 yX6_init := Or.inr ⟨"TownAsks", NWl_of 163 (by decide +kernel) rfl⟩
theorem lo_X6_1 : Cond.methodLink RX6 1 objectInit ∈ TB := TB_of 166 (by decide +kernel) rfl
theorem fl_X6_9 : FL RX6 9 6 0 := ⟨RX6, TX6, 2, rfl, by decide, uwX6, Or.inl (TB_of 167 (by decide +kernel) rfl), rfl⟩
theorem fl_X2_33 : FL RX2 33 6 0 := ⟨RX6, TX6, 2, rfl, by decide, uwX6, Or.inr ⟨"TownAsks", NWl_of 168 (by decide +kernel) rfl⟩, rfl⟩
theorem fl_X6_13 : FL RX6 13 6 1 := ⟨RX6, TX6, 2, rfl, by decide, uwX6, Or.inl (TB_of 169 (by decide +kernel) rfl), rfl⟩
theorem fw_X6_13 : FW RX6 13 6 1 := ⟨RX6, TX6, 2, tyX6, rfl, by decide, uwX6, Or.inl (TB_of 169 (by decide +kernel) rfl), rfl, tyX6_ok, nmX6, rfl, by decide +kernel⟩
theorem fl_X2_28 : FL RX2 28 6 1 := ⟨RX6, TX6, 2, rfl, by decide, uwX6, Or.inr ⟨"TownAsks", NWl_of 170 (by decide +kernel) rfl⟩, rfl⟩
theorem fw_X2_28 : FW RX2 28 6 1 := ⟨RX6, TX6, 2, tyX6, rfl, by decide, uwX6, Or.inr ⟨"TownAsks", NWl_of 170 (by decide +kernel) rfl⟩, rfl, tyX6_ok, nmX6, rfl, by decide +kernel⟩
theorem fl_X8_147 : FL RX8 147 6 1 := ⟨RX6, TX6, 2, rfl, by decide, uwX6, Or.inr ⟨"TownAsks", NWl_of 171 (by decide +kernel) rfl⟩, rfl⟩
theorem fw_X8_147 : FW RX8 147 6 1 := ⟨RX6, TX6, 2, tyX6, rfl, by decide, uwX6, Or.inr ⟨"TownAsks", NWl_of 171 (by decide +kernel) rfl⟩, rfl, tyX6_ok, nmX6, rfl, by decide +kernel⟩
theorem lk_X8_39 : LK RX8 39 yX2_init := Or.inr ⟨"TownAsks", NWl_of 179 (by decide +kernel) rfl⟩
theorem lo_X2_3 : Cond.methodLink RX2 3 objectInit ∈ TB := TB_of 182 (by decide +kernel) rfl
theorem fl_X2_11 : FL RX2 11 2 0 := ⟨RX2, TX2, 5, rfl, by decide, uwX2, Or.inl (TB_of 183 (by decide +kernel) rfl), rfl⟩
theorem fl_X2_15 : FL RX2 15 2 1 := ⟨RX2, TX2, 5, rfl, by decide, uwX2, Or.inl (TB_of 184 (by decide +kernel) rfl), rfl⟩
theorem fl_X2_18 : FL RX2 18 2 2 := ⟨RX2, TX2, 5, rfl, by decide, uwX2, Or.inl (TB_of 185 (by decide +kernel) rfl), rfl⟩
theorem fl_X2_21 : FL RX2 21 2 3 := ⟨RX2, TX2, 5, rfl, by decide, uwX2, Or.inl (TB_of 186 (by decide +kernel) rfl), rfl⟩
theorem fl_X2_24 : FL RX2 24 2 4 := ⟨RX2, TX2, 5, rfl, by decide, uwX2, Or.inl (TB_of 187 (by decide +kernel) rfl), rfl⟩
theorem fw_X2_24 : FW RX2 24 2 4 := ⟨RX2, TX2, 5, tyX2, rfl, by decide, uwX2, Or.inl (TB_of 187 (by decide +kernel) rfl), rfl, tyX2_ok, nmX2, rfl, by decide +kernel⟩
theorem fl_X8_162 : FL RX8 162 2 4 := ⟨RX2, TX2, 5, rfl, by decide, uwX2, Or.inr ⟨"TownAsks", NWl_of 188 (by decide +kernel) rfl⟩, rfl⟩
theorem fw_X8_162 : FW RX8 162 2 4 := ⟨RX2, TX2, 5, tyX2, rfl, by decide, uwX2, Or.inr ⟨"TownAsks", NWl_of 188 (by decide +kernel) rfl⟩, rfl, tyX2_ok, nmX2, rfl, by decide +kernel⟩
theorem lk_X8_46 : LK RX8 46 yX1_init := Or.inr ⟨"TownAsks", NWl_of 202 (by decide +kernel) rfl⟩
theorem lo_X1_3 : Cond.methodLink RX1 3 objectInit ∈ TB := TB_of 205 (by decide +kernel) rfl
theorem fl_X1_9 : FL RX1 9 1 0 := ⟨RX1, TX1, 11, rfl, by decide, uwX1, Or.inl (TB_of 206 (by decide +kernel) rfl), rfl⟩
theorem fl_X1_15 : FL RX1 15 1 1 := ⟨RX1, TX1, 11, rfl, by decide, uwX1, Or.inl (TB_of 207 (by decide +kernel) rfl), rfl⟩
theorem fl_X1_18 : FL RX1 18 1 2 := ⟨RX1, TX1, 11, rfl, by decide, uwX1, Or.inl (TB_of 208 (by decide +kernel) rfl), rfl⟩
theorem fl_X1_21 : FL RX1 21 1 3 := ⟨RX1, TX1, 11, rfl, by decide, uwX1, Or.inl (TB_of 209 (by decide +kernel) rfl), rfl⟩
theorem fl_X1_24 : FL RX1 24 1 4 := ⟨RX1, TX1, 11, rfl, by decide, uwX1, Or.inl (TB_of 210 (by decide +kernel) rfl), rfl⟩
theorem fl_X1_27 : FL RX1 27 1 5 := ⟨RX1, TX1, 11, rfl, by decide, uwX1, Or.inl (TB_of 211 (by decide +kernel) rfl), rfl⟩
theorem fl_X1_30 : FL RX1 30 1 6 := ⟨RX1, TX1, 11, rfl, by decide, uwX1, Or.inl (TB_of 212 (by decide +kernel) rfl), rfl⟩
theorem fl_X1_33 : FL RX1 33 1 7 := ⟨RX1, TX1, 11, rfl, by decide, uwX1, Or.inl (TB_of 213 (by decide +kernel) rfl), rfl⟩
theorem fw_X1_33 : FW RX1 33 1 7 := ⟨RX1, TX1, 11, tyX1, rfl, by decide, uwX1, Or.inl (TB_of 213 (by decide +kernel) rfl), rfl, tyX1_ok, nmX1, rfl, by decide +kernel⟩
theorem fl_X1_37 : FL RX1 37 1 8 := ⟨RX1, TX1, 11, rfl, by decide, uwX1, Or.inl (TB_of 214 (by decide +kernel) rfl), rfl⟩
theorem fw_X1_37 : FW RX1 37 1 8 := ⟨RX1, TX1, 11, tyX1, rfl, by decide, uwX1, Or.inl (TB_of 214 (by decide +kernel) rfl), rfl, tyX1_ok, nmX1, rfl, by decide +kernel⟩
theorem fl_X1_40 : FL RX1 40 1 9 := ⟨RX1, TX1, 11, rfl, by decide, uwX1, Or.inl (TB_of 215 (by decide +kernel) rfl), rfl⟩
theorem fw_X1_40 : FW RX1 40 1 9 := ⟨RX1, TX1, 11, tyX1, rfl, by decide, uwX1, Or.inl (TB_of 215 (by decide +kernel) rfl), rfl, tyX1_ok, nmX1, rfl, by decide +kernel⟩
theorem fl_X1_43 : FL RX1 43 1 10 := ⟨RX1, TX1, 11, rfl, by decide, uwX1, Or.inl (TB_of 216 (by decide +kernel) rfl), rfl⟩
theorem fw_X1_43 : FW RX1 43 1 10 := ⟨RX1, TX1, 11, tyX1, rfl, by decide, uwX1, Or.inl (TB_of 216 (by decide +kernel) rfl), rfl, tyX1_ok, nmX1, rfl, by decide +kernel⟩
theorem lk_X8_57 : LK RX8 57 yX5_init := Or.inr ⟨"TownAsks", NWl_of 242 (by decide +kernel) rfl⟩
theorem lo_X5_3 : Cond.methodLink RX5 3 objectInit ∈ TB := TB_of 245 (by decide +kernel) rfl
theorem fl_X5_9 : FL RX5 9 5 0 := ⟨RX5, TX5, 3, rfl, by decide, uwX5, Or.inl (TB_of 246 (by decide +kernel) rfl), rfl⟩
theorem fl_X8_227 : FL RX8 227 5 0 := ⟨RX5, TX5, 3, rfl, by decide, uwX5, Or.inr ⟨"TownAsks", NWl_of 247 (by decide +kernel) rfl⟩, rfl⟩
theorem fl_X5_15 : FL RX5 15 5 1 := ⟨RX5, TX5, 3, rfl, by decide, uwX5, Or.inl (TB_of 248 (by decide +kernel) rfl), rfl⟩
theorem fl_X5_18 : FL RX5 18 5 2 := ⟨RX5, TX5, 3, rfl, by decide, uwX5, Or.inl (TB_of 249 (by decide +kernel) rfl), rfl⟩
theorem lk_X8_74 : LK RX8 74 yX4_init := Or.inr ⟨"TownAsks", NWl_of 260 (by decide +kernel) rfl⟩
theorem lo_X4_3 : Cond.methodLink RX4 3 objectInit ∈ TB := TB_of 263 (by decide +kernel) rfl
theorem fl_X4_9 : FL RX4 9 4 0 := ⟨RX4, TX4, 3, rfl, by decide, uwX4, Or.inl (TB_of 264 (by decide +kernel) rfl), rfl⟩
theorem fl_X8_280 : FL RX8 280 4 0 := ⟨RX4, TX4, 3, rfl, by decide, uwX4, Or.inr ⟨"TownAsks", NWl_of 265 (by decide +kernel) rfl⟩, rfl⟩
theorem fl_X4_15 : FL RX4 15 4 1 := ⟨RX4, TX4, 3, rfl, by decide, uwX4, Or.inl (TB_of 266 (by decide +kernel) rfl), rfl⟩
theorem fw_X4_15 : FW RX4 15 4 1 := ⟨RX4, TX4, 3, tyX4, rfl, by decide, uwX4, Or.inl (TB_of 266 (by decide +kernel) rfl), rfl, tyX4_ok, nmX4, rfl, by decide +kernel⟩
theorem fl_X8_274 : FL RX8 274 4 1 := ⟨RX4, TX4, 3, rfl, by decide, uwX4, Or.inr ⟨"TownAsks", NWl_of 267 (by decide +kernel) rfl⟩, rfl⟩
theorem fw_X8_274 : FW RX8 274 4 1 := ⟨RX4, TX4, 3, tyX4, rfl, by decide, uwX4, Or.inr ⟨"TownAsks", NWl_of 267 (by decide +kernel) rfl⟩, rfl, tyX4_ok, nmX4, rfl, by decide +kernel⟩
theorem fl_X4_19 : FL RX4 19 4 2 := ⟨RX4, TX4, 3, rfl, by decide, uwX4, Or.inl (TB_of 268 (by decide +kernel) rfl), rfl⟩
theorem fw_X4_19 : FW RX4 19 4 2 := ⟨RX4, TX4, 3, tyX4, rfl, by decide, uwX4, Or.inl (TB_of 268 (by decide +kernel) rfl), rfl, tyX4_ok, nmX4, rfl, by decide +kernel⟩
theorem fl_X8_263 : FL RX8 263 4 2 := ⟨RX4, TX4, 3, rfl, by decide, uwX4, Or.inr ⟨"TownAsks", NWl_of 269 (by decide +kernel) rfl⟩, rfl⟩
theorem fw_X8_263 : FW RX8 263 4 2 := ⟨RX4, TX4, 3, tyX4, rfl, by decide, uwX4, Or.inr ⟨"TownAsks", NWl_of 269 (by decide +kernel) rfl⟩, rfl, tyX4_ok, nmX4, rfl, by decide +kernel⟩
theorem fl_X8_10 : FL RX8 10 8 0 := ⟨RX8, TX8, 12, rfl, by decide, uwX8, Or.inl (TB_of 277 (by decide +kernel) rfl), rfl⟩
theorem fl_X8_19 : FL RX8 19 8 1 := ⟨RX8, TX8, 12, rfl, by decide, uwX8, Or.inl (TB_of 278 (by decide +kernel) rfl), rfl⟩
theorem fl_X8_26 : FL RX8 26 8 2 := ⟨RX8, TX8, 12, rfl, by decide, uwX8, Or.inl (TB_of 279 (by decide +kernel) rfl), rfl⟩
theorem fl_X8_33 : FL RX8 33 8 3 := ⟨RX8, TX8, 12, rfl, by decide, uwX8, Or.inl (TB_of 280 (by decide +kernel) rfl), rfl⟩
theorem fl_X8_40 : FL RX8 40 8 4 := ⟨RX8, TX8, 12, rfl, by decide, uwX8, Or.inl (TB_of 281 (by decide +kernel) rfl), rfl⟩
theorem fl_X8_47 : FL RX8 47 8 5 := ⟨RX8, TX8, 12, rfl, by decide, uwX8, Or.inl (TB_of 282 (by decide +kernel) rfl), rfl⟩
theorem fl_X8_51 : FL RX8 51 8 6 := ⟨RX8, TX8, 12, rfl, by decide, uwX8, Or.inl (TB_of 283 (by decide +kernel) rfl), rfl⟩
theorem fl_X8_58 : FL RX8 58 8 7 := ⟨RX8, TX8, 12, rfl, by decide, uwX8, Or.inl (TB_of 284 (by decide +kernel) rfl), rfl⟩
theorem fl_X8_62 : FL RX8 62 8 8 := ⟨RX8, TX8, 12, rfl, by decide, uwX8, Or.inl (TB_of 285 (by decide +kernel) rfl), rfl⟩
theorem fl_X8_65 : FL RX8 65 8 9 := ⟨RX8, TX8, 12, rfl, by decide, uwX8, Or.inl (TB_of 286 (by decide +kernel) rfl), rfl⟩
theorem fl_X8_70 : FL RX8 70 8 10 := ⟨RX8, TX8, 12, rfl, by decide, uwX8, Or.inl (TB_of 287 (by decide +kernel) rfl), rfl⟩
theorem fl_X8_75 : FL RX8 75 8 11 := ⟨RX8, TX8, 12, rfl, by decide, uwX8, Or.inl (TB_of 288 (by decide +kernel) rfl), rfl⟩
theorem fw_X8_75 : FW RX8 75 8 11 := ⟨RX8, TX8, 12, tyX8, rfl, by decide, uwX8, Or.inl (TB_of 288 (by decide +kernel) rfl), rfl, tyX8_ok, nmX8, rfl, by decide +kernel⟩
theorem lk_L_13 : LK RL 13 yX8_ask := Or.inl (TB_of 314 (by decide +kernel) rfl)
theorem lk_X8_79 : LK RX8 79 yX8_within := Or.inl (TB_of 318 (by decide +kernel) rfl)
theorem lk_X8_83 : LK RX8 83 yX8_isKind := Or.inl (TB_of 321 (by decide +kernel) rfl)
theorem lk_X8_87 : LK RX8 87 yX8_canComeOn := Or.inl (TB_of 324 (by decide +kernel) rfl)
theorem lk_X8_191 : LK RX8 191 yX8_isDay := Or.inl (TB_of 328 (by decide +kernel) rfl)
theorem lk_X8_300 : LK RX8 300 yX0_latestDay := Or.inl (TB_of 331 (by decide +kernel) rfl)
theorem kc_X8_90 : Cond.constant RX8 90 (-1000001) ∈ TB := TB_of 335 (by decide +kernel) rfl
theorem lk_X8_91 : LK RX8 91 yX8_finding := Or.inl (TB_of 336 (by decide +kernel) rfl)
theorem kc_X8_98 : Cond.constant RX8 98 (-1000002) ∈ TB := TB_of 340 (by decide +kernel) rfl
theorem lk_X8_99 : LK RX8 99 yX8_join := Or.inl (TB_of 341 (by decide +kernel) rfl)
theorem lk_X8_311 : LK RX8 311 yX0_add := Or.inl (TB_of 345 (by decide +kernel) rfl)
theorem lk_X8_314 : LK RX8 314 yX8_firstOpenThingFor := Or.inl (TB_of 349 (by decide +kernel) rfl)
theorem lk_X8_319 : LK RX8 319 yX0_meetsAllOfThing := Or.inl (TB_of 353 (by decide +kernel) rfl)
theorem lk_X0_50 : LK RX0 50 yX0_areMeeting := Or.inl (TB_of 357 (by decide +kernel) rfl)
theorem lk_X0_40 : LK RX0 40 yX8_far := Or.inr ⟨"TownAsks", NWl_of 361 (by decide +kernel) rfl⟩
theorem lk_X8_306 : LK RX8 306 yJ9_abs_0f7a4 := Or.inl (TB_of 364 (by decide +kernel) rfl)
theorem la_X8_306 : Cond.methodLink RX8 306 Lib.Math.abs.name ∈ TB := TB_of 364 (by decide +kernel) rfl
theorem lk_X0_44 : LK RX0 44 yJ9_abs_0f7a4 := Or.inl (TB_of 367 (by decide +kernel) rfl)
theorem la_X0_44 : Cond.methodLink RX0 44 Lib.Math.abs.name ∈ TB := TB_of 367 (by decide +kernel) rfl
theorem lk_X8_317 : LK RX8 317 yX7_begin := Or.inl (TB_of 368 (by decide +kernel) rfl)
theorem lk_L_18 : LK RL 18 yX8_marks := Or.inl (TB_of 372 (by decide +kernel) rfl)
theorem lk_L_23 : LK RL 23 yX8_meet := Or.inl (TB_of 376 (by decide +kernel) rfl)
theorem lk_X8_109 : LK RX8 109 yX8_isAsk := Or.inl (TB_of 380 (by decide +kernel) rfl)
theorem lk_X8_112 : LK RX8 112 yX0_areMeeting := Or.inl (TB_of 384 (by decide +kernel) rfl)
theorem lk_L_28 : LK RL 28 yX8_of := Or.inl (TB_of 385 (by decide +kernel) rfl)
theorem lk_X8_116 : LK RX8 116 yX0_detail := Or.inl (TB_of 389 (by decide +kernel) rfl)
theorem lk_X0_58 : LK RX0 58 yX0_quarterOfAsk := Or.inl (TB_of 393 (by decide +kernel) rfl)
theorem lk_X0_54 : LK RX0 54 yX8_quarterAt := Or.inr ⟨"TownAsks", NWl_of 397 (by decide +kernel) rfl⟩
theorem lk_L_32 : LK RL 32 yX8_as := Or.inl (TB_of 400 (by decide +kernel) rfl)
theorem lk_X8_123 : LK RX8 123 yX8_isOrIsUnder := Or.inl (TB_of 404 (by decide +kernel) rfl)
theorem ab_X8_303 : Cond.fieldLink RX8 303 "TownAsks" "ABOVE" "[I" ∈ TB ∨ ∃ host, Cond.fieldLinkNest RX8 303 "TownAsks" "ABOVE" "[I" host ∈ NWl := Or.inl (TB_of 407 (by decide +kernel) rfl)
theorem kc_X8_126 : Cond.constant RX8 126 (-1000003) ∈ TB := TB_of 409 (by decide +kernel) rfl
theorem lk_L_36 : LK RL 36 yX8_fewest := Or.inl (TB_of 410 (by decide +kernel) rfl)
theorem kc_X8_130 : Cond.constant RX8 130 (-1000006) ∈ TB := TB_of 414 (by decide +kernel) rfl
theorem lk_X8_131 : LK RX8 131 yX3_fewestSets := Or.inl (TB_of 415 (by decide +kernel) rfl)
theorem lk_X3_18 : LK RX3 18 yX0_areMeeting := Or.inl (TB_of 419 (by decide +kernel) rfl)
theorem lk_X3_31 : LK RX3 31 yX3_putFrom := Or.inl (TB_of 420 (by decide +kernel) rfl)
theorem lk_L_40 : LK RL 40 yX8_thing := Or.inl (TB_of 424 (by decide +kernel) rfl)
theorem lk_X8_135 : LK RX8 135 yX8_isThing := Or.inl (TB_of 428 (by decide +kernel) rfl)
theorem lk_X8_138 : LK RX8 138 yX8_placeDetail := Or.inl (TB_of 432 (by decide +kernel) rfl)
theorem lk_X8_141 : LK RX8 141 yX8_stateDetail := Or.inl (TB_of 436 (by decide +kernel) rfl)
theorem lk_X8_337 : LK RX8 337 yX0_countOfThing := Or.inl (TB_of 440 (by decide +kernel) rfl)
theorem lk_L_44 : LK RL 44 yX8_asked := Or.inl (TB_of 444 (by decide +kernel) rfl)
theorem lk_X8_144 : LK RX8 144 yX0_nthOfThing := Or.inl (TB_of 448 (by decide +kernel) rfl)
theorem lk_L_50 : LK RL 50 yX8_feed := Or.inl (TB_of 452 (by decide +kernel) rfl)
theorem lk_X8_150 : LK RX8 150 yX6_append := Or.inl (TB_of 456 (by decide +kernel) rfl)
theorem lk_L_55 : LK RL 55 yX8_text := Or.inl (TB_of 460 (by decide +kernel) rfl)
theorem lk_X8_154 : LK RX8 154 yX2_wrongPlace := Or.inl (TB_of 464 (by decide +kernel) rfl)
theorem lk_X2_36 : LK RX2 36 yX2_canStand := Or.inl (TB_of 468 (by decide +kernel) rfl)
theorem lk_X2_40 : LK RX2 40 yX8_within := Or.inr ⟨"TownAsks", NWl_of 471 (by decide +kernel) rfl⟩
theorem lk_X8_158 : LK RX8 158 yX2_load := Or.inl (TB_of 472 (by decide +kernel) rfl)
theorem kc_X8_165 : Cond.constant RX8 165 (-1000100) ∈ TB := TB_of 476 (by decide +kernel) rfl
theorem lk_L_60 : LK RL 60 yX8_whose := Or.inl (TB_of 477 (by decide +kernel) rfl)
theorem lk_X8_166 : LK RX8 166 yX8_ownerOf := Or.inl (TB_of 481 (by decide +kernel) rfl)
theorem lk_X8_169 : LK RX8 169 yX8_kindOf := Or.inl (TB_of 485 (by decide +kernel) rfl)
theorem lk_X8_179 : LK RX8 179 yX2_firstDeskFor := Or.inl (TB_of 489 (by decide +kernel) rfl)
theorem lk_X2_44 : LK RX2 44 yX2_rowFor := Or.inl (TB_of 493 (by decide +kernel) rfl)
theorem lk_X2_48 : LK RX2 48 yX2_rowForJust := Or.inl (TB_of 497 (by decide +kernel) rfl)
theorem ab_X2_51 : Cond.fieldLink RX2 51 "TownAsks" "ABOVE" "[I" ∈ TB ∨ ∃ host, Cond.fieldLinkNest RX2 51 "TownAsks" "ABOVE" "[I" host ∈ NWl := Or.inr ⟨"TownAsks", NWl_of 501 (by decide +kernel) rfl⟩
theorem kc_X8_175 : Cond.constant RX8 175 (-1000004) ∈ TB := TB_of 502 (by decide +kernel) rfl
theorem lk_X8_182 : LK RX8 182 yX8_quarterOfThing := Or.inl (TB_of 503 (by decide +kernel) rfl)
theorem lk_X8_328 : LK RX8 328 yX0_quarterOfAsk := Or.inl (TB_of 507 (by decide +kernel) rfl)
theorem lk_X8_346 : LK RX8 346 yX2_lastDeskFrom := Or.inl (TB_of 508 (by decide +kernel) rfl)
theorem lk_X2_62 : LK RX2 62 yX2_rowsGoneBy := Or.inl (TB_of 512 (by decide +kernel) rfl)
theorem lk_X2_54 : LK RX2 54 yX2_nextDesk := Or.inl (TB_of 516 (by decide +kernel) rfl)
theorem lk_X2_58 : LK RX2 58 yX8_hasBit := Or.inr ⟨"TownAsks", NWl_of 520 (by decide +kernel) rfl⟩
theorem kc_X2_65 : Cond.constant RX2 65 (-1000007) ∈ TB := TB_of 523 (by decide +kernel) rfl
theorem lk_L_65 : LK RL 65 yX8_promise := Or.inl (TB_of 524 (by decide +kernel) rfl)
theorem lk_X8_172 : LK RX8 172 yX2_daysFor := Or.inl (TB_of 528 (by decide +kernel) rfl)
theorem lk_X8_176 : LK RX8 176 yX8_dayOf := Or.inl (TB_of 532 (by decide +kernel) rfl)
theorem lk_L_69 : LK RL 69 yX8_sent := Or.inl (TB_of 536 (by decide +kernel) rfl)
theorem lk_X8_185 : LK RX8 185 yX2_rowsGoneBy := Or.inl (TB_of 540 (by decide +kernel) rfl)
theorem lk_L_73 : LK RL 73 yX8_effort := Or.inl (TB_of 541 (by decide +kernel) rfl)
theorem lk_L_77 : LK RL 77 yX8_order := Or.inl (TB_of 545 (by decide +kernel) rfl)
theorem lk_X8_188 : LK RX8 188 yX8_isPlace := Or.inl (TB_of 549 (by decide +kernel) rfl)
theorem lk_X8_194 : LK RX8 194 yX8_areThings := Or.inl (TB_of 552 (by decide +kernel) rfl)
theorem lk_X8_197 : LK RX8 197 yJ6_bitCount_0f7a4 := Or.inl (TB_of 556 (by decide +kernel) rfl)
theorem kc_J6_265 : Cond.constant RJ6 265 1431655765 ∈ TB := TB_of 559 (by decide +kernel) rfl
theorem kc_J6_266 : Cond.constant RJ6 266 858993459 ∈ TB := TB_of 560 (by decide +kernel) rfl
theorem kc_J6_267 : Cond.constant RJ6 267 252645135 ∈ TB := TB_of 561 (by decide +kernel) rfl
theorem lk_X8_202 : LK RX8 202 yX1_begin := Or.inl (TB_of 562 (by decide +kernel) rfl)
theorem lk_X8_206 : LK RX8 206 yX8_hasBit := Or.inl (TB_of 566 (by decide +kernel) rfl)
theorem lk_X8_209 : LK RX8 209 yX8_giveToCrew := Or.inl (TB_of 567 (by decide +kernel) rfl)
theorem kc_X8_349 : Cond.constant RX8 349 1000000 ∈ TB := TB_of 571 (by decide +kernel) rfl
theorem lk_X8_350 : LK RX8 350 yX1_take := Or.inl (TB_of 572 (by decide +kernel) rfl)
theorem lk_X8_212 : LK RX8 212 yX1_findOrder := Or.inl (TB_of 576 (by decide +kernel) rfl)
theorem lk_X1_46 : LK RX1 46 yX1_goOn := Or.inl (TB_of 580 (by decide +kernel) rfl)
theorem lk_X1_50 : LK RX1 50 yX1_keepTried := Or.inl (TB_of 584 (by decide +kernel) rfl)
theorem lk_X1_54 : LK RX1 54 yX8_hasBit := Or.inr ⟨"TownAsks", NWl_of 588 (by decide +kernel) rfl⟩
theorem lk_X1_58 : LK RX1 58 yX8_far := Or.inr ⟨"TownAsks", NWl_of 589 (by decide +kernel) rfl⟩
theorem lk_X8_216 : LK RX8 216 yX1_detail := Or.inl (TB_of 590 (by decide +kernel) rfl)
theorem lk_X1_62 : LK RX1 62 yX8_within := Or.inr ⟨"TownAsks", NWl_of 594 (by decide +kernel) rfl⟩
theorem lk_L_81 : LK RL 81 yX8_close := Or.inl (TB_of 595 (by decide +kernel) rfl)
theorem kc_X8_222 : Cond.constant RX8 222 (-1000005) ∈ TB := TB_of 599 (by decide +kernel) rfl
theorem lk_X8_223 : LK RX8 223 yX7_shut := Or.inl (TB_of 600 (by decide +kernel) rfl)
theorem lk_L_85 : LK RL 85 yX8_look := Or.inl (TB_of 604 (by decide +kernel) rfl)
theorem lk_X8_236 : LK RX8 236 yX5_countLook := Or.inl (TB_of 608 (by decide +kernel) rfl)
theorem lk_L_90 : LK RL 90 yX8_closings := Or.inl (TB_of 612 (by decide +kernel) rfl)
theorem lk_X8_240 : LK RX8 240 yX5_detail := Or.inl (TB_of 616 (by decide +kernel) rfl)
theorem lk_L_94 : LK RL 94 yX8_walk := Or.inl (TB_of 620 (by decide +kernel) rfl)
theorem lk_X8_241 : LK RX8 241 yX8_isQuarter := Or.inl (TB_of 624 (by decide +kernel) rfl)
theorem lk_L_98 : LK RL 98 yX8_quarter := Or.inl (TB_of 627 (by decide +kernel) rfl)
theorem lk_X8_244 : LK RX8 244 yX8_thingsIn := Or.inl (TB_of 631 (by decide +kernel) rfl)
theorem lk_X8_248 : LK RX8 248 yX0_countIn := Or.inl (TB_of 635 (by decide +kernel) rfl)
theorem lk_X8_251 : LK RX8 251 yX8_askedOfHundred := Or.inl (TB_of 639 (by decide +kernel) rfl)
theorem lk_X8_254 : LK RX8 254 yX8_thingsReckoned := Or.inl (TB_of 643 (by decide +kernel) rfl)
theorem lk_L_102 : LK RL 102 yX8_sheet := Or.inl (TB_of 647 (by decide +kernel) rfl)
theorem lk_X8_257 : LK RX8 257 yX8_isSheet := Or.inl (TB_of 651 (by decide +kernel) rfl)
theorem kc_X8_260 : Cond.constant RX8 260 (-1000009) ∈ TB := TB_of 654 (by decide +kernel) rfl
theorem lk_X8_261 : LK RX8 261 yX4_begin := Or.inl (TB_of 655 (by decide +kernel) rfl)
theorem lk_L_106 : LK RL 106 yX8_write := Or.inl (TB_of 659 (by decide +kernel) rfl)
theorem lk_X8_266 : LK RX8 266 yX4_isMissing := Or.inl (TB_of 663 (by decide +kernel) rfl)
theorem kc_X8_270 : Cond.constant RX8 270 (-1000008) ∈ TB := TB_of 667 (by decide +kernel) rfl
theorem lk_X8_271 : LK RX8 271 yX4_replace := Or.inl (TB_of 668 (by decide +kernel) rfl)
theorem lk_X4_22 : LK RX4 22 yX4_lowestBits := Or.inl (TB_of 672 (by decide +kernel) rfl)
theorem lk_L_110 : LK RL 110 yX8_copy := Or.inl (TB_of 676 (by decide +kernel) rfl)
theorem lk_X8_277 : LK RX8 277 yX4_hasRange := Or.inl (TB_of 680 (by decide +kernel) rfl)
theorem lk_X8_283 : Cond.methodLink RX8 283 arraycopyName ∈ TB := TB_of 684 (by decide +kernel) rfl
theorem lk_L_114 : LK RL 114 yX8_read := Or.inl (TB_of 687 (by decide +kernel) rfl)
theorem lk_X8_289 : LK RX8 289 yX4_holdsPlacesAlone := Or.inl (TB_of 691 (by decide +kernel) rfl)
theorem lk_X4_26 : LK RX4 26 yX8_isPlace := Or.inr ⟨"TownAsks", NWl_of 695 (by decide +kernel) rfl⟩
theorem lk_L_118 : LK RL 118 yX8_told := Or.inl (TB_of 696 (by decide +kernel) rfl)
theorem lk_X8_293 : LK RX8 293 yX7_countOpen := Or.inl (TB_of 700 (by decide +kernel) rfl)
theorem lk_X8_297 : LK RX8 297 yX5_allClosed := Or.inl (TB_of 704 (by decide +kernel) rfl)
theorem lk_L_12 : LK RL 12 yX9_init := Or.inl (TB_of 710 (by decide +kernel) rfl)
theorem lo_X9_1 : Cond.methodLink RX9 1 objectInit ∈ TB := TB_of 713 (by decide +kernel) rfl
theorem fl_X9_107 : FL RX9 107 9 0 := ⟨RX9, TX9, 41, rfl, by decide, uwX9, Or.inl (TB_of 714 (by decide +kernel) rfl), rfl⟩
theorem fw_X9_107 : FW RX9 107 9 0 := ⟨RX9, TX9, 41, tyX9, rfl, by decide, uwX9, Or.inl (TB_of 714 (by decide +kernel) rfl), rfl, tyX9_ok, nmX9, rfl, by decide +kernel⟩
theorem fl_X9_115 : FL RX9 115 9 1 := ⟨RX9, TX9, 41, rfl, by decide, uwX9, Or.inl (TB_of 715 (by decide +kernel) rfl), rfl⟩
theorem fw_X9_115 : FW RX9 115 9 1 := ⟨RX9, TX9, 41, tyX9, rfl, by decide, uwX9, Or.inl (TB_of 715 (by decide +kernel) rfl), rfl, tyX9_ok, nmX9, rfl, by decide +kernel⟩
theorem fl_X9_7 : FL RX9 7 9 2 := ⟨RX9, TX9, 41, rfl, by decide, uwX9, Or.inl (TB_of 716 (by decide +kernel) rfl), rfl⟩
theorem fl_X9_13 : FL RX9 13 9 3 := ⟨RX9, TX9, 41, rfl, by decide, uwX9, Or.inl (TB_of 717 (by decide +kernel) rfl), rfl⟩
theorem fl_X9_16 : FL RX9 16 9 4 := ⟨RX9, TX9, 41, rfl, by decide, uwX9, Or.inl (TB_of 718 (by decide +kernel) rfl), rfl⟩
theorem fl_X9_19 : FL RX9 19 9 5 := ⟨RX9, TX9, 41, rfl, by decide, uwX9, Or.inl (TB_of 719 (by decide +kernel) rfl), rfl⟩
theorem fl_X9_22 : FL RX9 22 9 6 := ⟨RX9, TX9, 41, rfl, by decide, uwX9, Or.inl (TB_of 720 (by decide +kernel) rfl), rfl⟩
theorem fl_X9_25 : FL RX9 25 9 7 := ⟨RX9, TX9, 41, rfl, by decide, uwX9, Or.inl (TB_of 721 (by decide +kernel) rfl), rfl⟩
theorem fl_X9_28 : FL RX9 28 9 8 := ⟨RX9, TX9, 41, rfl, by decide, uwX9, Or.inl (TB_of 722 (by decide +kernel) rfl), rfl⟩
theorem fl_X9_31 : FL RX9 31 9 9 := ⟨RX9, TX9, 41, rfl, by decide, uwX9, Or.inl (TB_of 723 (by decide +kernel) rfl), rfl⟩
theorem fl_X9_118 : FL RX9 118 9 10 := ⟨RX9, TX9, 41, rfl, by decide, uwX9, Or.inl (TB_of 724 (by decide +kernel) rfl), rfl⟩
theorem fw_X9_118 : FW RX9 118 9 10 := ⟨RX9, TX9, 41, tyX9, rfl, by decide, uwX9, Or.inl (TB_of 724 (by decide +kernel) rfl), rfl, tyX9_ok, nmX9, rfl, by decide +kernel⟩
theorem fl_X9_34 : FL RX9 34 9 11 := ⟨RX9, TX9, 41, rfl, by decide, uwX9, Or.inl (TB_of 725 (by decide +kernel) rfl), rfl⟩
theorem fl_X9_37 : FL RX9 37 9 12 := ⟨RX9, TX9, 41, rfl, by decide, uwX9, Or.inl (TB_of 726 (by decide +kernel) rfl), rfl⟩
theorem fl_X9_41 : FL RX9 41 9 13 := ⟨RX9, TX9, 41, rfl, by decide, uwX9, Or.inl (TB_of 727 (by decide +kernel) rfl), rfl⟩
theorem fl_X9_44 : FL RX9 44 9 14 := ⟨RX9, TX9, 41, rfl, by decide, uwX9, Or.inl (TB_of 728 (by decide +kernel) rfl), rfl⟩
theorem fl_X9_47 : FL RX9 47 9 15 := ⟨RX9, TX9, 41, rfl, by decide, uwX9, Or.inl (TB_of 729 (by decide +kernel) rfl), rfl⟩
theorem fl_X9_50 : FL RX9 50 9 16 := ⟨RX9, TX9, 41, rfl, by decide, uwX9, Or.inl (TB_of 730 (by decide +kernel) rfl), rfl⟩
theorem fl_X9_170 : FL RX9 170 9 17 := ⟨RX9, TX9, 41, rfl, by decide, uwX9, Or.inl (TB_of 731 (by decide +kernel) rfl), rfl⟩
theorem fw_X9_170 : FW RX9 170 9 17 := ⟨RX9, TX9, 41, tyX9, rfl, by decide, uwX9, Or.inl (TB_of 731 (by decide +kernel) rfl), rfl, tyX9_ok, nmX9, rfl, by decide +kernel⟩
theorem fl_X9_53 : FL RX9 53 9 18 := ⟨RX9, TX9, 41, rfl, by decide, uwX9, Or.inl (TB_of 732 (by decide +kernel) rfl), rfl⟩
theorem fl_X9_179 : FL RX9 179 9 19 := ⟨RX9, TX9, 41, rfl, by decide, uwX9, Or.inl (TB_of 733 (by decide +kernel) rfl), rfl⟩
theorem fw_X9_179 : FW RX9 179 9 19 := ⟨RX9, TX9, 41, tyX9, rfl, by decide, uwX9, Or.inl (TB_of 733 (by decide +kernel) rfl), rfl, tyX9_ok, nmX9, rfl, by decide +kernel⟩
theorem fl_X9_56 : FL RX9 56 9 20 := ⟨RX9, TX9, 41, rfl, by decide, uwX9, Or.inl (TB_of 734 (by decide +kernel) rfl), rfl⟩
theorem fl_X9_59 : FL RX9 59 9 21 := ⟨RX9, TX9, 41, rfl, by decide, uwX9, Or.inl (TB_of 735 (by decide +kernel) rfl), rfl⟩
theorem fl_X9_62 : FL RX9 62 9 22 := ⟨RX9, TX9, 41, rfl, by decide, uwX9, Or.inl (TB_of 736 (by decide +kernel) rfl), rfl⟩
theorem fl_X9_65 : FL RX9 65 9 23 := ⟨RX9, TX9, 41, rfl, by decide, uwX9, Or.inl (TB_of 737 (by decide +kernel) rfl), rfl⟩
theorem fl_X9_68 : FL RX9 68 9 24 := ⟨RX9, TX9, 41, rfl, by decide, uwX9, Or.inl (TB_of 738 (by decide +kernel) rfl), rfl⟩
theorem fl_X9_71 : FL RX9 71 9 25 := ⟨RX9, TX9, 41, rfl, by decide, uwX9, Or.inl (TB_of 739 (by decide +kernel) rfl), rfl⟩
theorem fl_X9_74 : FL RX9 74 9 26 := ⟨RX9, TX9, 41, rfl, by decide, uwX9, Or.inl (TB_of 740 (by decide +kernel) rfl), rfl⟩
theorem fl_X9_77 : FL RX9 77 9 27 := ⟨RX9, TX9, 41, rfl, by decide, uwX9, Or.inl (TB_of 741 (by decide +kernel) rfl), rfl⟩
theorem fl_X9_80 : FL RX9 80 9 28 := ⟨RX9, TX9, 41, rfl, by decide, uwX9, Or.inl (TB_of 742 (by decide +kernel) rfl), rfl⟩
theorem fl_X9_83 : FL RX9 83 9 29 := ⟨RX9, TX9, 41, rfl, by decide, uwX9, Or.inl (TB_of 743 (by decide +kernel) rfl), rfl⟩
theorem fl_X9_86 : FL RX9 86 9 30 := ⟨RX9, TX9, 41, rfl, by decide, uwX9, Or.inl (TB_of 744 (by decide +kernel) rfl), rfl⟩
theorem fl_X9_89 : FL RX9 89 9 31 := ⟨RX9, TX9, 41, rfl, by decide, uwX9, Or.inl (TB_of 745 (by decide +kernel) rfl), rfl⟩
theorem fl_X9_92 : FL RX9 92 9 32 := ⟨RX9, TX9, 41, rfl, by decide, uwX9, Or.inl (TB_of 746 (by decide +kernel) rfl), rfl⟩
theorem fl_X9_185 : FL RX9 185 9 33 := ⟨RX9, TX9, 41, rfl, by decide, uwX9, Or.inl (TB_of 747 (by decide +kernel) rfl), rfl⟩
theorem fw_X9_185 : FW RX9 185 9 33 := ⟨RX9, TX9, 41, tyX9, rfl, by decide, uwX9, Or.inl (TB_of 747 (by decide +kernel) rfl), rfl, tyX9_ok, nmX9, rfl, by decide +kernel⟩
theorem fl_X9_199 : FL RX9 199 9 34 := ⟨RX9, TX9, 41, rfl, by decide, uwX9, Or.inl (TB_of 748 (by decide +kernel) rfl), rfl⟩
theorem fw_X9_199 : FW RX9 199 9 34 := ⟨RX9, TX9, 41, tyX9, rfl, by decide, uwX9, Or.inl (TB_of 748 (by decide +kernel) rfl), rfl, tyX9_ok, nmX9, rfl, by decide +kernel⟩
theorem fl_X9_95 : FL RX9 95 9 35 := ⟨RX9, TX9, 41, rfl, by decide, uwX9, Or.inl (TB_of 749 (by decide +kernel) rfl), rfl⟩
theorem fl_X9_98 : FL RX9 98 9 36 := ⟨RX9, TX9, 41, rfl, by decide, uwX9, Or.inl (TB_of 750 (by decide +kernel) rfl), rfl⟩
theorem fl_X9_101 : FL RX9 101 9 37 := ⟨RX9, TX9, 41, rfl, by decide, uwX9, Or.inl (TB_of 751 (by decide +kernel) rfl), rfl⟩
theorem fl_X9_202 : FL RX9 202 9 38 := ⟨RX9, TX9, 41, rfl, by decide, uwX9, Or.inl (TB_of 752 (by decide +kernel) rfl), rfl⟩
theorem fw_X9_202 : FW RX9 202 9 38 := ⟨RX9, TX9, 41, tyX9, rfl, by decide, uwX9, Or.inl (TB_of 752 (by decide +kernel) rfl), rfl, tyX9_ok, nmX9, rfl, by decide +kernel⟩
theorem fl_X9_205 : FL RX9 205 9 39 := ⟨RX9, TX9, 41, rfl, by decide, uwX9, Or.inl (TB_of 753 (by decide +kernel) rfl), rfl⟩
theorem fw_X9_205 : FW RX9 205 9 39 := ⟨RX9, TX9, 41, tyX9, rfl, by decide, uwX9, Or.inl (TB_of 753 (by decide +kernel) rfl), rfl, tyX9_ok, nmX9, rfl, by decide +kernel⟩
theorem fl_X9_104 : FL RX9 104 9 40 := ⟨RX9, TX9, 41, rfl, by decide, uwX9, Or.inl (TB_of 754 (by decide +kernel) rfl), rfl⟩
theorem lk_L_17 : LK RL 17 yX9_ask := Or.inl (TB_of 838 (by decide +kernel) rfl)
theorem lk_X9_133 : LK RX9 133 yX9_isKind := Or.inl (TB_of 842 (by decide +kernel) rfl)
theorem lk_X9_111 : LK RX9 111 yX9_in := Or.inl (TB_of 845 (by decide +kernel) rfl)
theorem lk_X9_137 : LK RX9 137 yX9_isDay := Or.inl (TB_of 848 (by decide +kernel) rfl)
theorem lk_X9_140 : LK RX9 140 yX9_latest := Or.inl (TB_of 851 (by decide +kernel) rfl)
theorem kc_X9_144 : Cond.constant RX9 144 (-1000001) ∈ TB := TB_of 855 (by decide +kernel) rfl
theorem lk_X9_145 : LK RX9 145 yX9_finding := Or.inl (TB_of 856 (by decide +kernel) rfl)
theorem kc_X9_148 : Cond.constant RX9 148 (-1000002) ∈ TB := TB_of 860 (by decide +kernel) rfl
theorem lk_X9_149 : LK RX9 149 yX9_comes := Or.inl (TB_of 861 (by decide +kernel) rfl)
theorem lk_X9_129 : LK RX9 129 yX9_doMeet := Or.inl (TB_of 865 (by decide +kernel) rfl)
theorem lk_X9_125 : LK RX9 125 yX9_away := Or.inl (TB_of 869 (by decide +kernel) rfl)
theorem lk_L_22 : LK RL 22 yX9_marks := Or.inl (TB_of 872 (by decide +kernel) rfl)
theorem lk_L_27 : LK RL 27 yX9_meet := Or.inl (TB_of 876 (by decide +kernel) rfl)
theorem lk_X9_153 : LK RX9 153 yX9_isAsk := Or.inl (TB_of 880 (by decide +kernel) rfl)
theorem lk_L_31 : LK RL 31 yX9_of := Or.inl (TB_of 884 (by decide +kernel) rfl)
theorem lk_X9_156 : LK RX9 156 yX9_quarterOf := Or.inl (TB_of 888 (by decide +kernel) rfl)
theorem lk_L_35 : LK RL 35 yX9_as := Or.inl (TB_of 891 (by decide +kernel) rfl)
theorem lk_X9_159 : LK RX9 159 yX9_isUnder := Or.inl (TB_of 895 (by decide +kernel) rfl)
theorem lk_X9_121 : LK RX9 121 yX9_above := Or.inl (TB_of 898 (by decide +kernel) rfl)
theorem kc_X9_162 : Cond.constant RX9 162 (-1000003) ∈ TB := TB_of 901 (by decide +kernel) rfl
theorem lk_L_39 : LK RL 39 yX9_fewest := Or.inl (TB_of 902 (by decide +kernel) rfl)
theorem kc_X9_163 : Cond.constant RX9 163 (-1000006) ∈ TB := TB_of 906 (by decide +kernel) rfl
theorem lk_L_43 : LK RL 43 yX9_thing := Or.inl (TB_of 907 (by decide +kernel) rfl)
theorem lk_X9_164 : LK RX9 164 yX9_isThing := Or.inl (TB_of 911 (by decide +kernel) rfl)
theorem lk_X9_167 : LK RX9 167 yX9_asksOf := Or.inl (TB_of 915 (by decide +kernel) rfl)
theorem lk_L_47 : LK RL 47 yX9_asked := Or.inl (TB_of 919 (by decide +kernel) rfl)
theorem lk_L_54 : LK RL 54 yX9_feed := Or.inl (TB_of 923 (by decide +kernel) rfl)
theorem kc_X9_173 : Cond.constantLong RX9 173 255 ∈ TB := TB_of 927 (by decide +kernel) rfl
theorem lk_L_59 : LK RL 59 yX9_text := Or.inl (TB_of 928 (by decide +kernel) rfl)
theorem lk_X9_175 : LK RX9 175 yX9_fits := Or.inl (TB_of 932 (by decide +kernel) rfl)
theorem kc_X9_178 : Cond.constant RX9 178 (-1000100) ∈ TB := TB_of 936 (by decide +kernel) rfl
theorem lk_L_64 : LK RL 64 yX9_whose := Or.inl (TB_of 937 (by decide +kernel) rfl)
theorem lk_X9_193 : LK RX9 193 yX9_owner := Or.inl (TB_of 941 (by decide +kernel) rfl)
theorem lk_X9_182 : LK RX9 182 yX9_rowFor := Or.inl (TB_of 945 (by decide +kernel) rfl)
theorem kc_X9_188 : Cond.constant RX9 188 (-1000004) ∈ TB := TB_of 949 (by decide +kernel) rfl
theorem lk_X9_189 : LK RX9 189 yX9_sends := Or.inl (TB_of 950 (by decide +kernel) rfl)
theorem kc_X9_192 : Cond.constant RX9 192 (-1000007) ∈ TB := TB_of 954 (by decide +kernel) rfl
theorem lk_L_68 : LK RL 68 yX9_promise := Or.inl (TB_of 955 (by decide +kernel) rfl)
theorem lk_X9_196 : LK RX9 196 yX9_promised := Or.inl (TB_of 959 (by decide +kernel) rfl)
theorem lk_L_72 : LK RL 72 yX9_sent := Or.inl (TB_of 963 (by decide +kernel) rfl)
theorem lk_L_76 : LK RL 76 yX9_effort := Or.inl (TB_of 967 (by decide +kernel) rfl)
theorem lk_L_80 : LK RL 80 yX9_order := Or.inl (TB_of 971 (by decide +kernel) rfl)
theorem lk_X9_215 : LK RX9 215 yX9_findOrder := Or.inl (TB_of 975 (by decide +kernel) rfl)
theorem lk_X9_208 : LK RX9 208 yX9_isChosen := Or.inl (TB_of 979 (by decide +kernel) rfl)
theorem lk_X9_211 : LK RX9 211 yX9_takes := Or.inl (TB_of 983 (by decide +kernel) rfl)
theorem lk_L_84 : LK RL 84 yX9_close := Or.inl (TB_of 987 (by decide +kernel) rfl)
theorem kc_X9_218 : Cond.constant RX9 218 (-1000005) ∈ TB := TB_of 991 (by decide +kernel) rfl
theorem lk_L_89 : LK RL 89 yX9_look := Or.inl (TB_of 992 (by decide +kernel) rfl)
theorem lk_L_93 : LK RL 93 yX9_closings := Or.inl (TB_of 996 (by decide +kernel) rfl)
theorem lk_L_97 : LK RL 97 yX9_walk := Or.inl (TB_of 1000 (by decide +kernel) rfl)
theorem lk_L_101 : LK RL 101 yX9_quarter := Or.inl (TB_of 1004 (by decide +kernel) rfl)
theorem lk_L_105 : LK RL 105 yX9_sheet := Or.inl (TB_of 1008 (by decide +kernel) rfl)
theorem lk_X9_219 : LK RX9 219 yX9_isSheet := Or.inl (TB_of 1012 (by decide +kernel) rfl)
theorem kc_X9_222 : Cond.constant RX9 222 (-1000009) ∈ TB := TB_of 1015 (by decide +kernel) rfl
theorem lk_L_109 : LK RL 109 yX9_write := Or.inl (TB_of 1016 (by decide +kernel) rfl)
theorem kc_X9_223 : Cond.constant RX9 223 (-1000008) ∈ TB := TB_of 1020 (by decide +kernel) rfl
theorem lk_X9_224 : LK RX9 224 yX9_cut := Or.inl (TB_of 1021 (by decide +kernel) rfl)
theorem lk_L_113 : LK RL 113 yX9_copy := Or.inl (TB_of 1024 (by decide +kernel) rfl)
theorem lk_L_117 : LK RL 117 yX9_read := Or.inl (TB_of 1028 (by decide +kernel) rfl)
theorem lk_L_121 : LK RL 121 yX9_told := Or.inl (TB_of 1032 (by decide +kernel) rfl)
theorem lk_X9_227 : LK RX9 227 yX9_openMany := Or.inl (TB_of 1036 (by decide +kernel) rfl)
theorem lk_X9_230 : LK RX9 230 yX9_allClosings := Or.inl (TB_of 1040 (by decide +kernel) rfl)
theorem kc_L_48 : Cond.constantLong RL 48 4294967295 ∈ TB := TB_of 1044 (by decide +kernel) rfl
set_option maxRecDepth 100000 in
theorem mk_X8_init : MK yX8_init cX8_init 2 none 0 := ⟨TB_of 59 rfl rfl, TB_of 42 (by decide +kernel) rfl, (by decide +kernel), by decide⟩
theorem mi_X8_init : Cond.instanceMethod yX8_init ∈ TB := TB_of 58 (by decide +kernel) rfl
set_option maxRecDepth 100000 in
theorem mk_X0_init : MK yX0_init cX0_init 1 none 0 := ⟨TB_of 67 rfl rfl, TB_of 43 (by decide +kernel) rfl, (by decide +kernel), by decide⟩
theorem mi_X0_init : Cond.instanceMethod yX0_init ∈ TB := TB_of 66 (by decide +kernel) rfl
set_option maxRecDepth 100000 in
theorem mk_X7_init : MK yX7_init cX7_init 1 none 0 := ⟨TB_of 110 rfl rfl, TB_of 44 (by decide +kernel) rfl, (by decide +kernel), by decide⟩
theorem mi_X7_init : Cond.instanceMethod yX7_init ∈ TB := TB_of 109 (by decide +kernel) rfl
set_option maxRecDepth 100000 in
theorem mk_X3_init : MK yX3_init cX3_init 1 none 0 := ⟨TB_of 146 rfl rfl, TB_of 45 (by decide +kernel) rfl, (by decide +kernel), by decide⟩
theorem mi_X3_init : Cond.instanceMethod yX3_init ∈ TB := TB_of 145 (by decide +kernel) rfl
set_option maxRecDepth 100000 in
theorem mk_X6_init : MK yX6_init cX6_init 1 none 0 := ⟨TB_of 165 rfl rfl, TB_of 46 (by decide +kernel) rfl, (by decide +kernel), by decide⟩
theorem mi_X6_init : Cond.instanceMethod yX6_init ∈ TB := TB_of 164 (by decide +kernel) rfl
set_option maxRecDepth 100000 in
theorem mk_X2_init : MK yX2_init cX2_init 1 none 0 := ⟨TB_of 181 rfl rfl, TB_of 47 (by decide +kernel) rfl, (by decide +kernel), by decide⟩
theorem mi_X2_init : Cond.instanceMethod yX2_init ∈ TB := TB_of 180 (by decide +kernel) rfl
set_option maxRecDepth 100000 in
theorem mk_X1_init : MK yX1_init cX1_init 1 none 0 := ⟨TB_of 204 rfl rfl, TB_of 48 (by decide +kernel) rfl, (by decide +kernel), by decide⟩
theorem mi_X1_init : Cond.instanceMethod yX1_init ∈ TB := TB_of 203 (by decide +kernel) rfl
set_option maxRecDepth 100000 in
theorem mk_X5_init : MK yX5_init cX5_init 1 none 0 := ⟨TB_of 244 rfl rfl, TB_of 49 (by decide +kernel) rfl, (by decide +kernel), by decide⟩
theorem mi_X5_init : Cond.instanceMethod yX5_init ∈ TB := TB_of 243 (by decide +kernel) rfl
set_option maxRecDepth 100000 in
theorem mk_X4_init : MK yX4_init cX4_init 1 none 0 := ⟨TB_of 262 rfl rfl, TB_of 50 (by decide +kernel) rfl, (by decide +kernel), by decide⟩
theorem mi_X4_init : Cond.instanceMethod yX4_init ∈ TB := TB_of 261 (by decide +kernel) rfl
set_option maxRecDepth 100000 in
theorem mv_X8_ask : MV yX8_ask cX8_ask 7 (some .int) 5 := ⟨⟨TB_of 317 rfl rfl, TB_of 42 (by decide +kernel) rfl, (by decide +kernel), by decide⟩, TB_of 315 (by decide +kernel) rfl, TB_of 316 (by decide +kernel) rfl⟩
set_option maxRecDepth 100000 in
theorem ms_X8_within : MS yX8_within cX8_within 3 (some .boolean) 3 := ⟨⟨TB_of 320 rfl rfl, TB_of 42 (by decide +kernel) rfl, (by decide +kernel), by decide⟩, TB_of 319 (by decide +kernel) rfl⟩
set_option maxRecDepth 100000 in
theorem ms_X8_isKind : MS yX8_isKind cX8_isKind 1 (some .boolean) 1 := ⟨⟨TB_of 323 rfl rfl, TB_of 42 (by decide +kernel) rfl, (by decide +kernel), by decide⟩, TB_of 322 (by decide +kernel) rfl⟩
set_option maxRecDepth 100000 in
theorem mv_X8_canComeOn : MV yX8_canComeOn cX8_canComeOn 2 (some .boolean) 1 := ⟨⟨TB_of 327 rfl rfl, TB_of 42 (by decide +kernel) rfl, (by decide +kernel), by decide⟩, TB_of 326 (by decide +kernel) rfl, TB_of 0 (by decide +kernel) rfl⟩
set_option maxRecDepth 100000 in
theorem ms_X8_isDay : MS yX8_isDay cX8_isDay 1 (some .boolean) 1 := ⟨⟨TB_of 330 rfl rfl, TB_of 42 (by decide +kernel) rfl, (by decide +kernel), by decide⟩, TB_of 329 (by decide +kernel) rfl⟩
set_option maxRecDepth 100000 in
theorem mv_X0_latestDay : MV yX0_latestDay cX0_latestDay 1 (some .int) 0 := ⟨⟨TB_of 334 rfl rfl, TB_of 43 (by decide +kernel) rfl, (by decide +kernel), by decide⟩, TB_of 332 (by decide +kernel) rfl, TB_of 333 (by decide +kernel) rfl⟩
set_option maxRecDepth 100000 in
theorem mv_X8_finding : MV yX8_finding cX8_finding 2 (some .int) 1 := ⟨⟨TB_of 339 rfl rfl, TB_of 42 (by decide +kernel) rfl, (by decide +kernel), by decide⟩, TB_of 338 (by decide +kernel) rfl, TB_of 1 (by decide +kernel) rfl⟩
set_option maxRecDepth 100000 in
theorem mv_X8_join : MV yX8_join cX8_join 8 (some .int) 5 := ⟨⟨TB_of 344 rfl rfl, TB_of 42 (by decide +kernel) rfl, (by decide +kernel), by decide⟩, TB_of 343 (by decide +kernel) rfl, TB_of 2 (by decide +kernel) rfl⟩
set_option maxRecDepth 100000 in
theorem mv_X0_add : MV yX0_add cX0_add 7 (some .int) 5 := ⟨⟨TB_of 348 rfl rfl, TB_of 43 (by decide +kernel) rfl, (by decide +kernel), by decide⟩, TB_of 346 (by decide +kernel) rfl, TB_of 347 (by decide +kernel) rfl⟩
set_option maxRecDepth 100000 in
theorem mv_X8_firstOpenThingFor : MV yX8_firstOpenThingFor cX8_firstOpenThingFor 3 (some .int) 1 := ⟨⟨TB_of 352 rfl rfl, TB_of 42 (by decide +kernel) rfl, (by decide +kernel), by decide⟩, TB_of 351 (by decide +kernel) rfl, TB_of 3 (by decide +kernel) rfl⟩
set_option maxRecDepth 100000 in
theorem mv_X0_meetsAllOfThing : MV yX0_meetsAllOfThing cX0_meetsAllOfThing 4 (some .boolean) 2 := ⟨⟨TB_of 356 rfl rfl, TB_of 43 (by decide +kernel) rfl, (by decide +kernel), by decide⟩, TB_of 354 (by decide +kernel) rfl, TB_of 355 (by decide +kernel) rfl⟩
set_option maxRecDepth 100000 in
theorem mv_X0_areMeeting : MV yX0_areMeeting cX0_areMeeting 4 (some .boolean) 2 := ⟨⟨TB_of 360 rfl rfl, TB_of 43 (by decide +kernel) rfl, (by decide +kernel), by decide⟩, TB_of 358 (by decide +kernel) rfl, TB_of 359 (by decide +kernel) rfl⟩
set_option maxRecDepth 100000 in
theorem ms_X8_far : MS yX8_far cX8_far 4 (some .int) 4 := ⟨⟨TB_of 363 rfl rfl, TB_of 42 (by decide +kernel) rfl, (by decide +kernel), by decide⟩, TB_of 362 (by decide +kernel) rfl⟩
set_option maxRecDepth 100000 in
theorem ms_J9_abs_0f7a4 : MS yJ9_abs_0f7a4 cJ9_abs_0f7a4 1 (some .int) 1 := ⟨⟨TB_of 366 rfl rfl, TB_of 52 (by decide +kernel) rfl, (by decide +kernel), by decide⟩, TB_of 365 (by decide +kernel) rfl⟩
set_option maxRecDepth 100000 in
theorem mv_X7_begin : MV yX7_begin cX7_begin 3 (some .int) 1 := ⟨⟨TB_of 371 rfl rfl, TB_of 44 (by decide +kernel) rfl, (by decide +kernel), by decide⟩, TB_of 369 (by decide +kernel) rfl, TB_of 370 (by decide +kernel) rfl⟩
set_option maxRecDepth 100000 in
theorem mv_X8_marks : MV yX8_marks cX8_marks 4 (some .int) 3 := ⟨⟨TB_of 375 rfl rfl, TB_of 42 (by decide +kernel) rfl, (by decide +kernel), by decide⟩, TB_of 373 (by decide +kernel) rfl, TB_of 374 (by decide +kernel) rfl⟩
set_option maxRecDepth 100000 in
theorem mv_X8_meet : MV yX8_meet cX8_meet 3 (some .int) 2 := ⟨⟨TB_of 379 rfl rfl, TB_of 42 (by decide +kernel) rfl, (by decide +kernel), by decide⟩, TB_of 377 (by decide +kernel) rfl, TB_of 378 (by decide +kernel) rfl⟩
set_option maxRecDepth 100000 in
theorem mv_X8_isAsk : MV yX8_isAsk cX8_isAsk 2 (some .boolean) 1 := ⟨⟨TB_of 383 rfl rfl, TB_of 42 (by decide +kernel) rfl, (by decide +kernel), by decide⟩, TB_of 382 (by decide +kernel) rfl, TB_of 4 (by decide +kernel) rfl⟩
set_option maxRecDepth 100000 in
theorem mv_X8_of : MV yX8_of cX8_of 3 (some .int) 2 := ⟨⟨TB_of 388 rfl rfl, TB_of 42 (by decide +kernel) rfl, (by decide +kernel), by decide⟩, TB_of 386 (by decide +kernel) rfl, TB_of 387 (by decide +kernel) rfl⟩
set_option maxRecDepth 100000 in
theorem mv_X0_detail : MV yX0_detail cX0_detail 3 (some .int) 2 := ⟨⟨TB_of 392 rfl rfl, TB_of 43 (by decide +kernel) rfl, (by decide +kernel), by decide⟩, TB_of 390 (by decide +kernel) rfl, TB_of 391 (by decide +kernel) rfl⟩
set_option maxRecDepth 100000 in
theorem mv_X0_quarterOfAsk : MV yX0_quarterOfAsk cX0_quarterOfAsk 2 (some .int) 1 := ⟨⟨TB_of 396 rfl rfl, TB_of 43 (by decide +kernel) rfl, (by decide +kernel), by decide⟩, TB_of 394 (by decide +kernel) rfl, TB_of 395 (by decide +kernel) rfl⟩
set_option maxRecDepth 100000 in
theorem ms_X8_quarterAt : MS yX8_quarterAt cX8_quarterAt 2 (some .int) 2 := ⟨⟨TB_of 399 rfl rfl, TB_of 42 (by decide +kernel) rfl, (by decide +kernel), by decide⟩, TB_of 398 (by decide +kernel) rfl⟩
set_option maxRecDepth 100000 in
theorem mv_X8_as : MV yX8_as cX8_as 3 (some .int) 2 := ⟨⟨TB_of 403 rfl rfl, TB_of 42 (by decide +kernel) rfl, (by decide +kernel), by decide⟩, TB_of 401 (by decide +kernel) rfl, TB_of 402 (by decide +kernel) rfl⟩
set_option maxRecDepth 100000 in
theorem ms_X8_isOrIsUnder : MS yX8_isOrIsUnder cX8_isOrIsUnder 4 (some .boolean) 2 := ⟨⟨TB_of 406 rfl rfl, TB_of 42 (by decide +kernel) rfl, (by decide +kernel), by decide⟩, TB_of 405 (by decide +kernel) rfl⟩
set_option maxRecDepth 100000 in
theorem mv_X8_fewest : MV yX8_fewest cX8_fewest 3 (some .int) 2 := ⟨⟨TB_of 413 rfl rfl, TB_of 42 (by decide +kernel) rfl, (by decide +kernel), by decide⟩, TB_of 411 (by decide +kernel) rfl, TB_of 412 (by decide +kernel) rfl⟩
set_option maxRecDepth 100000 in
theorem mv_X3_fewestSets : MV yX3_fewestSets cX3_fewestSets 6 (some .int) 3 := ⟨⟨TB_of 418 rfl rfl, TB_of 45 (by decide +kernel) rfl, (by decide +kernel), by decide⟩, TB_of 416 (by decide +kernel) rfl, TB_of 417 (by decide +kernel) rfl⟩
set_option maxRecDepth 100000 in
theorem mv_X3_putFrom : MV yX3_putFrom cX3_putFrom 4 none 2 := ⟨⟨TB_of 423 rfl rfl, TB_of 45 (by decide +kernel) rfl, (by decide +kernel), by decide⟩, TB_of 422 (by decide +kernel) rfl, TB_of 5 (by decide +kernel) rfl⟩
set_option maxRecDepth 100000 in
theorem mv_X8_thing : MV yX8_thing cX8_thing 3 (some .int) 2 := ⟨⟨TB_of 427 rfl rfl, TB_of 42 (by decide +kernel) rfl, (by decide +kernel), by decide⟩, TB_of 425 (by decide +kernel) rfl, TB_of 426 (by decide +kernel) rfl⟩
set_option maxRecDepth 100000 in
theorem mv_X8_isThing : MV yX8_isThing cX8_isThing 2 (some .boolean) 1 := ⟨⟨TB_of 431 rfl rfl, TB_of 42 (by decide +kernel) rfl, (by decide +kernel), by decide⟩, TB_of 430 (by decide +kernel) rfl, TB_of 6 (by decide +kernel) rfl⟩
set_option maxRecDepth 100000 in
theorem mv_X8_placeDetail : MV yX8_placeDetail cX8_placeDetail 4 (some .int) 2 := ⟨⟨TB_of 435 rfl rfl, TB_of 42 (by decide +kernel) rfl, (by decide +kernel), by decide⟩, TB_of 434 (by decide +kernel) rfl, TB_of 7 (by decide +kernel) rfl⟩
set_option maxRecDepth 100000 in
theorem mv_X8_stateDetail : MV yX8_stateDetail cX8_stateDetail 3 (some .int) 2 := ⟨⟨TB_of 439 rfl rfl, TB_of 42 (by decide +kernel) rfl, (by decide +kernel), by decide⟩, TB_of 438 (by decide +kernel) rfl, TB_of 8 (by decide +kernel) rfl⟩
set_option maxRecDepth 100000 in
theorem mv_X0_countOfThing : MV yX0_countOfThing cX0_countOfThing 4 (some .int) 1 := ⟨⟨TB_of 443 rfl rfl, TB_of 43 (by decide +kernel) rfl, (by decide +kernel), by decide⟩, TB_of 441 (by decide +kernel) rfl, TB_of 442 (by decide +kernel) rfl⟩
set_option maxRecDepth 100000 in
theorem mv_X8_asked : MV yX8_asked cX8_asked 3 (some .int) 2 := ⟨⟨TB_of 447 rfl rfl, TB_of 42 (by decide +kernel) rfl, (by decide +kernel), by decide⟩, TB_of 445 (by decide +kernel) rfl, TB_of 446 (by decide +kernel) rfl⟩
set_option maxRecDepth 100000 in
theorem mv_X0_nthOfThing : MV yX0_nthOfThing cX0_nthOfThing 5 (some .int) 2 := ⟨⟨TB_of 451 rfl rfl, TB_of 43 (by decide +kernel) rfl, (by decide +kernel), by decide⟩, TB_of 449 (by decide +kernel) rfl, TB_of 450 (by decide +kernel) rfl⟩
set_option maxRecDepth 100000 in
theorem mv_X8_feed : MV yX8_feed cX8_feed 4 (some .int) 2 := ⟨⟨TB_of 455 rfl rfl, TB_of 42 (by decide +kernel) rfl, (by decide +kernel), by decide⟩, TB_of 453 (by decide +kernel) rfl, TB_of 454 (by decide +kernel) rfl⟩
set_option maxRecDepth 100000 in
theorem mv_X6_append : MV yX6_append cX6_append 5 none 2 := ⟨⟨TB_of 459 rfl rfl, TB_of 46 (by decide +kernel) rfl, (by decide +kernel), by decide⟩, TB_of 457 (by decide +kernel) rfl, TB_of 458 (by decide +kernel) rfl⟩
set_option maxRecDepth 100000 in
theorem mv_X8_text : MV yX8_text cX8_text 2 (some .int) 0 := ⟨⟨TB_of 463 rfl rfl, TB_of 42 (by decide +kernel) rfl, (by decide +kernel), by decide⟩, TB_of 461 (by decide +kernel) rfl, TB_of 462 (by decide +kernel) rfl⟩
set_option maxRecDepth 100000 in
theorem mv_X2_wrongPlace : MV yX2_wrongPlace cX2_wrongPlace 3 (some .int) 1 := ⟨⟨TB_of 467 rfl rfl, TB_of 47 (by decide +kernel) rfl, (by decide +kernel), by decide⟩, TB_of 465 (by decide +kernel) rfl, TB_of 466 (by decide +kernel) rfl⟩
set_option maxRecDepth 100000 in
theorem ms_X2_canStand : MS yX2_canStand cX2_canStand 6 (some .boolean) 2 := ⟨⟨TB_of 470 rfl rfl, TB_of 47 (by decide +kernel) rfl, (by decide +kernel), by decide⟩, TB_of 469 (by decide +kernel) rfl⟩
set_option maxRecDepth 100000 in
theorem mv_X2_load : MV yX2_load cX2_load 4 none 1 := ⟨⟨TB_of 475 rfl rfl, TB_of 47 (by decide +kernel) rfl, (by decide +kernel), by decide⟩, TB_of 473 (by decide +kernel) rfl, TB_of 474 (by decide +kernel) rfl⟩
set_option maxRecDepth 100000 in
theorem mv_X8_whose : MV yX8_whose cX8_whose 3 (some .int) 1 := ⟨⟨TB_of 480 rfl rfl, TB_of 42 (by decide +kernel) rfl, (by decide +kernel), by decide⟩, TB_of 478 (by decide +kernel) rfl, TB_of 479 (by decide +kernel) rfl⟩
set_option maxRecDepth 100000 in
theorem mv_X8_ownerOf : MV yX8_ownerOf cX8_ownerOf 3 (some .int) 1 := ⟨⟨TB_of 484 rfl rfl, TB_of 42 (by decide +kernel) rfl, (by decide +kernel), by decide⟩, TB_of 483 (by decide +kernel) rfl, TB_of 9 (by decide +kernel) rfl⟩
set_option maxRecDepth 100000 in
theorem mv_X8_kindOf : MV yX8_kindOf cX8_kindOf 2 (some .int) 1 := ⟨⟨TB_of 488 rfl rfl, TB_of 42 (by decide +kernel) rfl, (by decide +kernel), by decide⟩, TB_of 487 (by decide +kernel) rfl, TB_of 10 (by decide +kernel) rfl⟩
set_option maxRecDepth 100000 in
theorem mv_X2_firstDeskFor : MV yX2_firstDeskFor cX2_firstDeskFor 3 (some .int) 1 := ⟨⟨TB_of 492 rfl rfl, TB_of 47 (by decide +kernel) rfl, (by decide +kernel), by decide⟩, TB_of 490 (by decide +kernel) rfl, TB_of 491 (by decide +kernel) rfl⟩
set_option maxRecDepth 100000 in
theorem mv_X2_rowFor : MV yX2_rowFor cX2_rowFor 5 (some .int) 1 := ⟨⟨TB_of 496 rfl rfl, TB_of 47 (by decide +kernel) rfl, (by decide +kernel), by decide⟩, TB_of 495 (by decide +kernel) rfl, TB_of 11 (by decide +kernel) rfl⟩
set_option maxRecDepth 100000 in
theorem mv_X2_rowForJust : MV yX2_rowForJust cX2_rowForJust 3 (some .int) 1 := ⟨⟨TB_of 500 rfl rfl, TB_of 47 (by decide +kernel) rfl, (by decide +kernel), by decide⟩, TB_of 499 (by decide +kernel) rfl, TB_of 12 (by decide +kernel) rfl⟩
set_option maxRecDepth 100000 in
theorem mv_X8_quarterOfThing : MV yX8_quarterOfThing cX8_quarterOfThing 2 (some .int) 1 := ⟨⟨TB_of 506 rfl rfl, TB_of 42 (by decide +kernel) rfl, (by decide +kernel), by decide⟩, TB_of 505 (by decide +kernel) rfl, TB_of 13 (by decide +kernel) rfl⟩
set_option maxRecDepth 100000 in
theorem mv_X2_lastDeskFrom : MV yX2_lastDeskFrom cX2_lastDeskFrom 6 (some .int) 2 := ⟨⟨TB_of 511 rfl rfl, TB_of 47 (by decide +kernel) rfl, (by decide +kernel), by decide⟩, TB_of 509 (by decide +kernel) rfl, TB_of 510 (by decide +kernel) rfl⟩
set_option maxRecDepth 100000 in
theorem mv_X2_rowsGoneBy : MV yX2_rowsGoneBy cX2_rowsGoneBy 6 (some .int) 2 := ⟨⟨TB_of 515 rfl rfl, TB_of 47 (by decide +kernel) rfl, (by decide +kernel), by decide⟩, TB_of 513 (by decide +kernel) rfl, TB_of 514 (by decide +kernel) rfl⟩
set_option maxRecDepth 100000 in
theorem mv_X2_nextDesk : MV yX2_nextDesk cX2_nextDesk 5 (some .int) 2 := ⟨⟨TB_of 519 rfl rfl, TB_of 47 (by decide +kernel) rfl, (by decide +kernel), by decide⟩, TB_of 518 (by decide +kernel) rfl, TB_of 14 (by decide +kernel) rfl⟩
set_option maxRecDepth 100000 in
theorem ms_X8_hasBit : MS yX8_hasBit cX8_hasBit 2 (some .boolean) 2 := ⟨⟨TB_of 522 rfl rfl, TB_of 42 (by decide +kernel) rfl, (by decide +kernel), by decide⟩, TB_of 521 (by decide +kernel) rfl⟩
set_option maxRecDepth 100000 in
theorem mv_X8_promise : MV yX8_promise cX8_promise 3 (some .int) 1 := ⟨⟨TB_of 527 rfl rfl, TB_of 42 (by decide +kernel) rfl, (by decide +kernel), by decide⟩, TB_of 525 (by decide +kernel) rfl, TB_of 526 (by decide +kernel) rfl⟩
set_option maxRecDepth 100000 in
theorem mv_X2_daysFor : MV yX2_daysFor cX2_daysFor 3 (some .int) 1 := ⟨⟨TB_of 531 rfl rfl, TB_of 47 (by decide +kernel) rfl, (by decide +kernel), by decide⟩, TB_of 529 (by decide +kernel) rfl, TB_of 530 (by decide +kernel) rfl⟩
set_option maxRecDepth 100000 in
theorem mv_X8_dayOf : MV yX8_dayOf cX8_dayOf 2 (some .int) 1 := ⟨⟨TB_of 535 rfl rfl, TB_of 42 (by decide +kernel) rfl, (by decide +kernel), by decide⟩, TB_of 534 (by decide +kernel) rfl, TB_of 15 (by decide +kernel) rfl⟩
set_option maxRecDepth 100000 in
theorem mv_X8_sent : MV yX8_sent cX8_sent 3 (some .int) 1 := ⟨⟨TB_of 539 rfl rfl, TB_of 42 (by decide +kernel) rfl, (by decide +kernel), by decide⟩, TB_of 537 (by decide +kernel) rfl, TB_of 538 (by decide +kernel) rfl⟩
set_option maxRecDepth 100000 in
theorem mv_X8_effort : MV yX8_effort cX8_effort 4 (some .int) 2 := ⟨⟨TB_of 544 rfl rfl, TB_of 42 (by decide +kernel) rfl, (by decide +kernel), by decide⟩, TB_of 542 (by decide +kernel) rfl, TB_of 543 (by decide +kernel) rfl⟩
set_option maxRecDepth 100000 in
theorem mv_X8_order : MV yX8_order cX8_order 8 (some .int) 5 := ⟨⟨TB_of 548 rfl rfl, TB_of 42 (by decide +kernel) rfl, (by decide +kernel), by decide⟩, TB_of 546 (by decide +kernel) rfl, TB_of 547 (by decide +kernel) rfl⟩
set_option maxRecDepth 100000 in
theorem ms_X8_isPlace : MS yX8_isPlace cX8_isPlace 1 (some .boolean) 1 := ⟨⟨TB_of 551 rfl rfl, TB_of 42 (by decide +kernel) rfl, (by decide +kernel), by decide⟩, TB_of 550 (by decide +kernel) rfl⟩
set_option maxRecDepth 100000 in
theorem mv_X8_areThings : MV yX8_areThings cX8_areThings 4 (some .boolean) 2 := ⟨⟨TB_of 555 rfl rfl, TB_of 42 (by decide +kernel) rfl, (by decide +kernel), by decide⟩, TB_of 554 (by decide +kernel) rfl, TB_of 16 (by decide +kernel) rfl⟩
set_option maxRecDepth 100000 in
theorem ms_J6_bitCount_0f7a4 : MS yJ6_bitCount_0f7a4 cJ6_bitCount_0f7a4 1 (some .int) 1 := ⟨⟨TB_of 558 rfl rfl, TB_of 53 (by decide +kernel) rfl, (by decide +kernel), by decide⟩, TB_of 557 (by decide +kernel) rfl⟩
set_option maxRecDepth 100000 in
theorem mv_X1_begin : MV yX1_begin cX1_begin 2 none 1 := ⟨⟨TB_of 565 rfl rfl, TB_of 48 (by decide +kernel) rfl, (by decide +kernel), by decide⟩, TB_of 563 (by decide +kernel) rfl, TB_of 564 (by decide +kernel) rfl⟩
set_option maxRecDepth 100000 in
theorem mv_X8_giveToCrew : MV yX8_giveToCrew cX8_giveToCrew 5 none 1 := ⟨⟨TB_of 570 rfl rfl, TB_of 42 (by decide +kernel) rfl, (by decide +kernel), by decide⟩, TB_of 569 (by decide +kernel) rfl, TB_of 17 (by decide +kernel) rfl⟩
set_option maxRecDepth 100000 in
theorem mv_X1_take : MV yX1_take cX1_take 6 none 5 := ⟨⟨TB_of 575 rfl rfl, TB_of 48 (by decide +kernel) rfl, (by decide +kernel), by decide⟩, TB_of 573 (by decide +kernel) rfl, TB_of 574 (by decide +kernel) rfl⟩
set_option maxRecDepth 100000 in
theorem mv_X1_findOrder : MV yX1_findOrder cX1_findOrder 3 none 2 := ⟨⟨TB_of 579 rfl rfl, TB_of 48 (by decide +kernel) rfl, (by decide +kernel), by decide⟩, TB_of 577 (by decide +kernel) rfl, TB_of 578 (by decide +kernel) rfl⟩
set_option maxRecDepth 100000 in
theorem mv_X1_goOn : MV yX1_goOn cX1_goOn 10 none 6 := ⟨⟨TB_of 583 rfl rfl, TB_of 48 (by decide +kernel) rfl, (by decide +kernel), by decide⟩, TB_of 582 (by decide +kernel) rfl, TB_of 18 (by decide +kernel) rfl⟩
set_option maxRecDepth 100000 in
theorem mv_X1_keepTried : MV yX1_keepTried cX1_keepTried 4 none 2 := ⟨⟨TB_of 587 rfl rfl, TB_of 48 (by decide +kernel) rfl, (by decide +kernel), by decide⟩, TB_of 586 (by decide +kernel) rfl, TB_of 19 (by decide +kernel) rfl⟩
set_option maxRecDepth 100000 in
theorem mv_X1_detail : MV yX1_detail cX1_detail 2 (some .int) 1 := ⟨⟨TB_of 593 rfl rfl, TB_of 48 (by decide +kernel) rfl, (by decide +kernel), by decide⟩, TB_of 591 (by decide +kernel) rfl, TB_of 592 (by decide +kernel) rfl⟩
set_option maxRecDepth 100000 in
theorem mv_X8_close : MV yX8_close cX8_close 4 (some .int) 2 := ⟨⟨TB_of 598 rfl rfl, TB_of 42 (by decide +kernel) rfl, (by decide +kernel), by decide⟩, TB_of 596 (by decide +kernel) rfl, TB_of 597 (by decide +kernel) rfl⟩
set_option maxRecDepth 100000 in
theorem mv_X7_shut : MV yX7_shut cX7_shut 4 none 3 := ⟨⟨TB_of 603 rfl rfl, TB_of 44 (by decide +kernel) rfl, (by decide +kernel), by decide⟩, TB_of 601 (by decide +kernel) rfl, TB_of 602 (by decide +kernel) rfl⟩
set_option maxRecDepth 100000 in
theorem mv_X8_look : MV yX8_look cX8_look 3 (some .int) 2 := ⟨⟨TB_of 607 rfl rfl, TB_of 42 (by decide +kernel) rfl, (by decide +kernel), by decide⟩, TB_of 605 (by decide +kernel) rfl, TB_of 606 (by decide +kernel) rfl⟩
set_option maxRecDepth 100000 in
theorem mv_X5_countLook : MV yX5_countLook cX5_countLook 3 none 2 := ⟨⟨TB_of 611 rfl rfl, TB_of 49 (by decide +kernel) rfl, (by decide +kernel), by decide⟩, TB_of 609 (by decide +kernel) rfl, TB_of 610 (by decide +kernel) rfl⟩
set_option maxRecDepth 100000 in
theorem mv_X8_closings : MV yX8_closings cX8_closings 3 (some .int) 2 := ⟨⟨TB_of 615 rfl rfl, TB_of 42 (by decide +kernel) rfl, (by decide +kernel), by decide⟩, TB_of 613 (by decide +kernel) rfl, TB_of 614 (by decide +kernel) rfl⟩
set_option maxRecDepth 100000 in
theorem mv_X5_detail : MV yX5_detail cX5_detail 3 (some .int) 2 := ⟨⟨TB_of 619 rfl rfl, TB_of 49 (by decide +kernel) rfl, (by decide +kernel), by decide⟩, TB_of 617 (by decide +kernel) rfl, TB_of 618 (by decide +kernel) rfl⟩
set_option maxRecDepth 100000 in
theorem mv_X8_walk : MV yX8_walk cX8_walk 4 (some .int) 3 := ⟨⟨TB_of 623 rfl rfl, TB_of 42 (by decide +kernel) rfl, (by decide +kernel), by decide⟩, TB_of 621 (by decide +kernel) rfl, TB_of 622 (by decide +kernel) rfl⟩
set_option maxRecDepth 100000 in
theorem ms_X8_isQuarter : MS yX8_isQuarter cX8_isQuarter 1 (some .boolean) 1 := ⟨⟨TB_of 626 rfl rfl, TB_of 42 (by decide +kernel) rfl, (by decide +kernel), by decide⟩, TB_of 625 (by decide +kernel) rfl⟩
set_option maxRecDepth 100000 in
theorem mv_X8_quarter : MV yX8_quarter cX8_quarter 3 (some .int) 2 := ⟨⟨TB_of 630 rfl rfl, TB_of 42 (by decide +kernel) rfl, (by decide +kernel), by decide⟩, TB_of 628 (by decide +kernel) rfl, TB_of 629 (by decide +kernel) rfl⟩
set_option maxRecDepth 100000 in
theorem mv_X8_thingsIn : MV yX8_thingsIn cX8_thingsIn 5 (some .int) 2 := ⟨⟨TB_of 634 rfl rfl, TB_of 42 (by decide +kernel) rfl, (by decide +kernel), by decide⟩, TB_of 633 (by decide +kernel) rfl, TB_of 20 (by decide +kernel) rfl⟩
set_option maxRecDepth 100000 in
theorem mv_X0_countIn : MV yX0_countIn cX0_countIn 4 (some .int) 1 := ⟨⟨TB_of 638 rfl rfl, TB_of 43 (by decide +kernel) rfl, (by decide +kernel), by decide⟩, TB_of 636 (by decide +kernel) rfl, TB_of 637 (by decide +kernel) rfl⟩
set_option maxRecDepth 100000 in
theorem mv_X8_askedOfHundred : MV yX8_askedOfHundred cX8_askedOfHundred 3 (some .int) 1 := ⟨⟨TB_of 642 rfl rfl, TB_of 42 (by decide +kernel) rfl, (by decide +kernel), by decide⟩, TB_of 641 (by decide +kernel) rfl, TB_of 21 (by decide +kernel) rfl⟩
set_option maxRecDepth 100000 in
theorem mv_X8_thingsReckoned : MV yX8_thingsReckoned cX8_thingsReckoned 3 (some .int) 1 := ⟨⟨TB_of 646 rfl rfl, TB_of 42 (by decide +kernel) rfl, (by decide +kernel), by decide⟩, TB_of 645 (by decide +kernel) rfl, TB_of 22 (by decide +kernel) rfl⟩
set_option maxRecDepth 100000 in
theorem mv_X8_sheet : MV yX8_sheet cX8_sheet 4 (some .int) 3 := ⟨⟨TB_of 650 rfl rfl, TB_of 42 (by decide +kernel) rfl, (by decide +kernel), by decide⟩, TB_of 648 (by decide +kernel) rfl, TB_of 649 (by decide +kernel) rfl⟩
set_option maxRecDepth 100000 in
theorem ms_X8_isSheet : MS yX8_isSheet cX8_isSheet 1 (some .boolean) 1 := ⟨⟨TB_of 653 rfl rfl, TB_of 42 (by decide +kernel) rfl, (by decide +kernel), by decide⟩, TB_of 652 (by decide +kernel) rfl⟩
set_option maxRecDepth 100000 in
theorem mv_X4_begin : MV yX4_begin cX4_begin 4 none 2 := ⟨⟨TB_of 658 rfl rfl, TB_of 50 (by decide +kernel) rfl, (by decide +kernel), by decide⟩, TB_of 656 (by decide +kernel) rfl, TB_of 657 (by decide +kernel) rfl⟩
set_option maxRecDepth 100000 in
theorem mv_X8_write : MV yX8_write cX8_write 4 (some .int) 3 := ⟨⟨TB_of 662 rfl rfl, TB_of 42 (by decide +kernel) rfl, (by decide +kernel), by decide⟩, TB_of 660 (by decide +kernel) rfl, TB_of 661 (by decide +kernel) rfl⟩
set_option maxRecDepth 100000 in
theorem mv_X4_isMissing : MV yX4_isMissing cX4_isMissing 1 (some .boolean) 0 := ⟨⟨TB_of 666 rfl rfl, TB_of 50 (by decide +kernel) rfl, (by decide +kernel), by decide⟩, TB_of 664 (by decide +kernel) rfl, TB_of 665 (by decide +kernel) rfl⟩
set_option maxRecDepth 100000 in
theorem mv_X4_replace : MV yX4_replace cX4_replace 4 (some .int) 2 := ⟨⟨TB_of 671 rfl rfl, TB_of 50 (by decide +kernel) rfl, (by decide +kernel), by decide⟩, TB_of 669 (by decide +kernel) rfl, TB_of 670 (by decide +kernel) rfl⟩
set_option maxRecDepth 100000 in
theorem mv_X4_lowestBits : MV yX4_lowestBits cX4_lowestBits 2 (some .int) 1 := ⟨⟨TB_of 675 rfl rfl, TB_of 50 (by decide +kernel) rfl, (by decide +kernel), by decide⟩, TB_of 674 (by decide +kernel) rfl, TB_of 23 (by decide +kernel) rfl⟩
set_option maxRecDepth 100000 in
theorem mv_X8_copy : MV yX8_copy cX8_copy 8 (some .int) 5 := ⟨⟨TB_of 679 rfl rfl, TB_of 42 (by decide +kernel) rfl, (by decide +kernel), by decide⟩, TB_of 677 (by decide +kernel) rfl, TB_of 678 (by decide +kernel) rfl⟩
set_option maxRecDepth 100000 in
theorem mv_X4_hasRange : MV yX4_hasRange cX4_hasRange 3 (some .boolean) 2 := ⟨⟨TB_of 683 rfl rfl, TB_of 50 (by decide +kernel) rfl, (by decide +kernel), by decide⟩, TB_of 681 (by decide +kernel) rfl, TB_of 682 (by decide +kernel) rfl⟩
set_option maxRecDepth 100000 in
theorem mv_X8_read : MV yX8_read cX8_read 6 (some .int) 3 := ⟨⟨TB_of 690 rfl rfl, TB_of 42 (by decide +kernel) rfl, (by decide +kernel), by decide⟩, TB_of 688 (by decide +kernel) rfl, TB_of 689 (by decide +kernel) rfl⟩
set_option maxRecDepth 100000 in
theorem mv_X4_holdsPlacesAlone : MV yX4_holdsPlacesAlone cX4_holdsPlacesAlone 2 (some .boolean) 0 := ⟨⟨TB_of 694 rfl rfl, TB_of 50 (by decide +kernel) rfl, (by decide +kernel), by decide⟩, TB_of 692 (by decide +kernel) rfl, TB_of 693 (by decide +kernel) rfl⟩
set_option maxRecDepth 100000 in
theorem mv_X8_told : MV yX8_told cX8_told 2 (some .int) 1 := ⟨⟨TB_of 699 rfl rfl, TB_of 42 (by decide +kernel) rfl, (by decide +kernel), by decide⟩, TB_of 697 (by decide +kernel) rfl, TB_of 698 (by decide +kernel) rfl⟩
set_option maxRecDepth 100000 in
theorem mv_X7_countOpen : MV yX7_countOpen cX7_countOpen 3 (some .int) 0 := ⟨⟨TB_of 703 rfl rfl, TB_of 44 (by decide +kernel) rfl, (by decide +kernel), by decide⟩, TB_of 701 (by decide +kernel) rfl, TB_of 702 (by decide +kernel) rfl⟩
set_option maxRecDepth 100000 in
theorem mv_X5_allClosed : MV yX5_allClosed cX5_allClosed 3 (some .int) 0 := ⟨⟨TB_of 707 rfl rfl, TB_of 49 (by decide +kernel) rfl, (by decide +kernel), by decide⟩, TB_of 705 (by decide +kernel) rfl, TB_of 706 (by decide +kernel) rfl⟩
set_option maxRecDepth 100000 in
theorem mk_X9_init : MK yX9_init cX9_init 1 none 0 := ⟨TB_of 712 rfl rfl, TB_of 51 (by decide +kernel) rfl, (by decide +kernel), by decide⟩
theorem mi_X9_init : Cond.instanceMethod yX9_init ∈ TB := TB_of 711 (by decide +kernel) rfl
set_option maxRecDepth 100000 in
theorem mv_X9_ask : MV yX9_ask cX9_ask 6 (some .int) 5 := ⟨⟨TB_of 841 rfl rfl, TB_of 51 (by decide +kernel) rfl, (by decide +kernel), by decide⟩, TB_of 839 (by decide +kernel) rfl, TB_of 840 (by decide +kernel) rfl⟩
set_option maxRecDepth 100000 in
theorem ms_X9_isKind : MS yX9_isKind cX9_isKind 1 (some .boolean) 1 := ⟨⟨TB_of 844 rfl rfl, TB_of 51 (by decide +kernel) rfl, (by decide +kernel), by decide⟩, TB_of 843 (by decide +kernel) rfl⟩
set_option maxRecDepth 100000 in
theorem ms_X9_in : MS yX9_in cX9_in 3 (some .boolean) 3 := ⟨⟨TB_of 847 rfl rfl, TB_of 51 (by decide +kernel) rfl, (by decide +kernel), by decide⟩, TB_of 846 (by decide +kernel) rfl⟩
set_option maxRecDepth 100000 in
theorem ms_X9_isDay : MS yX9_isDay cX9_isDay 1 (some .boolean) 1 := ⟨⟨TB_of 850 rfl rfl, TB_of 51 (by decide +kernel) rfl, (by decide +kernel), by decide⟩, TB_of 849 (by decide +kernel) rfl⟩
set_option maxRecDepth 100000 in
theorem mv_X9_latest : MV yX9_latest cX9_latest 1 (some .int) 0 := ⟨⟨TB_of 854 rfl rfl, TB_of 51 (by decide +kernel) rfl, (by decide +kernel), by decide⟩, TB_of 853 (by decide +kernel) rfl, TB_of 24 (by decide +kernel) rfl⟩
set_option maxRecDepth 100000 in
theorem mv_X9_finding : MV yX9_finding cX9_finding 2 (some .int) 1 := ⟨⟨TB_of 859 rfl rfl, TB_of 51 (by decide +kernel) rfl, (by decide +kernel), by decide⟩, TB_of 858 (by decide +kernel) rfl, TB_of 25 (by decide +kernel) rfl⟩
set_option maxRecDepth 100000 in
theorem mv_X9_comes : MV yX9_comes cX9_comes 10 (some .int) 5 := ⟨⟨TB_of 864 rfl rfl, TB_of 51 (by decide +kernel) rfl, (by decide +kernel), by decide⟩, TB_of 863 (by decide +kernel) rfl, TB_of 26 (by decide +kernel) rfl⟩
set_option maxRecDepth 100000 in
theorem mv_X9_doMeet : MV yX9_doMeet cX9_doMeet 5 (some .boolean) 2 := ⟨⟨TB_of 868 rfl rfl, TB_of 51 (by decide +kernel) rfl, (by decide +kernel), by decide⟩, TB_of 867 (by decide +kernel) rfl, TB_of 27 (by decide +kernel) rfl⟩
set_option maxRecDepth 100000 in
theorem ms_X9_away : MS yX9_away cX9_away 2 (some .int) 2 := ⟨⟨TB_of 871 rfl rfl, TB_of 51 (by decide +kernel) rfl, (by decide +kernel), by decide⟩, TB_of 870 (by decide +kernel) rfl⟩
set_option maxRecDepth 100000 in
theorem mv_X9_marks : MV yX9_marks cX9_marks 4 (some .int) 3 := ⟨⟨TB_of 875 rfl rfl, TB_of 51 (by decide +kernel) rfl, (by decide +kernel), by decide⟩, TB_of 873 (by decide +kernel) rfl, TB_of 874 (by decide +kernel) rfl⟩
set_option maxRecDepth 100000 in
theorem mv_X9_meet : MV yX9_meet cX9_meet 3 (some .int) 2 := ⟨⟨TB_of 879 rfl rfl, TB_of 51 (by decide +kernel) rfl, (by decide +kernel), by decide⟩, TB_of 877 (by decide +kernel) rfl, TB_of 878 (by decide +kernel) rfl⟩
set_option maxRecDepth 100000 in
theorem mv_X9_isAsk : MV yX9_isAsk cX9_isAsk 2 (some .boolean) 1 := ⟨⟨TB_of 883 rfl rfl, TB_of 51 (by decide +kernel) rfl, (by decide +kernel), by decide⟩, TB_of 882 (by decide +kernel) rfl, TB_of 28 (by decide +kernel) rfl⟩
set_option maxRecDepth 100000 in
theorem mv_X9_of : MV yX9_of cX9_of 3 (some .int) 2 := ⟨⟨TB_of 887 rfl rfl, TB_of 51 (by decide +kernel) rfl, (by decide +kernel), by decide⟩, TB_of 885 (by decide +kernel) rfl, TB_of 886 (by decide +kernel) rfl⟩
set_option maxRecDepth 100000 in
theorem ms_X9_quarterOf : MS yX9_quarterOf cX9_quarterOf 2 (some .int) 2 := ⟨⟨TB_of 890 rfl rfl, TB_of 51 (by decide +kernel) rfl, (by decide +kernel), by decide⟩, TB_of 889 (by decide +kernel) rfl⟩
set_option maxRecDepth 100000 in
theorem mv_X9_as : MV yX9_as cX9_as 3 (some .int) 2 := ⟨⟨TB_of 894 rfl rfl, TB_of 51 (by decide +kernel) rfl, (by decide +kernel), by decide⟩, TB_of 892 (by decide +kernel) rfl, TB_of 893 (by decide +kernel) rfl⟩
set_option maxRecDepth 100000 in
theorem ms_X9_isUnder : MS yX9_isUnder cX9_isUnder 3 (some .boolean) 2 := ⟨⟨TB_of 897 rfl rfl, TB_of 51 (by decide +kernel) rfl, (by decide +kernel), by decide⟩, TB_of 896 (by decide +kernel) rfl⟩
set_option maxRecDepth 100000 in
theorem ms_X9_above : MS yX9_above cX9_above 1 (some .int) 1 := ⟨⟨TB_of 900 rfl rfl, TB_of 51 (by decide +kernel) rfl, (by decide +kernel), by decide⟩, TB_of 899 (by decide +kernel) rfl⟩
set_option maxRecDepth 100000 in
theorem mv_X9_fewest : MV yX9_fewest cX9_fewest 11 (some .int) 2 := ⟨⟨TB_of 905 rfl rfl, TB_of 51 (by decide +kernel) rfl, (by decide +kernel), by decide⟩, TB_of 903 (by decide +kernel) rfl, TB_of 904 (by decide +kernel) rfl⟩
set_option maxRecDepth 100000 in
theorem mv_X9_thing : MV yX9_thing cX9_thing 3 (some .int) 2 := ⟨⟨TB_of 910 rfl rfl, TB_of 51 (by decide +kernel) rfl, (by decide +kernel), by decide⟩, TB_of 908 (by decide +kernel) rfl, TB_of 909 (by decide +kernel) rfl⟩
set_option maxRecDepth 100000 in
theorem mv_X9_isThing : MV yX9_isThing cX9_isThing 2 (some .boolean) 1 := ⟨⟨TB_of 914 rfl rfl, TB_of 51 (by decide +kernel) rfl, (by decide +kernel), by decide⟩, TB_of 913 (by decide +kernel) rfl, TB_of 29 (by decide +kernel) rfl⟩
set_option maxRecDepth 100000 in
theorem mv_X9_asksOf : MV yX9_asksOf cX9_asksOf 4 (some .int) 1 := ⟨⟨TB_of 918 rfl rfl, TB_of 51 (by decide +kernel) rfl, (by decide +kernel), by decide⟩, TB_of 917 (by decide +kernel) rfl, TB_of 30 (by decide +kernel) rfl⟩
set_option maxRecDepth 100000 in
theorem mv_X9_asked : MV yX9_asked cX9_asked 5 (some .int) 2 := ⟨⟨TB_of 922 rfl rfl, TB_of 51 (by decide +kernel) rfl, (by decide +kernel), by decide⟩, TB_of 920 (by decide +kernel) rfl, TB_of 921 (by decide +kernel) rfl⟩
set_option maxRecDepth 100000 in
theorem mv_X9_feed : MV yX9_feed cX9_feed 5 (some .int) 2 := ⟨⟨TB_of 926 rfl rfl, TB_of 51 (by decide +kernel) rfl, (by decide +kernel), by decide⟩, TB_of 924 (by decide +kernel) rfl, TB_of 925 (by decide +kernel) rfl⟩
set_option maxRecDepth 100000 in
theorem mv_X9_text : MV yX9_text cX9_text 5 (some .int) 0 := ⟨⟨TB_of 931 rfl rfl, TB_of 51 (by decide +kernel) rfl, (by decide +kernel), by decide⟩, TB_of 929 (by decide +kernel) rfl, TB_of 930 (by decide +kernel) rfl⟩
set_option maxRecDepth 100000 in
theorem mv_X9_fits : MV yX9_fits cX9_fits 5 (some .boolean) 1 := ⟨⟨TB_of 935 rfl rfl, TB_of 51 (by decide +kernel) rfl, (by decide +kernel), by decide⟩, TB_of 934 (by decide +kernel) rfl, TB_of 31 (by decide +kernel) rfl⟩
set_option maxRecDepth 100000 in
theorem mv_X9_whose : MV yX9_whose cX9_whose 3 (some .int) 1 := ⟨⟨TB_of 940 rfl rfl, TB_of 51 (by decide +kernel) rfl, (by decide +kernel), by decide⟩, TB_of 938 (by decide +kernel) rfl, TB_of 939 (by decide +kernel) rfl⟩
set_option maxRecDepth 100000 in
theorem mv_X9_owner : MV yX9_owner cX9_owner 7 (some .int) 1 := ⟨⟨TB_of 944 rfl rfl, TB_of 51 (by decide +kernel) rfl, (by decide +kernel), by decide⟩, TB_of 943 (by decide +kernel) rfl, TB_of 32 (by decide +kernel) rfl⟩
set_option maxRecDepth 100000 in
theorem mv_X9_rowFor : MV yX9_rowFor cX9_rowFor 4 (some .int) 1 := ⟨⟨TB_of 948 rfl rfl, TB_of 51 (by decide +kernel) rfl, (by decide +kernel), by decide⟩, TB_of 947 (by decide +kernel) rfl, TB_of 33 (by decide +kernel) rfl⟩
set_option maxRecDepth 100000 in
theorem mv_X9_sends : MV yX9_sends cX9_sends 4 (some .int) 2 := ⟨⟨TB_of 953 rfl rfl, TB_of 51 (by decide +kernel) rfl, (by decide +kernel), by decide⟩, TB_of 952 (by decide +kernel) rfl, TB_of 34 (by decide +kernel) rfl⟩
set_option maxRecDepth 100000 in
theorem mv_X9_promise : MV yX9_promise cX9_promise 3 (some .int) 1 := ⟨⟨TB_of 958 rfl rfl, TB_of 51 (by decide +kernel) rfl, (by decide +kernel), by decide⟩, TB_of 956 (by decide +kernel) rfl, TB_of 957 (by decide +kernel) rfl⟩
set_option maxRecDepth 100000 in
theorem mv_X9_promised : MV yX9_promised cX9_promised 3 (some .int) 1 := ⟨⟨TB_of 962 rfl rfl, TB_of 51 (by decide +kernel) rfl, (by decide +kernel), by decide⟩, TB_of 961 (by decide +kernel) rfl, TB_of 35 (by decide +kernel) rfl⟩
set_option maxRecDepth 100000 in
theorem mv_X9_sent : MV yX9_sent cX9_sent 2 (some .int) 1 := ⟨⟨TB_of 966 rfl rfl, TB_of 51 (by decide +kernel) rfl, (by decide +kernel), by decide⟩, TB_of 964 (by decide +kernel) rfl, TB_of 965 (by decide +kernel) rfl⟩
set_option maxRecDepth 100000 in
theorem mv_X9_effort : MV yX9_effort cX9_effort 4 (some .int) 2 := ⟨⟨TB_of 970 rfl rfl, TB_of 51 (by decide +kernel) rfl, (by decide +kernel), by decide⟩, TB_of 968 (by decide +kernel) rfl, TB_of 969 (by decide +kernel) rfl⟩
set_option maxRecDepth 100000 in
theorem mv_X9_order : MV yX9_order cX9_order 8 (some .int) 5 := ⟨⟨TB_of 974 rfl rfl, TB_of 51 (by decide +kernel) rfl, (by decide +kernel), by decide⟩, TB_of 972 (by decide +kernel) rfl, TB_of 973 (by decide +kernel) rfl⟩
set_option maxRecDepth 100000 in
theorem mv_X9_findOrder : MV yX9_findOrder cX9_findOrder 4 none 2 := ⟨⟨TB_of 978 rfl rfl, TB_of 51 (by decide +kernel) rfl, (by decide +kernel), by decide⟩, TB_of 977 (by decide +kernel) rfl, TB_of 36 (by decide +kernel) rfl⟩
set_option maxRecDepth 100000 in
theorem mv_X9_isChosen : MV yX9_isChosen cX9_isChosen 5 (some .boolean) 2 := ⟨⟨TB_of 982 rfl rfl, TB_of 51 (by decide +kernel) rfl, (by decide +kernel), by decide⟩, TB_of 981 (by decide +kernel) rfl, TB_of 37 (by decide +kernel) rfl⟩
set_option maxRecDepth 100000 in
theorem mv_X9_takes : MV yX9_takes cX9_takes 11 none 2 := ⟨⟨TB_of 986 rfl rfl, TB_of 51 (by decide +kernel) rfl, (by decide +kernel), by decide⟩, TB_of 985 (by decide +kernel) rfl, TB_of 38 (by decide +kernel) rfl⟩
set_option maxRecDepth 100000 in
theorem mv_X9_close : MV yX9_close cX9_close 4 (some .int) 2 := ⟨⟨TB_of 990 rfl rfl, TB_of 51 (by decide +kernel) rfl, (by decide +kernel), by decide⟩, TB_of 988 (by decide +kernel) rfl, TB_of 989 (by decide +kernel) rfl⟩
set_option maxRecDepth 100000 in
theorem mv_X9_look : MV yX9_look cX9_look 3 (some .int) 2 := ⟨⟨TB_of 995 rfl rfl, TB_of 51 (by decide +kernel) rfl, (by decide +kernel), by decide⟩, TB_of 993 (by decide +kernel) rfl, TB_of 994 (by decide +kernel) rfl⟩
set_option maxRecDepth 100000 in
theorem mv_X9_closings : MV yX9_closings cX9_closings 3 (some .int) 2 := ⟨⟨TB_of 999 rfl rfl, TB_of 51 (by decide +kernel) rfl, (by decide +kernel), by decide⟩, TB_of 997 (by decide +kernel) rfl, TB_of 998 (by decide +kernel) rfl⟩
set_option maxRecDepth 100000 in
theorem mv_X9_walk : MV yX9_walk cX9_walk 4 (some .int) 3 := ⟨⟨TB_of 1003 rfl rfl, TB_of 51 (by decide +kernel) rfl, (by decide +kernel), by decide⟩, TB_of 1001 (by decide +kernel) rfl, TB_of 1002 (by decide +kernel) rfl⟩
set_option maxRecDepth 100000 in
theorem mv_X9_quarter : MV yX9_quarter cX9_quarter 7 (some .int) 2 := ⟨⟨TB_of 1007 rfl rfl, TB_of 51 (by decide +kernel) rfl, (by decide +kernel), by decide⟩, TB_of 1005 (by decide +kernel) rfl, TB_of 1006 (by decide +kernel) rfl⟩
set_option maxRecDepth 100000 in
theorem mv_X9_sheet : MV yX9_sheet cX9_sheet 5 (some .int) 3 := ⟨⟨TB_of 1011 rfl rfl, TB_of 51 (by decide +kernel) rfl, (by decide +kernel), by decide⟩, TB_of 1009 (by decide +kernel) rfl, TB_of 1010 (by decide +kernel) rfl⟩
set_option maxRecDepth 100000 in
theorem ms_X9_isSheet : MS yX9_isSheet cX9_isSheet 1 (some .boolean) 1 := ⟨⟨TB_of 1014 rfl rfl, TB_of 51 (by decide +kernel) rfl, (by decide +kernel), by decide⟩, TB_of 1013 (by decide +kernel) rfl⟩
set_option maxRecDepth 100000 in
theorem mv_X9_write : MV yX9_write cX9_write 5 (some .int) 3 := ⟨⟨TB_of 1019 rfl rfl, TB_of 51 (by decide +kernel) rfl, (by decide +kernel), by decide⟩, TB_of 1017 (by decide +kernel) rfl, TB_of 1018 (by decide +kernel) rfl⟩
set_option maxRecDepth 100000 in
theorem ms_X9_cut : MS yX9_cut cX9_cut 2 (some .int) 2 := ⟨⟨TB_of 1023 rfl rfl, TB_of 51 (by decide +kernel) rfl, (by decide +kernel), by decide⟩, TB_of 1022 (by decide +kernel) rfl⟩
set_option maxRecDepth 100000 in
theorem mv_X9_copy : MV yX9_copy cX9_copy 7 (some .int) 5 := ⟨⟨TB_of 1027 rfl rfl, TB_of 51 (by decide +kernel) rfl, (by decide +kernel), by decide⟩, TB_of 1025 (by decide +kernel) rfl, TB_of 1026 (by decide +kernel) rfl⟩
set_option maxRecDepth 100000 in
theorem mv_X9_read : MV yX9_read cX9_read 6 (some .int) 3 := ⟨⟨TB_of 1031 rfl rfl, TB_of 51 (by decide +kernel) rfl, (by decide +kernel), by decide⟩, TB_of 1029 (by decide +kernel) rfl, TB_of 1030 (by decide +kernel) rfl⟩
set_option maxRecDepth 100000 in
theorem mv_X9_told : MV yX9_told cX9_told 2 (some .int) 1 := ⟨⟨TB_of 1035 rfl rfl, TB_of 51 (by decide +kernel) rfl, (by decide +kernel), by decide⟩, TB_of 1033 (by decide +kernel) rfl, TB_of 1034 (by decide +kernel) rfl⟩
set_option maxRecDepth 100000 in
theorem mv_X9_openMany : MV yX9_openMany cX9_openMany 3 (some .int) 0 := ⟨⟨TB_of 1039 rfl rfl, TB_of 51 (by decide +kernel) rfl, (by decide +kernel), by decide⟩, TB_of 1038 (by decide +kernel) rfl, TB_of 39 (by decide +kernel) rfl⟩
set_option maxRecDepth 100000 in
theorem mv_X9_allClosings : MV yX9_allClosings cX9_allClosings 3 (some .int) 0 := ⟨⟨TB_of 1043 rfl rfl, TB_of 51 (by decide +kernel) rfl, (by decide +kernel), by decide⟩, TB_of 1042 (by decide +kernel) rfl, TB_of 40 (by decide +kernel) rfl⟩
theorem ja_st : Cond.static Lib.Math.abs.name ∈ TB := TB_of 365 (by decide +kernel) rfl
theorem ja_ini : Cond.initialized "java/lang/Math" ∈ TB := TB_of 52 (by decide +kernel) rfl
set_option maxRecDepth 100000 in
theorem ja_co : Cond.code Lib.Math.abs.name Lib.Math.abs.code 1 (some .int) ∈ TB := TB_of 366 rfl rfl
theorem jc_nat : Cond.native arraycopyName ∈ TB := TB_of 686 (by decide +kernel) rfl
theorem jc_st : Cond.static arraycopyName ∈ TB := TB_of 685 (by decide +kernel) rfl
theorem jc_ini : Cond.initialized "java/lang/System" ∈ TB := TB_of 54 (by decide +kernel) rfl
theorem jo_in : Cond.instanceMethod objectInit ∈ TB := TB_of 61 (by decide +kernel) rfl
set_option maxRecDepth 100000 in
theorem jo_co : Cond.code objectInit ⟨#[0xb1]⟩ 1 none ∈ TB := TB_of 62 rfl rfl
theorem ini_L : Cond.initialized RL ∈ TB := TB_of 41 (by decide +kernel) rfl
theorem ini_X8 : Cond.initialized RX8 ∈ TB := TB_of 42 (by decide +kernel) rfl
theorem ini_X0 : Cond.initialized RX0 ∈ TB := TB_of 43 (by decide +kernel) rfl
theorem ini_X7 : Cond.initialized RX7 ∈ TB := TB_of 44 (by decide +kernel) rfl
theorem ini_X3 : Cond.initialized RX3 ∈ TB := TB_of 45 (by decide +kernel) rfl
theorem ini_X6 : Cond.initialized RX6 ∈ TB := TB_of 46 (by decide +kernel) rfl
theorem ini_X2 : Cond.initialized RX2 ∈ TB := TB_of 47 (by decide +kernel) rfl
theorem ini_X1 : Cond.initialized RX1 ∈ TB := TB_of 48 (by decide +kernel) rfl
theorem ini_X5 : Cond.initialized RX5 ∈ TB := TB_of 49 (by decide +kernel) rfl
theorem ini_X4 : Cond.initialized RX4 ∈ TB := TB_of 50 (by decide +kernel) rfl
theorem ini_X9 : Cond.initialized RX9 ∈ TB := TB_of 51 (by decide +kernel) rfl
theorem ini_J9 : Cond.initialized RJ9 ∈ TB := TB_of 52 (by decide +kernel) rfl
theorem ini_J6 : Cond.initialized RJ6 ∈ TB := TB_of 53 (by decide +kernel) rfl
theorem ini_J10 : Cond.initialized RJ10 ∈ TB := TB_of 54 (by decide +kernel) rfl
theorem cl_L_7 : Cond.classLink RL 7 RX8 ∈ TB := TB_of 55 (by decide +kernel) rfl
theorem in_X8 : Cond.instantiable RX8 12 ∈ TB := TB_of 56 (by decide +kernel) rfl
theorem cl_X8_7 : Cond.classLink RX8 7 RX0 ∈ TB := TB_of 63 (by decide +kernel) rfl
theorem in_X0 : Cond.instantiable RX0 9 ∈ TB := TB_of 64 (by decide +kernel) rfl
theorem cl_X8_16 : Cond.classLink RX8 16 RX7 ∈ TB := TB_of 106 (by decide +kernel) rfl
theorem in_X7 : Cond.instantiable RX7 7 ∈ TB := TB_of 107 (by decide +kernel) rfl
theorem cl_X8_23 : Cond.classLink RX8 23 RX3 ∈ TB := TB_of 142 (by decide +kernel) rfl
theorem in_X3 : Cond.instantiable RX3 4 ∈ TB := TB_of 143 (by decide +kernel) rfl
theorem cl_X8_30 : Cond.classLink RX8 30 RX6 ∈ TB := TB_of 161 (by decide +kernel) rfl
theorem in_X6 : Cond.instantiable RX6 2 ∈ TB := TB_of 162 (by decide +kernel) rfl
theorem cl_X8_37 : Cond.classLink RX8 37 RX2 ∈ TB := TB_of 177 (by decide +kernel) rfl
theorem in_X2 : Cond.instantiable RX2 5 ∈ TB := TB_of 178 (by decide +kernel) rfl
theorem cl_X8_44 : Cond.classLink RX8 44 RX1 ∈ TB := TB_of 200 (by decide +kernel) rfl
theorem in_X1 : Cond.instantiable RX1 11 ∈ TB := TB_of 201 (by decide +kernel) rfl
theorem cl_X8_55 : Cond.classLink RX8 55 RX5 ∈ TB := TB_of 240 (by decide +kernel) rfl
theorem in_X5 : Cond.instantiable RX5 3 ∈ TB := TB_of 241 (by decide +kernel) rfl
theorem cl_X8_68 : Cond.classLink RX8 68 RX4 ∈ TB := TB_of 257 (by decide +kernel) rfl
theorem in_X4 : Cond.instantiable RX4 3 ∈ TB := TB_of 259 (by decide +kernel) rfl
theorem cl_L_10 : Cond.classLink RL 10 RX9 ∈ TB := TB_of 708 (by decide +kernel) rfl
theorem in_X9 : Cond.instantiable RX9 41 ∈ TB := TB_of 709 (by decide +kernel) rfl
end
section
def cfX (E : Ev) (k : Nat) (f : Nat → Int32) : va_E := match k with
  | 0 => .inr (8, [.ref (E.2.2.1 1), .ref (E.2.2.1 2), .ref (E.2.2.1 3), .ref (E.2.2.1 4), .ref (E.2.2.1 5), .ref (E.2.2.1 6), .ref (E.2.2.1 7), .ref (E.2.2.1 8), .ref (E.2.2.1 9), .ref (E.2.2.1 10), .ref (E.2.2.1 11), .int (f 11)])
  | 1 => .inr (0, [.ref (E.2.2.1 12), .ref (E.2.2.1 13), .ref (E.2.2.1 14), .ref (E.2.2.1 15), .ref (E.2.2.1 16), .ref (E.2.2.1 17), .ref (E.2.2.1 18), .ref (E.2.2.1 19), .int (f 8)])
  | 2 => .inr (7, [.ref (E.2.2.1 20), .ref (E.2.2.1 21), .ref (E.2.2.1 22), .ref (E.2.2.1 23), .ref (E.2.2.1 24), .ref (E.2.2.1 25), .int (f 6)])
  | 3 => .inr (3, [.ref (E.2.2.1 26), .ref (E.2.2.1 27), .int (f 2), .int (f 3)])
  | 4 => .inr (6, [.ref (E.2.2.1 28), .int (f 1)])
  | 5 => .inr (2, [.ref (E.2.2.1 29), .ref (E.2.2.1 30), .ref (E.2.2.1 31), .ref (E.2.2.1 32), .int (f 4)])
  | 6 => .inr (1, [.ref (E.2.2.1 33), .ref (E.2.2.1 34), .ref (E.2.2.1 35), .ref (E.2.2.1 36), .ref (E.2.2.1 37), .ref (E.2.2.1 38), .ref (E.2.2.1 39), .int (f 7), .int (f 8), .int (f 9), .int (f 10)])
  | 7 => .inl (E.2.1 0, 5, .inl f)
  | 8 => .inr (5, [.ref (E.2.2.1 40), .ref (E.2.2.1 41), .ref (E.2.2.1 42)])
  | 9 => .inl (E.2.1 0, 4, .inl f)
  | 10 => .inl (E.2.1 0, 4, .inl f)
  | 11 => .inl (E.2.1 2, 4, .inr (.inr (.inr (.inr (fun j => some (E.2.2.1 (43 + j)))))))
  | 12 => .inl (E.2.1 0, 40, .inl f)
  | 13 => .inl (E.2.1 0, 40, .inl f)
  | 14 => .inl (E.2.1 0, 40, .inl f)
  | 15 => .inl (E.2.1 0, 40, .inl f)
  | 16 => .inl (E.2.1 0, 40, .inl f)
  | 17 => .inl (E.2.1 0, 40, .inl f)
  | 18 => .inl (E.2.1 0, 5, .inl f)
  | 19 => .inl (E.2.1 0, 5, .inl f)
  | 20 => .inl (E.2.1 0, 40, .inl f)
  | 21 => .inl (E.2.1 1, 40, .inl f)
  | 22 => .inl (E.2.1 0, 40, .inl f)
  | 23 => .inl (E.2.1 0, 40, .inl f)
  | 24 => .inl (E.2.1 0, 40, .inl f)
  | 25 => .inl (E.2.1 1, 40, .inl f)
  | 26 => .inl (E.2.1 0, 12, .inl f)
  | 27 => .inl (E.2.1 0, 12, .inl f)
  | 28 => .inl (E.2.1 0, 80, .inl f)
  | 29 => .inl (E.2.1 0, 12, .inl f)
  | 30 => .inl (E.2.1 0, 12, .inl f)
  | 31 => .inl (E.2.1 0, 12, .inl f)
  | 32 => .inl (E.2.1 0, 12, .inl f)
  | 33 => .inl (E.2.1 0, 6, .inl f)
  | 34 => .inl (E.2.1 0, 6, .inl f)
  | 35 => .inl (E.2.1 0, 6, .inl f)
  | 36 => .inl (E.2.1 0, 6, .inl f)
  | 37 => .inl (E.2.1 0, 6, .inl f)
  | 38 => .inl (E.2.1 0, 6, .inl f)
  | 39 => .inl (E.2.1 0, 6, .inl f)
  | 40 => .inl (E.2.1 0, 6, .inl f)
  | 41 => .inl (E.2.1 0, 6, .inl f)
  | 42 => .inl (E.2.1 0, 6, .inl f)
  | 43 => .inr (4, [.ref (E.2.2.1 47), .int (f 1), .int (f 2)])
  | 44 => .inr (4, [.ref (E.2.2.1 48), .int (f 1), .int (f 2)])
  | 45 => .inr (4, [.ref (E.2.2.1 49), .int (f 1), .int (f 2)])
  | 46 => .inr (4, [.ref (E.2.2.1 50), .int (f 1), .int (f 2)])
  | 47 => .inl (E.2.1 0, 12, .inl f)
  | 48 => .inl (E.2.1 0, 12, .inl f)
  | 49 => .inl (E.2.1 0, 12, .inl f)
  | _ => .inl (E.2.1 0, 12, .inl f)
abbrev wdX (E : Ev) : Wd := (51, E.2.2.1, cfX E)
def cfY (E : Ev) (k : Nat) (f : Nat → Int32) : va_E := match k with
  | 0 => .inr (9, [.int (f 0), .int (f 1), .ref (E.2.2.1 1), .ref (E.2.2.1 2), .ref (E.2.2.1 3), .ref (E.2.2.1 4), .ref (E.2.2.1 5), .ref (E.2.2.1 6), .ref (E.2.2.1 7), .ref (E.2.2.1 8), .int (f 10), .ref (E.2.2.1 9), .ref (E.2.2.1 10), .ref (E.2.2.1 11), .ref (E.2.2.1 12), .ref (E.2.2.1 13), .ref (E.2.2.1 14), .int (f 17), .ref (E.2.2.1 15), .int (f 19), .ref (E.2.2.1 16), .ref (E.2.2.1 17), .ref (E.2.2.1 18), .ref (E.2.2.1 19), .ref (E.2.2.1 20), .ref (E.2.2.1 21), .ref (E.2.2.1 22), .ref (E.2.2.1 23), .ref (E.2.2.1 24), .ref (E.2.2.1 25), .ref (E.2.2.1 26), .ref (E.2.2.1 27), .ref (E.2.2.1 28), .int (f 33), .int (f 34), .ref (E.2.2.1 29), .ref (E.2.2.1 30), .ref (E.2.2.1 31), .int (f 38), .int (f 39), .ref (E.2.2.1 32)])
  | 1 => .inl (E.2.1 0, 40, .inl f)
  | 2 => .inl (E.2.1 0, 40, .inl f)
  | 3 => .inl (E.2.1 0, 40, .inl f)
  | 4 => .inl (E.2.1 0, 40, .inl f)
  | 5 => .inl (E.2.1 0, 40, .inl f)
  | 6 => .inl (E.2.1 0, 40, .inl f)
  | 7 => .inl (E.2.1 0, 5, .inl f)
  | 8 => .inl (E.2.1 0, 5, .inl f)
  | 9 => .inl (E.2.1 0, 40, .inl f)
  | 10 => .inl (E.2.1 1, 40, .inl f)
  | 11 => .inl (E.2.1 0, 40, .inl f)
  | 12 => .inl (E.2.1 0, 40, .inl f)
  | 13 => .inl (E.2.1 0, 40, .inl f)
  | 14 => .inl (E.2.1 1, 40, .inl f)
  | 15 => .inl (E.2.1 0, 80, .inl f)
  | 16 => .inl (E.2.1 0, 48, .inl f)
  | 17 => .inl (E.2.1 0, 5, .inl f)
  | 18 => .inl (E.2.1 0, 6, .inl f)
  | 19 => .inl (E.2.1 0, 6, .inl f)
  | 20 => .inl (E.2.1 0, 6, .inl f)
  | 21 => .inl (E.2.1 0, 4, .inl f)
  | 22 => .inl (E.2.1 0, 4, .inl f)
  | 23 => .inl (E.2.1 0, 4, .inl f)
  | 24 => .inl (E.2.1 0, 4, .inl f)
  | 25 => .inl (E.2.1 0, 48, .inl f)
  | 26 => .inl (E.2.1 1, 4096, .inl f)
  | 27 => .inl (E.2.1 0, 4096, .inl f)
  | 28 => .inl (E.2.1 0, 12, .inl f)
  | 29 => .inl (E.2.1 0, 6, .inl f)
  | 30 => .inl (E.2.1 0, 7, .inl f)
  | 31 => .inl (E.2.1 0, 6, .inl f)
  | _ => .inl (E.2.1 0, 12, .inl f)
abbrev wdY (E : Ev) : Wd := (33, E.2.2.1, cfY E)
section PW
variable {K : Kx} {own : String} {cc : ByteArray} {nL : Nat} {ret : Option FieldType} {E : Ev} {A : Nat → Prop} {d : Nat} {pc : Nat} {lo : List (Option Value)} {st : List Value} {h : Hp}
theorem gX_0_0 (X : Cx K own cc nL ret E A d) {ix : Nat} (q : Nat) (hd : decode cc pc = .ok (.getfield ix, 3)) (hq : pc + 3 = q) (hF : FL own ix 8 0) (kk : GW K nL E (wdX E) A q lo (.ref (E.2.2.1 1) :: st) h) : GW K nL E (wdX E) A pc lo (.ref (E.2.2.1 0) :: st) h := P_get (wd := wdX E) (k := 0) X q hd hq hF (Nat.le_of_ble_eq_true rfl) rfl rfl kk
theorem gX_0_1 (X : Cx K own cc nL ret E A d) {ix : Nat} (q : Nat) (hd : decode cc pc = .ok (.getfield ix, 3)) (hq : pc + 3 = q) (hF : FL own ix 8 1) (kk : GW K nL E (wdX E) A q lo (.ref (E.2.2.1 2) :: st) h) : GW K nL E (wdX E) A pc lo (.ref (E.2.2.1 0) :: st) h := P_get (wd := wdX E) (k := 0) X q hd hq hF (Nat.le_of_ble_eq_true rfl) rfl rfl kk
theorem gX_0_2 (X : Cx K own cc nL ret E A d) {ix : Nat} (q : Nat) (hd : decode cc pc = .ok (.getfield ix, 3)) (hq : pc + 3 = q) (hF : FL own ix 8 2) (kk : GW K nL E (wdX E) A q lo (.ref (E.2.2.1 3) :: st) h) : GW K nL E (wdX E) A pc lo (.ref (E.2.2.1 0) :: st) h := P_get (wd := wdX E) (k := 0) X q hd hq hF (Nat.le_of_ble_eq_true rfl) rfl rfl kk
theorem gX_0_3 (X : Cx K own cc nL ret E A d) {ix : Nat} (q : Nat) (hd : decode cc pc = .ok (.getfield ix, 3)) (hq : pc + 3 = q) (hF : FL own ix 8 3) (kk : GW K nL E (wdX E) A q lo (.ref (E.2.2.1 4) :: st) h) : GW K nL E (wdX E) A pc lo (.ref (E.2.2.1 0) :: st) h := P_get (wd := wdX E) (k := 0) X q hd hq hF (Nat.le_of_ble_eq_true rfl) rfl rfl kk
theorem gX_0_4 (X : Cx K own cc nL ret E A d) {ix : Nat} (q : Nat) (hd : decode cc pc = .ok (.getfield ix, 3)) (hq : pc + 3 = q) (hF : FL own ix 8 4) (kk : GW K nL E (wdX E) A q lo (.ref (E.2.2.1 5) :: st) h) : GW K nL E (wdX E) A pc lo (.ref (E.2.2.1 0) :: st) h := P_get (wd := wdX E) (k := 0) X q hd hq hF (Nat.le_of_ble_eq_true rfl) rfl rfl kk
theorem gX_0_5 (X : Cx K own cc nL ret E A d) {ix : Nat} (q : Nat) (hd : decode cc pc = .ok (.getfield ix, 3)) (hq : pc + 3 = q) (hF : FL own ix 8 5) (kk : GW K nL E (wdX E) A q lo (.ref (E.2.2.1 6) :: st) h) : GW K nL E (wdX E) A pc lo (.ref (E.2.2.1 0) :: st) h := P_get (wd := wdX E) (k := 0) X q hd hq hF (Nat.le_of_ble_eq_true rfl) rfl rfl kk
theorem gX_0_6 (X : Cx K own cc nL ret E A d) {ix : Nat} (q : Nat) (hd : decode cc pc = .ok (.getfield ix, 3)) (hq : pc + 3 = q) (hF : FL own ix 8 6) (kk : GW K nL E (wdX E) A q lo (.ref (E.2.2.1 7) :: st) h) : GW K nL E (wdX E) A pc lo (.ref (E.2.2.1 0) :: st) h := P_get (wd := wdX E) (k := 0) X q hd hq hF (Nat.le_of_ble_eq_true rfl) rfl rfl kk
theorem gX_0_7 (X : Cx K own cc nL ret E A d) {ix : Nat} (q : Nat) (hd : decode cc pc = .ok (.getfield ix, 3)) (hq : pc + 3 = q) (hF : FL own ix 8 7) (kk : GW K nL E (wdX E) A q lo (.ref (E.2.2.1 8) :: st) h) : GW K nL E (wdX E) A pc lo (.ref (E.2.2.1 0) :: st) h := P_get (wd := wdX E) (k := 0) X q hd hq hF (Nat.le_of_ble_eq_true rfl) rfl rfl kk
theorem gX_0_8 (X : Cx K own cc nL ret E A d) {ix : Nat} (q : Nat) (hd : decode cc pc = .ok (.getfield ix, 3)) (hq : pc + 3 = q) (hF : FL own ix 8 8) (kk : GW K nL E (wdX E) A q lo (.ref (E.2.2.1 9) :: st) h) : GW K nL E (wdX E) A pc lo (.ref (E.2.2.1 0) :: st) h := P_get (wd := wdX E) (k := 0) X q hd hq hF (Nat.le_of_ble_eq_true rfl) rfl rfl kk
theorem gX_0_9 (X : Cx K own cc nL ret E A d) {ix : Nat} (q : Nat) (hd : decode cc pc = .ok (.getfield ix, 3)) (hq : pc + 3 = q) (hF : FL own ix 8 9) (kk : GW K nL E (wdX E) A q lo (.ref (E.2.2.1 10) :: st) h) : GW K nL E (wdX E) A pc lo (.ref (E.2.2.1 0) :: st) h := P_get (wd := wdX E) (k := 0) X q hd hq hF (Nat.le_of_ble_eq_true rfl) rfl rfl kk
theorem gX_0_10 (X : Cx K own cc nL ret E A d) {ix : Nat} (q : Nat) (hd : decode cc pc = .ok (.getfield ix, 3)) (hq : pc + 3 = q) (hF : FL own ix 8 10) (kk : GW K nL E (wdX E) A q lo (.ref (E.2.2.1 11) :: st) h) : GW K nL E (wdX E) A pc lo (.ref (E.2.2.1 0) :: st) h := P_get (wd := wdX E) (k := 0) X q hd hq hF (Nat.le_of_ble_eq_true rfl) rfl rfl kk
theorem gX_0_11 (X : Cx K own cc nL ret E A d) {ix : Nat} (q : Nat) (hd : decode cc pc = .ok (.getfield ix, 3)) (hq : pc + 3 = q) (hF : FL own ix 8 11) (kk : GW K nL E (wdX E) A q lo (.int (h 0 11) :: st) h) : GW K nL E (wdX E) A pc lo (.ref (E.2.2.1 0) :: st) h := P_get (wd := wdX E) (k := 0) X q hd hq hF (Nat.le_of_ble_eq_true rfl) rfl rfl kk
theorem pX_0_11 (X : Cx K own cc nL ret E A d) {ix : Nat} {x : Int32} (q : Nat) (hd : decode cc pc = .ok (.putfield ix, 3)) (hq : pc + 3 = q) (hF : FW own ix 8 11) (kk : GW K nL E (wdX E) A q lo st (put h 0 11 x)) : GW K nL E (wdX E) A pc lo (.int x :: .ref (E.2.2.1 0) :: st) h := P_put (wd := wdX E) (k := 0) (fs := fun f => [.ref (E.2.2.1 1), .ref (E.2.2.1 2), .ref (E.2.2.1 3), .ref (E.2.2.1 4), .ref (E.2.2.1 5), .ref (E.2.2.1 6), .ref (E.2.2.1 7), .ref (E.2.2.1 8), .ref (E.2.2.1 9), .ref (E.2.2.1 10), .ref (E.2.2.1 11), .int (f 11)]) X q hd hq hF (Nat.le_of_ble_eq_true rfl) (fun _ => rfl) (fun _ _ => rfl) (Nat.le_of_ble_eq_true rfl) kk
theorem gX_1_0 (X : Cx K own cc nL ret E A d) {ix : Nat} (q : Nat) (hd : decode cc pc = .ok (.getfield ix, 3)) (hq : pc + 3 = q) (hF : FL own ix 0 0) (kk : GW K nL E (wdX E) A q lo (.ref (E.2.2.1 12) :: st) h) : GW K nL E (wdX E) A pc lo (.ref (E.2.2.1 1) :: st) h := P_get (wd := wdX E) (k := 1) X q hd hq hF (Nat.le_of_ble_eq_true rfl) rfl rfl kk
theorem gX_1_1 (X : Cx K own cc nL ret E A d) {ix : Nat} (q : Nat) (hd : decode cc pc = .ok (.getfield ix, 3)) (hq : pc + 3 = q) (hF : FL own ix 0 1) (kk : GW K nL E (wdX E) A q lo (.ref (E.2.2.1 13) :: st) h) : GW K nL E (wdX E) A pc lo (.ref (E.2.2.1 1) :: st) h := P_get (wd := wdX E) (k := 1) X q hd hq hF (Nat.le_of_ble_eq_true rfl) rfl rfl kk
theorem gX_1_2 (X : Cx K own cc nL ret E A d) {ix : Nat} (q : Nat) (hd : decode cc pc = .ok (.getfield ix, 3)) (hq : pc + 3 = q) (hF : FL own ix 0 2) (kk : GW K nL E (wdX E) A q lo (.ref (E.2.2.1 14) :: st) h) : GW K nL E (wdX E) A pc lo (.ref (E.2.2.1 1) :: st) h := P_get (wd := wdX E) (k := 1) X q hd hq hF (Nat.le_of_ble_eq_true rfl) rfl rfl kk
theorem gX_1_3 (X : Cx K own cc nL ret E A d) {ix : Nat} (q : Nat) (hd : decode cc pc = .ok (.getfield ix, 3)) (hq : pc + 3 = q) (hF : FL own ix 0 3) (kk : GW K nL E (wdX E) A q lo (.ref (E.2.2.1 15) :: st) h) : GW K nL E (wdX E) A pc lo (.ref (E.2.2.1 1) :: st) h := P_get (wd := wdX E) (k := 1) X q hd hq hF (Nat.le_of_ble_eq_true rfl) rfl rfl kk
theorem gX_1_4 (X : Cx K own cc nL ret E A d) {ix : Nat} (q : Nat) (hd : decode cc pc = .ok (.getfield ix, 3)) (hq : pc + 3 = q) (hF : FL own ix 0 4) (kk : GW K nL E (wdX E) A q lo (.ref (E.2.2.1 16) :: st) h) : GW K nL E (wdX E) A pc lo (.ref (E.2.2.1 1) :: st) h := P_get (wd := wdX E) (k := 1) X q hd hq hF (Nat.le_of_ble_eq_true rfl) rfl rfl kk
theorem gX_1_5 (X : Cx K own cc nL ret E A d) {ix : Nat} (q : Nat) (hd : decode cc pc = .ok (.getfield ix, 3)) (hq : pc + 3 = q) (hF : FL own ix 0 5) (kk : GW K nL E (wdX E) A q lo (.ref (E.2.2.1 17) :: st) h) : GW K nL E (wdX E) A pc lo (.ref (E.2.2.1 1) :: st) h := P_get (wd := wdX E) (k := 1) X q hd hq hF (Nat.le_of_ble_eq_true rfl) rfl rfl kk
theorem gX_1_6 (X : Cx K own cc nL ret E A d) {ix : Nat} (q : Nat) (hd : decode cc pc = .ok (.getfield ix, 3)) (hq : pc + 3 = q) (hF : FL own ix 0 6) (kk : GW K nL E (wdX E) A q lo (.ref (E.2.2.1 18) :: st) h) : GW K nL E (wdX E) A pc lo (.ref (E.2.2.1 1) :: st) h := P_get (wd := wdX E) (k := 1) X q hd hq hF (Nat.le_of_ble_eq_true rfl) rfl rfl kk
theorem gX_1_7 (X : Cx K own cc nL ret E A d) {ix : Nat} (q : Nat) (hd : decode cc pc = .ok (.getfield ix, 3)) (hq : pc + 3 = q) (hF : FL own ix 0 7) (kk : GW K nL E (wdX E) A q lo (.ref (E.2.2.1 19) :: st) h) : GW K nL E (wdX E) A pc lo (.ref (E.2.2.1 1) :: st) h := P_get (wd := wdX E) (k := 1) X q hd hq hF (Nat.le_of_ble_eq_true rfl) rfl rfl kk
theorem gX_1_8 (X : Cx K own cc nL ret E A d) {ix : Nat} (q : Nat) (hd : decode cc pc = .ok (.getfield ix, 3)) (hq : pc + 3 = q) (hF : FL own ix 0 8) (kk : GW K nL E (wdX E) A q lo (.int (h 1 8) :: st) h) : GW K nL E (wdX E) A pc lo (.ref (E.2.2.1 1) :: st) h := P_get (wd := wdX E) (k := 1) X q hd hq hF (Nat.le_of_ble_eq_true rfl) rfl rfl kk
theorem pX_1_8 (X : Cx K own cc nL ret E A d) {ix : Nat} {x : Int32} (q : Nat) (hd : decode cc pc = .ok (.putfield ix, 3)) (hq : pc + 3 = q) (hF : FW own ix 0 8) (kk : GW K nL E (wdX E) A q lo st (put h 1 8 x)) : GW K nL E (wdX E) A pc lo (.int x :: .ref (E.2.2.1 1) :: st) h := P_put (wd := wdX E) (k := 1) (fs := fun f => [.ref (E.2.2.1 12), .ref (E.2.2.1 13), .ref (E.2.2.1 14), .ref (E.2.2.1 15), .ref (E.2.2.1 16), .ref (E.2.2.1 17), .ref (E.2.2.1 18), .ref (E.2.2.1 19), .int (f 8)]) X q hd hq hF (Nat.le_of_ble_eq_true rfl) (fun _ => rfl) (fun _ _ => rfl) (Nat.le_of_ble_eq_true rfl) kk
theorem gX_2_0 (X : Cx K own cc nL ret E A d) {ix : Nat} (q : Nat) (hd : decode cc pc = .ok (.getfield ix, 3)) (hq : pc + 3 = q) (hF : FL own ix 7 0) (kk : GW K nL E (wdX E) A q lo (.ref (E.2.2.1 20) :: st) h) : GW K nL E (wdX E) A pc lo (.ref (E.2.2.1 2) :: st) h := P_get (wd := wdX E) (k := 2) X q hd hq hF (Nat.le_of_ble_eq_true rfl) rfl rfl kk
theorem gX_2_1 (X : Cx K own cc nL ret E A d) {ix : Nat} (q : Nat) (hd : decode cc pc = .ok (.getfield ix, 3)) (hq : pc + 3 = q) (hF : FL own ix 7 1) (kk : GW K nL E (wdX E) A q lo (.ref (E.2.2.1 21) :: st) h) : GW K nL E (wdX E) A pc lo (.ref (E.2.2.1 2) :: st) h := P_get (wd := wdX E) (k := 2) X q hd hq hF (Nat.le_of_ble_eq_true rfl) rfl rfl kk
theorem gX_2_2 (X : Cx K own cc nL ret E A d) {ix : Nat} (q : Nat) (hd : decode cc pc = .ok (.getfield ix, 3)) (hq : pc + 3 = q) (hF : FL own ix 7 2) (kk : GW K nL E (wdX E) A q lo (.ref (E.2.2.1 22) :: st) h) : GW K nL E (wdX E) A pc lo (.ref (E.2.2.1 2) :: st) h := P_get (wd := wdX E) (k := 2) X q hd hq hF (Nat.le_of_ble_eq_true rfl) rfl rfl kk
theorem gX_2_3 (X : Cx K own cc nL ret E A d) {ix : Nat} (q : Nat) (hd : decode cc pc = .ok (.getfield ix, 3)) (hq : pc + 3 = q) (hF : FL own ix 7 3) (kk : GW K nL E (wdX E) A q lo (.ref (E.2.2.1 23) :: st) h) : GW K nL E (wdX E) A pc lo (.ref (E.2.2.1 2) :: st) h := P_get (wd := wdX E) (k := 2) X q hd hq hF (Nat.le_of_ble_eq_true rfl) rfl rfl kk
theorem gX_2_4 (X : Cx K own cc nL ret E A d) {ix : Nat} (q : Nat) (hd : decode cc pc = .ok (.getfield ix, 3)) (hq : pc + 3 = q) (hF : FL own ix 7 4) (kk : GW K nL E (wdX E) A q lo (.ref (E.2.2.1 24) :: st) h) : GW K nL E (wdX E) A pc lo (.ref (E.2.2.1 2) :: st) h := P_get (wd := wdX E) (k := 2) X q hd hq hF (Nat.le_of_ble_eq_true rfl) rfl rfl kk
theorem gX_2_5 (X : Cx K own cc nL ret E A d) {ix : Nat} (q : Nat) (hd : decode cc pc = .ok (.getfield ix, 3)) (hq : pc + 3 = q) (hF : FL own ix 7 5) (kk : GW K nL E (wdX E) A q lo (.ref (E.2.2.1 25) :: st) h) : GW K nL E (wdX E) A pc lo (.ref (E.2.2.1 2) :: st) h := P_get (wd := wdX E) (k := 2) X q hd hq hF (Nat.le_of_ble_eq_true rfl) rfl rfl kk
theorem gX_2_6 (X : Cx K own cc nL ret E A d) {ix : Nat} (q : Nat) (hd : decode cc pc = .ok (.getfield ix, 3)) (hq : pc + 3 = q) (hF : FL own ix 7 6) (kk : GW K nL E (wdX E) A q lo (.int (h 2 6) :: st) h) : GW K nL E (wdX E) A pc lo (.ref (E.2.2.1 2) :: st) h := P_get (wd := wdX E) (k := 2) X q hd hq hF (Nat.le_of_ble_eq_true rfl) rfl rfl kk
theorem pX_2_6 (X : Cx K own cc nL ret E A d) {ix : Nat} {x : Int32} (q : Nat) (hd : decode cc pc = .ok (.putfield ix, 3)) (hq : pc + 3 = q) (hF : FW own ix 7 6) (kk : GW K nL E (wdX E) A q lo st (put h 2 6 x)) : GW K nL E (wdX E) A pc lo (.int x :: .ref (E.2.2.1 2) :: st) h := P_put (wd := wdX E) (k := 2) (fs := fun f => [.ref (E.2.2.1 20), .ref (E.2.2.1 21), .ref (E.2.2.1 22), .ref (E.2.2.1 23), .ref (E.2.2.1 24), .ref (E.2.2.1 25), .int (f 6)]) X q hd hq hF (Nat.le_of_ble_eq_true rfl) (fun _ => rfl) (fun _ _ => rfl) (Nat.le_of_ble_eq_true rfl) kk
theorem gX_3_0 (X : Cx K own cc nL ret E A d) {ix : Nat} (q : Nat) (hd : decode cc pc = .ok (.getfield ix, 3)) (hq : pc + 3 = q) (hF : FL own ix 3 0) (kk : GW K nL E (wdX E) A q lo (.ref (E.2.2.1 26) :: st) h) : GW K nL E (wdX E) A pc lo (.ref (E.2.2.1 3) :: st) h := P_get (wd := wdX E) (k := 3) X q hd hq hF (Nat.le_of_ble_eq_true rfl) rfl rfl kk
theorem gX_3_1 (X : Cx K own cc nL ret E A d) {ix : Nat} (q : Nat) (hd : decode cc pc = .ok (.getfield ix, 3)) (hq : pc + 3 = q) (hF : FL own ix 3 1) (kk : GW K nL E (wdX E) A q lo (.ref (E.2.2.1 27) :: st) h) : GW K nL E (wdX E) A pc lo (.ref (E.2.2.1 3) :: st) h := P_get (wd := wdX E) (k := 3) X q hd hq hF (Nat.le_of_ble_eq_true rfl) rfl rfl kk
theorem gX_3_2 (X : Cx K own cc nL ret E A d) {ix : Nat} (q : Nat) (hd : decode cc pc = .ok (.getfield ix, 3)) (hq : pc + 3 = q) (hF : FL own ix 3 2) (kk : GW K nL E (wdX E) A q lo (.int (h 3 2) :: st) h) : GW K nL E (wdX E) A pc lo (.ref (E.2.2.1 3) :: st) h := P_get (wd := wdX E) (k := 3) X q hd hq hF (Nat.le_of_ble_eq_true rfl) rfl rfl kk
theorem pX_3_2 (X : Cx K own cc nL ret E A d) {ix : Nat} {x : Int32} (q : Nat) (hd : decode cc pc = .ok (.putfield ix, 3)) (hq : pc + 3 = q) (hF : FW own ix 3 2) (kk : GW K nL E (wdX E) A q lo st (put h 3 2 x)) : GW K nL E (wdX E) A pc lo (.int x :: .ref (E.2.2.1 3) :: st) h := P_put (wd := wdX E) (k := 3) (fs := fun f => [.ref (E.2.2.1 26), .ref (E.2.2.1 27), .int (f 2), .int (f 3)]) X q hd hq hF (Nat.le_of_ble_eq_true rfl) (fun _ => rfl) (fun _ _ => rfl) (Nat.le_of_ble_eq_true rfl) kk
theorem gX_3_3 (X : Cx K own cc nL ret E A d) {ix : Nat} (q : Nat) (hd : decode cc pc = .ok (.getfield ix, 3)) (hq : pc + 3 = q) (hF : FL own ix 3 3) (kk : GW K nL E (wdX E) A q lo (.int (h 3 3) :: st) h) : GW K nL E (wdX E) A pc lo (.ref (E.2.2.1 3) :: st) h := P_get (wd := wdX E) (k := 3) X q hd hq hF (Nat.le_of_ble_eq_true rfl) rfl rfl kk
theorem pX_3_3 (X : Cx K own cc nL ret E A d) {ix : Nat} {x : Int32} (q : Nat) (hd : decode cc pc = .ok (.putfield ix, 3)) (hq : pc + 3 = q) (hF : FW own ix 3 3) (kk : GW K nL E (wdX E) A q lo st (put h 3 3 x)) : GW K nL E (wdX E) A pc lo (.int x :: .ref (E.2.2.1 3) :: st) h := P_put (wd := wdX E) (k := 3) (fs := fun f => [.ref (E.2.2.1 26), .ref (E.2.2.1 27), .int (f 2), .int (f 3)]) X q hd hq hF (Nat.le_of_ble_eq_true rfl) (fun _ => rfl) (fun _ _ => rfl) (Nat.le_of_ble_eq_true rfl) kk
theorem gX_4_0 (X : Cx K own cc nL ret E A d) {ix : Nat} (q : Nat) (hd : decode cc pc = .ok (.getfield ix, 3)) (hq : pc + 3 = q) (hF : FL own ix 6 0) (kk : GW K nL E (wdX E) A q lo (.ref (E.2.2.1 28) :: st) h) : GW K nL E (wdX E) A pc lo (.ref (E.2.2.1 4) :: st) h := P_get (wd := wdX E) (k := 4) X q hd hq hF (Nat.le_of_ble_eq_true rfl) rfl rfl kk
theorem gX_4_1 (X : Cx K own cc nL ret E A d) {ix : Nat} (q : Nat) (hd : decode cc pc = .ok (.getfield ix, 3)) (hq : pc + 3 = q) (hF : FL own ix 6 1) (kk : GW K nL E (wdX E) A q lo (.int (h 4 1) :: st) h) : GW K nL E (wdX E) A pc lo (.ref (E.2.2.1 4) :: st) h := P_get (wd := wdX E) (k := 4) X q hd hq hF (Nat.le_of_ble_eq_true rfl) rfl rfl kk
theorem pX_4_1 (X : Cx K own cc nL ret E A d) {ix : Nat} {x : Int32} (q : Nat) (hd : decode cc pc = .ok (.putfield ix, 3)) (hq : pc + 3 = q) (hF : FW own ix 6 1) (kk : GW K nL E (wdX E) A q lo st (put h 4 1 x)) : GW K nL E (wdX E) A pc lo (.int x :: .ref (E.2.2.1 4) :: st) h := P_put (wd := wdX E) (k := 4) (fs := fun f => [.ref (E.2.2.1 28), .int (f 1)]) X q hd hq hF (Nat.le_of_ble_eq_true rfl) (fun _ => rfl) (fun _ _ => rfl) (Nat.le_of_ble_eq_true rfl) kk
theorem gX_5_0 (X : Cx K own cc nL ret E A d) {ix : Nat} (q : Nat) (hd : decode cc pc = .ok (.getfield ix, 3)) (hq : pc + 3 = q) (hF : FL own ix 2 0) (kk : GW K nL E (wdX E) A q lo (.ref (E.2.2.1 29) :: st) h) : GW K nL E (wdX E) A pc lo (.ref (E.2.2.1 5) :: st) h := P_get (wd := wdX E) (k := 5) X q hd hq hF (Nat.le_of_ble_eq_true rfl) rfl rfl kk
theorem gX_5_1 (X : Cx K own cc nL ret E A d) {ix : Nat} (q : Nat) (hd : decode cc pc = .ok (.getfield ix, 3)) (hq : pc + 3 = q) (hF : FL own ix 2 1) (kk : GW K nL E (wdX E) A q lo (.ref (E.2.2.1 30) :: st) h) : GW K nL E (wdX E) A pc lo (.ref (E.2.2.1 5) :: st) h := P_get (wd := wdX E) (k := 5) X q hd hq hF (Nat.le_of_ble_eq_true rfl) rfl rfl kk
theorem gX_5_2 (X : Cx K own cc nL ret E A d) {ix : Nat} (q : Nat) (hd : decode cc pc = .ok (.getfield ix, 3)) (hq : pc + 3 = q) (hF : FL own ix 2 2) (kk : GW K nL E (wdX E) A q lo (.ref (E.2.2.1 31) :: st) h) : GW K nL E (wdX E) A pc lo (.ref (E.2.2.1 5) :: st) h := P_get (wd := wdX E) (k := 5) X q hd hq hF (Nat.le_of_ble_eq_true rfl) rfl rfl kk
theorem gX_5_3 (X : Cx K own cc nL ret E A d) {ix : Nat} (q : Nat) (hd : decode cc pc = .ok (.getfield ix, 3)) (hq : pc + 3 = q) (hF : FL own ix 2 3) (kk : GW K nL E (wdX E) A q lo (.ref (E.2.2.1 32) :: st) h) : GW K nL E (wdX E) A pc lo (.ref (E.2.2.1 5) :: st) h := P_get (wd := wdX E) (k := 5) X q hd hq hF (Nat.le_of_ble_eq_true rfl) rfl rfl kk
theorem gX_5_4 (X : Cx K own cc nL ret E A d) {ix : Nat} (q : Nat) (hd : decode cc pc = .ok (.getfield ix, 3)) (hq : pc + 3 = q) (hF : FL own ix 2 4) (kk : GW K nL E (wdX E) A q lo (.int (h 5 4) :: st) h) : GW K nL E (wdX E) A pc lo (.ref (E.2.2.1 5) :: st) h := P_get (wd := wdX E) (k := 5) X q hd hq hF (Nat.le_of_ble_eq_true rfl) rfl rfl kk
theorem pX_5_4 (X : Cx K own cc nL ret E A d) {ix : Nat} {x : Int32} (q : Nat) (hd : decode cc pc = .ok (.putfield ix, 3)) (hq : pc + 3 = q) (hF : FW own ix 2 4) (kk : GW K nL E (wdX E) A q lo st (put h 5 4 x)) : GW K nL E (wdX E) A pc lo (.int x :: .ref (E.2.2.1 5) :: st) h := P_put (wd := wdX E) (k := 5) (fs := fun f => [.ref (E.2.2.1 29), .ref (E.2.2.1 30), .ref (E.2.2.1 31), .ref (E.2.2.1 32), .int (f 4)]) X q hd hq hF (Nat.le_of_ble_eq_true rfl) (fun _ => rfl) (fun _ _ => rfl) (Nat.le_of_ble_eq_true rfl) kk
theorem gX_6_0 (X : Cx K own cc nL ret E A d) {ix : Nat} (q : Nat) (hd : decode cc pc = .ok (.getfield ix, 3)) (hq : pc + 3 = q) (hF : FL own ix 1 0) (kk : GW K nL E (wdX E) A q lo (.ref (E.2.2.1 33) :: st) h) : GW K nL E (wdX E) A pc lo (.ref (E.2.2.1 6) :: st) h := P_get (wd := wdX E) (k := 6) X q hd hq hF (Nat.le_of_ble_eq_true rfl) rfl rfl kk
theorem gX_6_1 (X : Cx K own cc nL ret E A d) {ix : Nat} (q : Nat) (hd : decode cc pc = .ok (.getfield ix, 3)) (hq : pc + 3 = q) (hF : FL own ix 1 1) (kk : GW K nL E (wdX E) A q lo (.ref (E.2.2.1 34) :: st) h) : GW K nL E (wdX E) A pc lo (.ref (E.2.2.1 6) :: st) h := P_get (wd := wdX E) (k := 6) X q hd hq hF (Nat.le_of_ble_eq_true rfl) rfl rfl kk
theorem gX_6_2 (X : Cx K own cc nL ret E A d) {ix : Nat} (q : Nat) (hd : decode cc pc = .ok (.getfield ix, 3)) (hq : pc + 3 = q) (hF : FL own ix 1 2) (kk : GW K nL E (wdX E) A q lo (.ref (E.2.2.1 35) :: st) h) : GW K nL E (wdX E) A pc lo (.ref (E.2.2.1 6) :: st) h := P_get (wd := wdX E) (k := 6) X q hd hq hF (Nat.le_of_ble_eq_true rfl) rfl rfl kk
theorem gX_6_3 (X : Cx K own cc nL ret E A d) {ix : Nat} (q : Nat) (hd : decode cc pc = .ok (.getfield ix, 3)) (hq : pc + 3 = q) (hF : FL own ix 1 3) (kk : GW K nL E (wdX E) A q lo (.ref (E.2.2.1 36) :: st) h) : GW K nL E (wdX E) A pc lo (.ref (E.2.2.1 6) :: st) h := P_get (wd := wdX E) (k := 6) X q hd hq hF (Nat.le_of_ble_eq_true rfl) rfl rfl kk
theorem gX_6_4 (X : Cx K own cc nL ret E A d) {ix : Nat} (q : Nat) (hd : decode cc pc = .ok (.getfield ix, 3)) (hq : pc + 3 = q) (hF : FL own ix 1 4) (kk : GW K nL E (wdX E) A q lo (.ref (E.2.2.1 37) :: st) h) : GW K nL E (wdX E) A pc lo (.ref (E.2.2.1 6) :: st) h := P_get (wd := wdX E) (k := 6) X q hd hq hF (Nat.le_of_ble_eq_true rfl) rfl rfl kk
theorem gX_6_5 (X : Cx K own cc nL ret E A d) {ix : Nat} (q : Nat) (hd : decode cc pc = .ok (.getfield ix, 3)) (hq : pc + 3 = q) (hF : FL own ix 1 5) (kk : GW K nL E (wdX E) A q lo (.ref (E.2.2.1 38) :: st) h) : GW K nL E (wdX E) A pc lo (.ref (E.2.2.1 6) :: st) h := P_get (wd := wdX E) (k := 6) X q hd hq hF (Nat.le_of_ble_eq_true rfl) rfl rfl kk
theorem gX_6_6 (X : Cx K own cc nL ret E A d) {ix : Nat} (q : Nat) (hd : decode cc pc = .ok (.getfield ix, 3)) (hq : pc + 3 = q) (hF : FL own ix 1 6) (kk : GW K nL E (wdX E) A q lo (.ref (E.2.2.1 39) :: st) h) : GW K nL E (wdX E) A pc lo (.ref (E.2.2.1 6) :: st) h := P_get (wd := wdX E) (k := 6) X q hd hq hF (Nat.le_of_ble_eq_true rfl) rfl rfl kk
theorem gX_6_7 (X : Cx K own cc nL ret E A d) {ix : Nat} (q : Nat) (hd : decode cc pc = .ok (.getfield ix, 3)) (hq : pc + 3 = q) (hF : FL own ix 1 7) (kk : GW K nL E (wdX E) A q lo (.int (h 6 7) :: st) h) : GW K nL E (wdX E) A pc lo (.ref (E.2.2.1 6) :: st) h := P_get (wd := wdX E) (k := 6) X q hd hq hF (Nat.le_of_ble_eq_true rfl) rfl rfl kk
theorem pX_6_7 (X : Cx K own cc nL ret E A d) {ix : Nat} {x : Int32} (q : Nat) (hd : decode cc pc = .ok (.putfield ix, 3)) (hq : pc + 3 = q) (hF : FW own ix 1 7) (kk : GW K nL E (wdX E) A q lo st (put h 6 7 x)) : GW K nL E (wdX E) A pc lo (.int x :: .ref (E.2.2.1 6) :: st) h := P_put (wd := wdX E) (k := 6) (fs := fun f => [.ref (E.2.2.1 33), .ref (E.2.2.1 34), .ref (E.2.2.1 35), .ref (E.2.2.1 36), .ref (E.2.2.1 37), .ref (E.2.2.1 38), .ref (E.2.2.1 39), .int (f 7), .int (f 8), .int (f 9), .int (f 10)]) X q hd hq hF (Nat.le_of_ble_eq_true rfl) (fun _ => rfl) (fun _ _ => rfl) (Nat.le_of_ble_eq_true rfl) kk
theorem gX_6_8 (X : Cx K own cc nL ret E A d) {ix : Nat} (q : Nat) (hd : decode cc pc = .ok (.getfield ix, 3)) (hq : pc + 3 = q) (hF : FL own ix 1 8) (kk : GW K nL E (wdX E) A q lo (.int (h 6 8) :: st) h) : GW K nL E (wdX E) A pc lo (.ref (E.2.2.1 6) :: st) h := P_get (wd := wdX E) (k := 6) X q hd hq hF (Nat.le_of_ble_eq_true rfl) rfl rfl kk
theorem pX_6_8 (X : Cx K own cc nL ret E A d) {ix : Nat} {x : Int32} (q : Nat) (hd : decode cc pc = .ok (.putfield ix, 3)) (hq : pc + 3 = q) (hF : FW own ix 1 8) (kk : GW K nL E (wdX E) A q lo st (put h 6 8 x)) : GW K nL E (wdX E) A pc lo (.int x :: .ref (E.2.2.1 6) :: st) h := P_put (wd := wdX E) (k := 6) (fs := fun f => [.ref (E.2.2.1 33), .ref (E.2.2.1 34), .ref (E.2.2.1 35), .ref (E.2.2.1 36), .ref (E.2.2.1 37), .ref (E.2.2.1 38), .ref (E.2.2.1 39), .int (f 7), .int (f 8), .int (f 9), .int (f 10)]) X q hd hq hF (Nat.le_of_ble_eq_true rfl) (fun _ => rfl) (fun _ _ => rfl) (Nat.le_of_ble_eq_true rfl) kk
theorem gX_6_9 (X : Cx K own cc nL ret E A d) {ix : Nat} (q : Nat) (hd : decode cc pc = .ok (.getfield ix, 3)) (hq : pc + 3 = q) (hF : FL own ix 1 9) (kk : GW K nL E (wdX E) A q lo (.int (h 6 9) :: st) h) : GW K nL E (wdX E) A pc lo (.ref (E.2.2.1 6) :: st) h := P_get (wd := wdX E) (k := 6) X q hd hq hF (Nat.le_of_ble_eq_true rfl) rfl rfl kk
theorem pX_6_9 (X : Cx K own cc nL ret E A d) {ix : Nat} {x : Int32} (q : Nat) (hd : decode cc pc = .ok (.putfield ix, 3)) (hq : pc + 3 = q) (hF : FW own ix 1 9) (kk : GW K nL E (wdX E) A q lo st (put h 6 9 x)) : GW K nL E (wdX E) A pc lo (.int x :: .ref (E.2.2.1 6) :: st) h := P_put (wd := wdX E) (k := 6) (fs := fun f => [.ref (E.2.2.1 33), .ref (E.2.2.1 34), .ref (E.2.2.1 35), .ref (E.2.2.1 36), .ref (E.2.2.1 37), .ref (E.2.2.1 38), .ref (E.2.2.1 39), .int (f 7), .int (f 8), .int (f 9), .int (f 10)]) X q hd hq hF (Nat.le_of_ble_eq_true rfl) (fun _ => rfl) (fun _ _ => rfl) (Nat.le_of_ble_eq_true rfl) kk
theorem gX_6_10 (X : Cx K own cc nL ret E A d) {ix : Nat} (q : Nat) (hd : decode cc pc = .ok (.getfield ix, 3)) (hq : pc + 3 = q) (hF : FL own ix 1 10) (kk : GW K nL E (wdX E) A q lo (.int (h 6 10) :: st) h) : GW K nL E (wdX E) A pc lo (.ref (E.2.2.1 6) :: st) h := P_get (wd := wdX E) (k := 6) X q hd hq hF (Nat.le_of_ble_eq_true rfl) rfl rfl kk
theorem pX_6_10 (X : Cx K own cc nL ret E A d) {ix : Nat} {x : Int32} (q : Nat) (hd : decode cc pc = .ok (.putfield ix, 3)) (hq : pc + 3 = q) (hF : FW own ix 1 10) (kk : GW K nL E (wdX E) A q lo st (put h 6 10 x)) : GW K nL E (wdX E) A pc lo (.int x :: .ref (E.2.2.1 6) :: st) h := P_put (wd := wdX E) (k := 6) (fs := fun f => [.ref (E.2.2.1 33), .ref (E.2.2.1 34), .ref (E.2.2.1 35), .ref (E.2.2.1 36), .ref (E.2.2.1 37), .ref (E.2.2.1 38), .ref (E.2.2.1 39), .int (f 7), .int (f 8), .int (f 9), .int (f 10)]) X q hd hq hF (Nat.le_of_ble_eq_true rfl) (fun _ => rfl) (fun _ _ => rfl) (Nat.le_of_ble_eq_true rfl) kk
theorem lX_7 (X : Cx K own cc nL ret E A d) {j : Nat} {i : Int32} (q : Nat) (hd : decode cc pc = .ok (.iaload, 1)) (hq : pc + 1 = q) (hi : i = nI j) (hj : j < 5) (kk : GW K nL E (wdX E) A q lo (.int (h 7 j) :: st) h) : GW K nL E (wdX E) A pc lo (.int i :: .ref (E.2.2.1 7) :: st) h := P_iald (wd := wdX E) (k := 7) X q hd hq (Nat.le_of_ble_eq_true rfl) (fun _ => rfl) (by decide) hi hj kk
theorem sX_7 (X : Cx K own cc nL ret E A d) {j : Nat} {i x : Int32} (q : Nat) (hd : decode cc pc = .ok (.iastore, 1)) (hq : pc + 1 = q) (hi : i = nI j) (hj : j < 5) (kk : GW K nL E (wdX E) A q lo st (put h 7 j x)) : GW K nL E (wdX E) A pc lo (.int x :: .int i :: .ref (E.2.2.1 7) :: st) h := P_iast (wd := wdX E) (k := 7) X q hd hq (Nat.le_of_ble_eq_true rfl) (fun _ => rfl) (by decide) hi hj kk
theorem gX_8_0 (X : Cx K own cc nL ret E A d) {ix : Nat} (q : Nat) (hd : decode cc pc = .ok (.getfield ix, 3)) (hq : pc + 3 = q) (hF : FL own ix 5 0) (kk : GW K nL E (wdX E) A q lo (.ref (E.2.2.1 40) :: st) h) : GW K nL E (wdX E) A pc lo (.ref (E.2.2.1 8) :: st) h := P_get (wd := wdX E) (k := 8) X q hd hq hF (Nat.le_of_ble_eq_true rfl) rfl rfl kk
theorem gX_8_1 (X : Cx K own cc nL ret E A d) {ix : Nat} (q : Nat) (hd : decode cc pc = .ok (.getfield ix, 3)) (hq : pc + 3 = q) (hF : FL own ix 5 1) (kk : GW K nL E (wdX E) A q lo (.ref (E.2.2.1 41) :: st) h) : GW K nL E (wdX E) A pc lo (.ref (E.2.2.1 8) :: st) h := P_get (wd := wdX E) (k := 8) X q hd hq hF (Nat.le_of_ble_eq_true rfl) rfl rfl kk
theorem gX_8_2 (X : Cx K own cc nL ret E A d) {ix : Nat} (q : Nat) (hd : decode cc pc = .ok (.getfield ix, 3)) (hq : pc + 3 = q) (hF : FL own ix 5 2) (kk : GW K nL E (wdX E) A q lo (.ref (E.2.2.1 42) :: st) h) : GW K nL E (wdX E) A pc lo (.ref (E.2.2.1 8) :: st) h := P_get (wd := wdX E) (k := 8) X q hd hq hF (Nat.le_of_ble_eq_true rfl) rfl rfl kk
theorem lX_9 (X : Cx K own cc nL ret E A d) {j : Nat} {i : Int32} (q : Nat) (hd : decode cc pc = .ok (.iaload, 1)) (hq : pc + 1 = q) (hi : i = nI j) (hj : j < 4) (kk : GW K nL E (wdX E) A q lo (.int (h 9 j) :: st) h) : GW K nL E (wdX E) A pc lo (.int i :: .ref (E.2.2.1 9) :: st) h := P_iald (wd := wdX E) (k := 9) X q hd hq (Nat.le_of_ble_eq_true rfl) (fun _ => rfl) (by decide) hi hj kk
theorem sX_9 (X : Cx K own cc nL ret E A d) {j : Nat} {i x : Int32} (q : Nat) (hd : decode cc pc = .ok (.iastore, 1)) (hq : pc + 1 = q) (hi : i = nI j) (hj : j < 4) (kk : GW K nL E (wdX E) A q lo st (put h 9 j x)) : GW K nL E (wdX E) A pc lo (.int x :: .int i :: .ref (E.2.2.1 9) :: st) h := P_iast (wd := wdX E) (k := 9) X q hd hq (Nat.le_of_ble_eq_true rfl) (fun _ => rfl) (by decide) hi hj kk
theorem lX_10 (X : Cx K own cc nL ret E A d) {j : Nat} {i : Int32} (q : Nat) (hd : decode cc pc = .ok (.iaload, 1)) (hq : pc + 1 = q) (hi : i = nI j) (hj : j < 4) (kk : GW K nL E (wdX E) A q lo (.int (h 10 j) :: st) h) : GW K nL E (wdX E) A pc lo (.int i :: .ref (E.2.2.1 10) :: st) h := P_iald (wd := wdX E) (k := 10) X q hd hq (Nat.le_of_ble_eq_true rfl) (fun _ => rfl) (by decide) hi hj kk
theorem sX_10 (X : Cx K own cc nL ret E A d) {j : Nat} {i x : Int32} (q : Nat) (hd : decode cc pc = .ok (.iastore, 1)) (hq : pc + 1 = q) (hi : i = nI j) (hj : j < 4) (kk : GW K nL E (wdX E) A q lo st (put h 10 j x)) : GW K nL E (wdX E) A pc lo (.int x :: .int i :: .ref (E.2.2.1 10) :: st) h := P_iast (wd := wdX E) (k := 10) X q hd hq (Nat.le_of_ble_eq_true rfl) (fun _ => rfl) (by decide) hi hj kk
theorem qX_11 (X : Cx K own cc nL ret E A d) {j : Nat} {i : Int32} (q : Nat) (hd : decode cc pc = .ok (.aaload, 1)) (hq : pc + 1 = q) (hi : i = nI j) (hj : j < 4) (kk : GW K nL E (wdX E) A q lo (.ref (E.2.2.1 (43 + j)) :: st) h) : GW K nL E (wdX E) A pc lo (.int i :: .ref (E.2.2.1 11) :: st) h := P_aald (wd := wdX E) (k := 11) X q hd hq (Nat.le_of_ble_eq_true rfl) rfl (by decide) hi hj rfl kk
theorem lX_12 (X : Cx K own cc nL ret E A d) {j : Nat} {i : Int32} (q : Nat) (hd : decode cc pc = .ok (.iaload, 1)) (hq : pc + 1 = q) (hi : i = nI j) (hj : j < 40) (kk : GW K nL E (wdX E) A q lo (.int (h 12 j) :: st) h) : GW K nL E (wdX E) A pc lo (.int i :: .ref (E.2.2.1 12) :: st) h := P_iald (wd := wdX E) (k := 12) X q hd hq (Nat.le_of_ble_eq_true rfl) (fun _ => rfl) (by decide) hi hj kk
theorem sX_12 (X : Cx K own cc nL ret E A d) {j : Nat} {i x : Int32} (q : Nat) (hd : decode cc pc = .ok (.iastore, 1)) (hq : pc + 1 = q) (hi : i = nI j) (hj : j < 40) (kk : GW K nL E (wdX E) A q lo st (put h 12 j x)) : GW K nL E (wdX E) A pc lo (.int x :: .int i :: .ref (E.2.2.1 12) :: st) h := P_iast (wd := wdX E) (k := 12) X q hd hq (Nat.le_of_ble_eq_true rfl) (fun _ => rfl) (by decide) hi hj kk
theorem lX_13 (X : Cx K own cc nL ret E A d) {j : Nat} {i : Int32} (q : Nat) (hd : decode cc pc = .ok (.iaload, 1)) (hq : pc + 1 = q) (hi : i = nI j) (hj : j < 40) (kk : GW K nL E (wdX E) A q lo (.int (h 13 j) :: st) h) : GW K nL E (wdX E) A pc lo (.int i :: .ref (E.2.2.1 13) :: st) h := P_iald (wd := wdX E) (k := 13) X q hd hq (Nat.le_of_ble_eq_true rfl) (fun _ => rfl) (by decide) hi hj kk
theorem sX_13 (X : Cx K own cc nL ret E A d) {j : Nat} {i x : Int32} (q : Nat) (hd : decode cc pc = .ok (.iastore, 1)) (hq : pc + 1 = q) (hi : i = nI j) (hj : j < 40) (kk : GW K nL E (wdX E) A q lo st (put h 13 j x)) : GW K nL E (wdX E) A pc lo (.int x :: .int i :: .ref (E.2.2.1 13) :: st) h := P_iast (wd := wdX E) (k := 13) X q hd hq (Nat.le_of_ble_eq_true rfl) (fun _ => rfl) (by decide) hi hj kk
theorem lX_14 (X : Cx K own cc nL ret E A d) {j : Nat} {i : Int32} (q : Nat) (hd : decode cc pc = .ok (.iaload, 1)) (hq : pc + 1 = q) (hi : i = nI j) (hj : j < 40) (kk : GW K nL E (wdX E) A q lo (.int (h 14 j) :: st) h) : GW K nL E (wdX E) A pc lo (.int i :: .ref (E.2.2.1 14) :: st) h := P_iald (wd := wdX E) (k := 14) X q hd hq (Nat.le_of_ble_eq_true rfl) (fun _ => rfl) (by decide) hi hj kk
theorem sX_14 (X : Cx K own cc nL ret E A d) {j : Nat} {i x : Int32} (q : Nat) (hd : decode cc pc = .ok (.iastore, 1)) (hq : pc + 1 = q) (hi : i = nI j) (hj : j < 40) (kk : GW K nL E (wdX E) A q lo st (put h 14 j x)) : GW K nL E (wdX E) A pc lo (.int x :: .int i :: .ref (E.2.2.1 14) :: st) h := P_iast (wd := wdX E) (k := 14) X q hd hq (Nat.le_of_ble_eq_true rfl) (fun _ => rfl) (by decide) hi hj kk
theorem lX_15 (X : Cx K own cc nL ret E A d) {j : Nat} {i : Int32} (q : Nat) (hd : decode cc pc = .ok (.iaload, 1)) (hq : pc + 1 = q) (hi : i = nI j) (hj : j < 40) (kk : GW K nL E (wdX E) A q lo (.int (h 15 j) :: st) h) : GW K nL E (wdX E) A pc lo (.int i :: .ref (E.2.2.1 15) :: st) h := P_iald (wd := wdX E) (k := 15) X q hd hq (Nat.le_of_ble_eq_true rfl) (fun _ => rfl) (by decide) hi hj kk
theorem sX_15 (X : Cx K own cc nL ret E A d) {j : Nat} {i x : Int32} (q : Nat) (hd : decode cc pc = .ok (.iastore, 1)) (hq : pc + 1 = q) (hi : i = nI j) (hj : j < 40) (kk : GW K nL E (wdX E) A q lo st (put h 15 j x)) : GW K nL E (wdX E) A pc lo (.int x :: .int i :: .ref (E.2.2.1 15) :: st) h := P_iast (wd := wdX E) (k := 15) X q hd hq (Nat.le_of_ble_eq_true rfl) (fun _ => rfl) (by decide) hi hj kk
theorem lX_16 (X : Cx K own cc nL ret E A d) {j : Nat} {i : Int32} (q : Nat) (hd : decode cc pc = .ok (.iaload, 1)) (hq : pc + 1 = q) (hi : i = nI j) (hj : j < 40) (kk : GW K nL E (wdX E) A q lo (.int (h 16 j) :: st) h) : GW K nL E (wdX E) A pc lo (.int i :: .ref (E.2.2.1 16) :: st) h := P_iald (wd := wdX E) (k := 16) X q hd hq (Nat.le_of_ble_eq_true rfl) (fun _ => rfl) (by decide) hi hj kk
theorem sX_16 (X : Cx K own cc nL ret E A d) {j : Nat} {i x : Int32} (q : Nat) (hd : decode cc pc = .ok (.iastore, 1)) (hq : pc + 1 = q) (hi : i = nI j) (hj : j < 40) (kk : GW K nL E (wdX E) A q lo st (put h 16 j x)) : GW K nL E (wdX E) A pc lo (.int x :: .int i :: .ref (E.2.2.1 16) :: st) h := P_iast (wd := wdX E) (k := 16) X q hd hq (Nat.le_of_ble_eq_true rfl) (fun _ => rfl) (by decide) hi hj kk
theorem lX_17 (X : Cx K own cc nL ret E A d) {j : Nat} {i : Int32} (q : Nat) (hd : decode cc pc = .ok (.iaload, 1)) (hq : pc + 1 = q) (hi : i = nI j) (hj : j < 40) (kk : GW K nL E (wdX E) A q lo (.int (h 17 j) :: st) h) : GW K nL E (wdX E) A pc lo (.int i :: .ref (E.2.2.1 17) :: st) h := P_iald (wd := wdX E) (k := 17) X q hd hq (Nat.le_of_ble_eq_true rfl) (fun _ => rfl) (by decide) hi hj kk
theorem sX_17 (X : Cx K own cc nL ret E A d) {j : Nat} {i x : Int32} (q : Nat) (hd : decode cc pc = .ok (.iastore, 1)) (hq : pc + 1 = q) (hi : i = nI j) (hj : j < 40) (kk : GW K nL E (wdX E) A q lo st (put h 17 j x)) : GW K nL E (wdX E) A pc lo (.int x :: .int i :: .ref (E.2.2.1 17) :: st) h := P_iast (wd := wdX E) (k := 17) X q hd hq (Nat.le_of_ble_eq_true rfl) (fun _ => rfl) (by decide) hi hj kk
theorem lX_18 (X : Cx K own cc nL ret E A d) {j : Nat} {i : Int32} (q : Nat) (hd : decode cc pc = .ok (.iaload, 1)) (hq : pc + 1 = q) (hi : i = nI j) (hj : j < 5) (kk : GW K nL E (wdX E) A q lo (.int (h 18 j) :: st) h) : GW K nL E (wdX E) A pc lo (.int i :: .ref (E.2.2.1 18) :: st) h := P_iald (wd := wdX E) (k := 18) X q hd hq (Nat.le_of_ble_eq_true rfl) (fun _ => rfl) (by decide) hi hj kk
theorem sX_18 (X : Cx K own cc nL ret E A d) {j : Nat} {i x : Int32} (q : Nat) (hd : decode cc pc = .ok (.iastore, 1)) (hq : pc + 1 = q) (hi : i = nI j) (hj : j < 5) (kk : GW K nL E (wdX E) A q lo st (put h 18 j x)) : GW K nL E (wdX E) A pc lo (.int x :: .int i :: .ref (E.2.2.1 18) :: st) h := P_iast (wd := wdX E) (k := 18) X q hd hq (Nat.le_of_ble_eq_true rfl) (fun _ => rfl) (by decide) hi hj kk
theorem lX_19 (X : Cx K own cc nL ret E A d) {j : Nat} {i : Int32} (q : Nat) (hd : decode cc pc = .ok (.iaload, 1)) (hq : pc + 1 = q) (hi : i = nI j) (hj : j < 5) (kk : GW K nL E (wdX E) A q lo (.int (h 19 j) :: st) h) : GW K nL E (wdX E) A pc lo (.int i :: .ref (E.2.2.1 19) :: st) h := P_iald (wd := wdX E) (k := 19) X q hd hq (Nat.le_of_ble_eq_true rfl) (fun _ => rfl) (by decide) hi hj kk
theorem sX_19 (X : Cx K own cc nL ret E A d) {j : Nat} {i x : Int32} (q : Nat) (hd : decode cc pc = .ok (.iastore, 1)) (hq : pc + 1 = q) (hi : i = nI j) (hj : j < 5) (kk : GW K nL E (wdX E) A q lo st (put h 19 j x)) : GW K nL E (wdX E) A pc lo (.int x :: .int i :: .ref (E.2.2.1 19) :: st) h := P_iast (wd := wdX E) (k := 19) X q hd hq (Nat.le_of_ble_eq_true rfl) (fun _ => rfl) (by decide) hi hj kk
theorem lX_20 (X : Cx K own cc nL ret E A d) {j : Nat} {i : Int32} (q : Nat) (hd : decode cc pc = .ok (.iaload, 1)) (hq : pc + 1 = q) (hi : i = nI j) (hj : j < 40) (kk : GW K nL E (wdX E) A q lo (.int (h 20 j) :: st) h) : GW K nL E (wdX E) A pc lo (.int i :: .ref (E.2.2.1 20) :: st) h := P_iald (wd := wdX E) (k := 20) X q hd hq (Nat.le_of_ble_eq_true rfl) (fun _ => rfl) (by decide) hi hj kk
theorem sX_20 (X : Cx K own cc nL ret E A d) {j : Nat} {i x : Int32} (q : Nat) (hd : decode cc pc = .ok (.iastore, 1)) (hq : pc + 1 = q) (hi : i = nI j) (hj : j < 40) (kk : GW K nL E (wdX E) A q lo st (put h 20 j x)) : GW K nL E (wdX E) A pc lo (.int x :: .int i :: .ref (E.2.2.1 20) :: st) h := P_iast (wd := wdX E) (k := 20) X q hd hq (Nat.le_of_ble_eq_true rfl) (fun _ => rfl) (by decide) hi hj kk
theorem lX_21 (X : Cx K own cc nL ret E A d) {j : Nat} {i : Int32} (q : Nat) (hd : decode cc pc = .ok (.baload, 1)) (hq : pc + 1 = q) (hi : i = nI j) (hj : j < 40) (kk : GW K nL E (wdX E) A q lo (.int (h 21 j) :: st) h) : GW K nL E (wdX E) A pc lo (.int i :: .ref (E.2.2.1 21) :: st) h := P_zald (wd := wdX E) (k := 21) X q hd hq (Nat.le_of_ble_eq_true rfl) (fun _ => rfl) (by decide) hi hj kk
theorem sX_21 (X : Cx K own cc nL ret E A d) {j : Nat} {i x : Int32} (q : Nat) (hd : decode cc pc = .ok (.bastore, 1)) (hq : pc + 1 = q) (hi : i = nI j) (hj : j < 40) (h01 : x = 0 ∨ x = 1) (kk : GW K nL E (wdX E) A q lo st (put h 21 j x)) : GW K nL E (wdX E) A pc lo (.int x :: .int i :: .ref (E.2.2.1 21) :: st) h := P_zast (wd := wdX E) (k := 21) X q hd hq (Nat.le_of_ble_eq_true rfl) (fun _ => rfl) (by decide) hi hj h01 kk
theorem lX_22 (X : Cx K own cc nL ret E A d) {j : Nat} {i : Int32} (q : Nat) (hd : decode cc pc = .ok (.iaload, 1)) (hq : pc + 1 = q) (hi : i = nI j) (hj : j < 40) (kk : GW K nL E (wdX E) A q lo (.int (h 22 j) :: st) h) : GW K nL E (wdX E) A pc lo (.int i :: .ref (E.2.2.1 22) :: st) h := P_iald (wd := wdX E) (k := 22) X q hd hq (Nat.le_of_ble_eq_true rfl) (fun _ => rfl) (by decide) hi hj kk
theorem sX_22 (X : Cx K own cc nL ret E A d) {j : Nat} {i x : Int32} (q : Nat) (hd : decode cc pc = .ok (.iastore, 1)) (hq : pc + 1 = q) (hi : i = nI j) (hj : j < 40) (kk : GW K nL E (wdX E) A q lo st (put h 22 j x)) : GW K nL E (wdX E) A pc lo (.int x :: .int i :: .ref (E.2.2.1 22) :: st) h := P_iast (wd := wdX E) (k := 22) X q hd hq (Nat.le_of_ble_eq_true rfl) (fun _ => rfl) (by decide) hi hj kk
theorem lX_23 (X : Cx K own cc nL ret E A d) {j : Nat} {i : Int32} (q : Nat) (hd : decode cc pc = .ok (.iaload, 1)) (hq : pc + 1 = q) (hi : i = nI j) (hj : j < 40) (kk : GW K nL E (wdX E) A q lo (.int (h 23 j) :: st) h) : GW K nL E (wdX E) A pc lo (.int i :: .ref (E.2.2.1 23) :: st) h := P_iald (wd := wdX E) (k := 23) X q hd hq (Nat.le_of_ble_eq_true rfl) (fun _ => rfl) (by decide) hi hj kk
theorem sX_23 (X : Cx K own cc nL ret E A d) {j : Nat} {i x : Int32} (q : Nat) (hd : decode cc pc = .ok (.iastore, 1)) (hq : pc + 1 = q) (hi : i = nI j) (hj : j < 40) (kk : GW K nL E (wdX E) A q lo st (put h 23 j x)) : GW K nL E (wdX E) A pc lo (.int x :: .int i :: .ref (E.2.2.1 23) :: st) h := P_iast (wd := wdX E) (k := 23) X q hd hq (Nat.le_of_ble_eq_true rfl) (fun _ => rfl) (by decide) hi hj kk
theorem lX_24 (X : Cx K own cc nL ret E A d) {j : Nat} {i : Int32} (q : Nat) (hd : decode cc pc = .ok (.iaload, 1)) (hq : pc + 1 = q) (hi : i = nI j) (hj : j < 40) (kk : GW K nL E (wdX E) A q lo (.int (h 24 j) :: st) h) : GW K nL E (wdX E) A pc lo (.int i :: .ref (E.2.2.1 24) :: st) h := P_iald (wd := wdX E) (k := 24) X q hd hq (Nat.le_of_ble_eq_true rfl) (fun _ => rfl) (by decide) hi hj kk
theorem sX_24 (X : Cx K own cc nL ret E A d) {j : Nat} {i x : Int32} (q : Nat) (hd : decode cc pc = .ok (.iastore, 1)) (hq : pc + 1 = q) (hi : i = nI j) (hj : j < 40) (kk : GW K nL E (wdX E) A q lo st (put h 24 j x)) : GW K nL E (wdX E) A pc lo (.int x :: .int i :: .ref (E.2.2.1 24) :: st) h := P_iast (wd := wdX E) (k := 24) X q hd hq (Nat.le_of_ble_eq_true rfl) (fun _ => rfl) (by decide) hi hj kk
theorem lX_25 (X : Cx K own cc nL ret E A d) {j : Nat} {i : Int32} (q : Nat) (hd : decode cc pc = .ok (.baload, 1)) (hq : pc + 1 = q) (hi : i = nI j) (hj : j < 40) (kk : GW K nL E (wdX E) A q lo (.int (h 25 j) :: st) h) : GW K nL E (wdX E) A pc lo (.int i :: .ref (E.2.2.1 25) :: st) h := P_zald (wd := wdX E) (k := 25) X q hd hq (Nat.le_of_ble_eq_true rfl) (fun _ => rfl) (by decide) hi hj kk
theorem sX_25 (X : Cx K own cc nL ret E A d) {j : Nat} {i x : Int32} (q : Nat) (hd : decode cc pc = .ok (.bastore, 1)) (hq : pc + 1 = q) (hi : i = nI j) (hj : j < 40) (h01 : x = 0 ∨ x = 1) (kk : GW K nL E (wdX E) A q lo st (put h 25 j x)) : GW K nL E (wdX E) A pc lo (.int x :: .int i :: .ref (E.2.2.1 25) :: st) h := P_zast (wd := wdX E) (k := 25) X q hd hq (Nat.le_of_ble_eq_true rfl) (fun _ => rfl) (by decide) hi hj h01 kk
theorem lX_26 (X : Cx K own cc nL ret E A d) {j : Nat} {i : Int32} (q : Nat) (hd : decode cc pc = .ok (.iaload, 1)) (hq : pc + 1 = q) (hi : i = nI j) (hj : j < 12) (kk : GW K nL E (wdX E) A q lo (.int (h 26 j) :: st) h) : GW K nL E (wdX E) A pc lo (.int i :: .ref (E.2.2.1 26) :: st) h := P_iald (wd := wdX E) (k := 26) X q hd hq (Nat.le_of_ble_eq_true rfl) (fun _ => rfl) (by decide) hi hj kk
theorem sX_26 (X : Cx K own cc nL ret E A d) {j : Nat} {i x : Int32} (q : Nat) (hd : decode cc pc = .ok (.iastore, 1)) (hq : pc + 1 = q) (hi : i = nI j) (hj : j < 12) (kk : GW K nL E (wdX E) A q lo st (put h 26 j x)) : GW K nL E (wdX E) A pc lo (.int x :: .int i :: .ref (E.2.2.1 26) :: st) h := P_iast (wd := wdX E) (k := 26) X q hd hq (Nat.le_of_ble_eq_true rfl) (fun _ => rfl) (by decide) hi hj kk
theorem lX_27 (X : Cx K own cc nL ret E A d) {j : Nat} {i : Int32} (q : Nat) (hd : decode cc pc = .ok (.iaload, 1)) (hq : pc + 1 = q) (hi : i = nI j) (hj : j < 12) (kk : GW K nL E (wdX E) A q lo (.int (h 27 j) :: st) h) : GW K nL E (wdX E) A pc lo (.int i :: .ref (E.2.2.1 27) :: st) h := P_iald (wd := wdX E) (k := 27) X q hd hq (Nat.le_of_ble_eq_true rfl) (fun _ => rfl) (by decide) hi hj kk
theorem sX_27 (X : Cx K own cc nL ret E A d) {j : Nat} {i x : Int32} (q : Nat) (hd : decode cc pc = .ok (.iastore, 1)) (hq : pc + 1 = q) (hi : i = nI j) (hj : j < 12) (kk : GW K nL E (wdX E) A q lo st (put h 27 j x)) : GW K nL E (wdX E) A pc lo (.int x :: .int i :: .ref (E.2.2.1 27) :: st) h := P_iast (wd := wdX E) (k := 27) X q hd hq (Nat.le_of_ble_eq_true rfl) (fun _ => rfl) (by decide) hi hj kk
theorem lX_28 (X : Cx K own cc nL ret E A d) {j : Nat} {i : Int32} (q : Nat) (hd : decode cc pc = .ok (.iaload, 1)) (hq : pc + 1 = q) (hi : i = nI j) (hj : j < 80) (kk : GW K nL E (wdX E) A q lo (.int (h 28 j) :: st) h) : GW K nL E (wdX E) A pc lo (.int i :: .ref (E.2.2.1 28) :: st) h := P_iald (wd := wdX E) (k := 28) X q hd hq (Nat.le_of_ble_eq_true rfl) (fun _ => rfl) (by decide) hi hj kk
theorem sX_28 (X : Cx K own cc nL ret E A d) {j : Nat} {i x : Int32} (q : Nat) (hd : decode cc pc = .ok (.iastore, 1)) (hq : pc + 1 = q) (hi : i = nI j) (hj : j < 80) (kk : GW K nL E (wdX E) A q lo st (put h 28 j x)) : GW K nL E (wdX E) A pc lo (.int x :: .int i :: .ref (E.2.2.1 28) :: st) h := P_iast (wd := wdX E) (k := 28) X q hd hq (Nat.le_of_ble_eq_true rfl) (fun _ => rfl) (by decide) hi hj kk
theorem lX_29 (X : Cx K own cc nL ret E A d) {j : Nat} {i : Int32} (q : Nat) (hd : decode cc pc = .ok (.iaload, 1)) (hq : pc + 1 = q) (hi : i = nI j) (hj : j < 12) (kk : GW K nL E (wdX E) A q lo (.int (h 29 j) :: st) h) : GW K nL E (wdX E) A pc lo (.int i :: .ref (E.2.2.1 29) :: st) h := P_iald (wd := wdX E) (k := 29) X q hd hq (Nat.le_of_ble_eq_true rfl) (fun _ => rfl) (by decide) hi hj kk
theorem sX_29 (X : Cx K own cc nL ret E A d) {j : Nat} {i x : Int32} (q : Nat) (hd : decode cc pc = .ok (.iastore, 1)) (hq : pc + 1 = q) (hi : i = nI j) (hj : j < 12) (kk : GW K nL E (wdX E) A q lo st (put h 29 j x)) : GW K nL E (wdX E) A pc lo (.int x :: .int i :: .ref (E.2.2.1 29) :: st) h := P_iast (wd := wdX E) (k := 29) X q hd hq (Nat.le_of_ble_eq_true rfl) (fun _ => rfl) (by decide) hi hj kk
theorem lX_30 (X : Cx K own cc nL ret E A d) {j : Nat} {i : Int32} (q : Nat) (hd : decode cc pc = .ok (.iaload, 1)) (hq : pc + 1 = q) (hi : i = nI j) (hj : j < 12) (kk : GW K nL E (wdX E) A q lo (.int (h 30 j) :: st) h) : GW K nL E (wdX E) A pc lo (.int i :: .ref (E.2.2.1 30) :: st) h := P_iald (wd := wdX E) (k := 30) X q hd hq (Nat.le_of_ble_eq_true rfl) (fun _ => rfl) (by decide) hi hj kk
theorem sX_30 (X : Cx K own cc nL ret E A d) {j : Nat} {i x : Int32} (q : Nat) (hd : decode cc pc = .ok (.iastore, 1)) (hq : pc + 1 = q) (hi : i = nI j) (hj : j < 12) (kk : GW K nL E (wdX E) A q lo st (put h 30 j x)) : GW K nL E (wdX E) A pc lo (.int x :: .int i :: .ref (E.2.2.1 30) :: st) h := P_iast (wd := wdX E) (k := 30) X q hd hq (Nat.le_of_ble_eq_true rfl) (fun _ => rfl) (by decide) hi hj kk
theorem lX_31 (X : Cx K own cc nL ret E A d) {j : Nat} {i : Int32} (q : Nat) (hd : decode cc pc = .ok (.iaload, 1)) (hq : pc + 1 = q) (hi : i = nI j) (hj : j < 12) (kk : GW K nL E (wdX E) A q lo (.int (h 31 j) :: st) h) : GW K nL E (wdX E) A pc lo (.int i :: .ref (E.2.2.1 31) :: st) h := P_iald (wd := wdX E) (k := 31) X q hd hq (Nat.le_of_ble_eq_true rfl) (fun _ => rfl) (by decide) hi hj kk
theorem sX_31 (X : Cx K own cc nL ret E A d) {j : Nat} {i x : Int32} (q : Nat) (hd : decode cc pc = .ok (.iastore, 1)) (hq : pc + 1 = q) (hi : i = nI j) (hj : j < 12) (kk : GW K nL E (wdX E) A q lo st (put h 31 j x)) : GW K nL E (wdX E) A pc lo (.int x :: .int i :: .ref (E.2.2.1 31) :: st) h := P_iast (wd := wdX E) (k := 31) X q hd hq (Nat.le_of_ble_eq_true rfl) (fun _ => rfl) (by decide) hi hj kk
theorem lX_32 (X : Cx K own cc nL ret E A d) {j : Nat} {i : Int32} (q : Nat) (hd : decode cc pc = .ok (.iaload, 1)) (hq : pc + 1 = q) (hi : i = nI j) (hj : j < 12) (kk : GW K nL E (wdX E) A q lo (.int (h 32 j) :: st) h) : GW K nL E (wdX E) A pc lo (.int i :: .ref (E.2.2.1 32) :: st) h := P_iald (wd := wdX E) (k := 32) X q hd hq (Nat.le_of_ble_eq_true rfl) (fun _ => rfl) (by decide) hi hj kk
theorem sX_32 (X : Cx K own cc nL ret E A d) {j : Nat} {i x : Int32} (q : Nat) (hd : decode cc pc = .ok (.iastore, 1)) (hq : pc + 1 = q) (hi : i = nI j) (hj : j < 12) (kk : GW K nL E (wdX E) A q lo st (put h 32 j x)) : GW K nL E (wdX E) A pc lo (.int x :: .int i :: .ref (E.2.2.1 32) :: st) h := P_iast (wd := wdX E) (k := 32) X q hd hq (Nat.le_of_ble_eq_true rfl) (fun _ => rfl) (by decide) hi hj kk
theorem lX_33 (X : Cx K own cc nL ret E A d) {j : Nat} {i : Int32} (q : Nat) (hd : decode cc pc = .ok (.iaload, 1)) (hq : pc + 1 = q) (hi : i = nI j) (hj : j < 6) (kk : GW K nL E (wdX E) A q lo (.int (h 33 j) :: st) h) : GW K nL E (wdX E) A pc lo (.int i :: .ref (E.2.2.1 33) :: st) h := P_iald (wd := wdX E) (k := 33) X q hd hq (Nat.le_of_ble_eq_true rfl) (fun _ => rfl) (by decide) hi hj kk
theorem sX_33 (X : Cx K own cc nL ret E A d) {j : Nat} {i x : Int32} (q : Nat) (hd : decode cc pc = .ok (.iastore, 1)) (hq : pc + 1 = q) (hi : i = nI j) (hj : j < 6) (kk : GW K nL E (wdX E) A q lo st (put h 33 j x)) : GW K nL E (wdX E) A pc lo (.int x :: .int i :: .ref (E.2.2.1 33) :: st) h := P_iast (wd := wdX E) (k := 33) X q hd hq (Nat.le_of_ble_eq_true rfl) (fun _ => rfl) (by decide) hi hj kk
theorem lX_34 (X : Cx K own cc nL ret E A d) {j : Nat} {i : Int32} (q : Nat) (hd : decode cc pc = .ok (.iaload, 1)) (hq : pc + 1 = q) (hi : i = nI j) (hj : j < 6) (kk : GW K nL E (wdX E) A q lo (.int (h 34 j) :: st) h) : GW K nL E (wdX E) A pc lo (.int i :: .ref (E.2.2.1 34) :: st) h := P_iald (wd := wdX E) (k := 34) X q hd hq (Nat.le_of_ble_eq_true rfl) (fun _ => rfl) (by decide) hi hj kk
theorem sX_34 (X : Cx K own cc nL ret E A d) {j : Nat} {i x : Int32} (q : Nat) (hd : decode cc pc = .ok (.iastore, 1)) (hq : pc + 1 = q) (hi : i = nI j) (hj : j < 6) (kk : GW K nL E (wdX E) A q lo st (put h 34 j x)) : GW K nL E (wdX E) A pc lo (.int x :: .int i :: .ref (E.2.2.1 34) :: st) h := P_iast (wd := wdX E) (k := 34) X q hd hq (Nat.le_of_ble_eq_true rfl) (fun _ => rfl) (by decide) hi hj kk
theorem lX_35 (X : Cx K own cc nL ret E A d) {j : Nat} {i : Int32} (q : Nat) (hd : decode cc pc = .ok (.iaload, 1)) (hq : pc + 1 = q) (hi : i = nI j) (hj : j < 6) (kk : GW K nL E (wdX E) A q lo (.int (h 35 j) :: st) h) : GW K nL E (wdX E) A pc lo (.int i :: .ref (E.2.2.1 35) :: st) h := P_iald (wd := wdX E) (k := 35) X q hd hq (Nat.le_of_ble_eq_true rfl) (fun _ => rfl) (by decide) hi hj kk
theorem sX_35 (X : Cx K own cc nL ret E A d) {j : Nat} {i x : Int32} (q : Nat) (hd : decode cc pc = .ok (.iastore, 1)) (hq : pc + 1 = q) (hi : i = nI j) (hj : j < 6) (kk : GW K nL E (wdX E) A q lo st (put h 35 j x)) : GW K nL E (wdX E) A pc lo (.int x :: .int i :: .ref (E.2.2.1 35) :: st) h := P_iast (wd := wdX E) (k := 35) X q hd hq (Nat.le_of_ble_eq_true rfl) (fun _ => rfl) (by decide) hi hj kk
theorem lX_36 (X : Cx K own cc nL ret E A d) {j : Nat} {i : Int32} (q : Nat) (hd : decode cc pc = .ok (.iaload, 1)) (hq : pc + 1 = q) (hi : i = nI j) (hj : j < 6) (kk : GW K nL E (wdX E) A q lo (.int (h 36 j) :: st) h) : GW K nL E (wdX E) A pc lo (.int i :: .ref (E.2.2.1 36) :: st) h := P_iald (wd := wdX E) (k := 36) X q hd hq (Nat.le_of_ble_eq_true rfl) (fun _ => rfl) (by decide) hi hj kk
theorem sX_36 (X : Cx K own cc nL ret E A d) {j : Nat} {i x : Int32} (q : Nat) (hd : decode cc pc = .ok (.iastore, 1)) (hq : pc + 1 = q) (hi : i = nI j) (hj : j < 6) (kk : GW K nL E (wdX E) A q lo st (put h 36 j x)) : GW K nL E (wdX E) A pc lo (.int x :: .int i :: .ref (E.2.2.1 36) :: st) h := P_iast (wd := wdX E) (k := 36) X q hd hq (Nat.le_of_ble_eq_true rfl) (fun _ => rfl) (by decide) hi hj kk
theorem lX_37 (X : Cx K own cc nL ret E A d) {j : Nat} {i : Int32} (q : Nat) (hd : decode cc pc = .ok (.iaload, 1)) (hq : pc + 1 = q) (hi : i = nI j) (hj : j < 6) (kk : GW K nL E (wdX E) A q lo (.int (h 37 j) :: st) h) : GW K nL E (wdX E) A pc lo (.int i :: .ref (E.2.2.1 37) :: st) h := P_iald (wd := wdX E) (k := 37) X q hd hq (Nat.le_of_ble_eq_true rfl) (fun _ => rfl) (by decide) hi hj kk
theorem sX_37 (X : Cx K own cc nL ret E A d) {j : Nat} {i x : Int32} (q : Nat) (hd : decode cc pc = .ok (.iastore, 1)) (hq : pc + 1 = q) (hi : i = nI j) (hj : j < 6) (kk : GW K nL E (wdX E) A q lo st (put h 37 j x)) : GW K nL E (wdX E) A pc lo (.int x :: .int i :: .ref (E.2.2.1 37) :: st) h := P_iast (wd := wdX E) (k := 37) X q hd hq (Nat.le_of_ble_eq_true rfl) (fun _ => rfl) (by decide) hi hj kk
theorem lX_38 (X : Cx K own cc nL ret E A d) {j : Nat} {i : Int32} (q : Nat) (hd : decode cc pc = .ok (.iaload, 1)) (hq : pc + 1 = q) (hi : i = nI j) (hj : j < 6) (kk : GW K nL E (wdX E) A q lo (.int (h 38 j) :: st) h) : GW K nL E (wdX E) A pc lo (.int i :: .ref (E.2.2.1 38) :: st) h := P_iald (wd := wdX E) (k := 38) X q hd hq (Nat.le_of_ble_eq_true rfl) (fun _ => rfl) (by decide) hi hj kk
theorem sX_38 (X : Cx K own cc nL ret E A d) {j : Nat} {i x : Int32} (q : Nat) (hd : decode cc pc = .ok (.iastore, 1)) (hq : pc + 1 = q) (hi : i = nI j) (hj : j < 6) (kk : GW K nL E (wdX E) A q lo st (put h 38 j x)) : GW K nL E (wdX E) A pc lo (.int x :: .int i :: .ref (E.2.2.1 38) :: st) h := P_iast (wd := wdX E) (k := 38) X q hd hq (Nat.le_of_ble_eq_true rfl) (fun _ => rfl) (by decide) hi hj kk
theorem lX_39 (X : Cx K own cc nL ret E A d) {j : Nat} {i : Int32} (q : Nat) (hd : decode cc pc = .ok (.iaload, 1)) (hq : pc + 1 = q) (hi : i = nI j) (hj : j < 6) (kk : GW K nL E (wdX E) A q lo (.int (h 39 j) :: st) h) : GW K nL E (wdX E) A pc lo (.int i :: .ref (E.2.2.1 39) :: st) h := P_iald (wd := wdX E) (k := 39) X q hd hq (Nat.le_of_ble_eq_true rfl) (fun _ => rfl) (by decide) hi hj kk
theorem sX_39 (X : Cx K own cc nL ret E A d) {j : Nat} {i x : Int32} (q : Nat) (hd : decode cc pc = .ok (.iastore, 1)) (hq : pc + 1 = q) (hi : i = nI j) (hj : j < 6) (kk : GW K nL E (wdX E) A q lo st (put h 39 j x)) : GW K nL E (wdX E) A pc lo (.int x :: .int i :: .ref (E.2.2.1 39) :: st) h := P_iast (wd := wdX E) (k := 39) X q hd hq (Nat.le_of_ble_eq_true rfl) (fun _ => rfl) (by decide) hi hj kk
theorem lX_40 (X : Cx K own cc nL ret E A d) {j : Nat} {i : Int32} (q : Nat) (hd : decode cc pc = .ok (.iaload, 1)) (hq : pc + 1 = q) (hi : i = nI j) (hj : j < 6) (kk : GW K nL E (wdX E) A q lo (.int (h 40 j) :: st) h) : GW K nL E (wdX E) A pc lo (.int i :: .ref (E.2.2.1 40) :: st) h := P_iald (wd := wdX E) (k := 40) X q hd hq (Nat.le_of_ble_eq_true rfl) (fun _ => rfl) (by decide) hi hj kk
theorem sX_40 (X : Cx K own cc nL ret E A d) {j : Nat} {i x : Int32} (q : Nat) (hd : decode cc pc = .ok (.iastore, 1)) (hq : pc + 1 = q) (hi : i = nI j) (hj : j < 6) (kk : GW K nL E (wdX E) A q lo st (put h 40 j x)) : GW K nL E (wdX E) A pc lo (.int x :: .int i :: .ref (E.2.2.1 40) :: st) h := P_iast (wd := wdX E) (k := 40) X q hd hq (Nat.le_of_ble_eq_true rfl) (fun _ => rfl) (by decide) hi hj kk
theorem lX_41 (X : Cx K own cc nL ret E A d) {j : Nat} {i : Int32} (q : Nat) (hd : decode cc pc = .ok (.iaload, 1)) (hq : pc + 1 = q) (hi : i = nI j) (hj : j < 6) (kk : GW K nL E (wdX E) A q lo (.int (h 41 j) :: st) h) : GW K nL E (wdX E) A pc lo (.int i :: .ref (E.2.2.1 41) :: st) h := P_iald (wd := wdX E) (k := 41) X q hd hq (Nat.le_of_ble_eq_true rfl) (fun _ => rfl) (by decide) hi hj kk
theorem sX_41 (X : Cx K own cc nL ret E A d) {j : Nat} {i x : Int32} (q : Nat) (hd : decode cc pc = .ok (.iastore, 1)) (hq : pc + 1 = q) (hi : i = nI j) (hj : j < 6) (kk : GW K nL E (wdX E) A q lo st (put h 41 j x)) : GW K nL E (wdX E) A pc lo (.int x :: .int i :: .ref (E.2.2.1 41) :: st) h := P_iast (wd := wdX E) (k := 41) X q hd hq (Nat.le_of_ble_eq_true rfl) (fun _ => rfl) (by decide) hi hj kk
theorem lX_42 (X : Cx K own cc nL ret E A d) {j : Nat} {i : Int32} (q : Nat) (hd : decode cc pc = .ok (.iaload, 1)) (hq : pc + 1 = q) (hi : i = nI j) (hj : j < 6) (kk : GW K nL E (wdX E) A q lo (.int (h 42 j) :: st) h) : GW K nL E (wdX E) A pc lo (.int i :: .ref (E.2.2.1 42) :: st) h := P_iald (wd := wdX E) (k := 42) X q hd hq (Nat.le_of_ble_eq_true rfl) (fun _ => rfl) (by decide) hi hj kk
theorem sX_42 (X : Cx K own cc nL ret E A d) {j : Nat} {i x : Int32} (q : Nat) (hd : decode cc pc = .ok (.iastore, 1)) (hq : pc + 1 = q) (hi : i = nI j) (hj : j < 6) (kk : GW K nL E (wdX E) A q lo st (put h 42 j x)) : GW K nL E (wdX E) A pc lo (.int x :: .int i :: .ref (E.2.2.1 42) :: st) h := P_iast (wd := wdX E) (k := 42) X q hd hq (Nat.le_of_ble_eq_true rfl) (fun _ => rfl) (by decide) hi hj kk
theorem gX_43_0 (X : Cx K own cc nL ret E A d) {ix : Nat} (q : Nat) (hd : decode cc pc = .ok (.getfield ix, 3)) (hq : pc + 3 = q) (hF : FL own ix 4 0) (kk : GW K nL E (wdX E) A q lo (.ref (E.2.2.1 47) :: st) h) : GW K nL E (wdX E) A pc lo (.ref (E.2.2.1 43) :: st) h := P_get (wd := wdX E) (k := 43) X q hd hq hF (Nat.le_of_ble_eq_true rfl) rfl rfl kk
theorem gX_43_1 (X : Cx K own cc nL ret E A d) {ix : Nat} (q : Nat) (hd : decode cc pc = .ok (.getfield ix, 3)) (hq : pc + 3 = q) (hF : FL own ix 4 1) (kk : GW K nL E (wdX E) A q lo (.int (h 43 1) :: st) h) : GW K nL E (wdX E) A pc lo (.ref (E.2.2.1 43) :: st) h := P_get (wd := wdX E) (k := 43) X q hd hq hF (Nat.le_of_ble_eq_true rfl) rfl rfl kk
theorem pX_43_1 (X : Cx K own cc nL ret E A d) {ix : Nat} {x : Int32} (q : Nat) (hd : decode cc pc = .ok (.putfield ix, 3)) (hq : pc + 3 = q) (hF : FW own ix 4 1) (kk : GW K nL E (wdX E) A q lo st (put h 43 1 x)) : GW K nL E (wdX E) A pc lo (.int x :: .ref (E.2.2.1 43) :: st) h := P_put (wd := wdX E) (k := 43) (fs := fun f => [.ref (E.2.2.1 47), .int (f 1), .int (f 2)]) X q hd hq hF (Nat.le_of_ble_eq_true rfl) (fun _ => rfl) (fun _ _ => rfl) (Nat.le_of_ble_eq_true rfl) kk
theorem gX_43_2 (X : Cx K own cc nL ret E A d) {ix : Nat} (q : Nat) (hd : decode cc pc = .ok (.getfield ix, 3)) (hq : pc + 3 = q) (hF : FL own ix 4 2) (kk : GW K nL E (wdX E) A q lo (.int (h 43 2) :: st) h) : GW K nL E (wdX E) A pc lo (.ref (E.2.2.1 43) :: st) h := P_get (wd := wdX E) (k := 43) X q hd hq hF (Nat.le_of_ble_eq_true rfl) rfl rfl kk
theorem pX_43_2 (X : Cx K own cc nL ret E A d) {ix : Nat} {x : Int32} (q : Nat) (hd : decode cc pc = .ok (.putfield ix, 3)) (hq : pc + 3 = q) (hF : FW own ix 4 2) (kk : GW K nL E (wdX E) A q lo st (put h 43 2 x)) : GW K nL E (wdX E) A pc lo (.int x :: .ref (E.2.2.1 43) :: st) h := P_put (wd := wdX E) (k := 43) (fs := fun f => [.ref (E.2.2.1 47), .int (f 1), .int (f 2)]) X q hd hq hF (Nat.le_of_ble_eq_true rfl) (fun _ => rfl) (fun _ _ => rfl) (Nat.le_of_ble_eq_true rfl) kk
theorem gX_44_0 (X : Cx K own cc nL ret E A d) {ix : Nat} (q : Nat) (hd : decode cc pc = .ok (.getfield ix, 3)) (hq : pc + 3 = q) (hF : FL own ix 4 0) (kk : GW K nL E (wdX E) A q lo (.ref (E.2.2.1 48) :: st) h) : GW K nL E (wdX E) A pc lo (.ref (E.2.2.1 44) :: st) h := P_get (wd := wdX E) (k := 44) X q hd hq hF (Nat.le_of_ble_eq_true rfl) rfl rfl kk
theorem gX_44_1 (X : Cx K own cc nL ret E A d) {ix : Nat} (q : Nat) (hd : decode cc pc = .ok (.getfield ix, 3)) (hq : pc + 3 = q) (hF : FL own ix 4 1) (kk : GW K nL E (wdX E) A q lo (.int (h 44 1) :: st) h) : GW K nL E (wdX E) A pc lo (.ref (E.2.2.1 44) :: st) h := P_get (wd := wdX E) (k := 44) X q hd hq hF (Nat.le_of_ble_eq_true rfl) rfl rfl kk
theorem pX_44_1 (X : Cx K own cc nL ret E A d) {ix : Nat} {x : Int32} (q : Nat) (hd : decode cc pc = .ok (.putfield ix, 3)) (hq : pc + 3 = q) (hF : FW own ix 4 1) (kk : GW K nL E (wdX E) A q lo st (put h 44 1 x)) : GW K nL E (wdX E) A pc lo (.int x :: .ref (E.2.2.1 44) :: st) h := P_put (wd := wdX E) (k := 44) (fs := fun f => [.ref (E.2.2.1 48), .int (f 1), .int (f 2)]) X q hd hq hF (Nat.le_of_ble_eq_true rfl) (fun _ => rfl) (fun _ _ => rfl) (Nat.le_of_ble_eq_true rfl) kk
theorem gX_44_2 (X : Cx K own cc nL ret E A d) {ix : Nat} (q : Nat) (hd : decode cc pc = .ok (.getfield ix, 3)) (hq : pc + 3 = q) (hF : FL own ix 4 2) (kk : GW K nL E (wdX E) A q lo (.int (h 44 2) :: st) h) : GW K nL E (wdX E) A pc lo (.ref (E.2.2.1 44) :: st) h := P_get (wd := wdX E) (k := 44) X q hd hq hF (Nat.le_of_ble_eq_true rfl) rfl rfl kk
theorem pX_44_2 (X : Cx K own cc nL ret E A d) {ix : Nat} {x : Int32} (q : Nat) (hd : decode cc pc = .ok (.putfield ix, 3)) (hq : pc + 3 = q) (hF : FW own ix 4 2) (kk : GW K nL E (wdX E) A q lo st (put h 44 2 x)) : GW K nL E (wdX E) A pc lo (.int x :: .ref (E.2.2.1 44) :: st) h := P_put (wd := wdX E) (k := 44) (fs := fun f => [.ref (E.2.2.1 48), .int (f 1), .int (f 2)]) X q hd hq hF (Nat.le_of_ble_eq_true rfl) (fun _ => rfl) (fun _ _ => rfl) (Nat.le_of_ble_eq_true rfl) kk
theorem gX_45_0 (X : Cx K own cc nL ret E A d) {ix : Nat} (q : Nat) (hd : decode cc pc = .ok (.getfield ix, 3)) (hq : pc + 3 = q) (hF : FL own ix 4 0) (kk : GW K nL E (wdX E) A q lo (.ref (E.2.2.1 49) :: st) h) : GW K nL E (wdX E) A pc lo (.ref (E.2.2.1 45) :: st) h := P_get (wd := wdX E) (k := 45) X q hd hq hF (Nat.le_of_ble_eq_true rfl) rfl rfl kk
theorem gX_45_1 (X : Cx K own cc nL ret E A d) {ix : Nat} (q : Nat) (hd : decode cc pc = .ok (.getfield ix, 3)) (hq : pc + 3 = q) (hF : FL own ix 4 1) (kk : GW K nL E (wdX E) A q lo (.int (h 45 1) :: st) h) : GW K nL E (wdX E) A pc lo (.ref (E.2.2.1 45) :: st) h := P_get (wd := wdX E) (k := 45) X q hd hq hF (Nat.le_of_ble_eq_true rfl) rfl rfl kk
theorem pX_45_1 (X : Cx K own cc nL ret E A d) {ix : Nat} {x : Int32} (q : Nat) (hd : decode cc pc = .ok (.putfield ix, 3)) (hq : pc + 3 = q) (hF : FW own ix 4 1) (kk : GW K nL E (wdX E) A q lo st (put h 45 1 x)) : GW K nL E (wdX E) A pc lo (.int x :: .ref (E.2.2.1 45) :: st) h := P_put (wd := wdX E) (k := 45) (fs := fun f => [.ref (E.2.2.1 49), .int (f 1), .int (f 2)]) X q hd hq hF (Nat.le_of_ble_eq_true rfl) (fun _ => rfl) (fun _ _ => rfl) (Nat.le_of_ble_eq_true rfl) kk
theorem gX_45_2 (X : Cx K own cc nL ret E A d) {ix : Nat} (q : Nat) (hd : decode cc pc = .ok (.getfield ix, 3)) (hq : pc + 3 = q) (hF : FL own ix 4 2) (kk : GW K nL E (wdX E) A q lo (.int (h 45 2) :: st) h) : GW K nL E (wdX E) A pc lo (.ref (E.2.2.1 45) :: st) h := P_get (wd := wdX E) (k := 45) X q hd hq hF (Nat.le_of_ble_eq_true rfl) rfl rfl kk
theorem pX_45_2 (X : Cx K own cc nL ret E A d) {ix : Nat} {x : Int32} (q : Nat) (hd : decode cc pc = .ok (.putfield ix, 3)) (hq : pc + 3 = q) (hF : FW own ix 4 2) (kk : GW K nL E (wdX E) A q lo st (put h 45 2 x)) : GW K nL E (wdX E) A pc lo (.int x :: .ref (E.2.2.1 45) :: st) h := P_put (wd := wdX E) (k := 45) (fs := fun f => [.ref (E.2.2.1 49), .int (f 1), .int (f 2)]) X q hd hq hF (Nat.le_of_ble_eq_true rfl) (fun _ => rfl) (fun _ _ => rfl) (Nat.le_of_ble_eq_true rfl) kk
theorem gX_46_0 (X : Cx K own cc nL ret E A d) {ix : Nat} (q : Nat) (hd : decode cc pc = .ok (.getfield ix, 3)) (hq : pc + 3 = q) (hF : FL own ix 4 0) (kk : GW K nL E (wdX E) A q lo (.ref (E.2.2.1 50) :: st) h) : GW K nL E (wdX E) A pc lo (.ref (E.2.2.1 46) :: st) h := P_get (wd := wdX E) (k := 46) X q hd hq hF (Nat.le_of_ble_eq_true rfl) rfl rfl kk
theorem gX_46_1 (X : Cx K own cc nL ret E A d) {ix : Nat} (q : Nat) (hd : decode cc pc = .ok (.getfield ix, 3)) (hq : pc + 3 = q) (hF : FL own ix 4 1) (kk : GW K nL E (wdX E) A q lo (.int (h 46 1) :: st) h) : GW K nL E (wdX E) A pc lo (.ref (E.2.2.1 46) :: st) h := P_get (wd := wdX E) (k := 46) X q hd hq hF (Nat.le_of_ble_eq_true rfl) rfl rfl kk
theorem pX_46_1 (X : Cx K own cc nL ret E A d) {ix : Nat} {x : Int32} (q : Nat) (hd : decode cc pc = .ok (.putfield ix, 3)) (hq : pc + 3 = q) (hF : FW own ix 4 1) (kk : GW K nL E (wdX E) A q lo st (put h 46 1 x)) : GW K nL E (wdX E) A pc lo (.int x :: .ref (E.2.2.1 46) :: st) h := P_put (wd := wdX E) (k := 46) (fs := fun f => [.ref (E.2.2.1 50), .int (f 1), .int (f 2)]) X q hd hq hF (Nat.le_of_ble_eq_true rfl) (fun _ => rfl) (fun _ _ => rfl) (Nat.le_of_ble_eq_true rfl) kk
theorem gX_46_2 (X : Cx K own cc nL ret E A d) {ix : Nat} (q : Nat) (hd : decode cc pc = .ok (.getfield ix, 3)) (hq : pc + 3 = q) (hF : FL own ix 4 2) (kk : GW K nL E (wdX E) A q lo (.int (h 46 2) :: st) h) : GW K nL E (wdX E) A pc lo (.ref (E.2.2.1 46) :: st) h := P_get (wd := wdX E) (k := 46) X q hd hq hF (Nat.le_of_ble_eq_true rfl) rfl rfl kk
theorem pX_46_2 (X : Cx K own cc nL ret E A d) {ix : Nat} {x : Int32} (q : Nat) (hd : decode cc pc = .ok (.putfield ix, 3)) (hq : pc + 3 = q) (hF : FW own ix 4 2) (kk : GW K nL E (wdX E) A q lo st (put h 46 2 x)) : GW K nL E (wdX E) A pc lo (.int x :: .ref (E.2.2.1 46) :: st) h := P_put (wd := wdX E) (k := 46) (fs := fun f => [.ref (E.2.2.1 50), .int (f 1), .int (f 2)]) X q hd hq hF (Nat.le_of_ble_eq_true rfl) (fun _ => rfl) (fun _ _ => rfl) (Nat.le_of_ble_eq_true rfl) kk
theorem lX_47 (X : Cx K own cc nL ret E A d) {j : Nat} {i : Int32} (q : Nat) (hd : decode cc pc = .ok (.iaload, 1)) (hq : pc + 1 = q) (hi : i = nI j) (hj : j < 12) (kk : GW K nL E (wdX E) A q lo (.int (h 47 j) :: st) h) : GW K nL E (wdX E) A pc lo (.int i :: .ref (E.2.2.1 47) :: st) h := P_iald (wd := wdX E) (k := 47) X q hd hq (Nat.le_of_ble_eq_true rfl) (fun _ => rfl) (by decide) hi hj kk
theorem sX_47 (X : Cx K own cc nL ret E A d) {j : Nat} {i x : Int32} (q : Nat) (hd : decode cc pc = .ok (.iastore, 1)) (hq : pc + 1 = q) (hi : i = nI j) (hj : j < 12) (kk : GW K nL E (wdX E) A q lo st (put h 47 j x)) : GW K nL E (wdX E) A pc lo (.int x :: .int i :: .ref (E.2.2.1 47) :: st) h := P_iast (wd := wdX E) (k := 47) X q hd hq (Nat.le_of_ble_eq_true rfl) (fun _ => rfl) (by decide) hi hj kk
theorem lX_48 (X : Cx K own cc nL ret E A d) {j : Nat} {i : Int32} (q : Nat) (hd : decode cc pc = .ok (.iaload, 1)) (hq : pc + 1 = q) (hi : i = nI j) (hj : j < 12) (kk : GW K nL E (wdX E) A q lo (.int (h 48 j) :: st) h) : GW K nL E (wdX E) A pc lo (.int i :: .ref (E.2.2.1 48) :: st) h := P_iald (wd := wdX E) (k := 48) X q hd hq (Nat.le_of_ble_eq_true rfl) (fun _ => rfl) (by decide) hi hj kk
theorem sX_48 (X : Cx K own cc nL ret E A d) {j : Nat} {i x : Int32} (q : Nat) (hd : decode cc pc = .ok (.iastore, 1)) (hq : pc + 1 = q) (hi : i = nI j) (hj : j < 12) (kk : GW K nL E (wdX E) A q lo st (put h 48 j x)) : GW K nL E (wdX E) A pc lo (.int x :: .int i :: .ref (E.2.2.1 48) :: st) h := P_iast (wd := wdX E) (k := 48) X q hd hq (Nat.le_of_ble_eq_true rfl) (fun _ => rfl) (by decide) hi hj kk
theorem lX_49 (X : Cx K own cc nL ret E A d) {j : Nat} {i : Int32} (q : Nat) (hd : decode cc pc = .ok (.iaload, 1)) (hq : pc + 1 = q) (hi : i = nI j) (hj : j < 12) (kk : GW K nL E (wdX E) A q lo (.int (h 49 j) :: st) h) : GW K nL E (wdX E) A pc lo (.int i :: .ref (E.2.2.1 49) :: st) h := P_iald (wd := wdX E) (k := 49) X q hd hq (Nat.le_of_ble_eq_true rfl) (fun _ => rfl) (by decide) hi hj kk
theorem sX_49 (X : Cx K own cc nL ret E A d) {j : Nat} {i x : Int32} (q : Nat) (hd : decode cc pc = .ok (.iastore, 1)) (hq : pc + 1 = q) (hi : i = nI j) (hj : j < 12) (kk : GW K nL E (wdX E) A q lo st (put h 49 j x)) : GW K nL E (wdX E) A pc lo (.int x :: .int i :: .ref (E.2.2.1 49) :: st) h := P_iast (wd := wdX E) (k := 49) X q hd hq (Nat.le_of_ble_eq_true rfl) (fun _ => rfl) (by decide) hi hj kk
theorem lX_50 (X : Cx K own cc nL ret E A d) {j : Nat} {i : Int32} (q : Nat) (hd : decode cc pc = .ok (.iaload, 1)) (hq : pc + 1 = q) (hi : i = nI j) (hj : j < 12) (kk : GW K nL E (wdX E) A q lo (.int (h 50 j) :: st) h) : GW K nL E (wdX E) A pc lo (.int i :: .ref (E.2.2.1 50) :: st) h := P_iald (wd := wdX E) (k := 50) X q hd hq (Nat.le_of_ble_eq_true rfl) (fun _ => rfl) (by decide) hi hj kk
theorem sX_50 (X : Cx K own cc nL ret E A d) {j : Nat} {i x : Int32} (q : Nat) (hd : decode cc pc = .ok (.iastore, 1)) (hq : pc + 1 = q) (hi : i = nI j) (hj : j < 12) (kk : GW K nL E (wdX E) A q lo st (put h 50 j x)) : GW K nL E (wdX E) A pc lo (.int x :: .int i :: .ref (E.2.2.1 50) :: st) h := P_iast (wd := wdX E) (k := 50) X q hd hq (Nat.le_of_ble_eq_true rfl) (fun _ => rfl) (by decide) hi hj kk
theorem gY_0_0 (X : Cx K own cc nL ret E A d) {ix : Nat} (q : Nat) (hd : decode cc pc = .ok (.getfield ix, 3)) (hq : pc + 3 = q) (hF : FL own ix 9 0) (kk : GW K nL E (wdY E) A q lo (.int (h 0 0) :: st) h) : GW K nL E (wdY E) A pc lo (.ref (E.2.2.1 0) :: st) h := P_get (wd := wdY E) (k := 0) X q hd hq hF (Nat.le_of_ble_eq_true rfl) rfl rfl kk
theorem pY_0_0 (X : Cx K own cc nL ret E A d) {ix : Nat} {x : Int32} (q : Nat) (hd : decode cc pc = .ok (.putfield ix, 3)) (hq : pc + 3 = q) (hF : FW own ix 9 0) (kk : GW K nL E (wdY E) A q lo st (put h 0 0 x)) : GW K nL E (wdY E) A pc lo (.int x :: .ref (E.2.2.1 0) :: st) h := P_put (wd := wdY E) (k := 0) (fs := fun f => [.int (f 0), .int (f 1), .ref (E.2.2.1 1), .ref (E.2.2.1 2), .ref (E.2.2.1 3), .ref (E.2.2.1 4), .ref (E.2.2.1 5), .ref (E.2.2.1 6), .ref (E.2.2.1 7), .ref (E.2.2.1 8), .int (f 10), .ref (E.2.2.1 9), .ref (E.2.2.1 10), .ref (E.2.2.1 11), .ref (E.2.2.1 12), .ref (E.2.2.1 13), .ref (E.2.2.1 14), .int (f 17), .ref (E.2.2.1 15), .int (f 19), .ref (E.2.2.1 16), .ref (E.2.2.1 17), .ref (E.2.2.1 18), .ref (E.2.2.1 19), .ref (E.2.2.1 20), .ref (E.2.2.1 21), .ref (E.2.2.1 22), .ref (E.2.2.1 23), .ref (E.2.2.1 24), .ref (E.2.2.1 25), .ref (E.2.2.1 26), .ref (E.2.2.1 27), .ref (E.2.2.1 28), .int (f 33), .int (f 34), .ref (E.2.2.1 29), .ref (E.2.2.1 30), .ref (E.2.2.1 31), .int (f 38), .int (f 39), .ref (E.2.2.1 32)]) X q hd hq hF (Nat.le_of_ble_eq_true rfl) (fun _ => rfl) (fun _ _ => rfl) (Nat.le_of_ble_eq_true rfl) kk
theorem gY_0_1 (X : Cx K own cc nL ret E A d) {ix : Nat} (q : Nat) (hd : decode cc pc = .ok (.getfield ix, 3)) (hq : pc + 3 = q) (hF : FL own ix 9 1) (kk : GW K nL E (wdY E) A q lo (.int (h 0 1) :: st) h) : GW K nL E (wdY E) A pc lo (.ref (E.2.2.1 0) :: st) h := P_get (wd := wdY E) (k := 0) X q hd hq hF (Nat.le_of_ble_eq_true rfl) rfl rfl kk
theorem pY_0_1 (X : Cx K own cc nL ret E A d) {ix : Nat} {x : Int32} (q : Nat) (hd : decode cc pc = .ok (.putfield ix, 3)) (hq : pc + 3 = q) (hF : FW own ix 9 1) (kk : GW K nL E (wdY E) A q lo st (put h 0 1 x)) : GW K nL E (wdY E) A pc lo (.int x :: .ref (E.2.2.1 0) :: st) h := P_put (wd := wdY E) (k := 0) (fs := fun f => [.int (f 0), .int (f 1), .ref (E.2.2.1 1), .ref (E.2.2.1 2), .ref (E.2.2.1 3), .ref (E.2.2.1 4), .ref (E.2.2.1 5), .ref (E.2.2.1 6), .ref (E.2.2.1 7), .ref (E.2.2.1 8), .int (f 10), .ref (E.2.2.1 9), .ref (E.2.2.1 10), .ref (E.2.2.1 11), .ref (E.2.2.1 12), .ref (E.2.2.1 13), .ref (E.2.2.1 14), .int (f 17), .ref (E.2.2.1 15), .int (f 19), .ref (E.2.2.1 16), .ref (E.2.2.1 17), .ref (E.2.2.1 18), .ref (E.2.2.1 19), .ref (E.2.2.1 20), .ref (E.2.2.1 21), .ref (E.2.2.1 22), .ref (E.2.2.1 23), .ref (E.2.2.1 24), .ref (E.2.2.1 25), .ref (E.2.2.1 26), .ref (E.2.2.1 27), .ref (E.2.2.1 28), .int (f 33), .int (f 34), .ref (E.2.2.1 29), .ref (E.2.2.1 30), .ref (E.2.2.1 31), .int (f 38), .int (f 39), .ref (E.2.2.1 32)]) X q hd hq hF (Nat.le_of_ble_eq_true rfl) (fun _ => rfl) (fun _ _ => rfl) (Nat.le_of_ble_eq_true rfl) kk
theorem gY_0_2 (X : Cx K own cc nL ret E A d) {ix : Nat} (q : Nat) (hd : decode cc pc = .ok (.getfield ix, 3)) (hq : pc + 3 = q) (hF : FL own ix 9 2) (kk : GW K nL E (wdY E) A q lo (.ref (E.2.2.1 1) :: st) h) : GW K nL E (wdY E) A pc lo (.ref (E.2.2.1 0) :: st) h := P_get (wd := wdY E) (k := 0) X q hd hq hF (Nat.le_of_ble_eq_true rfl) rfl rfl kk
theorem gY_0_3 (X : Cx K own cc nL ret E A d) {ix : Nat} (q : Nat) (hd : decode cc pc = .ok (.getfield ix, 3)) (hq : pc + 3 = q) (hF : FL own ix 9 3) (kk : GW K nL E (wdY E) A q lo (.ref (E.2.2.1 2) :: st) h) : GW K nL E (wdY E) A pc lo (.ref (E.2.2.1 0) :: st) h := P_get (wd := wdY E) (k := 0) X q hd hq hF (Nat.le_of_ble_eq_true rfl) rfl rfl kk
theorem gY_0_4 (X : Cx K own cc nL ret E A d) {ix : Nat} (q : Nat) (hd : decode cc pc = .ok (.getfield ix, 3)) (hq : pc + 3 = q) (hF : FL own ix 9 4) (kk : GW K nL E (wdY E) A q lo (.ref (E.2.2.1 3) :: st) h) : GW K nL E (wdY E) A pc lo (.ref (E.2.2.1 0) :: st) h := P_get (wd := wdY E) (k := 0) X q hd hq hF (Nat.le_of_ble_eq_true rfl) rfl rfl kk
theorem gY_0_5 (X : Cx K own cc nL ret E A d) {ix : Nat} (q : Nat) (hd : decode cc pc = .ok (.getfield ix, 3)) (hq : pc + 3 = q) (hF : FL own ix 9 5) (kk : GW K nL E (wdY E) A q lo (.ref (E.2.2.1 4) :: st) h) : GW K nL E (wdY E) A pc lo (.ref (E.2.2.1 0) :: st) h := P_get (wd := wdY E) (k := 0) X q hd hq hF (Nat.le_of_ble_eq_true rfl) rfl rfl kk
theorem gY_0_6 (X : Cx K own cc nL ret E A d) {ix : Nat} (q : Nat) (hd : decode cc pc = .ok (.getfield ix, 3)) (hq : pc + 3 = q) (hF : FL own ix 9 6) (kk : GW K nL E (wdY E) A q lo (.ref (E.2.2.1 5) :: st) h) : GW K nL E (wdY E) A pc lo (.ref (E.2.2.1 0) :: st) h := P_get (wd := wdY E) (k := 0) X q hd hq hF (Nat.le_of_ble_eq_true rfl) rfl rfl kk
theorem gY_0_7 (X : Cx K own cc nL ret E A d) {ix : Nat} (q : Nat) (hd : decode cc pc = .ok (.getfield ix, 3)) (hq : pc + 3 = q) (hF : FL own ix 9 7) (kk : GW K nL E (wdY E) A q lo (.ref (E.2.2.1 6) :: st) h) : GW K nL E (wdY E) A pc lo (.ref (E.2.2.1 0) :: st) h := P_get (wd := wdY E) (k := 0) X q hd hq hF (Nat.le_of_ble_eq_true rfl) rfl rfl kk
theorem gY_0_8 (X : Cx K own cc nL ret E A d) {ix : Nat} (q : Nat) (hd : decode cc pc = .ok (.getfield ix, 3)) (hq : pc + 3 = q) (hF : FL own ix 9 8) (kk : GW K nL E (wdY E) A q lo (.ref (E.2.2.1 7) :: st) h) : GW K nL E (wdY E) A pc lo (.ref (E.2.2.1 0) :: st) h := P_get (wd := wdY E) (k := 0) X q hd hq hF (Nat.le_of_ble_eq_true rfl) rfl rfl kk
theorem gY_0_9 (X : Cx K own cc nL ret E A d) {ix : Nat} (q : Nat) (hd : decode cc pc = .ok (.getfield ix, 3)) (hq : pc + 3 = q) (hF : FL own ix 9 9) (kk : GW K nL E (wdY E) A q lo (.ref (E.2.2.1 8) :: st) h) : GW K nL E (wdY E) A pc lo (.ref (E.2.2.1 0) :: st) h := P_get (wd := wdY E) (k := 0) X q hd hq hF (Nat.le_of_ble_eq_true rfl) rfl rfl kk
theorem gY_0_10 (X : Cx K own cc nL ret E A d) {ix : Nat} (q : Nat) (hd : decode cc pc = .ok (.getfield ix, 3)) (hq : pc + 3 = q) (hF : FL own ix 9 10) (kk : GW K nL E (wdY E) A q lo (.int (h 0 10) :: st) h) : GW K nL E (wdY E) A pc lo (.ref (E.2.2.1 0) :: st) h := P_get (wd := wdY E) (k := 0) X q hd hq hF (Nat.le_of_ble_eq_true rfl) rfl rfl kk
theorem pY_0_10 (X : Cx K own cc nL ret E A d) {ix : Nat} {x : Int32} (q : Nat) (hd : decode cc pc = .ok (.putfield ix, 3)) (hq : pc + 3 = q) (hF : FW own ix 9 10) (kk : GW K nL E (wdY E) A q lo st (put h 0 10 x)) : GW K nL E (wdY E) A pc lo (.int x :: .ref (E.2.2.1 0) :: st) h := P_put (wd := wdY E) (k := 0) (fs := fun f => [.int (f 0), .int (f 1), .ref (E.2.2.1 1), .ref (E.2.2.1 2), .ref (E.2.2.1 3), .ref (E.2.2.1 4), .ref (E.2.2.1 5), .ref (E.2.2.1 6), .ref (E.2.2.1 7), .ref (E.2.2.1 8), .int (f 10), .ref (E.2.2.1 9), .ref (E.2.2.1 10), .ref (E.2.2.1 11), .ref (E.2.2.1 12), .ref (E.2.2.1 13), .ref (E.2.2.1 14), .int (f 17), .ref (E.2.2.1 15), .int (f 19), .ref (E.2.2.1 16), .ref (E.2.2.1 17), .ref (E.2.2.1 18), .ref (E.2.2.1 19), .ref (E.2.2.1 20), .ref (E.2.2.1 21), .ref (E.2.2.1 22), .ref (E.2.2.1 23), .ref (E.2.2.1 24), .ref (E.2.2.1 25), .ref (E.2.2.1 26), .ref (E.2.2.1 27), .ref (E.2.2.1 28), .int (f 33), .int (f 34), .ref (E.2.2.1 29), .ref (E.2.2.1 30), .ref (E.2.2.1 31), .int (f 38), .int (f 39), .ref (E.2.2.1 32)]) X q hd hq hF (Nat.le_of_ble_eq_true rfl) (fun _ => rfl) (fun _ _ => rfl) (Nat.le_of_ble_eq_true rfl) kk
theorem gY_0_11 (X : Cx K own cc nL ret E A d) {ix : Nat} (q : Nat) (hd : decode cc pc = .ok (.getfield ix, 3)) (hq : pc + 3 = q) (hF : FL own ix 9 11) (kk : GW K nL E (wdY E) A q lo (.ref (E.2.2.1 9) :: st) h) : GW K nL E (wdY E) A pc lo (.ref (E.2.2.1 0) :: st) h := P_get (wd := wdY E) (k := 0) X q hd hq hF (Nat.le_of_ble_eq_true rfl) rfl rfl kk
theorem gY_0_12 (X : Cx K own cc nL ret E A d) {ix : Nat} (q : Nat) (hd : decode cc pc = .ok (.getfield ix, 3)) (hq : pc + 3 = q) (hF : FL own ix 9 12) (kk : GW K nL E (wdY E) A q lo (.ref (E.2.2.1 10) :: st) h) : GW K nL E (wdY E) A pc lo (.ref (E.2.2.1 0) :: st) h := P_get (wd := wdY E) (k := 0) X q hd hq hF (Nat.le_of_ble_eq_true rfl) rfl rfl kk
theorem gY_0_13 (X : Cx K own cc nL ret E A d) {ix : Nat} (q : Nat) (hd : decode cc pc = .ok (.getfield ix, 3)) (hq : pc + 3 = q) (hF : FL own ix 9 13) (kk : GW K nL E (wdY E) A q lo (.ref (E.2.2.1 11) :: st) h) : GW K nL E (wdY E) A pc lo (.ref (E.2.2.1 0) :: st) h := P_get (wd := wdY E) (k := 0) X q hd hq hF (Nat.le_of_ble_eq_true rfl) rfl rfl kk
theorem gY_0_14 (X : Cx K own cc nL ret E A d) {ix : Nat} (q : Nat) (hd : decode cc pc = .ok (.getfield ix, 3)) (hq : pc + 3 = q) (hF : FL own ix 9 14) (kk : GW K nL E (wdY E) A q lo (.ref (E.2.2.1 12) :: st) h) : GW K nL E (wdY E) A pc lo (.ref (E.2.2.1 0) :: st) h := P_get (wd := wdY E) (k := 0) X q hd hq hF (Nat.le_of_ble_eq_true rfl) rfl rfl kk
theorem gY_0_15 (X : Cx K own cc nL ret E A d) {ix : Nat} (q : Nat) (hd : decode cc pc = .ok (.getfield ix, 3)) (hq : pc + 3 = q) (hF : FL own ix 9 15) (kk : GW K nL E (wdY E) A q lo (.ref (E.2.2.1 13) :: st) h) : GW K nL E (wdY E) A pc lo (.ref (E.2.2.1 0) :: st) h := P_get (wd := wdY E) (k := 0) X q hd hq hF (Nat.le_of_ble_eq_true rfl) rfl rfl kk
theorem gY_0_16 (X : Cx K own cc nL ret E A d) {ix : Nat} (q : Nat) (hd : decode cc pc = .ok (.getfield ix, 3)) (hq : pc + 3 = q) (hF : FL own ix 9 16) (kk : GW K nL E (wdY E) A q lo (.ref (E.2.2.1 14) :: st) h) : GW K nL E (wdY E) A pc lo (.ref (E.2.2.1 0) :: st) h := P_get (wd := wdY E) (k := 0) X q hd hq hF (Nat.le_of_ble_eq_true rfl) rfl rfl kk
theorem gY_0_17 (X : Cx K own cc nL ret E A d) {ix : Nat} (q : Nat) (hd : decode cc pc = .ok (.getfield ix, 3)) (hq : pc + 3 = q) (hF : FL own ix 9 17) (kk : GW K nL E (wdY E) A q lo (.int (h 0 17) :: st) h) : GW K nL E (wdY E) A pc lo (.ref (E.2.2.1 0) :: st) h := P_get (wd := wdY E) (k := 0) X q hd hq hF (Nat.le_of_ble_eq_true rfl) rfl rfl kk
theorem pY_0_17 (X : Cx K own cc nL ret E A d) {ix : Nat} {x : Int32} (q : Nat) (hd : decode cc pc = .ok (.putfield ix, 3)) (hq : pc + 3 = q) (hF : FW own ix 9 17) (kk : GW K nL E (wdY E) A q lo st (put h 0 17 x)) : GW K nL E (wdY E) A pc lo (.int x :: .ref (E.2.2.1 0) :: st) h := P_put (wd := wdY E) (k := 0) (fs := fun f => [.int (f 0), .int (f 1), .ref (E.2.2.1 1), .ref (E.2.2.1 2), .ref (E.2.2.1 3), .ref (E.2.2.1 4), .ref (E.2.2.1 5), .ref (E.2.2.1 6), .ref (E.2.2.1 7), .ref (E.2.2.1 8), .int (f 10), .ref (E.2.2.1 9), .ref (E.2.2.1 10), .ref (E.2.2.1 11), .ref (E.2.2.1 12), .ref (E.2.2.1 13), .ref (E.2.2.1 14), .int (f 17), .ref (E.2.2.1 15), .int (f 19), .ref (E.2.2.1 16), .ref (E.2.2.1 17), .ref (E.2.2.1 18), .ref (E.2.2.1 19), .ref (E.2.2.1 20), .ref (E.2.2.1 21), .ref (E.2.2.1 22), .ref (E.2.2.1 23), .ref (E.2.2.1 24), .ref (E.2.2.1 25), .ref (E.2.2.1 26), .ref (E.2.2.1 27), .ref (E.2.2.1 28), .int (f 33), .int (f 34), .ref (E.2.2.1 29), .ref (E.2.2.1 30), .ref (E.2.2.1 31), .int (f 38), .int (f 39), .ref (E.2.2.1 32)]) X q hd hq hF (Nat.le_of_ble_eq_true rfl) (fun _ => rfl) (fun _ _ => rfl) (Nat.le_of_ble_eq_true rfl) kk
theorem gY_0_18 (X : Cx K own cc nL ret E A d) {ix : Nat} (q : Nat) (hd : decode cc pc = .ok (.getfield ix, 3)) (hq : pc + 3 = q) (hF : FL own ix 9 18) (kk : GW K nL E (wdY E) A q lo (.ref (E.2.2.1 15) :: st) h) : GW K nL E (wdY E) A pc lo (.ref (E.2.2.1 0) :: st) h := P_get (wd := wdY E) (k := 0) X q hd hq hF (Nat.le_of_ble_eq_true rfl) rfl rfl kk
theorem gY_0_19 (X : Cx K own cc nL ret E A d) {ix : Nat} (q : Nat) (hd : decode cc pc = .ok (.getfield ix, 3)) (hq : pc + 3 = q) (hF : FL own ix 9 19) (kk : GW K nL E (wdY E) A q lo (.int (h 0 19) :: st) h) : GW K nL E (wdY E) A pc lo (.ref (E.2.2.1 0) :: st) h := P_get (wd := wdY E) (k := 0) X q hd hq hF (Nat.le_of_ble_eq_true rfl) rfl rfl kk
theorem pY_0_19 (X : Cx K own cc nL ret E A d) {ix : Nat} {x : Int32} (q : Nat) (hd : decode cc pc = .ok (.putfield ix, 3)) (hq : pc + 3 = q) (hF : FW own ix 9 19) (kk : GW K nL E (wdY E) A q lo st (put h 0 19 x)) : GW K nL E (wdY E) A pc lo (.int x :: .ref (E.2.2.1 0) :: st) h := P_put (wd := wdY E) (k := 0) (fs := fun f => [.int (f 0), .int (f 1), .ref (E.2.2.1 1), .ref (E.2.2.1 2), .ref (E.2.2.1 3), .ref (E.2.2.1 4), .ref (E.2.2.1 5), .ref (E.2.2.1 6), .ref (E.2.2.1 7), .ref (E.2.2.1 8), .int (f 10), .ref (E.2.2.1 9), .ref (E.2.2.1 10), .ref (E.2.2.1 11), .ref (E.2.2.1 12), .ref (E.2.2.1 13), .ref (E.2.2.1 14), .int (f 17), .ref (E.2.2.1 15), .int (f 19), .ref (E.2.2.1 16), .ref (E.2.2.1 17), .ref (E.2.2.1 18), .ref (E.2.2.1 19), .ref (E.2.2.1 20), .ref (E.2.2.1 21), .ref (E.2.2.1 22), .ref (E.2.2.1 23), .ref (E.2.2.1 24), .ref (E.2.2.1 25), .ref (E.2.2.1 26), .ref (E.2.2.1 27), .ref (E.2.2.1 28), .int (f 33), .int (f 34), .ref (E.2.2.1 29), .ref (E.2.2.1 30), .ref (E.2.2.1 31), .int (f 38), .int (f 39), .ref (E.2.2.1 32)]) X q hd hq hF (Nat.le_of_ble_eq_true rfl) (fun _ => rfl) (fun _ _ => rfl) (Nat.le_of_ble_eq_true rfl) kk
theorem gY_0_20 (X : Cx K own cc nL ret E A d) {ix : Nat} (q : Nat) (hd : decode cc pc = .ok (.getfield ix, 3)) (hq : pc + 3 = q) (hF : FL own ix 9 20) (kk : GW K nL E (wdY E) A q lo (.ref (E.2.2.1 16) :: st) h) : GW K nL E (wdY E) A pc lo (.ref (E.2.2.1 0) :: st) h := P_get (wd := wdY E) (k := 0) X q hd hq hF (Nat.le_of_ble_eq_true rfl) rfl rfl kk
theorem gY_0_21 (X : Cx K own cc nL ret E A d) {ix : Nat} (q : Nat) (hd : decode cc pc = .ok (.getfield ix, 3)) (hq : pc + 3 = q) (hF : FL own ix 9 21) (kk : GW K nL E (wdY E) A q lo (.ref (E.2.2.1 17) :: st) h) : GW K nL E (wdY E) A pc lo (.ref (E.2.2.1 0) :: st) h := P_get (wd := wdY E) (k := 0) X q hd hq hF (Nat.le_of_ble_eq_true rfl) rfl rfl kk
theorem gY_0_22 (X : Cx K own cc nL ret E A d) {ix : Nat} (q : Nat) (hd : decode cc pc = .ok (.getfield ix, 3)) (hq : pc + 3 = q) (hF : FL own ix 9 22) (kk : GW K nL E (wdY E) A q lo (.ref (E.2.2.1 18) :: st) h) : GW K nL E (wdY E) A pc lo (.ref (E.2.2.1 0) :: st) h := P_get (wd := wdY E) (k := 0) X q hd hq hF (Nat.le_of_ble_eq_true rfl) rfl rfl kk
theorem gY_0_23 (X : Cx K own cc nL ret E A d) {ix : Nat} (q : Nat) (hd : decode cc pc = .ok (.getfield ix, 3)) (hq : pc + 3 = q) (hF : FL own ix 9 23) (kk : GW K nL E (wdY E) A q lo (.ref (E.2.2.1 19) :: st) h) : GW K nL E (wdY E) A pc lo (.ref (E.2.2.1 0) :: st) h := P_get (wd := wdY E) (k := 0) X q hd hq hF (Nat.le_of_ble_eq_true rfl) rfl rfl kk
theorem gY_0_24 (X : Cx K own cc nL ret E A d) {ix : Nat} (q : Nat) (hd : decode cc pc = .ok (.getfield ix, 3)) (hq : pc + 3 = q) (hF : FL own ix 9 24) (kk : GW K nL E (wdY E) A q lo (.ref (E.2.2.1 20) :: st) h) : GW K nL E (wdY E) A pc lo (.ref (E.2.2.1 0) :: st) h := P_get (wd := wdY E) (k := 0) X q hd hq hF (Nat.le_of_ble_eq_true rfl) rfl rfl kk
theorem gY_0_25 (X : Cx K own cc nL ret E A d) {ix : Nat} (q : Nat) (hd : decode cc pc = .ok (.getfield ix, 3)) (hq : pc + 3 = q) (hF : FL own ix 9 25) (kk : GW K nL E (wdY E) A q lo (.ref (E.2.2.1 21) :: st) h) : GW K nL E (wdY E) A pc lo (.ref (E.2.2.1 0) :: st) h := P_get (wd := wdY E) (k := 0) X q hd hq hF (Nat.le_of_ble_eq_true rfl) rfl rfl kk
theorem gY_0_26 (X : Cx K own cc nL ret E A d) {ix : Nat} (q : Nat) (hd : decode cc pc = .ok (.getfield ix, 3)) (hq : pc + 3 = q) (hF : FL own ix 9 26) (kk : GW K nL E (wdY E) A q lo (.ref (E.2.2.1 22) :: st) h) : GW K nL E (wdY E) A pc lo (.ref (E.2.2.1 0) :: st) h := P_get (wd := wdY E) (k := 0) X q hd hq hF (Nat.le_of_ble_eq_true rfl) rfl rfl kk
theorem gY_0_27 (X : Cx K own cc nL ret E A d) {ix : Nat} (q : Nat) (hd : decode cc pc = .ok (.getfield ix, 3)) (hq : pc + 3 = q) (hF : FL own ix 9 27) (kk : GW K nL E (wdY E) A q lo (.ref (E.2.2.1 23) :: st) h) : GW K nL E (wdY E) A pc lo (.ref (E.2.2.1 0) :: st) h := P_get (wd := wdY E) (k := 0) X q hd hq hF (Nat.le_of_ble_eq_true rfl) rfl rfl kk
theorem gY_0_28 (X : Cx K own cc nL ret E A d) {ix : Nat} (q : Nat) (hd : decode cc pc = .ok (.getfield ix, 3)) (hq : pc + 3 = q) (hF : FL own ix 9 28) (kk : GW K nL E (wdY E) A q lo (.ref (E.2.2.1 24) :: st) h) : GW K nL E (wdY E) A pc lo (.ref (E.2.2.1 0) :: st) h := P_get (wd := wdY E) (k := 0) X q hd hq hF (Nat.le_of_ble_eq_true rfl) rfl rfl kk
theorem gY_0_29 (X : Cx K own cc nL ret E A d) {ix : Nat} (q : Nat) (hd : decode cc pc = .ok (.getfield ix, 3)) (hq : pc + 3 = q) (hF : FL own ix 9 29) (kk : GW K nL E (wdY E) A q lo (.ref (E.2.2.1 25) :: st) h) : GW K nL E (wdY E) A pc lo (.ref (E.2.2.1 0) :: st) h := P_get (wd := wdY E) (k := 0) X q hd hq hF (Nat.le_of_ble_eq_true rfl) rfl rfl kk
theorem gY_0_30 (X : Cx K own cc nL ret E A d) {ix : Nat} (q : Nat) (hd : decode cc pc = .ok (.getfield ix, 3)) (hq : pc + 3 = q) (hF : FL own ix 9 30) (kk : GW K nL E (wdY E) A q lo (.ref (E.2.2.1 26) :: st) h) : GW K nL E (wdY E) A pc lo (.ref (E.2.2.1 0) :: st) h := P_get (wd := wdY E) (k := 0) X q hd hq hF (Nat.le_of_ble_eq_true rfl) rfl rfl kk
theorem gY_0_31 (X : Cx K own cc nL ret E A d) {ix : Nat} (q : Nat) (hd : decode cc pc = .ok (.getfield ix, 3)) (hq : pc + 3 = q) (hF : FL own ix 9 31) (kk : GW K nL E (wdY E) A q lo (.ref (E.2.2.1 27) :: st) h) : GW K nL E (wdY E) A pc lo (.ref (E.2.2.1 0) :: st) h := P_get (wd := wdY E) (k := 0) X q hd hq hF (Nat.le_of_ble_eq_true rfl) rfl rfl kk
theorem gY_0_32 (X : Cx K own cc nL ret E A d) {ix : Nat} (q : Nat) (hd : decode cc pc = .ok (.getfield ix, 3)) (hq : pc + 3 = q) (hF : FL own ix 9 32) (kk : GW K nL E (wdY E) A q lo (.ref (E.2.2.1 28) :: st) h) : GW K nL E (wdY E) A pc lo (.ref (E.2.2.1 0) :: st) h := P_get (wd := wdY E) (k := 0) X q hd hq hF (Nat.le_of_ble_eq_true rfl) rfl rfl kk
theorem gY_0_33 (X : Cx K own cc nL ret E A d) {ix : Nat} (q : Nat) (hd : decode cc pc = .ok (.getfield ix, 3)) (hq : pc + 3 = q) (hF : FL own ix 9 33) (kk : GW K nL E (wdY E) A q lo (.int (h 0 33) :: st) h) : GW K nL E (wdY E) A pc lo (.ref (E.2.2.1 0) :: st) h := P_get (wd := wdY E) (k := 0) X q hd hq hF (Nat.le_of_ble_eq_true rfl) rfl rfl kk
theorem pY_0_33 (X : Cx K own cc nL ret E A d) {ix : Nat} {x : Int32} (q : Nat) (hd : decode cc pc = .ok (.putfield ix, 3)) (hq : pc + 3 = q) (hF : FW own ix 9 33) (kk : GW K nL E (wdY E) A q lo st (put h 0 33 x)) : GW K nL E (wdY E) A pc lo (.int x :: .ref (E.2.2.1 0) :: st) h := P_put (wd := wdY E) (k := 0) (fs := fun f => [.int (f 0), .int (f 1), .ref (E.2.2.1 1), .ref (E.2.2.1 2), .ref (E.2.2.1 3), .ref (E.2.2.1 4), .ref (E.2.2.1 5), .ref (E.2.2.1 6), .ref (E.2.2.1 7), .ref (E.2.2.1 8), .int (f 10), .ref (E.2.2.1 9), .ref (E.2.2.1 10), .ref (E.2.2.1 11), .ref (E.2.2.1 12), .ref (E.2.2.1 13), .ref (E.2.2.1 14), .int (f 17), .ref (E.2.2.1 15), .int (f 19), .ref (E.2.2.1 16), .ref (E.2.2.1 17), .ref (E.2.2.1 18), .ref (E.2.2.1 19), .ref (E.2.2.1 20), .ref (E.2.2.1 21), .ref (E.2.2.1 22), .ref (E.2.2.1 23), .ref (E.2.2.1 24), .ref (E.2.2.1 25), .ref (E.2.2.1 26), .ref (E.2.2.1 27), .ref (E.2.2.1 28), .int (f 33), .int (f 34), .ref (E.2.2.1 29), .ref (E.2.2.1 30), .ref (E.2.2.1 31), .int (f 38), .int (f 39), .ref (E.2.2.1 32)]) X q hd hq hF (Nat.le_of_ble_eq_true rfl) (fun _ => rfl) (fun _ _ => rfl) (Nat.le_of_ble_eq_true rfl) kk
theorem gY_0_34 (X : Cx K own cc nL ret E A d) {ix : Nat} (q : Nat) (hd : decode cc pc = .ok (.getfield ix, 3)) (hq : pc + 3 = q) (hF : FL own ix 9 34) (kk : GW K nL E (wdY E) A q lo (.int (h 0 34) :: st) h) : GW K nL E (wdY E) A pc lo (.ref (E.2.2.1 0) :: st) h := P_get (wd := wdY E) (k := 0) X q hd hq hF (Nat.le_of_ble_eq_true rfl) rfl rfl kk
theorem pY_0_34 (X : Cx K own cc nL ret E A d) {ix : Nat} {x : Int32} (q : Nat) (hd : decode cc pc = .ok (.putfield ix, 3)) (hq : pc + 3 = q) (hF : FW own ix 9 34) (kk : GW K nL E (wdY E) A q lo st (put h 0 34 x)) : GW K nL E (wdY E) A pc lo (.int x :: .ref (E.2.2.1 0) :: st) h := P_put (wd := wdY E) (k := 0) (fs := fun f => [.int (f 0), .int (f 1), .ref (E.2.2.1 1), .ref (E.2.2.1 2), .ref (E.2.2.1 3), .ref (E.2.2.1 4), .ref (E.2.2.1 5), .ref (E.2.2.1 6), .ref (E.2.2.1 7), .ref (E.2.2.1 8), .int (f 10), .ref (E.2.2.1 9), .ref (E.2.2.1 10), .ref (E.2.2.1 11), .ref (E.2.2.1 12), .ref (E.2.2.1 13), .ref (E.2.2.1 14), .int (f 17), .ref (E.2.2.1 15), .int (f 19), .ref (E.2.2.1 16), .ref (E.2.2.1 17), .ref (E.2.2.1 18), .ref (E.2.2.1 19), .ref (E.2.2.1 20), .ref (E.2.2.1 21), .ref (E.2.2.1 22), .ref (E.2.2.1 23), .ref (E.2.2.1 24), .ref (E.2.2.1 25), .ref (E.2.2.1 26), .ref (E.2.2.1 27), .ref (E.2.2.1 28), .int (f 33), .int (f 34), .ref (E.2.2.1 29), .ref (E.2.2.1 30), .ref (E.2.2.1 31), .int (f 38), .int (f 39), .ref (E.2.2.1 32)]) X q hd hq hF (Nat.le_of_ble_eq_true rfl) (fun _ => rfl) (fun _ _ => rfl) (Nat.le_of_ble_eq_true rfl) kk
theorem gY_0_35 (X : Cx K own cc nL ret E A d) {ix : Nat} (q : Nat) (hd : decode cc pc = .ok (.getfield ix, 3)) (hq : pc + 3 = q) (hF : FL own ix 9 35) (kk : GW K nL E (wdY E) A q lo (.ref (E.2.2.1 29) :: st) h) : GW K nL E (wdY E) A pc lo (.ref (E.2.2.1 0) :: st) h := P_get (wd := wdY E) (k := 0) X q hd hq hF (Nat.le_of_ble_eq_true rfl) rfl rfl kk
theorem gY_0_36 (X : Cx K own cc nL ret E A d) {ix : Nat} (q : Nat) (hd : decode cc pc = .ok (.getfield ix, 3)) (hq : pc + 3 = q) (hF : FL own ix 9 36) (kk : GW K nL E (wdY E) A q lo (.ref (E.2.2.1 30) :: st) h) : GW K nL E (wdY E) A pc lo (.ref (E.2.2.1 0) :: st) h := P_get (wd := wdY E) (k := 0) X q hd hq hF (Nat.le_of_ble_eq_true rfl) rfl rfl kk
theorem gY_0_37 (X : Cx K own cc nL ret E A d) {ix : Nat} (q : Nat) (hd : decode cc pc = .ok (.getfield ix, 3)) (hq : pc + 3 = q) (hF : FL own ix 9 37) (kk : GW K nL E (wdY E) A q lo (.ref (E.2.2.1 31) :: st) h) : GW K nL E (wdY E) A pc lo (.ref (E.2.2.1 0) :: st) h := P_get (wd := wdY E) (k := 0) X q hd hq hF (Nat.le_of_ble_eq_true rfl) rfl rfl kk
theorem gY_0_38 (X : Cx K own cc nL ret E A d) {ix : Nat} (q : Nat) (hd : decode cc pc = .ok (.getfield ix, 3)) (hq : pc + 3 = q) (hF : FL own ix 9 38) (kk : GW K nL E (wdY E) A q lo (.int (h 0 38) :: st) h) : GW K nL E (wdY E) A pc lo (.ref (E.2.2.1 0) :: st) h := P_get (wd := wdY E) (k := 0) X q hd hq hF (Nat.le_of_ble_eq_true rfl) rfl rfl kk
theorem pY_0_38 (X : Cx K own cc nL ret E A d) {ix : Nat} {x : Int32} (q : Nat) (hd : decode cc pc = .ok (.putfield ix, 3)) (hq : pc + 3 = q) (hF : FW own ix 9 38) (kk : GW K nL E (wdY E) A q lo st (put h 0 38 x)) : GW K nL E (wdY E) A pc lo (.int x :: .ref (E.2.2.1 0) :: st) h := P_put (wd := wdY E) (k := 0) (fs := fun f => [.int (f 0), .int (f 1), .ref (E.2.2.1 1), .ref (E.2.2.1 2), .ref (E.2.2.1 3), .ref (E.2.2.1 4), .ref (E.2.2.1 5), .ref (E.2.2.1 6), .ref (E.2.2.1 7), .ref (E.2.2.1 8), .int (f 10), .ref (E.2.2.1 9), .ref (E.2.2.1 10), .ref (E.2.2.1 11), .ref (E.2.2.1 12), .ref (E.2.2.1 13), .ref (E.2.2.1 14), .int (f 17), .ref (E.2.2.1 15), .int (f 19), .ref (E.2.2.1 16), .ref (E.2.2.1 17), .ref (E.2.2.1 18), .ref (E.2.2.1 19), .ref (E.2.2.1 20), .ref (E.2.2.1 21), .ref (E.2.2.1 22), .ref (E.2.2.1 23), .ref (E.2.2.1 24), .ref (E.2.2.1 25), .ref (E.2.2.1 26), .ref (E.2.2.1 27), .ref (E.2.2.1 28), .int (f 33), .int (f 34), .ref (E.2.2.1 29), .ref (E.2.2.1 30), .ref (E.2.2.1 31), .int (f 38), .int (f 39), .ref (E.2.2.1 32)]) X q hd hq hF (Nat.le_of_ble_eq_true rfl) (fun _ => rfl) (fun _ _ => rfl) (Nat.le_of_ble_eq_true rfl) kk
theorem gY_0_39 (X : Cx K own cc nL ret E A d) {ix : Nat} (q : Nat) (hd : decode cc pc = .ok (.getfield ix, 3)) (hq : pc + 3 = q) (hF : FL own ix 9 39) (kk : GW K nL E (wdY E) A q lo (.int (h 0 39) :: st) h) : GW K nL E (wdY E) A pc lo (.ref (E.2.2.1 0) :: st) h := P_get (wd := wdY E) (k := 0) X q hd hq hF (Nat.le_of_ble_eq_true rfl) rfl rfl kk
theorem pY_0_39 (X : Cx K own cc nL ret E A d) {ix : Nat} {x : Int32} (q : Nat) (hd : decode cc pc = .ok (.putfield ix, 3)) (hq : pc + 3 = q) (hF : FW own ix 9 39) (kk : GW K nL E (wdY E) A q lo st (put h 0 39 x)) : GW K nL E (wdY E) A pc lo (.int x :: .ref (E.2.2.1 0) :: st) h := P_put (wd := wdY E) (k := 0) (fs := fun f => [.int (f 0), .int (f 1), .ref (E.2.2.1 1), .ref (E.2.2.1 2), .ref (E.2.2.1 3), .ref (E.2.2.1 4), .ref (E.2.2.1 5), .ref (E.2.2.1 6), .ref (E.2.2.1 7), .ref (E.2.2.1 8), .int (f 10), .ref (E.2.2.1 9), .ref (E.2.2.1 10), .ref (E.2.2.1 11), .ref (E.2.2.1 12), .ref (E.2.2.1 13), .ref (E.2.2.1 14), .int (f 17), .ref (E.2.2.1 15), .int (f 19), .ref (E.2.2.1 16), .ref (E.2.2.1 17), .ref (E.2.2.1 18), .ref (E.2.2.1 19), .ref (E.2.2.1 20), .ref (E.2.2.1 21), .ref (E.2.2.1 22), .ref (E.2.2.1 23), .ref (E.2.2.1 24), .ref (E.2.2.1 25), .ref (E.2.2.1 26), .ref (E.2.2.1 27), .ref (E.2.2.1 28), .int (f 33), .int (f 34), .ref (E.2.2.1 29), .ref (E.2.2.1 30), .ref (E.2.2.1 31), .int (f 38), .int (f 39), .ref (E.2.2.1 32)]) X q hd hq hF (Nat.le_of_ble_eq_true rfl) (fun _ => rfl) (fun _ _ => rfl) (Nat.le_of_ble_eq_true rfl) kk
theorem gY_0_40 (X : Cx K own cc nL ret E A d) {ix : Nat} (q : Nat) (hd : decode cc pc = .ok (.getfield ix, 3)) (hq : pc + 3 = q) (hF : FL own ix 9 40) (kk : GW K nL E (wdY E) A q lo (.ref (E.2.2.1 32) :: st) h) : GW K nL E (wdY E) A pc lo (.ref (E.2.2.1 0) :: st) h := P_get (wd := wdY E) (k := 0) X q hd hq hF (Nat.le_of_ble_eq_true rfl) rfl rfl kk
theorem lY_1 (X : Cx K own cc nL ret E A d) {j : Nat} {i : Int32} (q : Nat) (hd : decode cc pc = .ok (.iaload, 1)) (hq : pc + 1 = q) (hi : i = nI j) (hj : j < 40) (kk : GW K nL E (wdY E) A q lo (.int (h 1 j) :: st) h) : GW K nL E (wdY E) A pc lo (.int i :: .ref (E.2.2.1 1) :: st) h := P_iald (wd := wdY E) (k := 1) X q hd hq (Nat.le_of_ble_eq_true rfl) (fun _ => rfl) (by decide) hi hj kk
theorem sY_1 (X : Cx K own cc nL ret E A d) {j : Nat} {i x : Int32} (q : Nat) (hd : decode cc pc = .ok (.iastore, 1)) (hq : pc + 1 = q) (hi : i = nI j) (hj : j < 40) (kk : GW K nL E (wdY E) A q lo st (put h 1 j x)) : GW K nL E (wdY E) A pc lo (.int x :: .int i :: .ref (E.2.2.1 1) :: st) h := P_iast (wd := wdY E) (k := 1) X q hd hq (Nat.le_of_ble_eq_true rfl) (fun _ => rfl) (by decide) hi hj kk
theorem lY_2 (X : Cx K own cc nL ret E A d) {j : Nat} {i : Int32} (q : Nat) (hd : decode cc pc = .ok (.iaload, 1)) (hq : pc + 1 = q) (hi : i = nI j) (hj : j < 40) (kk : GW K nL E (wdY E) A q lo (.int (h 2 j) :: st) h) : GW K nL E (wdY E) A pc lo (.int i :: .ref (E.2.2.1 2) :: st) h := P_iald (wd := wdY E) (k := 2) X q hd hq (Nat.le_of_ble_eq_true rfl) (fun _ => rfl) (by decide) hi hj kk
theorem sY_2 (X : Cx K own cc nL ret E A d) {j : Nat} {i x : Int32} (q : Nat) (hd : decode cc pc = .ok (.iastore, 1)) (hq : pc + 1 = q) (hi : i = nI j) (hj : j < 40) (kk : GW K nL E (wdY E) A q lo st (put h 2 j x)) : GW K nL E (wdY E) A pc lo (.int x :: .int i :: .ref (E.2.2.1 2) :: st) h := P_iast (wd := wdY E) (k := 2) X q hd hq (Nat.le_of_ble_eq_true rfl) (fun _ => rfl) (by decide) hi hj kk
theorem lY_3 (X : Cx K own cc nL ret E A d) {j : Nat} {i : Int32} (q : Nat) (hd : decode cc pc = .ok (.iaload, 1)) (hq : pc + 1 = q) (hi : i = nI j) (hj : j < 40) (kk : GW K nL E (wdY E) A q lo (.int (h 3 j) :: st) h) : GW K nL E (wdY E) A pc lo (.int i :: .ref (E.2.2.1 3) :: st) h := P_iald (wd := wdY E) (k := 3) X q hd hq (Nat.le_of_ble_eq_true rfl) (fun _ => rfl) (by decide) hi hj kk
theorem sY_3 (X : Cx K own cc nL ret E A d) {j : Nat} {i x : Int32} (q : Nat) (hd : decode cc pc = .ok (.iastore, 1)) (hq : pc + 1 = q) (hi : i = nI j) (hj : j < 40) (kk : GW K nL E (wdY E) A q lo st (put h 3 j x)) : GW K nL E (wdY E) A pc lo (.int x :: .int i :: .ref (E.2.2.1 3) :: st) h := P_iast (wd := wdY E) (k := 3) X q hd hq (Nat.le_of_ble_eq_true rfl) (fun _ => rfl) (by decide) hi hj kk
theorem lY_4 (X : Cx K own cc nL ret E A d) {j : Nat} {i : Int32} (q : Nat) (hd : decode cc pc = .ok (.iaload, 1)) (hq : pc + 1 = q) (hi : i = nI j) (hj : j < 40) (kk : GW K nL E (wdY E) A q lo (.int (h 4 j) :: st) h) : GW K nL E (wdY E) A pc lo (.int i :: .ref (E.2.2.1 4) :: st) h := P_iald (wd := wdY E) (k := 4) X q hd hq (Nat.le_of_ble_eq_true rfl) (fun _ => rfl) (by decide) hi hj kk
theorem sY_4 (X : Cx K own cc nL ret E A d) {j : Nat} {i x : Int32} (q : Nat) (hd : decode cc pc = .ok (.iastore, 1)) (hq : pc + 1 = q) (hi : i = nI j) (hj : j < 40) (kk : GW K nL E (wdY E) A q lo st (put h 4 j x)) : GW K nL E (wdY E) A pc lo (.int x :: .int i :: .ref (E.2.2.1 4) :: st) h := P_iast (wd := wdY E) (k := 4) X q hd hq (Nat.le_of_ble_eq_true rfl) (fun _ => rfl) (by decide) hi hj kk
theorem lY_5 (X : Cx K own cc nL ret E A d) {j : Nat} {i : Int32} (q : Nat) (hd : decode cc pc = .ok (.iaload, 1)) (hq : pc + 1 = q) (hi : i = nI j) (hj : j < 40) (kk : GW K nL E (wdY E) A q lo (.int (h 5 j) :: st) h) : GW K nL E (wdY E) A pc lo (.int i :: .ref (E.2.2.1 5) :: st) h := P_iald (wd := wdY E) (k := 5) X q hd hq (Nat.le_of_ble_eq_true rfl) (fun _ => rfl) (by decide) hi hj kk
theorem sY_5 (X : Cx K own cc nL ret E A d) {j : Nat} {i x : Int32} (q : Nat) (hd : decode cc pc = .ok (.iastore, 1)) (hq : pc + 1 = q) (hi : i = nI j) (hj : j < 40) (kk : GW K nL E (wdY E) A q lo st (put h 5 j x)) : GW K nL E (wdY E) A pc lo (.int x :: .int i :: .ref (E.2.2.1 5) :: st) h := P_iast (wd := wdY E) (k := 5) X q hd hq (Nat.le_of_ble_eq_true rfl) (fun _ => rfl) (by decide) hi hj kk
theorem lY_6 (X : Cx K own cc nL ret E A d) {j : Nat} {i : Int32} (q : Nat) (hd : decode cc pc = .ok (.iaload, 1)) (hq : pc + 1 = q) (hi : i = nI j) (hj : j < 40) (kk : GW K nL E (wdY E) A q lo (.int (h 6 j) :: st) h) : GW K nL E (wdY E) A pc lo (.int i :: .ref (E.2.2.1 6) :: st) h := P_iald (wd := wdY E) (k := 6) X q hd hq (Nat.le_of_ble_eq_true rfl) (fun _ => rfl) (by decide) hi hj kk
theorem sY_6 (X : Cx K own cc nL ret E A d) {j : Nat} {i x : Int32} (q : Nat) (hd : decode cc pc = .ok (.iastore, 1)) (hq : pc + 1 = q) (hi : i = nI j) (hj : j < 40) (kk : GW K nL E (wdY E) A q lo st (put h 6 j x)) : GW K nL E (wdY E) A pc lo (.int x :: .int i :: .ref (E.2.2.1 6) :: st) h := P_iast (wd := wdY E) (k := 6) X q hd hq (Nat.le_of_ble_eq_true rfl) (fun _ => rfl) (by decide) hi hj kk
theorem lY_7 (X : Cx K own cc nL ret E A d) {j : Nat} {i : Int32} (q : Nat) (hd : decode cc pc = .ok (.iaload, 1)) (hq : pc + 1 = q) (hi : i = nI j) (hj : j < 5) (kk : GW K nL E (wdY E) A q lo (.int (h 7 j) :: st) h) : GW K nL E (wdY E) A pc lo (.int i :: .ref (E.2.2.1 7) :: st) h := P_iald (wd := wdY E) (k := 7) X q hd hq (Nat.le_of_ble_eq_true rfl) (fun _ => rfl) (by decide) hi hj kk
theorem sY_7 (X : Cx K own cc nL ret E A d) {j : Nat} {i x : Int32} (q : Nat) (hd : decode cc pc = .ok (.iastore, 1)) (hq : pc + 1 = q) (hi : i = nI j) (hj : j < 5) (kk : GW K nL E (wdY E) A q lo st (put h 7 j x)) : GW K nL E (wdY E) A pc lo (.int x :: .int i :: .ref (E.2.2.1 7) :: st) h := P_iast (wd := wdY E) (k := 7) X q hd hq (Nat.le_of_ble_eq_true rfl) (fun _ => rfl) (by decide) hi hj kk
theorem lY_8 (X : Cx K own cc nL ret E A d) {j : Nat} {i : Int32} (q : Nat) (hd : decode cc pc = .ok (.iaload, 1)) (hq : pc + 1 = q) (hi : i = nI j) (hj : j < 5) (kk : GW K nL E (wdY E) A q lo (.int (h 8 j) :: st) h) : GW K nL E (wdY E) A pc lo (.int i :: .ref (E.2.2.1 8) :: st) h := P_iald (wd := wdY E) (k := 8) X q hd hq (Nat.le_of_ble_eq_true rfl) (fun _ => rfl) (by decide) hi hj kk
theorem sY_8 (X : Cx K own cc nL ret E A d) {j : Nat} {i x : Int32} (q : Nat) (hd : decode cc pc = .ok (.iastore, 1)) (hq : pc + 1 = q) (hi : i = nI j) (hj : j < 5) (kk : GW K nL E (wdY E) A q lo st (put h 8 j x)) : GW K nL E (wdY E) A pc lo (.int x :: .int i :: .ref (E.2.2.1 8) :: st) h := P_iast (wd := wdY E) (k := 8) X q hd hq (Nat.le_of_ble_eq_true rfl) (fun _ => rfl) (by decide) hi hj kk
theorem lY_9 (X : Cx K own cc nL ret E A d) {j : Nat} {i : Int32} (q : Nat) (hd : decode cc pc = .ok (.iaload, 1)) (hq : pc + 1 = q) (hi : i = nI j) (hj : j < 40) (kk : GW K nL E (wdY E) A q lo (.int (h 9 j) :: st) h) : GW K nL E (wdY E) A pc lo (.int i :: .ref (E.2.2.1 9) :: st) h := P_iald (wd := wdY E) (k := 9) X q hd hq (Nat.le_of_ble_eq_true rfl) (fun _ => rfl) (by decide) hi hj kk
theorem sY_9 (X : Cx K own cc nL ret E A d) {j : Nat} {i x : Int32} (q : Nat) (hd : decode cc pc = .ok (.iastore, 1)) (hq : pc + 1 = q) (hi : i = nI j) (hj : j < 40) (kk : GW K nL E (wdY E) A q lo st (put h 9 j x)) : GW K nL E (wdY E) A pc lo (.int x :: .int i :: .ref (E.2.2.1 9) :: st) h := P_iast (wd := wdY E) (k := 9) X q hd hq (Nat.le_of_ble_eq_true rfl) (fun _ => rfl) (by decide) hi hj kk
theorem lY_10 (X : Cx K own cc nL ret E A d) {j : Nat} {i : Int32} (q : Nat) (hd : decode cc pc = .ok (.baload, 1)) (hq : pc + 1 = q) (hi : i = nI j) (hj : j < 40) (kk : GW K nL E (wdY E) A q lo (.int (h 10 j) :: st) h) : GW K nL E (wdY E) A pc lo (.int i :: .ref (E.2.2.1 10) :: st) h := P_zald (wd := wdY E) (k := 10) X q hd hq (Nat.le_of_ble_eq_true rfl) (fun _ => rfl) (by decide) hi hj kk
theorem sY_10 (X : Cx K own cc nL ret E A d) {j : Nat} {i x : Int32} (q : Nat) (hd : decode cc pc = .ok (.bastore, 1)) (hq : pc + 1 = q) (hi : i = nI j) (hj : j < 40) (h01 : x = 0 ∨ x = 1) (kk : GW K nL E (wdY E) A q lo st (put h 10 j x)) : GW K nL E (wdY E) A pc lo (.int x :: .int i :: .ref (E.2.2.1 10) :: st) h := P_zast (wd := wdY E) (k := 10) X q hd hq (Nat.le_of_ble_eq_true rfl) (fun _ => rfl) (by decide) hi hj h01 kk
theorem lY_11 (X : Cx K own cc nL ret E A d) {j : Nat} {i : Int32} (q : Nat) (hd : decode cc pc = .ok (.iaload, 1)) (hq : pc + 1 = q) (hi : i = nI j) (hj : j < 40) (kk : GW K nL E (wdY E) A q lo (.int (h 11 j) :: st) h) : GW K nL E (wdY E) A pc lo (.int i :: .ref (E.2.2.1 11) :: st) h := P_iald (wd := wdY E) (k := 11) X q hd hq (Nat.le_of_ble_eq_true rfl) (fun _ => rfl) (by decide) hi hj kk
theorem sY_11 (X : Cx K own cc nL ret E A d) {j : Nat} {i x : Int32} (q : Nat) (hd : decode cc pc = .ok (.iastore, 1)) (hq : pc + 1 = q) (hi : i = nI j) (hj : j < 40) (kk : GW K nL E (wdY E) A q lo st (put h 11 j x)) : GW K nL E (wdY E) A pc lo (.int x :: .int i :: .ref (E.2.2.1 11) :: st) h := P_iast (wd := wdY E) (k := 11) X q hd hq (Nat.le_of_ble_eq_true rfl) (fun _ => rfl) (by decide) hi hj kk
theorem lY_12 (X : Cx K own cc nL ret E A d) {j : Nat} {i : Int32} (q : Nat) (hd : decode cc pc = .ok (.iaload, 1)) (hq : pc + 1 = q) (hi : i = nI j) (hj : j < 40) (kk : GW K nL E (wdY E) A q lo (.int (h 12 j) :: st) h) : GW K nL E (wdY E) A pc lo (.int i :: .ref (E.2.2.1 12) :: st) h := P_iald (wd := wdY E) (k := 12) X q hd hq (Nat.le_of_ble_eq_true rfl) (fun _ => rfl) (by decide) hi hj kk
theorem sY_12 (X : Cx K own cc nL ret E A d) {j : Nat} {i x : Int32} (q : Nat) (hd : decode cc pc = .ok (.iastore, 1)) (hq : pc + 1 = q) (hi : i = nI j) (hj : j < 40) (kk : GW K nL E (wdY E) A q lo st (put h 12 j x)) : GW K nL E (wdY E) A pc lo (.int x :: .int i :: .ref (E.2.2.1 12) :: st) h := P_iast (wd := wdY E) (k := 12) X q hd hq (Nat.le_of_ble_eq_true rfl) (fun _ => rfl) (by decide) hi hj kk
theorem lY_13 (X : Cx K own cc nL ret E A d) {j : Nat} {i : Int32} (q : Nat) (hd : decode cc pc = .ok (.iaload, 1)) (hq : pc + 1 = q) (hi : i = nI j) (hj : j < 40) (kk : GW K nL E (wdY E) A q lo (.int (h 13 j) :: st) h) : GW K nL E (wdY E) A pc lo (.int i :: .ref (E.2.2.1 13) :: st) h := P_iald (wd := wdY E) (k := 13) X q hd hq (Nat.le_of_ble_eq_true rfl) (fun _ => rfl) (by decide) hi hj kk
theorem sY_13 (X : Cx K own cc nL ret E A d) {j : Nat} {i x : Int32} (q : Nat) (hd : decode cc pc = .ok (.iastore, 1)) (hq : pc + 1 = q) (hi : i = nI j) (hj : j < 40) (kk : GW K nL E (wdY E) A q lo st (put h 13 j x)) : GW K nL E (wdY E) A pc lo (.int x :: .int i :: .ref (E.2.2.1 13) :: st) h := P_iast (wd := wdY E) (k := 13) X q hd hq (Nat.le_of_ble_eq_true rfl) (fun _ => rfl) (by decide) hi hj kk
theorem lY_14 (X : Cx K own cc nL ret E A d) {j : Nat} {i : Int32} (q : Nat) (hd : decode cc pc = .ok (.baload, 1)) (hq : pc + 1 = q) (hi : i = nI j) (hj : j < 40) (kk : GW K nL E (wdY E) A q lo (.int (h 14 j) :: st) h) : GW K nL E (wdY E) A pc lo (.int i :: .ref (E.2.2.1 14) :: st) h := P_zald (wd := wdY E) (k := 14) X q hd hq (Nat.le_of_ble_eq_true rfl) (fun _ => rfl) (by decide) hi hj kk
theorem sY_14 (X : Cx K own cc nL ret E A d) {j : Nat} {i x : Int32} (q : Nat) (hd : decode cc pc = .ok (.bastore, 1)) (hq : pc + 1 = q) (hi : i = nI j) (hj : j < 40) (h01 : x = 0 ∨ x = 1) (kk : GW K nL E (wdY E) A q lo st (put h 14 j x)) : GW K nL E (wdY E) A pc lo (.int x :: .int i :: .ref (E.2.2.1 14) :: st) h := P_zast (wd := wdY E) (k := 14) X q hd hq (Nat.le_of_ble_eq_true rfl) (fun _ => rfl) (by decide) hi hj h01 kk
theorem lY_15 (X : Cx K own cc nL ret E A d) {j : Nat} {i : Int32} (q : Nat) (hd : decode cc pc = .ok (.iaload, 1)) (hq : pc + 1 = q) (hi : i = nI j) (hj : j < 80) (kk : GW K nL E (wdY E) A q lo (.int (h 15 j) :: st) h) : GW K nL E (wdY E) A pc lo (.int i :: .ref (E.2.2.1 15) :: st) h := P_iald (wd := wdY E) (k := 15) X q hd hq (Nat.le_of_ble_eq_true rfl) (fun _ => rfl) (by decide) hi hj kk
theorem sY_15 (X : Cx K own cc nL ret E A d) {j : Nat} {i x : Int32} (q : Nat) (hd : decode cc pc = .ok (.iastore, 1)) (hq : pc + 1 = q) (hi : i = nI j) (hj : j < 80) (kk : GW K nL E (wdY E) A q lo st (put h 15 j x)) : GW K nL E (wdY E) A pc lo (.int x :: .int i :: .ref (E.2.2.1 15) :: st) h := P_iast (wd := wdY E) (k := 15) X q hd hq (Nat.le_of_ble_eq_true rfl) (fun _ => rfl) (by decide) hi hj kk
theorem lY_16 (X : Cx K own cc nL ret E A d) {j : Nat} {i : Int32} (q : Nat) (hd : decode cc pc = .ok (.iaload, 1)) (hq : pc + 1 = q) (hi : i = nI j) (hj : j < 48) (kk : GW K nL E (wdY E) A q lo (.int (h 16 j) :: st) h) : GW K nL E (wdY E) A pc lo (.int i :: .ref (E.2.2.1 16) :: st) h := P_iald (wd := wdY E) (k := 16) X q hd hq (Nat.le_of_ble_eq_true rfl) (fun _ => rfl) (by decide) hi hj kk
theorem sY_16 (X : Cx K own cc nL ret E A d) {j : Nat} {i x : Int32} (q : Nat) (hd : decode cc pc = .ok (.iastore, 1)) (hq : pc + 1 = q) (hi : i = nI j) (hj : j < 48) (kk : GW K nL E (wdY E) A q lo st (put h 16 j x)) : GW K nL E (wdY E) A pc lo (.int x :: .int i :: .ref (E.2.2.1 16) :: st) h := P_iast (wd := wdY E) (k := 16) X q hd hq (Nat.le_of_ble_eq_true rfl) (fun _ => rfl) (by decide) hi hj kk
theorem lY_17 (X : Cx K own cc nL ret E A d) {j : Nat} {i : Int32} (q : Nat) (hd : decode cc pc = .ok (.iaload, 1)) (hq : pc + 1 = q) (hi : i = nI j) (hj : j < 5) (kk : GW K nL E (wdY E) A q lo (.int (h 17 j) :: st) h) : GW K nL E (wdY E) A pc lo (.int i :: .ref (E.2.2.1 17) :: st) h := P_iald (wd := wdY E) (k := 17) X q hd hq (Nat.le_of_ble_eq_true rfl) (fun _ => rfl) (by decide) hi hj kk
theorem sY_17 (X : Cx K own cc nL ret E A d) {j : Nat} {i x : Int32} (q : Nat) (hd : decode cc pc = .ok (.iastore, 1)) (hq : pc + 1 = q) (hi : i = nI j) (hj : j < 5) (kk : GW K nL E (wdY E) A q lo st (put h 17 j x)) : GW K nL E (wdY E) A pc lo (.int x :: .int i :: .ref (E.2.2.1 17) :: st) h := P_iast (wd := wdY E) (k := 17) X q hd hq (Nat.le_of_ble_eq_true rfl) (fun _ => rfl) (by decide) hi hj kk
theorem lY_18 (X : Cx K own cc nL ret E A d) {j : Nat} {i : Int32} (q : Nat) (hd : decode cc pc = .ok (.iaload, 1)) (hq : pc + 1 = q) (hi : i = nI j) (hj : j < 6) (kk : GW K nL E (wdY E) A q lo (.int (h 18 j) :: st) h) : GW K nL E (wdY E) A pc lo (.int i :: .ref (E.2.2.1 18) :: st) h := P_iald (wd := wdY E) (k := 18) X q hd hq (Nat.le_of_ble_eq_true rfl) (fun _ => rfl) (by decide) hi hj kk
theorem sY_18 (X : Cx K own cc nL ret E A d) {j : Nat} {i x : Int32} (q : Nat) (hd : decode cc pc = .ok (.iastore, 1)) (hq : pc + 1 = q) (hi : i = nI j) (hj : j < 6) (kk : GW K nL E (wdY E) A q lo st (put h 18 j x)) : GW K nL E (wdY E) A pc lo (.int x :: .int i :: .ref (E.2.2.1 18) :: st) h := P_iast (wd := wdY E) (k := 18) X q hd hq (Nat.le_of_ble_eq_true rfl) (fun _ => rfl) (by decide) hi hj kk
theorem lY_19 (X : Cx K own cc nL ret E A d) {j : Nat} {i : Int32} (q : Nat) (hd : decode cc pc = .ok (.iaload, 1)) (hq : pc + 1 = q) (hi : i = nI j) (hj : j < 6) (kk : GW K nL E (wdY E) A q lo (.int (h 19 j) :: st) h) : GW K nL E (wdY E) A pc lo (.int i :: .ref (E.2.2.1 19) :: st) h := P_iald (wd := wdY E) (k := 19) X q hd hq (Nat.le_of_ble_eq_true rfl) (fun _ => rfl) (by decide) hi hj kk
theorem sY_19 (X : Cx K own cc nL ret E A d) {j : Nat} {i x : Int32} (q : Nat) (hd : decode cc pc = .ok (.iastore, 1)) (hq : pc + 1 = q) (hi : i = nI j) (hj : j < 6) (kk : GW K nL E (wdY E) A q lo st (put h 19 j x)) : GW K nL E (wdY E) A pc lo (.int x :: .int i :: .ref (E.2.2.1 19) :: st) h := P_iast (wd := wdY E) (k := 19) X q hd hq (Nat.le_of_ble_eq_true rfl) (fun _ => rfl) (by decide) hi hj kk
theorem lY_20 (X : Cx K own cc nL ret E A d) {j : Nat} {i : Int32} (q : Nat) (hd : decode cc pc = .ok (.iaload, 1)) (hq : pc + 1 = q) (hi : i = nI j) (hj : j < 6) (kk : GW K nL E (wdY E) A q lo (.int (h 20 j) :: st) h) : GW K nL E (wdY E) A pc lo (.int i :: .ref (E.2.2.1 20) :: st) h := P_iald (wd := wdY E) (k := 20) X q hd hq (Nat.le_of_ble_eq_true rfl) (fun _ => rfl) (by decide) hi hj kk
theorem sY_20 (X : Cx K own cc nL ret E A d) {j : Nat} {i x : Int32} (q : Nat) (hd : decode cc pc = .ok (.iastore, 1)) (hq : pc + 1 = q) (hi : i = nI j) (hj : j < 6) (kk : GW K nL E (wdY E) A q lo st (put h 20 j x)) : GW K nL E (wdY E) A pc lo (.int x :: .int i :: .ref (E.2.2.1 20) :: st) h := P_iast (wd := wdY E) (k := 20) X q hd hq (Nat.le_of_ble_eq_true rfl) (fun _ => rfl) (by decide) hi hj kk
theorem lY_21 (X : Cx K own cc nL ret E A d) {j : Nat} {i : Int32} (q : Nat) (hd : decode cc pc = .ok (.iaload, 1)) (hq : pc + 1 = q) (hi : i = nI j) (hj : j < 4) (kk : GW K nL E (wdY E) A q lo (.int (h 21 j) :: st) h) : GW K nL E (wdY E) A pc lo (.int i :: .ref (E.2.2.1 21) :: st) h := P_iald (wd := wdY E) (k := 21) X q hd hq (Nat.le_of_ble_eq_true rfl) (fun _ => rfl) (by decide) hi hj kk
theorem sY_21 (X : Cx K own cc nL ret E A d) {j : Nat} {i x : Int32} (q : Nat) (hd : decode cc pc = .ok (.iastore, 1)) (hq : pc + 1 = q) (hi : i = nI j) (hj : j < 4) (kk : GW K nL E (wdY E) A q lo st (put h 21 j x)) : GW K nL E (wdY E) A pc lo (.int x :: .int i :: .ref (E.2.2.1 21) :: st) h := P_iast (wd := wdY E) (k := 21) X q hd hq (Nat.le_of_ble_eq_true rfl) (fun _ => rfl) (by decide) hi hj kk
theorem lY_22 (X : Cx K own cc nL ret E A d) {j : Nat} {i : Int32} (q : Nat) (hd : decode cc pc = .ok (.iaload, 1)) (hq : pc + 1 = q) (hi : i = nI j) (hj : j < 4) (kk : GW K nL E (wdY E) A q lo (.int (h 22 j) :: st) h) : GW K nL E (wdY E) A pc lo (.int i :: .ref (E.2.2.1 22) :: st) h := P_iald (wd := wdY E) (k := 22) X q hd hq (Nat.le_of_ble_eq_true rfl) (fun _ => rfl) (by decide) hi hj kk
theorem sY_22 (X : Cx K own cc nL ret E A d) {j : Nat} {i x : Int32} (q : Nat) (hd : decode cc pc = .ok (.iastore, 1)) (hq : pc + 1 = q) (hi : i = nI j) (hj : j < 4) (kk : GW K nL E (wdY E) A q lo st (put h 22 j x)) : GW K nL E (wdY E) A pc lo (.int x :: .int i :: .ref (E.2.2.1 22) :: st) h := P_iast (wd := wdY E) (k := 22) X q hd hq (Nat.le_of_ble_eq_true rfl) (fun _ => rfl) (by decide) hi hj kk
theorem lY_23 (X : Cx K own cc nL ret E A d) {j : Nat} {i : Int32} (q : Nat) (hd : decode cc pc = .ok (.iaload, 1)) (hq : pc + 1 = q) (hi : i = nI j) (hj : j < 4) (kk : GW K nL E (wdY E) A q lo (.int (h 23 j) :: st) h) : GW K nL E (wdY E) A pc lo (.int i :: .ref (E.2.2.1 23) :: st) h := P_iald (wd := wdY E) (k := 23) X q hd hq (Nat.le_of_ble_eq_true rfl) (fun _ => rfl) (by decide) hi hj kk
theorem sY_23 (X : Cx K own cc nL ret E A d) {j : Nat} {i x : Int32} (q : Nat) (hd : decode cc pc = .ok (.iastore, 1)) (hq : pc + 1 = q) (hi : i = nI j) (hj : j < 4) (kk : GW K nL E (wdY E) A q lo st (put h 23 j x)) : GW K nL E (wdY E) A pc lo (.int x :: .int i :: .ref (E.2.2.1 23) :: st) h := P_iast (wd := wdY E) (k := 23) X q hd hq (Nat.le_of_ble_eq_true rfl) (fun _ => rfl) (by decide) hi hj kk
theorem lY_24 (X : Cx K own cc nL ret E A d) {j : Nat} {i : Int32} (q : Nat) (hd : decode cc pc = .ok (.iaload, 1)) (hq : pc + 1 = q) (hi : i = nI j) (hj : j < 4) (kk : GW K nL E (wdY E) A q lo (.int (h 24 j) :: st) h) : GW K nL E (wdY E) A pc lo (.int i :: .ref (E.2.2.1 24) :: st) h := P_iald (wd := wdY E) (k := 24) X q hd hq (Nat.le_of_ble_eq_true rfl) (fun _ => rfl) (by decide) hi hj kk
theorem sY_24 (X : Cx K own cc nL ret E A d) {j : Nat} {i x : Int32} (q : Nat) (hd : decode cc pc = .ok (.iastore, 1)) (hq : pc + 1 = q) (hi : i = nI j) (hj : j < 4) (kk : GW K nL E (wdY E) A q lo st (put h 24 j x)) : GW K nL E (wdY E) A pc lo (.int x :: .int i :: .ref (E.2.2.1 24) :: st) h := P_iast (wd := wdY E) (k := 24) X q hd hq (Nat.le_of_ble_eq_true rfl) (fun _ => rfl) (by decide) hi hj kk
theorem lY_25 (X : Cx K own cc nL ret E A d) {j : Nat} {i : Int32} (q : Nat) (hd : decode cc pc = .ok (.iaload, 1)) (hq : pc + 1 = q) (hi : i = nI j) (hj : j < 48) (kk : GW K nL E (wdY E) A q lo (.int (h 25 j) :: st) h) : GW K nL E (wdY E) A pc lo (.int i :: .ref (E.2.2.1 25) :: st) h := P_iald (wd := wdY E) (k := 25) X q hd hq (Nat.le_of_ble_eq_true rfl) (fun _ => rfl) (by decide) hi hj kk
theorem sY_25 (X : Cx K own cc nL ret E A d) {j : Nat} {i x : Int32} (q : Nat) (hd : decode cc pc = .ok (.iastore, 1)) (hq : pc + 1 = q) (hi : i = nI j) (hj : j < 48) (kk : GW K nL E (wdY E) A q lo st (put h 25 j x)) : GW K nL E (wdY E) A pc lo (.int x :: .int i :: .ref (E.2.2.1 25) :: st) h := P_iast (wd := wdY E) (k := 25) X q hd hq (Nat.le_of_ble_eq_true rfl) (fun _ => rfl) (by decide) hi hj kk
theorem lY_26 (X : Cx K own cc nL ret E A d) {j : Nat} {i : Int32} (q : Nat) (hd : decode cc pc = .ok (.baload, 1)) (hq : pc + 1 = q) (hi : i = nI j) (hj : j < 4096) (kk : GW K nL E (wdY E) A q lo (.int (h 26 j) :: st) h) : GW K nL E (wdY E) A pc lo (.int i :: .ref (E.2.2.1 26) :: st) h := P_zald (wd := wdY E) (k := 26) X q hd hq (Nat.le_of_ble_eq_true rfl) (fun _ => rfl) (by decide) hi hj kk
theorem sY_26 (X : Cx K own cc nL ret E A d) {j : Nat} {i x : Int32} (q : Nat) (hd : decode cc pc = .ok (.bastore, 1)) (hq : pc + 1 = q) (hi : i = nI j) (hj : j < 4096) (h01 : x = 0 ∨ x = 1) (kk : GW K nL E (wdY E) A q lo st (put h 26 j x)) : GW K nL E (wdY E) A pc lo (.int x :: .int i :: .ref (E.2.2.1 26) :: st) h := P_zast (wd := wdY E) (k := 26) X q hd hq (Nat.le_of_ble_eq_true rfl) (fun _ => rfl) (by decide) hi hj h01 kk
theorem lY_27 (X : Cx K own cc nL ret E A d) {j : Nat} {i : Int32} (q : Nat) (hd : decode cc pc = .ok (.iaload, 1)) (hq : pc + 1 = q) (hi : i = nI j) (hj : j < 4096) (kk : GW K nL E (wdY E) A q lo (.int (h 27 j) :: st) h) : GW K nL E (wdY E) A pc lo (.int i :: .ref (E.2.2.1 27) :: st) h := P_iald (wd := wdY E) (k := 27) X q hd hq (Nat.le_of_ble_eq_true rfl) (fun _ => rfl) (by decide) hi hj kk
theorem sY_27 (X : Cx K own cc nL ret E A d) {j : Nat} {i x : Int32} (q : Nat) (hd : decode cc pc = .ok (.iastore, 1)) (hq : pc + 1 = q) (hi : i = nI j) (hj : j < 4096) (kk : GW K nL E (wdY E) A q lo st (put h 27 j x)) : GW K nL E (wdY E) A pc lo (.int x :: .int i :: .ref (E.2.2.1 27) :: st) h := P_iast (wd := wdY E) (k := 27) X q hd hq (Nat.le_of_ble_eq_true rfl) (fun _ => rfl) (by decide) hi hj kk
theorem lY_28 (X : Cx K own cc nL ret E A d) {j : Nat} {i : Int32} (q : Nat) (hd : decode cc pc = .ok (.iaload, 1)) (hq : pc + 1 = q) (hi : i = nI j) (hj : j < 12) (kk : GW K nL E (wdY E) A q lo (.int (h 28 j) :: st) h) : GW K nL E (wdY E) A pc lo (.int i :: .ref (E.2.2.1 28) :: st) h := P_iald (wd := wdY E) (k := 28) X q hd hq (Nat.le_of_ble_eq_true rfl) (fun _ => rfl) (by decide) hi hj kk
theorem sY_28 (X : Cx K own cc nL ret E A d) {j : Nat} {i x : Int32} (q : Nat) (hd : decode cc pc = .ok (.iastore, 1)) (hq : pc + 1 = q) (hi : i = nI j) (hj : j < 12) (kk : GW K nL E (wdY E) A q lo st (put h 28 j x)) : GW K nL E (wdY E) A pc lo (.int x :: .int i :: .ref (E.2.2.1 28) :: st) h := P_iast (wd := wdY E) (k := 28) X q hd hq (Nat.le_of_ble_eq_true rfl) (fun _ => rfl) (by decide) hi hj kk
theorem lY_29 (X : Cx K own cc nL ret E A d) {j : Nat} {i : Int32} (q : Nat) (hd : decode cc pc = .ok (.iaload, 1)) (hq : pc + 1 = q) (hi : i = nI j) (hj : j < 6) (kk : GW K nL E (wdY E) A q lo (.int (h 29 j) :: st) h) : GW K nL E (wdY E) A pc lo (.int i :: .ref (E.2.2.1 29) :: st) h := P_iald (wd := wdY E) (k := 29) X q hd hq (Nat.le_of_ble_eq_true rfl) (fun _ => rfl) (by decide) hi hj kk
theorem sY_29 (X : Cx K own cc nL ret E A d) {j : Nat} {i x : Int32} (q : Nat) (hd : decode cc pc = .ok (.iastore, 1)) (hq : pc + 1 = q) (hi : i = nI j) (hj : j < 6) (kk : GW K nL E (wdY E) A q lo st (put h 29 j x)) : GW K nL E (wdY E) A pc lo (.int x :: .int i :: .ref (E.2.2.1 29) :: st) h := P_iast (wd := wdY E) (k := 29) X q hd hq (Nat.le_of_ble_eq_true rfl) (fun _ => rfl) (by decide) hi hj kk
theorem lY_30 (X : Cx K own cc nL ret E A d) {j : Nat} {i : Int32} (q : Nat) (hd : decode cc pc = .ok (.iaload, 1)) (hq : pc + 1 = q) (hi : i = nI j) (hj : j < 7) (kk : GW K nL E (wdY E) A q lo (.int (h 30 j) :: st) h) : GW K nL E (wdY E) A pc lo (.int i :: .ref (E.2.2.1 30) :: st) h := P_iald (wd := wdY E) (k := 30) X q hd hq (Nat.le_of_ble_eq_true rfl) (fun _ => rfl) (by decide) hi hj kk
theorem sY_30 (X : Cx K own cc nL ret E A d) {j : Nat} {i x : Int32} (q : Nat) (hd : decode cc pc = .ok (.iastore, 1)) (hq : pc + 1 = q) (hi : i = nI j) (hj : j < 7) (kk : GW K nL E (wdY E) A q lo st (put h 30 j x)) : GW K nL E (wdY E) A pc lo (.int x :: .int i :: .ref (E.2.2.1 30) :: st) h := P_iast (wd := wdY E) (k := 30) X q hd hq (Nat.le_of_ble_eq_true rfl) (fun _ => rfl) (by decide) hi hj kk
theorem lY_31 (X : Cx K own cc nL ret E A d) {j : Nat} {i : Int32} (q : Nat) (hd : decode cc pc = .ok (.iaload, 1)) (hq : pc + 1 = q) (hi : i = nI j) (hj : j < 6) (kk : GW K nL E (wdY E) A q lo (.int (h 31 j) :: st) h) : GW K nL E (wdY E) A pc lo (.int i :: .ref (E.2.2.1 31) :: st) h := P_iald (wd := wdY E) (k := 31) X q hd hq (Nat.le_of_ble_eq_true rfl) (fun _ => rfl) (by decide) hi hj kk
theorem sY_31 (X : Cx K own cc nL ret E A d) {j : Nat} {i x : Int32} (q : Nat) (hd : decode cc pc = .ok (.iastore, 1)) (hq : pc + 1 = q) (hi : i = nI j) (hj : j < 6) (kk : GW K nL E (wdY E) A q lo st (put h 31 j x)) : GW K nL E (wdY E) A pc lo (.int x :: .int i :: .ref (E.2.2.1 31) :: st) h := P_iast (wd := wdY E) (k := 31) X q hd hq (Nat.le_of_ble_eq_true rfl) (fun _ => rfl) (by decide) hi hj kk
theorem lY_32 (X : Cx K own cc nL ret E A d) {j : Nat} {i : Int32} (q : Nat) (hd : decode cc pc = .ok (.iaload, 1)) (hq : pc + 1 = q) (hi : i = nI j) (hj : j < 12) (kk : GW K nL E (wdY E) A q lo (.int (h 32 j) :: st) h) : GW K nL E (wdY E) A pc lo (.int i :: .ref (E.2.2.1 32) :: st) h := P_iald (wd := wdY E) (k := 32) X q hd hq (Nat.le_of_ble_eq_true rfl) (fun _ => rfl) (by decide) hi hj kk
theorem sY_32 (X : Cx K own cc nL ret E A d) {j : Nat} {i x : Int32} (q : Nat) (hd : decode cc pc = .ok (.iastore, 1)) (hq : pc + 1 = q) (hi : i = nI j) (hj : j < 12) (kk : GW K nL E (wdY E) A q lo st (put h 32 j x)) : GW K nL E (wdY E) A pc lo (.int x :: .int i :: .ref (E.2.2.1 32) :: st) h := P_iast (wd := wdY E) (k := 32) X q hd hq (Nat.le_of_ble_eq_true rfl) (fun _ => rfl) (by decide) hi hj kk
theorem cfX_S (E : Ev) {j : Nat} (hj : j < 4) (f : Nat → Int32) : cfX E (43 + j) f = .inr (4, [.ref (E.2.2.1 (47 + j)), .int (f 1), .int (f 2)]) := by
  rcases (show j = 0 ∨ j = 1 ∨ j = 2 ∨ j = 3 by omega) with rfl | rfl | rfl | rfl <;> rfl
theorem cfX_N (E : Ev) {j : Nat} (hj : j < 4) (f : Nat → Int32) : cfX E (47 + j) f = .inl (E.2.1 0, 12, .inl f) := by
  rcases (show j = 0 ∨ j = 1 ∨ j = 2 ∨ j = 3 by omega) with rfl | rfl | rfl | rfl <;> rfl
theorem gX_S_0 (X : Cx K own cc nL ret E A d) {ix j : Nat} (hj : j < 4) (q : Nat) (hd : decode cc pc = .ok (.getfield ix, 3)) (hq : pc + 3 = q) (hF : FL own ix 4 0) (kk : GW K nL E (wdX E) A q lo (.ref (E.2.2.1 (47 + j)) :: st) h) : GW K nL E (wdX E) A pc lo (.ref (E.2.2.1 (43 + j)) :: st) h := P_get (wd := wdX E) (k := 43 + j) X q hd hq hF (by show 43 + j < 51; omega) (cfX_S E hj _) rfl kk
theorem gX_S_1 (X : Cx K own cc nL ret E A d) {ix j : Nat} (hj : j < 4) (q : Nat) (hd : decode cc pc = .ok (.getfield ix, 3)) (hq : pc + 3 = q) (hF : FL own ix 4 1) (kk : GW K nL E (wdX E) A q lo (.int (h (43 + j) 1) :: st) h) : GW K nL E (wdX E) A pc lo (.ref (E.2.2.1 (43 + j)) :: st) h := P_get (wd := wdX E) (k := 43 + j) X q hd hq hF (by show 43 + j < 51; omega) (cfX_S E hj _) rfl kk
theorem pX_S_1 (X : Cx K own cc nL ret E A d) {ix j : Nat} {x : Int32} (hj : j < 4) (q : Nat) (hd : decode cc pc = .ok (.putfield ix, 3)) (hq : pc + 3 = q) (hF : FW own ix 4 1) (kk : GW K nL E (wdX E) A q lo st (put h (43 + j) 1 x)) : GW K nL E (wdX E) A pc lo (.int x :: .ref (E.2.2.1 (43 + j)) :: st) h := P_put (wd := wdX E) (k := 43 + j) (fs := fun f => [.ref (E.2.2.1 (47 + j)), .int (f 1), .int (f 2)]) X q hd hq hF (by show 43 + j < 51; omega) (fun f => cfX_S E hj f) (fun _ _ => rfl) (Nat.le_of_ble_eq_true rfl) kk
theorem gX_S_2 (X : Cx K own cc nL ret E A d) {ix j : Nat} (hj : j < 4) (q : Nat) (hd : decode cc pc = .ok (.getfield ix, 3)) (hq : pc + 3 = q) (hF : FL own ix 4 2) (kk : GW K nL E (wdX E) A q lo (.int (h (43 + j) 2) :: st) h) : GW K nL E (wdX E) A pc lo (.ref (E.2.2.1 (43 + j)) :: st) h := P_get (wd := wdX E) (k := 43 + j) X q hd hq hF (by show 43 + j < 51; omega) (cfX_S E hj _) rfl kk
theorem pX_S_2 (X : Cx K own cc nL ret E A d) {ix j : Nat} {x : Int32} (hj : j < 4) (q : Nat) (hd : decode cc pc = .ok (.putfield ix, 3)) (hq : pc + 3 = q) (hF : FW own ix 4 2) (kk : GW K nL E (wdX E) A q lo st (put h (43 + j) 2 x)) : GW K nL E (wdX E) A pc lo (.int x :: .ref (E.2.2.1 (43 + j)) :: st) h := P_put (wd := wdX E) (k := 43 + j) (fs := fun f => [.ref (E.2.2.1 (47 + j)), .int (f 1), .int (f 2)]) X q hd hq hF (by show 43 + j < 51; omega) (fun f => cfX_S E hj f) (fun _ _ => rfl) (Nat.le_of_ble_eq_true rfl) kk
theorem lX_N (X : Cx K own cc nL ret E A d) {j0 j : Nat} {i : Int32} (hj0 : j0 < 4) (q : Nat) (hd : decode cc pc = .ok (.iaload, 1)) (hq : pc + 1 = q) (hi : i = nI j) (hj : j < 12) (kk : GW K nL E (wdX E) A q lo (.int (h (47 + j0) j) :: st) h) : GW K nL E (wdX E) A pc lo (.int i :: .ref (E.2.2.1 (47 + j0)) :: st) h := P_iald (wd := wdX E) (k := 47 + j0) X q hd hq (by show 47 + j0 < 51; omega) (fun f => cfX_N E hj0 f) (by decide) hi hj kk
theorem sX_N (X : Cx K own cc nL ret E A d) {j0 j : Nat} {i x : Int32} (hj0 : j0 < 4) (q : Nat) (hd : decode cc pc = .ok (.iastore, 1)) (hq : pc + 1 = q) (hi : i = nI j) (hj : j < 12) (kk : GW K nL E (wdX E) A q lo st (put h (47 + j0) j x)) : GW K nL E (wdX E) A pc lo (.int x :: .int i :: .ref (E.2.2.1 (47 + j0)) :: st) h := P_iast (wd := wdX E) (k := 47 + j0) X q hd hq (by show 47 + j0 < 51; omega) (fun f => cfX_N E hj0 f) (by decide) hi hj kk
end PW
section PC
variable {K : Kx} {own : String} {cc : ByteArray} {nL : Nat} {ret : Option FieldType} {E : Ev} {wd : Wd} {A : Nat → Prop} {d : Nat} {pc : Nat} {lo : List (Option Value)} {st : List Value} {h : Hp}
theorem S0r (X : Cx K own cc nL ret E A d) {y : MethodName} {cc' : ByteArray} {nL' n ix : Nat} {ret' : Option FieldType} {r : Value} {h2 : Hp} (q : Nat) (hd : decode cc pc = .ok (.invokestatic ix, 3)) (hq : pc + 3 = q) (hL : LK own ix y) (hV : MS y cc' nL' ret' n) (hn : n = 0) (h1 : 1 ≤ d) (hcat : (st.map fun v => v.category).sum ≤ 8) (hM : Cl (d - 1) y cc' nL' ret' E wd [] h (Rt (some r) h2)) (kk : GW K nL E wd A q lo (r :: st) h2) : GW K nL E wd A pc lo (st) h := by
  subst hn
  exact P_callS (avs := []) (st := st) X q hd hq hL hV h1 hM rfl rfl hcat (fun _ _ z => by obtain ⟨rfl, rfl⟩ := z; exact kk)
theorem V0r (X : Cx K own cc nL ret E A d) {y : MethodName} {cc' : ByteArray} {nL' n ix ci N : Nat} {ret' : Option FieldType} {fs : List Value} {T : u_T} {r : Value} {h2 : Hp} (k : Nat) (q : Nat) (hd : decode cc pc = .ok (.invokevirtual ix, 3)) (hq : pc + 3 = q) (hL : LK own ix y) (hV : MV y cc' nL' ret' n) (hn : n = 0) (h1 : 1 ≤ d) (hcat : (st.map fun v => v.category).sum ≤ 8) (hk : k < wd.1) (hc : wd.2.2 k (h k) = .inr (ci, fs)) (hcl : vwCl[ci]? = some (y.cls, T, N)) (hM : Cl (d - 1) y cc' nL' ret' E wd (.ref (wd.2.1 k) :: []) h (Rt (some r) h2)) (kk : GW K nL E wd A q lo (r :: st) h2) : GW K nL E wd A pc lo (.ref (wd.2.1 k) :: st) h := by
  subst hn
  exact P_callV (avs := []) (st := st) (k := k) X q hd hq hL hV h1 hM rfl rfl hcat hk hc hcl (fun _ _ z => by obtain ⟨rfl, rfl⟩ := z; exact kk)
theorem S0v (X : Cx K own cc nL ret E A d) {y : MethodName} {cc' : ByteArray} {nL' n ix : Nat} {ret' : Option FieldType} {h2 : Hp} (q : Nat) (hd : decode cc pc = .ok (.invokestatic ix, 3)) (hq : pc + 3 = q) (hL : LK own ix y) (hV : MS y cc' nL' ret' n) (hn : n = 0) (h1 : 1 ≤ d) (hcat : (st.map fun v => v.category).sum ≤ 8) (hM : Cl (d - 1) y cc' nL' ret' E wd [] h (Rt none h2)) (kk : GW K nL E wd A q lo st h2) : GW K nL E wd A pc lo (st) h := by
  subst hn
  exact P_callS (avs := []) (st := st) X q hd hq hL hV h1 hM rfl rfl hcat (fun _ _ z => by obtain ⟨rfl, rfl⟩ := z; exact kk)
theorem V0v (X : Cx K own cc nL ret E A d) {y : MethodName} {cc' : ByteArray} {nL' n ix ci N : Nat} {ret' : Option FieldType} {fs : List Value} {T : u_T} {h2 : Hp} (k : Nat) (q : Nat) (hd : decode cc pc = .ok (.invokevirtual ix, 3)) (hq : pc + 3 = q) (hL : LK own ix y) (hV : MV y cc' nL' ret' n) (hn : n = 0) (h1 : 1 ≤ d) (hcat : (st.map fun v => v.category).sum ≤ 8) (hk : k < wd.1) (hc : wd.2.2 k (h k) = .inr (ci, fs)) (hcl : vwCl[ci]? = some (y.cls, T, N)) (hM : Cl (d - 1) y cc' nL' ret' E wd (.ref (wd.2.1 k) :: []) h (Rt none h2)) (kk : GW K nL E wd A q lo st h2) : GW K nL E wd A pc lo (.ref (wd.2.1 k) :: st) h := by
  subst hn
  exact P_callV (avs := []) (st := st) (k := k) X q hd hq hL hV h1 hM rfl rfl hcat hk hc hcl (fun _ _ z => by obtain ⟨rfl, rfl⟩ := z; exact kk)
theorem S0g (X : Cx K own cc nL ret E A d) {y : MethodName} {cc' : ByteArray} {nL' n ix : Nat} {ret' : Option FieldType} {post : Option Value → Hp → Prop} (q : Nat) (hd : decode cc pc = .ok (.invokestatic ix, 3)) (hq : pc + 3 = q) (hL : LK own ix y) (hV : MS y cc' nL' ret' n) (hn : n = 0) (h1 : 1 ≤ d) (hcat : (st.map fun v => v.category).sum ≤ 8) (hM : Cl (d - 1) y cc' nL' ret' E wd [] h post) (kk : ∀ r h', post r h' → GW K nL E wd A q lo (r.toList ++ st) h') : GW K nL E wd A pc lo (st) h := by
  subst hn
  exact P_callS (avs := []) (st := st) X q hd hq hL hV h1 hM rfl rfl hcat kk
theorem V0g (X : Cx K own cc nL ret E A d) {y : MethodName} {cc' : ByteArray} {nL' n ix ci N : Nat} {ret' : Option FieldType} {fs : List Value} {T : u_T} {post : Option Value → Hp → Prop} (k : Nat) (q : Nat) (hd : decode cc pc = .ok (.invokevirtual ix, 3)) (hq : pc + 3 = q) (hL : LK own ix y) (hV : MV y cc' nL' ret' n) (hn : n = 0) (h1 : 1 ≤ d) (hcat : (st.map fun v => v.category).sum ≤ 8) (hk : k < wd.1) (hc : wd.2.2 k (h k) = .inr (ci, fs)) (hcl : vwCl[ci]? = some (y.cls, T, N)) (hM : Cl (d - 1) y cc' nL' ret' E wd (.ref (wd.2.1 k) :: []) h post) (kk : ∀ r h', post r h' → GW K nL E wd A q lo (r.toList ++ st) h') : GW K nL E wd A pc lo (.ref (wd.2.1 k) :: st) h := by
  subst hn
  exact P_callV (avs := []) (st := st) (k := k) X q hd hq hL hV h1 hM rfl rfl hcat hk hc hcl kk
theorem S1r (X : Cx K own cc nL ret E A d) {y : MethodName} {cc' : ByteArray} {nL' n ix : Nat} {ret' : Option FieldType} {v1 : Value} {r : Value} {h2 : Hp} (q : Nat) (hd : decode cc pc = .ok (.invokestatic ix, 3)) (hq : pc + 3 = q) (hL : LK own ix y) (hV : MS y cc' nL' ret' n) (hn : n = 1) (h1 : 1 ≤ d) (hcat : (st.map fun v => v.category).sum ≤ 8) (hM : Cl (d - 1) y cc' nL' ret' E wd [v1] h (Rt (some r) h2)) (kk : GW K nL E wd A q lo (r :: st) h2) : GW K nL E wd A pc lo (v1 :: st) h := by
  subst hn
  exact P_callS (avs := [v1]) (st := st) X q hd hq hL hV h1 hM rfl rfl hcat (fun _ _ z => by obtain ⟨rfl, rfl⟩ := z; exact kk)
theorem V1r (X : Cx K own cc nL ret E A d) {y : MethodName} {cc' : ByteArray} {nL' n ix ci N : Nat} {ret' : Option FieldType} {fs : List Value} {T : u_T} {v1 : Value} {r : Value} {h2 : Hp} (k : Nat) (q : Nat) (hd : decode cc pc = .ok (.invokevirtual ix, 3)) (hq : pc + 3 = q) (hL : LK own ix y) (hV : MV y cc' nL' ret' n) (hn : n = 1) (h1 : 1 ≤ d) (hcat : (st.map fun v => v.category).sum ≤ 8) (hk : k < wd.1) (hc : wd.2.2 k (h k) = .inr (ci, fs)) (hcl : vwCl[ci]? = some (y.cls, T, N)) (hM : Cl (d - 1) y cc' nL' ret' E wd (.ref (wd.2.1 k) :: [v1]) h (Rt (some r) h2)) (kk : GW K nL E wd A q lo (r :: st) h2) : GW K nL E wd A pc lo (v1 :: .ref (wd.2.1 k) :: st) h := by
  subst hn
  exact P_callV (avs := [v1]) (st := st) (k := k) X q hd hq hL hV h1 hM rfl rfl hcat hk hc hcl (fun _ _ z => by obtain ⟨rfl, rfl⟩ := z; exact kk)
theorem S1v (X : Cx K own cc nL ret E A d) {y : MethodName} {cc' : ByteArray} {nL' n ix : Nat} {ret' : Option FieldType} {v1 : Value} {h2 : Hp} (q : Nat) (hd : decode cc pc = .ok (.invokestatic ix, 3)) (hq : pc + 3 = q) (hL : LK own ix y) (hV : MS y cc' nL' ret' n) (hn : n = 1) (h1 : 1 ≤ d) (hcat : (st.map fun v => v.category).sum ≤ 8) (hM : Cl (d - 1) y cc' nL' ret' E wd [v1] h (Rt none h2)) (kk : GW K nL E wd A q lo st h2) : GW K nL E wd A pc lo (v1 :: st) h := by
  subst hn
  exact P_callS (avs := [v1]) (st := st) X q hd hq hL hV h1 hM rfl rfl hcat (fun _ _ z => by obtain ⟨rfl, rfl⟩ := z; exact kk)
theorem V1v (X : Cx K own cc nL ret E A d) {y : MethodName} {cc' : ByteArray} {nL' n ix ci N : Nat} {ret' : Option FieldType} {fs : List Value} {T : u_T} {v1 : Value} {h2 : Hp} (k : Nat) (q : Nat) (hd : decode cc pc = .ok (.invokevirtual ix, 3)) (hq : pc + 3 = q) (hL : LK own ix y) (hV : MV y cc' nL' ret' n) (hn : n = 1) (h1 : 1 ≤ d) (hcat : (st.map fun v => v.category).sum ≤ 8) (hk : k < wd.1) (hc : wd.2.2 k (h k) = .inr (ci, fs)) (hcl : vwCl[ci]? = some (y.cls, T, N)) (hM : Cl (d - 1) y cc' nL' ret' E wd (.ref (wd.2.1 k) :: [v1]) h (Rt none h2)) (kk : GW K nL E wd A q lo st h2) : GW K nL E wd A pc lo (v1 :: .ref (wd.2.1 k) :: st) h := by
  subst hn
  exact P_callV (avs := [v1]) (st := st) (k := k) X q hd hq hL hV h1 hM rfl rfl hcat hk hc hcl (fun _ _ z => by obtain ⟨rfl, rfl⟩ := z; exact kk)
theorem S1g (X : Cx K own cc nL ret E A d) {y : MethodName} {cc' : ByteArray} {nL' n ix : Nat} {ret' : Option FieldType} {v1 : Value} {post : Option Value → Hp → Prop} (q : Nat) (hd : decode cc pc = .ok (.invokestatic ix, 3)) (hq : pc + 3 = q) (hL : LK own ix y) (hV : MS y cc' nL' ret' n) (hn : n = 1) (h1 : 1 ≤ d) (hcat : (st.map fun v => v.category).sum ≤ 8) (hM : Cl (d - 1) y cc' nL' ret' E wd [v1] h post) (kk : ∀ r h', post r h' → GW K nL E wd A q lo (r.toList ++ st) h') : GW K nL E wd A pc lo (v1 :: st) h := by
  subst hn
  exact P_callS (avs := [v1]) (st := st) X q hd hq hL hV h1 hM rfl rfl hcat kk
theorem V1g (X : Cx K own cc nL ret E A d) {y : MethodName} {cc' : ByteArray} {nL' n ix ci N : Nat} {ret' : Option FieldType} {fs : List Value} {T : u_T} {v1 : Value} {post : Option Value → Hp → Prop} (k : Nat) (q : Nat) (hd : decode cc pc = .ok (.invokevirtual ix, 3)) (hq : pc + 3 = q) (hL : LK own ix y) (hV : MV y cc' nL' ret' n) (hn : n = 1) (h1 : 1 ≤ d) (hcat : (st.map fun v => v.category).sum ≤ 8) (hk : k < wd.1) (hc : wd.2.2 k (h k) = .inr (ci, fs)) (hcl : vwCl[ci]? = some (y.cls, T, N)) (hM : Cl (d - 1) y cc' nL' ret' E wd (.ref (wd.2.1 k) :: [v1]) h post) (kk : ∀ r h', post r h' → GW K nL E wd A q lo (r.toList ++ st) h') : GW K nL E wd A pc lo (v1 :: .ref (wd.2.1 k) :: st) h := by
  subst hn
  exact P_callV (avs := [v1]) (st := st) (k := k) X q hd hq hL hV h1 hM rfl rfl hcat hk hc hcl kk
theorem S2r (X : Cx K own cc nL ret E A d) {y : MethodName} {cc' : ByteArray} {nL' n ix : Nat} {ret' : Option FieldType} {v1 v2 : Value} {r : Value} {h2 : Hp} (q : Nat) (hd : decode cc pc = .ok (.invokestatic ix, 3)) (hq : pc + 3 = q) (hL : LK own ix y) (hV : MS y cc' nL' ret' n) (hn : n = 2) (h1 : 1 ≤ d) (hcat : (st.map fun v => v.category).sum ≤ 8) (hM : Cl (d - 1) y cc' nL' ret' E wd [v1, v2] h (Rt (some r) h2)) (kk : GW K nL E wd A q lo (r :: st) h2) : GW K nL E wd A pc lo (v2 :: v1 :: st) h := by
  subst hn
  exact P_callS (avs := [v1, v2]) (st := st) X q hd hq hL hV h1 hM rfl rfl hcat (fun _ _ z => by obtain ⟨rfl, rfl⟩ := z; exact kk)
theorem V2r (X : Cx K own cc nL ret E A d) {y : MethodName} {cc' : ByteArray} {nL' n ix ci N : Nat} {ret' : Option FieldType} {fs : List Value} {T : u_T} {v1 v2 : Value} {r : Value} {h2 : Hp} (k : Nat) (q : Nat) (hd : decode cc pc = .ok (.invokevirtual ix, 3)) (hq : pc + 3 = q) (hL : LK own ix y) (hV : MV y cc' nL' ret' n) (hn : n = 2) (h1 : 1 ≤ d) (hcat : (st.map fun v => v.category).sum ≤ 8) (hk : k < wd.1) (hc : wd.2.2 k (h k) = .inr (ci, fs)) (hcl : vwCl[ci]? = some (y.cls, T, N)) (hM : Cl (d - 1) y cc' nL' ret' E wd (.ref (wd.2.1 k) :: [v1, v2]) h (Rt (some r) h2)) (kk : GW K nL E wd A q lo (r :: st) h2) : GW K nL E wd A pc lo (v2 :: v1 :: .ref (wd.2.1 k) :: st) h := by
  subst hn
  exact P_callV (avs := [v1, v2]) (st := st) (k := k) X q hd hq hL hV h1 hM rfl rfl hcat hk hc hcl (fun _ _ z => by obtain ⟨rfl, rfl⟩ := z; exact kk)
theorem S2v (X : Cx K own cc nL ret E A d) {y : MethodName} {cc' : ByteArray} {nL' n ix : Nat} {ret' : Option FieldType} {v1 v2 : Value} {h2 : Hp} (q : Nat) (hd : decode cc pc = .ok (.invokestatic ix, 3)) (hq : pc + 3 = q) (hL : LK own ix y) (hV : MS y cc' nL' ret' n) (hn : n = 2) (h1 : 1 ≤ d) (hcat : (st.map fun v => v.category).sum ≤ 8) (hM : Cl (d - 1) y cc' nL' ret' E wd [v1, v2] h (Rt none h2)) (kk : GW K nL E wd A q lo st h2) : GW K nL E wd A pc lo (v2 :: v1 :: st) h := by
  subst hn
  exact P_callS (avs := [v1, v2]) (st := st) X q hd hq hL hV h1 hM rfl rfl hcat (fun _ _ z => by obtain ⟨rfl, rfl⟩ := z; exact kk)
theorem V2v (X : Cx K own cc nL ret E A d) {y : MethodName} {cc' : ByteArray} {nL' n ix ci N : Nat} {ret' : Option FieldType} {fs : List Value} {T : u_T} {v1 v2 : Value} {h2 : Hp} (k : Nat) (q : Nat) (hd : decode cc pc = .ok (.invokevirtual ix, 3)) (hq : pc + 3 = q) (hL : LK own ix y) (hV : MV y cc' nL' ret' n) (hn : n = 2) (h1 : 1 ≤ d) (hcat : (st.map fun v => v.category).sum ≤ 8) (hk : k < wd.1) (hc : wd.2.2 k (h k) = .inr (ci, fs)) (hcl : vwCl[ci]? = some (y.cls, T, N)) (hM : Cl (d - 1) y cc' nL' ret' E wd (.ref (wd.2.1 k) :: [v1, v2]) h (Rt none h2)) (kk : GW K nL E wd A q lo st h2) : GW K nL E wd A pc lo (v2 :: v1 :: .ref (wd.2.1 k) :: st) h := by
  subst hn
  exact P_callV (avs := [v1, v2]) (st := st) (k := k) X q hd hq hL hV h1 hM rfl rfl hcat hk hc hcl (fun _ _ z => by obtain ⟨rfl, rfl⟩ := z; exact kk)
theorem S2g (X : Cx K own cc nL ret E A d) {y : MethodName} {cc' : ByteArray} {nL' n ix : Nat} {ret' : Option FieldType} {v1 v2 : Value} {post : Option Value → Hp → Prop} (q : Nat) (hd : decode cc pc = .ok (.invokestatic ix, 3)) (hq : pc + 3 = q) (hL : LK own ix y) (hV : MS y cc' nL' ret' n) (hn : n = 2) (h1 : 1 ≤ d) (hcat : (st.map fun v => v.category).sum ≤ 8) (hM : Cl (d - 1) y cc' nL' ret' E wd [v1, v2] h post) (kk : ∀ r h', post r h' → GW K nL E wd A q lo (r.toList ++ st) h') : GW K nL E wd A pc lo (v2 :: v1 :: st) h := by
  subst hn
  exact P_callS (avs := [v1, v2]) (st := st) X q hd hq hL hV h1 hM rfl rfl hcat kk
theorem V2g (X : Cx K own cc nL ret E A d) {y : MethodName} {cc' : ByteArray} {nL' n ix ci N : Nat} {ret' : Option FieldType} {fs : List Value} {T : u_T} {v1 v2 : Value} {post : Option Value → Hp → Prop} (k : Nat) (q : Nat) (hd : decode cc pc = .ok (.invokevirtual ix, 3)) (hq : pc + 3 = q) (hL : LK own ix y) (hV : MV y cc' nL' ret' n) (hn : n = 2) (h1 : 1 ≤ d) (hcat : (st.map fun v => v.category).sum ≤ 8) (hk : k < wd.1) (hc : wd.2.2 k (h k) = .inr (ci, fs)) (hcl : vwCl[ci]? = some (y.cls, T, N)) (hM : Cl (d - 1) y cc' nL' ret' E wd (.ref (wd.2.1 k) :: [v1, v2]) h post) (kk : ∀ r h', post r h' → GW K nL E wd A q lo (r.toList ++ st) h') : GW K nL E wd A pc lo (v2 :: v1 :: .ref (wd.2.1 k) :: st) h := by
  subst hn
  exact P_callV (avs := [v1, v2]) (st := st) (k := k) X q hd hq hL hV h1 hM rfl rfl hcat hk hc hcl kk
theorem S3r (X : Cx K own cc nL ret E A d) {y : MethodName} {cc' : ByteArray} {nL' n ix : Nat} {ret' : Option FieldType} {v1 v2 v3 : Value} {r : Value} {h2 : Hp} (q : Nat) (hd : decode cc pc = .ok (.invokestatic ix, 3)) (hq : pc + 3 = q) (hL : LK own ix y) (hV : MS y cc' nL' ret' n) (hn : n = 3) (h1 : 1 ≤ d) (hcat : (st.map fun v => v.category).sum ≤ 8) (hM : Cl (d - 1) y cc' nL' ret' E wd [v1, v2, v3] h (Rt (some r) h2)) (kk : GW K nL E wd A q lo (r :: st) h2) : GW K nL E wd A pc lo (v3 :: v2 :: v1 :: st) h := by
  subst hn
  exact P_callS (avs := [v1, v2, v3]) (st := st) X q hd hq hL hV h1 hM rfl rfl hcat (fun _ _ z => by obtain ⟨rfl, rfl⟩ := z; exact kk)
theorem V3r (X : Cx K own cc nL ret E A d) {y : MethodName} {cc' : ByteArray} {nL' n ix ci N : Nat} {ret' : Option FieldType} {fs : List Value} {T : u_T} {v1 v2 v3 : Value} {r : Value} {h2 : Hp} (k : Nat) (q : Nat) (hd : decode cc pc = .ok (.invokevirtual ix, 3)) (hq : pc + 3 = q) (hL : LK own ix y) (hV : MV y cc' nL' ret' n) (hn : n = 3) (h1 : 1 ≤ d) (hcat : (st.map fun v => v.category).sum ≤ 8) (hk : k < wd.1) (hc : wd.2.2 k (h k) = .inr (ci, fs)) (hcl : vwCl[ci]? = some (y.cls, T, N)) (hM : Cl (d - 1) y cc' nL' ret' E wd (.ref (wd.2.1 k) :: [v1, v2, v3]) h (Rt (some r) h2)) (kk : GW K nL E wd A q lo (r :: st) h2) : GW K nL E wd A pc lo (v3 :: v2 :: v1 :: .ref (wd.2.1 k) :: st) h := by
  subst hn
  exact P_callV (avs := [v1, v2, v3]) (st := st) (k := k) X q hd hq hL hV h1 hM rfl rfl hcat hk hc hcl (fun _ _ z => by obtain ⟨rfl, rfl⟩ := z; exact kk)
theorem S3v (X : Cx K own cc nL ret E A d) {y : MethodName} {cc' : ByteArray} {nL' n ix : Nat} {ret' : Option FieldType} {v1 v2 v3 : Value} {h2 : Hp} (q : Nat) (hd : decode cc pc = .ok (.invokestatic ix, 3)) (hq : pc + 3 = q) (hL : LK own ix y) (hV : MS y cc' nL' ret' n) (hn : n = 3) (h1 : 1 ≤ d) (hcat : (st.map fun v => v.category).sum ≤ 8) (hM : Cl (d - 1) y cc' nL' ret' E wd [v1, v2, v3] h (Rt none h2)) (kk : GW K nL E wd A q lo st h2) : GW K nL E wd A pc lo (v3 :: v2 :: v1 :: st) h := by
  subst hn
  exact P_callS (avs := [v1, v2, v3]) (st := st) X q hd hq hL hV h1 hM rfl rfl hcat (fun _ _ z => by obtain ⟨rfl, rfl⟩ := z; exact kk)
theorem V3v (X : Cx K own cc nL ret E A d) {y : MethodName} {cc' : ByteArray} {nL' n ix ci N : Nat} {ret' : Option FieldType} {fs : List Value} {T : u_T} {v1 v2 v3 : Value} {h2 : Hp} (k : Nat) (q : Nat) (hd : decode cc pc = .ok (.invokevirtual ix, 3)) (hq : pc + 3 = q) (hL : LK own ix y) (hV : MV y cc' nL' ret' n) (hn : n = 3) (h1 : 1 ≤ d) (hcat : (st.map fun v => v.category).sum ≤ 8) (hk : k < wd.1) (hc : wd.2.2 k (h k) = .inr (ci, fs)) (hcl : vwCl[ci]? = some (y.cls, T, N)) (hM : Cl (d - 1) y cc' nL' ret' E wd (.ref (wd.2.1 k) :: [v1, v2, v3]) h (Rt none h2)) (kk : GW K nL E wd A q lo st h2) : GW K nL E wd A pc lo (v3 :: v2 :: v1 :: .ref (wd.2.1 k) :: st) h := by
  subst hn
  exact P_callV (avs := [v1, v2, v3]) (st := st) (k := k) X q hd hq hL hV h1 hM rfl rfl hcat hk hc hcl (fun _ _ z => by obtain ⟨rfl, rfl⟩ := z; exact kk)
theorem S3g (X : Cx K own cc nL ret E A d) {y : MethodName} {cc' : ByteArray} {nL' n ix : Nat} {ret' : Option FieldType} {v1 v2 v3 : Value} {post : Option Value → Hp → Prop} (q : Nat) (hd : decode cc pc = .ok (.invokestatic ix, 3)) (hq : pc + 3 = q) (hL : LK own ix y) (hV : MS y cc' nL' ret' n) (hn : n = 3) (h1 : 1 ≤ d) (hcat : (st.map fun v => v.category).sum ≤ 8) (hM : Cl (d - 1) y cc' nL' ret' E wd [v1, v2, v3] h post) (kk : ∀ r h', post r h' → GW K nL E wd A q lo (r.toList ++ st) h') : GW K nL E wd A pc lo (v3 :: v2 :: v1 :: st) h := by
  subst hn
  exact P_callS (avs := [v1, v2, v3]) (st := st) X q hd hq hL hV h1 hM rfl rfl hcat kk
theorem V3g (X : Cx K own cc nL ret E A d) {y : MethodName} {cc' : ByteArray} {nL' n ix ci N : Nat} {ret' : Option FieldType} {fs : List Value} {T : u_T} {v1 v2 v3 : Value} {post : Option Value → Hp → Prop} (k : Nat) (q : Nat) (hd : decode cc pc = .ok (.invokevirtual ix, 3)) (hq : pc + 3 = q) (hL : LK own ix y) (hV : MV y cc' nL' ret' n) (hn : n = 3) (h1 : 1 ≤ d) (hcat : (st.map fun v => v.category).sum ≤ 8) (hk : k < wd.1) (hc : wd.2.2 k (h k) = .inr (ci, fs)) (hcl : vwCl[ci]? = some (y.cls, T, N)) (hM : Cl (d - 1) y cc' nL' ret' E wd (.ref (wd.2.1 k) :: [v1, v2, v3]) h post) (kk : ∀ r h', post r h' → GW K nL E wd A q lo (r.toList ++ st) h') : GW K nL E wd A pc lo (v3 :: v2 :: v1 :: .ref (wd.2.1 k) :: st) h := by
  subst hn
  exact P_callV (avs := [v1, v2, v3]) (st := st) (k := k) X q hd hq hL hV h1 hM rfl rfl hcat hk hc hcl kk
theorem S4r (X : Cx K own cc nL ret E A d) {y : MethodName} {cc' : ByteArray} {nL' n ix : Nat} {ret' : Option FieldType} {v1 v2 v3 v4 : Value} {r : Value} {h2 : Hp} (q : Nat) (hd : decode cc pc = .ok (.invokestatic ix, 3)) (hq : pc + 3 = q) (hL : LK own ix y) (hV : MS y cc' nL' ret' n) (hn : n = 4) (h1 : 1 ≤ d) (hcat : (st.map fun v => v.category).sum ≤ 8) (hM : Cl (d - 1) y cc' nL' ret' E wd [v1, v2, v3, v4] h (Rt (some r) h2)) (kk : GW K nL E wd A q lo (r :: st) h2) : GW K nL E wd A pc lo (v4 :: v3 :: v2 :: v1 :: st) h := by
  subst hn
  exact P_callS (avs := [v1, v2, v3, v4]) (st := st) X q hd hq hL hV h1 hM rfl rfl hcat (fun _ _ z => by obtain ⟨rfl, rfl⟩ := z; exact kk)
theorem V4r (X : Cx K own cc nL ret E A d) {y : MethodName} {cc' : ByteArray} {nL' n ix ci N : Nat} {ret' : Option FieldType} {fs : List Value} {T : u_T} {v1 v2 v3 v4 : Value} {r : Value} {h2 : Hp} (k : Nat) (q : Nat) (hd : decode cc pc = .ok (.invokevirtual ix, 3)) (hq : pc + 3 = q) (hL : LK own ix y) (hV : MV y cc' nL' ret' n) (hn : n = 4) (h1 : 1 ≤ d) (hcat : (st.map fun v => v.category).sum ≤ 8) (hk : k < wd.1) (hc : wd.2.2 k (h k) = .inr (ci, fs)) (hcl : vwCl[ci]? = some (y.cls, T, N)) (hM : Cl (d - 1) y cc' nL' ret' E wd (.ref (wd.2.1 k) :: [v1, v2, v3, v4]) h (Rt (some r) h2)) (kk : GW K nL E wd A q lo (r :: st) h2) : GW K nL E wd A pc lo (v4 :: v3 :: v2 :: v1 :: .ref (wd.2.1 k) :: st) h := by
  subst hn
  exact P_callV (avs := [v1, v2, v3, v4]) (st := st) (k := k) X q hd hq hL hV h1 hM rfl rfl hcat hk hc hcl (fun _ _ z => by obtain ⟨rfl, rfl⟩ := z; exact kk)
theorem S4v (X : Cx K own cc nL ret E A d) {y : MethodName} {cc' : ByteArray} {nL' n ix : Nat} {ret' : Option FieldType} {v1 v2 v3 v4 : Value} {h2 : Hp} (q : Nat) (hd : decode cc pc = .ok (.invokestatic ix, 3)) (hq : pc + 3 = q) (hL : LK own ix y) (hV : MS y cc' nL' ret' n) (hn : n = 4) (h1 : 1 ≤ d) (hcat : (st.map fun v => v.category).sum ≤ 8) (hM : Cl (d - 1) y cc' nL' ret' E wd [v1, v2, v3, v4] h (Rt none h2)) (kk : GW K nL E wd A q lo st h2) : GW K nL E wd A pc lo (v4 :: v3 :: v2 :: v1 :: st) h := by
  subst hn
  exact P_callS (avs := [v1, v2, v3, v4]) (st := st) X q hd hq hL hV h1 hM rfl rfl hcat (fun _ _ z => by obtain ⟨rfl, rfl⟩ := z; exact kk)
theorem V4v (X : Cx K own cc nL ret E A d) {y : MethodName} {cc' : ByteArray} {nL' n ix ci N : Nat} {ret' : Option FieldType} {fs : List Value} {T : u_T} {v1 v2 v3 v4 : Value} {h2 : Hp} (k : Nat) (q : Nat) (hd : decode cc pc = .ok (.invokevirtual ix, 3)) (hq : pc + 3 = q) (hL : LK own ix y) (hV : MV y cc' nL' ret' n) (hn : n = 4) (h1 : 1 ≤ d) (hcat : (st.map fun v => v.category).sum ≤ 8) (hk : k < wd.1) (hc : wd.2.2 k (h k) = .inr (ci, fs)) (hcl : vwCl[ci]? = some (y.cls, T, N)) (hM : Cl (d - 1) y cc' nL' ret' E wd (.ref (wd.2.1 k) :: [v1, v2, v3, v4]) h (Rt none h2)) (kk : GW K nL E wd A q lo st h2) : GW K nL E wd A pc lo (v4 :: v3 :: v2 :: v1 :: .ref (wd.2.1 k) :: st) h := by
  subst hn
  exact P_callV (avs := [v1, v2, v3, v4]) (st := st) (k := k) X q hd hq hL hV h1 hM rfl rfl hcat hk hc hcl (fun _ _ z => by obtain ⟨rfl, rfl⟩ := z; exact kk)
theorem S4g (X : Cx K own cc nL ret E A d) {y : MethodName} {cc' : ByteArray} {nL' n ix : Nat} {ret' : Option FieldType} {v1 v2 v3 v4 : Value} {post : Option Value → Hp → Prop} (q : Nat) (hd : decode cc pc = .ok (.invokestatic ix, 3)) (hq : pc + 3 = q) (hL : LK own ix y) (hV : MS y cc' nL' ret' n) (hn : n = 4) (h1 : 1 ≤ d) (hcat : (st.map fun v => v.category).sum ≤ 8) (hM : Cl (d - 1) y cc' nL' ret' E wd [v1, v2, v3, v4] h post) (kk : ∀ r h', post r h' → GW K nL E wd A q lo (r.toList ++ st) h') : GW K nL E wd A pc lo (v4 :: v3 :: v2 :: v1 :: st) h := by
  subst hn
  exact P_callS (avs := [v1, v2, v3, v4]) (st := st) X q hd hq hL hV h1 hM rfl rfl hcat kk
theorem V4g (X : Cx K own cc nL ret E A d) {y : MethodName} {cc' : ByteArray} {nL' n ix ci N : Nat} {ret' : Option FieldType} {fs : List Value} {T : u_T} {v1 v2 v3 v4 : Value} {post : Option Value → Hp → Prop} (k : Nat) (q : Nat) (hd : decode cc pc = .ok (.invokevirtual ix, 3)) (hq : pc + 3 = q) (hL : LK own ix y) (hV : MV y cc' nL' ret' n) (hn : n = 4) (h1 : 1 ≤ d) (hcat : (st.map fun v => v.category).sum ≤ 8) (hk : k < wd.1) (hc : wd.2.2 k (h k) = .inr (ci, fs)) (hcl : vwCl[ci]? = some (y.cls, T, N)) (hM : Cl (d - 1) y cc' nL' ret' E wd (.ref (wd.2.1 k) :: [v1, v2, v3, v4]) h post) (kk : ∀ r h', post r h' → GW K nL E wd A q lo (r.toList ++ st) h') : GW K nL E wd A pc lo (v4 :: v3 :: v2 :: v1 :: .ref (wd.2.1 k) :: st) h := by
  subst hn
  exact P_callV (avs := [v1, v2, v3, v4]) (st := st) (k := k) X q hd hq hL hV h1 hM rfl rfl hcat hk hc hcl kk
theorem S5r (X : Cx K own cc nL ret E A d) {y : MethodName} {cc' : ByteArray} {nL' n ix : Nat} {ret' : Option FieldType} {v1 v2 v3 v4 v5 : Value} {r : Value} {h2 : Hp} (q : Nat) (hd : decode cc pc = .ok (.invokestatic ix, 3)) (hq : pc + 3 = q) (hL : LK own ix y) (hV : MS y cc' nL' ret' n) (hn : n = 5) (h1 : 1 ≤ d) (hcat : (st.map fun v => v.category).sum ≤ 8) (hM : Cl (d - 1) y cc' nL' ret' E wd [v1, v2, v3, v4, v5] h (Rt (some r) h2)) (kk : GW K nL E wd A q lo (r :: st) h2) : GW K nL E wd A pc lo (v5 :: v4 :: v3 :: v2 :: v1 :: st) h := by
  subst hn
  exact P_callS (avs := [v1, v2, v3, v4, v5]) (st := st) X q hd hq hL hV h1 hM rfl rfl hcat (fun _ _ z => by obtain ⟨rfl, rfl⟩ := z; exact kk)
theorem V5r (X : Cx K own cc nL ret E A d) {y : MethodName} {cc' : ByteArray} {nL' n ix ci N : Nat} {ret' : Option FieldType} {fs : List Value} {T : u_T} {v1 v2 v3 v4 v5 : Value} {r : Value} {h2 : Hp} (k : Nat) (q : Nat) (hd : decode cc pc = .ok (.invokevirtual ix, 3)) (hq : pc + 3 = q) (hL : LK own ix y) (hV : MV y cc' nL' ret' n) (hn : n = 5) (h1 : 1 ≤ d) (hcat : (st.map fun v => v.category).sum ≤ 8) (hk : k < wd.1) (hc : wd.2.2 k (h k) = .inr (ci, fs)) (hcl : vwCl[ci]? = some (y.cls, T, N)) (hM : Cl (d - 1) y cc' nL' ret' E wd (.ref (wd.2.1 k) :: [v1, v2, v3, v4, v5]) h (Rt (some r) h2)) (kk : GW K nL E wd A q lo (r :: st) h2) : GW K nL E wd A pc lo (v5 :: v4 :: v3 :: v2 :: v1 :: .ref (wd.2.1 k) :: st) h := by
  subst hn
  exact P_callV (avs := [v1, v2, v3, v4, v5]) (st := st) (k := k) X q hd hq hL hV h1 hM rfl rfl hcat hk hc hcl (fun _ _ z => by obtain ⟨rfl, rfl⟩ := z; exact kk)
theorem S5v (X : Cx K own cc nL ret E A d) {y : MethodName} {cc' : ByteArray} {nL' n ix : Nat} {ret' : Option FieldType} {v1 v2 v3 v4 v5 : Value} {h2 : Hp} (q : Nat) (hd : decode cc pc = .ok (.invokestatic ix, 3)) (hq : pc + 3 = q) (hL : LK own ix y) (hV : MS y cc' nL' ret' n) (hn : n = 5) (h1 : 1 ≤ d) (hcat : (st.map fun v => v.category).sum ≤ 8) (hM : Cl (d - 1) y cc' nL' ret' E wd [v1, v2, v3, v4, v5] h (Rt none h2)) (kk : GW K nL E wd A q lo st h2) : GW K nL E wd A pc lo (v5 :: v4 :: v3 :: v2 :: v1 :: st) h := by
  subst hn
  exact P_callS (avs := [v1, v2, v3, v4, v5]) (st := st) X q hd hq hL hV h1 hM rfl rfl hcat (fun _ _ z => by obtain ⟨rfl, rfl⟩ := z; exact kk)
theorem V5v (X : Cx K own cc nL ret E A d) {y : MethodName} {cc' : ByteArray} {nL' n ix ci N : Nat} {ret' : Option FieldType} {fs : List Value} {T : u_T} {v1 v2 v3 v4 v5 : Value} {h2 : Hp} (k : Nat) (q : Nat) (hd : decode cc pc = .ok (.invokevirtual ix, 3)) (hq : pc + 3 = q) (hL : LK own ix y) (hV : MV y cc' nL' ret' n) (hn : n = 5) (h1 : 1 ≤ d) (hcat : (st.map fun v => v.category).sum ≤ 8) (hk : k < wd.1) (hc : wd.2.2 k (h k) = .inr (ci, fs)) (hcl : vwCl[ci]? = some (y.cls, T, N)) (hM : Cl (d - 1) y cc' nL' ret' E wd (.ref (wd.2.1 k) :: [v1, v2, v3, v4, v5]) h (Rt none h2)) (kk : GW K nL E wd A q lo st h2) : GW K nL E wd A pc lo (v5 :: v4 :: v3 :: v2 :: v1 :: .ref (wd.2.1 k) :: st) h := by
  subst hn
  exact P_callV (avs := [v1, v2, v3, v4, v5]) (st := st) (k := k) X q hd hq hL hV h1 hM rfl rfl hcat hk hc hcl (fun _ _ z => by obtain ⟨rfl, rfl⟩ := z; exact kk)
theorem S5g (X : Cx K own cc nL ret E A d) {y : MethodName} {cc' : ByteArray} {nL' n ix : Nat} {ret' : Option FieldType} {v1 v2 v3 v4 v5 : Value} {post : Option Value → Hp → Prop} (q : Nat) (hd : decode cc pc = .ok (.invokestatic ix, 3)) (hq : pc + 3 = q) (hL : LK own ix y) (hV : MS y cc' nL' ret' n) (hn : n = 5) (h1 : 1 ≤ d) (hcat : (st.map fun v => v.category).sum ≤ 8) (hM : Cl (d - 1) y cc' nL' ret' E wd [v1, v2, v3, v4, v5] h post) (kk : ∀ r h', post r h' → GW K nL E wd A q lo (r.toList ++ st) h') : GW K nL E wd A pc lo (v5 :: v4 :: v3 :: v2 :: v1 :: st) h := by
  subst hn
  exact P_callS (avs := [v1, v2, v3, v4, v5]) (st := st) X q hd hq hL hV h1 hM rfl rfl hcat kk
theorem V5g (X : Cx K own cc nL ret E A d) {y : MethodName} {cc' : ByteArray} {nL' n ix ci N : Nat} {ret' : Option FieldType} {fs : List Value} {T : u_T} {v1 v2 v3 v4 v5 : Value} {post : Option Value → Hp → Prop} (k : Nat) (q : Nat) (hd : decode cc pc = .ok (.invokevirtual ix, 3)) (hq : pc + 3 = q) (hL : LK own ix y) (hV : MV y cc' nL' ret' n) (hn : n = 5) (h1 : 1 ≤ d) (hcat : (st.map fun v => v.category).sum ≤ 8) (hk : k < wd.1) (hc : wd.2.2 k (h k) = .inr (ci, fs)) (hcl : vwCl[ci]? = some (y.cls, T, N)) (hM : Cl (d - 1) y cc' nL' ret' E wd (.ref (wd.2.1 k) :: [v1, v2, v3, v4, v5]) h post) (kk : ∀ r h', post r h' → GW K nL E wd A q lo (r.toList ++ st) h') : GW K nL E wd A pc lo (v5 :: v4 :: v3 :: v2 :: v1 :: .ref (wd.2.1 k) :: st) h := by
  subst hn
  exact P_callV (avs := [v1, v2, v3, v4, v5]) (st := st) (k := k) X q hd hq hL hV h1 hM rfl rfl hcat hk hc hcl kk
theorem S6r (X : Cx K own cc nL ret E A d) {y : MethodName} {cc' : ByteArray} {nL' n ix : Nat} {ret' : Option FieldType} {v1 v2 v3 v4 v5 v6 : Value} {r : Value} {h2 : Hp} (q : Nat) (hd : decode cc pc = .ok (.invokestatic ix, 3)) (hq : pc + 3 = q) (hL : LK own ix y) (hV : MS y cc' nL' ret' n) (hn : n = 6) (h1 : 1 ≤ d) (hcat : (st.map fun v => v.category).sum ≤ 8) (hM : Cl (d - 1) y cc' nL' ret' E wd [v1, v2, v3, v4, v5, v6] h (Rt (some r) h2)) (kk : GW K nL E wd A q lo (r :: st) h2) : GW K nL E wd A pc lo (v6 :: v5 :: v4 :: v3 :: v2 :: v1 :: st) h := by
  subst hn
  exact P_callS (avs := [v1, v2, v3, v4, v5, v6]) (st := st) X q hd hq hL hV h1 hM rfl rfl hcat (fun _ _ z => by obtain ⟨rfl, rfl⟩ := z; exact kk)
theorem V6r (X : Cx K own cc nL ret E A d) {y : MethodName} {cc' : ByteArray} {nL' n ix ci N : Nat} {ret' : Option FieldType} {fs : List Value} {T : u_T} {v1 v2 v3 v4 v5 v6 : Value} {r : Value} {h2 : Hp} (k : Nat) (q : Nat) (hd : decode cc pc = .ok (.invokevirtual ix, 3)) (hq : pc + 3 = q) (hL : LK own ix y) (hV : MV y cc' nL' ret' n) (hn : n = 6) (h1 : 1 ≤ d) (hcat : (st.map fun v => v.category).sum ≤ 8) (hk : k < wd.1) (hc : wd.2.2 k (h k) = .inr (ci, fs)) (hcl : vwCl[ci]? = some (y.cls, T, N)) (hM : Cl (d - 1) y cc' nL' ret' E wd (.ref (wd.2.1 k) :: [v1, v2, v3, v4, v5, v6]) h (Rt (some r) h2)) (kk : GW K nL E wd A q lo (r :: st) h2) : GW K nL E wd A pc lo (v6 :: v5 :: v4 :: v3 :: v2 :: v1 :: .ref (wd.2.1 k) :: st) h := by
  subst hn
  exact P_callV (avs := [v1, v2, v3, v4, v5, v6]) (st := st) (k := k) X q hd hq hL hV h1 hM rfl rfl hcat hk hc hcl (fun _ _ z => by obtain ⟨rfl, rfl⟩ := z; exact kk)
theorem S6v (X : Cx K own cc nL ret E A d) {y : MethodName} {cc' : ByteArray} {nL' n ix : Nat} {ret' : Option FieldType} {v1 v2 v3 v4 v5 v6 : Value} {h2 : Hp} (q : Nat) (hd : decode cc pc = .ok (.invokestatic ix, 3)) (hq : pc + 3 = q) (hL : LK own ix y) (hV : MS y cc' nL' ret' n) (hn : n = 6) (h1 : 1 ≤ d) (hcat : (st.map fun v => v.category).sum ≤ 8) (hM : Cl (d - 1) y cc' nL' ret' E wd [v1, v2, v3, v4, v5, v6] h (Rt none h2)) (kk : GW K nL E wd A q lo st h2) : GW K nL E wd A pc lo (v6 :: v5 :: v4 :: v3 :: v2 :: v1 :: st) h := by
  subst hn
  exact P_callS (avs := [v1, v2, v3, v4, v5, v6]) (st := st) X q hd hq hL hV h1 hM rfl rfl hcat (fun _ _ z => by obtain ⟨rfl, rfl⟩ := z; exact kk)
theorem V6v (X : Cx K own cc nL ret E A d) {y : MethodName} {cc' : ByteArray} {nL' n ix ci N : Nat} {ret' : Option FieldType} {fs : List Value} {T : u_T} {v1 v2 v3 v4 v5 v6 : Value} {h2 : Hp} (k : Nat) (q : Nat) (hd : decode cc pc = .ok (.invokevirtual ix, 3)) (hq : pc + 3 = q) (hL : LK own ix y) (hV : MV y cc' nL' ret' n) (hn : n = 6) (h1 : 1 ≤ d) (hcat : (st.map fun v => v.category).sum ≤ 8) (hk : k < wd.1) (hc : wd.2.2 k (h k) = .inr (ci, fs)) (hcl : vwCl[ci]? = some (y.cls, T, N)) (hM : Cl (d - 1) y cc' nL' ret' E wd (.ref (wd.2.1 k) :: [v1, v2, v3, v4, v5, v6]) h (Rt none h2)) (kk : GW K nL E wd A q lo st h2) : GW K nL E wd A pc lo (v6 :: v5 :: v4 :: v3 :: v2 :: v1 :: .ref (wd.2.1 k) :: st) h := by
  subst hn
  exact P_callV (avs := [v1, v2, v3, v4, v5, v6]) (st := st) (k := k) X q hd hq hL hV h1 hM rfl rfl hcat hk hc hcl (fun _ _ z => by obtain ⟨rfl, rfl⟩ := z; exact kk)
theorem S6g (X : Cx K own cc nL ret E A d) {y : MethodName} {cc' : ByteArray} {nL' n ix : Nat} {ret' : Option FieldType} {v1 v2 v3 v4 v5 v6 : Value} {post : Option Value → Hp → Prop} (q : Nat) (hd : decode cc pc = .ok (.invokestatic ix, 3)) (hq : pc + 3 = q) (hL : LK own ix y) (hV : MS y cc' nL' ret' n) (hn : n = 6) (h1 : 1 ≤ d) (hcat : (st.map fun v => v.category).sum ≤ 8) (hM : Cl (d - 1) y cc' nL' ret' E wd [v1, v2, v3, v4, v5, v6] h post) (kk : ∀ r h', post r h' → GW K nL E wd A q lo (r.toList ++ st) h') : GW K nL E wd A pc lo (v6 :: v5 :: v4 :: v3 :: v2 :: v1 :: st) h := by
  subst hn
  exact P_callS (avs := [v1, v2, v3, v4, v5, v6]) (st := st) X q hd hq hL hV h1 hM rfl rfl hcat kk
theorem V6g (X : Cx K own cc nL ret E A d) {y : MethodName} {cc' : ByteArray} {nL' n ix ci N : Nat} {ret' : Option FieldType} {fs : List Value} {T : u_T} {v1 v2 v3 v4 v5 v6 : Value} {post : Option Value → Hp → Prop} (k : Nat) (q : Nat) (hd : decode cc pc = .ok (.invokevirtual ix, 3)) (hq : pc + 3 = q) (hL : LK own ix y) (hV : MV y cc' nL' ret' n) (hn : n = 6) (h1 : 1 ≤ d) (hcat : (st.map fun v => v.category).sum ≤ 8) (hk : k < wd.1) (hc : wd.2.2 k (h k) = .inr (ci, fs)) (hcl : vwCl[ci]? = some (y.cls, T, N)) (hM : Cl (d - 1) y cc' nL' ret' E wd (.ref (wd.2.1 k) :: [v1, v2, v3, v4, v5, v6]) h post) (kk : ∀ r h', post r h' → GW K nL E wd A q lo (r.toList ++ st) h') : GW K nL E wd A pc lo (v6 :: v5 :: v4 :: v3 :: v2 :: v1 :: .ref (wd.2.1 k) :: st) h := by
  subst hn
  exact P_callV (avs := [v1, v2, v3, v4, v5, v6]) (st := st) (k := k) X q hd hq hL hV h1 hM rfl rfl hcat hk hc hcl kk
end PC
end
section
/-! pure words that both sides share -/
def inB (v a b : Int32) : Bool := decide (a ≤ v) && decide (v ≤ b)
theorem inB_t {v a b : Int32} (h1 : ¬ v < a) (h2 : ¬ b < v) : inB v a b = true := by simp [inB, Int32.not_lt.mp h1, Int32.not_lt.mp h2]
theorem inB_f1 {v a b : Int32} (h1 : v < a) : inB v a b = false := by simp [inB]; exact fun z => absurd z (Int32.not_le.mpr h1)
theorem inB_f2 {v a b : Int32} (h2 : b < v) : inB v a b = false := by simp [inB]; exact fun _ => h2
theorem inB_iff {v a b : Int32} : inB v a b = true ↔ a ≤ v ∧ v ≤ b := by simp [inB]
theorem rt1 {b : Bool} {h : Hp} (e : b = true) : Rt (some (.int (bI b))) h (some (.int 1)) h := by subst e; exact ⟨rfl, rfl⟩
theorem rt0 {b : Bool} {h : Hp} (e : b = false) : Rt (some (.int (bI b))) h (some (.int 0)) h := by subst e; exact ⟨rfl, rfl⟩
theorem rti {x y : Int32} {h : Hp} (e : x = y) : Rt (some (.int y)) h (some (.int x)) h := by subst e; exact ⟨rfl, rfl⟩
section PB
variable {K : Kx} {own : String} {cc : ByteArray} {nL : Nat} {ret : Option FieldType} {E : Ev} {wd : Wd} {A : Nat → Prop} {d : Nat} {pc : Nat} {lo : List (Option Value)} {st : List Value} {h : Hp}
theorem P_bz (X : Cx K own cc nL ret E A d) {b : Bool} {off : Int} (tgt q : Nat) (hd : decode cc pc = .ok (.ifCond .eq off, 3)) (ht : (pc : Int) + off = (tgt : Int)) (hq : pc + 3 = q) (kt : b = false → GW K nL E wd A tgt lo st h) (kf : b = true → GW K nL E wd A q lo st h) : GW K nL E wd A pc lo (.int (bI b) :: st) h := P_if_eq X tgt q hd ht hq (fun z => kt (bI_0.mp z)) (fun z => kf (bI_n0.mp z))
theorem P_bn (X : Cx K own cc nL ret E A d) {b : Bool} {off : Int} (tgt q : Nat) (hd : decode cc pc = .ok (.ifCond .ne off, 3)) (ht : (pc : Int) + off = (tgt : Int)) (hq : pc + 3 = q) (kt : b = true → GW K nL E wd A tgt lo st h) (kf : b = false → GW K nL E wd A q lo st h) : GW K nL E wd A pc lo (.int (bI b) :: st) h := P_if_ne X tgt q hd ht hq (fun z => kt (bI_n0.mp z)) (fun z => kf (bI_0.mp z))
end PB
def awy (a b : Int32) : Int32 := if a < b then b - a else a - b
def absI (x : Int32) : Int32 := if 0 ≤ x then x else 0 - x
def qtr (x y : Int32) : Int32 := bI (decide (16 ≤ x)) + (if 16 ≤ y then 2 else 0)
theorem qtr_e {x y : Int32} : qtr x y = (if x < 16 then 0 else 1) + (if y < 16 then 0 else 2) := by
  have e1 : (16 ≤ x) = ¬ x < 16 := propext Int32.not_lt.symm
  have e2 : (16 ≤ y) = ¬ y < 16 := propext Int32.not_lt.symm
  by_cases h1 : x < 16 <;> by_cases h2 : y < 16 <;> simp [qtr, bI, e1, e2, h1, h2]
theorem le15 {x : Int32} : x ≤ 15 ↔ x < 16 := by
  rw [Int32.le_iff_toInt_le, Int32.lt_iff_toInt_lt, show (15 : Int32).toInt = 15 from rfl, show (16 : Int32).toInt = 16 from rfl]
  omega
theorem qtr_e2 {x y : Int32} : qtr x y = (if x ≤ 15 then 0 else 1) + (if y ≤ 15 then 0 else 2) := by rw [qtr_e]; simp only [le15]
def latF (dy : Nat → Int32) (n : Nat) : Int32 := if n = 0 then 0 else dy (n - 1)
def hasB (s i : Int32) : Bool := !decide ((s >>> (i &&& 31)) &&& 1 = 0)

set_option maxHeartbeats 4000000 in
set_option maxRecDepth 100000 in
theorem k_X8_within {d : Nat} {E : Ev} {wd : Wd} {v a b : Int32} {h : Hp} (hd : 0 ≤ d)  : Cl d yX8_within cX8_within 3 (some .boolean) E wd [.int v, .int a, .int b] h (Rt (some (.int (bI (inB v a b)))) h) := by
  refine Cl_of [some (.int v), some (.int a), some (.int b)] (by decide) rfl (Nat.le_of_ble_eq_true rfl) (fun K A X hQ => ?_)
  refine P_iload0 X 1 dX8_within_0 rfl ?_
  refine P_iload1 X 2 dX8_within_1 rfl ?_
  refine P_icmp_lt X 14 5 dX8_within_2 rfl rfl (fun b2 => ?_) (fun b2 => ?_)
  · refine P_iconst X (0) rfl 15 dX8_within_14 rfl ?_
    exact P_zret X hQ dX8_within_15 (Or.inl rfl) (rt0 (inB_f1 b2))
  · refine P_iload0 X 6 dX8_within_5 rfl ?_
    refine P_iload2 X 7 dX8_within_6 rfl ?_
    refine P_icmp_gt X 14 10 dX8_within_7 rfl rfl (fun b7 => ?_) (fun b7 => ?_)
    · refine P_iconst X (0) rfl 15 dX8_within_14 rfl ?_
      exact P_zret X hQ dX8_within_15 (Or.inl rfl) (rt0 (inB_f2 b7))
    · refine P_iconst X (1) rfl 11 dX8_within_10 rfl ?_
      refine P_goto X 15 dX8_within_11 rfl ?_
      exact P_zret X hQ dX8_within_15 (Or.inr rfl) (rt1 (inB_t b2 b7))
set_option maxHeartbeats 4000000 in
set_option maxRecDepth 100000 in
theorem k_X9_in {d : Nat} {E : Ev} {wd : Wd} {v a b : Int32} {h : Hp} (hd : 0 ≤ d)  : Cl d yX9_in cX9_in 3 (some .boolean) E wd [.int v, .int a, .int b] h (Rt (some (.int (bI (inB v a b)))) h) := by
  refine Cl_of [some (.int v), some (.int a), some (.int b)] (by decide) rfl (Nat.le_of_ble_eq_true rfl) (fun K A X hQ => ?_)
  refine P_iload0 X 1 dX9_in_0 rfl ?_
  refine P_iload1 X 2 dX9_in_1 rfl ?_
  refine P_icmp_lt X 14 5 dX9_in_2 rfl rfl (fun b2 => ?_) (fun b2 => ?_)
  · refine P_iconst X (0) rfl 15 dX9_in_14 rfl ?_
    exact P_zret X hQ dX9_in_15 (Or.inl rfl) (rt0 (inB_f1 b2))
  · refine P_iload0 X 6 dX9_in_5 rfl ?_
    refine P_iload2 X 7 dX9_in_6 rfl ?_
    refine P_icmp_gt X 14 10 dX9_in_7 rfl rfl (fun b7 => ?_) (fun b7 => ?_)
    · refine P_iconst X (0) rfl 15 dX9_in_14 rfl ?_
      exact P_zret X hQ dX9_in_15 (Or.inl rfl) (rt0 (inB_f2 b7))
    · refine P_iconst X (1) rfl 11 dX9_in_10 rfl ?_
      refine P_goto X 15 dX9_in_11 rfl ?_
      exact P_zret X hQ dX9_in_15 (Or.inr rfl) (rt1 (inB_t b2 b7))
set_option maxHeartbeats 4000000 in
set_option maxRecDepth 100000 in
theorem k_X8_hasBit {d : Nat} {E : Ev} {wd : Wd} {x y : Int32} {h : Hp} (hd : 0 ≤ d)  : Cl d yX8_hasBit cX8_hasBit 2 (some .boolean) E wd [.int x, .int y] h (Rt (some (.int (bI (hasB x y)))) h) := by
  refine Cl_of [some (.int x), some (.int y)] (by decide) rfl (Nat.le_of_ble_eq_true rfl) (fun K A X hQ => ?_)
  refine P_iload0 X 1 dX8_hasBit_0 rfl ?_
  refine P_iload1 X 2 dX8_hasBit_1 rfl ?_
  refine P_ishr X 3 dX8_hasBit_2 rfl ?_
  refine P_iconst X (1) rfl 4 dX8_hasBit_3 rfl ?_
  refine P_iand X 5 dX8_hasBit_4 rfl ?_
  refine P_if_eq X 12 8 dX8_hasBit_5 rfl rfl (fun b5 => ?_) (fun b5 => ?_)
  · refine P_iconst X (0) rfl 13 dX8_hasBit_12 rfl ?_
    exact P_zret X hQ dX8_hasBit_13 (Or.inl rfl) (rt0 (by simp [hasB]; exact b5))
  · refine P_iconst X (1) rfl 9 dX8_hasBit_8 rfl ?_
    refine P_goto X 13 dX8_hasBit_9 rfl ?_
    exact P_zret X hQ dX8_hasBit_13 (Or.inr rfl) (rt1 (by simp [hasB]; exact b5))
set_option maxHeartbeats 4000000 in
set_option maxRecDepth 100000 in
theorem k_X8_isKind {d : Nat} {E : Ev} {wd : Wd} {v : Int32} {h : Hp} (hd : 1 ≤ d)  : Cl d yX8_isKind cX8_isKind 1 (some .boolean) E wd [.int v] h (Rt (some (.int (bI (inB v 0 4)))) h) := by
  refine Cl_of [some (.int v)] (by decide) rfl (Nat.le_of_ble_eq_true rfl) (fun K A X hQ => ?_)
  refine P_iload0 X 1 dX8_isKind_0 rfl ?_
  refine P_iconst X (0) rfl 2 dX8_isKind_1 rfl ?_
  refine P_iconst X (4) rfl 3 dX8_isKind_2 rfl ?_
  refine S3r X 6 dX8_isKind_3 rfl lk_X8_79 ms_X8_within rfl (by omega) (Nat.le_of_ble_eq_true rfl) (k_X8_within (by omega)) ?_
  exact P_zret X hQ dX8_isKind_6 (bI_01 _) ⟨rfl, rfl⟩
set_option maxHeartbeats 4000000 in
set_option maxRecDepth 100000 in
theorem k_X8_isDay {d : Nat} {E : Ev} {wd : Wd} {v : Int32} {h : Hp} (hd : 1 ≤ d)  : Cl d yX8_isDay cX8_isDay 1 (some .boolean) E wd [.int v] h (Rt (some (.int (bI (inB v 0 999)))) h) := by
  refine Cl_of [some (.int v)] (by decide) rfl (Nat.le_of_ble_eq_true rfl) (fun K A X hQ => ?_)
  refine P_iload0 X 1 dX8_isDay_0 rfl ?_
  refine P_iconst X (0) rfl 2 dX8_isDay_1 rfl ?_
  refine P_sipush X (999) rfl 5 dX8_isDay_2 rfl ?_
  refine S3r X 8 dX8_isDay_5 rfl lk_X8_79 ms_X8_within rfl (by omega) (Nat.le_of_ble_eq_true rfl) (k_X8_within (by omega)) ?_
  exact P_zret X hQ dX8_isDay_8 (bI_01 _) ⟨rfl, rfl⟩
set_option maxHeartbeats 4000000 in
set_option maxRecDepth 100000 in
theorem k_X8_isPlace {d : Nat} {E : Ev} {wd : Wd} {v : Int32} {h : Hp} (hd : 1 ≤ d)  : Cl d yX8_isPlace cX8_isPlace 1 (some .boolean) E wd [.int v] h (Rt (some (.int (bI (inB v 0 1023)))) h) := by
  refine Cl_of [some (.int v)] (by decide) rfl (Nat.le_of_ble_eq_true rfl) (fun K A X hQ => ?_)
  refine P_iload0 X 1 dX8_isPlace_0 rfl ?_
  refine P_iconst X (0) rfl 2 dX8_isPlace_1 rfl ?_
  refine P_sipush X (1023) rfl 5 dX8_isPlace_2 rfl ?_
  refine S3r X 8 dX8_isPlace_5 rfl lk_X8_79 ms_X8_within rfl (by omega) (Nat.le_of_ble_eq_true rfl) (k_X8_within (by omega)) ?_
  exact P_zret X hQ dX8_isPlace_8 (bI_01 _) ⟨rfl, rfl⟩
set_option maxHeartbeats 4000000 in
set_option maxRecDepth 100000 in
theorem k_X8_isQuarter {d : Nat} {E : Ev} {wd : Wd} {v : Int32} {h : Hp} (hd : 1 ≤ d)  : Cl d yX8_isQuarter cX8_isQuarter 1 (some .boolean) E wd [.int v] h (Rt (some (.int (bI (inB v 0 3)))) h) := by
  refine Cl_of [some (.int v)] (by decide) rfl (Nat.le_of_ble_eq_true rfl) (fun K A X hQ => ?_)
  refine P_iload0 X 1 dX8_isQuarter_0 rfl ?_
  refine P_iconst X (0) rfl 2 dX8_isQuarter_1 rfl ?_
  refine P_iconst X (3) rfl 3 dX8_isQuarter_2 rfl ?_
  refine S3r X 6 dX8_isQuarter_3 rfl lk_X8_79 ms_X8_within rfl (by omega) (Nat.le_of_ble_eq_true rfl) (k_X8_within (by omega)) ?_
  exact P_zret X hQ dX8_isQuarter_6 (bI_01 _) ⟨rfl, rfl⟩
set_option maxHeartbeats 4000000 in
set_option maxRecDepth 100000 in
theorem k_X8_isSheet {d : Nat} {E : Ev} {wd : Wd} {v : Int32} {h : Hp} (hd : 1 ≤ d)  : Cl d yX8_isSheet cX8_isSheet 1 (some .boolean) E wd [.int v] h (Rt (some (.int (bI (inB v 0 3)))) h) := by
  refine Cl_of [some (.int v)] (by decide) rfl (Nat.le_of_ble_eq_true rfl) (fun K A X hQ => ?_)
  refine P_iload0 X 1 dX8_isSheet_0 rfl ?_
  refine P_iconst X (0) rfl 2 dX8_isSheet_1 rfl ?_
  refine P_iconst X (3) rfl 3 dX8_isSheet_2 rfl ?_
  refine S3r X 6 dX8_isSheet_3 rfl lk_X8_79 ms_X8_within rfl (by omega) (Nat.le_of_ble_eq_true rfl) (k_X8_within (by omega)) ?_
  exact P_zret X hQ dX8_isSheet_6 (bI_01 _) ⟨rfl, rfl⟩
set_option maxHeartbeats 4000000 in
set_option maxRecDepth 100000 in
theorem k_X9_isKind {d : Nat} {E : Ev} {wd : Wd} {v : Int32} {h : Hp} (hd : 1 ≤ d)  : Cl d yX9_isKind cX9_isKind 1 (some .boolean) E wd [.int v] h (Rt (some (.int (bI (inB v 0 4)))) h) := by
  refine Cl_of [some (.int v)] (by decide) rfl (Nat.le_of_ble_eq_true rfl) (fun K A X hQ => ?_)
  refine P_iload0 X 1 dX9_isKind_0 rfl ?_
  refine P_iconst X (0) rfl 2 dX9_isKind_1 rfl ?_
  refine P_iconst X (4) rfl 3 dX9_isKind_2 rfl ?_
  refine S3r X 6 dX9_isKind_3 rfl lk_X9_111 ms_X9_in rfl (by omega) (Nat.le_of_ble_eq_true rfl) (k_X9_in (by omega)) ?_
  exact P_zret X hQ dX9_isKind_6 (bI_01 _) ⟨rfl, rfl⟩
set_option maxHeartbeats 4000000 in
set_option maxRecDepth 100000 in
theorem k_X9_isDay {d : Nat} {E : Ev} {wd : Wd} {v : Int32} {h : Hp} (hd : 1 ≤ d)  : Cl d yX9_isDay cX9_isDay 1 (some .boolean) E wd [.int v] h (Rt (some (.int (bI (inB v 0 999)))) h) := by
  refine Cl_of [some (.int v)] (by decide) rfl (Nat.le_of_ble_eq_true rfl) (fun K A X hQ => ?_)
  refine P_iload0 X 1 dX9_isDay_0 rfl ?_
  refine P_iconst X (0) rfl 2 dX9_isDay_1 rfl ?_
  refine P_sipush X (999) rfl 5 dX9_isDay_2 rfl ?_
  refine S3r X 8 dX9_isDay_5 rfl lk_X9_111 ms_X9_in rfl (by omega) (Nat.le_of_ble_eq_true rfl) (k_X9_in (by omega)) ?_
  exact P_zret X hQ dX9_isDay_8 (bI_01 _) ⟨rfl, rfl⟩
set_option maxHeartbeats 4000000 in
set_option maxRecDepth 100000 in
theorem k_X9_isSheet {d : Nat} {E : Ev} {wd : Wd} {v : Int32} {h : Hp} (hd : 1 ≤ d)  : Cl d yX9_isSheet cX9_isSheet 1 (some .boolean) E wd [.int v] h (Rt (some (.int (bI (inB v 0 3)))) h) := by
  refine Cl_of [some (.int v)] (by decide) rfl (Nat.le_of_ble_eq_true rfl) (fun K A X hQ => ?_)
  refine P_iload0 X 1 dX9_isSheet_0 rfl ?_
  refine P_iconst X (0) rfl 2 dX9_isSheet_1 rfl ?_
  refine P_iconst X (3) rfl 3 dX9_isSheet_2 rfl ?_
  refine S3r X 6 dX9_isSheet_3 rfl lk_X9_111 ms_X9_in rfl (by omega) (Nat.le_of_ble_eq_true rfl) (k_X9_in (by omega)) ?_
  exact P_zret X hQ dX9_isSheet_6 (bI_01 _) ⟨rfl, rfl⟩
set_option maxHeartbeats 4000000 in
set_option maxRecDepth 100000 in
theorem k_X8_far {d : Nat} {E : Ev} {wd : Wd} {a b c e : Int32} {h : Hp} (hd : 1 ≤ d)  : Cl d yX8_far cX8_far 4 (some .int) E wd [.int a, .int b, .int c, .int e] h (Rt (some (.int (absI (a - c) + absI (b - e)))) h) := by
  refine Cl_of [some (.int a), some (.int b), some (.int c), some (.int e)] (by decide) rfl (Nat.le_of_ble_eq_true rfl) (fun K A X hQ => ?_)
  refine P_iload0 X 1 dX8_far_0 rfl ?_
  refine P_iload2 X 2 dX8_far_1 rfl ?_
  refine P_isub X 3 dX8_far_2 rfl ?_
  refine P_abs X 6 dX8_far_3 rfl la_X8_306 ja_st ja_ini ja_co (by omega) (Nat.le_of_ble_eq_true rfl) ?_
  refine P_iload1 X 7 dX8_far_6 rfl ?_
  refine P_iload3 X 8 dX8_far_7 rfl ?_
  refine P_isub X 9 dX8_far_8 rfl ?_
  refine P_abs X 12 dX8_far_9 rfl la_X8_306 ja_st ja_ini ja_co (by omega) (Nat.le_of_ble_eq_true rfl) ?_
  refine P_iadd X 13 dX8_far_12 rfl ?_
  exact P_iret X hQ dX8_far_13 ⟨rfl, rfl⟩
set_option maxHeartbeats 4000000 in
set_option maxRecDepth 100000 in
theorem k_X8_quarterAt {d : Nat} {E : Ev} {wd : Wd} {x y : Int32} {h : Hp} (hd : 0 ≤ d)  : Cl d yX8_quarterAt cX8_quarterAt 2 (some .int) E wd [.int x, .int y] h (Rt (some (.int (qtr x y))) h) := by
  refine Cl_of [some (.int x), some (.int y)] (by decide) rfl (Nat.le_of_ble_eq_true rfl) (fun K A X hQ => ?_)
  refine P_iload0 X 1 dX8_quarterAt_0 rfl ?_
  refine P_bipush X (16) rfl 3 dX8_quarterAt_1 rfl ?_
  refine P_icmp_lt X 10 6 dX8_quarterAt_3 rfl rfl (fun b3 => ?_) (fun b3 => ?_)
  · refine P_iconst X (0) rfl 11 dX8_quarterAt_10 rfl ?_
    refine P_iload1 X 12 dX8_quarterAt_11 rfl ?_
    refine P_bipush X (16) rfl 14 dX8_quarterAt_12 rfl ?_
    refine P_icmp_lt X 21 17 dX8_quarterAt_14 rfl rfl (fun b14 => ?_) (fun b14 => ?_)
    · refine P_iconst X (0) rfl 22 dX8_quarterAt_21 rfl ?_
      refine P_iadd X 23 dX8_quarterAt_22 rfl ?_
      exact P_iret X hQ dX8_quarterAt_23 (rti (by rw [qtr_e]; simp [b3, b14]))
    · refine P_iconst X (2) rfl 18 dX8_quarterAt_17 rfl ?_
      refine P_goto X 22 dX8_quarterAt_18 rfl ?_
      refine P_iadd X 23 dX8_quarterAt_22 rfl ?_
      exact P_iret X hQ dX8_quarterAt_23 (rti (by rw [qtr_e]; simp [b3, b14]))
  · refine P_iconst X (1) rfl 7 dX8_quarterAt_6 rfl ?_
    refine P_goto X 11 dX8_quarterAt_7 rfl ?_
    refine P_iload1 X 12 dX8_quarterAt_11 rfl ?_
    refine P_bipush X (16) rfl 14 dX8_quarterAt_12 rfl ?_
    refine P_icmp_lt X 21 17 dX8_quarterAt_14 rfl rfl (fun b14 => ?_) (fun b14 => ?_)
    · refine P_iconst X (0) rfl 22 dX8_quarterAt_21 rfl ?_
      refine P_iadd X 23 dX8_quarterAt_22 rfl ?_
      exact P_iret X hQ dX8_quarterAt_23 (rti (by rw [qtr_e]; simp [b3, b14]))
    · refine P_iconst X (2) rfl 18 dX8_quarterAt_17 rfl ?_
      refine P_goto X 22 dX8_quarterAt_18 rfl ?_
      refine P_iadd X 23 dX8_quarterAt_22 rfl ?_
      exact P_iret X hQ dX8_quarterAt_23 (rti (by rw [qtr_e]; simp [b3, b14]))
set_option maxHeartbeats 4000000 in
set_option maxRecDepth 100000 in
theorem k_X9_quarterOf {d : Nat} {E : Ev} {wd : Wd} {x y : Int32} {h : Hp} (hd : 0 ≤ d)  : Cl d yX9_quarterOf cX9_quarterOf 2 (some .int) E wd [.int x, .int y] h (Rt (some (.int (qtr x y))) h) := by
  refine Cl_of [some (.int x), some (.int y)] (by decide) rfl (Nat.le_of_ble_eq_true rfl) (fun K A X hQ => ?_)
  refine P_iload0 X 1 dX9_quarterOf_0 rfl ?_
  refine P_bipush X (15) rfl 3 dX9_quarterOf_1 rfl ?_
  refine P_icmp_le X 10 6 dX9_quarterOf_3 rfl rfl (fun b3 => ?_) (fun b3 => ?_)
  · refine P_iconst X (0) rfl 11 dX9_quarterOf_10 rfl ?_
    refine P_iload1 X 12 dX9_quarterOf_11 rfl ?_
    refine P_bipush X (15) rfl 14 dX9_quarterOf_12 rfl ?_
    refine P_icmp_le X 21 17 dX9_quarterOf_14 rfl rfl (fun b14 => ?_) (fun b14 => ?_)
    · refine P_iconst X (0) rfl 22 dX9_quarterOf_21 rfl ?_
      refine P_iadd X 23 dX9_quarterOf_22 rfl ?_
      exact P_iret X hQ dX9_quarterOf_23 (rti (by rw [qtr_e2]; simp [b3, b14]))
    · refine P_iconst X (2) rfl 18 dX9_quarterOf_17 rfl ?_
      refine P_goto X 22 dX9_quarterOf_18 rfl ?_
      refine P_iadd X 23 dX9_quarterOf_22 rfl ?_
      exact P_iret X hQ dX9_quarterOf_23 (rti (by rw [qtr_e2]; simp [b3, b14]))
  · refine P_iconst X (1) rfl 7 dX9_quarterOf_6 rfl ?_
    refine P_goto X 11 dX9_quarterOf_7 rfl ?_
    refine P_iload1 X 12 dX9_quarterOf_11 rfl ?_
    refine P_bipush X (15) rfl 14 dX9_quarterOf_12 rfl ?_
    refine P_icmp_le X 21 17 dX9_quarterOf_14 rfl rfl (fun b14 => ?_) (fun b14 => ?_)
    · refine P_iconst X (0) rfl 22 dX9_quarterOf_21 rfl ?_
      refine P_iadd X 23 dX9_quarterOf_22 rfl ?_
      exact P_iret X hQ dX9_quarterOf_23 (rti (by rw [qtr_e2]; simp [b3, b14]))
    · refine P_iconst X (2) rfl 18 dX9_quarterOf_17 rfl ?_
      refine P_goto X 22 dX9_quarterOf_18 rfl ?_
      refine P_iadd X 23 dX9_quarterOf_22 rfl ?_
      exact P_iret X hQ dX9_quarterOf_23 (rti (by rw [qtr_e2]; simp [b3, b14]))
set_option maxHeartbeats 4000000 in
set_option maxRecDepth 100000 in
theorem k_X9_away {d : Nat} {E : Ev} {wd : Wd} {a b : Int32} {h : Hp} (hd : 0 ≤ d)  : Cl d yX9_away cX9_away 2 (some .int) E wd [.int a, .int b] h (Rt (some (.int (awy a b))) h) := by
  refine Cl_of [some (.int a), some (.int b)] (by decide) rfl (Nat.le_of_ble_eq_true rfl) (fun K A X hQ => ?_)
  refine P_iload0 X 1 dX9_away_0 rfl ?_
  refine P_iload1 X 2 dX9_away_1 rfl ?_
  refine P_icmp_ge X 11 5 dX9_away_2 rfl rfl (fun b2 => ?_) (fun b2 => ?_)
  · refine P_iload0 X 12 dX9_away_11 rfl ?_
    refine P_iload1 X 13 dX9_away_12 rfl ?_
    refine P_isub X 14 dX9_away_13 rfl ?_
    exact P_iret X hQ dX9_away_14 (rti (if_neg (fun z => absurd b2 (Int32.not_le.mpr z))).symm)
  · refine P_iload1 X 6 dX9_away_5 rfl ?_
    refine P_iload0 X 7 dX9_away_6 rfl ?_
    refine P_isub X 8 dX9_away_7 rfl ?_
    refine P_goto X 14 dX9_away_8 rfl ?_
    exact P_iret X hQ dX9_away_14 (rti (if_pos (Int32.not_le.mp b2)).symm)
set_option maxHeartbeats 4000000 in
set_option maxRecDepth 100000 in
theorem k_X8_finding {d : Nat} {E : Ev} {c : Int32} {h : Hp} (hd : 0 ≤ d)  : Cl d yX8_finding cX8_finding 2 (some .int) E (wdX E) [.ref (E.2.2.1 0), .int c] h (Rt (some (.int c)) (put h 0 11 (h 0 11 + 1))) := by
  refine Cl_of [some (.ref (E.2.2.1 0)), some (.int c)] (by decide) rfl (Nat.le_of_ble_eq_true rfl) (fun K A X hQ => ?_)
  refine P_aload0 X 1 dX8_finding_0 rfl ?_
  refine P_dup X rfl 2 dX8_finding_1 rfl ?_
  refine gX_0_11 X 5 dX8_finding_2 rfl fl_X8_75 ?_
  refine P_iconst X (1) rfl 6 dX8_finding_5 rfl ?_
  refine P_iadd X 7 dX8_finding_6 rfl ?_
  refine pX_0_11 X 10 dX8_finding_7 rfl fw_X8_75 ?_
  refine P_iload1 X 11 dX8_finding_10 rfl ?_
  exact P_iret X hQ dX8_finding_11 ⟨rfl, rfl⟩
set_option maxHeartbeats 4000000 in
set_option maxRecDepth 100000 in
theorem k_X9_finding {d : Nat} {E : Ev} {c : Int32} {h : Hp} (hd : 0 ≤ d)  : Cl d yX9_finding cX9_finding 2 (some .int) E (wdY E) [.ref (E.2.2.1 0), .int c] h (Rt (some (.int c)) (put h 0 0 (h 0 0 + 1))) := by
  refine Cl_of [some (.ref (E.2.2.1 0)), some (.int c)] (by decide) rfl (Nat.le_of_ble_eq_true rfl) (fun K A X hQ => ?_)
  refine P_aload0 X 1 dX9_finding_0 rfl ?_
  refine P_dup X rfl 2 dX9_finding_1 rfl ?_
  refine gY_0_0 X 5 dX9_finding_2 rfl fl_X9_107 ?_
  refine P_iconst X (1) rfl 6 dX9_finding_5 rfl ?_
  refine P_iadd X 7 dX9_finding_6 rfl ?_
  refine pY_0_0 X 10 dX9_finding_7 rfl fw_X9_107 ?_
  refine P_iload1 X 11 dX9_finding_10 rfl ?_
  exact P_iret X hQ dX9_finding_11 ⟨rfl, rfl⟩
set_option maxHeartbeats 4000000 in
set_option maxRecDepth 100000 in
theorem k_X8_isAsk {d : Nat} {E : Ev} {a : Int32} {h : Hp} (hd : 1 ≤ d)  : Cl d yX8_isAsk cX8_isAsk 2 (some .boolean) E (wdX E) [.ref (E.2.2.1 0), .int a] h (Rt (some (.int (bI (inB a 0 (h 1 8 - 1))))) h) := by
  refine Cl_of [some (.ref (E.2.2.1 0)), some (.int a)] (by decide) rfl (Nat.le_of_ble_eq_true rfl) (fun K A X hQ => ?_)
  refine P_iload1 X 1 dX8_isAsk_0 rfl ?_
  refine P_iconst X (0) rfl 2 dX8_isAsk_1 rfl ?_
  refine P_aload0 X 3 dX8_isAsk_2 rfl ?_
  refine gX_0_0 X 6 dX8_isAsk_3 rfl fl_X8_10 ?_
  refine gX_1_8 X 9 dX8_isAsk_6 rfl fl_X8_95 ?_
  refine P_iconst X (1) rfl 10 dX8_isAsk_9 rfl ?_
  refine P_isub X 11 dX8_isAsk_10 rfl ?_
  refine S3r X 14 dX8_isAsk_11 rfl lk_X8_79 ms_X8_within rfl (by omega) (Nat.le_of_ble_eq_true rfl) (k_X8_within (by omega)) ?_
  exact P_zret X hQ dX8_isAsk_14 (bI_01 _) ⟨rfl, rfl⟩
set_option maxHeartbeats 4000000 in
set_option maxRecDepth 100000 in
theorem k_X8_isThing {d : Nat} {E : Ev} {a : Int32} {h : Hp} (hd : 1 ≤ d)  : Cl d yX8_isThing cX8_isThing 2 (some .boolean) E (wdX E) [.ref (E.2.2.1 0), .int a] h (Rt (some (.int (bI (inB a 0 (h 2 6 - 1))))) h) := by
  refine Cl_of [some (.ref (E.2.2.1 0)), some (.int a)] (by decide) rfl (Nat.le_of_ble_eq_true rfl) (fun K A X hQ => ?_)
  refine P_iload1 X 1 dX8_isThing_0 rfl ?_
  refine P_iconst X (0) rfl 2 dX8_isThing_1 rfl ?_
  refine P_aload0 X 3 dX8_isThing_2 rfl ?_
  refine gX_0_1 X 6 dX8_isThing_3 rfl fl_X8_19 ?_
  refine gX_2_6 X 9 dX8_isThing_6 rfl fl_X8_292 ?_
  refine P_iconst X (1) rfl 10 dX8_isThing_9 rfl ?_
  refine P_isub X 11 dX8_isThing_10 rfl ?_
  refine S3r X 14 dX8_isThing_11 rfl lk_X8_79 ms_X8_within rfl (by omega) (Nat.le_of_ble_eq_true rfl) (k_X8_within (by omega)) ?_
  exact P_zret X hQ dX8_isThing_14 (bI_01 _) ⟨rfl, rfl⟩
set_option maxHeartbeats 4000000 in
set_option maxRecDepth 100000 in
theorem k_X9_isAsk {d : Nat} {E : Ev} {a : Int32} {h : Hp} (hd : 1 ≤ d)  : Cl d yX9_isAsk cX9_isAsk 2 (some .boolean) E (wdY E) [.ref (E.2.2.1 0), .int a] h (Rt (some (.int (bI (inB a 0 (h 0 1 - 1))))) h) := by
  refine Cl_of [some (.ref (E.2.2.1 0)), some (.int a)] (by decide) rfl (Nat.le_of_ble_eq_true rfl) (fun K A X hQ => ?_)
  refine P_iload1 X 1 dX9_isAsk_0 rfl ?_
  refine P_iconst X (0) rfl 2 dX9_isAsk_1 rfl ?_
  refine P_aload0 X 3 dX9_isAsk_2 rfl ?_
  refine gY_0_1 X 6 dX9_isAsk_3 rfl fl_X9_115 ?_
  refine P_iconst X (1) rfl 7 dX9_isAsk_6 rfl ?_
  refine P_isub X 8 dX9_isAsk_7 rfl ?_
  refine S3r X 11 dX9_isAsk_8 rfl lk_X9_111 ms_X9_in rfl (by omega) (Nat.le_of_ble_eq_true rfl) (k_X9_in (by omega)) ?_
  exact P_zret X hQ dX9_isAsk_11 (bI_01 _) ⟨rfl, rfl⟩
set_option maxHeartbeats 4000000 in
set_option maxRecDepth 100000 in
theorem k_X9_isThing {d : Nat} {E : Ev} {a : Int32} {h : Hp} (hd : 1 ≤ d)  : Cl d yX9_isThing cX9_isThing 2 (some .boolean) E (wdY E) [.ref (E.2.2.1 0), .int a] h (Rt (some (.int (bI (inB a 0 (h 0 10 - 1))))) h) := by
  refine Cl_of [some (.ref (E.2.2.1 0)), some (.int a)] (by decide) rfl (Nat.le_of_ble_eq_true rfl) (fun K A X hQ => ?_)
  refine P_iload1 X 1 dX9_isThing_0 rfl ?_
  refine P_iconst X (0) rfl 2 dX9_isThing_1 rfl ?_
  refine P_aload0 X 3 dX9_isThing_2 rfl ?_
  refine gY_0_10 X 6 dX9_isThing_3 rfl fl_X9_118 ?_
  refine P_iconst X (1) rfl 7 dX9_isThing_6 rfl ?_
  refine P_isub X 8 dX9_isThing_7 rfl ?_
  refine S3r X 11 dX9_isThing_8 rfl lk_X9_111 ms_X9_in rfl (by omega) (Nat.le_of_ble_eq_true rfl) (k_X9_in (by omega)) ?_
  exact P_zret X hQ dX9_isThing_11 (bI_01 _) ⟨rfl, rfl⟩
set_option maxHeartbeats 4000000 in
set_option maxRecDepth 100000 in
theorem k_X0_latestDay {d : Nat} {E : Ev} {n : Nat} {h : Hp} (hd : 0 ≤ d) (hc : h 1 8 = nI n) (hn : n ≤ 40) : Cl d yX0_latestDay cX0_latestDay 1 (some .int) E (wdX E) [.ref (E.2.2.1 1)] h (Rt (some (.int (latF (h 16) n))) h) := by
  refine Cl_of [some (.ref (E.2.2.1 1))] (by decide) rfl (Nat.le_of_ble_eq_true rfl) (fun K A X hQ => ?_)
  refine P_aload0 X 1 dX0_latestDay_0 rfl ?_
  refine gX_1_8 X 4 dX0_latestDay_1 rfl fl_X0_36 ?_
  refine P_if_ne X 11 7 dX0_latestDay_4 rfl rfl (fun b4 => ?_) (fun b4 => ?_)
  · have hz : ¬ n = 0 := by
      intro z
      subst z
      exact b4 hc
    refine P_aload0 X 12 dX0_latestDay_11 rfl ?_
    refine gX_1_4 X 15 dX0_latestDay_12 rfl fl_X0_24 ?_
    refine P_aload0 X 16 dX0_latestDay_15 rfl ?_
    refine gX_1_8 X 19 dX0_latestDay_16 rfl fl_X0_36 ?_
    refine P_iconst X (1) rfl 20 dX0_latestDay_19 rfl ?_
    refine P_isub X 21 dX0_latestDay_20 rfl ?_
    refine lX_16 X 22 dX0_latestDay_21 rfl (by rw [hc]; exact pk_sub (b := 1) (by omega)) (by omega) ?_
    exact P_iret X hQ dX0_latestDay_22 (rti (if_neg hz).symm)
  · have hz : n = 0 := by
      rw [hc] at b4
      exact Classical.byContradiction fun z => nI_ne0 (by omega) (by omega) b4
    refine P_iconst X (0) rfl 8 dX0_latestDay_7 rfl ?_
    refine P_goto X 22 dX0_latestDay_8 rfl ?_
    exact P_iret X hQ dX0_latestDay_22 (rti (if_pos hz).symm)
set_option maxHeartbeats 4000000 in
set_option maxRecDepth 100000 in
theorem k_X9_latest {d : Nat} {E : Ev} {n : Nat} {h : Hp} (hd : 0 ≤ d) (hc : h 0 1 = nI n) (hn : n ≤ 40) : Cl d yX9_latest cX9_latest 1 (some .int) E (wdY E) [.ref (E.2.2.1 0)] h (Rt (some (.int (latF (h 5) n))) h) := by
  refine Cl_of [some (.ref (E.2.2.1 0))] (by decide) rfl (Nat.le_of_ble_eq_true rfl) (fun K A X hQ => ?_)
  refine P_aload0 X 1 dX9_latest_0 rfl ?_
  refine gY_0_1 X 4 dX9_latest_1 rfl fl_X9_115 ?_
  refine P_if_ne X 11 7 dX9_latest_4 rfl rfl (fun b4 => ?_) (fun b4 => ?_)
  · have hz : ¬ n = 0 := by
      intro z
      subst z
      exact b4 hc
    refine P_aload0 X 12 dX9_latest_11 rfl ?_
    refine gY_0_6 X 15 dX9_latest_12 rfl fl_X9_22 ?_
    refine P_aload0 X 16 dX9_latest_15 rfl ?_
    refine gY_0_1 X 19 dX9_latest_16 rfl fl_X9_115 ?_
    refine P_iconst X (1) rfl 20 dX9_latest_19 rfl ?_
    refine P_isub X 21 dX9_latest_20 rfl ?_
    refine lY_5 X 22 dX9_latest_21 rfl (by rw [hc]; exact pk_sub (b := 1) (by omega)) (by omega) ?_
    exact P_iret X hQ dX9_latest_22 (rti (if_neg hz).symm)
  · have hz : n = 0 := by
      rw [hc] at b4
      exact Classical.byContradiction fun z => nI_ne0 (by omega) (by omega) b4
    refine P_iconst X (0) rfl 8 dX9_latest_7 rfl ?_
    refine P_goto X 22 dX9_latest_8 rfl ?_
    exact P_iret X hQ dX9_latest_22 (rti (if_pos hz).symm)
end
