section
-- ===== PART A: goes FIRST, ahead of the names: the tables' words, and 'selects' of the private methods out of them =====
/-- a private method of a class that the tables say can be made, by its rows of tables_1 -/
def lw_okq (q : MethodName × Nat) : Prop := (q.1.cls ≠ "java/lang/invoke/MethodHandle" ∧ q.1.cls ≠ "java/lang/invoke/VarHandle") ∧ Cond.instantiable q.1.cls q.2 ∈ tables_1 ∧ Cond.privateMethod q.1 ∈ tables_1 ∧ Cond.instanceMethod q.1 ∈ tables_1
theorem lw_p0 : lw_okq (⟨"java/util/ArrayList", "add", "(Ljava/lang/Object;[Ljava/lang/Object;I)V"⟩, 3) := ⟨⟨by decide +kernel, by decide +kernel⟩, List.mem_of_getElem? (i := 30) (by decide +kernel), List.mem_of_getElem? (i := 198) (by decide +kernel), List.mem_of_getElem? (i := 199) (by decide +kernel)⟩
theorem lw_p1 : lw_okq (⟨"java/util/ArrayList", "grow", "()[Ljava/lang/Object;"⟩, 3) := ⟨⟨by decide +kernel, by decide +kernel⟩, List.mem_of_getElem? (i := 30) (by decide +kernel), List.mem_of_getElem? (i := 202) (by decide +kernel), List.mem_of_getElem? (i := 203) (by decide +kernel)⟩
theorem lw_p2 : lw_okq (⟨"java/util/ArrayList", "grow", "(I)[Ljava/lang/Object;"⟩, 3) := ⟨⟨by decide +kernel, by decide +kernel⟩, List.mem_of_getElem? (i := 30) (by decide +kernel), List.mem_of_getElem? (i := 206) (by decide +kernel), List.mem_of_getElem? (i := 207) (by decide +kernel)⟩
theorem lw_p3 : lw_okq (⟨"WaterMen", "jarAt", "(I)LWaterMen$Jar;"⟩, 9) := ⟨⟨by decide +kernel, by decide +kernel⟩, List.mem_of_getElem? (i := 22) (by decide +kernel), List.mem_of_getElem? (i := 296) (by decide +kernel), List.mem_of_getElem? (i := 297) (by decide +kernel)⟩
theorem lw_p4 : lw_okq (⟨"WaterMen", "fountainAt", "(I)LWaterMen$Fountain;"⟩, 9) := ⟨⟨by decide +kernel, by decide +kernel⟩, List.mem_of_getElem? (i := 22) (by decide +kernel), List.mem_of_getElem? (i := 318) (by decide +kernel), List.mem_of_getElem? (i := 319) (by decide +kernel)⟩
theorem lw_p5 : lw_okq (⟨"WaterMen", "manAt", "(I)LWaterMen$Man;"⟩, 9) := ⟨⟨by decide +kernel, by decide +kernel⟩, List.mem_of_getElem? (i := 22) (by decide +kernel), List.mem_of_getElem? (i := 447) (by decide +kernel), List.mem_of_getElem? (i := 448) (by decide +kernel)⟩
theorem lw_p6 : lw_okq (⟨"java/util/ArrayList", "fastRemove", "([Ljava/lang/Object;I)V"⟩, 3) := ⟨⟨by decide +kernel, by decide +kernel⟩, List.mem_of_getElem? (i := 30) (by decide +kernel), List.mem_of_getElem? (i := 472) (by decide +kernel), List.mem_of_getElem? (i := 473) (by decide +kernel)⟩
theorem lw_p7 : lw_okq (⟨"WaterMen$Fares", "readClauses", "()I"⟩, 5) := ⟨⟨by decide +kernel, by decide +kernel⟩, List.mem_of_getElem? (i := 56) (by decide +kernel), List.mem_of_getElem? (i := 505) (by decide +kernel), List.mem_of_getElem? (i := 506) (by decide +kernel)⟩
theorem lw_p8 : lw_okq (⟨"WaterMen$Fares", "readClause", "()Z"⟩, 5) := ⟨⟨by decide +kernel, by decide +kernel⟩, List.mem_of_getElem? (i := 56) (by decide +kernel), List.mem_of_getElem? (i := 509) (by decide +kernel), List.mem_of_getElem? (i := 510) (by decide +kernel)⟩
theorem lw_p9 : lw_okq (⟨"WaterMen$Fares", "readNumber", "(II)I"⟩, 5) := ⟨⟨by decide +kernel, by decide +kernel⟩, List.mem_of_getElem? (i := 56) (by decide +kernel), List.mem_of_getElem? (i := 513) (by decide +kernel), List.mem_of_getElem? (i := 514) (by decide +kernel)⟩
theorem lw_p10 : lw_okq (⟨"WaterMen$Fares", "skipBlanks", "()V"⟩, 5) := ⟨⟨by decide +kernel, by decide +kernel⟩, List.mem_of_getElem? (i := 56) (by decide +kernel), List.mem_of_getElem? (i := 517) (by decide +kernel), List.mem_of_getElem? (i := 518) (by decide +kernel)⟩
theorem lw_p11 : lw_okq (⟨"WaterMen$Fares", "readSign", "(C)Z"⟩, 5) := ⟨⟨by decide +kernel, by decide +kernel⟩, List.mem_of_getElem? (i := 56) (by decide +kernel), List.mem_of_getElem? (i := 522) (by decide +kernel), List.mem_of_getElem? (i := 523) (by decide +kernel)⟩
theorem lw_p12 : lw_okq (⟨"WaterMen$Fares", "isAtEnd", "()Z"⟩, 5) := ⟨⟨by decide +kernel, by decide +kernel⟩, List.mem_of_getElem? (i := 56) (by decide +kernel), List.mem_of_getElem? (i := 526) (by decide +kernel), List.mem_of_getElem? (i := 527) (by decide +kernel)⟩
theorem lw_p13 : lw_okq (⟨"WaterMen$Fares", "useDraft", "()V"⟩, 5) := ⟨⟨by decide +kernel, by decide +kernel⟩, List.mem_of_getElem? (i := 56) (by decide +kernel), List.mem_of_getElem? (i := 530) (by decide +kernel), List.mem_of_getElem? (i := 531) (by decide +kernel)⟩
theorem lw_p14 : lw_okq (⟨"WaterMen", "passMinute", "()V"⟩, 9) := ⟨⟨by decide +kernel, by decide +kernel⟩, List.mem_of_getElem? (i := 22) (by decide +kernel), List.mem_of_getElem? (i := 546) (by decide +kernel), List.mem_of_getElem? (i := 547) (by decide +kernel)⟩
theorem lw_p15 : lw_okq (⟨"WaterMen", "letFlow", "(LWaterMen$Fountain;)V"⟩, 9) := ⟨⟨by decide +kernel, by decide +kernel⟩, List.mem_of_getElem? (i := 22) (by decide +kernel), List.mem_of_getElem? (i := 550) (by decide +kernel), List.mem_of_getElem? (i := 551) (by decide +kernel)⟩
def lw_privs_1 : List (MethodName × Nat) := [(⟨"java/util/ArrayList", "add", "(Ljava/lang/Object;[Ljava/lang/Object;I)V"⟩, 3), (⟨"java/util/ArrayList", "grow", "()[Ljava/lang/Object;"⟩, 3), (⟨"java/util/ArrayList", "grow", "(I)[Ljava/lang/Object;"⟩, 3), (⟨"WaterMen", "jarAt", "(I)LWaterMen$Jar;"⟩, 9), (⟨"WaterMen", "fountainAt", "(I)LWaterMen$Fountain;"⟩, 9), (⟨"WaterMen", "manAt", "(I)LWaterMen$Man;"⟩, 9), (⟨"java/util/ArrayList", "fastRemove", "([Ljava/lang/Object;I)V"⟩, 3), (⟨"WaterMen$Fares", "readClauses", "()I"⟩, 5), (⟨"WaterMen$Fares", "readClause", "()Z"⟩, 5), (⟨"WaterMen$Fares", "readNumber", "(II)I"⟩, 5), (⟨"WaterMen$Fares", "skipBlanks", "()V"⟩, 5), (⟨"WaterMen$Fares", "readSign", "(C)Z"⟩, 5), (⟨"WaterMen$Fares", "isAtEnd", "()Z"⟩, 5), (⟨"WaterMen$Fares", "useDraft", "()V"⟩, 5), (⟨"WaterMen", "passMinute", "()V"⟩, 9), (⟨"WaterMen", "letFlow", "(LWaterMen$Fountain;)V"⟩, 9)]
theorem lw_r1 : ∀ q ∈ lw_privs_1, lw_okq q := List.forall_mem_cons.mpr ⟨lw_p0, List.forall_mem_cons.mpr ⟨lw_p1, List.forall_mem_cons.mpr ⟨lw_p2, List.forall_mem_cons.mpr ⟨lw_p3, List.forall_mem_cons.mpr ⟨lw_p4, List.forall_mem_cons.mpr ⟨lw_p5, List.forall_mem_cons.mpr ⟨lw_p6, List.forall_mem_cons.mpr ⟨lw_p7, List.forall_mem_cons.mpr ⟨lw_p8, List.forall_mem_cons.mpr ⟨lw_p9, List.forall_mem_cons.mpr ⟨lw_p10, List.forall_mem_cons.mpr ⟨lw_p11, List.forall_mem_cons.mpr ⟨lw_p12, List.forall_mem_cons.mpr ⟨lw_p13, List.forall_mem_cons.mpr ⟨lw_p14, List.forall_mem_cons.mpr ⟨lw_p15, fun _ h => absurd h List.not_mem_nil⟩⟩⟩⟩⟩⟩⟩⟩⟩⟩⟩⟩⟩⟩⟩⟩
theorem lw_p16 : lw_okq (⟨"WaterMen", "fillNext", "(LWaterMen$Fountain;)V"⟩, 9) := ⟨⟨by decide +kernel, by decide +kernel⟩, List.mem_of_getElem? (i := 22) (by decide +kernel), List.mem_of_getElem? (i := 555) (by decide +kernel), List.mem_of_getElem? (i := 556) (by decide +kernel)⟩
theorem lw_p17 : lw_okq (⟨"WaterMen", "walk", "(LWaterMen$Man;)V"⟩, 9) := ⟨⟨by decide +kernel, by decide +kernel⟩, List.mem_of_getElem? (i := 22) (by decide +kernel), List.mem_of_getElem? (i := 616) (by decide +kernel), List.mem_of_getElem? (i := 617) (by decide +kernel)⟩
theorem lw_p18 : lw_okq (⟨"WaterMen", "pour", "(LWaterMen$Man;)V"⟩, 9) := ⟨⟨by decide +kernel, by decide +kernel⟩, List.mem_of_getElem? (i := 22) (by decide +kernel), List.mem_of_getElem? (i := 620) (by decide +kernel), List.mem_of_getElem? (i := 621) (by decide +kernel)⟩
theorem lw_p19 : lw_okq (⟨"WaterMen$Giving", "toilWith", "(II)I"⟩, 3) := ⟨⟨by decide +kernel, by decide +kernel⟩, List.mem_of_getElem? (i := 99) (by decide +kernel), List.mem_of_getElem? (i := 716) (by decide +kernel), List.mem_of_getElem? (i := 717) (by decide +kernel)⟩
theorem lw_p20 : lw_okq (⟨"WaterMen$Giving", "firstBest", "(II)I"⟩, 3) := ⟨⟨by decide +kernel, by decide +kernel⟩, List.mem_of_getElem? (i := 99) (by decide +kernel), List.mem_of_getElem? (i := 730) (by decide +kernel), List.mem_of_getElem? (i := 731) (by decide +kernel)⟩
theorem lw_p21 : lw_okq (⟨"WaterMen", "countDoing", "(I)I"⟩, 9) := ⟨⟨by decide +kernel, by decide +kernel⟩, List.mem_of_getElem? (i := 22) (by decide +kernel), List.mem_of_getElem? (i := 746) (by decide +kernel), List.mem_of_getElem? (i := 747) (by decide +kernel)⟩
theorem lw_p22 : lw_okq (⟨"WaterMenModel", "isMinutes", "(II)Z"⟩, 41) := ⟨⟨by decide +kernel, by decide +kernel⟩, List.mem_of_getElem? (i := 750) (by decide +kernel), List.mem_of_getElem? (i := 892) (by decide +kernel), List.mem_of_getElem? (i := 893) (by decide +kernel)⟩
theorem lw_p23 : lw_okq (⟨"WaterMenModel", "isJar", "(I)Z"⟩, 41) := ⟨⟨by decide +kernel, by decide +kernel⟩, List.mem_of_getElem? (i := 750) (by decide +kernel), List.mem_of_getElem? (i := 900) (by decide +kernel), List.mem_of_getElem? (i := 901) (by decide +kernel)⟩
theorem lw_p24 : lw_okq (⟨"WaterMenModel", "isFountain", "(I)Z"⟩, 41) := ⟨⟨by decide +kernel, by decide +kernel⟩, List.mem_of_getElem? (i := 750) (by decide +kernel), List.mem_of_getElem? (i := 908) (by decide +kernel), List.mem_of_getElem? (i := 909) (by decide +kernel)⟩
theorem lw_p25 : lw_okq (⟨"WaterMenModel", "canGo", "(II)Z"⟩, 41) := ⟨⟨by decide +kernel, by decide +kernel⟩, List.mem_of_getElem? (i := 750) (by decide +kernel), List.mem_of_getElem? (i := 912) (by decide +kernel), List.mem_of_getElem? (i := 913) (by decide +kernel)⟩
theorem lw_p26 : lw_okq (⟨"WaterMenModel", "joinRow", "(I)V"⟩, 41) := ⟨⟨by decide +kernel, by decide +kernel⟩, List.mem_of_getElem? (i := 750) (by decide +kernel), List.mem_of_getElem? (i := 916) (by decide +kernel), List.mem_of_getElem? (i := 917) (by decide +kernel)⟩
theorem lw_p27 : lw_okq (⟨"WaterMenModel", "isMan", "(I)Z"⟩, 41) := ⟨⟨by decide +kernel, by decide +kernel⟩, List.mem_of_getElem? (i := 750) (by decide +kernel), List.mem_of_getElem? (i := 924) (by decide +kernel), List.mem_of_getElem? (i := 925) (by decide +kernel)⟩
theorem lw_p28 : lw_okq (⟨"WaterMenModel", "readFares", "()I"⟩, 41) := ⟨⟨by decide +kernel, by decide +kernel⟩, List.mem_of_getElem? (i := 750) (by decide +kernel), List.mem_of_getElem? (i := 953) (by decide +kernel), List.mem_of_getElem? (i := 954) (by decide +kernel)⟩
theorem lw_p29 : lw_okq (⟨"WaterMenModel", "readClause", "()Z"⟩, 41) := ⟨⟨by decide +kernel, by decide +kernel⟩, List.mem_of_getElem? (i := 750) (by decide +kernel), List.mem_of_getElem? (i := 957) (by decide +kernel), List.mem_of_getElem? (i := 958) (by decide +kernel)⟩
theorem lw_p30 : lw_okq (⟨"WaterMenModel", "number", "(II)I"⟩, 41) := ⟨⟨by decide +kernel, by decide +kernel⟩, List.mem_of_getElem? (i := 750) (by decide +kernel), List.mem_of_getElem? (i := 961) (by decide +kernel), List.mem_of_getElem? (i := 962) (by decide +kernel)⟩
theorem lw_p31 : lw_okq (⟨"WaterMenModel", "next", "()I"⟩, 41) := ⟨⟨by decide +kernel, by decide +kernel⟩, List.mem_of_getElem? (i := 750) (by decide +kernel), List.mem_of_getElem? (i := 965) (by decide +kernel), List.mem_of_getElem? (i := 966) (by decide +kernel)⟩
def lw_privs_2 : List (MethodName × Nat) := [(⟨"WaterMen", "fillNext", "(LWaterMen$Fountain;)V"⟩, 9), (⟨"WaterMen", "walk", "(LWaterMen$Man;)V"⟩, 9), (⟨"WaterMen", "pour", "(LWaterMen$Man;)V"⟩, 9), (⟨"WaterMen$Giving", "toilWith", "(II)I"⟩, 3), (⟨"WaterMen$Giving", "firstBest", "(II)I"⟩, 3), (⟨"WaterMen", "countDoing", "(I)I"⟩, 9), (⟨"WaterMenModel", "isMinutes", "(II)Z"⟩, 41), (⟨"WaterMenModel", "isJar", "(I)Z"⟩, 41), (⟨"WaterMenModel", "isFountain", "(I)Z"⟩, 41), (⟨"WaterMenModel", "canGo", "(II)Z"⟩, 41), (⟨"WaterMenModel", "joinRow", "(I)V"⟩, 41), (⟨"WaterMenModel", "isMan", "(I)Z"⟩, 41), (⟨"WaterMenModel", "readFares", "()I"⟩, 41), (⟨"WaterMenModel", "readClause", "()Z"⟩, 41), (⟨"WaterMenModel", "number", "(II)I"⟩, 41), (⟨"WaterMenModel", "next", "()I"⟩, 41)]
theorem lw_r2 : ∀ q ∈ lw_privs_2, lw_okq q := List.forall_mem_cons.mpr ⟨lw_p16, List.forall_mem_cons.mpr ⟨lw_p17, List.forall_mem_cons.mpr ⟨lw_p18, List.forall_mem_cons.mpr ⟨lw_p19, List.forall_mem_cons.mpr ⟨lw_p20, List.forall_mem_cons.mpr ⟨lw_p21, List.forall_mem_cons.mpr ⟨lw_p22, List.forall_mem_cons.mpr ⟨lw_p23, List.forall_mem_cons.mpr ⟨lw_p24, List.forall_mem_cons.mpr ⟨lw_p25, List.forall_mem_cons.mpr ⟨lw_p26, List.forall_mem_cons.mpr ⟨lw_p27, List.forall_mem_cons.mpr ⟨lw_p28, List.forall_mem_cons.mpr ⟨lw_p29, List.forall_mem_cons.mpr ⟨lw_p30, List.forall_mem_cons.mpr ⟨lw_p31, fun _ h => absurd h List.not_mem_nil⟩⟩⟩⟩⟩⟩⟩⟩⟩⟩⟩⟩⟩⟩⟩⟩
theorem lw_p32 : lw_okq (⟨"WaterMenModel", "minute", "()V"⟩, 41) := ⟨⟨by decide +kernel, by decide +kernel⟩, List.mem_of_getElem? (i := 750) (by decide +kernel), List.mem_of_getElem? (i := 977) (by decide +kernel), List.mem_of_getElem? (i := 978) (by decide +kernel)⟩
theorem lw_p33 : lw_okq (⟨"WaterMenModel", "flow", "(I)V"⟩, 41) := ⟨⟨by decide +kernel, by decide +kernel⟩, List.mem_of_getElem? (i := 750) (by decide +kernel), List.mem_of_getElem? (i := 981) (by decide +kernel), List.mem_of_getElem? (i := 982) (by decide +kernel)⟩
theorem lw_p34 : lw_okq (⟨"WaterMenModel", "fill", "(I)V"⟩, 41) := ⟨⟨by decide +kernel, by decide +kernel⟩, List.mem_of_getElem? (i := 750) (by decide +kernel), List.mem_of_getElem? (i := 985) (by decide +kernel), List.mem_of_getElem? (i := 986) (by decide +kernel)⟩
theorem lw_p35 : lw_okq (⟨"WaterMenModel", "isAhead", "(II)Z"⟩, 41) := ⟨⟨by decide +kernel, by decide +kernel⟩, List.mem_of_getElem? (i := 750) (by decide +kernel), List.mem_of_getElem? (i := 989) (by decide +kernel), List.mem_of_getElem? (i := 990) (by decide +kernel)⟩
theorem lw_p36 : lw_okq (⟨"WaterMenModel", "wayOf", "(IIZ)I"⟩, 41) := ⟨⟨by decide +kernel, by decide +kernel⟩, List.mem_of_getElem? (i := 750) (by decide +kernel), List.mem_of_getElem? (i := 996) (by decide +kernel), List.mem_of_getElem? (i := 997) (by decide +kernel)⟩
theorem lw_p37 : lw_okq (⟨"WaterMenModel", "pour", "(I)V"⟩, 41) := ⟨⟨by decide +kernel, by decide +kernel⟩, List.mem_of_getElem? (i := 750) (by decide +kernel), List.mem_of_getElem? (i := 1000) (by decide +kernel), List.mem_of_getElem? (i := 1001) (by decide +kernel)⟩
theorem lw_p38 : lw_okq (⟨"WaterMenModel", "keep", "(III)V"⟩, 41) := ⟨⟨by decide +kernel, by decide +kernel⟩, List.mem_of_getElem? (i := 750) (by decide +kernel), List.mem_of_getElem? (i := 1004) (by decide +kernel), List.mem_of_getElem? (i := 1005) (by decide +kernel)⟩
theorem lw_p39 : lw_okq (⟨"WaterMenModel", "goDown", "(I)V"⟩, 41) := ⟨⟨by decide +kernel, by decide +kernel⟩, List.mem_of_getElem? (i := 750) (by decide +kernel), List.mem_of_getElem? (i := 1008) (by decide +kernel), List.mem_of_getElem? (i := 1009) (by decide +kernel)⟩
def lw_privs_3 : List (MethodName × Nat) := [(⟨"WaterMenModel", "minute", "()V"⟩, 41), (⟨"WaterMenModel", "flow", "(I)V"⟩, 41), (⟨"WaterMenModel", "fill", "(I)V"⟩, 41), (⟨"WaterMenModel", "isAhead", "(II)Z"⟩, 41), (⟨"WaterMenModel", "wayOf", "(IIZ)I"⟩, 41), (⟨"WaterMenModel", "pour", "(I)V"⟩, 41), (⟨"WaterMenModel", "keep", "(III)V"⟩, 41), (⟨"WaterMenModel", "goDown", "(I)V"⟩, 41)]
theorem lw_r3 : ∀ q ∈ lw_privs_3, lw_okq q := List.forall_mem_cons.mpr ⟨lw_p32, List.forall_mem_cons.mpr ⟨lw_p33, List.forall_mem_cons.mpr ⟨lw_p34, List.forall_mem_cons.mpr ⟨lw_p35, List.forall_mem_cons.mpr ⟨lw_p36, List.forall_mem_cons.mpr ⟨lw_p37, List.forall_mem_cons.mpr ⟨lw_p38, List.forall_mem_cons.mpr ⟨lw_p39, fun _ h => absurd h List.not_mem_nil⟩⟩⟩⟩⟩⟩⟩⟩
def lw_privs : List (MethodName × Nat) := lw_privs_1 ++ (lw_privs_2 ++ (lw_privs_3))
def lw_tbl : List Cond := k2_sels lw_privs ++ tables_1
theorem lw_privs_ok : ∀ q ∈ lw_privs, lw_okq q := by
  show ∀ q ∈ lw_privs_1 ++ (lw_privs_2 ++ (lw_privs_3)), lw_okq q
  exact List.forall_mem_append.mpr ⟨lw_r1, List.forall_mem_append.mpr ⟨lw_r2, lw_r3⟩⟩
end
section
def RX0 : String := "WaterMen$Donkey"
def TX0 : u_T := fun k => match k with
  | 0 => ("WaterMen$Man", "number", "I", true)
  | 1 => ("WaterMen$Man", "load", "I", true)
  | 2 => ("WaterMen$Man", "fountain", "LWaterMen$Fountain;", false)
  | 3 => ("WaterMen$Man", "jar", "LWaterMen$Jar;", false)
  | 4 => ("WaterMen$Man", "rank", "I", false)
  | 5 => ("WaterMen$Man", "doing", "I", false)
  | 6 => ("WaterMen$Man", "toGo", "I", false)
  | 7 => ("WaterMen$Man", "carries", "I", false)
  | 8 => ("WaterMen$Man", "earned", "I", false)
  | 9 => ("WaterMen$Man", "setOutTime", "I", false)
  | 10 => ("WaterMen$Man", "filledFrom", "I", false)
  | 11 => ("WaterMen$Man", "filledTime", "I", false)
  | _ => ("WaterMen$Donkey", "speed", "I", false)
def tyX0 : Nat → FieldType := fun k => match k with
  | 0 => .int
  | 1 => .int
  | 2 => .object "WaterMen$Fountain"
  | 3 => .object "WaterMen$Jar"
  | 4 => .int
  | 5 => .int
  | 6 => .int
  | 7 => .int
  | 8 => .int
  | 9 => .int
  | 10 => .int
  | 11 => .int
  | _ => .int
theorem nmX0 : ∀ a, a < 13 → ∀ b, b < 13 → a ≠ b → (TX0 a).2.1 ≠ (TX0 b).2.1 := by decide +kernel
theorem tyX0_ok : ∀ k, k < 13 → parseFieldDescriptor (TX0 k).2.2.1 = some (tyX0 k) := by decide +kernel
abbrev cX0_init : ByteArray := prog_2_method_1_code
def yX0_init : MethodName := ⟨RX0, "<init>", "(IILWaterMen$Fountain;LWaterMen$Jar;)V"⟩
abbrev cX0_kind : ByteArray := prog_2_method_2_code
def yX0_kind : MethodName := ⟨RX0, "kind", "()I"⟩
abbrev cX0_walkTime : ByteArray := prog_2_method_3_code
def yX0_walkTime : MethodName := ⟨RX0, "walkTime", "(I)I"⟩
abbrev cX0_climbTime : ByteArray := prog_2_method_4_code
def yX0_climbTime : MethodName := ⟨RX0, "climbTime", "(I)I"⟩
def RX1 : String := "WaterMen$Fares"
def TX1 : u_T := fun k => match k with
  | 0 => ("WaterMen$Fares", "tape", "[I", true)
  | 1 => ("WaterMen$Fares", "prices", "[I", false)
  | 2 => ("WaterMen$Fares", "draft", "[I", false)
  | 3 => ("WaterMen$Fares", "length", "I", false)
  | _ => ("WaterMen$Fares", "place", "I", false)
def tyX1 : Nat → FieldType := fun k => match k with
  | 0 => .array .int
  | 1 => .array .int
  | 2 => .array .int
  | 3 => .int
  | _ => .int
theorem nmX1 : ∀ a, a < 5 → ∀ b, b < 5 → a ≠ b → (TX1 a).2.1 ≠ (TX1 b).2.1 := by decide +kernel
theorem tyX1_ok : ∀ k, k < 5 → parseFieldDescriptor (TX1 k).2.2.1 = some (tyX1 k) := by decide +kernel
abbrev cX1_init : ByteArray := prog_3_method_1_code
def yX1_init : MethodName := ⟨RX1, "<init>", "()V"⟩
abbrev cX1_priceOf : ByteArray := prog_3_method_2_code
def yX1_priceOf : MethodName := ⟨RX1, "priceOf", "(I)I"⟩
abbrev cX1_append : ByteArray := prog_3_method_3_code
def yX1_append : MethodName := ⟨RX1, "append", "(JI)I"⟩
abbrev cX1_byteOf : ByteArray := prog_3_method_4_code
def yX1_byteOf : MethodName := ⟨RX1, "byteOf", "(JI)I"⟩
abbrev cX1_takeTape : ByteArray := prog_3_method_5_code
def yX1_takeTape : MethodName := ⟨RX1, "takeTape", "()I"⟩
abbrev cX1_useDraft : ByteArray := prog_3_method_6_code
def yX1_useDraft : MethodName := ⟨RX1, "useDraft", "()V"⟩
abbrev cX1_readClauses : ByteArray := prog_3_method_7_code
def yX1_readClauses : MethodName := ⟨RX1, "readClauses", "()I"⟩
abbrev cX1_readClause : ByteArray := prog_3_method_8_code
def yX1_readClause : MethodName := ⟨RX1, "readClause", "()Z"⟩
abbrev cX1_readNumber : ByteArray := prog_3_method_9_code
def yX1_readNumber : MethodName := ⟨RX1, "readNumber", "(II)I"⟩
abbrev cX1_readSign : ByteArray := prog_3_method_10_code
def yX1_readSign : MethodName := ⟨RX1, "readSign", "(C)Z"⟩
abbrev cX1_isAtEnd : ByteArray := prog_3_method_11_code
def yX1_isAtEnd : MethodName := ⟨RX1, "isAtEnd", "()Z"⟩
abbrev cX1_skipBlanks : ByteArray := prog_3_method_12_code
def yX1_skipBlanks : MethodName := ⟨RX1, "skipBlanks", "()V"⟩
def RX2 : String := "WaterMen$Fountain"
def TX2 : u_T := fun k => match k with
  | 0 => ("WaterMen$Fountain", "number", "I", true)
  | 1 => ("WaterMen$Fountain", "flow", "I", true)
  | 2 => ("WaterMen$Fountain", "row", "Ljava/util/ArrayList;", true)
  | 3 => ("WaterMen$Fountain", "isOpen", "Z", false)
  | 4 => ("WaterMen$Fountain", "has", "I", false)
  | _ => ("WaterMen$Fountain", "ranOff", "I", false)
def tyX2 : Nat → FieldType := fun k => match k with
  | 0 => .int
  | 1 => .int
  | 2 => .object "java/util/ArrayList"
  | 3 => .boolean
  | 4 => .int
  | _ => .int
theorem nmX2 : ∀ a, a < 6 → ∀ b, b < 6 → a ≠ b → (TX2 a).2.1 ≠ (TX2 b).2.1 := by decide +kernel
theorem tyX2_ok : ∀ k, k < 6 → parseFieldDescriptor (TX2 k).2.2.1 = some (tyX2 k) := by decide +kernel
abbrev cX2_init : ByteArray := prog_4_method_1_code
def yX2_init : MethodName := ⟨RX2, "<init>", "(II)V"⟩
abbrev cX2_nextToFill : ByteArray := prog_4_method_2_code
def yX2_nextToFill : MethodName := ⟨RX2, "nextToFill", "()LWaterMen$Man;"⟩
abbrev cX2_countAhead : ByteArray := prog_4_method_3_code
def yX2_countAhead : MethodName := ⟨RX2, "countAhead", "(LWaterMen$Man;)I"⟩
def RX3 : String := "WaterMen$Giving"
def TX3 : u_T := fun k => match k with
  | 0 => ("WaterMen$Giving", "toils", "[I", true)
  | 1 => ("WaterMen$Giving", "least", "[I", true)
  | _ => ("WaterMen$Giving", "jarsOfMen", "[I", true)
def tyX3 : Nat → FieldType := fun k => match k with
  | 0 => .array .int
  | 1 => .array .int
  | _ => .array .int
theorem nmX3 : ∀ a, a < 3 → ∀ b, b < 3 → a ≠ b → (TX3 a).2.1 ≠ (TX3 b).2.1 := by decide +kernel
theorem tyX3_ok : ∀ k, k < 3 → parseFieldDescriptor (TX3 k).2.2.1 = some (tyX3 k) := by decide +kernel
abbrev cX3_init : ByteArray := prog_5_method_1_code
def yX3_init : MethodName := ⟨RX3, "<init>", "()V"⟩
abbrev cX3_jarOf : ByteArray := prog_5_method_2_code
def yX3_jarOf : MethodName := ⟨RX3, "jarOf", "(I)I"⟩
abbrev cX3_setToil : ByteArray := prog_5_method_3_code
def yX3_setToil : MethodName := ⟨RX3, "setToil", "(III)V"⟩
abbrev cX3_findLeast : ByteArray := prog_5_method_4_code
def yX3_findLeast : MethodName := ⟨RX3, "findLeast", "(I)I"⟩
abbrev cX3_toilWith : ByteArray := prog_5_method_5_code
def yX3_toilWith : MethodName := ⟨RX3, "toilWith", "(II)I"⟩
abbrev cX3_settle : ByteArray := prog_5_method_6_code
def yX3_settle : MethodName := ⟨RX3, "settle", "(III)V"⟩
abbrev cX3_firstBest : ByteArray := prog_5_method_7_code
def yX3_firstBest : MethodName := ⟨RX3, "firstBest", "(II)I"⟩
def RX4 : String := "WaterMen$Jar"
def TX4 : u_T := fun k => match k with
  | 0 => ("WaterMen$Jar", "number", "I", true)
  | 1 => ("WaterMen$Jar", "floor", "I", true)
  | 2 => ("WaterMen$Jar", "holds", "I", true)
  | 3 => ("WaterMen$Jar", "minutes", "[I", true)
  | 4 => ("WaterMen$Jar", "has", "I", false)
  | 5 => ("WaterMen$Jar", "thirst", "I", false)
  | _ => ("WaterMen$Jar", "drunk", "I", false)
def tyX4 : Nat → FieldType := fun k => match k with
  | 0 => .int
  | 1 => .int
  | 2 => .int
  | 3 => .array .int
  | 4 => .int
  | 5 => .int
  | _ => .int
theorem nmX4 : ∀ a, a < 7 → ∀ b, b < 7 → a ≠ b → (TX4 a).2.1 ≠ (TX4 b).2.1 := by decide +kernel
theorem tyX4_ok : ∀ k, k < 7 → parseFieldDescriptor (TX4 k).2.2.1 = some (tyX4 k) := by decide +kernel
abbrev cX4_init : ByteArray := prog_6_method_1_code
def yX4_init : MethodName := ⟨RX4, "<init>", "(III[I)V"⟩
abbrev cX4_minutesFrom : ByteArray := prog_6_method_2_code
def yX4_minutesFrom : MethodName := ⟨RX4, "minutesFrom", "(LWaterMen$Fountain;)I"⟩
abbrev cX4_drinkOnce : ByteArray := prog_6_method_3_code
def yX4_drinkOnce : MethodName := ⟨RX4, "drinkOnce", "()I"⟩
def RX5 : String := "WaterMen$Man"
def TX5 : u_T := fun k => match k with
  | 0 => ("WaterMen$Man", "number", "I", true)
  | 1 => ("WaterMen$Man", "load", "I", true)
  | 2 => ("WaterMen$Man", "fountain", "LWaterMen$Fountain;", false)
  | 3 => ("WaterMen$Man", "jar", "LWaterMen$Jar;", false)
  | 4 => ("WaterMen$Man", "rank", "I", false)
  | 5 => ("WaterMen$Man", "doing", "I", false)
  | 6 => ("WaterMen$Man", "toGo", "I", false)
  | 7 => ("WaterMen$Man", "carries", "I", false)
  | 8 => ("WaterMen$Man", "earned", "I", false)
  | 9 => ("WaterMen$Man", "setOutTime", "I", false)
  | 10 => ("WaterMen$Man", "filledFrom", "I", false)
  | _ => ("WaterMen$Man", "filledTime", "I", false)
def tyX5 : Nat → FieldType := fun k => match k with
  | 0 => .int
  | 1 => .int
  | 2 => .object "WaterMen$Fountain"
  | 3 => .object "WaterMen$Jar"
  | 4 => .int
  | 5 => .int
  | 6 => .int
  | 7 => .int
  | 8 => .int
  | 9 => .int
  | 10 => .int
  | _ => .int
theorem nmX5 : ∀ a, a < 12 → ∀ b, b < 12 → a ≠ b → (TX5 a).2.1 ≠ (TX5 b).2.1 := by decide +kernel
theorem tyX5_ok : ∀ k, k < 12 → parseFieldDescriptor (TX5 k).2.2.1 = some (tyX5 k) := by decide +kernel
abbrev cX5_init : ByteArray := prog_7_method_1_code
def yX5_init : MethodName := ⟨RX5, "<init>", "(IILWaterMen$Fountain;LWaterMen$Jar;)V"⟩
abbrev cX5_kind : ByteArray := prog_7_method_2_code
def yX5_kind : MethodName := ⟨RX5, "kind", "()I"⟩
abbrev cX5_canGoTo : ByteArray := prog_7_method_3_code
def yX5_canGoTo : MethodName := ⟨RX5, "canGoTo", "(LWaterMen$Jar;)Z"⟩
abbrev cX5_walkTime : ByteArray := prog_7_method_4_code
def yX5_walkTime : MethodName := ⟨RX5, "walkTime", "(I)I"⟩
abbrev cX5_climbTime : ByteArray := prog_7_method_5_code
def yX5_climbTime : MethodName := ⟨RX5, "climbTime", "(I)I"⟩
abbrev cX5_wayUp : ByteArray := prog_7_method_6_code
def yX5_wayUp : MethodName := ⟨RX5, "wayUp", "(LWaterMen$Jar;)I"⟩
abbrev cX5_wayDown : ByteArray := prog_7_method_7_code
def yX5_wayDown : MethodName := ⟨RX5, "wayDown", "(LWaterMen$Jar;)I"⟩
abbrev cX5_toilFor : ByteArray := prog_7_method_8_code
def yX5_toilFor : MethodName := ⟨RX5, "toilFor", "(LWaterMen$Jar;)I"⟩
abbrev cX5_joinRow : ByteArray := prog_7_method_9_code
def yX5_joinRow : MethodName := ⟨RX5, "joinRow", "()V"⟩
abbrev cX5_leaveRow : ByteArray := prog_7_method_10_code
def yX5_leaveRow : MethodName := ⟨RX5, "leaveRow", "()V"⟩
abbrev cX5_goUp : ByteArray := prog_7_method_11_code
def yX5_goUp : MethodName := ⟨RX5, "goUp", "(I)V"⟩
abbrev cX5_goDown : ByteArray := prog_7_method_12_code
def yX5_goDown : MethodName := ⟨RX5, "goDown", "()V"⟩
def RX6 : String := "WaterMen$Pourings"
def TX6 : u_T := fun k => match k with
  | 0 => ("WaterMen$Pourings", "facts", "[I", true)
  | 1 => ("WaterMen$Pourings", "next", "I", false)
  | _ => ("WaterMen$Pourings", "kept", "I", false)
def tyX6 : Nat → FieldType := fun k => match k with
  | 0 => .array .int
  | 1 => .int
  | _ => .int
theorem nmX6 : ∀ a, a < 3 → ∀ b, b < 3 → a ≠ b → (TX6 a).2.1 ≠ (TX6 b).2.1 := by decide +kernel
theorem tyX6_ok : ∀ k, k < 3 → parseFieldDescriptor (TX6 k).2.2.1 = some (tyX6 k) := by decide +kernel
abbrev cX6_init : ByteArray := prog_8_method_1_code
def yX6_init : MethodName := ⟨RX6, "<init>", "()V"⟩
abbrev cX6_keep : ByteArray := prog_8_method_2_code
def yX6_keep : MethodName := ⟨RX6, "keep", "(LWaterMen$Man;II)V"⟩
abbrev cX6_fact : ByteArray := prog_8_method_3_code
def yX6_fact : MethodName := ⟨RX6, "fact", "(II)I"⟩
abbrev cX6_jarsFouledBy : ByteArray := prog_8_method_4_code
def yX6_jarsFouledBy : MethodName := ⟨RX6, "jarsFouledBy", "(II)I"⟩
def RX7 : String := "WaterMen$Strong"
def TX7 : u_T := fun k => match k with
  | 0 => ("WaterMen$Man", "number", "I", true)
  | 1 => ("WaterMen$Man", "load", "I", true)
  | 2 => ("WaterMen$Man", "fountain", "LWaterMen$Fountain;", false)
  | 3 => ("WaterMen$Man", "jar", "LWaterMen$Jar;", false)
  | 4 => ("WaterMen$Man", "rank", "I", false)
  | 5 => ("WaterMen$Man", "doing", "I", false)
  | 6 => ("WaterMen$Man", "toGo", "I", false)
  | 7 => ("WaterMen$Man", "carries", "I", false)
  | 8 => ("WaterMen$Man", "earned", "I", false)
  | 9 => ("WaterMen$Man", "setOutTime", "I", false)
  | 10 => ("WaterMen$Man", "filledFrom", "I", false)
  | _ => ("WaterMen$Man", "filledTime", "I", false)
def tyX7 : Nat → FieldType := fun k => match k with
  | 0 => .int
  | 1 => .int
  | 2 => .object "WaterMen$Fountain"
  | 3 => .object "WaterMen$Jar"
  | 4 => .int
  | 5 => .int
  | 6 => .int
  | 7 => .int
  | 8 => .int
  | 9 => .int
  | 10 => .int
  | _ => .int
theorem nmX7 : ∀ a, a < 12 → ∀ b, b < 12 → a ≠ b → (TX7 a).2.1 ≠ (TX7 b).2.1 := by decide +kernel
theorem tyX7_ok : ∀ k, k < 12 → parseFieldDescriptor (TX7 k).2.2.1 = some (tyX7 k) := by decide +kernel
abbrev cX7_init : ByteArray := prog_9_method_1_code
def yX7_init : MethodName := ⟨RX7, "<init>", "(IILWaterMen$Fountain;LWaterMen$Jar;)V"⟩
abbrev cX7_kind : ByteArray := prog_9_method_2_code
def yX7_kind : MethodName := ⟨RX7, "kind", "()I"⟩
abbrev cX7_canGoTo : ByteArray := prog_9_method_3_code
def yX7_canGoTo : MethodName := ⟨RX7, "canGoTo", "(LWaterMen$Jar;)Z"⟩
abbrev cX7_climbTime : ByteArray := prog_9_method_4_code
def yX7_climbTime : MethodName := ⟨RX7, "climbTime", "(I)I"⟩
def RX8 : String := "WaterMen"
def TX8 : u_T := fun k => match k with
  | 0 => ("WaterMen", "fountains", "Ljava/util/ArrayList;", true)
  | 1 => ("WaterMen", "jars", "Ljava/util/ArrayList;", true)
  | 2 => ("WaterMen", "men", "Ljava/util/ArrayList;", true)
  | 3 => ("WaterMen", "prices", "LWaterMen$Fares;", true)
  | 4 => ("WaterMen", "pourings", "LWaterMen$Pourings;", true)
  | 5 => ("WaterMen", "giving", "LWaterMen$Giving;", true)
  | 6 => ("WaterMen", "sums", "[J", true)
  | 7 => ("WaterMen", "time", "I", false)
  | _ => ("WaterMen", "hundredths", "I", false)
def tyX8 : Nat → FieldType := fun k => match k with
  | 0 => .object "java/util/ArrayList"
  | 1 => .object "java/util/ArrayList"
  | 2 => .object "java/util/ArrayList"
  | 3 => .object "WaterMen$Fares"
  | 4 => .object "WaterMen$Pourings"
  | 5 => .object "WaterMen$Giving"
  | 6 => .array .long
  | 7 => .int
  | _ => .int
theorem nmX8 : ∀ a, a < 9 → ∀ b, b < 9 → a ≠ b → (TX8 a).2.1 ≠ (TX8 b).2.1 := by decide +kernel
theorem tyX8_ok : ∀ k, k < 9 → parseFieldDescriptor (TX8 k).2.2.1 = some (tyX8 k) := by decide +kernel
abbrev cX8_init : ByteArray := prog_1_method_1_code
def yX8_init : MethodName := ⟨RX8, "<init>", "()V"⟩
abbrev cX8_fountain : ByteArray := prog_1_method_2_code
def yX8_fountain : MethodName := ⟨RX8, "fountain", "(I)I"⟩
abbrev cX8_jar : ByteArray := prog_1_method_3_code
def yX8_jar : MethodName := ⟨RX8, "jar", "(IIIIII)I"⟩
abbrev cX8_drinks : ByteArray := prog_1_method_4_code
def yX8_drinks : MethodName := ⟨RX8, "drinks", "(II)I"⟩
abbrev cX8_man : ByteArray := prog_1_method_5_code
def yX8_man : MethodName := ⟨RX8, "man", "(IIII)I"⟩
abbrev cX8_right : ByteArray := prog_1_method_6_code
def yX8_right : MethodName := ⟨RX8, "right", "(II)I"⟩
abbrev cX8_pace : ByteArray := prog_1_method_7_code
def yX8_pace : MethodName := ⟨RX8, "pace", "(II)I"⟩
abbrev cX8_moves : ByteArray := prog_1_method_8_code
def yX8_moves : MethodName := ⟨RX8, "moves", "(III)I"⟩
abbrev cX8_open : ByteArray := prog_1_method_9_code
def yX8_open : MethodName := ⟨RX8, "open", "(IZ)I"⟩
abbrev cX8_drought : ByteArray := prog_1_method_10_code
def yX8_drought : MethodName := ⟨RX8, "drought", "(I)I"⟩
abbrev cX8_type : ByteArray := prog_1_method_11_code
def yX8_type : MethodName := ⟨RX8, "type", "(JI)I"⟩
abbrev cX8_fares : ByteArray := prog_1_method_12_code
def yX8_fares : MethodName := ⟨RX8, "fares", "()I"⟩
abbrev cX8_fare : ByteArray := prog_1_method_13_code
def yX8_fare : MethodName := ⟨RX8, "fare", "(I)I"⟩
abbrev cX8_run : ByteArray := prog_1_method_14_code
def yX8_run : MethodName := ⟨RX8, "run", "(I)I"⟩
abbrev cX8_told : ByteArray := prog_1_method_15_code
def yX8_told : MethodName := ⟨RX8, "told", "(II)I"⟩
abbrev cX8_water : ByteArray := prog_1_method_16_code
def yX8_water : MethodName := ⟨RX8, "water", "(II)I"⟩
abbrev cX8_sum : ByteArray := prog_1_method_17_code
def yX8_sum : MethodName := ⟨RX8, "sum", "(I)J"⟩
abbrev cX8_fire : ByteArray := prog_1_method_18_code
def yX8_fire : MethodName := ⟨RX8, "fire", "(II)I"⟩
abbrev cX8_poured : ByteArray := prog_1_method_19_code
def yX8_poured : MethodName := ⟨RX8, "poured", "(II)I"⟩
abbrev cX8_foul : ByteArray := prog_1_method_20_code
def yX8_foul : MethodName := ⟨RX8, "foul", "(II)I"⟩
abbrev cX8_give : ByteArray := prog_1_method_21_code
def yX8_give : MethodName := ⟨RX8, "give", "(III)I"⟩
abbrev cX8_given : ByteArray := prog_1_method_22_code
def yX8_given : MethodName := ⟨RX8, "given", "(I)I"⟩
abbrev cX8_count : ByteArray := prog_1_method_23_code
def yX8_count : MethodName := ⟨RX8, "count", "(I)I"⟩
abbrev cX8_outside : ByteArray := prog_1_method_24_code
def yX8_outside : MethodName := ⟨RX8, "outside", "(III)Z"⟩
abbrev cX8_cutUp : ByteArray := prog_1_method_25_code
def yX8_cutUp : MethodName := ⟨RX8, "cutUp", "(II)I"⟩
abbrev cX8_fountainAt : ByteArray := prog_1_method_26_code
def yX8_fountainAt : MethodName := ⟨RX8, "fountainAt", "(I)LWaterMen$Fountain;"⟩
abbrev cX8_jarAt : ByteArray := prog_1_method_27_code
def yX8_jarAt : MethodName := ⟨RX8, "jarAt", "(I)LWaterMen$Jar;"⟩
abbrev cX8_manAt : ByteArray := prog_1_method_28_code
def yX8_manAt : MethodName := ⟨RX8, "manAt", "(I)LWaterMen$Man;"⟩
abbrev cX8_newMan : ByteArray := prog_1_method_29_code
def yX8_newMan : MethodName := ⟨RX8, "newMan", "(IIILWaterMen$Fountain;LWaterMen$Jar;)LWaterMen$Man;"⟩
abbrev cX8_countDoing : ByteArray := prog_1_method_30_code
def yX8_countDoing : MethodName := ⟨RX8, "countDoing", "(I)I"⟩
abbrev cX8_passMinute : ByteArray := prog_1_method_31_code
def yX8_passMinute : MethodName := ⟨RX8, "passMinute", "()V"⟩
abbrev cX8_letFlow : ByteArray := prog_1_method_32_code
def yX8_letFlow : MethodName := ⟨RX8, "letFlow", "(LWaterMen$Fountain;)V"⟩
abbrev cX8_fillNext : ByteArray := prog_1_method_33_code
def yX8_fillNext : MethodName := ⟨RX8, "fillNext", "(LWaterMen$Fountain;)V"⟩
abbrev cX8_walk : ByteArray := prog_1_method_34_code
def yX8_walk : MethodName := ⟨RX8, "walk", "(LWaterMen$Man;)V"⟩
abbrev cX8_pour : ByteArray := prog_1_method_35_code
def yX8_pour : MethodName := ⟨RX8, "pour", "(LWaterMen$Man;)V"⟩
def RX9 : String := "WaterMenModel"
def TX9 : u_T := fun k => match k with
  | 0 => ("WaterMenModel", "fountains", "I", false)
  | 1 => ("WaterMenModel", "flows", "[I", true)
  | 2 => ("WaterMenModel", "depth", "[I", true)
  | 3 => ("WaterMenModel", "isOpen", "[Z", true)
  | 4 => ("WaterMenModel", "ranOff", "[I", true)
  | 5 => ("WaterMenModel", "jars", "I", false)
  | 6 => ("WaterMenModel", "floors", "[I", true)
  | 7 => ("WaterMenModel", "holds", "[I", true)
  | 8 => ("WaterMenModel", "away", "[I", true)
  | 9 => ("WaterMenModel", "jarWater", "[I", true)
  | 10 => ("WaterMenModel", "thirst", "[I", true)
  | 11 => ("WaterMenModel", "drunk", "[I", true)
  | 12 => ("WaterMenModel", "men", "I", false)
  | 13 => ("WaterMenModel", "kinds", "[I", true)
  | 14 => ("WaterMenModel", "loads", "[I", true)
  | 15 => ("WaterMenModel", "ofFountain", "[I", true)
  | 16 => ("WaterMenModel", "ofJar", "[I", true)
  | 17 => ("WaterMenModel", "rights", "[I", true)
  | 18 => ("WaterMenModel", "paces", "[I", true)
  | 19 => ("WaterMenModel", "does", "[I", true)
  | 20 => ("WaterMenModel", "toGo", "[I", true)
  | 21 => ("WaterMenModel", "carries", "[I", true)
  | 22 => ("WaterMenModel", "earned", "[I", true)
  | 23 => ("WaterMenModel", "came", "[I", true)
  | 24 => ("WaterMenModel", "filledAt", "[I", true)
  | 25 => ("WaterMenModel", "filledWhen", "[I", true)
  | 26 => ("WaterMenModel", "coming", "I", false)
  | 27 => ("WaterMenModel", "part", "I", false)
  | 28 => ("WaterMenModel", "time", "I", false)
  | 29 => ("WaterMenModel", "sums", "[J", true)
  | 30 => ("WaterMenModel", "tape", "[I", true)
  | 31 => ("WaterMenModel", "taped", "I", false)
  | 32 => ("WaterMenModel", "at", "I", false)
  | 33 => ("WaterMenModel", "prices", "[I", true)
  | 34 => ("WaterMenModel", "readPrices", "[I", true)
  | 35 => ("WaterMenModel", "pourings", "I", false)
  | 36 => ("WaterMenModel", "kept", "[I", true)
  | 37 => ("WaterMenModel", "going", "[Z", true)
  | 38 => ("WaterMenModel", "toils", "[I", true)
  | 39 => ("WaterMenModel", "choices", "[I", true)
  | _ => ("WaterMenModel", "toJar", "[I", true)
def tyX9 : Nat → FieldType := fun k => match k with
  | 0 => .int
  | 1 => .array .int
  | 2 => .array .int
  | 3 => .array .boolean
  | 4 => .array .int
  | 5 => .int
  | 6 => .array .int
  | 7 => .array .int
  | 8 => .array .int
  | 9 => .array .int
  | 10 => .array .int
  | 11 => .array .int
  | 12 => .int
  | 13 => .array .int
  | 14 => .array .int
  | 15 => .array .int
  | 16 => .array .int
  | 17 => .array .int
  | 18 => .array .int
  | 19 => .array .int
  | 20 => .array .int
  | 21 => .array .int
  | 22 => .array .int
  | 23 => .array .int
  | 24 => .array .int
  | 25 => .array .int
  | 26 => .int
  | 27 => .int
  | 28 => .int
  | 29 => .array .long
  | 30 => .array .int
  | 31 => .int
  | 32 => .int
  | 33 => .array .int
  | 34 => .array .int
  | 35 => .int
  | 36 => .array .int
  | 37 => .array .boolean
  | 38 => .array .int
  | 39 => .array .int
  | _ => .array .int
theorem nmX9 : ∀ a, a < 41 → ∀ b, b < 41 → a ≠ b → (TX9 a).2.1 ≠ (TX9 b).2.1 := by decide +kernel
theorem tyX9_ok : ∀ k, k < 41 → parseFieldDescriptor (TX9 k).2.2.1 = some (tyX9 k) := by decide +kernel
abbrev cX9_in : ByteArray := prog_11_method_1_code
def yX9_in : MethodName := ⟨RX9, "in", "(III)Z"⟩
abbrev cX9_least : ByteArray := prog_11_method_2_code
def yX9_least : MethodName := ⟨RX9, "least", "(II)I"⟩
abbrev cX9_init : ByteArray := prog_11_method_3_code
def yX9_init : MethodName := ⟨RX9, "<init>", "()V"⟩
abbrev cX9_fountain : ByteArray := prog_11_method_4_code
def yX9_fountain : MethodName := ⟨RX9, "fountain", "(I)I"⟩
abbrev cX9_isMinutes : ByteArray := prog_11_method_5_code
def yX9_isMinutes : MethodName := ⟨RX9, "isMinutes", "(II)Z"⟩
abbrev cX9_jar : ByteArray := prog_11_method_6_code
def yX9_jar : MethodName := ⟨RX9, "jar", "(IIIIII)I"⟩
abbrev cX9_isFountain : ByteArray := prog_11_method_7_code
def yX9_isFountain : MethodName := ⟨RX9, "isFountain", "(I)Z"⟩
abbrev cX9_isJar : ByteArray := prog_11_method_8_code
def yX9_isJar : MethodName := ⟨RX9, "isJar", "(I)Z"⟩
abbrev cX9_isMan : ByteArray := prog_11_method_9_code
def yX9_isMan : MethodName := ⟨RX9, "isMan", "(I)Z"⟩
abbrev cX9_drinks : ByteArray := prog_11_method_10_code
def yX9_drinks : MethodName := ⟨RX9, "drinks", "(II)I"⟩
abbrev cX9_canGo : ByteArray := prog_11_method_11_code
def yX9_canGo : MethodName := ⟨RX9, "canGo", "(II)Z"⟩
abbrev cX9_joinRow : ByteArray := prog_11_method_12_code
def yX9_joinRow : MethodName := ⟨RX9, "joinRow", "(I)V"⟩
abbrev cX9_man : ByteArray := prog_11_method_13_code
def yX9_man : MethodName := ⟨RX9, "man", "(IIII)I"⟩
abbrev cX9_right : ByteArray := prog_11_method_14_code
def yX9_right : MethodName := ⟨RX9, "right", "(II)I"⟩
abbrev cX9_pace : ByteArray := prog_11_method_15_code
def yX9_pace : MethodName := ⟨RX9, "pace", "(II)I"⟩
abbrev cX9_moves : ByteArray := prog_11_method_16_code
def yX9_moves : MethodName := ⟨RX9, "moves", "(III)I"⟩
abbrev cX9_open : ByteArray := prog_11_method_17_code
def yX9_open : MethodName := ⟨RX9, "open", "(IZ)I"⟩
abbrev cX9_drought : ByteArray := prog_11_method_18_code
def yX9_drought : MethodName := ⟨RX9, "drought", "(I)I"⟩
abbrev cX9_wayOf : ByteArray := prog_11_method_19_code
def yX9_wayOf : MethodName := ⟨RX9, "wayOf", "(IIZ)I"⟩
abbrev cX9_type : ByteArray := prog_11_method_20_code
def yX9_type : MethodName := ⟨RX9, "type", "(JI)I"⟩
abbrev cX9_next : ByteArray := prog_11_method_21_code
def yX9_next : MethodName := ⟨RX9, "next", "()I"⟩
abbrev cX9_number : ByteArray := prog_11_method_22_code
def yX9_number : MethodName := ⟨RX9, "number", "(II)I"⟩
abbrev cX9_readClause : ByteArray := prog_11_method_23_code
def yX9_readClause : MethodName := ⟨RX9, "readClause", "()Z"⟩
abbrev cX9_readFares : ByteArray := prog_11_method_24_code
def yX9_readFares : MethodName := ⟨RX9, "readFares", "()I"⟩
abbrev cX9_fares : ByteArray := prog_11_method_25_code
def yX9_fares : MethodName := ⟨RX9, "fares", "()I"⟩
abbrev cX9_fare : ByteArray := prog_11_method_26_code
def yX9_fare : MethodName := ⟨RX9, "fare", "(I)I"⟩
abbrev cX9_flow : ByteArray := prog_11_method_27_code
def yX9_flow : MethodName := ⟨RX9, "flow", "(I)V"⟩
abbrev cX9_isAhead : ByteArray := prog_11_method_28_code
def yX9_isAhead : MethodName := ⟨RX9, "isAhead", "(II)Z"⟩
abbrev cX9_fill : ByteArray := prog_11_method_29_code
def yX9_fill : MethodName := ⟨RX9, "fill", "(I)V"⟩
abbrev cX9_keep : ByteArray := prog_11_method_30_code
def yX9_keep : MethodName := ⟨RX9, "keep", "(III)V"⟩
abbrev cX9_goDown : ByteArray := prog_11_method_31_code
def yX9_goDown : MethodName := ⟨RX9, "goDown", "(I)V"⟩
abbrev cX9_pour : ByteArray := prog_11_method_32_code
def yX9_pour : MethodName := ⟨RX9, "pour", "(I)V"⟩
abbrev cX9_minute : ByteArray := prog_11_method_33_code
def yX9_minute : MethodName := ⟨RX9, "minute", "()V"⟩
abbrev cX9_run : ByteArray := prog_11_method_34_code
def yX9_run : MethodName := ⟨RX9, "run", "(I)I"⟩
abbrev cX9_told : ByteArray := prog_11_method_35_code
def yX9_told : MethodName := ⟨RX9, "told", "(II)I"⟩
abbrev cX9_water : ByteArray := prog_11_method_36_code
def yX9_water : MethodName := ⟨RX9, "water", "(II)I"⟩
abbrev cX9_sum : ByteArray := prog_11_method_37_code
def yX9_sum : MethodName := ⟨RX9, "sum", "(I)J"⟩
abbrev cX9_fire : ByteArray := prog_11_method_38_code
def yX9_fire : MethodName := ⟨RX9, "fire", "(II)I"⟩
abbrev cX9_poured : ByteArray := prog_11_method_39_code
def yX9_poured : MethodName := ⟨RX9, "poured", "(II)I"⟩
abbrev cX9_foul : ByteArray := prog_11_method_40_code
def yX9_foul : MethodName := ⟨RX9, "foul", "(II)I"⟩
abbrev cX9_ones : ByteArray := prog_11_method_41_code
def yX9_ones : MethodName := ⟨RX9, "ones", "(I)I"⟩
abbrev cX9_give : ByteArray := prog_11_method_42_code
def yX9_give : MethodName := ⟨RX9, "give", "(III)I"⟩
abbrev cX9_given : ByteArray := prog_11_method_43_code
def yX9_given : MethodName := ⟨RX9, "given", "(I)I"⟩
abbrev cX9_count : ByteArray := prog_11_method_44_code
def yX9_count : MethodName := ⟨RX9, "count", "(I)I"⟩
def RJx145de : String := "java/io/Serializable"
def TJx145de : u_T := fun k => match k with
  | _ => ("", "", "", false)
def tyJx145de : Nat → FieldType := fun k => match k with
  | _ => .int
theorem nmJx145de : ∀ a, a < 0 → ∀ b, b < 0 → a ≠ b → (TJx145de a).2.1 ≠ (TJx145de b).2.1 := by decide +kernel
theorem tyJx145de_ok : ∀ k, k < 0 → parseFieldDescriptor (TJx145de k).2.2.1 = some (tyJx145de k) := by decide +kernel
def RJx8e188 : String := "java/lang/Cloneable"
def TJx8e188 : u_T := fun k => match k with
  | _ => ("", "", "", false)
def tyJx8e188 : Nat → FieldType := fun k => match k with
  | _ => .int
theorem nmJx8e188 : ∀ a, a < 0 → ∀ b, b < 0 → a ≠ b → (TJx8e188 a).2.1 ≠ (TJx8e188 b).2.1 := by decide +kernel
theorem tyJx8e188_ok : ∀ k, k < 0 → parseFieldDescriptor (TJx8e188 k).2.2.1 = some (tyJx8e188 k) := by decide +kernel
def RJ6 : String := "java/lang/Integer"
def TJ6 : u_T := fun k => match k with
  | _ => ("", "", "", false)
def tyJ6 : Nat → FieldType := fun k => match k with
  | _ => .int
theorem nmJ6 : ∀ a, a < 0 → ∀ b, b < 0 → a ≠ b → (TJ6 a).2.1 ≠ (TJ6 b).2.1 := by decide +kernel
theorem tyJ6_ok : ∀ k, k < 0 → parseFieldDescriptor (TJ6 k).2.2.1 = some (tyJ6 k) := by decide +kernel
abbrev cJ6_bitCount_0f7a4 : ByteArray := prog_14_method_49_code
def yJ6_bitCount_0f7a4 : MethodName := ⟨RJ6, "bitCount", "(I)I"⟩
def RJxab1ab : String := "java/lang/Iterable"
def TJxab1ab : u_T := fun k => match k with
  | _ => ("", "", "", false)
def tyJxab1ab : Nat → FieldType := fun k => match k with
  | _ => .int
theorem nmJxab1ab : ∀ a, a < 0 → ∀ b, b < 0 → a ≠ b → (TJxab1ab a).2.1 ≠ (TJxab1ab b).2.1 := by decide +kernel
theorem tyJxab1ab_ok : ∀ k, k < 0 → parseFieldDescriptor (TJxab1ab k).2.2.1 = some (tyJxab1ab k) := by decide +kernel
def RJ9 : String := "java/lang/Math"
def TJ9 : u_T := fun k => match k with
  | _ => ("", "", "", false)
def tyJ9 : Nat → FieldType := fun k => match k with
  | _ => .int
theorem nmJ9 : ∀ a, a < 0 → ∀ b, b < 0 → a ≠ b → (TJ9 a).2.1 ≠ (TJ9 b).2.1 := by decide +kernel
theorem tyJ9_ok : ∀ k, k < 0 → parseFieldDescriptor (TJ9 k).2.2.1 = some (tyJ9 k) := by decide +kernel
abbrev cJ9_floorMod_7cf53 : ByteArray := prog_16_method_50_code
def yJ9_floorMod_7cf53 : MethodName := ⟨RJ9, "floorMod", "(II)I"⟩
abbrev cJ9_max_7cf53 : ByteArray := prog_16_method_65_code
def yJ9_max_7cf53 : MethodName := ⟨RJ9, "max", "(II)I"⟩
abbrev cJ9_min_7cf53 : ByteArray := prog_16_method_69_code
def yJ9_min_7cf53 : MethodName := ⟨RJ9, "min", "(II)I"⟩
def RJ10 : String := "java/lang/System"
def TJ10 : u_T := fun k => match k with
  | _ => ("", "", "", false)
def tyJ10 : Nat → FieldType := fun k => match k with
  | _ => .int
theorem nmJ10 : ∀ a, a < 0 → ∀ b, b < 0 → a ≠ b → (TJ10 a).2.1 ≠ (TJ10 b).2.1 := by decide +kernel
theorem tyJ10_ok : ∀ k, k < 0 → parseFieldDescriptor (TJ10 k).2.2.1 = some (tyJ10 k) := by decide +kernel
def RJxa1e45 : String := "java/util/AbstractCollection"
def TJxa1e45 : u_T := fun k => match k with
  | _ => ("", "", "", false)
def tyJxa1e45 : Nat → FieldType := fun k => match k with
  | _ => .int
theorem nmJxa1e45 : ∀ a, a < 0 → ∀ b, b < 0 → a ≠ b → (TJxa1e45 a).2.1 ≠ (TJxa1e45 b).2.1 := by decide +kernel
theorem tyJxa1e45_ok : ∀ k, k < 0 → parseFieldDescriptor (TJxa1e45 k).2.2.1 = some (tyJxa1e45 k) := by decide +kernel
abbrev cJxa1e45_init_da8c8 : ByteArray := prog_18_method_1_code
def yJxa1e45_init_da8c8 : MethodName := ⟨RJxa1e45, "<init>", "()V"⟩
def RJxc12de : String := "java/util/AbstractList"
def TJxc12de : u_T := fun k => match k with
  | _ => ("", "", "", false)
def tyJxc12de : Nat → FieldType := fun k => match k with
  | _ => .int
theorem nmJxc12de : ∀ a, a < 0 → ∀ b, b < 0 → a ≠ b → (TJxc12de a).2.1 ≠ (TJxc12de b).2.1 := by decide +kernel
theorem tyJxc12de_ok : ∀ k, k < 0 → parseFieldDescriptor (TJxc12de k).2.2.1 = some (tyJxc12de k) := by decide +kernel
abbrev cJxc12de_init_da8c8 : ByteArray := prog_19_method_1_code
def yJxc12de_init_da8c8 : MethodName := ⟨RJxc12de, "<init>", "()V"⟩
def RJx4a65c : String := "java/util/ArrayList"
def TJx4a65c : u_T := fun k => match k with
  | 0 => ("java/util/AbstractList", "modCount", "I", false)
  | 1 => ("java/util/ArrayList", "elementData", "[Ljava/lang/Object;", false)
  | _ => ("java/util/ArrayList", "size", "I", false)
def tyJx4a65c : Nat → FieldType := fun k => match k with
  | 0 => .int
  | 1 => .array (.object "java/lang/Object")
  | _ => .int
theorem nmJx4a65c : ∀ a, a < 3 → ∀ b, b < 3 → a ≠ b → (TJx4a65c a).2.1 ≠ (TJx4a65c b).2.1 := by decide +kernel
theorem tyJx4a65c_ok : ∀ k, k < 3 → parseFieldDescriptor (TJx4a65c k).2.2.1 = some (tyJx4a65c k) := by decide +kernel
abbrev cJx4a65c_init_da8c8 : ByteArray := prog_20_method_2_code
def yJx4a65c_init_da8c8 : MethodName := ⟨RJx4a65c, "<init>", "()V"⟩
abbrev cJx4a65c_grow_92f84 : ByteArray := prog_20_method_6_code
def yJx4a65c_grow_92f84 : MethodName := ⟨RJx4a65c, "grow", "(I)[Ljava/lang/Object;"⟩
abbrev cJx4a65c_grow_d5877 : ByteArray := prog_20_method_7_code
def yJx4a65c_grow_d5877 : MethodName := ⟨RJx4a65c, "grow", "()[Ljava/lang/Object;"⟩
abbrev cJx4a65c_size_8abf5 : ByteArray := prog_20_method_8_code
def yJx4a65c_size_8abf5 : MethodName := ⟨RJx4a65c, "size", "()I"⟩
abbrev cJx4a65c_isEmpty_aae02 : ByteArray := prog_20_method_9_code
def yJx4a65c_isEmpty_aae02 : MethodName := ⟨RJx4a65c, "isEmpty", "()Z"⟩
abbrev cJx4a65c_elementData_915e3 : ByteArray := prog_20_method_18_code
def yJx4a65c_elementData_915e3 : MethodName := ⟨RJx4a65c, "elementData", "(I)Ljava/lang/Object;"⟩
abbrev cJx4a65c_get_915e3 : ByteArray := prog_20_method_20_code
def yJx4a65c_get_915e3 : MethodName := ⟨RJx4a65c, "get", "(I)Ljava/lang/Object;"⟩
abbrev cJx4a65c_add_72be8 : ByteArray := prog_20_method_24_code
def yJx4a65c_add_72be8 : MethodName := ⟨RJx4a65c, "add", "(Ljava/lang/Object;[Ljava/lang/Object;I)V"⟩
abbrev cJx4a65c_add_9ea2d : ByteArray := prog_20_method_25_code
def yJx4a65c_add_9ea2d : MethodName := ⟨RJx4a65c, "add", "(Ljava/lang/Object;)Z"⟩
abbrev cJx4a65c_remove_915e3 : ByteArray := prog_20_method_29_code
def yJx4a65c_remove_915e3 : MethodName := ⟨RJx4a65c, "remove", "(I)Ljava/lang/Object;"⟩
abbrev cJx4a65c_fastRemove_b59b0 : ByteArray := prog_20_method_39_code
def yJx4a65c_fastRemove_b59b0 : MethodName := ⟨RJx4a65c, "fastRemove", "([Ljava/lang/Object;I)V"⟩
def RJ7 : String := "java/util/Arrays"
def TJ7 : u_T := fun k => match k with
  | _ => ("", "", "", false)
def tyJ7 : Nat → FieldType := fun k => match k with
  | _ => .int
theorem nmJ7 : ∀ a, a < 0 → ∀ b, b < 0 → a ≠ b → (TJ7 a).2.1 ≠ (TJ7 b).2.1 := by decide +kernel
theorem tyJ7_ok : ∀ k, k < 0 → parseFieldDescriptor (TJ7 k).2.2.1 = some (tyJ7 k) := by decide +kernel
abbrev cJ7_fill_53178 : ByteArray := prog_21_method_103_code
def yJ7_fill_53178 : MethodName := ⟨RJ7, "fill", "([II)V"⟩
abbrev cJ7_copyOf_1904c : ByteArray := prog_21_method_119_code
def yJ7_copyOf_1904c : MethodName := ⟨RJ7, "copyOf", "([Ljava/lang/Object;I)[Ljava/lang/Object;"⟩
abbrev cJ7_copyOf_6403c : ByteArray := prog_21_method_120_code
def yJ7_copyOf_6403c : MethodName := ⟨RJ7, "copyOf", "([Ljava/lang/Object;ILjava/lang/Class;)[Ljava/lang/Object;"⟩
def RJx5ef63 : String := "java/util/Collection"
def TJx5ef63 : u_T := fun k => match k with
  | _ => ("", "", "", false)
def tyJx5ef63 : Nat → FieldType := fun k => match k with
  | _ => .int
theorem nmJx5ef63 : ∀ a, a < 0 → ∀ b, b < 0 → a ≠ b → (TJx5ef63 a).2.1 ≠ (TJx5ef63 b).2.1 := by decide +kernel
theorem tyJx5ef63_ok : ∀ k, k < 0 → parseFieldDescriptor (TJx5ef63 k).2.2.1 = some (tyJx5ef63 k) := by decide +kernel
def RJxbd725 : String := "java/util/List"
def TJxbd725 : u_T := fun k => match k with
  | _ => ("", "", "", false)
def tyJxbd725 : Nat → FieldType := fun k => match k with
  | _ => .int
theorem nmJxbd725 : ∀ a, a < 0 → ∀ b, b < 0 → a ≠ b → (TJxbd725 a).2.1 ≠ (TJxbd725 b).2.1 := by decide +kernel
theorem tyJxbd725_ok : ∀ k, k < 0 → parseFieldDescriptor (TJxbd725 k).2.2.1 = some (tyJxbd725 k) := by decide +kernel
def RJ15 : String := "java/util/Objects"
def TJ15 : u_T := fun k => match k with
  | _ => ("", "", "", false)
def tyJ15 : Nat → FieldType := fun k => match k with
  | _ => .int
theorem nmJ15 : ∀ a, a < 0 → ∀ b, b < 0 → a ≠ b → (TJ15 a).2.1 ≠ (TJ15 b).2.1 := by decide +kernel
theorem tyJ15_ok : ∀ k, k < 0 → parseFieldDescriptor (TJ15 k).2.2.1 = some (tyJ15 k) := by decide +kernel
abbrev cJ15_checkIndex_7cf53 : ByteArray := prog_24_method_17_code
def yJ15_checkIndex_7cf53 : MethodName := ⟨RJ15, "checkIndex", "(II)I"⟩
def RJxf0a74 : String := "java/util/RandomAccess"
def TJxf0a74 : u_T := fun k => match k with
  | _ => ("", "", "", false)
def tyJxf0a74 : Nat → FieldType := fun k => match k with
  | _ => .int
theorem nmJxf0a74 : ∀ a, a < 0 → ∀ b, b < 0 → a ≠ b → (TJxf0a74 a).2.1 ≠ (TJxf0a74 b).2.1 := by decide +kernel
theorem tyJxf0a74_ok : ∀ k, k < 0 → parseFieldDescriptor (TJxf0a74 k).2.2.1 = some (tyJxf0a74 k) := by decide +kernel
def RJxa66e6 : String := "java/util/SequencedCollection"
def TJxa66e6 : u_T := fun k => match k with
  | _ => ("", "", "", false)
def tyJxa66e6 : Nat → FieldType := fun k => match k with
  | _ => .int
theorem nmJxa66e6 : ∀ a, a < 0 → ∀ b, b < 0 → a ≠ b → (TJxa66e6 a).2.1 ≠ (TJxa66e6 b).2.1 := by decide +kernel
theorem tyJxa66e6_ok : ∀ k, k < 0 → parseFieldDescriptor (TJxa66e6 k).2.2.1 = some (tyJxa66e6 k) := by decide +kernel
def RJ8 : String := "jdk/internal/util/ArraysSupport"
def TJ8 : u_T := fun k => match k with
  | _ => ("", "", "", false)
def tyJ8 : Nat → FieldType := fun k => match k with
  | _ => .int
theorem nmJ8 : ∀ a, a < 0 → ∀ b, b < 0 → a ≠ b → (TJ8 a).2.1 ≠ (TJ8 b).2.1 := by decide +kernel
theorem tyJ8_ok : ∀ k, k < 0 → parseFieldDescriptor (TJ8 k).2.2.1 = some (tyJ8 k) := by decide +kernel
abbrev cJ8_newLength_cabcc : ByteArray := prog_27_method_27_code
def yJ8_newLength_cabcc : MethodName := ⟨RJ8, "newLength", "(III)I"⟩
abbrev cJ8_hugeLength_7cf53 : ByteArray := prog_27_method_28_code
def yJ8_hugeLength_7cf53 : MethodName := ⟨RJ8, "hugeLength", "(II)I"⟩
def RJ3 : String := "jdk/internal/util/Preconditions"
def TJ3 : u_T := fun k => match k with
  | _ => ("", "", "", false)
def tyJ3 : Nat → FieldType := fun k => match k with
  | _ => .int
theorem nmJ3 : ∀ a, a < 0 → ∀ b, b < 0 → a ≠ b → (TJ3 a).2.1 ≠ (TJ3 b).2.1 := by decide +kernel
theorem tyJ3_ok : ∀ k, k < 0 → parseFieldDescriptor (TJ3 k).2.2.1 = some (tyJ3 k) := by decide +kernel
abbrev cJ3_checkIndex_8e157 : ByteArray := prog_28_method_11_code
def yJ3_checkIndex_8e157 : MethodName := ⟨RJ3, "checkIndex", "(IILjava/util/function/BiFunction;)I"⟩
def RL : String := "WaterMenLaw"
abbrev cL_law : ByteArray := code
def yL_law : MethodName := ⟨RL, "law", "([I)Z"⟩
abbrev vwCl : List vw_C := [(RJx4a65c, TJx4a65c, 3), (RX0, TX0, 13), (RX1, TX1, 5), (RX2, TX2, 6), (RX3, TX3, 3), (RX4, TX4, 7), (RX5, TX5, 12), (RX6, TX6, 3), (RX7, TX7, 12), (RX8, TX8, 9), (RX9, TX9, 41)]
end
section
theorem dX0_init_0 : decode cX0_init 0 = .ok (.aload_n 0, 1) := by decide +kernel
theorem dX0_init_1 : decode cX0_init 1 = .ok (.iload_n 1, 1) := by decide +kernel
theorem dX0_init_2 : decode cX0_init 2 = .ok (.iload_n 2, 1) := by decide +kernel
theorem dX0_init_3 : decode cX0_init 3 = .ok (.aload_n 3, 1) := by decide +kernel
theorem dX0_init_4 : decode cX0_init 4 = .ok (.aload 4, 2) := by decide +kernel
theorem dX0_init_6 : decode cX0_init 6 = .ok (.invokespecial 3, 3) := by decide +kernel
theorem dX0_init_9 : decode cX0_init 9 = .ok (.aload_n 0, 1) := by decide +kernel
theorem dX0_init_10 : decode cX0_init 10 = .ok (.iconst 2, 1) := by decide +kernel
theorem dX0_init_11 : decode cX0_init 11 = .ok (.putfield 9, 3) := by decide +kernel
theorem dX0_init_14 : decode cX0_init 14 = .ok (.return_, 1) := by decide +kernel
theorem dX0_kind_0 : decode cX0_kind 0 = .ok (.iconst 2, 1) := by decide +kernel
theorem dX0_kind_1 : decode cX0_kind 1 = .ok (.ireturn, 1) := by decide +kernel
theorem dX0_walkTime_0 : decode cX0_walkTime 0 = .ok (.iload_n 1, 1) := by decide +kernel
theorem dX0_walkTime_1 : decode cX0_walkTime 1 = .ok (.aload_n 0, 1) := by decide +kernel
theorem dX0_walkTime_2 : decode cX0_walkTime 2 = .ok (.getfield 9, 3) := by decide +kernel
theorem dX0_walkTime_5 : decode cX0_walkTime 5 = .ok (.invokestatic 15, 3) := by decide +kernel
theorem dX0_walkTime_8 : decode cX0_walkTime 8 = .ok (.ireturn, 1) := by decide +kernel
theorem dX0_climbTime_0 : decode cX0_climbTime 0 = .ok (.iconst 0, 1) := by decide +kernel
theorem dX0_climbTime_1 : decode cX0_climbTime 1 = .ok (.ireturn, 1) := by decide +kernel
theorem dX1_init_0 : decode cX1_init 0 = .ok (.aload_n 0, 1) := by decide +kernel
theorem dX1_init_1 : decode cX1_init 1 = .ok (.invokespecial 3, 3) := by decide +kernel
theorem dX1_init_4 : decode cX1_init 4 = .ok (.aload_n 0, 1) := by decide +kernel
theorem dX1_init_5 : decode cX1_init 5 = .ok (.bipush 50, 2) := by decide +kernel
theorem dX1_init_7 : decode cX1_init 7 = .ok (.newarray .int, 2) := by decide +kernel
theorem dX1_init_9 : decode cX1_init 9 = .ok (.putfield 11, 3) := by decide +kernel
theorem dX1_init_12 : decode cX1_init 12 = .ok (.aload_n 0, 1) := by decide +kernel
theorem dX1_init_13 : decode cX1_init 13 = .ok (.bipush 10, 2) := by decide +kernel
theorem dX1_init_15 : decode cX1_init 15 = .ok (.newarray .int, 2) := by decide +kernel
theorem dX1_init_17 : decode cX1_init 17 = .ok (.putfield 15, 3) := by decide +kernel
theorem dX1_init_20 : decode cX1_init 20 = .ok (.aload_n 0, 1) := by decide +kernel
theorem dX1_init_21 : decode cX1_init 21 = .ok (.bipush 10, 2) := by decide +kernel
theorem dX1_init_23 : decode cX1_init 23 = .ok (.newarray .int, 2) := by decide +kernel
theorem dX1_init_25 : decode cX1_init 25 = .ok (.putfield 18, 3) := by decide +kernel
theorem dX1_init_28 : decode cX1_init 28 = .ok (.aload_n 0, 1) := by decide +kernel
theorem dX1_init_29 : decode cX1_init 29 = .ok (.iconst 0, 1) := by decide +kernel
theorem dX1_init_30 : decode cX1_init 30 = .ok (.putfield 21, 3) := by decide +kernel
theorem dX1_init_33 : decode cX1_init 33 = .ok (.aload_n 0, 1) := by decide +kernel
theorem dX1_init_34 : decode cX1_init 34 = .ok (.iconst 0, 1) := by decide +kernel
theorem dX1_init_35 : decode cX1_init 35 = .ok (.putfield 25, 3) := by decide +kernel
theorem dX1_init_38 : decode cX1_init 38 = .ok (.aload_n 0, 1) := by decide +kernel
theorem dX1_init_39 : decode cX1_init 39 = .ok (.getfield 15, 3) := by decide +kernel
theorem dX1_init_42 : decode cX1_init 42 = .ok (.iconst 1, 1) := by decide +kernel
theorem dX1_init_43 : decode cX1_init 43 = .ok (.invokestatic 28, 3) := by decide +kernel
theorem dX1_init_46 : decode cX1_init 46 = .ok (.return_, 1) := by decide +kernel
theorem dX1_priceOf_0 : decode cX1_priceOf 0 = .ok (.iload_n 1, 1) := by decide +kernel
theorem dX1_priceOf_1 : decode cX1_priceOf 1 = .ok (.ifCond .lt 12, 3) := by decide +kernel
theorem dX1_priceOf_4 : decode cX1_priceOf 4 = .ok (.iload_n 1, 1) := by decide +kernel
theorem dX1_priceOf_5 : decode cX1_priceOf 5 = .ok (.aload_n 0, 1) := by decide +kernel
theorem dX1_priceOf_6 : decode cX1_priceOf 6 = .ok (.getfield 15, 3) := by decide +kernel
theorem dX1_priceOf_9 : decode cX1_priceOf 9 = .ok (.arraylength, 1) := by decide +kernel
theorem dX1_priceOf_10 : decode cX1_priceOf 10 = .ok (.if_icmp .lt 7, 3) := by decide +kernel
theorem dX1_priceOf_13 : decode cX1_priceOf 13 = .ok (.iconst (-1), 1) := by decide +kernel
theorem dX1_priceOf_14 : decode cX1_priceOf 14 = .ok (.goto 9, 3) := by decide +kernel
theorem dX1_priceOf_17 : decode cX1_priceOf 17 = .ok (.aload_n 0, 1) := by decide +kernel
theorem dX1_priceOf_18 : decode cX1_priceOf 18 = .ok (.getfield 15, 3) := by decide +kernel
theorem dX1_priceOf_21 : decode cX1_priceOf 21 = .ok (.iload_n 1, 1) := by decide +kernel
theorem dX1_priceOf_22 : decode cX1_priceOf 22 = .ok (.iaload, 1) := by decide +kernel
theorem dX1_priceOf_23 : decode cX1_priceOf 23 = .ok (.ireturn, 1) := by decide +kernel
theorem dX1_append_0 : decode cX1_append 0 = .ok (.iload_n 3, 1) := by decide +kernel
theorem dX1_append_1 : decode cX1_append 1 = .ok (.iconst 1, 1) := by decide +kernel
theorem dX1_append_2 : decode cX1_append 2 = .ok (.bipush 8, 2) := by decide +kernel
theorem dX1_append_4 : decode cX1_append 4 = .ok (.invokestatic 34, 3) := by decide +kernel
theorem dX1_append_7 : decode cX1_append 7 = .ok (.ifCond .eq 5, 3) := by decide +kernel
theorem dX1_append_10 : decode cX1_append 10 = .ok (.iconst (-1), 1) := by decide +kernel
theorem dX1_append_11 : decode cX1_append 11 = .ok (.ireturn, 1) := by decide +kernel
theorem dX1_append_12 : decode cX1_append 12 = .ok (.iconst 0, 1) := by decide +kernel
theorem dX1_append_13 : decode cX1_append 13 = .ok (.istore 4, 2) := by decide +kernel
theorem dX1_append_15 : decode cX1_append 15 = .ok (.iload 4, 2) := by decide +kernel
theorem dX1_append_17 : decode cX1_append 17 = .ok (.iload_n 3, 1) := by decide +kernel
theorem dX1_append_18 : decode cX1_append 18 = .ok (.if_icmp .ge 27, 3) := by decide +kernel
theorem dX1_append_21 : decode cX1_append 21 = .ok (.lload_n 1, 1) := by decide +kernel
theorem dX1_append_22 : decode cX1_append 22 = .ok (.iload 4, 2) := by decide +kernel
theorem dX1_append_24 : decode cX1_append 24 = .ok (.invokestatic 38, 3) := by decide +kernel
theorem dX1_append_27 : decode cX1_append 27 = .ok (.bipush 32, 2) := by decide +kernel
theorem dX1_append_29 : decode cX1_append 29 = .ok (.bipush 126, 2) := by decide +kernel
theorem dX1_append_31 : decode cX1_append 31 = .ok (.invokestatic 34, 3) := by decide +kernel
theorem dX1_append_34 : decode cX1_append 34 = .ok (.ifCond .eq 5, 3) := by decide +kernel
theorem dX1_append_37 : decode cX1_append 37 = .ok (.iconst (-1), 1) := by decide +kernel
theorem dX1_append_38 : decode cX1_append 38 = .ok (.ireturn, 1) := by decide +kernel
theorem dX1_append_39 : decode cX1_append 39 = .ok (.iinc 4 1, 3) := by decide +kernel
theorem dX1_append_42 : decode cX1_append 42 = .ok (.goto (-27), 3) := by decide +kernel
theorem dX1_append_45 : decode cX1_append 45 = .ok (.aload_n 0, 1) := by decide +kernel
theorem dX1_append_46 : decode cX1_append 46 = .ok (.getfield 21, 3) := by decide +kernel
theorem dX1_append_49 : decode cX1_append 49 = .ok (.iload_n 3, 1) := by decide +kernel
theorem dX1_append_50 : decode cX1_append 50 = .ok (.iadd, 1) := by decide +kernel
theorem dX1_append_51 : decode cX1_append 51 = .ok (.aload_n 0, 1) := by decide +kernel
theorem dX1_append_52 : decode cX1_append 52 = .ok (.getfield 11, 3) := by decide +kernel
theorem dX1_append_55 : decode cX1_append 55 = .ok (.arraylength, 1) := by decide +kernel
theorem dX1_append_56 : decode cX1_append 56 = .ok (.if_icmp .le 6, 3) := by decide +kernel
theorem dX1_append_59 : decode cX1_append 59 = .ok (.bipush (-3), 2) := by decide +kernel
theorem dX1_append_61 : decode cX1_append 61 = .ok (.ireturn, 1) := by decide +kernel
theorem dX1_append_62 : decode cX1_append 62 = .ok (.iload_n 3, 1) := by decide +kernel
theorem dX1_append_63 : decode cX1_append 63 = .ok (.iconst 1, 1) := by decide +kernel
theorem dX1_append_64 : decode cX1_append 64 = .ok (.isub, 1) := by decide +kernel
theorem dX1_append_65 : decode cX1_append 65 = .ok (.istore 4, 2) := by decide +kernel
theorem dX1_append_67 : decode cX1_append 67 = .ok (.iload 4, 2) := by decide +kernel
theorem dX1_append_69 : decode cX1_append 69 = .ok (.ifCond .lt 34, 3) := by decide +kernel
theorem dX1_append_72 : decode cX1_append 72 = .ok (.aload_n 0, 1) := by decide +kernel
theorem dX1_append_73 : decode cX1_append 73 = .ok (.getfield 11, 3) := by decide +kernel
theorem dX1_append_76 : decode cX1_append 76 = .ok (.aload_n 0, 1) := by decide +kernel
theorem dX1_append_77 : decode cX1_append 77 = .ok (.getfield 21, 3) := by decide +kernel
theorem dX1_append_80 : decode cX1_append 80 = .ok (.lload_n 1, 1) := by decide +kernel
theorem dX1_append_81 : decode cX1_append 81 = .ok (.iload 4, 2) := by decide +kernel
theorem dX1_append_83 : decode cX1_append 83 = .ok (.invokestatic 38, 3) := by decide +kernel
theorem dX1_append_86 : decode cX1_append 86 = .ok (.iastore, 1) := by decide +kernel
theorem dX1_append_87 : decode cX1_append 87 = .ok (.aload_n 0, 1) := by decide +kernel
theorem dX1_append_88 : decode cX1_append 88 = .ok (.dup, 1) := by decide +kernel
theorem dX1_append_89 : decode cX1_append 89 = .ok (.getfield 21, 3) := by decide +kernel
theorem dX1_append_92 : decode cX1_append 92 = .ok (.iconst 1, 1) := by decide +kernel
theorem dX1_append_93 : decode cX1_append 93 = .ok (.iadd, 1) := by decide +kernel
theorem dX1_append_94 : decode cX1_append 94 = .ok (.putfield 21, 3) := by decide +kernel
theorem dX1_append_97 : decode cX1_append 97 = .ok (.iinc 4 (-1), 3) := by decide +kernel
theorem dX1_append_100 : decode cX1_append 100 = .ok (.goto (-33), 3) := by decide +kernel
theorem dX1_append_103 : decode cX1_append 103 = .ok (.aload_n 0, 1) := by decide +kernel
theorem dX1_append_104 : decode cX1_append 104 = .ok (.getfield 21, 3) := by decide +kernel
theorem dX1_append_107 : decode cX1_append 107 = .ok (.ireturn, 1) := by decide +kernel
theorem dX1_byteOf_0 : decode cX1_byteOf 0 = .ok (.lload_n 0, 1) := by decide +kernel
theorem dX1_byteOf_1 : decode cX1_byteOf 1 = .ok (.bipush 8, 2) := by decide +kernel
theorem dX1_byteOf_3 : decode cX1_byteOf 3 = .ok (.iload_n 2, 1) := by decide +kernel
theorem dX1_byteOf_4 : decode cX1_byteOf 4 = .ok (.imul, 1) := by decide +kernel
theorem dX1_byteOf_5 : decode cX1_byteOf 5 = .ok (.lushr, 1) := by decide +kernel
theorem dX1_byteOf_6 : decode cX1_byteOf 6 = .ok (.l2i, 1) := by decide +kernel
theorem dX1_byteOf_7 : decode cX1_byteOf 7 = .ok (.sipush 255, 3) := by decide +kernel
theorem dX1_byteOf_10 : decode cX1_byteOf 10 = .ok (.iand, 1) := by decide +kernel
theorem dX1_byteOf_11 : decode cX1_byteOf 11 = .ok (.ireturn, 1) := by decide +kernel
theorem dX1_takeTape_0 : decode cX1_takeTape 0 = .ok (.aload_n 0, 1) := by decide +kernel
theorem dX1_takeTape_1 : decode cX1_takeTape 1 = .ok (.invokevirtual 42, 3) := by decide +kernel
theorem dX1_takeTape_4 : decode cX1_takeTape 4 = .ok (.istore_n 1, 1) := by decide +kernel
theorem dX1_takeTape_5 : decode cX1_takeTape 5 = .ok (.iload_n 1, 1) := by decide +kernel
theorem dX1_takeTape_6 : decode cX1_takeTape 6 = .ok (.ifCond .le 7, 3) := by decide +kernel
theorem dX1_takeTape_9 : decode cX1_takeTape 9 = .ok (.iload_n 1, 1) := by decide +kernel
theorem dX1_takeTape_10 : decode cX1_takeTape 10 = .ok (.goto 10, 3) := by decide +kernel
theorem dX1_takeTape_13 : decode cX1_takeTape 13 = .ok (.bipush (-20), 2) := by decide +kernel
theorem dX1_takeTape_15 : decode cX1_takeTape 15 = .ok (.aload_n 0, 1) := by decide +kernel
theorem dX1_takeTape_16 : decode cX1_takeTape 16 = .ok (.getfield 25, 3) := by decide +kernel
theorem dX1_takeTape_19 : decode cX1_takeTape 19 = .ok (.isub, 1) := by decide +kernel
theorem dX1_takeTape_20 : decode cX1_takeTape 20 = .ok (.istore_n 2, 1) := by decide +kernel
theorem dX1_takeTape_21 : decode cX1_takeTape 21 = .ok (.iload_n 1, 1) := by decide +kernel
theorem dX1_takeTape_22 : decode cX1_takeTape 22 = .ok (.ifCond .le 7, 3) := by decide +kernel
theorem dX1_takeTape_25 : decode cX1_takeTape 25 = .ok (.aload_n 0, 1) := by decide +kernel
theorem dX1_takeTape_26 : decode cX1_takeTape 26 = .ok (.invokevirtual 46, 3) := by decide +kernel
theorem dX1_takeTape_29 : decode cX1_takeTape 29 = .ok (.aload_n 0, 1) := by decide +kernel
theorem dX1_takeTape_30 : decode cX1_takeTape 30 = .ok (.iconst 0, 1) := by decide +kernel
theorem dX1_takeTape_31 : decode cX1_takeTape 31 = .ok (.putfield 21, 3) := by decide +kernel
theorem dX1_takeTape_34 : decode cX1_takeTape 34 = .ok (.iload_n 2, 1) := by decide +kernel
theorem dX1_takeTape_35 : decode cX1_takeTape 35 = .ok (.ireturn, 1) := by decide +kernel
theorem dX1_useDraft_0 : decode cX1_useDraft 0 = .ok (.aload_n 0, 1) := by decide +kernel
theorem dX1_useDraft_1 : decode cX1_useDraft 1 = .ok (.getfield 15, 3) := by decide +kernel
theorem dX1_useDraft_4 : decode cX1_useDraft 4 = .ok (.astore_n 1, 1) := by decide +kernel
theorem dX1_useDraft_5 : decode cX1_useDraft 5 = .ok (.aload_n 0, 1) := by decide +kernel
theorem dX1_useDraft_6 : decode cX1_useDraft 6 = .ok (.aload_n 0, 1) := by decide +kernel
theorem dX1_useDraft_7 : decode cX1_useDraft 7 = .ok (.getfield 18, 3) := by decide +kernel
theorem dX1_useDraft_10 : decode cX1_useDraft 10 = .ok (.putfield 15, 3) := by decide +kernel
theorem dX1_useDraft_13 : decode cX1_useDraft 13 = .ok (.aload_n 0, 1) := by decide +kernel
theorem dX1_useDraft_14 : decode cX1_useDraft 14 = .ok (.aload_n 1, 1) := by decide +kernel
theorem dX1_useDraft_15 : decode cX1_useDraft 15 = .ok (.putfield 18, 3) := by decide +kernel
theorem dX1_useDraft_18 : decode cX1_useDraft 18 = .ok (.return_, 1) := by decide +kernel
theorem dX1_readClauses_0 : decode cX1_readClauses 0 = .ok (.aload_n 0, 1) := by decide +kernel
theorem dX1_readClauses_1 : decode cX1_readClauses 1 = .ok (.iconst 0, 1) := by decide +kernel
theorem dX1_readClauses_2 : decode cX1_readClauses 2 = .ok (.putfield 25, 3) := by decide +kernel
theorem dX1_readClauses_5 : decode cX1_readClauses 5 = .ok (.aload_n 0, 1) := by decide +kernel
theorem dX1_readClauses_6 : decode cX1_readClauses 6 = .ok (.getfield 18, 3) := by decide +kernel
theorem dX1_readClauses_9 : decode cX1_readClauses 9 = .ok (.iconst 0, 1) := by decide +kernel
theorem dX1_readClauses_10 : decode cX1_readClauses 10 = .ok (.invokestatic 28, 3) := by decide +kernel
theorem dX1_readClauses_13 : decode cX1_readClauses 13 = .ok (.iconst 1, 1) := by decide +kernel
theorem dX1_readClauses_14 : decode cX1_readClauses 14 = .ok (.istore_n 1, 1) := by decide +kernel
theorem dX1_readClauses_15 : decode cX1_readClauses 15 = .ok (.iload_n 1, 1) := by decide +kernel
theorem dX1_readClauses_16 : decode cX1_readClauses 16 = .ok (.iconst 5, 1) := by decide +kernel
theorem dX1_readClauses_17 : decode cX1_readClauses 17 = .ok (.if_icmp .gt 43, 3) := by decide +kernel
theorem dX1_readClauses_20 : decode cX1_readClauses 20 = .ok (.aload_n 0, 1) := by decide +kernel
theorem dX1_readClauses_21 : decode cX1_readClauses 21 = .ok (.invokevirtual 49, 3) := by decide +kernel
theorem dX1_readClauses_24 : decode cX1_readClauses 24 = .ok (.ifCond .ne 5, 3) := by decide +kernel
theorem dX1_readClauses_27 : decode cX1_readClauses 27 = .ok (.iconst 0, 1) := by decide +kernel
theorem dX1_readClauses_28 : decode cX1_readClauses 28 = .ok (.ireturn, 1) := by decide +kernel
theorem dX1_readClauses_29 : decode cX1_readClauses 29 = .ok (.aload_n 0, 1) := by decide +kernel
theorem dX1_readClauses_30 : decode cX1_readClauses 30 = .ok (.invokevirtual 53, 3) := by decide +kernel
theorem dX1_readClauses_33 : decode cX1_readClauses 33 = .ok (.ifCond .eq 5, 3) := by decide +kernel
theorem dX1_readClauses_36 : decode cX1_readClauses 36 = .ok (.iload_n 1, 1) := by decide +kernel
theorem dX1_readClauses_37 : decode cX1_readClauses 37 = .ok (.ireturn, 1) := by decide +kernel
theorem dX1_readClauses_38 : decode cX1_readClauses 38 = .ok (.iload_n 1, 1) := by decide +kernel
theorem dX1_readClauses_39 : decode cX1_readClauses 39 = .ok (.iconst 5, 1) := by decide +kernel
theorem dX1_readClauses_40 : decode cX1_readClauses 40 = .ok (.if_icmp .eq 12, 3) := by decide +kernel
theorem dX1_readClauses_43 : decode cX1_readClauses 43 = .ok (.aload_n 0, 1) := by decide +kernel
theorem dX1_readClauses_44 : decode cX1_readClauses 44 = .ok (.bipush 59, 2) := by decide +kernel
theorem dX1_readClauses_46 : decode cX1_readClauses 46 = .ok (.invokevirtual 56, 3) := by decide +kernel
theorem dX1_readClauses_49 : decode cX1_readClauses 49 = .ok (.ifCond .ne 5, 3) := by decide +kernel
theorem dX1_readClauses_52 : decode cX1_readClauses 52 = .ok (.iconst 0, 1) := by decide +kernel
theorem dX1_readClauses_53 : decode cX1_readClauses 53 = .ok (.ireturn, 1) := by decide +kernel
theorem dX1_readClauses_54 : decode cX1_readClauses 54 = .ok (.iinc 1 1, 3) := by decide +kernel
theorem dX1_readClauses_57 : decode cX1_readClauses 57 = .ok (.goto (-42), 3) := by decide +kernel
theorem dX1_readClauses_60 : decode cX1_readClauses 60 = .ok (.iconst 0, 1) := by decide +kernel
theorem dX1_readClauses_61 : decode cX1_readClauses 61 = .ok (.ireturn, 1) := by decide +kernel
theorem dX1_readClause_0 : decode cX1_readClause 0 = .ok (.aload_n 0, 1) := by decide +kernel
theorem dX1_readClause_1 : decode cX1_readClause 1 = .ok (.iconst 0, 1) := by decide +kernel
theorem dX1_readClause_2 : decode cX1_readClause 2 = .ok (.bipush 9, 2) := by decide +kernel
theorem dX1_readClause_4 : decode cX1_readClause 4 = .ok (.invokevirtual 60, 3) := by decide +kernel
theorem dX1_readClause_7 : decode cX1_readClause 7 = .ok (.istore_n 1, 1) := by decide +kernel
theorem dX1_readClause_8 : decode cX1_readClause 8 = .ok (.iload_n 1, 1) := by decide +kernel
theorem dX1_readClause_9 : decode cX1_readClause 9 = .ok (.iconst (-1), 1) := by decide +kernel
theorem dX1_readClause_10 : decode cX1_readClause 10 = .ok (.if_icmp .ne 5, 3) := by decide +kernel
theorem dX1_readClause_13 : decode cX1_readClause 13 = .ok (.iconst 0, 1) := by decide +kernel
theorem dX1_readClause_14 : decode cX1_readClause 14 = .ok (.ireturn, 1) := by decide +kernel
theorem dX1_readClause_15 : decode cX1_readClause 15 = .ok (.aload_n 0, 1) := by decide +kernel
theorem dX1_readClause_16 : decode cX1_readClause 16 = .ok (.bipush 45, 2) := by decide +kernel
theorem dX1_readClause_18 : decode cX1_readClause 18 = .ok (.invokevirtual 56, 3) := by decide +kernel
theorem dX1_readClause_21 : decode cX1_readClause 21 = .ok (.ifCond .eq 13, 3) := by decide +kernel
theorem dX1_readClause_24 : decode cX1_readClause 24 = .ok (.aload_n 0, 1) := by decide +kernel
theorem dX1_readClause_25 : decode cX1_readClause 25 = .ok (.iload_n 1, 1) := by decide +kernel
theorem dX1_readClause_26 : decode cX1_readClause 26 = .ok (.bipush 9, 2) := by decide +kernel
theorem dX1_readClause_28 : decode cX1_readClause 28 = .ok (.invokevirtual 60, 3) := by decide +kernel
theorem dX1_readClause_31 : decode cX1_readClause 31 = .ok (.goto 4, 3) := by decide +kernel
theorem dX1_readClause_34 : decode cX1_readClause 34 = .ok (.iload_n 1, 1) := by decide +kernel
theorem dX1_readClause_35 : decode cX1_readClause 35 = .ok (.istore_n 2, 1) := by decide +kernel
theorem dX1_readClause_36 : decode cX1_readClause 36 = .ok (.iload_n 2, 1) := by decide +kernel
theorem dX1_readClause_37 : decode cX1_readClause 37 = .ok (.iconst (-1), 1) := by decide +kernel
theorem dX1_readClause_38 : decode cX1_readClause 38 = .ok (.if_icmp .eq 12, 3) := by decide +kernel
theorem dX1_readClause_41 : decode cX1_readClause 41 = .ok (.aload_n 0, 1) := by decide +kernel
theorem dX1_readClause_42 : decode cX1_readClause 42 = .ok (.bipush 58, 2) := by decide +kernel
theorem dX1_readClause_44 : decode cX1_readClause 44 = .ok (.invokevirtual 56, 3) := by decide +kernel
theorem dX1_readClause_47 : decode cX1_readClause 47 = .ok (.ifCond .ne 5, 3) := by decide +kernel
theorem dX1_readClause_50 : decode cX1_readClause 50 = .ok (.iconst 0, 1) := by decide +kernel
theorem dX1_readClause_51 : decode cX1_readClause 51 = .ok (.ireturn, 1) := by decide +kernel
theorem dX1_readClause_52 : decode cX1_readClause 52 = .ok (.aload_n 0, 1) := by decide +kernel
theorem dX1_readClause_53 : decode cX1_readClause 53 = .ok (.iconst 0, 1) := by decide +kernel
theorem dX1_readClause_54 : decode cX1_readClause 54 = .ok (.bipush 99, 2) := by decide +kernel
theorem dX1_readClause_56 : decode cX1_readClause 56 = .ok (.invokevirtual 60, 3) := by decide +kernel
theorem dX1_readClause_59 : decode cX1_readClause 59 = .ok (.istore_n 3, 1) := by decide +kernel
theorem dX1_readClause_60 : decode cX1_readClause 60 = .ok (.iload_n 3, 1) := by decide +kernel
theorem dX1_readClause_61 : decode cX1_readClause 61 = .ok (.iconst (-1), 1) := by decide +kernel
theorem dX1_readClause_62 : decode cX1_readClause 62 = .ok (.if_icmp .ne 5, 3) := by decide +kernel
theorem dX1_readClause_65 : decode cX1_readClause 65 = .ok (.iconst 0, 1) := by decide +kernel
theorem dX1_readClause_66 : decode cX1_readClause 66 = .ok (.ireturn, 1) := by decide +kernel
theorem dX1_readClause_67 : decode cX1_readClause 67 = .ok (.iload_n 1, 1) := by decide +kernel
theorem dX1_readClause_68 : decode cX1_readClause 68 = .ok (.istore 4, 2) := by decide +kernel
theorem dX1_readClause_70 : decode cX1_readClause 70 = .ok (.iload 4, 2) := by decide +kernel
theorem dX1_readClause_72 : decode cX1_readClause 72 = .ok (.iload_n 2, 1) := by decide +kernel
theorem dX1_readClause_73 : decode cX1_readClause 73 = .ok (.if_icmp .gt 27, 3) := by decide +kernel
theorem dX1_readClause_76 : decode cX1_readClause 76 = .ok (.iload 4, 2) := by decide +kernel
theorem dX1_readClause_78 : decode cX1_readClause 78 = .ok (.aload_n 0, 1) := by decide +kernel
theorem dX1_readClause_79 : decode cX1_readClause 79 = .ok (.getfield 18, 3) := by decide +kernel
theorem dX1_readClause_82 : decode cX1_readClause 82 = .ok (.arraylength, 1) := by decide +kernel
theorem dX1_readClause_83 : decode cX1_readClause 83 = .ok (.if_icmp .ge 17, 3) := by decide +kernel
theorem dX1_readClause_86 : decode cX1_readClause 86 = .ok (.aload_n 0, 1) := by decide +kernel
theorem dX1_readClause_87 : decode cX1_readClause 87 = .ok (.getfield 18, 3) := by decide +kernel
theorem dX1_readClause_90 : decode cX1_readClause 90 = .ok (.iload 4, 2) := by decide +kernel
theorem dX1_readClause_92 : decode cX1_readClause 92 = .ok (.iload_n 3, 1) := by decide +kernel
theorem dX1_readClause_93 : decode cX1_readClause 93 = .ok (.iastore, 1) := by decide +kernel
theorem dX1_readClause_94 : decode cX1_readClause 94 = .ok (.iinc 4 1, 3) := by decide +kernel
theorem dX1_readClause_97 : decode cX1_readClause 97 = .ok (.goto (-27), 3) := by decide +kernel
theorem dX1_readClause_100 : decode cX1_readClause 100 = .ok (.iconst 1, 1) := by decide +kernel
theorem dX1_readClause_101 : decode cX1_readClause 101 = .ok (.ireturn, 1) := by decide +kernel
theorem dX1_readNumber_0 : decode cX1_readNumber 0 = .ok (.aload_n 0, 1) := by decide +kernel
theorem dX1_readNumber_1 : decode cX1_readNumber 1 = .ok (.invokevirtual 64, 3) := by decide +kernel
theorem dX1_readNumber_4 : decode cX1_readNumber 4 = .ok (.aload_n 0, 1) := by decide +kernel
theorem dX1_readNumber_5 : decode cX1_readNumber 5 = .ok (.getfield 25, 3) := by decide +kernel
theorem dX1_readNumber_8 : decode cX1_readNumber 8 = .ok (.istore_n 3, 1) := by decide +kernel
theorem dX1_readNumber_9 : decode cX1_readNumber 9 = .ok (.iconst 0, 1) := by decide +kernel
theorem dX1_readNumber_10 : decode cX1_readNumber 10 = .ok (.istore 4, 2) := by decide +kernel
theorem dX1_readNumber_12 : decode cX1_readNumber 12 = .ok (.aload_n 0, 1) := by decide +kernel
theorem dX1_readNumber_13 : decode cX1_readNumber 13 = .ok (.getfield 25, 3) := by decide +kernel
theorem dX1_readNumber_16 : decode cX1_readNumber 16 = .ok (.aload_n 0, 1) := by decide +kernel
theorem dX1_readNumber_17 : decode cX1_readNumber 17 = .ok (.getfield 21, 3) := by decide +kernel
theorem dX1_readNumber_20 : decode cX1_readNumber 20 = .ok (.if_icmp .ge 60, 3) := by decide +kernel
theorem dX1_readNumber_23 : decode cX1_readNumber 23 = .ok (.aload_n 0, 1) := by decide +kernel
theorem dX1_readNumber_24 : decode cX1_readNumber 24 = .ok (.getfield 11, 3) := by decide +kernel
theorem dX1_readNumber_27 : decode cX1_readNumber 27 = .ok (.aload_n 0, 1) := by decide +kernel
theorem dX1_readNumber_28 : decode cX1_readNumber 28 = .ok (.getfield 25, 3) := by decide +kernel
theorem dX1_readNumber_31 : decode cX1_readNumber 31 = .ok (.iaload, 1) := by decide +kernel
theorem dX1_readNumber_32 : decode cX1_readNumber 32 = .ok (.bipush 48, 2) := by decide +kernel
theorem dX1_readNumber_34 : decode cX1_readNumber 34 = .ok (.bipush 57, 2) := by decide +kernel
theorem dX1_readNumber_36 : decode cX1_readNumber 36 = .ok (.invokestatic 34, 3) := by decide +kernel
theorem dX1_readNumber_39 : decode cX1_readNumber 39 = .ok (.ifCond .ne 41, 3) := by decide +kernel
theorem dX1_readNumber_42 : decode cX1_readNumber 42 = .ok (.bipush 100, 2) := by decide +kernel
theorem dX1_readNumber_44 : decode cX1_readNumber 44 = .ok (.iload 4, 2) := by decide +kernel
theorem dX1_readNumber_46 : decode cX1_readNumber 46 = .ok (.bipush 10, 2) := by decide +kernel
theorem dX1_readNumber_48 : decode cX1_readNumber 48 = .ok (.imul, 1) := by decide +kernel
theorem dX1_readNumber_49 : decode cX1_readNumber 49 = .ok (.aload_n 0, 1) := by decide +kernel
theorem dX1_readNumber_50 : decode cX1_readNumber 50 = .ok (.getfield 11, 3) := by decide +kernel
theorem dX1_readNumber_53 : decode cX1_readNumber 53 = .ok (.aload_n 0, 1) := by decide +kernel
theorem dX1_readNumber_54 : decode cX1_readNumber 54 = .ok (.getfield 25, 3) := by decide +kernel
theorem dX1_readNumber_57 : decode cX1_readNumber 57 = .ok (.iaload, 1) := by decide +kernel
theorem dX1_readNumber_58 : decode cX1_readNumber 58 = .ok (.iadd, 1) := by decide +kernel
theorem dX1_readNumber_59 : decode cX1_readNumber 59 = .ok (.bipush 48, 2) := by decide +kernel
theorem dX1_readNumber_61 : decode cX1_readNumber 61 = .ok (.isub, 1) := by decide +kernel
theorem dX1_readNumber_62 : decode cX1_readNumber 62 = .ok (.invokestatic 67, 3) := by decide +kernel
theorem dX1_readNumber_65 : decode cX1_readNumber 65 = .ok (.istore 4, 2) := by decide +kernel
theorem dX1_readNumber_67 : decode cX1_readNumber 67 = .ok (.aload_n 0, 1) := by decide +kernel
theorem dX1_readNumber_68 : decode cX1_readNumber 68 = .ok (.dup, 1) := by decide +kernel
theorem dX1_readNumber_69 : decode cX1_readNumber 69 = .ok (.getfield 25, 3) := by decide +kernel
theorem dX1_readNumber_72 : decode cX1_readNumber 72 = .ok (.iconst 1, 1) := by decide +kernel
theorem dX1_readNumber_73 : decode cX1_readNumber 73 = .ok (.iadd, 1) := by decide +kernel
theorem dX1_readNumber_74 : decode cX1_readNumber 74 = .ok (.putfield 25, 3) := by decide +kernel
theorem dX1_readNumber_77 : decode cX1_readNumber 77 = .ok (.goto (-65), 3) := by decide +kernel
theorem dX1_readNumber_80 : decode cX1_readNumber 80 = .ok (.aload_n 0, 1) := by decide +kernel
theorem dX1_readNumber_81 : decode cX1_readNumber 81 = .ok (.getfield 25, 3) := by decide +kernel
theorem dX1_readNumber_84 : decode cX1_readNumber 84 = .ok (.iload_n 3, 1) := by decide +kernel
theorem dX1_readNumber_85 : decode cX1_readNumber 85 = .ok (.if_icmp .le 16, 3) := by decide +kernel
theorem dX1_readNumber_88 : decode cX1_readNumber 88 = .ok (.iload 4, 2) := by decide +kernel
theorem dX1_readNumber_90 : decode cX1_readNumber 90 = .ok (.iload_n 1, 1) := by decide +kernel
theorem dX1_readNumber_91 : decode cX1_readNumber 91 = .ok (.iload_n 2, 1) := by decide +kernel
theorem dX1_readNumber_92 : decode cX1_readNumber 92 = .ok (.invokestatic 34, 3) := by decide +kernel
theorem dX1_readNumber_95 : decode cX1_readNumber 95 = .ok (.ifCond .ne 6, 3) := by decide +kernel
theorem dX1_readNumber_98 : decode cX1_readNumber 98 = .ok (.iload 4, 2) := by decide +kernel
theorem dX1_readNumber_100 : decode cX1_readNumber 100 = .ok (.ireturn, 1) := by decide +kernel
theorem dX1_readNumber_101 : decode cX1_readNumber 101 = .ok (.aload_n 0, 1) := by decide +kernel
theorem dX1_readNumber_102 : decode cX1_readNumber 102 = .ok (.iload_n 3, 1) := by decide +kernel
theorem dX1_readNumber_103 : decode cX1_readNumber 103 = .ok (.putfield 25, 3) := by decide +kernel
theorem dX1_readNumber_106 : decode cX1_readNumber 106 = .ok (.iconst (-1), 1) := by decide +kernel
theorem dX1_readNumber_107 : decode cX1_readNumber 107 = .ok (.ireturn, 1) := by decide +kernel
theorem dX1_readSign_0 : decode cX1_readSign 0 = .ok (.aload_n 0, 1) := by decide +kernel
theorem dX1_readSign_1 : decode cX1_readSign 1 = .ok (.invokevirtual 64, 3) := by decide +kernel
theorem dX1_readSign_4 : decode cX1_readSign 4 = .ok (.aload_n 0, 1) := by decide +kernel
theorem dX1_readSign_5 : decode cX1_readSign 5 = .ok (.getfield 25, 3) := by decide +kernel
theorem dX1_readSign_8 : decode cX1_readSign 8 = .ok (.aload_n 0, 1) := by decide +kernel
theorem dX1_readSign_9 : decode cX1_readSign 9 = .ok (.getfield 21, 3) := by decide +kernel
theorem dX1_readSign_12 : decode cX1_readSign 12 = .ok (.if_icmp .ge 16, 3) := by decide +kernel
theorem dX1_readSign_15 : decode cX1_readSign 15 = .ok (.aload_n 0, 1) := by decide +kernel
theorem dX1_readSign_16 : decode cX1_readSign 16 = .ok (.getfield 11, 3) := by decide +kernel
theorem dX1_readSign_19 : decode cX1_readSign 19 = .ok (.aload_n 0, 1) := by decide +kernel
theorem dX1_readSign_20 : decode cX1_readSign 20 = .ok (.getfield 25, 3) := by decide +kernel
theorem dX1_readSign_23 : decode cX1_readSign 23 = .ok (.iaload, 1) := by decide +kernel
theorem dX1_readSign_24 : decode cX1_readSign 24 = .ok (.iload_n 1, 1) := by decide +kernel
theorem dX1_readSign_25 : decode cX1_readSign 25 = .ok (.if_icmp .eq 5, 3) := by decide +kernel
theorem dX1_readSign_28 : decode cX1_readSign 28 = .ok (.iconst 0, 1) := by decide +kernel
theorem dX1_readSign_29 : decode cX1_readSign 29 = .ok (.ireturn, 1) := by decide +kernel
theorem dX1_readSign_30 : decode cX1_readSign 30 = .ok (.aload_n 0, 1) := by decide +kernel
theorem dX1_readSign_31 : decode cX1_readSign 31 = .ok (.dup, 1) := by decide +kernel
theorem dX1_readSign_32 : decode cX1_readSign 32 = .ok (.getfield 25, 3) := by decide +kernel
theorem dX1_readSign_35 : decode cX1_readSign 35 = .ok (.iconst 1, 1) := by decide +kernel
theorem dX1_readSign_36 : decode cX1_readSign 36 = .ok (.iadd, 1) := by decide +kernel
theorem dX1_readSign_37 : decode cX1_readSign 37 = .ok (.putfield 25, 3) := by decide +kernel
theorem dX1_readSign_40 : decode cX1_readSign 40 = .ok (.iconst 1, 1) := by decide +kernel
theorem dX1_readSign_41 : decode cX1_readSign 41 = .ok (.ireturn, 1) := by decide +kernel
theorem dX1_isAtEnd_0 : decode cX1_isAtEnd 0 = .ok (.aload_n 0, 1) := by decide +kernel
theorem dX1_isAtEnd_1 : decode cX1_isAtEnd 1 = .ok (.invokevirtual 64, 3) := by decide +kernel
theorem dX1_isAtEnd_4 : decode cX1_isAtEnd 4 = .ok (.aload_n 0, 1) := by decide +kernel
theorem dX1_isAtEnd_5 : decode cX1_isAtEnd 5 = .ok (.getfield 25, 3) := by decide +kernel
theorem dX1_isAtEnd_8 : decode cX1_isAtEnd 8 = .ok (.aload_n 0, 1) := by decide +kernel
theorem dX1_isAtEnd_9 : decode cX1_isAtEnd 9 = .ok (.getfield 21, 3) := by decide +kernel
theorem dX1_isAtEnd_12 : decode cX1_isAtEnd 12 = .ok (.if_icmp .lt 7, 3) := by decide +kernel
theorem dX1_isAtEnd_15 : decode cX1_isAtEnd 15 = .ok (.iconst 1, 1) := by decide +kernel
theorem dX1_isAtEnd_16 : decode cX1_isAtEnd 16 = .ok (.goto 4, 3) := by decide +kernel
theorem dX1_isAtEnd_19 : decode cX1_isAtEnd 19 = .ok (.iconst 0, 1) := by decide +kernel
theorem dX1_isAtEnd_20 : decode cX1_isAtEnd 20 = .ok (.ireturn, 1) := by decide +kernel
theorem dX1_skipBlanks_0 : decode cX1_skipBlanks 0 = .ok (.aload_n 0, 1) := by decide +kernel
theorem dX1_skipBlanks_1 : decode cX1_skipBlanks 1 = .ok (.getfield 25, 3) := by decide +kernel
theorem dX1_skipBlanks_4 : decode cX1_skipBlanks 4 = .ok (.aload_n 0, 1) := by decide +kernel
theorem dX1_skipBlanks_5 : decode cX1_skipBlanks 5 = .ok (.getfield 21, 3) := by decide +kernel
theorem dX1_skipBlanks_8 : decode cX1_skipBlanks 8 = .ok (.if_icmp .ge 30, 3) := by decide +kernel
theorem dX1_skipBlanks_11 : decode cX1_skipBlanks 11 = .ok (.aload_n 0, 1) := by decide +kernel
theorem dX1_skipBlanks_12 : decode cX1_skipBlanks 12 = .ok (.getfield 11, 3) := by decide +kernel
theorem dX1_skipBlanks_15 : decode cX1_skipBlanks 15 = .ok (.aload_n 0, 1) := by decide +kernel
theorem dX1_skipBlanks_16 : decode cX1_skipBlanks 16 = .ok (.getfield 25, 3) := by decide +kernel
theorem dX1_skipBlanks_19 : decode cX1_skipBlanks 19 = .ok (.iaload, 1) := by decide +kernel
theorem dX1_skipBlanks_20 : decode cX1_skipBlanks 20 = .ok (.bipush 32, 2) := by decide +kernel
theorem dX1_skipBlanks_22 : decode cX1_skipBlanks 22 = .ok (.if_icmp .ne 16, 3) := by decide +kernel
theorem dX1_skipBlanks_25 : decode cX1_skipBlanks 25 = .ok (.aload_n 0, 1) := by decide +kernel
theorem dX1_skipBlanks_26 : decode cX1_skipBlanks 26 = .ok (.dup, 1) := by decide +kernel
theorem dX1_skipBlanks_27 : decode cX1_skipBlanks 27 = .ok (.getfield 25, 3) := by decide +kernel
theorem dX1_skipBlanks_30 : decode cX1_skipBlanks 30 = .ok (.iconst 1, 1) := by decide +kernel
theorem dX1_skipBlanks_31 : decode cX1_skipBlanks 31 = .ok (.iadd, 1) := by decide +kernel
theorem dX1_skipBlanks_32 : decode cX1_skipBlanks 32 = .ok (.putfield 25, 3) := by decide +kernel
theorem dX1_skipBlanks_35 : decode cX1_skipBlanks 35 = .ok (.goto (-35), 3) := by decide +kernel
theorem dX1_skipBlanks_38 : decode cX1_skipBlanks 38 = .ok (.return_, 1) := by decide +kernel
theorem dX2_init_0 : decode cX2_init 0 = .ok (.aload_n 0, 1) := by decide +kernel
theorem dX2_init_1 : decode cX2_init 1 = .ok (.invokespecial 1, 3) := by decide +kernel
theorem dX2_init_4 : decode cX2_init 4 = .ok (.aload_n 0, 1) := by decide +kernel
theorem dX2_init_5 : decode cX2_init 5 = .ok (.new 7, 3) := by decide +kernel
theorem dX2_init_8 : decode cX2_init 8 = .ok (.dup, 1) := by decide +kernel
theorem dX2_init_9 : decode cX2_init 9 = .ok (.invokespecial 9, 3) := by decide +kernel
theorem dX2_init_12 : decode cX2_init 12 = .ok (.putfield 10, 3) := by decide +kernel
theorem dX2_init_15 : decode cX2_init 15 = .ok (.aload_n 0, 1) := by decide +kernel
theorem dX2_init_16 : decode cX2_init 16 = .ok (.iconst 1, 1) := by decide +kernel
theorem dX2_init_17 : decode cX2_init 17 = .ok (.putfield 16, 3) := by decide +kernel
theorem dX2_init_20 : decode cX2_init 20 = .ok (.aload_n 0, 1) := by decide +kernel
theorem dX2_init_21 : decode cX2_init 21 = .ok (.iconst 0, 1) := by decide +kernel
theorem dX2_init_22 : decode cX2_init 22 = .ok (.putfield 20, 3) := by decide +kernel
theorem dX2_init_25 : decode cX2_init 25 = .ok (.aload_n 0, 1) := by decide +kernel
theorem dX2_init_26 : decode cX2_init 26 = .ok (.iconst 0, 1) := by decide +kernel
theorem dX2_init_27 : decode cX2_init 27 = .ok (.putfield 24, 3) := by decide +kernel
theorem dX2_init_30 : decode cX2_init 30 = .ok (.aload_n 0, 1) := by decide +kernel
theorem dX2_init_31 : decode cX2_init 31 = .ok (.iload_n 1, 1) := by decide +kernel
theorem dX2_init_32 : decode cX2_init 32 = .ok (.putfield 27, 3) := by decide +kernel
theorem dX2_init_35 : decode cX2_init 35 = .ok (.aload_n 0, 1) := by decide +kernel
theorem dX2_init_36 : decode cX2_init 36 = .ok (.iload_n 2, 1) := by decide +kernel
theorem dX2_init_37 : decode cX2_init 37 = .ok (.putfield 30, 3) := by decide +kernel
theorem dX2_init_40 : decode cX2_init 40 = .ok (.return_, 1) := by decide +kernel
theorem dX2_nextToFill_0 : decode cX2_nextToFill 0 = .ok (.aconst_null, 1) := by decide +kernel
theorem dX2_nextToFill_1 : decode cX2_nextToFill 1 = .ok (.astore_n 1, 1) := by decide +kernel
theorem dX2_nextToFill_2 : decode cX2_nextToFill 2 = .ok (.iconst 0, 1) := by decide +kernel
theorem dX2_nextToFill_3 : decode cX2_nextToFill 3 = .ok (.istore_n 2, 1) := by decide +kernel
theorem dX2_nextToFill_4 : decode cX2_nextToFill 4 = .ok (.iload_n 2, 1) := by decide +kernel
theorem dX2_nextToFill_5 : decode cX2_nextToFill 5 = .ok (.aload_n 0, 1) := by decide +kernel
theorem dX2_nextToFill_6 : decode cX2_nextToFill 6 = .ok (.getfield 10, 3) := by decide +kernel
theorem dX2_nextToFill_9 : decode cX2_nextToFill 9 = .ok (.invokevirtual 33, 3) := by decide +kernel
theorem dX2_nextToFill_12 : decode cX2_nextToFill 12 = .ok (.if_icmp .ge 38, 3) := by decide +kernel
theorem dX2_nextToFill_15 : decode cX2_nextToFill 15 = .ok (.aload_n 0, 1) := by decide +kernel
theorem dX2_nextToFill_16 : decode cX2_nextToFill 16 = .ok (.getfield 10, 3) := by decide +kernel
theorem dX2_nextToFill_19 : decode cX2_nextToFill 19 = .ok (.iload_n 2, 1) := by decide +kernel
theorem dX2_nextToFill_20 : decode cX2_nextToFill 20 = .ok (.invokevirtual 37, 3) := by decide +kernel
theorem dX2_nextToFill_23 : decode cX2_nextToFill 23 = .ok (.checkcast 41, 3) := by decide +kernel
theorem dX2_nextToFill_26 : decode cX2_nextToFill 26 = .ok (.astore_n 3, 1) := by decide +kernel
theorem dX2_nextToFill_27 : decode cX2_nextToFill 27 = .ok (.aload_n 1, 1) := by decide +kernel
theorem dX2_nextToFill_28 : decode cX2_nextToFill 28 = .ok (.ifnull 14, 3) := by decide +kernel
theorem dX2_nextToFill_31 : decode cX2_nextToFill 31 = .ok (.aload_n 3, 1) := by decide +kernel
theorem dX2_nextToFill_32 : decode cX2_nextToFill 32 = .ok (.getfield 43, 3) := by decide +kernel
theorem dX2_nextToFill_35 : decode cX2_nextToFill 35 = .ok (.aload_n 1, 1) := by decide +kernel
theorem dX2_nextToFill_36 : decode cX2_nextToFill 36 = .ok (.getfield 43, 3) := by decide +kernel
theorem dX2_nextToFill_39 : decode cX2_nextToFill 39 = .ok (.if_icmp .le 5, 3) := by decide +kernel
theorem dX2_nextToFill_42 : decode cX2_nextToFill 42 = .ok (.aload_n 3, 1) := by decide +kernel
theorem dX2_nextToFill_43 : decode cX2_nextToFill 43 = .ok (.astore_n 1, 1) := by decide +kernel
theorem dX2_nextToFill_44 : decode cX2_nextToFill 44 = .ok (.iinc 2 1, 3) := by decide +kernel
theorem dX2_nextToFill_47 : decode cX2_nextToFill 47 = .ok (.goto (-43), 3) := by decide +kernel
theorem dX2_nextToFill_50 : decode cX2_nextToFill 50 = .ok (.aload_n 1, 1) := by decide +kernel
theorem dX2_nextToFill_51 : decode cX2_nextToFill 51 = .ok (.areturn, 1) := by decide +kernel
theorem dX2_countAhead_0 : decode cX2_countAhead 0 = .ok (.iconst 0, 1) := by decide +kernel
theorem dX2_countAhead_1 : decode cX2_countAhead 1 = .ok (.istore_n 2, 1) := by decide +kernel
theorem dX2_countAhead_2 : decode cX2_countAhead 2 = .ok (.iconst 1, 1) := by decide +kernel
theorem dX2_countAhead_3 : decode cX2_countAhead 3 = .ok (.istore_n 3, 1) := by decide +kernel
theorem dX2_countAhead_4 : decode cX2_countAhead 4 = .ok (.iconst 0, 1) := by decide +kernel
theorem dX2_countAhead_5 : decode cX2_countAhead 5 = .ok (.istore 4, 2) := by decide +kernel
theorem dX2_countAhead_7 : decode cX2_countAhead 7 = .ok (.iload 4, 2) := by decide +kernel
theorem dX2_countAhead_9 : decode cX2_countAhead 9 = .ok (.aload_n 0, 1) := by decide +kernel
theorem dX2_countAhead_10 : decode cX2_countAhead 10 = .ok (.getfield 10, 3) := by decide +kernel
theorem dX2_countAhead_13 : decode cX2_countAhead 13 = .ok (.invokevirtual 33, 3) := by decide +kernel
theorem dX2_countAhead_16 : decode cX2_countAhead 16 = .ok (.if_icmp .ge 65, 3) := by decide +kernel
theorem dX2_countAhead_19 : decode cX2_countAhead 19 = .ok (.aload_n 0, 1) := by decide +kernel
theorem dX2_countAhead_20 : decode cX2_countAhead 20 = .ok (.getfield 10, 3) := by decide +kernel
theorem dX2_countAhead_23 : decode cX2_countAhead 23 = .ok (.iload 4, 2) := by decide +kernel
theorem dX2_countAhead_25 : decode cX2_countAhead 25 = .ok (.invokevirtual 37, 3) := by decide +kernel
theorem dX2_countAhead_28 : decode cX2_countAhead 28 = .ok (.checkcast 41, 3) := by decide +kernel
theorem dX2_countAhead_31 : decode cX2_countAhead 31 = .ok (.astore 5, 2) := by decide +kernel
theorem dX2_countAhead_33 : decode cX2_countAhead 33 = .ok (.aload 5, 2) := by decide +kernel
theorem dX2_countAhead_35 : decode cX2_countAhead 35 = .ok (.aload_n 1, 1) := by decide +kernel
theorem dX2_countAhead_36 : decode cX2_countAhead 36 = .ok (.if_acmp .ne 8, 3) := by decide +kernel
theorem dX2_countAhead_39 : decode cX2_countAhead 39 = .ok (.iconst 0, 1) := by decide +kernel
theorem dX2_countAhead_40 : decode cX2_countAhead 40 = .ok (.istore_n 3, 1) := by decide +kernel
theorem dX2_countAhead_41 : decode cX2_countAhead 41 = .ok (.goto 34, 3) := by decide +kernel
theorem dX2_countAhead_44 : decode cX2_countAhead 44 = .ok (.aload 5, 2) := by decide +kernel
theorem dX2_countAhead_46 : decode cX2_countAhead 46 = .ok (.getfield 43, 3) := by decide +kernel
theorem dX2_countAhead_49 : decode cX2_countAhead 49 = .ok (.aload_n 1, 1) := by decide +kernel
theorem dX2_countAhead_50 : decode cX2_countAhead 50 = .ok (.getfield 43, 3) := by decide +kernel
theorem dX2_countAhead_53 : decode cX2_countAhead 53 = .ok (.if_icmp .gt 19, 3) := by decide +kernel
theorem dX2_countAhead_56 : decode cX2_countAhead 56 = .ok (.iload_n 3, 1) := by decide +kernel
theorem dX2_countAhead_57 : decode cX2_countAhead 57 = .ok (.ifCond .eq 18, 3) := by decide +kernel
theorem dX2_countAhead_60 : decode cX2_countAhead 60 = .ok (.aload 5, 2) := by decide +kernel
theorem dX2_countAhead_62 : decode cX2_countAhead 62 = .ok (.getfield 43, 3) := by decide +kernel
theorem dX2_countAhead_65 : decode cX2_countAhead 65 = .ok (.aload_n 1, 1) := by decide +kernel
theorem dX2_countAhead_66 : decode cX2_countAhead 66 = .ok (.getfield 43, 3) := by decide +kernel
theorem dX2_countAhead_69 : decode cX2_countAhead 69 = .ok (.if_icmp .ne 6, 3) := by decide +kernel
theorem dX2_countAhead_72 : decode cX2_countAhead 72 = .ok (.iinc 2 1, 3) := by decide +kernel
theorem dX2_countAhead_75 : decode cX2_countAhead 75 = .ok (.iinc 4 1, 3) := by decide +kernel
theorem dX2_countAhead_78 : decode cX2_countAhead 78 = .ok (.goto (-71), 3) := by decide +kernel
theorem dX2_countAhead_81 : decode cX2_countAhead 81 = .ok (.iload_n 2, 1) := by decide +kernel
theorem dX2_countAhead_82 : decode cX2_countAhead 82 = .ok (.ireturn, 1) := by decide +kernel
theorem dX3_init_0 : decode cX3_init 0 = .ok (.aload_n 0, 1) := by decide +kernel
theorem dX3_init_1 : decode cX3_init 1 = .ok (.invokespecial 3, 3) := by decide +kernel
theorem dX3_init_4 : decode cX3_init 4 = .ok (.aload_n 0, 1) := by decide +kernel
theorem dX3_init_5 : decode cX3_init 5 = .ok (.bipush 36, 2) := by decide +kernel
theorem dX3_init_7 : decode cX3_init 7 = .ok (.newarray .int, 2) := by decide +kernel
theorem dX3_init_9 : decode cX3_init 9 = .ok (.putfield 11, 3) := by decide +kernel
theorem dX3_init_12 : decode cX3_init 12 = .ok (.aload_n 0, 1) := by decide +kernel
theorem dX3_init_13 : decode cX3_init 13 = .ok (.bipush 64, 2) := by decide +kernel
theorem dX3_init_15 : decode cX3_init 15 = .ok (.newarray .int, 2) := by decide +kernel
theorem dX3_init_17 : decode cX3_init 17 = .ok (.putfield 15, 3) := by decide +kernel
theorem dX3_init_20 : decode cX3_init 20 = .ok (.aload_n 0, 1) := by decide +kernel
theorem dX3_init_21 : decode cX3_init 21 = .ok (.bipush 10, 2) := by decide +kernel
theorem dX3_init_23 : decode cX3_init 23 = .ok (.newarray .int, 2) := by decide +kernel
theorem dX3_init_25 : decode cX3_init 25 = .ok (.putfield 18, 3) := by decide +kernel
theorem dX3_init_28 : decode cX3_init 28 = .ok (.aload_n 0, 1) := by decide +kernel
theorem dX3_init_29 : decode cX3_init 29 = .ok (.getfield 18, 3) := by decide +kernel
theorem dX3_init_32 : decode cX3_init 32 = .ok (.bipush (-4), 2) := by decide +kernel
theorem dX3_init_34 : decode cX3_init 34 = .ok (.invokestatic 21, 3) := by decide +kernel
theorem dX3_init_37 : decode cX3_init 37 = .ok (.return_, 1) := by decide +kernel
theorem dX3_jarOf_0 : decode cX3_jarOf 0 = .ok (.iload_n 1, 1) := by decide +kernel
theorem dX3_jarOf_1 : decode cX3_jarOf 1 = .ok (.ifCond .lt 12, 3) := by decide +kernel
theorem dX3_jarOf_4 : decode cX3_jarOf 4 = .ok (.iload_n 1, 1) := by decide +kernel
theorem dX3_jarOf_5 : decode cX3_jarOf 5 = .ok (.aload_n 0, 1) := by decide +kernel
theorem dX3_jarOf_6 : decode cX3_jarOf 6 = .ok (.getfield 18, 3) := by decide +kernel
theorem dX3_jarOf_9 : decode cX3_jarOf 9 = .ok (.arraylength, 1) := by decide +kernel
theorem dX3_jarOf_10 : decode cX3_jarOf 10 = .ok (.if_icmp .lt 8, 3) := by decide +kernel
theorem dX3_jarOf_13 : decode cX3_jarOf 13 = .ok (.bipush (-4), 2) := by decide +kernel
theorem dX3_jarOf_15 : decode cX3_jarOf 15 = .ok (.goto 9, 3) := by decide +kernel
theorem dX3_jarOf_18 : decode cX3_jarOf 18 = .ok (.aload_n 0, 1) := by decide +kernel
theorem dX3_jarOf_19 : decode cX3_jarOf 19 = .ok (.getfield 18, 3) := by decide +kernel
theorem dX3_jarOf_22 : decode cX3_jarOf 22 = .ok (.iload_n 1, 1) := by decide +kernel
theorem dX3_jarOf_23 : decode cX3_jarOf 23 = .ok (.iaload, 1) := by decide +kernel
theorem dX3_jarOf_24 : decode cX3_jarOf 24 = .ok (.ireturn, 1) := by decide +kernel
theorem dX3_setToil_0 : decode cX3_setToil 0 = .ok (.iload_n 1, 1) := by decide +kernel
theorem dX3_setToil_1 : decode cX3_setToil 1 = .ok (.iconst 0, 1) := by decide +kernel
theorem dX3_setToil_2 : decode cX3_setToil 2 = .ok (.iconst 5, 1) := by decide +kernel
theorem dX3_setToil_3 : decode cX3_setToil 3 = .ok (.invokestatic 27, 3) := by decide +kernel
theorem dX3_setToil_6 : decode cX3_setToil 6 = .ok (.ifCond .ne 12, 3) := by decide +kernel
theorem dX3_setToil_9 : decode cX3_setToil 9 = .ok (.iload_n 2, 1) := by decide +kernel
theorem dX3_setToil_10 : decode cX3_setToil 10 = .ok (.iconst 0, 1) := by decide +kernel
theorem dX3_setToil_11 : decode cX3_setToil 11 = .ok (.iconst 5, 1) := by decide +kernel
theorem dX3_setToil_12 : decode cX3_setToil 12 = .ok (.invokestatic 27, 3) := by decide +kernel
theorem dX3_setToil_15 : decode cX3_setToil 15 = .ok (.ifCond .eq 4, 3) := by decide +kernel
theorem dX3_setToil_18 : decode cX3_setToil 18 = .ok (.return_, 1) := by decide +kernel
theorem dX3_setToil_19 : decode cX3_setToil 19 = .ok (.aload_n 0, 1) := by decide +kernel
theorem dX3_setToil_20 : decode cX3_setToil 20 = .ok (.getfield 11, 3) := by decide +kernel
theorem dX3_setToil_23 : decode cX3_setToil 23 = .ok (.iload_n 1, 1) := by decide +kernel
theorem dX3_setToil_24 : decode cX3_setToil 24 = .ok (.bipush 6, 2) := by decide +kernel
theorem dX3_setToil_26 : decode cX3_setToil 26 = .ok (.imul, 1) := by decide +kernel
theorem dX3_setToil_27 : decode cX3_setToil 27 = .ok (.iload_n 2, 1) := by decide +kernel
theorem dX3_setToil_28 : decode cX3_setToil 28 = .ok (.iadd, 1) := by decide +kernel
theorem dX3_setToil_29 : decode cX3_setToil 29 = .ok (.iload_n 3, 1) := by decide +kernel
theorem dX3_setToil_30 : decode cX3_setToil 30 = .ok (.iastore, 1) := by decide +kernel
theorem dX3_setToil_31 : decode cX3_setToil 31 = .ok (.return_, 1) := by decide +kernel
theorem dX3_findLeast_0 : decode cX3_findLeast 0 = .ok (.iload_n 1, 1) := by decide +kernel
theorem dX3_findLeast_1 : decode cX3_findLeast 1 = .ok (.iconst 1, 1) := by decide +kernel
theorem dX3_findLeast_2 : decode cX3_findLeast 2 = .ok (.bipush 6, 2) := by decide +kernel
theorem dX3_findLeast_4 : decode cX3_findLeast 4 = .ok (.invokestatic 27, 3) := by decide +kernel
theorem dX3_findLeast_7 : decode cX3_findLeast 7 = .ok (.ifCond .eq 5, 3) := by decide +kernel
theorem dX3_findLeast_10 : decode cX3_findLeast 10 = .ok (.iconst (-1), 1) := by decide +kernel
theorem dX3_findLeast_11 : decode cX3_findLeast 11 = .ok (.ireturn, 1) := by decide +kernel
theorem dX3_findLeast_12 : decode cX3_findLeast 12 = .ok (.iconst 1, 1) := by decide +kernel
theorem dX3_findLeast_13 : decode cX3_findLeast 13 = .ok (.iload_n 1, 1) := by decide +kernel
theorem dX3_findLeast_14 : decode cX3_findLeast 14 = .ok (.ishl, 1) := by decide +kernel
theorem dX3_findLeast_15 : decode cX3_findLeast 15 = .ok (.iconst 1, 1) := by decide +kernel
theorem dX3_findLeast_16 : decode cX3_findLeast 16 = .ok (.isub, 1) := by decide +kernel
theorem dX3_findLeast_17 : decode cX3_findLeast 17 = .ok (.istore_n 2, 1) := by decide +kernel
theorem dX3_findLeast_18 : decode cX3_findLeast 18 = .ok (.aload_n 0, 1) := by decide +kernel
theorem dX3_findLeast_19 : decode cX3_findLeast 19 = .ok (.getfield 15, 3) := by decide +kernel
theorem dX3_findLeast_22 : decode cX3_findLeast 22 = .ok (.iload_n 2, 1) := by decide +kernel
theorem dX3_findLeast_23 : decode cX3_findLeast 23 = .ok (.iconst 0, 1) := by decide +kernel
theorem dX3_findLeast_24 : decode cX3_findLeast 24 = .ok (.iastore, 1) := by decide +kernel
theorem dX3_findLeast_25 : decode cX3_findLeast 25 = .ok (.iload_n 2, 1) := by decide +kernel
theorem dX3_findLeast_26 : decode cX3_findLeast 26 = .ok (.iconst 1, 1) := by decide +kernel
theorem dX3_findLeast_27 : decode cX3_findLeast 27 = .ok (.isub, 1) := by decide +kernel
theorem dX3_findLeast_28 : decode cX3_findLeast 28 = .ok (.istore_n 3, 1) := by decide +kernel
theorem dX3_findLeast_29 : decode cX3_findLeast 29 = .ok (.iload_n 3, 1) := by decide +kernel
theorem dX3_findLeast_30 : decode cX3_findLeast 30 = .ok (.ifCond .lt 75, 3) := by decide +kernel
theorem dX3_findLeast_33 : decode cX3_findLeast 33 = .ok (.aload_n 0, 1) := by decide +kernel
theorem dX3_findLeast_34 : decode cX3_findLeast 34 = .ok (.getfield 15, 3) := by decide +kernel
theorem dX3_findLeast_37 : decode cX3_findLeast 37 = .ok (.iload_n 3, 1) := by decide +kernel
theorem dX3_findLeast_38 : decode cX3_findLeast 38 = .ok (.iconst (-1), 1) := by decide +kernel
theorem dX3_findLeast_39 : decode cX3_findLeast 39 = .ok (.iastore, 1) := by decide +kernel
theorem dX3_findLeast_40 : decode cX3_findLeast 40 = .ok (.iconst 0, 1) := by decide +kernel
theorem dX3_findLeast_41 : decode cX3_findLeast 41 = .ok (.istore 4, 2) := by decide +kernel
theorem dX3_findLeast_43 : decode cX3_findLeast 43 = .ok (.iload 4, 2) := by decide +kernel
theorem dX3_findLeast_45 : decode cX3_findLeast 45 = .ok (.iload_n 1, 1) := by decide +kernel
theorem dX3_findLeast_46 : decode cX3_findLeast 46 = .ok (.if_icmp .ge 53, 3) := by decide +kernel
theorem dX3_findLeast_49 : decode cX3_findLeast 49 = .ok (.aload_n 0, 1) := by decide +kernel
theorem dX3_findLeast_50 : decode cX3_findLeast 50 = .ok (.iload_n 3, 1) := by decide +kernel
theorem dX3_findLeast_51 : decode cX3_findLeast 51 = .ok (.iload 4, 2) := by decide +kernel
theorem dX3_findLeast_53 : decode cX3_findLeast 53 = .ok (.invokevirtual 31, 3) := by decide +kernel
theorem dX3_findLeast_56 : decode cX3_findLeast 56 = .ok (.istore 5, 2) := by decide +kernel
theorem dX3_findLeast_58 : decode cX3_findLeast 58 = .ok (.iload 5, 2) := by decide +kernel
theorem dX3_findLeast_60 : decode cX3_findLeast 60 = .ok (.iconst (-1), 1) := by decide +kernel
theorem dX3_findLeast_61 : decode cX3_findLeast 61 = .ok (.if_icmp .eq 32, 3) := by decide +kernel
theorem dX3_findLeast_64 : decode cX3_findLeast 64 = .ok (.aload_n 0, 1) := by decide +kernel
theorem dX3_findLeast_65 : decode cX3_findLeast 65 = .ok (.getfield 15, 3) := by decide +kernel
theorem dX3_findLeast_68 : decode cX3_findLeast 68 = .ok (.iload_n 3, 1) := by decide +kernel
theorem dX3_findLeast_69 : decode cX3_findLeast 69 = .ok (.iaload, 1) := by decide +kernel
theorem dX3_findLeast_70 : decode cX3_findLeast 70 = .ok (.iconst (-1), 1) := by decide +kernel
theorem dX3_findLeast_71 : decode cX3_findLeast 71 = .ok (.if_icmp .eq 14, 3) := by decide +kernel
theorem dX3_findLeast_74 : decode cX3_findLeast 74 = .ok (.iload 5, 2) := by decide +kernel
theorem dX3_findLeast_76 : decode cX3_findLeast 76 = .ok (.aload_n 0, 1) := by decide +kernel
theorem dX3_findLeast_77 : decode cX3_findLeast 77 = .ok (.getfield 15, 3) := by decide +kernel
theorem dX3_findLeast_80 : decode cX3_findLeast 80 = .ok (.iload_n 3, 1) := by decide +kernel
theorem dX3_findLeast_81 : decode cX3_findLeast 81 = .ok (.iaload, 1) := by decide +kernel
theorem dX3_findLeast_82 : decode cX3_findLeast 82 = .ok (.if_icmp .ge 11, 3) := by decide +kernel
theorem dX3_findLeast_85 : decode cX3_findLeast 85 = .ok (.aload_n 0, 1) := by decide +kernel
theorem dX3_findLeast_86 : decode cX3_findLeast 86 = .ok (.getfield 15, 3) := by decide +kernel
theorem dX3_findLeast_89 : decode cX3_findLeast 89 = .ok (.iload_n 3, 1) := by decide +kernel
theorem dX3_findLeast_90 : decode cX3_findLeast 90 = .ok (.iload 5, 2) := by decide +kernel
theorem dX3_findLeast_92 : decode cX3_findLeast 92 = .ok (.iastore, 1) := by decide +kernel
theorem dX3_findLeast_93 : decode cX3_findLeast 93 = .ok (.iinc 4 1, 3) := by decide +kernel
theorem dX3_findLeast_96 : decode cX3_findLeast 96 = .ok (.goto (-53), 3) := by decide +kernel
theorem dX3_findLeast_99 : decode cX3_findLeast 99 = .ok (.iinc 3 (-1), 3) := by decide +kernel
theorem dX3_findLeast_102 : decode cX3_findLeast 102 = .ok (.goto (-73), 3) := by decide +kernel
theorem dX3_findLeast_105 : decode cX3_findLeast 105 = .ok (.aload_n 0, 1) := by decide +kernel
theorem dX3_findLeast_106 : decode cX3_findLeast 106 = .ok (.getfield 15, 3) := by decide +kernel
theorem dX3_findLeast_109 : decode cX3_findLeast 109 = .ok (.iconst 0, 1) := by decide +kernel
theorem dX3_findLeast_110 : decode cX3_findLeast 110 = .ok (.iaload, 1) := by decide +kernel
theorem dX3_findLeast_111 : decode cX3_findLeast 111 = .ok (.ireturn, 1) := by decide +kernel
theorem dX3_toilWith_0 : decode cX3_toilWith 0 = .ok (.iload_n 1, 1) := by decide +kernel
theorem dX3_toilWith_1 : decode cX3_toilWith 1 = .ok (.iconst 1, 1) := by decide +kernel
theorem dX3_toilWith_2 : decode cX3_toilWith 2 = .ok (.iload_n 2, 1) := by decide +kernel
theorem dX3_toilWith_3 : decode cX3_toilWith 3 = .ok (.ishl, 1) := by decide +kernel
theorem dX3_toilWith_4 : decode cX3_toilWith 4 = .ok (.ior, 1) := by decide +kernel
theorem dX3_toilWith_5 : decode cX3_toilWith 5 = .ok (.istore_n 3, 1) := by decide +kernel
theorem dX3_toilWith_6 : decode cX3_toilWith 6 = .ok (.iload_n 1, 1) := by decide +kernel
theorem dX3_toilWith_7 : decode cX3_toilWith 7 = .ok (.invokestatic 35, 3) := by decide +kernel
theorem dX3_toilWith_10 : decode cX3_toilWith 10 = .ok (.bipush 6, 2) := by decide +kernel
theorem dX3_toilWith_12 : decode cX3_toilWith 12 = .ok (.imul, 1) := by decide +kernel
theorem dX3_toilWith_13 : decode cX3_toilWith 13 = .ok (.iload_n 2, 1) := by decide +kernel
theorem dX3_toilWith_14 : decode cX3_toilWith 14 = .ok (.iadd, 1) := by decide +kernel
theorem dX3_toilWith_15 : decode cX3_toilWith 15 = .ok (.istore 4, 2) := by decide +kernel
theorem dX3_toilWith_17 : decode cX3_toilWith 17 = .ok (.iload_n 3, 1) := by decide +kernel
theorem dX3_toilWith_18 : decode cX3_toilWith 18 = .ok (.iload_n 1, 1) := by decide +kernel
theorem dX3_toilWith_19 : decode cX3_toilWith 19 = .ok (.if_icmp .eq 22, 3) := by decide +kernel
theorem dX3_toilWith_22 : decode cX3_toilWith 22 = .ok (.iload_n 3, 1) := by decide +kernel
theorem dX3_toilWith_23 : decode cX3_toilWith 23 = .ok (.aload_n 0, 1) := by decide +kernel
theorem dX3_toilWith_24 : decode cX3_toilWith 24 = .ok (.getfield 15, 3) := by decide +kernel
theorem dX3_toilWith_27 : decode cX3_toilWith 27 = .ok (.arraylength, 1) := by decide +kernel
theorem dX3_toilWith_28 : decode cX3_toilWith 28 = .ok (.if_icmp .ge 13, 3) := by decide +kernel
theorem dX3_toilWith_31 : decode cX3_toilWith 31 = .ok (.iload 4, 2) := by decide +kernel
theorem dX3_toilWith_33 : decode cX3_toilWith 33 = .ok (.aload_n 0, 1) := by decide +kernel
theorem dX3_toilWith_34 : decode cX3_toilWith 34 = .ok (.getfield 11, 3) := by decide +kernel
theorem dX3_toilWith_37 : decode cX3_toilWith 37 = .ok (.arraylength, 1) := by decide +kernel
theorem dX3_toilWith_38 : decode cX3_toilWith 38 = .ok (.if_icmp .lt 5, 3) := by decide +kernel
theorem dX3_toilWith_41 : decode cX3_toilWith 41 = .ok (.iconst (-1), 1) := by decide +kernel
theorem dX3_toilWith_42 : decode cX3_toilWith 42 = .ok (.ireturn, 1) := by decide +kernel
theorem dX3_toilWith_43 : decode cX3_toilWith 43 = .ok (.aload_n 0, 1) := by decide +kernel
theorem dX3_toilWith_44 : decode cX3_toilWith 44 = .ok (.getfield 11, 3) := by decide +kernel
theorem dX3_toilWith_47 : decode cX3_toilWith 47 = .ok (.iload 4, 2) := by decide +kernel
theorem dX3_toilWith_49 : decode cX3_toilWith 49 = .ok (.iaload, 1) := by decide +kernel
theorem dX3_toilWith_50 : decode cX3_toilWith 50 = .ok (.iconst (-1), 1) := by decide +kernel
theorem dX3_toilWith_51 : decode cX3_toilWith 51 = .ok (.if_icmp .eq 13, 3) := by decide +kernel
theorem dX3_toilWith_54 : decode cX3_toilWith 54 = .ok (.aload_n 0, 1) := by decide +kernel
theorem dX3_toilWith_55 : decode cX3_toilWith 55 = .ok (.getfield 15, 3) := by decide +kernel
theorem dX3_toilWith_58 : decode cX3_toilWith 58 = .ok (.iload_n 3, 1) := by decide +kernel
theorem dX3_toilWith_59 : decode cX3_toilWith 59 = .ok (.iaload, 1) := by decide +kernel
theorem dX3_toilWith_60 : decode cX3_toilWith 60 = .ok (.iconst (-1), 1) := by decide +kernel
theorem dX3_toilWith_61 : decode cX3_toilWith 61 = .ok (.if_icmp .ne 7, 3) := by decide +kernel
theorem dX3_toilWith_64 : decode cX3_toilWith 64 = .ok (.iconst (-1), 1) := by decide +kernel
theorem dX3_toilWith_65 : decode cX3_toilWith 65 = .ok (.goto 17, 3) := by decide +kernel
theorem dX3_toilWith_68 : decode cX3_toilWith 68 = .ok (.aload_n 0, 1) := by decide +kernel
theorem dX3_toilWith_69 : decode cX3_toilWith 69 = .ok (.getfield 11, 3) := by decide +kernel
theorem dX3_toilWith_72 : decode cX3_toilWith 72 = .ok (.iload 4, 2) := by decide +kernel
theorem dX3_toilWith_74 : decode cX3_toilWith 74 = .ok (.iaload, 1) := by decide +kernel
theorem dX3_toilWith_75 : decode cX3_toilWith 75 = .ok (.aload_n 0, 1) := by decide +kernel
theorem dX3_toilWith_76 : decode cX3_toilWith 76 = .ok (.getfield 15, 3) := by decide +kernel
theorem dX3_toilWith_79 : decode cX3_toilWith 79 = .ok (.iload_n 3, 1) := by decide +kernel
theorem dX3_toilWith_80 : decode cX3_toilWith 80 = .ok (.iaload, 1) := by decide +kernel
theorem dX3_toilWith_81 : decode cX3_toilWith 81 = .ok (.iadd, 1) := by decide +kernel
theorem dX3_toilWith_82 : decode cX3_toilWith 82 = .ok (.ireturn, 1) := by decide +kernel
theorem dX3_settle_0 : decode cX3_settle 0 = .ok (.aload_n 0, 1) := by decide +kernel
theorem dX3_settle_1 : decode cX3_settle 1 = .ok (.getfield 18, 3) := by decide +kernel
theorem dX3_settle_4 : decode cX3_settle 4 = .ok (.bipush (-4), 2) := by decide +kernel
theorem dX3_settle_6 : decode cX3_settle 6 = .ok (.invokestatic 21, 3) := by decide +kernel
theorem dX3_settle_9 : decode cX3_settle 9 = .ok (.iconst 0, 1) := by decide +kernel
theorem dX3_settle_10 : decode cX3_settle 10 = .ok (.istore 4, 2) := by decide +kernel
theorem dX3_settle_12 : decode cX3_settle 12 = .ok (.iconst 0, 1) := by decide +kernel
theorem dX3_settle_13 : decode cX3_settle 13 = .ok (.istore 5, 2) := by decide +kernel
theorem dX3_settle_15 : decode cX3_settle 15 = .ok (.iload 5, 2) := by decide +kernel
theorem dX3_settle_17 : decode cX3_settle 17 = .ok (.iload_n 3, 1) := by decide +kernel
theorem dX3_settle_18 : decode cX3_settle 18 = .ok (.if_icmp .ge 52, 3) := by decide +kernel
theorem dX3_settle_21 : decode cX3_settle 21 = .ok (.iload_n 1, 1) := by decide +kernel
theorem dX3_settle_22 : decode cX3_settle 22 = .ok (.iload 5, 2) := by decide +kernel
theorem dX3_settle_24 : decode cX3_settle 24 = .ok (.iadd, 1) := by decide +kernel
theorem dX3_settle_25 : decode cX3_settle 25 = .ok (.aload_n 0, 1) := by decide +kernel
theorem dX3_settle_26 : decode cX3_settle 26 = .ok (.getfield 18, 3) := by decide +kernel
theorem dX3_settle_29 : decode cX3_settle 29 = .ok (.arraylength, 1) := by decide +kernel
theorem dX3_settle_30 : decode cX3_settle 30 = .ok (.if_icmp .ge 40, 3) := by decide +kernel
theorem dX3_settle_33 : decode cX3_settle 33 = .ok (.aload_n 0, 1) := by decide +kernel
theorem dX3_settle_34 : decode cX3_settle 34 = .ok (.iload 4, 2) := by decide +kernel
theorem dX3_settle_36 : decode cX3_settle 36 = .ok (.iload_n 3, 1) := by decide +kernel
theorem dX3_settle_37 : decode cX3_settle 37 = .ok (.invokevirtual 41, 3) := by decide +kernel
theorem dX3_settle_40 : decode cX3_settle 40 = .ok (.istore 6, 2) := by decide +kernel
theorem dX3_settle_42 : decode cX3_settle 42 = .ok (.aload_n 0, 1) := by decide +kernel
theorem dX3_settle_43 : decode cX3_settle 43 = .ok (.getfield 18, 3) := by decide +kernel
theorem dX3_settle_46 : decode cX3_settle 46 = .ok (.iload_n 1, 1) := by decide +kernel
theorem dX3_settle_47 : decode cX3_settle 47 = .ok (.iload 5, 2) := by decide +kernel
theorem dX3_settle_49 : decode cX3_settle 49 = .ok (.iadd, 1) := by decide +kernel
theorem dX3_settle_50 : decode cX3_settle 50 = .ok (.iload_n 2, 1) := by decide +kernel
theorem dX3_settle_51 : decode cX3_settle 51 = .ok (.iload 6, 2) := by decide +kernel
theorem dX3_settle_53 : decode cX3_settle 53 = .ok (.iadd, 1) := by decide +kernel
theorem dX3_settle_54 : decode cX3_settle 54 = .ok (.iastore, 1) := by decide +kernel
theorem dX3_settle_55 : decode cX3_settle 55 = .ok (.iload 4, 2) := by decide +kernel
theorem dX3_settle_57 : decode cX3_settle 57 = .ok (.iconst 1, 1) := by decide +kernel
theorem dX3_settle_58 : decode cX3_settle 58 = .ok (.iload 6, 2) := by decide +kernel
theorem dX3_settle_60 : decode cX3_settle 60 = .ok (.ishl, 1) := by decide +kernel
theorem dX3_settle_61 : decode cX3_settle 61 = .ok (.ior, 1) := by decide +kernel
theorem dX3_settle_62 : decode cX3_settle 62 = .ok (.istore 4, 2) := by decide +kernel
theorem dX3_settle_64 : decode cX3_settle 64 = .ok (.iinc 5 1, 3) := by decide +kernel
theorem dX3_settle_67 : decode cX3_settle 67 = .ok (.goto (-52), 3) := by decide +kernel
theorem dX3_settle_70 : decode cX3_settle 70 = .ok (.return_, 1) := by decide +kernel
theorem dX3_firstBest_0 : decode cX3_firstBest 0 = .ok (.iconst 0, 1) := by decide +kernel
theorem dX3_firstBest_1 : decode cX3_firstBest 1 = .ok (.istore_n 3, 1) := by decide +kernel
theorem dX3_firstBest_2 : decode cX3_firstBest 2 = .ok (.iload_n 3, 1) := by decide +kernel
theorem dX3_firstBest_3 : decode cX3_firstBest 3 = .ok (.iload_n 2, 1) := by decide +kernel
theorem dX3_firstBest_4 : decode cX3_firstBest 4 = .ok (.if_icmp .ge 36, 3) := by decide +kernel
theorem dX3_firstBest_7 : decode cX3_firstBest 7 = .ok (.aload_n 0, 1) := by decide +kernel
theorem dX3_firstBest_8 : decode cX3_firstBest 8 = .ok (.iload_n 1, 1) := by decide +kernel
theorem dX3_firstBest_9 : decode cX3_firstBest 9 = .ok (.iload_n 3, 1) := by decide +kernel
theorem dX3_firstBest_10 : decode cX3_firstBest 10 = .ok (.invokevirtual 31, 3) := by decide +kernel
theorem dX3_firstBest_13 : decode cX3_firstBest 13 = .ok (.istore 4, 2) := by decide +kernel
theorem dX3_firstBest_15 : decode cX3_firstBest 15 = .ok (.iload 4, 2) := by decide +kernel
theorem dX3_firstBest_17 : decode cX3_firstBest 17 = .ok (.iconst (-1), 1) := by decide +kernel
theorem dX3_firstBest_18 : decode cX3_firstBest 18 = .ok (.if_icmp .eq 16, 3) := by decide +kernel
theorem dX3_firstBest_21 : decode cX3_firstBest 21 = .ok (.iload 4, 2) := by decide +kernel
theorem dX3_firstBest_23 : decode cX3_firstBest 23 = .ok (.aload_n 0, 1) := by decide +kernel
theorem dX3_firstBest_24 : decode cX3_firstBest 24 = .ok (.getfield 15, 3) := by decide +kernel
theorem dX3_firstBest_27 : decode cX3_firstBest 27 = .ok (.iload_n 1, 1) := by decide +kernel
theorem dX3_firstBest_28 : decode cX3_firstBest 28 = .ok (.iaload, 1) := by decide +kernel
theorem dX3_firstBest_29 : decode cX3_firstBest 29 = .ok (.if_icmp .ne 5, 3) := by decide +kernel
theorem dX3_firstBest_32 : decode cX3_firstBest 32 = .ok (.iload_n 3, 1) := by decide +kernel
theorem dX3_firstBest_33 : decode cX3_firstBest 33 = .ok (.ireturn, 1) := by decide +kernel
theorem dX3_firstBest_34 : decode cX3_firstBest 34 = .ok (.iinc 3 1, 3) := by decide +kernel
theorem dX3_firstBest_37 : decode cX3_firstBest 37 = .ok (.goto (-35), 3) := by decide +kernel
theorem dX3_firstBest_40 : decode cX3_firstBest 40 = .ok (.iconst 0, 1) := by decide +kernel
theorem dX3_firstBest_41 : decode cX3_firstBest 41 = .ok (.ireturn, 1) := by decide +kernel
theorem dX4_init_0 : decode cX4_init 0 = .ok (.aload_n 0, 1) := by decide +kernel
theorem dX4_init_1 : decode cX4_init 1 = .ok (.invokespecial 1, 3) := by decide +kernel
theorem dX4_init_4 : decode cX4_init 4 = .ok (.aload_n 0, 1) := by decide +kernel
theorem dX4_init_5 : decode cX4_init 5 = .ok (.iconst 0, 1) := by decide +kernel
theorem dX4_init_6 : decode cX4_init 6 = .ok (.putfield 7, 3) := by decide +kernel
theorem dX4_init_9 : decode cX4_init 9 = .ok (.aload_n 0, 1) := by decide +kernel
theorem dX4_init_10 : decode cX4_init 10 = .ok (.iconst 0, 1) := by decide +kernel
theorem dX4_init_11 : decode cX4_init 11 = .ok (.putfield 13, 3) := by decide +kernel
theorem dX4_init_14 : decode cX4_init 14 = .ok (.aload_n 0, 1) := by decide +kernel
theorem dX4_init_15 : decode cX4_init 15 = .ok (.iconst 0, 1) := by decide +kernel
theorem dX4_init_16 : decode cX4_init 16 = .ok (.putfield 16, 3) := by decide +kernel
theorem dX4_init_19 : decode cX4_init 19 = .ok (.aload_n 0, 1) := by decide +kernel
theorem dX4_init_20 : decode cX4_init 20 = .ok (.iload_n 1, 1) := by decide +kernel
theorem dX4_init_21 : decode cX4_init 21 = .ok (.putfield 19, 3) := by decide +kernel
theorem dX4_init_24 : decode cX4_init 24 = .ok (.aload_n 0, 1) := by decide +kernel
theorem dX4_init_25 : decode cX4_init 25 = .ok (.iload_n 2, 1) := by decide +kernel
theorem dX4_init_26 : decode cX4_init 26 = .ok (.putfield 22, 3) := by decide +kernel
theorem dX4_init_29 : decode cX4_init 29 = .ok (.aload_n 0, 1) := by decide +kernel
theorem dX4_init_30 : decode cX4_init 30 = .ok (.iload_n 3, 1) := by decide +kernel
theorem dX4_init_31 : decode cX4_init 31 = .ok (.putfield 25, 3) := by decide +kernel
theorem dX4_init_34 : decode cX4_init 34 = .ok (.aload_n 0, 1) := by decide +kernel
theorem dX4_init_35 : decode cX4_init 35 = .ok (.aload 4, 2) := by decide +kernel
theorem dX4_init_37 : decode cX4_init 37 = .ok (.putfield 28, 3) := by decide +kernel
theorem dX4_init_40 : decode cX4_init 40 = .ok (.return_, 1) := by decide +kernel
theorem dX4_minutesFrom_0 : decode cX4_minutesFrom 0 = .ok (.aload_n 1, 1) := by decide +kernel
theorem dX4_minutesFrom_1 : decode cX4_minutesFrom 1 = .ok (.getfield 32, 3) := by decide +kernel
theorem dX4_minutesFrom_4 : decode cX4_minutesFrom 4 = .ok (.istore_n 2, 1) := by decide +kernel
theorem dX4_minutesFrom_5 : decode cX4_minutesFrom 5 = .ok (.iload_n 2, 1) := by decide +kernel
theorem dX4_minutesFrom_6 : decode cX4_minutesFrom 6 = .ok (.ifCond .lt 12, 3) := by decide +kernel
theorem dX4_minutesFrom_9 : decode cX4_minutesFrom 9 = .ok (.iload_n 2, 1) := by decide +kernel
theorem dX4_minutesFrom_10 : decode cX4_minutesFrom 10 = .ok (.aload_n 0, 1) := by decide +kernel
theorem dX4_minutesFrom_11 : decode cX4_minutesFrom 11 = .ok (.getfield 28, 3) := by decide +kernel
theorem dX4_minutesFrom_14 : decode cX4_minutesFrom 14 = .ok (.arraylength, 1) := by decide +kernel
theorem dX4_minutesFrom_15 : decode cX4_minutesFrom 15 = .ok (.if_icmp .lt 7, 3) := by decide +kernel
theorem dX4_minutesFrom_18 : decode cX4_minutesFrom 18 = .ok (.iconst 0, 1) := by decide +kernel
theorem dX4_minutesFrom_19 : decode cX4_minutesFrom 19 = .ok (.goto 9, 3) := by decide +kernel
theorem dX4_minutesFrom_22 : decode cX4_minutesFrom 22 = .ok (.aload_n 0, 1) := by decide +kernel
theorem dX4_minutesFrom_23 : decode cX4_minutesFrom 23 = .ok (.getfield 28, 3) := by decide +kernel
theorem dX4_minutesFrom_26 : decode cX4_minutesFrom 26 = .ok (.iload_n 2, 1) := by decide +kernel
theorem dX4_minutesFrom_27 : decode cX4_minutesFrom 27 = .ok (.iaload, 1) := by decide +kernel
theorem dX4_minutesFrom_28 : decode cX4_minutesFrom 28 = .ok (.ireturn, 1) := by decide +kernel
theorem dX4_drinkOnce_0 : decode cX4_drinkOnce 0 = .ok (.aload_n 0, 1) := by decide +kernel
theorem dX4_drinkOnce_1 : decode cX4_drinkOnce 1 = .ok (.getfield 13, 3) := by decide +kernel
theorem dX4_drinkOnce_4 : decode cX4_drinkOnce 4 = .ok (.aload_n 0, 1) := by decide +kernel
theorem dX4_drinkOnce_5 : decode cX4_drinkOnce 5 = .ok (.getfield 7, 3) := by decide +kernel
theorem dX4_drinkOnce_8 : decode cX4_drinkOnce 8 = .ok (.invokestatic 35, 3) := by decide +kernel
theorem dX4_drinkOnce_11 : decode cX4_drinkOnce 11 = .ok (.istore_n 1, 1) := by decide +kernel
theorem dX4_drinkOnce_12 : decode cX4_drinkOnce 12 = .ok (.aload_n 0, 1) := by decide +kernel
theorem dX4_drinkOnce_13 : decode cX4_drinkOnce 13 = .ok (.dup, 1) := by decide +kernel
theorem dX4_drinkOnce_14 : decode cX4_drinkOnce 14 = .ok (.getfield 7, 3) := by decide +kernel
theorem dX4_drinkOnce_17 : decode cX4_drinkOnce 17 = .ok (.iload_n 1, 1) := by decide +kernel
theorem dX4_drinkOnce_18 : decode cX4_drinkOnce 18 = .ok (.isub, 1) := by decide +kernel
theorem dX4_drinkOnce_19 : decode cX4_drinkOnce 19 = .ok (.putfield 7, 3) := by decide +kernel
theorem dX4_drinkOnce_22 : decode cX4_drinkOnce 22 = .ok (.aload_n 0, 1) := by decide +kernel
theorem dX4_drinkOnce_23 : decode cX4_drinkOnce 23 = .ok (.dup, 1) := by decide +kernel
theorem dX4_drinkOnce_24 : decode cX4_drinkOnce 24 = .ok (.getfield 16, 3) := by decide +kernel
theorem dX4_drinkOnce_27 : decode cX4_drinkOnce 27 = .ok (.iload_n 1, 1) := by decide +kernel
theorem dX4_drinkOnce_28 : decode cX4_drinkOnce 28 = .ok (.iadd, 1) := by decide +kernel
theorem dX4_drinkOnce_29 : decode cX4_drinkOnce 29 = .ok (.putfield 16, 3) := by decide +kernel
theorem dX4_drinkOnce_32 : decode cX4_drinkOnce 32 = .ok (.iload_n 1, 1) := by decide +kernel
theorem dX4_drinkOnce_33 : decode cX4_drinkOnce 33 = .ok (.ireturn, 1) := by decide +kernel
theorem dX5_init_0 : decode cX5_init 0 = .ok (.aload_n 0, 1) := by decide +kernel
theorem dX5_init_1 : decode cX5_init 1 = .ok (.invokespecial 3, 3) := by decide +kernel
theorem dX5_init_4 : decode cX5_init 4 = .ok (.aload_n 0, 1) := by decide +kernel
theorem dX5_init_5 : decode cX5_init 5 = .ok (.iconst 0, 1) := by decide +kernel
theorem dX5_init_6 : decode cX5_init 6 = .ok (.putfield 9, 3) := by decide +kernel
theorem dX5_init_9 : decode cX5_init 9 = .ok (.aload_n 0, 1) := by decide +kernel
theorem dX5_init_10 : decode cX5_init 10 = .ok (.iconst 0, 1) := by decide +kernel
theorem dX5_init_11 : decode cX5_init 11 = .ok (.putfield 15, 3) := by decide +kernel
theorem dX5_init_14 : decode cX5_init 14 = .ok (.aload_n 0, 1) := by decide +kernel
theorem dX5_init_15 : decode cX5_init 15 = .ok (.iconst 0, 1) := by decide +kernel
theorem dX5_init_16 : decode cX5_init 16 = .ok (.putfield 18, 3) := by decide +kernel
theorem dX5_init_19 : decode cX5_init 19 = .ok (.aload_n 0, 1) := by decide +kernel
theorem dX5_init_20 : decode cX5_init 20 = .ok (.iconst 0, 1) := by decide +kernel
theorem dX5_init_21 : decode cX5_init 21 = .ok (.putfield 21, 3) := by decide +kernel
theorem dX5_init_24 : decode cX5_init 24 = .ok (.aload_n 0, 1) := by decide +kernel
theorem dX5_init_25 : decode cX5_init 25 = .ok (.iconst 0, 1) := by decide +kernel
theorem dX5_init_26 : decode cX5_init 26 = .ok (.putfield 24, 3) := by decide +kernel
theorem dX5_init_29 : decode cX5_init 29 = .ok (.aload_n 0, 1) := by decide +kernel
theorem dX5_init_30 : decode cX5_init 30 = .ok (.iconst (-1), 1) := by decide +kernel
theorem dX5_init_31 : decode cX5_init 31 = .ok (.putfield 27, 3) := by decide +kernel
theorem dX5_init_34 : decode cX5_init 34 = .ok (.aload_n 0, 1) := by decide +kernel
theorem dX5_init_35 : decode cX5_init 35 = .ok (.iconst (-1), 1) := by decide +kernel
theorem dX5_init_36 : decode cX5_init 36 = .ok (.putfield 30, 3) := by decide +kernel
theorem dX5_init_39 : decode cX5_init 39 = .ok (.aload_n 0, 1) := by decide +kernel
theorem dX5_init_40 : decode cX5_init 40 = .ok (.iconst (-1), 1) := by decide +kernel
theorem dX5_init_41 : decode cX5_init 41 = .ok (.putfield 33, 3) := by decide +kernel
theorem dX5_init_44 : decode cX5_init 44 = .ok (.aload_n 0, 1) := by decide +kernel
theorem dX5_init_45 : decode cX5_init 45 = .ok (.iload_n 1, 1) := by decide +kernel
theorem dX5_init_46 : decode cX5_init 46 = .ok (.putfield 36, 3) := by decide +kernel
theorem dX5_init_49 : decode cX5_init 49 = .ok (.aload_n 0, 1) := by decide +kernel
theorem dX5_init_50 : decode cX5_init 50 = .ok (.iload_n 2, 1) := by decide +kernel
theorem dX5_init_51 : decode cX5_init 51 = .ok (.putfield 39, 3) := by decide +kernel
theorem dX5_init_54 : decode cX5_init 54 = .ok (.aload_n 0, 1) := by decide +kernel
theorem dX5_init_55 : decode cX5_init 55 = .ok (.aload_n 3, 1) := by decide +kernel
theorem dX5_init_56 : decode cX5_init 56 = .ok (.putfield 42, 3) := by decide +kernel
theorem dX5_init_59 : decode cX5_init 59 = .ok (.aload_n 0, 1) := by decide +kernel
theorem dX5_init_60 : decode cX5_init 60 = .ok (.aload 4, 2) := by decide +kernel
theorem dX5_init_62 : decode cX5_init 62 = .ok (.putfield 46, 3) := by decide +kernel
theorem dX5_init_65 : decode cX5_init 65 = .ok (.return_, 1) := by decide +kernel
theorem dX5_kind_0 : decode cX5_kind 0 = .ok (.iconst 0, 1) := by decide +kernel
theorem dX5_kind_1 : decode cX5_kind 1 = .ok (.ireturn, 1) := by decide +kernel
theorem dX5_canGoTo_0 : decode cX5_canGoTo 0 = .ok (.aload_n 1, 1) := by decide +kernel
theorem dX5_canGoTo_1 : decode cX5_canGoTo 1 = .ok (.getfield 50, 3) := by decide +kernel
theorem dX5_canGoTo_4 : decode cX5_canGoTo 4 = .ok (.iconst 4, 1) := by decide +kernel
theorem dX5_canGoTo_5 : decode cX5_canGoTo 5 = .ok (.if_icmp .gt 7, 3) := by decide +kernel
theorem dX5_canGoTo_8 : decode cX5_canGoTo 8 = .ok (.iconst 1, 1) := by decide +kernel
theorem dX5_canGoTo_9 : decode cX5_canGoTo 9 = .ok (.goto 4, 3) := by decide +kernel
theorem dX5_canGoTo_12 : decode cX5_canGoTo 12 = .ok (.iconst 0, 1) := by decide +kernel
theorem dX5_canGoTo_13 : decode cX5_canGoTo 13 = .ok (.ireturn, 1) := by decide +kernel
theorem dX5_walkTime_0 : decode cX5_walkTime 0 = .ok (.iload_n 1, 1) := by decide +kernel
theorem dX5_walkTime_1 : decode cX5_walkTime 1 = .ok (.ireturn, 1) := by decide +kernel
theorem dX5_climbTime_0 : decode cX5_climbTime 0 = .ok (.iload_n 1, 1) := by decide +kernel
theorem dX5_climbTime_1 : decode cX5_climbTime 1 = .ok (.ireturn, 1) := by decide +kernel
theorem dX5_wayUp_0 : decode cX5_wayUp 0 = .ok (.aload_n 0, 1) := by decide +kernel
theorem dX5_wayUp_1 : decode cX5_wayUp 1 = .ok (.aload_n 1, 1) := by decide +kernel
theorem dX5_wayUp_2 : decode cX5_wayUp 2 = .ok (.invokevirtual 55, 3) := by decide +kernel
theorem dX5_wayUp_5 : decode cX5_wayUp 5 = .ok (.aload_n 0, 1) := by decide +kernel
theorem dX5_wayUp_6 : decode cX5_wayUp 6 = .ok (.aload_n 1, 1) := by decide +kernel
theorem dX5_wayUp_7 : decode cX5_wayUp 7 = .ok (.getfield 50, 3) := by decide +kernel
theorem dX5_wayUp_10 : decode cX5_wayUp 10 = .ok (.invokevirtual 59, 3) := by decide +kernel
theorem dX5_wayUp_13 : decode cX5_wayUp 13 = .ok (.iadd, 1) := by decide +kernel
theorem dX5_wayUp_14 : decode cX5_wayUp 14 = .ok (.ireturn, 1) := by decide +kernel
theorem dX5_wayDown_0 : decode cX5_wayDown 0 = .ok (.aload_n 0, 1) := by decide +kernel
theorem dX5_wayDown_1 : decode cX5_wayDown 1 = .ok (.aload_n 1, 1) := by decide +kernel
theorem dX5_wayDown_2 : decode cX5_wayDown 2 = .ok (.aload_n 0, 1) := by decide +kernel
theorem dX5_wayDown_3 : decode cX5_wayDown 3 = .ok (.getfield 42, 3) := by decide +kernel
theorem dX5_wayDown_6 : decode cX5_wayDown 6 = .ok (.invokevirtual 63, 3) := by decide +kernel
theorem dX5_wayDown_9 : decode cX5_wayDown 9 = .ok (.invokevirtual 67, 3) := by decide +kernel
theorem dX5_wayDown_12 : decode cX5_wayDown 12 = .ok (.ireturn, 1) := by decide +kernel
theorem dX5_toilFor_0 : decode cX5_toilFor 0 = .ok (.aload_n 0, 1) := by decide +kernel
theorem dX5_toilFor_1 : decode cX5_toilFor 1 = .ok (.aload_n 1, 1) := by decide +kernel
theorem dX5_toilFor_2 : decode cX5_toilFor 2 = .ok (.invokevirtual 70, 3) := by decide +kernel
theorem dX5_toilFor_5 : decode cX5_toilFor 5 = .ok (.ifCond .eq 17, 3) := by decide +kernel
theorem dX5_toilFor_8 : decode cX5_toilFor 8 = .ok (.aload_n 0, 1) := by decide +kernel
theorem dX5_toilFor_9 : decode cX5_toilFor 9 = .ok (.aload_n 1, 1) := by decide +kernel
theorem dX5_toilFor_10 : decode cX5_toilFor 10 = .ok (.invokevirtual 74, 3) := by decide +kernel
theorem dX5_toilFor_13 : decode cX5_toilFor 13 = .ok (.aload_n 0, 1) := by decide +kernel
theorem dX5_toilFor_14 : decode cX5_toilFor 14 = .ok (.aload_n 1, 1) := by decide +kernel
theorem dX5_toilFor_15 : decode cX5_toilFor 15 = .ok (.invokevirtual 55, 3) := by decide +kernel
theorem dX5_toilFor_18 : decode cX5_toilFor 18 = .ok (.iadd, 1) := by decide +kernel
theorem dX5_toilFor_19 : decode cX5_toilFor 19 = .ok (.goto 4, 3) := by decide +kernel
theorem dX5_toilFor_22 : decode cX5_toilFor 22 = .ok (.iconst (-1), 1) := by decide +kernel
theorem dX5_toilFor_23 : decode cX5_toilFor 23 = .ok (.ireturn, 1) := by decide +kernel
theorem dX5_joinRow_0 : decode cX5_joinRow 0 = .ok (.aload_n 0, 1) := by decide +kernel
theorem dX5_joinRow_1 : decode cX5_joinRow 1 = .ok (.iconst 0, 1) := by decide +kernel
theorem dX5_joinRow_2 : decode cX5_joinRow 2 = .ok (.putfield 15, 3) := by decide +kernel
theorem dX5_joinRow_5 : decode cX5_joinRow 5 = .ok (.aload_n 0, 1) := by decide +kernel
theorem dX5_joinRow_6 : decode cX5_joinRow 6 = .ok (.getfield 42, 3) := by decide +kernel
theorem dX5_joinRow_9 : decode cX5_joinRow 9 = .ok (.getfield 79, 3) := by decide +kernel
theorem dX5_joinRow_12 : decode cX5_joinRow 12 = .ok (.aload_n 0, 1) := by decide +kernel
theorem dX5_joinRow_13 : decode cX5_joinRow 13 = .ok (.invokevirtual 85, 3) := by decide +kernel
theorem dX5_joinRow_16 : decode cX5_joinRow 16 = .ok (.pop, 1) := by decide +kernel
theorem dX5_joinRow_17 : decode cX5_joinRow 17 = .ok (.return_, 1) := by decide +kernel
theorem dX5_leaveRow_0 : decode cX5_leaveRow 0 = .ok (.aload_n 0, 1) := by decide +kernel
theorem dX5_leaveRow_1 : decode cX5_leaveRow 1 = .ok (.getfield 42, 3) := by decide +kernel
theorem dX5_leaveRow_4 : decode cX5_leaveRow 4 = .ok (.getfield 79, 3) := by decide +kernel
theorem dX5_leaveRow_7 : decode cX5_leaveRow 7 = .ok (.astore_n 1, 1) := by decide +kernel
theorem dX5_leaveRow_8 : decode cX5_leaveRow 8 = .ok (.iconst 0, 1) := by decide +kernel
theorem dX5_leaveRow_9 : decode cX5_leaveRow 9 = .ok (.istore_n 2, 1) := by decide +kernel
theorem dX5_leaveRow_10 : decode cX5_leaveRow 10 = .ok (.iload_n 2, 1) := by decide +kernel
theorem dX5_leaveRow_11 : decode cX5_leaveRow 11 = .ok (.aload_n 1, 1) := by decide +kernel
theorem dX5_leaveRow_12 : decode cX5_leaveRow 12 = .ok (.invokevirtual 91, 3) := by decide +kernel
theorem dX5_leaveRow_15 : decode cX5_leaveRow 15 = .ok (.if_icmp .ge 25, 3) := by decide +kernel
theorem dX5_leaveRow_18 : decode cX5_leaveRow 18 = .ok (.aload_n 1, 1) := by decide +kernel
theorem dX5_leaveRow_19 : decode cX5_leaveRow 19 = .ok (.iload_n 2, 1) := by decide +kernel
theorem dX5_leaveRow_20 : decode cX5_leaveRow 20 = .ok (.invokevirtual 95, 3) := by decide +kernel
theorem dX5_leaveRow_23 : decode cX5_leaveRow 23 = .ok (.aload_n 0, 1) := by decide +kernel
theorem dX5_leaveRow_24 : decode cX5_leaveRow 24 = .ok (.if_acmp .ne 10, 3) := by decide +kernel
theorem dX5_leaveRow_27 : decode cX5_leaveRow 27 = .ok (.aload_n 1, 1) := by decide +kernel
theorem dX5_leaveRow_28 : decode cX5_leaveRow 28 = .ok (.iload_n 2, 1) := by decide +kernel
theorem dX5_leaveRow_29 : decode cX5_leaveRow 29 = .ok (.invokevirtual 99, 3) := by decide +kernel
theorem dX5_leaveRow_32 : decode cX5_leaveRow 32 = .ok (.pop, 1) := by decide +kernel
theorem dX5_leaveRow_33 : decode cX5_leaveRow 33 = .ok (.return_, 1) := by decide +kernel
theorem dX5_leaveRow_34 : decode cX5_leaveRow 34 = .ok (.iinc 2 1, 3) := by decide +kernel
theorem dX5_leaveRow_37 : decode cX5_leaveRow 37 = .ok (.goto (-27), 3) := by decide +kernel
theorem dX5_leaveRow_40 : decode cX5_leaveRow 40 = .ok (.return_, 1) := by decide +kernel
theorem dX5_goUp_0 : decode cX5_goUp 0 = .ok (.aload_n 0, 1) := by decide +kernel
theorem dX5_goUp_1 : decode cX5_goUp 1 = .ok (.iconst 1, 1) := by decide +kernel
theorem dX5_goUp_2 : decode cX5_goUp 2 = .ok (.putfield 15, 3) := by decide +kernel
theorem dX5_goUp_5 : decode cX5_goUp 5 = .ok (.aload_n 0, 1) := by decide +kernel
theorem dX5_goUp_6 : decode cX5_goUp 6 = .ok (.aload_n 0, 1) := by decide +kernel
theorem dX5_goUp_7 : decode cX5_goUp 7 = .ok (.aload_n 0, 1) := by decide +kernel
theorem dX5_goUp_8 : decode cX5_goUp 8 = .ok (.getfield 46, 3) := by decide +kernel
theorem dX5_goUp_11 : decode cX5_goUp 11 = .ok (.invokevirtual 74, 3) := by decide +kernel
theorem dX5_goUp_14 : decode cX5_goUp 14 = .ok (.putfield 18, 3) := by decide +kernel
theorem dX5_goUp_17 : decode cX5_goUp 17 = .ok (.aload_n 0, 1) := by decide +kernel
theorem dX5_goUp_18 : decode cX5_goUp 18 = .ok (.iload_n 1, 1) := by decide +kernel
theorem dX5_goUp_19 : decode cX5_goUp 19 = .ok (.putfield 27, 3) := by decide +kernel
theorem dX5_goUp_22 : decode cX5_goUp 22 = .ok (.return_, 1) := by decide +kernel
theorem dX5_goDown_0 : decode cX5_goDown 0 = .ok (.aload_n 0, 1) := by decide +kernel
theorem dX5_goDown_1 : decode cX5_goDown 1 = .ok (.iconst 2, 1) := by decide +kernel
theorem dX5_goDown_2 : decode cX5_goDown 2 = .ok (.putfield 15, 3) := by decide +kernel
theorem dX5_goDown_5 : decode cX5_goDown 5 = .ok (.aload_n 0, 1) := by decide +kernel
theorem dX5_goDown_6 : decode cX5_goDown 6 = .ok (.aload_n 0, 1) := by decide +kernel
theorem dX5_goDown_7 : decode cX5_goDown 7 = .ok (.aload_n 0, 1) := by decide +kernel
theorem dX5_goDown_8 : decode cX5_goDown 8 = .ok (.getfield 46, 3) := by decide +kernel
theorem dX5_goDown_11 : decode cX5_goDown 11 = .ok (.invokevirtual 55, 3) := by decide +kernel
theorem dX5_goDown_14 : decode cX5_goDown 14 = .ok (.putfield 18, 3) := by decide +kernel
theorem dX5_goDown_17 : decode cX5_goDown 17 = .ok (.return_, 1) := by decide +kernel
theorem dX6_init_0 : decode cX6_init 0 = .ok (.aload_n 0, 1) := by decide +kernel
theorem dX6_init_1 : decode cX6_init 1 = .ok (.invokespecial 3, 3) := by decide +kernel
theorem dX6_init_4 : decode cX6_init 4 = .ok (.aload_n 0, 1) := by decide +kernel
theorem dX6_init_5 : decode cX6_init 5 = .ok (.sipush 600, 3) := by decide +kernel
theorem dX6_init_8 : decode cX6_init 8 = .ok (.newarray .int, 2) := by decide +kernel
theorem dX6_init_10 : decode cX6_init 10 = .ok (.putfield 11, 3) := by decide +kernel
theorem dX6_init_13 : decode cX6_init 13 = .ok (.aload_n 0, 1) := by decide +kernel
theorem dX6_init_14 : decode cX6_init 14 = .ok (.iconst 0, 1) := by decide +kernel
theorem dX6_init_15 : decode cX6_init 15 = .ok (.putfield 15, 3) := by decide +kernel
theorem dX6_init_18 : decode cX6_init 18 = .ok (.aload_n 0, 1) := by decide +kernel
theorem dX6_init_19 : decode cX6_init 19 = .ok (.iconst 0, 1) := by decide +kernel
theorem dX6_init_20 : decode cX6_init 20 = .ok (.putfield 19, 3) := by decide +kernel
theorem dX6_init_23 : decode cX6_init 23 = .ok (.return_, 1) := by decide +kernel
theorem dX6_keep_0 : decode cX6_keep 0 = .ok (.aload_n 0, 1) := by decide +kernel
theorem dX6_keep_1 : decode cX6_keep 1 = .ok (.getfield 15, 3) := by decide +kernel
theorem dX6_keep_4 : decode cX6_keep 4 = .ok (.bipush 6, 2) := by decide +kernel
theorem dX6_keep_6 : decode cX6_keep 6 = .ok (.imul, 1) := by decide +kernel
theorem dX6_keep_7 : decode cX6_keep 7 = .ok (.istore 4, 2) := by decide +kernel
theorem dX6_keep_9 : decode cX6_keep 9 = .ok (.aload_n 0, 1) := by decide +kernel
theorem dX6_keep_10 : decode cX6_keep 10 = .ok (.getfield 11, 3) := by decide +kernel
theorem dX6_keep_13 : decode cX6_keep 13 = .ok (.iload 4, 2) := by decide +kernel
theorem dX6_keep_15 : decode cX6_keep 15 = .ok (.iconst 0, 1) := by decide +kernel
theorem dX6_keep_16 : decode cX6_keep 16 = .ok (.iadd, 1) := by decide +kernel
theorem dX6_keep_17 : decode cX6_keep 17 = .ok (.aload_n 1, 1) := by decide +kernel
theorem dX6_keep_18 : decode cX6_keep 18 = .ok (.getfield 22, 3) := by decide +kernel
theorem dX6_keep_21 : decode cX6_keep 21 = .ok (.iastore, 1) := by decide +kernel
theorem dX6_keep_22 : decode cX6_keep 22 = .ok (.aload_n 0, 1) := by decide +kernel
theorem dX6_keep_23 : decode cX6_keep 23 = .ok (.getfield 11, 3) := by decide +kernel
theorem dX6_keep_26 : decode cX6_keep 26 = .ok (.iload 4, 2) := by decide +kernel
theorem dX6_keep_28 : decode cX6_keep 28 = .ok (.iconst 1, 1) := by decide +kernel
theorem dX6_keep_29 : decode cX6_keep 29 = .ok (.iadd, 1) := by decide +kernel
theorem dX6_keep_30 : decode cX6_keep 30 = .ok (.aload_n 1, 1) := by decide +kernel
theorem dX6_keep_31 : decode cX6_keep 31 = .ok (.getfield 27, 3) := by decide +kernel
theorem dX6_keep_34 : decode cX6_keep 34 = .ok (.getfield 31, 3) := by decide +kernel
theorem dX6_keep_37 : decode cX6_keep 37 = .ok (.iastore, 1) := by decide +kernel
theorem dX6_keep_38 : decode cX6_keep 38 = .ok (.aload_n 0, 1) := by decide +kernel
theorem dX6_keep_39 : decode cX6_keep 39 = .ok (.getfield 11, 3) := by decide +kernel
theorem dX6_keep_42 : decode cX6_keep 42 = .ok (.iload 4, 2) := by decide +kernel
theorem dX6_keep_44 : decode cX6_keep 44 = .ok (.iconst 2, 1) := by decide +kernel
theorem dX6_keep_45 : decode cX6_keep 45 = .ok (.iadd, 1) := by decide +kernel
theorem dX6_keep_46 : decode cX6_keep 46 = .ok (.iload_n 2, 1) := by decide +kernel
theorem dX6_keep_47 : decode cX6_keep 47 = .ok (.iastore, 1) := by decide +kernel
theorem dX6_keep_48 : decode cX6_keep 48 = .ok (.aload_n 0, 1) := by decide +kernel
theorem dX6_keep_49 : decode cX6_keep 49 = .ok (.getfield 11, 3) := by decide +kernel
theorem dX6_keep_52 : decode cX6_keep 52 = .ok (.iload 4, 2) := by decide +kernel
theorem dX6_keep_54 : decode cX6_keep 54 = .ok (.iconst 3, 1) := by decide +kernel
theorem dX6_keep_55 : decode cX6_keep 55 = .ok (.iadd, 1) := by decide +kernel
theorem dX6_keep_56 : decode cX6_keep 56 = .ok (.iload_n 3, 1) := by decide +kernel
theorem dX6_keep_57 : decode cX6_keep 57 = .ok (.iastore, 1) := by decide +kernel
theorem dX6_keep_58 : decode cX6_keep 58 = .ok (.aload_n 0, 1) := by decide +kernel
theorem dX6_keep_59 : decode cX6_keep 59 = .ok (.getfield 11, 3) := by decide +kernel
theorem dX6_keep_62 : decode cX6_keep 62 = .ok (.iload 4, 2) := by decide +kernel
theorem dX6_keep_64 : decode cX6_keep 64 = .ok (.iconst 4, 1) := by decide +kernel
theorem dX6_keep_65 : decode cX6_keep 65 = .ok (.iadd, 1) := by decide +kernel
theorem dX6_keep_66 : decode cX6_keep 66 = .ok (.aload_n 1, 1) := by decide +kernel
theorem dX6_keep_67 : decode cX6_keep 67 = .ok (.getfield 34, 3) := by decide +kernel
theorem dX6_keep_70 : decode cX6_keep 70 = .ok (.iastore, 1) := by decide +kernel
theorem dX6_keep_71 : decode cX6_keep 71 = .ok (.aload_n 0, 1) := by decide +kernel
theorem dX6_keep_72 : decode cX6_keep 72 = .ok (.getfield 11, 3) := by decide +kernel
theorem dX6_keep_75 : decode cX6_keep 75 = .ok (.iload 4, 2) := by decide +kernel
theorem dX6_keep_77 : decode cX6_keep 77 = .ok (.iconst 5, 1) := by decide +kernel
theorem dX6_keep_78 : decode cX6_keep 78 = .ok (.iadd, 1) := by decide +kernel
theorem dX6_keep_79 : decode cX6_keep 79 = .ok (.aload_n 1, 1) := by decide +kernel
theorem dX6_keep_80 : decode cX6_keep 80 = .ok (.getfield 37, 3) := by decide +kernel
theorem dX6_keep_83 : decode cX6_keep 83 = .ok (.iastore, 1) := by decide +kernel
theorem dX6_keep_84 : decode cX6_keep 84 = .ok (.aload_n 0, 1) := by decide +kernel
theorem dX6_keep_85 : decode cX6_keep 85 = .ok (.aload_n 0, 1) := by decide +kernel
theorem dX6_keep_86 : decode cX6_keep 86 = .ok (.getfield 15, 3) := by decide +kernel
theorem dX6_keep_89 : decode cX6_keep 89 = .ok (.iconst 1, 1) := by decide +kernel
theorem dX6_keep_90 : decode cX6_keep 90 = .ok (.iadd, 1) := by decide +kernel
theorem dX6_keep_91 : decode cX6_keep 91 = .ok (.bipush 100, 2) := by decide +kernel
theorem dX6_keep_93 : decode cX6_keep 93 = .ok (.irem, 1) := by decide +kernel
theorem dX6_keep_94 : decode cX6_keep 94 = .ok (.putfield 15, 3) := by decide +kernel
theorem dX6_keep_97 : decode cX6_keep 97 = .ok (.aload_n 0, 1) := by decide +kernel
theorem dX6_keep_98 : decode cX6_keep 98 = .ok (.bipush 100, 2) := by decide +kernel
theorem dX6_keep_100 : decode cX6_keep 100 = .ok (.aload_n 0, 1) := by decide +kernel
theorem dX6_keep_101 : decode cX6_keep 101 = .ok (.getfield 19, 3) := by decide +kernel
theorem dX6_keep_104 : decode cX6_keep 104 = .ok (.iconst 1, 1) := by decide +kernel
theorem dX6_keep_105 : decode cX6_keep 105 = .ok (.iadd, 1) := by decide +kernel
theorem dX6_keep_106 : decode cX6_keep 106 = .ok (.invokestatic 40, 3) := by decide +kernel
theorem dX6_keep_109 : decode cX6_keep 109 = .ok (.putfield 19, 3) := by decide +kernel
theorem dX6_keep_112 : decode cX6_keep 112 = .ok (.return_, 1) := by decide +kernel
theorem dX6_fact_0 : decode cX6_fact 0 = .ok (.aload_n 0, 1) := by decide +kernel
theorem dX6_fact_1 : decode cX6_fact 1 = .ok (.getfield 15, 3) := by decide +kernel
theorem dX6_fact_4 : decode cX6_fact 4 = .ok (.iconst 1, 1) := by decide +kernel
theorem dX6_fact_5 : decode cX6_fact 5 = .ok (.isub, 1) := by decide +kernel
theorem dX6_fact_6 : decode cX6_fact 6 = .ok (.iload_n 1, 1) := by decide +kernel
theorem dX6_fact_7 : decode cX6_fact 7 = .ok (.isub, 1) := by decide +kernel
theorem dX6_fact_8 : decode cX6_fact 8 = .ok (.bipush 100, 2) := by decide +kernel
theorem dX6_fact_10 : decode cX6_fact 10 = .ok (.invokestatic 46, 3) := by decide +kernel
theorem dX6_fact_13 : decode cX6_fact 13 = .ok (.bipush 6, 2) := by decide +kernel
theorem dX6_fact_15 : decode cX6_fact 15 = .ok (.imul, 1) := by decide +kernel
theorem dX6_fact_16 : decode cX6_fact 16 = .ok (.iload_n 2, 1) := by decide +kernel
theorem dX6_fact_17 : decode cX6_fact 17 = .ok (.iadd, 1) := by decide +kernel
theorem dX6_fact_18 : decode cX6_fact 18 = .ok (.istore_n 3, 1) := by decide +kernel
theorem dX6_fact_19 : decode cX6_fact 19 = .ok (.iload_n 3, 1) := by decide +kernel
theorem dX6_fact_20 : decode cX6_fact 20 = .ok (.ifCond .lt 12, 3) := by decide +kernel
theorem dX6_fact_23 : decode cX6_fact 23 = .ok (.iload_n 3, 1) := by decide +kernel
theorem dX6_fact_24 : decode cX6_fact 24 = .ok (.aload_n 0, 1) := by decide +kernel
theorem dX6_fact_25 : decode cX6_fact 25 = .ok (.getfield 11, 3) := by decide +kernel
theorem dX6_fact_28 : decode cX6_fact 28 = .ok (.arraylength, 1) := by decide +kernel
theorem dX6_fact_29 : decode cX6_fact 29 = .ok (.if_icmp .lt 8, 3) := by decide +kernel
theorem dX6_fact_32 : decode cX6_fact 32 = .ok (.bipush (-4), 2) := by decide +kernel
theorem dX6_fact_34 : decode cX6_fact 34 = .ok (.goto 9, 3) := by decide +kernel
theorem dX6_fact_37 : decode cX6_fact 37 = .ok (.aload_n 0, 1) := by decide +kernel
theorem dX6_fact_38 : decode cX6_fact 38 = .ok (.getfield 11, 3) := by decide +kernel
theorem dX6_fact_41 : decode cX6_fact 41 = .ok (.iload_n 3, 1) := by decide +kernel
theorem dX6_fact_42 : decode cX6_fact 42 = .ok (.iaload, 1) := by decide +kernel
theorem dX6_fact_43 : decode cX6_fact 43 = .ok (.ireturn, 1) := by decide +kernel
theorem dX6_jarsFouledBy_0 : decode cX6_jarsFouledBy 0 = .ok (.iconst 0, 1) := by decide +kernel
theorem dX6_jarsFouledBy_1 : decode cX6_jarsFouledBy 1 = .ok (.istore_n 3, 1) := by decide +kernel
theorem dX6_jarsFouledBy_2 : decode cX6_jarsFouledBy 2 = .ok (.iconst 0, 1) := by decide +kernel
theorem dX6_jarsFouledBy_3 : decode cX6_jarsFouledBy 3 = .ok (.istore 4, 2) := by decide +kernel
theorem dX6_jarsFouledBy_5 : decode cX6_jarsFouledBy 5 = .ok (.iload 4, 2) := by decide +kernel
theorem dX6_jarsFouledBy_7 : decode cX6_jarsFouledBy 7 = .ok (.aload_n 0, 1) := by decide +kernel
theorem dX6_jarsFouledBy_8 : decode cX6_jarsFouledBy 8 = .ok (.getfield 19, 3) := by decide +kernel
theorem dX6_jarsFouledBy_11 : decode cX6_jarsFouledBy 11 = .ok (.if_icmp .ge 43, 3) := by decide +kernel
theorem dX6_jarsFouledBy_14 : decode cX6_jarsFouledBy 14 = .ok (.aload_n 0, 1) := by decide +kernel
theorem dX6_jarsFouledBy_15 : decode cX6_jarsFouledBy 15 = .ok (.iload 4, 2) := by decide +kernel
theorem dX6_jarsFouledBy_17 : decode cX6_jarsFouledBy 17 = .ok (.iconst 4, 1) := by decide +kernel
theorem dX6_jarsFouledBy_18 : decode cX6_jarsFouledBy 18 = .ok (.invokevirtual 49, 3) := by decide +kernel
theorem dX6_jarsFouledBy_21 : decode cX6_jarsFouledBy 21 = .ok (.iload_n 1, 1) := by decide +kernel
theorem dX6_jarsFouledBy_22 : decode cX6_jarsFouledBy 22 = .ok (.if_icmp .ne 26, 3) := by decide +kernel
theorem dX6_jarsFouledBy_25 : decode cX6_jarsFouledBy 25 = .ok (.aload_n 0, 1) := by decide +kernel
theorem dX6_jarsFouledBy_26 : decode cX6_jarsFouledBy 26 = .ok (.iload 4, 2) := by decide +kernel
theorem dX6_jarsFouledBy_28 : decode cX6_jarsFouledBy 28 = .ok (.iconst 5, 1) := by decide +kernel
theorem dX6_jarsFouledBy_29 : decode cX6_jarsFouledBy 29 = .ok (.invokevirtual 49, 3) := by decide +kernel
theorem dX6_jarsFouledBy_32 : decode cX6_jarsFouledBy 32 = .ok (.iload_n 2, 1) := by decide +kernel
theorem dX6_jarsFouledBy_33 : decode cX6_jarsFouledBy 33 = .ok (.if_icmp .lt 15, 3) := by decide +kernel
theorem dX6_jarsFouledBy_36 : decode cX6_jarsFouledBy 36 = .ok (.iload_n 3, 1) := by decide +kernel
theorem dX6_jarsFouledBy_37 : decode cX6_jarsFouledBy 37 = .ok (.iconst 1, 1) := by decide +kernel
theorem dX6_jarsFouledBy_38 : decode cX6_jarsFouledBy 38 = .ok (.aload_n 0, 1) := by decide +kernel
theorem dX6_jarsFouledBy_39 : decode cX6_jarsFouledBy 39 = .ok (.iload 4, 2) := by decide +kernel
theorem dX6_jarsFouledBy_41 : decode cX6_jarsFouledBy 41 = .ok (.iconst 1, 1) := by decide +kernel
theorem dX6_jarsFouledBy_42 : decode cX6_jarsFouledBy 42 = .ok (.invokevirtual 49, 3) := by decide +kernel
theorem dX6_jarsFouledBy_45 : decode cX6_jarsFouledBy 45 = .ok (.ishl, 1) := by decide +kernel
theorem dX6_jarsFouledBy_46 : decode cX6_jarsFouledBy 46 = .ok (.ior, 1) := by decide +kernel
theorem dX6_jarsFouledBy_47 : decode cX6_jarsFouledBy 47 = .ok (.istore_n 3, 1) := by decide +kernel
theorem dX6_jarsFouledBy_48 : decode cX6_jarsFouledBy 48 = .ok (.iinc 4 1, 3) := by decide +kernel
theorem dX6_jarsFouledBy_51 : decode cX6_jarsFouledBy 51 = .ok (.goto (-46), 3) := by decide +kernel
theorem dX6_jarsFouledBy_54 : decode cX6_jarsFouledBy 54 = .ok (.iload_n 3, 1) := by decide +kernel
theorem dX6_jarsFouledBy_55 : decode cX6_jarsFouledBy 55 = .ok (.ireturn, 1) := by decide +kernel
theorem dX7_init_0 : decode cX7_init 0 = .ok (.aload_n 0, 1) := by decide +kernel
theorem dX7_init_1 : decode cX7_init 1 = .ok (.iload_n 1, 1) := by decide +kernel
theorem dX7_init_2 : decode cX7_init 2 = .ok (.iload_n 2, 1) := by decide +kernel
theorem dX7_init_3 : decode cX7_init 3 = .ok (.aload_n 3, 1) := by decide +kernel
theorem dX7_init_4 : decode cX7_init 4 = .ok (.aload 4, 2) := by decide +kernel
theorem dX7_init_6 : decode cX7_init 6 = .ok (.invokespecial 3, 3) := by decide +kernel
theorem dX7_init_9 : decode cX7_init 9 = .ok (.return_, 1) := by decide +kernel
theorem dX7_kind_0 : decode cX7_kind 0 = .ok (.iconst 1, 1) := by decide +kernel
theorem dX7_kind_1 : decode cX7_kind 1 = .ok (.ireturn, 1) := by decide +kernel
theorem dX7_canGoTo_0 : decode cX7_canGoTo 0 = .ok (.iconst 1, 1) := by decide +kernel
theorem dX7_canGoTo_1 : decode cX7_canGoTo 1 = .ok (.ireturn, 1) := by decide +kernel
theorem dX7_climbTime_0 : decode cX7_climbTime 0 = .ok (.iload_n 1, 1) := by decide +kernel
theorem dX7_climbTime_1 : decode cX7_climbTime 1 = .ok (.iconst 2, 1) := by decide +kernel
theorem dX7_climbTime_2 : decode cX7_climbTime 2 = .ok (.invokestatic 9, 3) := by decide +kernel
theorem dX7_climbTime_5 : decode cX7_climbTime 5 = .ok (.ireturn, 1) := by decide +kernel
theorem dX8_init_0 : decode cX8_init 0 = .ok (.aload_n 0, 1) := by decide +kernel
theorem dX8_init_1 : decode cX8_init 1 = .ok (.invokespecial 1, 3) := by decide +kernel
theorem dX8_init_4 : decode cX8_init 4 = .ok (.aload_n 0, 1) := by decide +kernel
theorem dX8_init_5 : decode cX8_init 5 = .ok (.new 7, 3) := by decide +kernel
theorem dX8_init_8 : decode cX8_init 8 = .ok (.dup, 1) := by decide +kernel
theorem dX8_init_9 : decode cX8_init 9 = .ok (.invokespecial 9, 3) := by decide +kernel
theorem dX8_init_12 : decode cX8_init 12 = .ok (.putfield 10, 3) := by decide +kernel
theorem dX8_init_15 : decode cX8_init 15 = .ok (.aload_n 0, 1) := by decide +kernel
theorem dX8_init_16 : decode cX8_init 16 = .ok (.new 7, 3) := by decide +kernel
theorem dX8_init_19 : decode cX8_init 19 = .ok (.dup, 1) := by decide +kernel
theorem dX8_init_20 : decode cX8_init 20 = .ok (.invokespecial 9, 3) := by decide +kernel
theorem dX8_init_23 : decode cX8_init 23 = .ok (.putfield 16, 3) := by decide +kernel
theorem dX8_init_26 : decode cX8_init 26 = .ok (.aload_n 0, 1) := by decide +kernel
theorem dX8_init_27 : decode cX8_init 27 = .ok (.new 7, 3) := by decide +kernel
theorem dX8_init_30 : decode cX8_init 30 = .ok (.dup, 1) := by decide +kernel
theorem dX8_init_31 : decode cX8_init 31 = .ok (.invokespecial 9, 3) := by decide +kernel
theorem dX8_init_34 : decode cX8_init 34 = .ok (.putfield 19, 3) := by decide +kernel
theorem dX8_init_37 : decode cX8_init 37 = .ok (.aload_n 0, 1) := by decide +kernel
theorem dX8_init_38 : decode cX8_init 38 = .ok (.new 22, 3) := by decide +kernel
theorem dX8_init_41 : decode cX8_init 41 = .ok (.dup, 1) := by decide +kernel
theorem dX8_init_42 : decode cX8_init 42 = .ok (.invokespecial 24, 3) := by decide +kernel
theorem dX8_init_45 : decode cX8_init 45 = .ok (.putfield 25, 3) := by decide +kernel
theorem dX8_init_48 : decode cX8_init 48 = .ok (.aload_n 0, 1) := by decide +kernel
theorem dX8_init_49 : decode cX8_init 49 = .ok (.new 29, 3) := by decide +kernel
theorem dX8_init_52 : decode cX8_init 52 = .ok (.dup, 1) := by decide +kernel
theorem dX8_init_53 : decode cX8_init 53 = .ok (.invokespecial 31, 3) := by decide +kernel
theorem dX8_init_56 : decode cX8_init 56 = .ok (.putfield 32, 3) := by decide +kernel
theorem dX8_init_59 : decode cX8_init 59 = .ok (.aload_n 0, 1) := by decide +kernel
theorem dX8_init_60 : decode cX8_init 60 = .ok (.new 36, 3) := by decide +kernel
theorem dX8_init_63 : decode cX8_init 63 = .ok (.dup, 1) := by decide +kernel
theorem dX8_init_64 : decode cX8_init 64 = .ok (.invokespecial 38, 3) := by decide +kernel
theorem dX8_init_67 : decode cX8_init 67 = .ok (.putfield 39, 3) := by decide +kernel
theorem dX8_init_70 : decode cX8_init 70 = .ok (.aload_n 0, 1) := by decide +kernel
theorem dX8_init_71 : decode cX8_init 71 = .ok (.bipush 7, 2) := by decide +kernel
theorem dX8_init_73 : decode cX8_init 73 = .ok (.newarray .long, 2) := by decide +kernel
theorem dX8_init_75 : decode cX8_init 75 = .ok (.putfield 43, 3) := by decide +kernel
theorem dX8_init_78 : decode cX8_init 78 = .ok (.aload_n 0, 1) := by decide +kernel
theorem dX8_init_79 : decode cX8_init 79 = .ok (.iconst 0, 1) := by decide +kernel
theorem dX8_init_80 : decode cX8_init 80 = .ok (.putfield 47, 3) := by decide +kernel
theorem dX8_init_83 : decode cX8_init 83 = .ok (.aload_n 0, 1) := by decide +kernel
theorem dX8_init_84 : decode cX8_init 84 = .ok (.bipush 100, 2) := by decide +kernel
theorem dX8_init_86 : decode cX8_init 86 = .ok (.putfield 51, 3) := by decide +kernel
theorem dX8_init_89 : decode cX8_init 89 = .ok (.return_, 1) := by decide +kernel
theorem dX8_fountain_0 : decode cX8_fountain 0 = .ok (.iload_n 1, 1) := by decide +kernel
theorem dX8_fountain_1 : decode cX8_fountain 1 = .ok (.iconst 1, 1) := by decide +kernel
theorem dX8_fountain_2 : decode cX8_fountain 2 = .ok (.bipush 20, 2) := by decide +kernel
theorem dX8_fountain_4 : decode cX8_fountain 4 = .ok (.invokestatic 54, 3) := by decide +kernel
theorem dX8_fountain_7 : decode cX8_fountain 7 = .ok (.ifCond .eq 5, 3) := by decide +kernel
theorem dX8_fountain_10 : decode cX8_fountain 10 = .ok (.iconst (-1), 1) := by decide +kernel
theorem dX8_fountain_11 : decode cX8_fountain 11 = .ok (.ireturn, 1) := by decide +kernel
theorem dX8_fountain_12 : decode cX8_fountain 12 = .ok (.aload_n 0, 1) := by decide +kernel
theorem dX8_fountain_13 : decode cX8_fountain 13 = .ok (.getfield 16, 3) := by decide +kernel
theorem dX8_fountain_16 : decode cX8_fountain 16 = .ok (.invokevirtual 58, 3) := by decide +kernel
theorem dX8_fountain_19 : decode cX8_fountain 19 = .ok (.ifCond .ne 6, 3) := by decide +kernel
theorem dX8_fountain_22 : decode cX8_fountain 22 = .ok (.bipush (-2), 2) := by decide +kernel
theorem dX8_fountain_24 : decode cX8_fountain 24 = .ok (.ireturn, 1) := by decide +kernel
theorem dX8_fountain_25 : decode cX8_fountain 25 = .ok (.aload_n 0, 1) := by decide +kernel
theorem dX8_fountain_26 : decode cX8_fountain 26 = .ok (.getfield 10, 3) := by decide +kernel
theorem dX8_fountain_29 : decode cX8_fountain 29 = .ok (.invokevirtual 62, 3) := by decide +kernel
theorem dX8_fountain_32 : decode cX8_fountain 32 = .ok (.istore_n 2, 1) := by decide +kernel
theorem dX8_fountain_33 : decode cX8_fountain 33 = .ok (.iload_n 2, 1) := by decide +kernel
theorem dX8_fountain_34 : decode cX8_fountain 34 = .ok (.iconst 4, 1) := by decide +kernel
theorem dX8_fountain_35 : decode cX8_fountain 35 = .ok (.if_icmp .lt 6, 3) := by decide +kernel
theorem dX8_fountain_38 : decode cX8_fountain 38 = .ok (.bipush (-3), 2) := by decide +kernel
theorem dX8_fountain_40 : decode cX8_fountain 40 = .ok (.ireturn, 1) := by decide +kernel
theorem dX8_fountain_41 : decode cX8_fountain 41 = .ok (.aload_n 0, 1) := by decide +kernel
theorem dX8_fountain_42 : decode cX8_fountain 42 = .ok (.getfield 10, 3) := by decide +kernel
theorem dX8_fountain_45 : decode cX8_fountain 45 = .ok (.new 66, 3) := by decide +kernel
theorem dX8_fountain_48 : decode cX8_fountain 48 = .ok (.dup, 1) := by decide +kernel
theorem dX8_fountain_49 : decode cX8_fountain 49 = .ok (.iload_n 2, 1) := by decide +kernel
theorem dX8_fountain_50 : decode cX8_fountain 50 = .ok (.iload_n 1, 1) := by decide +kernel
theorem dX8_fountain_51 : decode cX8_fountain 51 = .ok (.invokespecial 68, 3) := by decide +kernel
theorem dX8_fountain_54 : decode cX8_fountain 54 = .ok (.invokevirtual 71, 3) := by decide +kernel
theorem dX8_fountain_57 : decode cX8_fountain 57 = .ok (.pop, 1) := by decide +kernel
theorem dX8_fountain_58 : decode cX8_fountain 58 = .ok (.iload_n 2, 1) := by decide +kernel
theorem dX8_fountain_59 : decode cX8_fountain 59 = .ok (.ireturn, 1) := by decide +kernel
theorem dX8_jar_0 : decode cX8_jar 0 = .ok (.iload_n 1, 1) := by decide +kernel
theorem dX8_jar_1 : decode cX8_jar 1 = .ok (.iconst 0, 1) := by decide +kernel
theorem dX8_jar_2 : decode cX8_jar 2 = .ok (.bipush 9, 2) := by decide +kernel
theorem dX8_jar_4 : decode cX8_jar 4 = .ok (.invokestatic 54, 3) := by decide +kernel
theorem dX8_jar_7 : decode cX8_jar 7 = .ok (.ifCond .ne 14, 3) := by decide +kernel
theorem dX8_jar_10 : decode cX8_jar 10 = .ok (.iload_n 2, 1) := by decide +kernel
theorem dX8_jar_11 : decode cX8_jar 11 = .ok (.iconst 1, 1) := by decide +kernel
theorem dX8_jar_12 : decode cX8_jar 12 = .ok (.sipush 200, 3) := by decide +kernel
theorem dX8_jar_15 : decode cX8_jar 15 = .ok (.invokestatic 54, 3) := by decide +kernel
theorem dX8_jar_18 : decode cX8_jar 18 = .ok (.ifCond .eq 5, 3) := by decide +kernel
theorem dX8_jar_21 : decode cX8_jar 21 = .ok (.iconst (-1), 1) := by decide +kernel
theorem dX8_jar_22 : decode cX8_jar 22 = .ok (.ireturn, 1) := by decide +kernel
theorem dX8_jar_23 : decode cX8_jar 23 = .ok (.iconst 4, 1) := by decide +kernel
theorem dX8_jar_24 : decode cX8_jar 24 = .ok (.newarray .int, 2) := by decide +kernel
theorem dX8_jar_26 : decode cX8_jar 26 = .ok (.dup, 1) := by decide +kernel
theorem dX8_jar_27 : decode cX8_jar 27 = .ok (.iconst 0, 1) := by decide +kernel
theorem dX8_jar_28 : decode cX8_jar 28 = .ok (.iload_n 3, 1) := by decide +kernel
theorem dX8_jar_29 : decode cX8_jar 29 = .ok (.iastore, 1) := by decide +kernel
theorem dX8_jar_30 : decode cX8_jar 30 = .ok (.dup, 1) := by decide +kernel
theorem dX8_jar_31 : decode cX8_jar 31 = .ok (.iconst 1, 1) := by decide +kernel
theorem dX8_jar_32 : decode cX8_jar 32 = .ok (.iload 4, 2) := by decide +kernel
theorem dX8_jar_34 : decode cX8_jar 34 = .ok (.iastore, 1) := by decide +kernel
theorem dX8_jar_35 : decode cX8_jar 35 = .ok (.dup, 1) := by decide +kernel
theorem dX8_jar_36 : decode cX8_jar 36 = .ok (.iconst 2, 1) := by decide +kernel
theorem dX8_jar_37 : decode cX8_jar 37 = .ok (.iload 5, 2) := by decide +kernel
theorem dX8_jar_39 : decode cX8_jar 39 = .ok (.iastore, 1) := by decide +kernel
theorem dX8_jar_40 : decode cX8_jar 40 = .ok (.dup, 1) := by decide +kernel
theorem dX8_jar_41 : decode cX8_jar 41 = .ok (.iconst 3, 1) := by decide +kernel
theorem dX8_jar_42 : decode cX8_jar 42 = .ok (.iload 6, 2) := by decide +kernel
theorem dX8_jar_44 : decode cX8_jar 44 = .ok (.iastore, 1) := by decide +kernel
theorem dX8_jar_45 : decode cX8_jar 45 = .ok (.astore 7, 2) := by decide +kernel
theorem dX8_jar_47 : decode cX8_jar 47 = .ok (.iconst 0, 1) := by decide +kernel
theorem dX8_jar_48 : decode cX8_jar 48 = .ok (.istore 8, 2) := by decide +kernel
theorem dX8_jar_50 : decode cX8_jar 50 = .ok (.iload 8, 2) := by decide +kernel
theorem dX8_jar_52 : decode cX8_jar 52 = .ok (.aload_n 0, 1) := by decide +kernel
theorem dX8_jar_53 : decode cX8_jar 53 = .ok (.getfield 10, 3) := by decide +kernel
theorem dX8_jar_56 : decode cX8_jar 56 = .ok (.invokevirtual 62, 3) := by decide +kernel
theorem dX8_jar_59 : decode cX8_jar 59 = .ok (.if_icmp .ge 33, 3) := by decide +kernel
theorem dX8_jar_62 : decode cX8_jar 62 = .ok (.iload 8, 2) := by decide +kernel
theorem dX8_jar_64 : decode cX8_jar 64 = .ok (.aload 7, 2) := by decide +kernel
theorem dX8_jar_66 : decode cX8_jar 66 = .ok (.arraylength, 1) := by decide +kernel
theorem dX8_jar_67 : decode cX8_jar 67 = .ok (.if_icmp .ge 25, 3) := by decide +kernel
theorem dX8_jar_70 : decode cX8_jar 70 = .ok (.aload 7, 2) := by decide +kernel
theorem dX8_jar_72 : decode cX8_jar 72 = .ok (.iload 8, 2) := by decide +kernel
theorem dX8_jar_74 : decode cX8_jar 74 = .ok (.iaload, 1) := by decide +kernel
theorem dX8_jar_75 : decode cX8_jar 75 = .ok (.iconst 1, 1) := by decide +kernel
theorem dX8_jar_76 : decode cX8_jar 76 = .ok (.bipush 30, 2) := by decide +kernel
theorem dX8_jar_78 : decode cX8_jar 78 = .ok (.invokestatic 54, 3) := by decide +kernel
theorem dX8_jar_81 : decode cX8_jar 81 = .ok (.ifCond .eq 5, 3) := by decide +kernel
theorem dX8_jar_84 : decode cX8_jar 84 = .ok (.iconst (-1), 1) := by decide +kernel
theorem dX8_jar_85 : decode cX8_jar 85 = .ok (.ireturn, 1) := by decide +kernel
theorem dX8_jar_86 : decode cX8_jar 86 = .ok (.iinc 8 1, 3) := by decide +kernel
theorem dX8_jar_89 : decode cX8_jar 89 = .ok (.goto (-39), 3) := by decide +kernel
theorem dX8_jar_92 : decode cX8_jar 92 = .ok (.aload_n 0, 1) := by decide +kernel
theorem dX8_jar_93 : decode cX8_jar 93 = .ok (.getfield 10, 3) := by decide +kernel
theorem dX8_jar_96 : decode cX8_jar 96 = .ok (.invokevirtual 58, 3) := by decide +kernel
theorem dX8_jar_99 : decode cX8_jar 99 = .ok (.ifCond .eq 6, 3) := by decide +kernel
theorem dX8_jar_102 : decode cX8_jar 102 = .ok (.bipush (-2), 2) := by decide +kernel
theorem dX8_jar_104 : decode cX8_jar 104 = .ok (.ireturn, 1) := by decide +kernel
theorem dX8_jar_105 : decode cX8_jar 105 = .ok (.aload_n 0, 1) := by decide +kernel
theorem dX8_jar_106 : decode cX8_jar 106 = .ok (.getfield 16, 3) := by decide +kernel
theorem dX8_jar_109 : decode cX8_jar 109 = .ok (.invokevirtual 62, 3) := by decide +kernel
theorem dX8_jar_112 : decode cX8_jar 112 = .ok (.istore 8, 2) := by decide +kernel
theorem dX8_jar_114 : decode cX8_jar 114 = .ok (.iload 8, 2) := by decide +kernel
theorem dX8_jar_116 : decode cX8_jar 116 = .ok (.bipush 8, 2) := by decide +kernel
theorem dX8_jar_118 : decode cX8_jar 118 = .ok (.if_icmp .lt 6, 3) := by decide +kernel
theorem dX8_jar_121 : decode cX8_jar 121 = .ok (.bipush (-3), 2) := by decide +kernel
theorem dX8_jar_123 : decode cX8_jar 123 = .ok (.ireturn, 1) := by decide +kernel
theorem dX8_jar_124 : decode cX8_jar 124 = .ok (.aload_n 0, 1) := by decide +kernel
theorem dX8_jar_125 : decode cX8_jar 125 = .ok (.getfield 16, 3) := by decide +kernel
theorem dX8_jar_128 : decode cX8_jar 128 = .ok (.new 75, 3) := by decide +kernel
theorem dX8_jar_131 : decode cX8_jar 131 = .ok (.dup, 1) := by decide +kernel
theorem dX8_jar_132 : decode cX8_jar 132 = .ok (.iload 8, 2) := by decide +kernel
theorem dX8_jar_134 : decode cX8_jar 134 = .ok (.iload_n 1, 1) := by decide +kernel
theorem dX8_jar_135 : decode cX8_jar 135 = .ok (.iload_n 2, 1) := by decide +kernel
theorem dX8_jar_136 : decode cX8_jar 136 = .ok (.aload 7, 2) := by decide +kernel
theorem dX8_jar_138 : decode cX8_jar 138 = .ok (.invokespecial 77, 3) := by decide +kernel
theorem dX8_jar_141 : decode cX8_jar 141 = .ok (.invokevirtual 71, 3) := by decide +kernel
theorem dX8_jar_144 : decode cX8_jar 144 = .ok (.pop, 1) := by decide +kernel
theorem dX8_jar_145 : decode cX8_jar 145 = .ok (.iload 8, 2) := by decide +kernel
theorem dX8_jar_147 : decode cX8_jar 147 = .ok (.ireturn, 1) := by decide +kernel
theorem dX8_drinks_0 : decode cX8_drinks 0 = .ok (.aload_n 0, 1) := by decide +kernel
theorem dX8_drinks_1 : decode cX8_drinks 1 = .ok (.iload_n 1, 1) := by decide +kernel
theorem dX8_drinks_2 : decode cX8_drinks 2 = .ok (.invokevirtual 80, 3) := by decide +kernel
theorem dX8_drinks_5 : decode cX8_drinks 5 = .ok (.astore_n 3, 1) := by decide +kernel
theorem dX8_drinks_6 : decode cX8_drinks 6 = .ok (.aload_n 3, 1) := by decide +kernel
theorem dX8_drinks_7 : decode cX8_drinks 7 = .ok (.ifnull 13, 3) := by decide +kernel
theorem dX8_drinks_10 : decode cX8_drinks 10 = .ok (.iload_n 2, 1) := by decide +kernel
theorem dX8_drinks_11 : decode cX8_drinks 11 = .ok (.iconst 0, 1) := by decide +kernel
theorem dX8_drinks_12 : decode cX8_drinks 12 = .ok (.bipush 9, 2) := by decide +kernel
theorem dX8_drinks_14 : decode cX8_drinks 14 = .ok (.invokestatic 54, 3) := by decide +kernel
theorem dX8_drinks_17 : decode cX8_drinks 17 = .ok (.ifCond .eq 5, 3) := by decide +kernel
theorem dX8_drinks_20 : decode cX8_drinks 20 = .ok (.iconst (-1), 1) := by decide +kernel
theorem dX8_drinks_21 : decode cX8_drinks 21 = .ok (.ireturn, 1) := by decide +kernel
theorem dX8_drinks_22 : decode cX8_drinks 22 = .ok (.aload_n 3, 1) := by decide +kernel
theorem dX8_drinks_23 : decode cX8_drinks 23 = .ok (.getfield 84, 3) := by decide +kernel
theorem dX8_drinks_26 : decode cX8_drinks 26 = .ok (.istore 4, 2) := by decide +kernel
theorem dX8_drinks_28 : decode cX8_drinks 28 = .ok (.aload_n 3, 1) := by decide +kernel
theorem dX8_drinks_29 : decode cX8_drinks 29 = .ok (.iload_n 2, 1) := by decide +kernel
theorem dX8_drinks_30 : decode cX8_drinks 30 = .ok (.putfield 84, 3) := by decide +kernel
theorem dX8_drinks_33 : decode cX8_drinks 33 = .ok (.iload 4, 2) := by decide +kernel
theorem dX8_drinks_35 : decode cX8_drinks 35 = .ok (.ireturn, 1) := by decide +kernel
theorem dX8_man_0 : decode cX8_man 0 = .ok (.aload_n 0, 1) := by decide +kernel
theorem dX8_man_1 : decode cX8_man 1 = .ok (.iload_n 3, 1) := by decide +kernel
theorem dX8_man_2 : decode cX8_man 2 = .ok (.invokevirtual 87, 3) := by decide +kernel
theorem dX8_man_5 : decode cX8_man 5 = .ok (.astore 5, 2) := by decide +kernel
theorem dX8_man_7 : decode cX8_man 7 = .ok (.aload_n 0, 1) := by decide +kernel
theorem dX8_man_8 : decode cX8_man 8 = .ok (.iload 4, 2) := by decide +kernel
theorem dX8_man_10 : decode cX8_man 10 = .ok (.invokevirtual 80, 3) := by decide +kernel
theorem dX8_man_13 : decode cX8_man 13 = .ok (.astore 6, 2) := by decide +kernel
theorem dX8_man_15 : decode cX8_man 15 = .ok (.iload_n 1, 1) := by decide +kernel
theorem dX8_man_16 : decode cX8_man 16 = .ok (.iconst 0, 1) := by decide +kernel
theorem dX8_man_17 : decode cX8_man 17 = .ok (.iconst 2, 1) := by decide +kernel
theorem dX8_man_18 : decode cX8_man 18 = .ok (.invokestatic 54, 3) := by decide +kernel
theorem dX8_man_21 : decode cX8_man 21 = .ok (.ifCond .ne 13, 3) := by decide +kernel
theorem dX8_man_24 : decode cX8_man 24 = .ok (.iload_n 2, 1) := by decide +kernel
theorem dX8_man_25 : decode cX8_man 25 = .ok (.iconst 1, 1) := by decide +kernel
theorem dX8_man_26 : decode cX8_man 26 = .ok (.bipush 40, 2) := by decide +kernel
theorem dX8_man_28 : decode cX8_man 28 = .ok (.invokestatic 54, 3) := by decide +kernel
theorem dX8_man_31 : decode cX8_man 31 = .ok (.ifCond .eq 5, 3) := by decide +kernel
theorem dX8_man_34 : decode cX8_man 34 = .ok (.iconst (-1), 1) := by decide +kernel
theorem dX8_man_35 : decode cX8_man 35 = .ok (.ireturn, 1) := by decide +kernel
theorem dX8_man_36 : decode cX8_man 36 = .ok (.aload 5, 2) := by decide +kernel
theorem dX8_man_38 : decode cX8_man 38 = .ok (.ifnull 8, 3) := by decide +kernel
theorem dX8_man_41 : decode cX8_man 41 = .ok (.aload 6, 2) := by decide +kernel
theorem dX8_man_43 : decode cX8_man 43 = .ok (.ifnonnull 5, 3) := by decide +kernel
theorem dX8_man_46 : decode cX8_man 46 = .ok (.iconst (-1), 1) := by decide +kernel
theorem dX8_man_47 : decode cX8_man 47 = .ok (.ireturn, 1) := by decide +kernel
theorem dX8_man_48 : decode cX8_man 48 = .ok (.aload_n 0, 1) := by decide +kernel
theorem dX8_man_49 : decode cX8_man 49 = .ok (.getfield 19, 3) := by decide +kernel
theorem dX8_man_52 : decode cX8_man 52 = .ok (.invokevirtual 62, 3) := by decide +kernel
theorem dX8_man_55 : decode cX8_man 55 = .ok (.istore 7, 2) := by decide +kernel
theorem dX8_man_57 : decode cX8_man 57 = .ok (.iload_n 1, 1) := by decide +kernel
theorem dX8_man_58 : decode cX8_man 58 = .ok (.iload 7, 2) := by decide +kernel
theorem dX8_man_60 : decode cX8_man 60 = .ok (.iload_n 2, 1) := by decide +kernel
theorem dX8_man_61 : decode cX8_man 61 = .ok (.aload 5, 2) := by decide +kernel
theorem dX8_man_63 : decode cX8_man 63 = .ok (.aload 6, 2) := by decide +kernel
theorem dX8_man_65 : decode cX8_man 65 = .ok (.invokestatic 91, 3) := by decide +kernel
theorem dX8_man_68 : decode cX8_man 68 = .ok (.astore 8, 2) := by decide +kernel
theorem dX8_man_70 : decode cX8_man 70 = .ok (.aload 8, 2) := by decide +kernel
theorem dX8_man_72 : decode cX8_man 72 = .ok (.aload 6, 2) := by decide +kernel
theorem dX8_man_74 : decode cX8_man 74 = .ok (.invokevirtual 95, 3) := by decide +kernel
theorem dX8_man_77 : decode cX8_man 77 = .ok (.ifCond .ne 6, 3) := by decide +kernel
theorem dX8_man_80 : decode cX8_man 80 = .ok (.bipush (-2), 2) := by decide +kernel
theorem dX8_man_82 : decode cX8_man 82 = .ok (.ireturn, 1) := by decide +kernel
theorem dX8_man_83 : decode cX8_man 83 = .ok (.iload 7, 2) := by decide +kernel
theorem dX8_man_85 : decode cX8_man 85 = .ok (.bipush 10, 2) := by decide +kernel
theorem dX8_man_87 : decode cX8_man 87 = .ok (.if_icmp .lt 6, 3) := by decide +kernel
theorem dX8_man_90 : decode cX8_man 90 = .ok (.bipush (-3), 2) := by decide +kernel
theorem dX8_man_92 : decode cX8_man 92 = .ok (.ireturn, 1) := by decide +kernel
theorem dX8_man_93 : decode cX8_man 93 = .ok (.aload_n 0, 1) := by decide +kernel
theorem dX8_man_94 : decode cX8_man 94 = .ok (.getfield 19, 3) := by decide +kernel
theorem dX8_man_97 : decode cX8_man 97 = .ok (.aload 8, 2) := by decide +kernel
theorem dX8_man_99 : decode cX8_man 99 = .ok (.invokevirtual 71, 3) := by decide +kernel
theorem dX8_man_102 : decode cX8_man 102 = .ok (.pop, 1) := by decide +kernel
theorem dX8_man_103 : decode cX8_man 103 = .ok (.aload 8, 2) := by decide +kernel
theorem dX8_man_105 : decode cX8_man 105 = .ok (.invokevirtual 101, 3) := by decide +kernel
theorem dX8_man_108 : decode cX8_man 108 = .ok (.iload 7, 2) := by decide +kernel
theorem dX8_man_110 : decode cX8_man 110 = .ok (.ireturn, 1) := by decide +kernel
theorem dX8_right_0 : decode cX8_right 0 = .ok (.aload_n 0, 1) := by decide +kernel
theorem dX8_right_1 : decode cX8_right 1 = .ok (.iload_n 1, 1) := by decide +kernel
theorem dX8_right_2 : decode cX8_right 2 = .ok (.invokevirtual 104, 3) := by decide +kernel
theorem dX8_right_5 : decode cX8_right 5 = .ok (.astore_n 3, 1) := by decide +kernel
theorem dX8_right_6 : decode cX8_right 6 = .ok (.aload_n 3, 1) := by decide +kernel
theorem dX8_right_7 : decode cX8_right 7 = .ok (.ifnull 12, 3) := by decide +kernel
theorem dX8_right_10 : decode cX8_right 10 = .ok (.iload_n 2, 1) := by decide +kernel
theorem dX8_right_11 : decode cX8_right 11 = .ok (.iconst 0, 1) := by decide +kernel
theorem dX8_right_12 : decode cX8_right 12 = .ok (.iconst 3, 1) := by decide +kernel
theorem dX8_right_13 : decode cX8_right 13 = .ok (.invokestatic 54, 3) := by decide +kernel
theorem dX8_right_16 : decode cX8_right 16 = .ok (.ifCond .eq 5, 3) := by decide +kernel
theorem dX8_right_19 : decode cX8_right 19 = .ok (.iconst (-1), 1) := by decide +kernel
theorem dX8_right_20 : decode cX8_right 20 = .ok (.ireturn, 1) := by decide +kernel
theorem dX8_right_21 : decode cX8_right 21 = .ok (.aload_n 3, 1) := by decide +kernel
theorem dX8_right_22 : decode cX8_right 22 = .ok (.getfield 108, 3) := by decide +kernel
theorem dX8_right_25 : decode cX8_right 25 = .ok (.istore 4, 2) := by decide +kernel
theorem dX8_right_27 : decode cX8_right 27 = .ok (.aload_n 3, 1) := by decide +kernel
theorem dX8_right_28 : decode cX8_right 28 = .ok (.iload_n 2, 1) := by decide +kernel
theorem dX8_right_29 : decode cX8_right 29 = .ok (.putfield 108, 3) := by decide +kernel
theorem dX8_right_32 : decode cX8_right 32 = .ok (.iload 4, 2) := by decide +kernel
theorem dX8_right_34 : decode cX8_right 34 = .ok (.ireturn, 1) := by decide +kernel
theorem dX8_pace_0 : decode cX8_pace 0 = .ok (.aload_n 0, 1) := by decide +kernel
theorem dX8_pace_1 : decode cX8_pace 1 = .ok (.iload_n 1, 1) := by decide +kernel
theorem dX8_pace_2 : decode cX8_pace 2 = .ok (.invokevirtual 104, 3) := by decide +kernel
theorem dX8_pace_5 : decode cX8_pace 5 = .ok (.astore_n 3, 1) := by decide +kernel
theorem dX8_pace_6 : decode cX8_pace 6 = .ok (.aload_n 3, 1) := by decide +kernel
theorem dX8_pace_7 : decode cX8_pace 7 = .ok (.ifnull 12, 3) := by decide +kernel
theorem dX8_pace_10 : decode cX8_pace 10 = .ok (.iload_n 2, 1) := by decide +kernel
theorem dX8_pace_11 : decode cX8_pace 11 = .ok (.iconst 1, 1) := by decide +kernel
theorem dX8_pace_12 : decode cX8_pace 12 = .ok (.iconst 5, 1) := by decide +kernel
theorem dX8_pace_13 : decode cX8_pace 13 = .ok (.invokestatic 54, 3) := by decide +kernel
theorem dX8_pace_16 : decode cX8_pace 16 = .ok (.ifCond .eq 5, 3) := by decide +kernel
theorem dX8_pace_19 : decode cX8_pace 19 = .ok (.iconst (-1), 1) := by decide +kernel
theorem dX8_pace_20 : decode cX8_pace 20 = .ok (.ireturn, 1) := by decide +kernel
theorem dX8_pace_21 : decode cX8_pace 21 = .ok (.aload_n 3, 1) := by decide +kernel
theorem dX8_pace_22 : decode cX8_pace 22 = .ok (.instanceof 111, 3) := by decide +kernel
theorem dX8_pace_25 : decode cX8_pace 25 = .ok (.ifCond .eq 25, 3) := by decide +kernel
theorem dX8_pace_28 : decode cX8_pace 28 = .ok (.aload_n 3, 1) := by decide +kernel
theorem dX8_pace_29 : decode cX8_pace 29 = .ok (.checkcast 111, 3) := by decide +kernel
theorem dX8_pace_32 : decode cX8_pace 32 = .ok (.astore 4, 2) := by decide +kernel
theorem dX8_pace_34 : decode cX8_pace 34 = .ok (.aload 4, 2) := by decide +kernel
theorem dX8_pace_36 : decode cX8_pace 36 = .ok (.getfield 113, 3) := by decide +kernel
theorem dX8_pace_39 : decode cX8_pace 39 = .ok (.istore 5, 2) := by decide +kernel
theorem dX8_pace_41 : decode cX8_pace 41 = .ok (.aload 4, 2) := by decide +kernel
theorem dX8_pace_43 : decode cX8_pace 43 = .ok (.iload_n 2, 1) := by decide +kernel
theorem dX8_pace_44 : decode cX8_pace 44 = .ok (.putfield 113, 3) := by decide +kernel
theorem dX8_pace_47 : decode cX8_pace 47 = .ok (.iload 5, 2) := by decide +kernel
theorem dX8_pace_49 : decode cX8_pace 49 = .ok (.ireturn, 1) := by decide +kernel
theorem dX8_pace_50 : decode cX8_pace 50 = .ok (.bipush (-13), 2) := by decide +kernel
theorem dX8_pace_52 : decode cX8_pace 52 = .ok (.ireturn, 1) := by decide +kernel
theorem dX8_moves_0 : decode cX8_moves 0 = .ok (.aload_n 0, 1) := by decide +kernel
theorem dX8_moves_1 : decode cX8_moves 1 = .ok (.iload_n 1, 1) := by decide +kernel
theorem dX8_moves_2 : decode cX8_moves 2 = .ok (.invokevirtual 104, 3) := by decide +kernel
theorem dX8_moves_5 : decode cX8_moves 5 = .ok (.astore 4, 2) := by decide +kernel
theorem dX8_moves_7 : decode cX8_moves 7 = .ok (.aload_n 0, 1) := by decide +kernel
theorem dX8_moves_8 : decode cX8_moves 8 = .ok (.iload_n 2, 1) := by decide +kernel
theorem dX8_moves_9 : decode cX8_moves 9 = .ok (.invokevirtual 87, 3) := by decide +kernel
theorem dX8_moves_12 : decode cX8_moves 12 = .ok (.astore 5, 2) := by decide +kernel
theorem dX8_moves_14 : decode cX8_moves 14 = .ok (.aload_n 0, 1) := by decide +kernel
theorem dX8_moves_15 : decode cX8_moves 15 = .ok (.iload_n 3, 1) := by decide +kernel
theorem dX8_moves_16 : decode cX8_moves 16 = .ok (.invokevirtual 80, 3) := by decide +kernel
theorem dX8_moves_19 : decode cX8_moves 19 = .ok (.astore 6, 2) := by decide +kernel
theorem dX8_moves_21 : decode cX8_moves 21 = .ok (.aload 4, 2) := by decide +kernel
theorem dX8_moves_23 : decode cX8_moves 23 = .ok (.ifnull 13, 3) := by decide +kernel
theorem dX8_moves_26 : decode cX8_moves 26 = .ok (.aload 5, 2) := by decide +kernel
theorem dX8_moves_28 : decode cX8_moves 28 = .ok (.ifnull 8, 3) := by decide +kernel
theorem dX8_moves_31 : decode cX8_moves 31 = .ok (.aload 6, 2) := by decide +kernel
theorem dX8_moves_33 : decode cX8_moves 33 = .ok (.ifnonnull 5, 3) := by decide +kernel
theorem dX8_moves_36 : decode cX8_moves 36 = .ok (.iconst (-1), 1) := by decide +kernel
theorem dX8_moves_37 : decode cX8_moves 37 = .ok (.ireturn, 1) := by decide +kernel
theorem dX8_moves_38 : decode cX8_moves 38 = .ok (.aload 4, 2) := by decide +kernel
theorem dX8_moves_40 : decode cX8_moves 40 = .ok (.getfield 116, 3) := by decide +kernel
theorem dX8_moves_43 : decode cX8_moves 43 = .ok (.ifCond .ne 13, 3) := by decide +kernel
theorem dX8_moves_46 : decode cX8_moves 46 = .ok (.aload 4, 2) := by decide +kernel
theorem dX8_moves_48 : decode cX8_moves 48 = .ok (.aload 6, 2) := by decide +kernel
theorem dX8_moves_50 : decode cX8_moves 50 = .ok (.invokevirtual 95, 3) := by decide +kernel
theorem dX8_moves_53 : decode cX8_moves 53 = .ok (.ifCond .ne 6, 3) := by decide +kernel
theorem dX8_moves_56 : decode cX8_moves 56 = .ok (.bipush (-2), 2) := by decide +kernel
theorem dX8_moves_58 : decode cX8_moves 58 = .ok (.ireturn, 1) := by decide +kernel
theorem dX8_moves_59 : decode cX8_moves 59 = .ok (.aload 4, 2) := by decide +kernel
theorem dX8_moves_61 : decode cX8_moves 61 = .ok (.invokevirtual 119, 3) := by decide +kernel
theorem dX8_moves_64 : decode cX8_moves 64 = .ok (.aload 4, 2) := by decide +kernel
theorem dX8_moves_66 : decode cX8_moves 66 = .ok (.aload 5, 2) := by decide +kernel
theorem dX8_moves_68 : decode cX8_moves 68 = .ok (.putfield 122, 3) := by decide +kernel
theorem dX8_moves_71 : decode cX8_moves 71 = .ok (.aload 4, 2) := by decide +kernel
theorem dX8_moves_73 : decode cX8_moves 73 = .ok (.aload 6, 2) := by decide +kernel
theorem dX8_moves_75 : decode cX8_moves 75 = .ok (.putfield 126, 3) := by decide +kernel
theorem dX8_moves_78 : decode cX8_moves 78 = .ok (.aload 4, 2) := by decide +kernel
theorem dX8_moves_80 : decode cX8_moves 80 = .ok (.invokevirtual 101, 3) := by decide +kernel
theorem dX8_moves_83 : decode cX8_moves 83 = .ok (.iconst 1, 1) := by decide +kernel
theorem dX8_moves_84 : decode cX8_moves 84 = .ok (.ireturn, 1) := by decide +kernel
theorem dX8_open_0 : decode cX8_open 0 = .ok (.aload_n 0, 1) := by decide +kernel
theorem dX8_open_1 : decode cX8_open 1 = .ok (.iload_n 1, 1) := by decide +kernel
theorem dX8_open_2 : decode cX8_open 2 = .ok (.invokevirtual 87, 3) := by decide +kernel
theorem dX8_open_5 : decode cX8_open 5 = .ok (.astore_n 3, 1) := by decide +kernel
theorem dX8_open_6 : decode cX8_open 6 = .ok (.aload_n 3, 1) := by decide +kernel
theorem dX8_open_7 : decode cX8_open 7 = .ok (.ifnonnull 5, 3) := by decide +kernel
theorem dX8_open_10 : decode cX8_open 10 = .ok (.iconst (-1), 1) := by decide +kernel
theorem dX8_open_11 : decode cX8_open 11 = .ok (.ireturn, 1) := by decide +kernel
theorem dX8_open_12 : decode cX8_open 12 = .ok (.aload_n 3, 1) := by decide +kernel
theorem dX8_open_13 : decode cX8_open 13 = .ok (.getfield 130, 3) := by decide +kernel
theorem dX8_open_16 : decode cX8_open 16 = .ok (.ifCond .eq 7, 3) := by decide +kernel
theorem dX8_open_19 : decode cX8_open 19 = .ok (.iconst 1, 1) := by decide +kernel
theorem dX8_open_20 : decode cX8_open 20 = .ok (.goto 4, 3) := by decide +kernel
theorem dX8_open_23 : decode cX8_open 23 = .ok (.iconst 0, 1) := by decide +kernel
theorem dX8_open_24 : decode cX8_open 24 = .ok (.istore 4, 2) := by decide +kernel
theorem dX8_open_26 : decode cX8_open 26 = .ok (.aload_n 3, 1) := by decide +kernel
theorem dX8_open_27 : decode cX8_open 27 = .ok (.iload_n 2, 1) := by decide +kernel
theorem dX8_open_28 : decode cX8_open 28 = .ok (.putfield 130, 3) := by decide +kernel
theorem dX8_open_31 : decode cX8_open 31 = .ok (.iload 4, 2) := by decide +kernel
theorem dX8_open_33 : decode cX8_open 33 = .ok (.ireturn, 1) := by decide +kernel
theorem dX8_drought_0 : decode cX8_drought 0 = .ok (.iload_n 1, 1) := by decide +kernel
theorem dX8_drought_1 : decode cX8_drought 1 = .ok (.iconst 0, 1) := by decide +kernel
theorem dX8_drought_2 : decode cX8_drought 2 = .ok (.bipush 100, 2) := by decide +kernel
theorem dX8_drought_4 : decode cX8_drought 4 = .ok (.invokestatic 54, 3) := by decide +kernel
theorem dX8_drought_7 : decode cX8_drought 7 = .ok (.ifCond .eq 5, 3) := by decide +kernel
theorem dX8_drought_10 : decode cX8_drought 10 = .ok (.iconst (-1), 1) := by decide +kernel
theorem dX8_drought_11 : decode cX8_drought 11 = .ok (.ireturn, 1) := by decide +kernel
theorem dX8_drought_12 : decode cX8_drought 12 = .ok (.aload_n 0, 1) := by decide +kernel
theorem dX8_drought_13 : decode cX8_drought 13 = .ok (.getfield 51, 3) := by decide +kernel
theorem dX8_drought_16 : decode cX8_drought 16 = .ok (.istore_n 2, 1) := by decide +kernel
theorem dX8_drought_17 : decode cX8_drought 17 = .ok (.aload_n 0, 1) := by decide +kernel
theorem dX8_drought_18 : decode cX8_drought 18 = .ok (.iload_n 1, 1) := by decide +kernel
theorem dX8_drought_19 : decode cX8_drought 19 = .ok (.putfield 51, 3) := by decide +kernel
theorem dX8_drought_22 : decode cX8_drought 22 = .ok (.iload_n 2, 1) := by decide +kernel
theorem dX8_drought_23 : decode cX8_drought 23 = .ok (.ireturn, 1) := by decide +kernel
theorem dX8_type_0 : decode cX8_type 0 = .ok (.aload_n 0, 1) := by decide +kernel
theorem dX8_type_1 : decode cX8_type 1 = .ok (.getfield 25, 3) := by decide +kernel
theorem dX8_type_4 : decode cX8_type 4 = .ok (.lload_n 1, 1) := by decide +kernel
theorem dX8_type_5 : decode cX8_type 5 = .ok (.iload_n 3, 1) := by decide +kernel
theorem dX8_type_6 : decode cX8_type 6 = .ok (.invokevirtual 134, 3) := by decide +kernel
theorem dX8_type_9 : decode cX8_type 9 = .ok (.ireturn, 1) := by decide +kernel
theorem dX8_fares_0 : decode cX8_fares 0 = .ok (.aload_n 0, 1) := by decide +kernel
theorem dX8_fares_1 : decode cX8_fares 1 = .ok (.getfield 25, 3) := by decide +kernel
theorem dX8_fares_4 : decode cX8_fares 4 = .ok (.invokevirtual 138, 3) := by decide +kernel
theorem dX8_fares_7 : decode cX8_fares 7 = .ok (.ireturn, 1) := by decide +kernel
theorem dX8_fare_0 : decode cX8_fare 0 = .ok (.aload_n 0, 1) := by decide +kernel
theorem dX8_fare_1 : decode cX8_fare 1 = .ok (.getfield 25, 3) := by decide +kernel
theorem dX8_fare_4 : decode cX8_fare 4 = .ok (.iload_n 1, 1) := by decide +kernel
theorem dX8_fare_5 : decode cX8_fare 5 = .ok (.invokevirtual 141, 3) := by decide +kernel
theorem dX8_fare_8 : decode cX8_fare 8 = .ok (.ireturn, 1) := by decide +kernel
theorem dX8_run_0 : decode cX8_run 0 = .ok (.iload_n 1, 1) := by decide +kernel
theorem dX8_run_1 : decode cX8_run 1 = .ok (.iconst 1, 1) := by decide +kernel
theorem dX8_run_2 : decode cX8_run 2 = .ok (.sipush 500, 3) := by decide +kernel
theorem dX8_run_5 : decode cX8_run 5 = .ok (.invokestatic 54, 3) := by decide +kernel
theorem dX8_run_8 : decode cX8_run 8 = .ok (.ifCond .eq 5, 3) := by decide +kernel
theorem dX8_run_11 : decode cX8_run 11 = .ok (.iconst (-1), 1) := by decide +kernel
theorem dX8_run_12 : decode cX8_run 12 = .ok (.ireturn, 1) := by decide +kernel
theorem dX8_run_13 : decode cX8_run 13 = .ok (.aload_n 0, 1) := by decide +kernel
theorem dX8_run_14 : decode cX8_run 14 = .ok (.getfield 47, 3) := by decide +kernel
theorem dX8_run_17 : decode cX8_run 17 = .ok (.iload_n 1, 1) := by decide +kernel
theorem dX8_run_18 : decode cX8_run 18 = .ok (.iadd, 1) := by decide +kernel
theorem dX8_run_19 : decode cX8_run 19 = .ok (.sipush 20000, 3) := by decide +kernel
theorem dX8_run_22 : decode cX8_run 22 = .ok (.if_icmp .le 6, 3) := by decide +kernel
theorem dX8_run_25 : decode cX8_run 25 = .ok (.bipush (-3), 2) := by decide +kernel
theorem dX8_run_27 : decode cX8_run 27 = .ok (.ireturn, 1) := by decide +kernel
theorem dX8_run_28 : decode cX8_run 28 = .ok (.iconst 0, 1) := by decide +kernel
theorem dX8_run_29 : decode cX8_run 29 = .ok (.istore_n 2, 1) := by decide +kernel
theorem dX8_run_30 : decode cX8_run 30 = .ok (.iload_n 2, 1) := by decide +kernel
theorem dX8_run_31 : decode cX8_run 31 = .ok (.iload_n 1, 1) := by decide +kernel
theorem dX8_run_32 : decode cX8_run 32 = .ok (.if_icmp .ge 13, 3) := by decide +kernel
theorem dX8_run_35 : decode cX8_run 35 = .ok (.aload_n 0, 1) := by decide +kernel
theorem dX8_run_36 : decode cX8_run 36 = .ok (.invokevirtual 145, 3) := by decide +kernel
theorem dX8_run_39 : decode cX8_run 39 = .ok (.iinc 2 1, 3) := by decide +kernel
theorem dX8_run_42 : decode cX8_run 42 = .ok (.goto (-12), 3) := by decide +kernel
theorem dX8_run_45 : decode cX8_run 45 = .ok (.aload_n 0, 1) := by decide +kernel
theorem dX8_run_46 : decode cX8_run 46 = .ok (.getfield 47, 3) := by decide +kernel
theorem dX8_run_49 : decode cX8_run 49 = .ok (.ireturn, 1) := by decide +kernel
theorem dX8_told_0 : decode cX8_told 0 = .ok (.aload_n 0, 1) := by decide +kernel
theorem dX8_told_1 : decode cX8_told 1 = .ok (.iload_n 1, 1) := by decide +kernel
theorem dX8_told_2 : decode cX8_told 2 = .ok (.invokevirtual 104, 3) := by decide +kernel
theorem dX8_told_5 : decode cX8_told 5 = .ok (.astore_n 3, 1) := by decide +kernel
theorem dX8_told_6 : decode cX8_told 6 = .ok (.aload_n 3, 1) := by decide +kernel
theorem dX8_told_7 : decode cX8_told 7 = .ok (.ifnonnull 5, 3) := by decide +kernel
theorem dX8_told_10 : decode cX8_told 10 = .ok (.iconst (-1), 1) := by decide +kernel
theorem dX8_told_11 : decode cX8_told 11 = .ok (.ireturn, 1) := by decide +kernel
theorem dX8_told_12 : decode cX8_told 12 = .ok (.iload_n 2, 1) := by decide +kernel
theorem dX8_told_13 : decode cX8_told 13 = .ok (.tableswitch 128 0 8 #[51, 56, 79, 84, 89, 97, 105, 114, 123], 51) := by decide +kernel
theorem dX8_told_64 : decode cX8_told 64 = .ok (.aload_n 3, 1) := by decide +kernel
theorem dX8_told_65 : decode cX8_told 65 = .ok (.getfield 116, 3) := by decide +kernel
theorem dX8_told_68 : decode cX8_told 68 = .ok (.ireturn, 1) := by decide +kernel
theorem dX8_told_69 : decode cX8_told 69 = .ok (.aload_n 3, 1) := by decide +kernel
theorem dX8_told_70 : decode cX8_told 70 = .ok (.getfield 116, 3) := by decide +kernel
theorem dX8_told_73 : decode cX8_told 73 = .ok (.ifCond .ne 14, 3) := by decide +kernel
theorem dX8_told_76 : decode cX8_told 76 = .ok (.aload_n 3, 1) := by decide +kernel
theorem dX8_told_77 : decode cX8_told 77 = .ok (.getfield 122, 3) := by decide +kernel
theorem dX8_told_80 : decode cX8_told 80 = .ok (.aload_n 3, 1) := by decide +kernel
theorem dX8_told_81 : decode cX8_told 81 = .ok (.invokevirtual 148, 3) := by decide +kernel
theorem dX8_told_84 : decode cX8_told 84 = .ok (.goto 7, 3) := by decide +kernel
theorem dX8_told_87 : decode cX8_told 87 = .ok (.aload_n 3, 1) := by decide +kernel
theorem dX8_told_88 : decode cX8_told 88 = .ok (.getfield 152, 3) := by decide +kernel
theorem dX8_told_91 : decode cX8_told 91 = .ok (.ireturn, 1) := by decide +kernel
theorem dX8_told_92 : decode cX8_told 92 = .ok (.aload_n 3, 1) := by decide +kernel
theorem dX8_told_93 : decode cX8_told 93 = .ok (.getfield 155, 3) := by decide +kernel
theorem dX8_told_96 : decode cX8_told 96 = .ok (.ireturn, 1) := by decide +kernel
theorem dX8_told_97 : decode cX8_told 97 = .ok (.aload_n 3, 1) := by decide +kernel
theorem dX8_told_98 : decode cX8_told 98 = .ok (.getfield 158, 3) := by decide +kernel
theorem dX8_told_101 : decode cX8_told 101 = .ok (.ireturn, 1) := by decide +kernel
theorem dX8_told_102 : decode cX8_told 102 = .ok (.aload_n 3, 1) := by decide +kernel
theorem dX8_told_103 : decode cX8_told 103 = .ok (.getfield 122, 3) := by decide +kernel
theorem dX8_told_106 : decode cX8_told 106 = .ok (.getfield 161, 3) := by decide +kernel
theorem dX8_told_109 : decode cX8_told 109 = .ok (.ireturn, 1) := by decide +kernel
theorem dX8_told_110 : decode cX8_told 110 = .ok (.aload_n 3, 1) := by decide +kernel
theorem dX8_told_111 : decode cX8_told 111 = .ok (.getfield 126, 3) := by decide +kernel
theorem dX8_told_114 : decode cX8_told 114 = .ok (.getfield 164, 3) := by decide +kernel
theorem dX8_told_117 : decode cX8_told 117 = .ok (.ireturn, 1) := by decide +kernel
theorem dX8_told_118 : decode cX8_told 118 = .ok (.aload_n 3, 1) := by decide +kernel
theorem dX8_told_119 : decode cX8_told 119 = .ok (.aload_n 3, 1) := by decide +kernel
theorem dX8_told_120 : decode cX8_told 120 = .ok (.getfield 126, 3) := by decide +kernel
theorem dX8_told_123 : decode cX8_told 123 = .ok (.invokevirtual 165, 3) := by decide +kernel
theorem dX8_told_126 : decode cX8_told 126 = .ok (.ireturn, 1) := by decide +kernel
theorem dX8_told_127 : decode cX8_told 127 = .ok (.aload_n 3, 1) := by decide +kernel
theorem dX8_told_128 : decode cX8_told 128 = .ok (.aload_n 3, 1) := by decide +kernel
theorem dX8_told_129 : decode cX8_told 129 = .ok (.getfield 126, 3) := by decide +kernel
theorem dX8_told_132 : decode cX8_told 132 = .ok (.invokevirtual 169, 3) := by decide +kernel
theorem dX8_told_135 : decode cX8_told 135 = .ok (.ireturn, 1) := by decide +kernel
theorem dX8_told_136 : decode cX8_told 136 = .ok (.aload_n 3, 1) := by decide +kernel
theorem dX8_told_137 : decode cX8_told 137 = .ok (.invokevirtual 172, 3) := by decide +kernel
theorem dX8_told_140 : decode cX8_told 140 = .ok (.ireturn, 1) := by decide +kernel
theorem dX8_told_141 : decode cX8_told 141 = .ok (.iconst (-1), 1) := by decide +kernel
theorem dX8_told_142 : decode cX8_told 142 = .ok (.ireturn, 1) := by decide +kernel
theorem dX8_water_0 : decode cX8_water 0 = .ok (.iload_n 2, 1) := by decide +kernel
theorem dX8_water_1 : decode cX8_water 1 = .ok (.ifCond .eq 8, 3) := by decide +kernel
theorem dX8_water_4 : decode cX8_water 4 = .ok (.iload_n 2, 1) := by decide +kernel
theorem dX8_water_5 : decode cX8_water 5 = .ok (.iconst 2, 1) := by decide +kernel
theorem dX8_water_6 : decode cX8_water 6 = .ok (.if_icmp .ne 31, 3) := by decide +kernel
theorem dX8_water_9 : decode cX8_water 9 = .ok (.aload_n 0, 1) := by decide +kernel
theorem dX8_water_10 : decode cX8_water 10 = .ok (.iload_n 1, 1) := by decide +kernel
theorem dX8_water_11 : decode cX8_water 11 = .ok (.invokevirtual 87, 3) := by decide +kernel
theorem dX8_water_14 : decode cX8_water 14 = .ok (.astore_n 3, 1) := by decide +kernel
theorem dX8_water_15 : decode cX8_water 15 = .ok (.aload_n 3, 1) := by decide +kernel
theorem dX8_water_16 : decode cX8_water 16 = .ok (.ifnonnull 5, 3) := by decide +kernel
theorem dX8_water_19 : decode cX8_water 19 = .ok (.iconst (-1), 1) := by decide +kernel
theorem dX8_water_20 : decode cX8_water 20 = .ok (.ireturn, 1) := by decide +kernel
theorem dX8_water_21 : decode cX8_water 21 = .ok (.iload_n 2, 1) := by decide +kernel
theorem dX8_water_22 : decode cX8_water 22 = .ok (.ifCond .ne 10, 3) := by decide +kernel
theorem dX8_water_25 : decode cX8_water 25 = .ok (.aload_n 3, 1) := by decide +kernel
theorem dX8_water_26 : decode cX8_water 26 = .ok (.getfield 175, 3) := by decide +kernel
theorem dX8_water_29 : decode cX8_water 29 = .ok (.goto 7, 3) := by decide +kernel
theorem dX8_water_32 : decode cX8_water 32 = .ok (.aload_n 3, 1) := by decide +kernel
theorem dX8_water_33 : decode cX8_water 33 = .ok (.getfield 178, 3) := by decide +kernel
theorem dX8_water_36 : decode cX8_water 36 = .ok (.ireturn, 1) := by decide +kernel
theorem dX8_water_37 : decode cX8_water 37 = .ok (.iload_n 2, 1) := by decide +kernel
theorem dX8_water_38 : decode cX8_water 38 = .ok (.iconst 1, 1) := by decide +kernel
theorem dX8_water_39 : decode cX8_water 39 = .ok (.if_icmp .eq 8, 3) := by decide +kernel
theorem dX8_water_42 : decode cX8_water 42 = .ok (.iload_n 2, 1) := by decide +kernel
theorem dX8_water_43 : decode cX8_water 43 = .ok (.iconst 3, 1) := by decide +kernel
theorem dX8_water_44 : decode cX8_water 44 = .ok (.if_icmp .ne 32, 3) := by decide +kernel
theorem dX8_water_47 : decode cX8_water 47 = .ok (.aload_n 0, 1) := by decide +kernel
theorem dX8_water_48 : decode cX8_water 48 = .ok (.iload_n 1, 1) := by decide +kernel
theorem dX8_water_49 : decode cX8_water 49 = .ok (.invokevirtual 80, 3) := by decide +kernel
theorem dX8_water_52 : decode cX8_water 52 = .ok (.astore_n 3, 1) := by decide +kernel
theorem dX8_water_53 : decode cX8_water 53 = .ok (.aload_n 3, 1) := by decide +kernel
theorem dX8_water_54 : decode cX8_water 54 = .ok (.ifnonnull 5, 3) := by decide +kernel
theorem dX8_water_57 : decode cX8_water 57 = .ok (.iconst (-1), 1) := by decide +kernel
theorem dX8_water_58 : decode cX8_water 58 = .ok (.ireturn, 1) := by decide +kernel
theorem dX8_water_59 : decode cX8_water 59 = .ok (.iload_n 2, 1) := by decide +kernel
theorem dX8_water_60 : decode cX8_water 60 = .ok (.iconst 1, 1) := by decide +kernel
theorem dX8_water_61 : decode cX8_water 61 = .ok (.if_icmp .ne 10, 3) := by decide +kernel
theorem dX8_water_64 : decode cX8_water 64 = .ok (.aload_n 3, 1) := by decide +kernel
theorem dX8_water_65 : decode cX8_water 65 = .ok (.getfield 181, 3) := by decide +kernel
theorem dX8_water_68 : decode cX8_water 68 = .ok (.goto 7, 3) := by decide +kernel
theorem dX8_water_71 : decode cX8_water 71 = .ok (.aload_n 3, 1) := by decide +kernel
theorem dX8_water_72 : decode cX8_water 72 = .ok (.getfield 182, 3) := by decide +kernel
theorem dX8_water_75 : decode cX8_water 75 = .ok (.ireturn, 1) := by decide +kernel
theorem dX8_water_76 : decode cX8_water 76 = .ok (.iconst (-1), 1) := by decide +kernel
theorem dX8_water_77 : decode cX8_water 77 = .ok (.ireturn, 1) := by decide +kernel
theorem dX8_sum_0 : decode cX8_sum 0 = .ok (.iload_n 1, 1) := by decide +kernel
theorem dX8_sum_1 : decode cX8_sum 1 = .ok (.bipush 7, 2) := by decide +kernel
theorem dX8_sum_3 : decode cX8_sum 3 = .ok (.if_icmp .ne 9, 3) := by decide +kernel
theorem dX8_sum_6 : decode cX8_sum 6 = .ok (.aload_n 0, 1) := by decide +kernel
theorem dX8_sum_7 : decode cX8_sum 7 = .ok (.getfield 47, 3) := by decide +kernel
theorem dX8_sum_10 : decode cX8_sum 10 = .ok (.i2l, 1) := by decide +kernel
theorem dX8_sum_11 : decode cX8_sum 11 = .ok (.lreturn, 1) := by decide +kernel
theorem dX8_sum_12 : decode cX8_sum 12 = .ok (.iload_n 1, 1) := by decide +kernel
theorem dX8_sum_13 : decode cX8_sum 13 = .ok (.ifCond .lt 12, 3) := by decide +kernel
theorem dX8_sum_16 : decode cX8_sum 16 = .ok (.iload_n 1, 1) := by decide +kernel
theorem dX8_sum_17 : decode cX8_sum 17 = .ok (.aload_n 0, 1) := by decide +kernel
theorem dX8_sum_18 : decode cX8_sum 18 = .ok (.getfield 43, 3) := by decide +kernel
theorem dX8_sum_21 : decode cX8_sum 21 = .ok (.arraylength, 1) := by decide +kernel
theorem dX8_sum_22 : decode cX8_sum 22 = .ok (.if_icmp .lt 7, 3) := by decide +kernel
theorem dX8_sum_25 : decode cX8_sum 25 = .ok (.ldc2_w 185, 3) := by decide +kernel
theorem dX8_sum_28 : decode cX8_sum 28 = .ok (.lreturn, 1) := by decide +kernel
theorem dX8_sum_29 : decode cX8_sum 29 = .ok (.aload_n 0, 1) := by decide +kernel
theorem dX8_sum_30 : decode cX8_sum 30 = .ok (.getfield 43, 3) := by decide +kernel
theorem dX8_sum_33 : decode cX8_sum 33 = .ok (.iload_n 1, 1) := by decide +kernel
theorem dX8_sum_34 : decode cX8_sum 34 = .ok (.laload, 1) := by decide +kernel
theorem dX8_sum_35 : decode cX8_sum 35 = .ok (.lreturn, 1) := by decide +kernel
theorem dX8_fire_0 : decode cX8_fire 0 = .ok (.aload_n 0, 1) := by decide +kernel
theorem dX8_fire_1 : decode cX8_fire 1 = .ok (.iload_n 1, 1) := by decide +kernel
theorem dX8_fire_2 : decode cX8_fire 2 = .ok (.invokevirtual 80, 3) := by decide +kernel
theorem dX8_fire_5 : decode cX8_fire 5 = .ok (.astore_n 3, 1) := by decide +kernel
theorem dX8_fire_6 : decode cX8_fire 6 = .ok (.aload_n 3, 1) := by decide +kernel
theorem dX8_fire_7 : decode cX8_fire 7 = .ok (.ifnull 13, 3) := by decide +kernel
theorem dX8_fire_10 : decode cX8_fire 10 = .ok (.iload_n 2, 1) := by decide +kernel
theorem dX8_fire_11 : decode cX8_fire 11 = .ok (.iconst 0, 1) := by decide +kernel
theorem dX8_fire_12 : decode cX8_fire 12 = .ok (.bipush 60, 2) := by decide +kernel
theorem dX8_fire_14 : decode cX8_fire 14 = .ok (.invokestatic 54, 3) := by decide +kernel
theorem dX8_fire_17 : decode cX8_fire 17 = .ok (.ifCond .eq 5, 3) := by decide +kernel
theorem dX8_fire_20 : decode cX8_fire 20 = .ok (.iconst (-1), 1) := by decide +kernel
theorem dX8_fire_21 : decode cX8_fire 21 = .ok (.ireturn, 1) := by decide +kernel
theorem dX8_fire_22 : decode cX8_fire 22 = .ok (.iconst 0, 1) := by decide +kernel
theorem dX8_fire_23 : decode cX8_fire 23 = .ok (.istore 4, 2) := by decide +kernel
theorem dX8_fire_25 : decode cX8_fire 25 = .ok (.iconst 0, 1) := by decide +kernel
theorem dX8_fire_26 : decode cX8_fire 26 = .ok (.istore 5, 2) := by decide +kernel
theorem dX8_fire_28 : decode cX8_fire 28 = .ok (.iload 5, 2) := by decide +kernel
theorem dX8_fire_30 : decode cX8_fire 30 = .ok (.aload_n 0, 1) := by decide +kernel
theorem dX8_fire_31 : decode cX8_fire 31 = .ok (.getfield 19, 3) := by decide +kernel
theorem dX8_fire_34 : decode cX8_fire 34 = .ok (.invokevirtual 62, 3) := by decide +kernel
theorem dX8_fire_37 : decode cX8_fire 37 = .ok (.if_icmp .ge 71, 3) := by decide +kernel
theorem dX8_fire_40 : decode cX8_fire 40 = .ok (.aload_n 0, 1) := by decide +kernel
theorem dX8_fire_41 : decode cX8_fire 41 = .ok (.getfield 19, 3) := by decide +kernel
theorem dX8_fire_44 : decode cX8_fire 44 = .ok (.iload 5, 2) := by decide +kernel
theorem dX8_fire_46 : decode cX8_fire 46 = .ok (.invokevirtual 187, 3) := by decide +kernel
theorem dX8_fire_49 : decode cX8_fire 49 = .ok (.checkcast 96, 3) := by decide +kernel
theorem dX8_fire_52 : decode cX8_fire 52 = .ok (.astore 6, 2) := by decide +kernel
theorem dX8_fire_54 : decode cX8_fire 54 = .ok (.aload 6, 2) := by decide +kernel
theorem dX8_fire_56 : decode cX8_fire 56 = .ok (.getfield 116, 3) := by decide +kernel
theorem dX8_fire_59 : decode cX8_fire 59 = .ok (.iconst 1, 1) := by decide +kernel
theorem dX8_fire_60 : decode cX8_fire 60 = .ok (.if_icmp .ne 42, 3) := by decide +kernel
theorem dX8_fire_63 : decode cX8_fire 63 = .ok (.aload 6, 2) := by decide +kernel
theorem dX8_fire_65 : decode cX8_fire 65 = .ok (.getfield 126, 3) := by decide +kernel
theorem dX8_fire_68 : decode cX8_fire 68 = .ok (.aload_n 3, 1) := by decide +kernel
theorem dX8_fire_69 : decode cX8_fire 69 = .ok (.if_acmp .ne 33, 3) := by decide +kernel
theorem dX8_fire_72 : decode cX8_fire 72 = .ok (.aload 6, 2) := by decide +kernel
theorem dX8_fire_74 : decode cX8_fire 74 = .ok (.getfield 152, 3) := by decide +kernel
theorem dX8_fire_77 : decode cX8_fire 77 = .ok (.iload_n 2, 1) := by decide +kernel
theorem dX8_fire_78 : decode cX8_fire 78 = .ok (.if_icmp .gt 24, 3) := by decide +kernel
theorem dX8_fire_81 : decode cX8_fire 81 = .ok (.iload 4, 2) := by decide +kernel
theorem dX8_fire_83 : decode cX8_fire 83 = .ok (.aload 6, 2) := by decide +kernel
theorem dX8_fire_85 : decode cX8_fire 85 = .ok (.getfield 155, 3) := by decide +kernel
theorem dX8_fire_88 : decode cX8_fire 88 = .ok (.iadd, 1) := by decide +kernel
theorem dX8_fire_89 : decode cX8_fire 89 = .ok (.istore 4, 2) := by decide +kernel
theorem dX8_fire_91 : decode cX8_fire 91 = .ok (.aload 6, 2) := by decide +kernel
theorem dX8_fire_93 : decode cX8_fire 93 = .ok (.iconst 0, 1) := by decide +kernel
theorem dX8_fire_94 : decode cX8_fire 94 = .ok (.putfield 155, 3) := by decide +kernel
theorem dX8_fire_97 : decode cX8_fire 97 = .ok (.aload 6, 2) := by decide +kernel
theorem dX8_fire_99 : decode cX8_fire 99 = .ok (.invokevirtual 191, 3) := by decide +kernel
theorem dX8_fire_102 : decode cX8_fire 102 = .ok (.iinc 5 1, 3) := by decide +kernel
theorem dX8_fire_105 : decode cX8_fire 105 = .ok (.goto (-77), 3) := by decide +kernel
theorem dX8_fire_108 : decode cX8_fire 108 = .ok (.aload_n 0, 1) := by decide +kernel
theorem dX8_fire_109 : decode cX8_fire 109 = .ok (.getfield 43, 3) := by decide +kernel
theorem dX8_fire_112 : decode cX8_fire 112 = .ok (.iconst 5, 1) := by decide +kernel
theorem dX8_fire_113 : decode cX8_fire 113 = .ok (.dup2, 1) := by decide +kernel
theorem dX8_fire_114 : decode cX8_fire 114 = .ok (.laload, 1) := by decide +kernel
theorem dX8_fire_115 : decode cX8_fire 115 = .ok (.iload 4, 2) := by decide +kernel
theorem dX8_fire_117 : decode cX8_fire 117 = .ok (.i2l, 1) := by decide +kernel
theorem dX8_fire_118 : decode cX8_fire 118 = .ok (.ladd, 1) := by decide +kernel
theorem dX8_fire_119 : decode cX8_fire 119 = .ok (.lastore, 1) := by decide +kernel
theorem dX8_fire_120 : decode cX8_fire 120 = .ok (.iload 4, 2) := by decide +kernel
theorem dX8_fire_122 : decode cX8_fire 122 = .ok (.ireturn, 1) := by decide +kernel
theorem dX8_poured_0 : decode cX8_poured 0 = .ok (.iload_n 1, 1) := by decide +kernel
theorem dX8_poured_1 : decode cX8_poured 1 = .ok (.ifCond .lt 12, 3) := by decide +kernel
theorem dX8_poured_4 : decode cX8_poured 4 = .ok (.iload_n 2, 1) := by decide +kernel
theorem dX8_poured_5 : decode cX8_poured 5 = .ok (.iconst 0, 1) := by decide +kernel
theorem dX8_poured_6 : decode cX8_poured 6 = .ok (.iconst 5, 1) := by decide +kernel
theorem dX8_poured_7 : decode cX8_poured 7 = .ok (.invokestatic 54, 3) := by decide +kernel
theorem dX8_poured_10 : decode cX8_poured 10 = .ok (.ifCond .eq 5, 3) := by decide +kernel
theorem dX8_poured_13 : decode cX8_poured 13 = .ok (.iconst (-1), 1) := by decide +kernel
theorem dX8_poured_14 : decode cX8_poured 14 = .ok (.ireturn, 1) := by decide +kernel
theorem dX8_poured_15 : decode cX8_poured 15 = .ok (.iload_n 1, 1) := by decide +kernel
theorem dX8_poured_16 : decode cX8_poured 16 = .ok (.aload_n 0, 1) := by decide +kernel
theorem dX8_poured_17 : decode cX8_poured 17 = .ok (.getfield 32, 3) := by decide +kernel
theorem dX8_poured_20 : decode cX8_poured 20 = .ok (.getfield 194, 3) := by decide +kernel
theorem dX8_poured_23 : decode cX8_poured 23 = .ok (.if_icmp .lt 6, 3) := by decide +kernel
theorem dX8_poured_26 : decode cX8_poured 26 = .ok (.bipush (-4), 2) := by decide +kernel
theorem dX8_poured_28 : decode cX8_poured 28 = .ok (.ireturn, 1) := by decide +kernel
theorem dX8_poured_29 : decode cX8_poured 29 = .ok (.aload_n 0, 1) := by decide +kernel
theorem dX8_poured_30 : decode cX8_poured 30 = .ok (.getfield 32, 3) := by decide +kernel
theorem dX8_poured_33 : decode cX8_poured 33 = .ok (.iload_n 1, 1) := by decide +kernel
theorem dX8_poured_34 : decode cX8_poured 34 = .ok (.iload_n 2, 1) := by decide +kernel
theorem dX8_poured_35 : decode cX8_poured 35 = .ok (.invokevirtual 197, 3) := by decide +kernel
theorem dX8_poured_38 : decode cX8_poured 38 = .ok (.ireturn, 1) := by decide +kernel
theorem dX8_foul_0 : decode cX8_foul 0 = .ok (.aload_n 0, 1) := by decide +kernel
theorem dX8_foul_1 : decode cX8_foul 1 = .ok (.iload_n 1, 1) := by decide +kernel
theorem dX8_foul_2 : decode cX8_foul 2 = .ok (.invokevirtual 87, 3) := by decide +kernel
theorem dX8_foul_5 : decode cX8_foul 5 = .ok (.ifnull 7, 3) := by decide +kernel
theorem dX8_foul_8 : decode cX8_foul 8 = .ok (.iload_n 2, 1) := by decide +kernel
theorem dX8_foul_9 : decode cX8_foul 9 = .ok (.ifCond .ge 5, 3) := by decide +kernel
theorem dX8_foul_12 : decode cX8_foul 12 = .ok (.iconst (-1), 1) := by decide +kernel
theorem dX8_foul_13 : decode cX8_foul 13 = .ok (.ireturn, 1) := by decide +kernel
theorem dX8_foul_14 : decode cX8_foul 14 = .ok (.aload_n 0, 1) := by decide +kernel
theorem dX8_foul_15 : decode cX8_foul 15 = .ok (.getfield 32, 3) := by decide +kernel
theorem dX8_foul_18 : decode cX8_foul 18 = .ok (.iload_n 1, 1) := by decide +kernel
theorem dX8_foul_19 : decode cX8_foul 19 = .ok (.iload_n 2, 1) := by decide +kernel
theorem dX8_foul_20 : decode cX8_foul 20 = .ok (.invokevirtual 201, 3) := by decide +kernel
theorem dX8_foul_23 : decode cX8_foul 23 = .ok (.ireturn, 1) := by decide +kernel
theorem dX8_give_0 : decode cX8_give 0 = .ok (.iload_n 3, 1) := by decide +kernel
theorem dX8_give_1 : decode cX8_give 1 = .ok (.iconst 1, 1) := by decide +kernel
theorem dX8_give_2 : decode cX8_give 2 = .ok (.bipush 6, 2) := by decide +kernel
theorem dX8_give_4 : decode cX8_give 4 = .ok (.invokestatic 54, 3) := by decide +kernel
theorem dX8_give_7 : decode cX8_give 7 = .ok (.ifCond .eq 5, 3) := by decide +kernel
theorem dX8_give_10 : decode cX8_give 10 = .ok (.iconst (-1), 1) := by decide +kernel
theorem dX8_give_11 : decode cX8_give 11 = .ok (.ireturn, 1) := by decide +kernel
theorem dX8_give_12 : decode cX8_give 12 = .ok (.iload_n 1, 1) := by decide +kernel
theorem dX8_give_13 : decode cX8_give 13 = .ok (.iconst 0, 1) := by decide +kernel
theorem dX8_give_14 : decode cX8_give 14 = .ok (.aload_n 0, 1) := by decide +kernel
theorem dX8_give_15 : decode cX8_give 15 = .ok (.getfield 19, 3) := by decide +kernel
theorem dX8_give_18 : decode cX8_give 18 = .ok (.invokevirtual 62, 3) := by decide +kernel
theorem dX8_give_21 : decode cX8_give 21 = .ok (.iload_n 3, 1) := by decide +kernel
theorem dX8_give_22 : decode cX8_give 22 = .ok (.isub, 1) := by decide +kernel
theorem dX8_give_23 : decode cX8_give 23 = .ok (.invokestatic 54, 3) := by decide +kernel
theorem dX8_give_26 : decode cX8_give 26 = .ok (.ifCond .ne 20, 3) := by decide +kernel
theorem dX8_give_29 : decode cX8_give 29 = .ok (.iload_n 2, 1) := by decide +kernel
theorem dX8_give_30 : decode cX8_give 30 = .ok (.iconst 0, 1) := by decide +kernel
theorem dX8_give_31 : decode cX8_give 31 = .ok (.aload_n 0, 1) := by decide +kernel
theorem dX8_give_32 : decode cX8_give 32 = .ok (.getfield 16, 3) := by decide +kernel
theorem dX8_give_35 : decode cX8_give 35 = .ok (.invokevirtual 62, 3) := by decide +kernel
theorem dX8_give_38 : decode cX8_give 38 = .ok (.iload_n 3, 1) := by decide +kernel
theorem dX8_give_39 : decode cX8_give 39 = .ok (.isub, 1) := by decide +kernel
theorem dX8_give_40 : decode cX8_give 40 = .ok (.invokestatic 54, 3) := by decide +kernel
theorem dX8_give_43 : decode cX8_give 43 = .ok (.ifCond .eq 5, 3) := by decide +kernel
theorem dX8_give_46 : decode cX8_give 46 = .ok (.iconst (-1), 1) := by decide +kernel
theorem dX8_give_47 : decode cX8_give 47 = .ok (.ireturn, 1) := by decide +kernel
theorem dX8_give_48 : decode cX8_give 48 = .ok (.iconst 0, 1) := by decide +kernel
theorem dX8_give_49 : decode cX8_give 49 = .ok (.istore 4, 2) := by decide +kernel
theorem dX8_give_51 : decode cX8_give 51 = .ok (.iload 4, 2) := by decide +kernel
theorem dX8_give_53 : decode cX8_give 53 = .ok (.iload_n 3, 1) := by decide +kernel
theorem dX8_give_54 : decode cX8_give 54 = .ok (.if_icmp .ge 66, 3) := by decide +kernel
theorem dX8_give_57 : decode cX8_give 57 = .ok (.iconst 0, 1) := by decide +kernel
theorem dX8_give_58 : decode cX8_give 58 = .ok (.istore 5, 2) := by decide +kernel
theorem dX8_give_60 : decode cX8_give 60 = .ok (.iload 5, 2) := by decide +kernel
theorem dX8_give_62 : decode cX8_give 62 = .ok (.iload_n 3, 1) := by decide +kernel
theorem dX8_give_63 : decode cX8_give 63 = .ok (.if_icmp .ge 51, 3) := by decide +kernel
theorem dX8_give_66 : decode cX8_give 66 = .ok (.aload_n 0, 1) := by decide +kernel
theorem dX8_give_67 : decode cX8_give 67 = .ok (.getfield 39, 3) := by decide +kernel
theorem dX8_give_70 : decode cX8_give 70 = .ok (.iload 4, 2) := by decide +kernel
theorem dX8_give_72 : decode cX8_give 72 = .ok (.iload 5, 2) := by decide +kernel
theorem dX8_give_74 : decode cX8_give 74 = .ok (.aload_n 0, 1) := by decide +kernel
theorem dX8_give_75 : decode cX8_give 75 = .ok (.getfield 19, 3) := by decide +kernel
theorem dX8_give_78 : decode cX8_give 78 = .ok (.iload_n 1, 1) := by decide +kernel
theorem dX8_give_79 : decode cX8_give 79 = .ok (.iload 4, 2) := by decide +kernel
theorem dX8_give_81 : decode cX8_give 81 = .ok (.iadd, 1) := by decide +kernel
theorem dX8_give_82 : decode cX8_give 82 = .ok (.invokevirtual 187, 3) := by decide +kernel
theorem dX8_give_85 : decode cX8_give 85 = .ok (.checkcast 96, 3) := by decide +kernel
theorem dX8_give_88 : decode cX8_give 88 = .ok (.aload_n 0, 1) := by decide +kernel
theorem dX8_give_89 : decode cX8_give 89 = .ok (.getfield 16, 3) := by decide +kernel
theorem dX8_give_92 : decode cX8_give 92 = .ok (.iload_n 2, 1) := by decide +kernel
theorem dX8_give_93 : decode cX8_give 93 = .ok (.iload 5, 2) := by decide +kernel
theorem dX8_give_95 : decode cX8_give 95 = .ok (.iadd, 1) := by decide +kernel
theorem dX8_give_96 : decode cX8_give 96 = .ok (.invokevirtual 187, 3) := by decide +kernel
theorem dX8_give_99 : decode cX8_give 99 = .ok (.checkcast 75, 3) := by decide +kernel
theorem dX8_give_102 : decode cX8_give 102 = .ok (.invokevirtual 204, 3) := by decide +kernel
theorem dX8_give_105 : decode cX8_give 105 = .ok (.invokevirtual 207, 3) := by decide +kernel
theorem dX8_give_108 : decode cX8_give 108 = .ok (.iinc 5 1, 3) := by decide +kernel
theorem dX8_give_111 : decode cX8_give 111 = .ok (.goto (-51), 3) := by decide +kernel
theorem dX8_give_114 : decode cX8_give 114 = .ok (.iinc 4 1, 3) := by decide +kernel
theorem dX8_give_117 : decode cX8_give 117 = .ok (.goto (-66), 3) := by decide +kernel
theorem dX8_give_120 : decode cX8_give 120 = .ok (.aload_n 0, 1) := by decide +kernel
theorem dX8_give_121 : decode cX8_give 121 = .ok (.getfield 39, 3) := by decide +kernel
theorem dX8_give_124 : decode cX8_give 124 = .ok (.iload_n 3, 1) := by decide +kernel
theorem dX8_give_125 : decode cX8_give 125 = .ok (.invokevirtual 211, 3) := by decide +kernel
theorem dX8_give_128 : decode cX8_give 128 = .ok (.istore 4, 2) := by decide +kernel
theorem dX8_give_130 : decode cX8_give 130 = .ok (.iload 4, 2) := by decide +kernel
theorem dX8_give_132 : decode cX8_give 132 = .ok (.iconst (-1), 1) := by decide +kernel
theorem dX8_give_133 : decode cX8_give 133 = .ok (.if_icmp .ne 6, 3) := by decide +kernel
theorem dX8_give_136 : decode cX8_give 136 = .ok (.bipush (-4), 2) := by decide +kernel
theorem dX8_give_138 : decode cX8_give 138 = .ok (.ireturn, 1) := by decide +kernel
theorem dX8_give_139 : decode cX8_give 139 = .ok (.aload_n 0, 1) := by decide +kernel
theorem dX8_give_140 : decode cX8_give 140 = .ok (.getfield 39, 3) := by decide +kernel
theorem dX8_give_143 : decode cX8_give 143 = .ok (.iload_n 1, 1) := by decide +kernel
theorem dX8_give_144 : decode cX8_give 144 = .ok (.iload_n 2, 1) := by decide +kernel
theorem dX8_give_145 : decode cX8_give 145 = .ok (.iload_n 3, 1) := by decide +kernel
theorem dX8_give_146 : decode cX8_give 146 = .ok (.invokevirtual 214, 3) := by decide +kernel
theorem dX8_give_149 : decode cX8_give 149 = .ok (.iload 4, 2) := by decide +kernel
theorem dX8_give_151 : decode cX8_give 151 = .ok (.ireturn, 1) := by decide +kernel
theorem dX8_given_0 : decode cX8_given 0 = .ok (.aload_n 0, 1) := by decide +kernel
theorem dX8_given_1 : decode cX8_given 1 = .ok (.iload_n 1, 1) := by decide +kernel
theorem dX8_given_2 : decode cX8_given 2 = .ok (.invokevirtual 104, 3) := by decide +kernel
theorem dX8_given_5 : decode cX8_given 5 = .ok (.ifnonnull 5, 3) := by decide +kernel
theorem dX8_given_8 : decode cX8_given 8 = .ok (.iconst (-1), 1) := by decide +kernel
theorem dX8_given_9 : decode cX8_given 9 = .ok (.ireturn, 1) := by decide +kernel
theorem dX8_given_10 : decode cX8_given 10 = .ok (.aload_n 0, 1) := by decide +kernel
theorem dX8_given_11 : decode cX8_given 11 = .ok (.getfield 39, 3) := by decide +kernel
theorem dX8_given_14 : decode cX8_given 14 = .ok (.iload_n 1, 1) := by decide +kernel
theorem dX8_given_15 : decode cX8_given 15 = .ok (.invokevirtual 217, 3) := by decide +kernel
theorem dX8_given_18 : decode cX8_given 18 = .ok (.ireturn, 1) := by decide +kernel
theorem dX8_count_0 : decode cX8_count 0 = .ok (.iload_n 1, 1) := by decide +kernel
theorem dX8_count_1 : decode cX8_count 1 = .ok (.tableswitch 93 0 6 #[43, 51, 59, 67, 73, 79, 85], 43) := by decide +kernel
theorem dX8_count_44 : decode cX8_count 44 = .ok (.aload_n 0, 1) := by decide +kernel
theorem dX8_count_45 : decode cX8_count 45 = .ok (.getfield 10, 3) := by decide +kernel
theorem dX8_count_48 : decode cX8_count 48 = .ok (.invokevirtual 62, 3) := by decide +kernel
theorem dX8_count_51 : decode cX8_count 51 = .ok (.ireturn, 1) := by decide +kernel
theorem dX8_count_52 : decode cX8_count 52 = .ok (.aload_n 0, 1) := by decide +kernel
theorem dX8_count_53 : decode cX8_count 53 = .ok (.getfield 16, 3) := by decide +kernel
theorem dX8_count_56 : decode cX8_count 56 = .ok (.invokevirtual 62, 3) := by decide +kernel
theorem dX8_count_59 : decode cX8_count 59 = .ok (.ireturn, 1) := by decide +kernel
theorem dX8_count_60 : decode cX8_count 60 = .ok (.aload_n 0, 1) := by decide +kernel
theorem dX8_count_61 : decode cX8_count 61 = .ok (.getfield 19, 3) := by decide +kernel
theorem dX8_count_64 : decode cX8_count 64 = .ok (.invokevirtual 62, 3) := by decide +kernel
theorem dX8_count_67 : decode cX8_count 67 = .ok (.ireturn, 1) := by decide +kernel
theorem dX8_count_68 : decode cX8_count 68 = .ok (.aload_n 0, 1) := by decide +kernel
theorem dX8_count_69 : decode cX8_count 69 = .ok (.iconst 0, 1) := by decide +kernel
theorem dX8_count_70 : decode cX8_count 70 = .ok (.invokevirtual 220, 3) := by decide +kernel
theorem dX8_count_73 : decode cX8_count 73 = .ok (.ireturn, 1) := by decide +kernel
theorem dX8_count_74 : decode cX8_count 74 = .ok (.aload_n 0, 1) := by decide +kernel
theorem dX8_count_75 : decode cX8_count 75 = .ok (.iconst 1, 1) := by decide +kernel
theorem dX8_count_76 : decode cX8_count 76 = .ok (.invokevirtual 220, 3) := by decide +kernel
theorem dX8_count_79 : decode cX8_count 79 = .ok (.ireturn, 1) := by decide +kernel
theorem dX8_count_80 : decode cX8_count 80 = .ok (.aload_n 0, 1) := by decide +kernel
theorem dX8_count_81 : decode cX8_count 81 = .ok (.iconst 2, 1) := by decide +kernel
theorem dX8_count_82 : decode cX8_count 82 = .ok (.invokevirtual 220, 3) := by decide +kernel
theorem dX8_count_85 : decode cX8_count 85 = .ok (.ireturn, 1) := by decide +kernel
theorem dX8_count_86 : decode cX8_count 86 = .ok (.aload_n 0, 1) := by decide +kernel
theorem dX8_count_87 : decode cX8_count 87 = .ok (.getfield 32, 3) := by decide +kernel
theorem dX8_count_90 : decode cX8_count 90 = .ok (.getfield 194, 3) := by decide +kernel
theorem dX8_count_93 : decode cX8_count 93 = .ok (.ireturn, 1) := by decide +kernel
theorem dX8_count_94 : decode cX8_count 94 = .ok (.iconst (-1), 1) := by decide +kernel
theorem dX8_count_95 : decode cX8_count 95 = .ok (.ireturn, 1) := by decide +kernel
theorem dX8_outside_0 : decode cX8_outside 0 = .ok (.iload_n 0, 1) := by decide +kernel
theorem dX8_outside_1 : decode cX8_outside 1 = .ok (.iload_n 1, 1) := by decide +kernel
theorem dX8_outside_2 : decode cX8_outside 2 = .ok (.if_icmp .lt 8, 3) := by decide +kernel
theorem dX8_outside_5 : decode cX8_outside 5 = .ok (.iload_n 0, 1) := by decide +kernel
theorem dX8_outside_6 : decode cX8_outside 6 = .ok (.iload_n 2, 1) := by decide +kernel
theorem dX8_outside_7 : decode cX8_outside 7 = .ok (.if_icmp .le 7, 3) := by decide +kernel
theorem dX8_outside_10 : decode cX8_outside 10 = .ok (.iconst 1, 1) := by decide +kernel
theorem dX8_outside_11 : decode cX8_outside 11 = .ok (.goto 4, 3) := by decide +kernel
theorem dX8_outside_14 : decode cX8_outside 14 = .ok (.iconst 0, 1) := by decide +kernel
theorem dX8_outside_15 : decode cX8_outside 15 = .ok (.ireturn, 1) := by decide +kernel
theorem dX8_cutUp_0 : decode cX8_cutUp 0 = .ok (.iload_n 1, 1) := by decide +kernel
theorem dX8_cutUp_1 : decode cX8_cutUp 1 = .ok (.iconst 1, 1) := by decide +kernel
theorem dX8_cutUp_2 : decode cX8_cutUp 2 = .ok (.if_icmp .ge 7, 3) := by decide +kernel
theorem dX8_cutUp_5 : decode cX8_cutUp 5 = .ok (.iload_n 0, 1) := by decide +kernel
theorem dX8_cutUp_6 : decode cX8_cutUp 6 = .ok (.goto 10, 3) := by decide +kernel
theorem dX8_cutUp_9 : decode cX8_cutUp 9 = .ok (.iload_n 0, 1) := by decide +kernel
theorem dX8_cutUp_10 : decode cX8_cutUp 10 = .ok (.iload_n 1, 1) := by decide +kernel
theorem dX8_cutUp_11 : decode cX8_cutUp 11 = .ok (.iadd, 1) := by decide +kernel
theorem dX8_cutUp_12 : decode cX8_cutUp 12 = .ok (.iconst 1, 1) := by decide +kernel
theorem dX8_cutUp_13 : decode cX8_cutUp 13 = .ok (.isub, 1) := by decide +kernel
theorem dX8_cutUp_14 : decode cX8_cutUp 14 = .ok (.iload_n 1, 1) := by decide +kernel
theorem dX8_cutUp_15 : decode cX8_cutUp 15 = .ok (.idiv, 1) := by decide +kernel
theorem dX8_cutUp_16 : decode cX8_cutUp 16 = .ok (.ireturn, 1) := by decide +kernel
theorem dX8_fountainAt_0 : decode cX8_fountainAt 0 = .ok (.iload_n 1, 1) := by decide +kernel
theorem dX8_fountainAt_1 : decode cX8_fountainAt 1 = .ok (.ifCond .lt 14, 3) := by decide +kernel
theorem dX8_fountainAt_4 : decode cX8_fountainAt 4 = .ok (.iload_n 1, 1) := by decide +kernel
theorem dX8_fountainAt_5 : decode cX8_fountainAt 5 = .ok (.aload_n 0, 1) := by decide +kernel
theorem dX8_fountainAt_6 : decode cX8_fountainAt 6 = .ok (.getfield 10, 3) := by decide +kernel
theorem dX8_fountainAt_9 : decode cX8_fountainAt 9 = .ok (.invokevirtual 62, 3) := by decide +kernel
theorem dX8_fountainAt_12 : decode cX8_fountainAt 12 = .ok (.if_icmp .lt 7, 3) := by decide +kernel
theorem dX8_fountainAt_15 : decode cX8_fountainAt 15 = .ok (.aconst_null, 1) := by decide +kernel
theorem dX8_fountainAt_16 : decode cX8_fountainAt 16 = .ok (.goto 14, 3) := by decide +kernel
theorem dX8_fountainAt_19 : decode cX8_fountainAt 19 = .ok (.aload_n 0, 1) := by decide +kernel
theorem dX8_fountainAt_20 : decode cX8_fountainAt 20 = .ok (.getfield 10, 3) := by decide +kernel
theorem dX8_fountainAt_23 : decode cX8_fountainAt 23 = .ok (.iload_n 1, 1) := by decide +kernel
theorem dX8_fountainAt_24 : decode cX8_fountainAt 24 = .ok (.invokevirtual 187, 3) := by decide +kernel
theorem dX8_fountainAt_27 : decode cX8_fountainAt 27 = .ok (.checkcast 66, 3) := by decide +kernel
theorem dX8_fountainAt_30 : decode cX8_fountainAt 30 = .ok (.areturn, 1) := by decide +kernel
theorem dX8_jarAt_0 : decode cX8_jarAt 0 = .ok (.iload_n 1, 1) := by decide +kernel
theorem dX8_jarAt_1 : decode cX8_jarAt 1 = .ok (.ifCond .lt 14, 3) := by decide +kernel
theorem dX8_jarAt_4 : decode cX8_jarAt 4 = .ok (.iload_n 1, 1) := by decide +kernel
theorem dX8_jarAt_5 : decode cX8_jarAt 5 = .ok (.aload_n 0, 1) := by decide +kernel
theorem dX8_jarAt_6 : decode cX8_jarAt 6 = .ok (.getfield 16, 3) := by decide +kernel
theorem dX8_jarAt_9 : decode cX8_jarAt 9 = .ok (.invokevirtual 62, 3) := by decide +kernel
theorem dX8_jarAt_12 : decode cX8_jarAt 12 = .ok (.if_icmp .lt 7, 3) := by decide +kernel
theorem dX8_jarAt_15 : decode cX8_jarAt 15 = .ok (.aconst_null, 1) := by decide +kernel
theorem dX8_jarAt_16 : decode cX8_jarAt 16 = .ok (.goto 14, 3) := by decide +kernel
theorem dX8_jarAt_19 : decode cX8_jarAt 19 = .ok (.aload_n 0, 1) := by decide +kernel
theorem dX8_jarAt_20 : decode cX8_jarAt 20 = .ok (.getfield 16, 3) := by decide +kernel
theorem dX8_jarAt_23 : decode cX8_jarAt 23 = .ok (.iload_n 1, 1) := by decide +kernel
theorem dX8_jarAt_24 : decode cX8_jarAt 24 = .ok (.invokevirtual 187, 3) := by decide +kernel
theorem dX8_jarAt_27 : decode cX8_jarAt 27 = .ok (.checkcast 75, 3) := by decide +kernel
theorem dX8_jarAt_30 : decode cX8_jarAt 30 = .ok (.areturn, 1) := by decide +kernel
theorem dX8_manAt_0 : decode cX8_manAt 0 = .ok (.iload_n 1, 1) := by decide +kernel
theorem dX8_manAt_1 : decode cX8_manAt 1 = .ok (.ifCond .lt 14, 3) := by decide +kernel
theorem dX8_manAt_4 : decode cX8_manAt 4 = .ok (.iload_n 1, 1) := by decide +kernel
theorem dX8_manAt_5 : decode cX8_manAt 5 = .ok (.aload_n 0, 1) := by decide +kernel
theorem dX8_manAt_6 : decode cX8_manAt 6 = .ok (.getfield 19, 3) := by decide +kernel
theorem dX8_manAt_9 : decode cX8_manAt 9 = .ok (.invokevirtual 62, 3) := by decide +kernel
theorem dX8_manAt_12 : decode cX8_manAt 12 = .ok (.if_icmp .lt 7, 3) := by decide +kernel
theorem dX8_manAt_15 : decode cX8_manAt 15 = .ok (.aconst_null, 1) := by decide +kernel
theorem dX8_manAt_16 : decode cX8_manAt 16 = .ok (.goto 14, 3) := by decide +kernel
theorem dX8_manAt_19 : decode cX8_manAt 19 = .ok (.aload_n 0, 1) := by decide +kernel
theorem dX8_manAt_20 : decode cX8_manAt 20 = .ok (.getfield 19, 3) := by decide +kernel
theorem dX8_manAt_23 : decode cX8_manAt 23 = .ok (.iload_n 1, 1) := by decide +kernel
theorem dX8_manAt_24 : decode cX8_manAt 24 = .ok (.invokevirtual 187, 3) := by decide +kernel
theorem dX8_manAt_27 : decode cX8_manAt 27 = .ok (.checkcast 96, 3) := by decide +kernel
theorem dX8_manAt_30 : decode cX8_manAt 30 = .ok (.areturn, 1) := by decide +kernel
theorem dX8_newMan_0 : decode cX8_newMan 0 = .ok (.iload_n 0, 1) := by decide +kernel
theorem dX8_newMan_1 : decode cX8_newMan 1 = .ok (.iconst 2, 1) := by decide +kernel
theorem dX8_newMan_2 : decode cX8_newMan 2 = .ok (.if_icmp .ne 16, 3) := by decide +kernel
theorem dX8_newMan_5 : decode cX8_newMan 5 = .ok (.new 111, 3) := by decide +kernel
theorem dX8_newMan_8 : decode cX8_newMan 8 = .ok (.dup, 1) := by decide +kernel
theorem dX8_newMan_9 : decode cX8_newMan 9 = .ok (.iload_n 1, 1) := by decide +kernel
theorem dX8_newMan_10 : decode cX8_newMan 10 = .ok (.iload_n 2, 1) := by decide +kernel
theorem dX8_newMan_11 : decode cX8_newMan 11 = .ok (.aload_n 3, 1) := by decide +kernel
theorem dX8_newMan_12 : decode cX8_newMan 12 = .ok (.aload 4, 2) := by decide +kernel
theorem dX8_newMan_14 : decode cX8_newMan 14 = .ok (.invokespecial 223, 3) := by decide +kernel
theorem dX8_newMan_17 : decode cX8_newMan 17 = .ok (.areturn, 1) := by decide +kernel
theorem dX8_newMan_18 : decode cX8_newMan 18 = .ok (.iload_n 0, 1) := by decide +kernel
theorem dX8_newMan_19 : decode cX8_newMan 19 = .ok (.iconst 1, 1) := by decide +kernel
theorem dX8_newMan_20 : decode cX8_newMan 20 = .ok (.if_icmp .ne 16, 3) := by decide +kernel
theorem dX8_newMan_23 : decode cX8_newMan 23 = .ok (.new 226, 3) := by decide +kernel
theorem dX8_newMan_26 : decode cX8_newMan 26 = .ok (.dup, 1) := by decide +kernel
theorem dX8_newMan_27 : decode cX8_newMan 27 = .ok (.iload_n 1, 1) := by decide +kernel
theorem dX8_newMan_28 : decode cX8_newMan 28 = .ok (.iload_n 2, 1) := by decide +kernel
theorem dX8_newMan_29 : decode cX8_newMan 29 = .ok (.aload_n 3, 1) := by decide +kernel
theorem dX8_newMan_30 : decode cX8_newMan 30 = .ok (.aload 4, 2) := by decide +kernel
theorem dX8_newMan_32 : decode cX8_newMan 32 = .ok (.invokespecial 228, 3) := by decide +kernel
theorem dX8_newMan_35 : decode cX8_newMan 35 = .ok (.areturn, 1) := by decide +kernel
theorem dX8_newMan_36 : decode cX8_newMan 36 = .ok (.new 96, 3) := by decide +kernel
theorem dX8_newMan_39 : decode cX8_newMan 39 = .ok (.dup, 1) := by decide +kernel
theorem dX8_newMan_40 : decode cX8_newMan 40 = .ok (.iload_n 1, 1) := by decide +kernel
theorem dX8_newMan_41 : decode cX8_newMan 41 = .ok (.iload_n 2, 1) := by decide +kernel
theorem dX8_newMan_42 : decode cX8_newMan 42 = .ok (.aload_n 3, 1) := by decide +kernel
theorem dX8_newMan_43 : decode cX8_newMan 43 = .ok (.aload 4, 2) := by decide +kernel
theorem dX8_newMan_45 : decode cX8_newMan 45 = .ok (.invokespecial 229, 3) := by decide +kernel
theorem dX8_newMan_48 : decode cX8_newMan 48 = .ok (.areturn, 1) := by decide +kernel
theorem dX8_countDoing_0 : decode cX8_countDoing 0 = .ok (.iconst 0, 1) := by decide +kernel
theorem dX8_countDoing_1 : decode cX8_countDoing 1 = .ok (.istore_n 2, 1) := by decide +kernel
theorem dX8_countDoing_2 : decode cX8_countDoing 2 = .ok (.iconst 0, 1) := by decide +kernel
theorem dX8_countDoing_3 : decode cX8_countDoing 3 = .ok (.istore_n 3, 1) := by decide +kernel
theorem dX8_countDoing_4 : decode cX8_countDoing 4 = .ok (.iload_n 3, 1) := by decide +kernel
theorem dX8_countDoing_5 : decode cX8_countDoing 5 = .ok (.aload_n 0, 1) := by decide +kernel
theorem dX8_countDoing_6 : decode cX8_countDoing 6 = .ok (.getfield 19, 3) := by decide +kernel
theorem dX8_countDoing_9 : decode cX8_countDoing 9 = .ok (.invokevirtual 62, 3) := by decide +kernel
theorem dX8_countDoing_12 : decode cX8_countDoing 12 = .ok (.if_icmp .ge 30, 3) := by decide +kernel
theorem dX8_countDoing_15 : decode cX8_countDoing 15 = .ok (.aload_n 0, 1) := by decide +kernel
theorem dX8_countDoing_16 : decode cX8_countDoing 16 = .ok (.getfield 19, 3) := by decide +kernel
theorem dX8_countDoing_19 : decode cX8_countDoing 19 = .ok (.iload_n 3, 1) := by decide +kernel
theorem dX8_countDoing_20 : decode cX8_countDoing 20 = .ok (.invokevirtual 187, 3) := by decide +kernel
theorem dX8_countDoing_23 : decode cX8_countDoing 23 = .ok (.checkcast 96, 3) := by decide +kernel
theorem dX8_countDoing_26 : decode cX8_countDoing 26 = .ok (.getfield 116, 3) := by decide +kernel
theorem dX8_countDoing_29 : decode cX8_countDoing 29 = .ok (.iload_n 1, 1) := by decide +kernel
theorem dX8_countDoing_30 : decode cX8_countDoing 30 = .ok (.if_icmp .ne 6, 3) := by decide +kernel
theorem dX8_countDoing_33 : decode cX8_countDoing 33 = .ok (.iinc 2 1, 3) := by decide +kernel
theorem dX8_countDoing_36 : decode cX8_countDoing 36 = .ok (.iinc 3 1, 3) := by decide +kernel
theorem dX8_countDoing_39 : decode cX8_countDoing 39 = .ok (.goto (-35), 3) := by decide +kernel
theorem dX8_countDoing_42 : decode cX8_countDoing 42 = .ok (.iload_n 2, 1) := by decide +kernel
theorem dX8_countDoing_43 : decode cX8_countDoing 43 = .ok (.ireturn, 1) := by decide +kernel
theorem dX8_passMinute_0 : decode cX8_passMinute 0 = .ok (.iconst 0, 1) := by decide +kernel
theorem dX8_passMinute_1 : decode cX8_passMinute 1 = .ok (.istore_n 1, 1) := by decide +kernel
theorem dX8_passMinute_2 : decode cX8_passMinute 2 = .ok (.iload_n 1, 1) := by decide +kernel
theorem dX8_passMinute_3 : decode cX8_passMinute 3 = .ok (.aload_n 0, 1) := by decide +kernel
theorem dX8_passMinute_4 : decode cX8_passMinute 4 = .ok (.getfield 10, 3) := by decide +kernel
theorem dX8_passMinute_7 : decode cX8_passMinute 7 = .ok (.invokevirtual 62, 3) := by decide +kernel
theorem dX8_passMinute_10 : decode cX8_passMinute 10 = .ok (.if_icmp .ge 24, 3) := by decide +kernel
theorem dX8_passMinute_13 : decode cX8_passMinute 13 = .ok (.aload_n 0, 1) := by decide +kernel
theorem dX8_passMinute_14 : decode cX8_passMinute 14 = .ok (.aload_n 0, 1) := by decide +kernel
theorem dX8_passMinute_15 : decode cX8_passMinute 15 = .ok (.getfield 10, 3) := by decide +kernel
theorem dX8_passMinute_18 : decode cX8_passMinute 18 = .ok (.iload_n 1, 1) := by decide +kernel
theorem dX8_passMinute_19 : decode cX8_passMinute 19 = .ok (.invokevirtual 187, 3) := by decide +kernel
theorem dX8_passMinute_22 : decode cX8_passMinute 22 = .ok (.checkcast 66, 3) := by decide +kernel
theorem dX8_passMinute_25 : decode cX8_passMinute 25 = .ok (.invokevirtual 230, 3) := by decide +kernel
theorem dX8_passMinute_28 : decode cX8_passMinute 28 = .ok (.iinc 1 1, 3) := by decide +kernel
theorem dX8_passMinute_31 : decode cX8_passMinute 31 = .ok (.goto (-29), 3) := by decide +kernel
theorem dX8_passMinute_34 : decode cX8_passMinute 34 = .ok (.iconst 0, 1) := by decide +kernel
theorem dX8_passMinute_35 : decode cX8_passMinute 35 = .ok (.istore_n 1, 1) := by decide +kernel
theorem dX8_passMinute_36 : decode cX8_passMinute 36 = .ok (.iload_n 1, 1) := by decide +kernel
theorem dX8_passMinute_37 : decode cX8_passMinute 37 = .ok (.aload_n 0, 1) := by decide +kernel
theorem dX8_passMinute_38 : decode cX8_passMinute 38 = .ok (.getfield 10, 3) := by decide +kernel
theorem dX8_passMinute_41 : decode cX8_passMinute 41 = .ok (.invokevirtual 62, 3) := by decide +kernel
theorem dX8_passMinute_44 : decode cX8_passMinute 44 = .ok (.if_icmp .ge 24, 3) := by decide +kernel
theorem dX8_passMinute_47 : decode cX8_passMinute 47 = .ok (.aload_n 0, 1) := by decide +kernel
theorem dX8_passMinute_48 : decode cX8_passMinute 48 = .ok (.aload_n 0, 1) := by decide +kernel
theorem dX8_passMinute_49 : decode cX8_passMinute 49 = .ok (.getfield 10, 3) := by decide +kernel
theorem dX8_passMinute_52 : decode cX8_passMinute 52 = .ok (.iload_n 1, 1) := by decide +kernel
theorem dX8_passMinute_53 : decode cX8_passMinute 53 = .ok (.invokevirtual 187, 3) := by decide +kernel
theorem dX8_passMinute_56 : decode cX8_passMinute 56 = .ok (.checkcast 66, 3) := by decide +kernel
theorem dX8_passMinute_59 : decode cX8_passMinute 59 = .ok (.invokevirtual 234, 3) := by decide +kernel
theorem dX8_passMinute_62 : decode cX8_passMinute 62 = .ok (.iinc 1 1, 3) := by decide +kernel
theorem dX8_passMinute_65 : decode cX8_passMinute 65 = .ok (.goto (-29), 3) := by decide +kernel
theorem dX8_passMinute_68 : decode cX8_passMinute 68 = .ok (.iconst 0, 1) := by decide +kernel
theorem dX8_passMinute_69 : decode cX8_passMinute 69 = .ok (.istore_n 1, 1) := by decide +kernel
theorem dX8_passMinute_70 : decode cX8_passMinute 70 = .ok (.iload_n 1, 1) := by decide +kernel
theorem dX8_passMinute_71 : decode cX8_passMinute 71 = .ok (.aload_n 0, 1) := by decide +kernel
theorem dX8_passMinute_72 : decode cX8_passMinute 72 = .ok (.getfield 19, 3) := by decide +kernel
theorem dX8_passMinute_75 : decode cX8_passMinute 75 = .ok (.invokevirtual 62, 3) := by decide +kernel
theorem dX8_passMinute_78 : decode cX8_passMinute 78 = .ok (.if_icmp .ge 24, 3) := by decide +kernel
theorem dX8_passMinute_81 : decode cX8_passMinute 81 = .ok (.aload_n 0, 1) := by decide +kernel
theorem dX8_passMinute_82 : decode cX8_passMinute 82 = .ok (.aload_n 0, 1) := by decide +kernel
theorem dX8_passMinute_83 : decode cX8_passMinute 83 = .ok (.getfield 19, 3) := by decide +kernel
theorem dX8_passMinute_86 : decode cX8_passMinute 86 = .ok (.iload_n 1, 1) := by decide +kernel
theorem dX8_passMinute_87 : decode cX8_passMinute 87 = .ok (.invokevirtual 187, 3) := by decide +kernel
theorem dX8_passMinute_90 : decode cX8_passMinute 90 = .ok (.checkcast 96, 3) := by decide +kernel
theorem dX8_passMinute_93 : decode cX8_passMinute 93 = .ok (.invokevirtual 237, 3) := by decide +kernel
theorem dX8_passMinute_96 : decode cX8_passMinute 96 = .ok (.iinc 1 1, 3) := by decide +kernel
theorem dX8_passMinute_99 : decode cX8_passMinute 99 = .ok (.goto (-29), 3) := by decide +kernel
theorem dX8_passMinute_102 : decode cX8_passMinute 102 = .ok (.iconst 0, 1) := by decide +kernel
theorem dX8_passMinute_103 : decode cX8_passMinute 103 = .ok (.istore_n 1, 1) := by decide +kernel
theorem dX8_passMinute_104 : decode cX8_passMinute 104 = .ok (.iload_n 1, 1) := by decide +kernel
theorem dX8_passMinute_105 : decode cX8_passMinute 105 = .ok (.aload_n 0, 1) := by decide +kernel
theorem dX8_passMinute_106 : decode cX8_passMinute 106 = .ok (.getfield 16, 3) := by decide +kernel
theorem dX8_passMinute_109 : decode cX8_passMinute 109 = .ok (.invokevirtual 62, 3) := by decide +kernel
theorem dX8_passMinute_112 : decode cX8_passMinute 112 = .ok (.if_icmp .ge 33, 3) := by decide +kernel
theorem dX8_passMinute_115 : decode cX8_passMinute 115 = .ok (.aload_n 0, 1) := by decide +kernel
theorem dX8_passMinute_116 : decode cX8_passMinute 116 = .ok (.getfield 43, 3) := by decide +kernel
theorem dX8_passMinute_119 : decode cX8_passMinute 119 = .ok (.iconst 4, 1) := by decide +kernel
theorem dX8_passMinute_120 : decode cX8_passMinute 120 = .ok (.dup2, 1) := by decide +kernel
theorem dX8_passMinute_121 : decode cX8_passMinute 121 = .ok (.laload, 1) := by decide +kernel
theorem dX8_passMinute_122 : decode cX8_passMinute 122 = .ok (.aload_n 0, 1) := by decide +kernel
theorem dX8_passMinute_123 : decode cX8_passMinute 123 = .ok (.getfield 16, 3) := by decide +kernel
theorem dX8_passMinute_126 : decode cX8_passMinute 126 = .ok (.iload_n 1, 1) := by decide +kernel
theorem dX8_passMinute_127 : decode cX8_passMinute 127 = .ok (.invokevirtual 187, 3) := by decide +kernel
theorem dX8_passMinute_130 : decode cX8_passMinute 130 = .ok (.checkcast 75, 3) := by decide +kernel
theorem dX8_passMinute_133 : decode cX8_passMinute 133 = .ok (.invokevirtual 241, 3) := by decide +kernel
theorem dX8_passMinute_136 : decode cX8_passMinute 136 = .ok (.i2l, 1) := by decide +kernel
theorem dX8_passMinute_137 : decode cX8_passMinute 137 = .ok (.ladd, 1) := by decide +kernel
theorem dX8_passMinute_138 : decode cX8_passMinute 138 = .ok (.lastore, 1) := by decide +kernel
theorem dX8_passMinute_139 : decode cX8_passMinute 139 = .ok (.iinc 1 1, 3) := by decide +kernel
theorem dX8_passMinute_142 : decode cX8_passMinute 142 = .ok (.goto (-38), 3) := by decide +kernel
theorem dX8_passMinute_145 : decode cX8_passMinute 145 = .ok (.aload_n 0, 1) := by decide +kernel
theorem dX8_passMinute_146 : decode cX8_passMinute 146 = .ok (.dup, 1) := by decide +kernel
theorem dX8_passMinute_147 : decode cX8_passMinute 147 = .ok (.getfield 47, 3) := by decide +kernel
theorem dX8_passMinute_150 : decode cX8_passMinute 150 = .ok (.iconst 1, 1) := by decide +kernel
theorem dX8_passMinute_151 : decode cX8_passMinute 151 = .ok (.iadd, 1) := by decide +kernel
theorem dX8_passMinute_152 : decode cX8_passMinute 152 = .ok (.putfield 47, 3) := by decide +kernel
theorem dX8_passMinute_155 : decode cX8_passMinute 155 = .ok (.return_, 1) := by decide +kernel
theorem dX8_letFlow_0 : decode cX8_letFlow 0 = .ok (.aload_n 1, 1) := by decide +kernel
theorem dX8_letFlow_1 : decode cX8_letFlow 1 = .ok (.getfield 130, 3) := by decide +kernel
theorem dX8_letFlow_4 : decode cX8_letFlow 4 = .ok (.ifCond .ne 4, 3) := by decide +kernel
theorem dX8_letFlow_7 : decode cX8_letFlow 7 = .ok (.return_, 1) := by decide +kernel
theorem dX8_letFlow_8 : decode cX8_letFlow 8 = .ok (.aload_n 1, 1) := by decide +kernel
theorem dX8_letFlow_9 : decode cX8_letFlow 9 = .ok (.getfield 244, 3) := by decide +kernel
theorem dX8_letFlow_12 : decode cX8_letFlow 12 = .ok (.aload_n 0, 1) := by decide +kernel
theorem dX8_letFlow_13 : decode cX8_letFlow 13 = .ok (.getfield 51, 3) := by decide +kernel
theorem dX8_letFlow_16 : decode cX8_letFlow 16 = .ok (.imul, 1) := by decide +kernel
theorem dX8_letFlow_17 : decode cX8_letFlow 17 = .ok (.bipush 100, 2) := by decide +kernel
theorem dX8_letFlow_19 : decode cX8_letFlow 19 = .ok (.idiv, 1) := by decide +kernel
theorem dX8_letFlow_20 : decode cX8_letFlow 20 = .ok (.istore_n 2, 1) := by decide +kernel
theorem dX8_letFlow_21 : decode cX8_letFlow 21 = .ok (.iconst 0, 1) := by decide +kernel
theorem dX8_letFlow_22 : decode cX8_letFlow 22 = .ok (.aload_n 1, 1) := by decide +kernel
theorem dX8_letFlow_23 : decode cX8_letFlow 23 = .ok (.getfield 175, 3) := by decide +kernel
theorem dX8_letFlow_26 : decode cX8_letFlow 26 = .ok (.iload_n 2, 1) := by decide +kernel
theorem dX8_letFlow_27 : decode cX8_letFlow 27 = .ok (.iadd, 1) := by decide +kernel
theorem dX8_letFlow_28 : decode cX8_letFlow 28 = .ok (.sipush 300, 3) := by decide +kernel
theorem dX8_letFlow_31 : decode cX8_letFlow 31 = .ok (.isub, 1) := by decide +kernel
theorem dX8_letFlow_32 : decode cX8_letFlow 32 = .ok (.invokestatic 247, 3) := by decide +kernel
theorem dX8_letFlow_35 : decode cX8_letFlow 35 = .ok (.istore_n 3, 1) := by decide +kernel
theorem dX8_letFlow_36 : decode cX8_letFlow 36 = .ok (.aload_n 1, 1) := by decide +kernel
theorem dX8_letFlow_37 : decode cX8_letFlow 37 = .ok (.dup, 1) := by decide +kernel
theorem dX8_letFlow_38 : decode cX8_letFlow 38 = .ok (.getfield 175, 3) := by decide +kernel
theorem dX8_letFlow_41 : decode cX8_letFlow 41 = .ok (.iload_n 2, 1) := by decide +kernel
theorem dX8_letFlow_42 : decode cX8_letFlow 42 = .ok (.iload_n 3, 1) := by decide +kernel
theorem dX8_letFlow_43 : decode cX8_letFlow 43 = .ok (.isub, 1) := by decide +kernel
theorem dX8_letFlow_44 : decode cX8_letFlow 44 = .ok (.iadd, 1) := by decide +kernel
theorem dX8_letFlow_45 : decode cX8_letFlow 45 = .ok (.putfield 175, 3) := by decide +kernel
theorem dX8_letFlow_48 : decode cX8_letFlow 48 = .ok (.aload_n 1, 1) := by decide +kernel
theorem dX8_letFlow_49 : decode cX8_letFlow 49 = .ok (.dup, 1) := by decide +kernel
theorem dX8_letFlow_50 : decode cX8_letFlow 50 = .ok (.getfield 178, 3) := by decide +kernel
theorem dX8_letFlow_53 : decode cX8_letFlow 53 = .ok (.iload_n 3, 1) := by decide +kernel
theorem dX8_letFlow_54 : decode cX8_letFlow 54 = .ok (.iadd, 1) := by decide +kernel
theorem dX8_letFlow_55 : decode cX8_letFlow 55 = .ok (.putfield 178, 3) := by decide +kernel
theorem dX8_letFlow_58 : decode cX8_letFlow 58 = .ok (.aload_n 0, 1) := by decide +kernel
theorem dX8_letFlow_59 : decode cX8_letFlow 59 = .ok (.getfield 43, 3) := by decide +kernel
theorem dX8_letFlow_62 : decode cX8_letFlow 62 = .ok (.iconst 0, 1) := by decide +kernel
theorem dX8_letFlow_63 : decode cX8_letFlow 63 = .ok (.dup2, 1) := by decide +kernel
theorem dX8_letFlow_64 : decode cX8_letFlow 64 = .ok (.laload, 1) := by decide +kernel
theorem dX8_letFlow_65 : decode cX8_letFlow 65 = .ok (.iload_n 2, 1) := by decide +kernel
theorem dX8_letFlow_66 : decode cX8_letFlow 66 = .ok (.i2l, 1) := by decide +kernel
theorem dX8_letFlow_67 : decode cX8_letFlow 67 = .ok (.ladd, 1) := by decide +kernel
theorem dX8_letFlow_68 : decode cX8_letFlow 68 = .ok (.lastore, 1) := by decide +kernel
theorem dX8_letFlow_69 : decode cX8_letFlow 69 = .ok (.aload_n 0, 1) := by decide +kernel
theorem dX8_letFlow_70 : decode cX8_letFlow 70 = .ok (.getfield 43, 3) := by decide +kernel
theorem dX8_letFlow_73 : decode cX8_letFlow 73 = .ok (.iconst 1, 1) := by decide +kernel
theorem dX8_letFlow_74 : decode cX8_letFlow 74 = .ok (.dup2, 1) := by decide +kernel
theorem dX8_letFlow_75 : decode cX8_letFlow 75 = .ok (.laload, 1) := by decide +kernel
theorem dX8_letFlow_76 : decode cX8_letFlow 76 = .ok (.iload_n 3, 1) := by decide +kernel
theorem dX8_letFlow_77 : decode cX8_letFlow 77 = .ok (.i2l, 1) := by decide +kernel
theorem dX8_letFlow_78 : decode cX8_letFlow 78 = .ok (.ladd, 1) := by decide +kernel
theorem dX8_letFlow_79 : decode cX8_letFlow 79 = .ok (.lastore, 1) := by decide +kernel
theorem dX8_letFlow_80 : decode cX8_letFlow 80 = .ok (.return_, 1) := by decide +kernel
theorem dX8_fillNext_0 : decode cX8_fillNext 0 = .ok (.aload_n 1, 1) := by decide +kernel
theorem dX8_fillNext_1 : decode cX8_fillNext 1 = .ok (.getfield 130, 3) := by decide +kernel
theorem dX8_fillNext_4 : decode cX8_fillNext 4 = .ok (.ifCond .eq 10, 3) := by decide +kernel
theorem dX8_fillNext_7 : decode cX8_fillNext 7 = .ok (.aload_n 1, 1) := by decide +kernel
theorem dX8_fillNext_8 : decode cX8_fillNext 8 = .ok (.invokevirtual 252, 3) := by decide +kernel
theorem dX8_fillNext_11 : decode cX8_fillNext 11 = .ok (.goto 4, 3) := by decide +kernel
theorem dX8_fillNext_14 : decode cX8_fillNext 14 = .ok (.aconst_null, 1) := by decide +kernel
theorem dX8_fillNext_15 : decode cX8_fillNext 15 = .ok (.astore_n 2, 1) := by decide +kernel
theorem dX8_fillNext_16 : decode cX8_fillNext 16 = .ok (.aload_n 2, 1) := by decide +kernel
theorem dX8_fillNext_17 : decode cX8_fillNext 17 = .ok (.ifnonnull 4, 3) := by decide +kernel
theorem dX8_fillNext_20 : decode cX8_fillNext 20 = .ok (.return_, 1) := by decide +kernel
theorem dX8_fillNext_21 : decode cX8_fillNext 21 = .ok (.bipush 10, 2) := by decide +kernel
theorem dX8_fillNext_23 : decode cX8_fillNext 23 = .ok (.aload_n 1, 1) := by decide +kernel
theorem dX8_fillNext_24 : decode cX8_fillNext 24 = .ok (.getfield 175, 3) := by decide +kernel
theorem dX8_fillNext_27 : decode cX8_fillNext 27 = .ok (.aload_n 2, 1) := by decide +kernel
theorem dX8_fillNext_28 : decode cX8_fillNext 28 = .ok (.getfield 256, 3) := by decide +kernel
theorem dX8_fillNext_31 : decode cX8_fillNext 31 = .ok (.aload_n 2, 1) := by decide +kernel
theorem dX8_fillNext_32 : decode cX8_fillNext 32 = .ok (.getfield 155, 3) := by decide +kernel
theorem dX8_fillNext_35 : decode cX8_fillNext 35 = .ok (.isub, 1) := by decide +kernel
theorem dX8_fillNext_36 : decode cX8_fillNext 36 = .ok (.invokestatic 259, 3) := by decide +kernel
theorem dX8_fillNext_39 : decode cX8_fillNext 39 = .ok (.invokestatic 259, 3) := by decide +kernel
theorem dX8_fillNext_42 : decode cX8_fillNext 42 = .ok (.istore_n 3, 1) := by decide +kernel
theorem dX8_fillNext_43 : decode cX8_fillNext 43 = .ok (.aload_n 1, 1) := by decide +kernel
theorem dX8_fillNext_44 : decode cX8_fillNext 44 = .ok (.dup, 1) := by decide +kernel
theorem dX8_fillNext_45 : decode cX8_fillNext 45 = .ok (.getfield 175, 3) := by decide +kernel
theorem dX8_fillNext_48 : decode cX8_fillNext 48 = .ok (.iload_n 3, 1) := by decide +kernel
theorem dX8_fillNext_49 : decode cX8_fillNext 49 = .ok (.isub, 1) := by decide +kernel
theorem dX8_fillNext_50 : decode cX8_fillNext 50 = .ok (.putfield 175, 3) := by decide +kernel
theorem dX8_fillNext_53 : decode cX8_fillNext 53 = .ok (.aload_n 2, 1) := by decide +kernel
theorem dX8_fillNext_54 : decode cX8_fillNext 54 = .ok (.dup, 1) := by decide +kernel
theorem dX8_fillNext_55 : decode cX8_fillNext 55 = .ok (.getfield 155, 3) := by decide +kernel
theorem dX8_fillNext_58 : decode cX8_fillNext 58 = .ok (.iload_n 3, 1) := by decide +kernel
theorem dX8_fillNext_59 : decode cX8_fillNext 59 = .ok (.iadd, 1) := by decide +kernel
theorem dX8_fillNext_60 : decode cX8_fillNext 60 = .ok (.putfield 155, 3) := by decide +kernel
theorem dX8_fillNext_63 : decode cX8_fillNext 63 = .ok (.aload_n 0, 1) := by decide +kernel
theorem dX8_fillNext_64 : decode cX8_fillNext 64 = .ok (.getfield 43, 3) := by decide +kernel
theorem dX8_fillNext_67 : decode cX8_fillNext 67 = .ok (.iconst 2, 1) := by decide +kernel
theorem dX8_fillNext_68 : decode cX8_fillNext 68 = .ok (.dup2, 1) := by decide +kernel
theorem dX8_fillNext_69 : decode cX8_fillNext 69 = .ok (.laload, 1) := by decide +kernel
theorem dX8_fillNext_70 : decode cX8_fillNext 70 = .ok (.iload_n 3, 1) := by decide +kernel
theorem dX8_fillNext_71 : decode cX8_fillNext 71 = .ok (.i2l, 1) := by decide +kernel
theorem dX8_fillNext_72 : decode cX8_fillNext 72 = .ok (.ladd, 1) := by decide +kernel
theorem dX8_fillNext_73 : decode cX8_fillNext 73 = .ok (.lastore, 1) := by decide +kernel
theorem dX8_fillNext_74 : decode cX8_fillNext 74 = .ok (.iload_n 3, 1) := by decide +kernel
theorem dX8_fillNext_75 : decode cX8_fillNext 75 = .ok (.ifCond .le 19, 3) := by decide +kernel
theorem dX8_fillNext_78 : decode cX8_fillNext 78 = .ok (.aload_n 2, 1) := by decide +kernel
theorem dX8_fillNext_79 : decode cX8_fillNext 79 = .ok (.aload_n 1, 1) := by decide +kernel
theorem dX8_fillNext_80 : decode cX8_fillNext 80 = .ok (.getfield 161, 3) := by decide +kernel
theorem dX8_fillNext_83 : decode cX8_fillNext 83 = .ok (.putfield 262, 3) := by decide +kernel
theorem dX8_fillNext_86 : decode cX8_fillNext 86 = .ok (.aload_n 2, 1) := by decide +kernel
theorem dX8_fillNext_87 : decode cX8_fillNext 87 = .ok (.aload_n 0, 1) := by decide +kernel
theorem dX8_fillNext_88 : decode cX8_fillNext 88 = .ok (.getfield 47, 3) := by decide +kernel
theorem dX8_fillNext_91 : decode cX8_fillNext 91 = .ok (.putfield 265, 3) := by decide +kernel
theorem dX8_fillNext_94 : decode cX8_fillNext 94 = .ok (.aload_n 2, 1) := by decide +kernel
theorem dX8_fillNext_95 : decode cX8_fillNext 95 = .ok (.getfield 155, 3) := by decide +kernel
theorem dX8_fillNext_98 : decode cX8_fillNext 98 = .ok (.aload_n 2, 1) := by decide +kernel
theorem dX8_fillNext_99 : decode cX8_fillNext 99 = .ok (.getfield 256, 3) := by decide +kernel
theorem dX8_fillNext_102 : decode cX8_fillNext 102 = .ok (.if_icmp .lt 15, 3) := by decide +kernel
theorem dX8_fillNext_105 : decode cX8_fillNext 105 = .ok (.aload_n 2, 1) := by decide +kernel
theorem dX8_fillNext_106 : decode cX8_fillNext 106 = .ok (.invokevirtual 119, 3) := by decide +kernel
theorem dX8_fillNext_109 : decode cX8_fillNext 109 = .ok (.aload_n 2, 1) := by decide +kernel
theorem dX8_fillNext_110 : decode cX8_fillNext 110 = .ok (.aload_n 0, 1) := by decide +kernel
theorem dX8_fillNext_111 : decode cX8_fillNext 111 = .ok (.getfield 47, 3) := by decide +kernel
theorem dX8_fillNext_114 : decode cX8_fillNext 114 = .ok (.invokevirtual 268, 3) := by decide +kernel
theorem dX8_fillNext_117 : decode cX8_fillNext 117 = .ok (.return_, 1) := by decide +kernel
theorem dX8_walk_0 : decode cX8_walk 0 = .ok (.aload_n 1, 1) := by decide +kernel
theorem dX8_walk_1 : decode cX8_walk 1 = .ok (.getfield 116, 3) := by decide +kernel
theorem dX8_walk_4 : decode cX8_walk 4 = .ok (.ifCond .eq 14, 3) := by decide +kernel
theorem dX8_walk_7 : decode cX8_walk 7 = .ok (.aload_n 1, 1) := by decide +kernel
theorem dX8_walk_8 : decode cX8_walk 8 = .ok (.getfield 272, 3) := by decide +kernel
theorem dX8_walk_11 : decode cX8_walk 11 = .ok (.aload_n 0, 1) := by decide +kernel
theorem dX8_walk_12 : decode cX8_walk 12 = .ok (.getfield 47, 3) := by decide +kernel
theorem dX8_walk_15 : decode cX8_walk 15 = .ok (.if_icmp .ne 4, 3) := by decide +kernel
theorem dX8_walk_18 : decode cX8_walk 18 = .ok (.return_, 1) := by decide +kernel
theorem dX8_walk_19 : decode cX8_walk 19 = .ok (.aload_n 1, 1) := by decide +kernel
theorem dX8_walk_20 : decode cX8_walk 20 = .ok (.dup, 1) := by decide +kernel
theorem dX8_walk_21 : decode cX8_walk 21 = .ok (.getfield 152, 3) := by decide +kernel
theorem dX8_walk_24 : decode cX8_walk 24 = .ok (.iconst 1, 1) := by decide +kernel
theorem dX8_walk_25 : decode cX8_walk 25 = .ok (.isub, 1) := by decide +kernel
theorem dX8_walk_26 : decode cX8_walk 26 = .ok (.putfield 152, 3) := by decide +kernel
theorem dX8_walk_29 : decode cX8_walk 29 = .ok (.aload_n 1, 1) := by decide +kernel
theorem dX8_walk_30 : decode cX8_walk 30 = .ok (.getfield 152, 3) := by decide +kernel
theorem dX8_walk_33 : decode cX8_walk 33 = .ok (.ifCond .le 4, 3) := by decide +kernel
theorem dX8_walk_36 : decode cX8_walk 36 = .ok (.return_, 1) := by decide +kernel
theorem dX8_walk_37 : decode cX8_walk 37 = .ok (.aload_n 1, 1) := by decide +kernel
theorem dX8_walk_38 : decode cX8_walk 38 = .ok (.getfield 116, 3) := by decide +kernel
theorem dX8_walk_41 : decode cX8_walk 41 = .ok (.iconst 1, 1) := by decide +kernel
theorem dX8_walk_42 : decode cX8_walk 42 = .ok (.if_icmp .ne 15, 3) := by decide +kernel
theorem dX8_walk_45 : decode cX8_walk 45 = .ok (.aload_n 0, 1) := by decide +kernel
theorem dX8_walk_46 : decode cX8_walk 46 = .ok (.aload_n 1, 1) := by decide +kernel
theorem dX8_walk_47 : decode cX8_walk 47 = .ok (.invokevirtual 275, 3) := by decide +kernel
theorem dX8_walk_50 : decode cX8_walk 50 = .ok (.aload_n 1, 1) := by decide +kernel
theorem dX8_walk_51 : decode cX8_walk 51 = .ok (.invokevirtual 191, 3) := by decide +kernel
theorem dX8_walk_54 : decode cX8_walk 54 = .ok (.goto 7, 3) := by decide +kernel
theorem dX8_walk_57 : decode cX8_walk 57 = .ok (.aload_n 1, 1) := by decide +kernel
theorem dX8_walk_58 : decode cX8_walk 58 = .ok (.invokevirtual 101, 3) := by decide +kernel
theorem dX8_walk_61 : decode cX8_walk 61 = .ok (.return_, 1) := by decide +kernel
theorem dX8_pour_0 : decode cX8_pour 0 = .ok (.aload_n 1, 1) := by decide +kernel
theorem dX8_pour_1 : decode cX8_pour 1 = .ok (.getfield 126, 3) := by decide +kernel
theorem dX8_pour_4 : decode cX8_pour 4 = .ok (.astore_n 2, 1) := by decide +kernel
theorem dX8_pour_5 : decode cX8_pour 5 = .ok (.aload_n 1, 1) := by decide +kernel
theorem dX8_pour_6 : decode cX8_pour 6 = .ok (.getfield 155, 3) := by decide +kernel
theorem dX8_pour_9 : decode cX8_pour 9 = .ok (.aload_n 2, 1) := by decide +kernel
theorem dX8_pour_10 : decode cX8_pour 10 = .ok (.getfield 278, 3) := by decide +kernel
theorem dX8_pour_13 : decode cX8_pour 13 = .ok (.aload_n 2, 1) := by decide +kernel
theorem dX8_pour_14 : decode cX8_pour 14 = .ok (.getfield 181, 3) := by decide +kernel
theorem dX8_pour_17 : decode cX8_pour 17 = .ok (.isub, 1) := by decide +kernel
theorem dX8_pour_18 : decode cX8_pour 18 = .ok (.invokestatic 259, 3) := by decide +kernel
theorem dX8_pour_21 : decode cX8_pour 21 = .ok (.istore_n 3, 1) := by decide +kernel
theorem dX8_pour_22 : decode cX8_pour 22 = .ok (.iload_n 3, 1) := by decide +kernel
theorem dX8_pour_23 : decode cX8_pour 23 = .ok (.ifCond .gt 4, 3) := by decide +kernel
theorem dX8_pour_26 : decode cX8_pour 26 = .ok (.return_, 1) := by decide +kernel
theorem dX8_pour_27 : decode cX8_pour 27 = .ok (.iload_n 3, 1) := by decide +kernel
theorem dX8_pour_28 : decode cX8_pour 28 = .ok (.aload_n 0, 1) := by decide +kernel
theorem dX8_pour_29 : decode cX8_pour 29 = .ok (.getfield 25, 3) := by decide +kernel
theorem dX8_pour_32 : decode cX8_pour 32 = .ok (.aload_n 2, 1) := by decide +kernel
theorem dX8_pour_33 : decode cX8_pour 33 = .ok (.getfield 281, 3) := by decide +kernel
theorem dX8_pour_36 : decode cX8_pour 36 = .ok (.invokevirtual 141, 3) := by decide +kernel
theorem dX8_pour_39 : decode cX8_pour 39 = .ok (.imul, 1) := by decide +kernel
theorem dX8_pour_40 : decode cX8_pour 40 = .ok (.istore 4, 2) := by decide +kernel
theorem dX8_pour_42 : decode cX8_pour 42 = .ok (.aload_n 2, 1) := by decide +kernel
theorem dX8_pour_43 : decode cX8_pour 43 = .ok (.dup, 1) := by decide +kernel
theorem dX8_pour_44 : decode cX8_pour 44 = .ok (.getfield 181, 3) := by decide +kernel
theorem dX8_pour_47 : decode cX8_pour 47 = .ok (.iload_n 3, 1) := by decide +kernel
theorem dX8_pour_48 : decode cX8_pour 48 = .ok (.iadd, 1) := by decide +kernel
theorem dX8_pour_49 : decode cX8_pour 49 = .ok (.putfield 181, 3) := by decide +kernel
theorem dX8_pour_52 : decode cX8_pour 52 = .ok (.aload_n 1, 1) := by decide +kernel
theorem dX8_pour_53 : decode cX8_pour 53 = .ok (.dup, 1) := by decide +kernel
theorem dX8_pour_54 : decode cX8_pour 54 = .ok (.getfield 155, 3) := by decide +kernel
theorem dX8_pour_57 : decode cX8_pour 57 = .ok (.iload_n 3, 1) := by decide +kernel
theorem dX8_pour_58 : decode cX8_pour 58 = .ok (.isub, 1) := by decide +kernel
theorem dX8_pour_59 : decode cX8_pour 59 = .ok (.putfield 155, 3) := by decide +kernel
theorem dX8_pour_62 : decode cX8_pour 62 = .ok (.aload_n 1, 1) := by decide +kernel
theorem dX8_pour_63 : decode cX8_pour 63 = .ok (.dup, 1) := by decide +kernel
theorem dX8_pour_64 : decode cX8_pour 64 = .ok (.getfield 158, 3) := by decide +kernel
theorem dX8_pour_67 : decode cX8_pour 67 = .ok (.iload 4, 2) := by decide +kernel
theorem dX8_pour_69 : decode cX8_pour 69 = .ok (.iadd, 1) := by decide +kernel
theorem dX8_pour_70 : decode cX8_pour 70 = .ok (.putfield 158, 3) := by decide +kernel
theorem dX8_pour_73 : decode cX8_pour 73 = .ok (.aload_n 0, 1) := by decide +kernel
theorem dX8_pour_74 : decode cX8_pour 74 = .ok (.getfield 43, 3) := by decide +kernel
theorem dX8_pour_77 : decode cX8_pour 77 = .ok (.iconst 3, 1) := by decide +kernel
theorem dX8_pour_78 : decode cX8_pour 78 = .ok (.dup2, 1) := by decide +kernel
theorem dX8_pour_79 : decode cX8_pour 79 = .ok (.laload, 1) := by decide +kernel
theorem dX8_pour_80 : decode cX8_pour 80 = .ok (.iload_n 3, 1) := by decide +kernel
theorem dX8_pour_81 : decode cX8_pour 81 = .ok (.i2l, 1) := by decide +kernel
theorem dX8_pour_82 : decode cX8_pour 82 = .ok (.ladd, 1) := by decide +kernel
theorem dX8_pour_83 : decode cX8_pour 83 = .ok (.lastore, 1) := by decide +kernel
theorem dX8_pour_84 : decode cX8_pour 84 = .ok (.aload_n 0, 1) := by decide +kernel
theorem dX8_pour_85 : decode cX8_pour 85 = .ok (.getfield 43, 3) := by decide +kernel
theorem dX8_pour_88 : decode cX8_pour 88 = .ok (.bipush 6, 2) := by decide +kernel
theorem dX8_pour_90 : decode cX8_pour 90 = .ok (.dup2, 1) := by decide +kernel
theorem dX8_pour_91 : decode cX8_pour 91 = .ok (.laload, 1) := by decide +kernel
theorem dX8_pour_92 : decode cX8_pour 92 = .ok (.iload 4, 2) := by decide +kernel
theorem dX8_pour_94 : decode cX8_pour 94 = .ok (.i2l, 1) := by decide +kernel
theorem dX8_pour_95 : decode cX8_pour 95 = .ok (.ladd, 1) := by decide +kernel
theorem dX8_pour_96 : decode cX8_pour 96 = .ok (.lastore, 1) := by decide +kernel
theorem dX8_pour_97 : decode cX8_pour 97 = .ok (.aload_n 0, 1) := by decide +kernel
theorem dX8_pour_98 : decode cX8_pour 98 = .ok (.getfield 32, 3) := by decide +kernel
theorem dX8_pour_101 : decode cX8_pour 101 = .ok (.aload_n 1, 1) := by decide +kernel
theorem dX8_pour_102 : decode cX8_pour 102 = .ok (.iload_n 3, 1) := by decide +kernel
theorem dX8_pour_103 : decode cX8_pour 103 = .ok (.aload_n 0, 1) := by decide +kernel
theorem dX8_pour_104 : decode cX8_pour 104 = .ok (.getfield 47, 3) := by decide +kernel
theorem dX8_pour_107 : decode cX8_pour 107 = .ok (.invokevirtual 284, 3) := by decide +kernel
theorem dX8_pour_110 : decode cX8_pour 110 = .ok (.return_, 1) := by decide +kernel
theorem dJ6_bitCount_0f7a4_0 : decode cJ6_bitCount_0f7a4 0 = .ok (.iload_n 0, 1) := by decide +kernel
theorem dJ6_bitCount_0f7a4_1 : decode cJ6_bitCount_0f7a4 1 = .ok (.iload_n 0, 1) := by decide +kernel
theorem dJ6_bitCount_0f7a4_2 : decode cJ6_bitCount_0f7a4 2 = .ok (.iconst 1, 1) := by decide +kernel
theorem dJ6_bitCount_0f7a4_3 : decode cJ6_bitCount_0f7a4 3 = .ok (.iushr, 1) := by decide +kernel
theorem dJ6_bitCount_0f7a4_4 : decode cJ6_bitCount_0f7a4 4 = .ok (.ldc_w 265, 3) := by decide +kernel
theorem dJ6_bitCount_0f7a4_7 : decode cJ6_bitCount_0f7a4 7 = .ok (.iand, 1) := by decide +kernel
theorem dJ6_bitCount_0f7a4_8 : decode cJ6_bitCount_0f7a4 8 = .ok (.isub, 1) := by decide +kernel
theorem dJ6_bitCount_0f7a4_9 : decode cJ6_bitCount_0f7a4 9 = .ok (.istore_n 0, 1) := by decide +kernel
theorem dJ6_bitCount_0f7a4_10 : decode cJ6_bitCount_0f7a4 10 = .ok (.iload_n 0, 1) := by decide +kernel
theorem dJ6_bitCount_0f7a4_11 : decode cJ6_bitCount_0f7a4 11 = .ok (.ldc_w 266, 3) := by decide +kernel
theorem dJ6_bitCount_0f7a4_14 : decode cJ6_bitCount_0f7a4 14 = .ok (.iand, 1) := by decide +kernel
theorem dJ6_bitCount_0f7a4_15 : decode cJ6_bitCount_0f7a4 15 = .ok (.iload_n 0, 1) := by decide +kernel
theorem dJ6_bitCount_0f7a4_16 : decode cJ6_bitCount_0f7a4 16 = .ok (.iconst 2, 1) := by decide +kernel
theorem dJ6_bitCount_0f7a4_17 : decode cJ6_bitCount_0f7a4 17 = .ok (.iushr, 1) := by decide +kernel
theorem dJ6_bitCount_0f7a4_18 : decode cJ6_bitCount_0f7a4 18 = .ok (.ldc_w 266, 3) := by decide +kernel
theorem dJ6_bitCount_0f7a4_21 : decode cJ6_bitCount_0f7a4 21 = .ok (.iand, 1) := by decide +kernel
theorem dJ6_bitCount_0f7a4_22 : decode cJ6_bitCount_0f7a4 22 = .ok (.iadd, 1) := by decide +kernel
theorem dJ6_bitCount_0f7a4_23 : decode cJ6_bitCount_0f7a4 23 = .ok (.istore_n 0, 1) := by decide +kernel
theorem dJ6_bitCount_0f7a4_24 : decode cJ6_bitCount_0f7a4 24 = .ok (.iload_n 0, 1) := by decide +kernel
theorem dJ6_bitCount_0f7a4_25 : decode cJ6_bitCount_0f7a4 25 = .ok (.iload_n 0, 1) := by decide +kernel
theorem dJ6_bitCount_0f7a4_26 : decode cJ6_bitCount_0f7a4 26 = .ok (.iconst 4, 1) := by decide +kernel
theorem dJ6_bitCount_0f7a4_27 : decode cJ6_bitCount_0f7a4 27 = .ok (.iushr, 1) := by decide +kernel
theorem dJ6_bitCount_0f7a4_28 : decode cJ6_bitCount_0f7a4 28 = .ok (.iadd, 1) := by decide +kernel
theorem dJ6_bitCount_0f7a4_29 : decode cJ6_bitCount_0f7a4 29 = .ok (.ldc_w 267, 3) := by decide +kernel
theorem dJ6_bitCount_0f7a4_32 : decode cJ6_bitCount_0f7a4 32 = .ok (.iand, 1) := by decide +kernel
theorem dJ6_bitCount_0f7a4_33 : decode cJ6_bitCount_0f7a4 33 = .ok (.istore_n 0, 1) := by decide +kernel
theorem dJ6_bitCount_0f7a4_34 : decode cJ6_bitCount_0f7a4 34 = .ok (.iload_n 0, 1) := by decide +kernel
theorem dJ6_bitCount_0f7a4_35 : decode cJ6_bitCount_0f7a4 35 = .ok (.iload_n 0, 1) := by decide +kernel
theorem dJ6_bitCount_0f7a4_36 : decode cJ6_bitCount_0f7a4 36 = .ok (.bipush 8, 2) := by decide +kernel
theorem dJ6_bitCount_0f7a4_38 : decode cJ6_bitCount_0f7a4 38 = .ok (.iushr, 1) := by decide +kernel
theorem dJ6_bitCount_0f7a4_39 : decode cJ6_bitCount_0f7a4 39 = .ok (.iadd, 1) := by decide +kernel
theorem dJ6_bitCount_0f7a4_40 : decode cJ6_bitCount_0f7a4 40 = .ok (.istore_n 0, 1) := by decide +kernel
theorem dJ6_bitCount_0f7a4_41 : decode cJ6_bitCount_0f7a4 41 = .ok (.iload_n 0, 1) := by decide +kernel
theorem dJ6_bitCount_0f7a4_42 : decode cJ6_bitCount_0f7a4 42 = .ok (.iload_n 0, 1) := by decide +kernel
theorem dJ6_bitCount_0f7a4_43 : decode cJ6_bitCount_0f7a4 43 = .ok (.bipush 16, 2) := by decide +kernel
theorem dJ6_bitCount_0f7a4_45 : decode cJ6_bitCount_0f7a4 45 = .ok (.iushr, 1) := by decide +kernel
theorem dJ6_bitCount_0f7a4_46 : decode cJ6_bitCount_0f7a4 46 = .ok (.iadd, 1) := by decide +kernel
theorem dJ6_bitCount_0f7a4_47 : decode cJ6_bitCount_0f7a4 47 = .ok (.istore_n 0, 1) := by decide +kernel
theorem dJ6_bitCount_0f7a4_48 : decode cJ6_bitCount_0f7a4 48 = .ok (.iload_n 0, 1) := by decide +kernel
theorem dJ6_bitCount_0f7a4_49 : decode cJ6_bitCount_0f7a4 49 = .ok (.bipush 63, 2) := by decide +kernel
theorem dJ6_bitCount_0f7a4_51 : decode cJ6_bitCount_0f7a4 51 = .ok (.iand, 1) := by decide +kernel
theorem dJ6_bitCount_0f7a4_52 : decode cJ6_bitCount_0f7a4 52 = .ok (.ireturn, 1) := by decide +kernel
theorem dJ9_floorMod_7cf53_0 : decode cJ9_floorMod_7cf53 0 = .ok (.iload_n 0, 1) := by decide +kernel
theorem dJ9_floorMod_7cf53_1 : decode cJ9_floorMod_7cf53 1 = .ok (.iload_n 1, 1) := by decide +kernel
theorem dJ9_floorMod_7cf53_2 : decode cJ9_floorMod_7cf53 2 = .ok (.irem, 1) := by decide +kernel
theorem dJ9_floorMod_7cf53_3 : decode cJ9_floorMod_7cf53 3 = .ok (.istore_n 2, 1) := by decide +kernel
theorem dJ9_floorMod_7cf53_4 : decode cJ9_floorMod_7cf53 4 = .ok (.iload_n 0, 1) := by decide +kernel
theorem dJ9_floorMod_7cf53_5 : decode cJ9_floorMod_7cf53 5 = .ok (.iload_n 1, 1) := by decide +kernel
theorem dJ9_floorMod_7cf53_6 : decode cJ9_floorMod_7cf53 6 = .ok (.ixor, 1) := by decide +kernel
theorem dJ9_floorMod_7cf53_7 : decode cJ9_floorMod_7cf53 7 = .ok (.ifCond .ge 11, 3) := by decide +kernel
theorem dJ9_floorMod_7cf53_10 : decode cJ9_floorMod_7cf53 10 = .ok (.iload_n 2, 1) := by decide +kernel
theorem dJ9_floorMod_7cf53_11 : decode cJ9_floorMod_7cf53 11 = .ok (.ifCond .eq 7, 3) := by decide +kernel
theorem dJ9_floorMod_7cf53_14 : decode cJ9_floorMod_7cf53 14 = .ok (.iload_n 2, 1) := by decide +kernel
theorem dJ9_floorMod_7cf53_15 : decode cJ9_floorMod_7cf53 15 = .ok (.iload_n 1, 1) := by decide +kernel
theorem dJ9_floorMod_7cf53_16 : decode cJ9_floorMod_7cf53 16 = .ok (.iadd, 1) := by decide +kernel
theorem dJ9_floorMod_7cf53_17 : decode cJ9_floorMod_7cf53 17 = .ok (.ireturn, 1) := by decide +kernel
theorem dJ9_floorMod_7cf53_18 : decode cJ9_floorMod_7cf53 18 = .ok (.iload_n 2, 1) := by decide +kernel
theorem dJ9_floorMod_7cf53_19 : decode cJ9_floorMod_7cf53 19 = .ok (.ireturn, 1) := by decide +kernel
theorem dJ9_max_7cf53_0 : decode cJ9_max_7cf53 0 = .ok (.iload_n 0, 1) := by decide +kernel
theorem dJ9_max_7cf53_1 : decode cJ9_max_7cf53 1 = .ok (.iload_n 1, 1) := by decide +kernel
theorem dJ9_max_7cf53_2 : decode cJ9_max_7cf53 2 = .ok (.if_icmp .lt 7, 3) := by decide +kernel
theorem dJ9_max_7cf53_5 : decode cJ9_max_7cf53 5 = .ok (.iload_n 0, 1) := by decide +kernel
theorem dJ9_max_7cf53_6 : decode cJ9_max_7cf53 6 = .ok (.goto 4, 3) := by decide +kernel
theorem dJ9_max_7cf53_9 : decode cJ9_max_7cf53 9 = .ok (.iload_n 1, 1) := by decide +kernel
theorem dJ9_max_7cf53_10 : decode cJ9_max_7cf53 10 = .ok (.ireturn, 1) := by decide +kernel
theorem dJ9_min_7cf53_0 : decode cJ9_min_7cf53 0 = .ok (.iload_n 0, 1) := by decide +kernel
theorem dJ9_min_7cf53_1 : decode cJ9_min_7cf53 1 = .ok (.iload_n 1, 1) := by decide +kernel
theorem dJ9_min_7cf53_2 : decode cJ9_min_7cf53 2 = .ok (.if_icmp .gt 7, 3) := by decide +kernel
theorem dJ9_min_7cf53_5 : decode cJ9_min_7cf53 5 = .ok (.iload_n 0, 1) := by decide +kernel
theorem dJ9_min_7cf53_6 : decode cJ9_min_7cf53 6 = .ok (.goto 4, 3) := by decide +kernel
theorem dJ9_min_7cf53_9 : decode cJ9_min_7cf53 9 = .ok (.iload_n 1, 1) := by decide +kernel
theorem dJ9_min_7cf53_10 : decode cJ9_min_7cf53 10 = .ok (.ireturn, 1) := by decide +kernel
theorem dJxa1e45_init_da8c8_0 : decode cJxa1e45_init_da8c8 0 = .ok (.aload_n 0, 1) := by decide +kernel
theorem dJxa1e45_init_da8c8_1 : decode cJxa1e45_init_da8c8 1 = .ok (.invokespecial 1, 3) := by decide +kernel
theorem dJxa1e45_init_da8c8_4 : decode cJxa1e45_init_da8c8 4 = .ok (.return_, 1) := by decide +kernel
theorem dJxc12de_init_da8c8_0 : decode cJxc12de_init_da8c8 0 = .ok (.aload_n 0, 1) := by decide +kernel
theorem dJxc12de_init_da8c8_1 : decode cJxc12de_init_da8c8 1 = .ok (.invokespecial 1, 3) := by decide +kernel
theorem dJxc12de_init_da8c8_4 : decode cJxc12de_init_da8c8 4 = .ok (.aload_n 0, 1) := by decide +kernel
theorem dJxc12de_init_da8c8_5 : decode cJxc12de_init_da8c8 5 = .ok (.iconst 0, 1) := by decide +kernel
theorem dJxc12de_init_da8c8_6 : decode cJxc12de_init_da8c8 6 = .ok (.putfield 7, 3) := by decide +kernel
theorem dJxc12de_init_da8c8_9 : decode cJxc12de_init_da8c8 9 = .ok (.return_, 1) := by decide +kernel
theorem dJx4a65c_init_da8c8_0 : decode cJx4a65c_init_da8c8 0 = .ok (.aload_n 0, 1) := by decide +kernel
theorem dJx4a65c_init_da8c8_1 : decode cJx4a65c_init_da8c8 1 = .ok (.invokespecial 1, 3) := by decide +kernel
theorem dJx4a65c_init_da8c8_4 : decode cJx4a65c_init_da8c8 4 = .ok (.aload_n 0, 1) := by decide +kernel
theorem dJx4a65c_init_da8c8_5 : decode cJx4a65c_init_da8c8 5 = .ok (.getstatic 39, 3) := by decide +kernel
theorem dJx4a65c_init_da8c8_8 : decode cJx4a65c_init_da8c8 8 = .ok (.putfield 9, 3) := by decide +kernel
theorem dJx4a65c_init_da8c8_11 : decode cJx4a65c_init_da8c8 11 = .ok (.return_, 1) := by decide +kernel
theorem dJx4a65c_grow_92f84_0 : decode cJx4a65c_grow_92f84 0 = .ok (.aload_n 0, 1) := by decide +kernel
theorem dJx4a65c_grow_92f84_1 : decode cJx4a65c_grow_92f84 1 = .ok (.getfield 9, 3) := by decide +kernel
theorem dJx4a65c_grow_92f84_4 : decode cJx4a65c_grow_92f84 4 = .ok (.arraylength, 1) := by decide +kernel
theorem dJx4a65c_grow_92f84_5 : decode cJx4a65c_grow_92f84 5 = .ok (.istore_n 2, 1) := by decide +kernel
theorem dJx4a65c_grow_92f84_6 : decode cJx4a65c_grow_92f84 6 = .ok (.iload_n 2, 1) := by decide +kernel
theorem dJx4a65c_grow_92f84_7 : decode cJx4a65c_grow_92f84 7 = .ok (.ifCond .gt 13, 3) := by decide +kernel
theorem dJx4a65c_grow_92f84_10 : decode cJx4a65c_grow_92f84 10 = .ok (.aload_n 0, 1) := by decide +kernel
theorem dJx4a65c_grow_92f84_11 : decode cJx4a65c_grow_92f84 11 = .ok (.getfield 9, 3) := by decide +kernel
theorem dJx4a65c_grow_92f84_14 : decode cJx4a65c_grow_92f84 14 = .ok (.getstatic 39, 3) := by decide +kernel
theorem dJx4a65c_grow_92f84_17 : decode cJx4a65c_grow_92f84 17 = .ok (.if_acmp .eq 28, 3) := by decide +kernel
theorem dJx4a65c_grow_92f84_20 : decode cJx4a65c_grow_92f84 20 = .ok (.iload_n 2, 1) := by decide +kernel
theorem dJx4a65c_grow_92f84_21 : decode cJx4a65c_grow_92f84 21 = .ok (.iload_n 1, 1) := by decide +kernel
theorem dJx4a65c_grow_92f84_22 : decode cJx4a65c_grow_92f84 22 = .ok (.iload_n 2, 1) := by decide +kernel
theorem dJx4a65c_grow_92f84_23 : decode cJx4a65c_grow_92f84 23 = .ok (.isub, 1) := by decide +kernel
theorem dJx4a65c_grow_92f84_24 : decode cJx4a65c_grow_92f84 24 = .ok (.iload_n 2, 1) := by decide +kernel
theorem dJx4a65c_grow_92f84_25 : decode cJx4a65c_grow_92f84 25 = .ok (.iconst 1, 1) := by decide +kernel
theorem dJx4a65c_grow_92f84_26 : decode cJx4a65c_grow_92f84 26 = .ok (.ishr, 1) := by decide +kernel
theorem dJx4a65c_grow_92f84_27 : decode cJx4a65c_grow_92f84 27 = .ok (.invokestatic 73, 3) := by decide +kernel
theorem dJx4a65c_grow_92f84_30 : decode cJx4a65c_grow_92f84 30 = .ok (.istore_n 3, 1) := by decide +kernel
theorem dJx4a65c_grow_92f84_31 : decode cJx4a65c_grow_92f84 31 = .ok (.aload_n 0, 1) := by decide +kernel
theorem dJx4a65c_grow_92f84_32 : decode cJx4a65c_grow_92f84 32 = .ok (.aload_n 0, 1) := by decide +kernel
theorem dJx4a65c_grow_92f84_33 : decode cJx4a65c_grow_92f84 33 = .ok (.getfield 9, 3) := by decide +kernel
theorem dJx4a65c_grow_92f84_36 : decode cJx4a65c_grow_92f84 36 = .ok (.iload_n 3, 1) := by decide +kernel
theorem dJx4a65c_grow_92f84_37 : decode cJx4a65c_grow_92f84 37 = .ok (.invokestatic 66, 3) := by decide +kernel
theorem dJx4a65c_grow_92f84_40 : decode cJx4a65c_grow_92f84 40 = .ok (.dup_x1, 1) := by decide +kernel
theorem dJx4a65c_grow_92f84_41 : decode cJx4a65c_grow_92f84 41 = .ok (.putfield 9, 3) := by decide +kernel
theorem dJx4a65c_grow_92f84_44 : decode cJx4a65c_grow_92f84 44 = .ok (.areturn, 1) := by decide +kernel
theorem dJx4a65c_grow_92f84_45 : decode cJx4a65c_grow_92f84 45 = .ok (.aload_n 0, 1) := by decide +kernel
theorem dJx4a65c_grow_92f84_46 : decode cJx4a65c_grow_92f84 46 = .ok (.bipush 10, 2) := by decide +kernel
theorem dJx4a65c_grow_92f84_48 : decode cJx4a65c_grow_92f84 48 = .ok (.iload_n 1, 1) := by decide +kernel
theorem dJx4a65c_grow_92f84_49 : decode cJx4a65c_grow_92f84 49 = .ok (.invokestatic 79, 3) := by decide +kernel
theorem dJx4a65c_grow_92f84_52 : decode cJx4a65c_grow_92f84 52 = .ok (.anewarray 7, 3) := by decide +kernel
theorem dJx4a65c_grow_92f84_55 : decode cJx4a65c_grow_92f84 55 = .ok (.dup_x1, 1) := by decide +kernel
theorem dJx4a65c_grow_92f84_56 : decode cJx4a65c_grow_92f84 56 = .ok (.putfield 9, 3) := by decide +kernel
theorem dJx4a65c_grow_92f84_59 : decode cJx4a65c_grow_92f84 59 = .ok (.areturn, 1) := by decide +kernel
theorem dJx4a65c_grow_d5877_0 : decode cJx4a65c_grow_d5877 0 = .ok (.aload_n 0, 1) := by decide +kernel
theorem dJx4a65c_grow_d5877_1 : decode cJx4a65c_grow_d5877 1 = .ok (.aload_n 0, 1) := by decide +kernel
theorem dJx4a65c_grow_d5877_2 : decode cJx4a65c_grow_d5877 2 = .ok (.getfield 48, 3) := by decide +kernel
theorem dJx4a65c_grow_d5877_5 : decode cJx4a65c_grow_d5877 5 = .ok (.iconst 1, 1) := by decide +kernel
theorem dJx4a65c_grow_d5877_6 : decode cJx4a65c_grow_d5877 6 = .ok (.iadd, 1) := by decide +kernel
theorem dJx4a65c_grow_d5877_7 : decode cJx4a65c_grow_d5877 7 = .ok (.invokevirtual 69, 3) := by decide +kernel
theorem dJx4a65c_grow_d5877_10 : decode cJx4a65c_grow_d5877 10 = .ok (.areturn, 1) := by decide +kernel
theorem dJx4a65c_size_8abf5_0 : decode cJx4a65c_size_8abf5 0 = .ok (.aload_n 0, 1) := by decide +kernel
theorem dJx4a65c_size_8abf5_1 : decode cJx4a65c_size_8abf5 1 = .ok (.getfield 48, 3) := by decide +kernel
theorem dJx4a65c_size_8abf5_4 : decode cJx4a65c_size_8abf5 4 = .ok (.ireturn, 1) := by decide +kernel
theorem dJx4a65c_isEmpty_aae02_0 : decode cJx4a65c_isEmpty_aae02 0 = .ok (.aload_n 0, 1) := by decide +kernel
theorem dJx4a65c_isEmpty_aae02_1 : decode cJx4a65c_isEmpty_aae02 1 = .ok (.getfield 48, 3) := by decide +kernel
theorem dJx4a65c_isEmpty_aae02_4 : decode cJx4a65c_isEmpty_aae02 4 = .ok (.ifCond .ne 7, 3) := by decide +kernel
theorem dJx4a65c_isEmpty_aae02_7 : decode cJx4a65c_isEmpty_aae02 7 = .ok (.iconst 1, 1) := by decide +kernel
theorem dJx4a65c_isEmpty_aae02_8 : decode cJx4a65c_isEmpty_aae02 8 = .ok (.goto 4, 3) := by decide +kernel
theorem dJx4a65c_isEmpty_aae02_11 : decode cJx4a65c_isEmpty_aae02 11 = .ok (.iconst 0, 1) := by decide +kernel
theorem dJx4a65c_isEmpty_aae02_12 : decode cJx4a65c_isEmpty_aae02 12 = .ok (.ireturn, 1) := by decide +kernel
theorem dJx4a65c_elementData_915e3_0 : decode cJx4a65c_elementData_915e3 0 = .ok (.aload_n 0, 1) := by decide +kernel
theorem dJx4a65c_elementData_915e3_1 : decode cJx4a65c_elementData_915e3 1 = .ok (.getfield 9, 3) := by decide +kernel
theorem dJx4a65c_elementData_915e3_4 : decode cJx4a65c_elementData_915e3 4 = .ok (.iload_n 1, 1) := by decide +kernel
theorem dJx4a65c_elementData_915e3_5 : decode cJx4a65c_elementData_915e3 5 = .ok (.aaload, 1) := by decide +kernel
theorem dJx4a65c_elementData_915e3_6 : decode cJx4a65c_elementData_915e3 6 = .ok (.areturn, 1) := by decide +kernel
theorem dJx4a65c_get_915e3_0 : decode cJx4a65c_get_915e3 0 = .ok (.iload_n 1, 1) := by decide +kernel
theorem dJx4a65c_get_915e3_1 : decode cJx4a65c_get_915e3 1 = .ok (.aload_n 0, 1) := by decide +kernel
theorem dJx4a65c_get_915e3_2 : decode cJx4a65c_get_915e3 2 = .ok (.getfield 48, 3) := by decide +kernel
theorem dJx4a65c_get_915e3_5 : decode cJx4a65c_get_915e3 5 = .ok (.invokestatic 118, 3) := by decide +kernel
theorem dJx4a65c_get_915e3_8 : decode cJx4a65c_get_915e3 8 = .ok (.pop, 1) := by decide +kernel
theorem dJx4a65c_get_915e3_9 : decode cJx4a65c_get_915e3 9 = .ok (.aload_n 0, 1) := by decide +kernel
theorem dJx4a65c_get_915e3_10 : decode cJx4a65c_get_915e3 10 = .ok (.iload_n 1, 1) := by decide +kernel
theorem dJx4a65c_get_915e3_11 : decode cJx4a65c_get_915e3 11 = .ok (.invokevirtual 123, 3) := by decide +kernel
theorem dJx4a65c_get_915e3_14 : decode cJx4a65c_get_915e3 14 = .ok (.areturn, 1) := by decide +kernel
theorem dJx4a65c_add_72be8_0 : decode cJx4a65c_add_72be8 0 = .ok (.iload_n 3, 1) := by decide +kernel
theorem dJx4a65c_add_72be8_1 : decode cJx4a65c_add_72be8 1 = .ok (.aload_n 2, 1) := by decide +kernel
theorem dJx4a65c_add_72be8_2 : decode cJx4a65c_add_72be8 2 = .ok (.arraylength, 1) := by decide +kernel
theorem dJx4a65c_add_72be8_3 : decode cJx4a65c_add_72be8 3 = .ok (.if_icmp .ne 8, 3) := by decide +kernel
theorem dJx4a65c_add_72be8_6 : decode cJx4a65c_add_72be8 6 = .ok (.aload_n 0, 1) := by decide +kernel
theorem dJx4a65c_add_72be8_7 : decode cJx4a65c_add_72be8 7 = .ok (.invokevirtual 129, 3) := by decide +kernel
theorem dJx4a65c_add_72be8_10 : decode cJx4a65c_add_72be8 10 = .ok (.astore_n 2, 1) := by decide +kernel
theorem dJx4a65c_add_72be8_11 : decode cJx4a65c_add_72be8 11 = .ok (.aload_n 2, 1) := by decide +kernel
theorem dJx4a65c_add_72be8_12 : decode cJx4a65c_add_72be8 12 = .ok (.iload_n 3, 1) := by decide +kernel
theorem dJx4a65c_add_72be8_13 : decode cJx4a65c_add_72be8 13 = .ok (.aload_n 1, 1) := by decide +kernel
theorem dJx4a65c_add_72be8_14 : decode cJx4a65c_add_72be8 14 = .ok (.aastore, 1) := by decide +kernel
theorem dJx4a65c_add_72be8_15 : decode cJx4a65c_add_72be8 15 = .ok (.aload_n 0, 1) := by decide +kernel
theorem dJx4a65c_add_72be8_16 : decode cJx4a65c_add_72be8 16 = .ok (.iload_n 3, 1) := by decide +kernel
theorem dJx4a65c_add_72be8_17 : decode cJx4a65c_add_72be8 17 = .ok (.iconst 1, 1) := by decide +kernel
theorem dJx4a65c_add_72be8_18 : decode cJx4a65c_add_72be8 18 = .ok (.iadd, 1) := by decide +kernel
theorem dJx4a65c_add_72be8_19 : decode cJx4a65c_add_72be8 19 = .ok (.putfield 48, 3) := by decide +kernel
theorem dJx4a65c_add_72be8_22 : decode cJx4a65c_add_72be8 22 = .ok (.return_, 1) := by decide +kernel
theorem dJx4a65c_add_9ea2d_0 : decode cJx4a65c_add_9ea2d 0 = .ok (.aload_n 0, 1) := by decide +kernel
theorem dJx4a65c_add_9ea2d_1 : decode cJx4a65c_add_9ea2d 1 = .ok (.dup, 1) := by decide +kernel
theorem dJx4a65c_add_9ea2d_2 : decode cJx4a65c_add_9ea2d 2 = .ok (.getfield 63, 3) := by decide +kernel
theorem dJx4a65c_add_9ea2d_5 : decode cJx4a65c_add_9ea2d 5 = .ok (.iconst 1, 1) := by decide +kernel
theorem dJx4a65c_add_9ea2d_6 : decode cJx4a65c_add_9ea2d 6 = .ok (.iadd, 1) := by decide +kernel
theorem dJx4a65c_add_9ea2d_7 : decode cJx4a65c_add_9ea2d 7 = .ok (.putfield 63, 3) := by decide +kernel
theorem dJx4a65c_add_9ea2d_10 : decode cJx4a65c_add_9ea2d 10 = .ok (.aload_n 0, 1) := by decide +kernel
theorem dJx4a65c_add_9ea2d_11 : decode cJx4a65c_add_9ea2d 11 = .ok (.aload_n 1, 1) := by decide +kernel
theorem dJx4a65c_add_9ea2d_12 : decode cJx4a65c_add_9ea2d 12 = .ok (.aload_n 0, 1) := by decide +kernel
theorem dJx4a65c_add_9ea2d_13 : decode cJx4a65c_add_9ea2d 13 = .ok (.getfield 9, 3) := by decide +kernel
theorem dJx4a65c_add_9ea2d_16 : decode cJx4a65c_add_9ea2d 16 = .ok (.aload_n 0, 1) := by decide +kernel
theorem dJx4a65c_add_9ea2d_17 : decode cJx4a65c_add_9ea2d 17 = .ok (.getfield 48, 3) := by decide +kernel
theorem dJx4a65c_add_9ea2d_20 : decode cJx4a65c_add_9ea2d 20 = .ok (.invokevirtual 131, 3) := by decide +kernel
theorem dJx4a65c_add_9ea2d_23 : decode cJx4a65c_add_9ea2d 23 = .ok (.iconst 1, 1) := by decide +kernel
theorem dJx4a65c_add_9ea2d_24 : decode cJx4a65c_add_9ea2d 24 = .ok (.ireturn, 1) := by decide +kernel
theorem dJx4a65c_remove_915e3_0 : decode cJx4a65c_remove_915e3 0 = .ok (.iload_n 1, 1) := by decide +kernel
theorem dJx4a65c_remove_915e3_1 : decode cJx4a65c_remove_915e3 1 = .ok (.aload_n 0, 1) := by decide +kernel
theorem dJx4a65c_remove_915e3_2 : decode cJx4a65c_remove_915e3 2 = .ok (.getfield 48, 3) := by decide +kernel
theorem dJx4a65c_remove_915e3_5 : decode cJx4a65c_remove_915e3 5 = .ok (.invokestatic 118, 3) := by decide +kernel
theorem dJx4a65c_remove_915e3_8 : decode cJx4a65c_remove_915e3 8 = .ok (.pop, 1) := by decide +kernel
theorem dJx4a65c_remove_915e3_9 : decode cJx4a65c_remove_915e3 9 = .ok (.aload_n 0, 1) := by decide +kernel
theorem dJx4a65c_remove_915e3_10 : decode cJx4a65c_remove_915e3 10 = .ok (.getfield 9, 3) := by decide +kernel
theorem dJx4a65c_remove_915e3_13 : decode cJx4a65c_remove_915e3 13 = .ok (.astore_n 2, 1) := by decide +kernel
theorem dJx4a65c_remove_915e3_14 : decode cJx4a65c_remove_915e3 14 = .ok (.aload_n 2, 1) := by decide +kernel
theorem dJx4a65c_remove_915e3_15 : decode cJx4a65c_remove_915e3 15 = .ok (.iload_n 1, 1) := by decide +kernel
theorem dJx4a65c_remove_915e3_16 : decode cJx4a65c_remove_915e3 16 = .ok (.aaload, 1) := by decide +kernel
theorem dJx4a65c_remove_915e3_17 : decode cJx4a65c_remove_915e3 17 = .ok (.astore_n 3, 1) := by decide +kernel
theorem dJx4a65c_remove_915e3_18 : decode cJx4a65c_remove_915e3 18 = .ok (.aload_n 0, 1) := by decide +kernel
theorem dJx4a65c_remove_915e3_19 : decode cJx4a65c_remove_915e3 19 = .ok (.aload_n 2, 1) := by decide +kernel
theorem dJx4a65c_remove_915e3_20 : decode cJx4a65c_remove_915e3 20 = .ok (.iload_n 1, 1) := by decide +kernel
theorem dJx4a65c_remove_915e3_21 : decode cJx4a65c_remove_915e3 21 = .ok (.invokevirtual 144, 3) := by decide +kernel
theorem dJx4a65c_remove_915e3_24 : decode cJx4a65c_remove_915e3 24 = .ok (.aload_n 3, 1) := by decide +kernel
theorem dJx4a65c_remove_915e3_25 : decode cJx4a65c_remove_915e3 25 = .ok (.areturn, 1) := by decide +kernel
theorem dJx4a65c_fastRemove_b59b0_0 : decode cJx4a65c_fastRemove_b59b0 0 = .ok (.aload_n 0, 1) := by decide +kernel
theorem dJx4a65c_fastRemove_b59b0_1 : decode cJx4a65c_fastRemove_b59b0 1 = .ok (.dup, 1) := by decide +kernel
theorem dJx4a65c_fastRemove_b59b0_2 : decode cJx4a65c_fastRemove_b59b0 2 = .ok (.getfield 63, 3) := by decide +kernel
theorem dJx4a65c_fastRemove_b59b0_5 : decode cJx4a65c_fastRemove_b59b0 5 = .ok (.iconst 1, 1) := by decide +kernel
theorem dJx4a65c_fastRemove_b59b0_6 : decode cJx4a65c_fastRemove_b59b0 6 = .ok (.iadd, 1) := by decide +kernel
theorem dJx4a65c_fastRemove_b59b0_7 : decode cJx4a65c_fastRemove_b59b0 7 = .ok (.putfield 63, 3) := by decide +kernel
theorem dJx4a65c_fastRemove_b59b0_10 : decode cJx4a65c_fastRemove_b59b0 10 = .ok (.aload_n 0, 1) := by decide +kernel
theorem dJx4a65c_fastRemove_b59b0_11 : decode cJx4a65c_fastRemove_b59b0 11 = .ok (.getfield 48, 3) := by decide +kernel
theorem dJx4a65c_fastRemove_b59b0_14 : decode cJx4a65c_fastRemove_b59b0 14 = .ok (.iconst 1, 1) := by decide +kernel
theorem dJx4a65c_fastRemove_b59b0_15 : decode cJx4a65c_fastRemove_b59b0 15 = .ok (.isub, 1) := by decide +kernel
theorem dJx4a65c_fastRemove_b59b0_16 : decode cJx4a65c_fastRemove_b59b0 16 = .ok (.dup, 1) := by decide +kernel
theorem dJx4a65c_fastRemove_b59b0_17 : decode cJx4a65c_fastRemove_b59b0 17 = .ok (.istore_n 3, 1) := by decide +kernel
theorem dJx4a65c_fastRemove_b59b0_18 : decode cJx4a65c_fastRemove_b59b0 18 = .ok (.iload_n 2, 1) := by decide +kernel
theorem dJx4a65c_fastRemove_b59b0_19 : decode cJx4a65c_fastRemove_b59b0 19 = .ok (.if_icmp .le 15, 3) := by decide +kernel
theorem dJx4a65c_fastRemove_b59b0_22 : decode cJx4a65c_fastRemove_b59b0 22 = .ok (.aload_n 1, 1) := by decide +kernel
theorem dJx4a65c_fastRemove_b59b0_23 : decode cJx4a65c_fastRemove_b59b0 23 = .ok (.iload_n 2, 1) := by decide +kernel
theorem dJx4a65c_fastRemove_b59b0_24 : decode cJx4a65c_fastRemove_b59b0 24 = .ok (.iconst 1, 1) := by decide +kernel
theorem dJx4a65c_fastRemove_b59b0_25 : decode cJx4a65c_fastRemove_b59b0 25 = .ok (.iadd, 1) := by decide +kernel
theorem dJx4a65c_fastRemove_b59b0_26 : decode cJx4a65c_fastRemove_b59b0 26 = .ok (.aload_n 1, 1) := by decide +kernel
theorem dJx4a65c_fastRemove_b59b0_27 : decode cJx4a65c_fastRemove_b59b0 27 = .ok (.iload_n 2, 1) := by decide +kernel
theorem dJx4a65c_fastRemove_b59b0_28 : decode cJx4a65c_fastRemove_b59b0 28 = .ok (.iload_n 3, 1) := by decide +kernel
theorem dJx4a65c_fastRemove_b59b0_29 : decode cJx4a65c_fastRemove_b59b0 29 = .ok (.iload_n 2, 1) := by decide +kernel
theorem dJx4a65c_fastRemove_b59b0_30 : decode cJx4a65c_fastRemove_b59b0 30 = .ok (.isub, 1) := by decide +kernel
theorem dJx4a65c_fastRemove_b59b0_31 : decode cJx4a65c_fastRemove_b59b0 31 = .ok (.invokestatic 112, 3) := by decide +kernel
theorem dJx4a65c_fastRemove_b59b0_34 : decode cJx4a65c_fastRemove_b59b0 34 = .ok (.aload_n 1, 1) := by decide +kernel
theorem dJx4a65c_fastRemove_b59b0_35 : decode cJx4a65c_fastRemove_b59b0 35 = .ok (.aload_n 0, 1) := by decide +kernel
theorem dJx4a65c_fastRemove_b59b0_36 : decode cJx4a65c_fastRemove_b59b0 36 = .ok (.iload_n 3, 1) := by decide +kernel
theorem dJx4a65c_fastRemove_b59b0_37 : decode cJx4a65c_fastRemove_b59b0 37 = .ok (.dup_x1, 1) := by decide +kernel
theorem dJx4a65c_fastRemove_b59b0_38 : decode cJx4a65c_fastRemove_b59b0 38 = .ok (.putfield 48, 3) := by decide +kernel
theorem dJx4a65c_fastRemove_b59b0_41 : decode cJx4a65c_fastRemove_b59b0 41 = .ok (.aconst_null, 1) := by decide +kernel
theorem dJx4a65c_fastRemove_b59b0_42 : decode cJx4a65c_fastRemove_b59b0 42 = .ok (.aastore, 1) := by decide +kernel
theorem dJx4a65c_fastRemove_b59b0_43 : decode cJx4a65c_fastRemove_b59b0 43 = .ok (.return_, 1) := by decide +kernel
theorem dJ7_fill_53178_0 : decode cJ7_fill_53178 0 = .ok (.iconst 0, 1) := by decide +kernel
theorem dJ7_fill_53178_1 : decode cJ7_fill_53178 1 = .ok (.istore_n 2, 1) := by decide +kernel
theorem dJ7_fill_53178_2 : decode cJ7_fill_53178 2 = .ok (.aload_n 0, 1) := by decide +kernel
theorem dJ7_fill_53178_3 : decode cJ7_fill_53178 3 = .ok (.arraylength, 1) := by decide +kernel
theorem dJ7_fill_53178_4 : decode cJ7_fill_53178 4 = .ok (.istore_n 3, 1) := by decide +kernel
theorem dJ7_fill_53178_5 : decode cJ7_fill_53178 5 = .ok (.iload_n 2, 1) := by decide +kernel
theorem dJ7_fill_53178_6 : decode cJ7_fill_53178 6 = .ok (.iload_n 3, 1) := by decide +kernel
theorem dJ7_fill_53178_7 : decode cJ7_fill_53178 7 = .ok (.if_icmp .ge 13, 3) := by decide +kernel
theorem dJ7_fill_53178_10 : decode cJ7_fill_53178 10 = .ok (.aload_n 0, 1) := by decide +kernel
theorem dJ7_fill_53178_11 : decode cJ7_fill_53178 11 = .ok (.iload_n 2, 1) := by decide +kernel
theorem dJ7_fill_53178_12 : decode cJ7_fill_53178 12 = .ok (.iload_n 1, 1) := by decide +kernel
theorem dJ7_fill_53178_13 : decode cJ7_fill_53178 13 = .ok (.iastore, 1) := by decide +kernel
theorem dJ7_fill_53178_14 : decode cJ7_fill_53178 14 = .ok (.iinc 2 1, 3) := by decide +kernel
theorem dJ7_fill_53178_17 : decode cJ7_fill_53178 17 = .ok (.goto (-12), 3) := by decide +kernel
theorem dJ7_fill_53178_20 : decode cJ7_fill_53178 20 = .ok (.return_, 1) := by decide +kernel
theorem dJ7_copyOf_1904c_0 : decode cJ7_copyOf_1904c 0 = .ok (.aload_n 0, 1) := by decide +kernel
theorem dJ7_copyOf_1904c_1 : decode cJ7_copyOf_1904c 1 = .ok (.iload_n 1, 1) := by decide +kernel
theorem dJ7_copyOf_1904c_2 : decode cJ7_copyOf_1904c 2 = .ok (.aload_n 0, 1) := by decide +kernel
theorem dJ7_copyOf_1904c_3 : decode cJ7_copyOf_1904c 3 = .ok (.invokevirtual 86, 3) := by decide +kernel
theorem dJ7_copyOf_1904c_6 : decode cJ7_copyOf_1904c 6 = .ok (.invokestatic 300, 3) := by decide +kernel
theorem dJ7_copyOf_1904c_9 : decode cJ7_copyOf_1904c 9 = .ok (.areturn, 1) := by decide +kernel
theorem dJ7_copyOf_6403c_0 : decode cJ7_copyOf_6403c 0 = .ok (.aload_n 2, 1) := by decide +kernel
theorem dJ7_copyOf_6403c_1 : decode cJ7_copyOf_6403c 1 = .ok (.ldc 110, 2) := by decide +kernel
theorem dJ7_copyOf_6403c_3 : decode cJ7_copyOf_6403c 3 = .ok (.if_acmp .ne 10, 3) := by decide +kernel
theorem dJ7_copyOf_6403c_6 : decode cJ7_copyOf_6403c 6 = .ok (.iload_n 1, 1) := by decide +kernel
theorem dJ7_copyOf_6403c_7 : decode cJ7_copyOf_6403c 7 = .ok (.anewarray 2, 3) := by decide +kernel
theorem dJ7_copyOf_6403c_10 : decode cJ7_copyOf_6403c 10 = .ok (.goto 14, 3) := by decide +kernel
theorem dJ7_copyOf_6403c_13 : decode cJ7_copyOf_6403c 13 = .ok (.aload_n 2, 1) := by decide +kernel
theorem dJ7_copyOf_6403c_14 : decode cJ7_copyOf_6403c 14 = .ok (.invokevirtual 90, 3) := by decide +kernel
theorem dJ7_copyOf_6403c_17 : decode cJ7_copyOf_6403c 17 = .ok (.iload_n 1, 1) := by decide +kernel
theorem dJ7_copyOf_6403c_18 : decode cJ7_copyOf_6403c 18 = .ok (.invokestatic 95, 3) := by decide +kernel
theorem dJ7_copyOf_6403c_21 : decode cJ7_copyOf_6403c 21 = .ok (.checkcast 110, 3) := by decide +kernel
theorem dJ7_copyOf_6403c_24 : decode cJ7_copyOf_6403c 24 = .ok (.astore_n 3, 1) := by decide +kernel
theorem dJ7_copyOf_6403c_25 : decode cJ7_copyOf_6403c 25 = .ok (.aload_n 0, 1) := by decide +kernel
theorem dJ7_copyOf_6403c_26 : decode cJ7_copyOf_6403c 26 = .ok (.iconst 0, 1) := by decide +kernel
theorem dJ7_copyOf_6403c_27 : decode cJ7_copyOf_6403c 27 = .ok (.aload_n 3, 1) := by decide +kernel
theorem dJ7_copyOf_6403c_28 : decode cJ7_copyOf_6403c 28 = .ok (.iconst 0, 1) := by decide +kernel
theorem dJ7_copyOf_6403c_29 : decode cJ7_copyOf_6403c 29 = .ok (.aload_n 0, 1) := by decide +kernel
theorem dJ7_copyOf_6403c_30 : decode cJ7_copyOf_6403c 30 = .ok (.arraylength, 1) := by decide +kernel
theorem dJ7_copyOf_6403c_31 : decode cJ7_copyOf_6403c 31 = .ok (.iload_n 1, 1) := by decide +kernel
theorem dJ7_copyOf_6403c_32 : decode cJ7_copyOf_6403c 32 = .ok (.invokestatic 304, 3) := by decide +kernel
theorem dJ7_copyOf_6403c_35 : decode cJ7_copyOf_6403c 35 = .ok (.invokestatic 150, 3) := by decide +kernel
theorem dJ7_copyOf_6403c_38 : decode cJ7_copyOf_6403c 38 = .ok (.aload_n 3, 1) := by decide +kernel
theorem dJ7_copyOf_6403c_39 : decode cJ7_copyOf_6403c 39 = .ok (.areturn, 1) := by decide +kernel
theorem dJ15_checkIndex_7cf53_0 : decode cJ15_checkIndex_7cf53 0 = .ok (.iload_n 0, 1) := by decide +kernel
theorem dJ15_checkIndex_7cf53_1 : decode cJ15_checkIndex_7cf53 1 = .ok (.iload_n 1, 1) := by decide +kernel
theorem dJ15_checkIndex_7cf53_2 : decode cJ15_checkIndex_7cf53 2 = .ok (.aconst_null, 1) := by decide +kernel
theorem dJ15_checkIndex_7cf53_3 : decode cJ15_checkIndex_7cf53 3 = .ok (.invokestatic 105, 3) := by decide +kernel
theorem dJ15_checkIndex_7cf53_6 : decode cJ15_checkIndex_7cf53 6 = .ok (.ireturn, 1) := by decide +kernel
theorem dJ8_newLength_cabcc_0 : decode cJ8_newLength_cabcc 0 = .ok (.iload_n 0, 1) := by decide +kernel
theorem dJ8_newLength_cabcc_1 : decode cJ8_newLength_cabcc 1 = .ok (.iload_n 1, 1) := by decide +kernel
theorem dJ8_newLength_cabcc_2 : decode cJ8_newLength_cabcc 2 = .ok (.iload_n 2, 1) := by decide +kernel
theorem dJ8_newLength_cabcc_3 : decode cJ8_newLength_cabcc 3 = .ok (.invokestatic 194, 3) := by decide +kernel
theorem dJ8_newLength_cabcc_6 : decode cJ8_newLength_cabcc 6 = .ok (.iadd, 1) := by decide +kernel
theorem dJ8_newLength_cabcc_7 : decode cJ8_newLength_cabcc 7 = .ok (.istore_n 3, 1) := by decide +kernel
theorem dJ8_newLength_cabcc_8 : decode cJ8_newLength_cabcc 8 = .ok (.iconst 0, 1) := by decide +kernel
theorem dJ8_newLength_cabcc_9 : decode cJ8_newLength_cabcc 9 = .ok (.iload_n 3, 1) := by decide +kernel
theorem dJ8_newLength_cabcc_10 : decode cJ8_newLength_cabcc 10 = .ok (.if_icmp .ge 11, 3) := by decide +kernel
theorem dJ8_newLength_cabcc_13 : decode cJ8_newLength_cabcc 13 = .ok (.iload_n 3, 1) := by decide +kernel
theorem dJ8_newLength_cabcc_14 : decode cJ8_newLength_cabcc 14 = .ok (.ldc 200, 2) := by decide +kernel
theorem dJ8_newLength_cabcc_16 : decode cJ8_newLength_cabcc 16 = .ok (.if_icmp .gt 5, 3) := by decide +kernel
theorem dJ8_newLength_cabcc_19 : decode cJ8_newLength_cabcc 19 = .ok (.iload_n 3, 1) := by decide +kernel
theorem dJ8_newLength_cabcc_20 : decode cJ8_newLength_cabcc 20 = .ok (.ireturn, 1) := by decide +kernel
theorem dJ8_newLength_cabcc_21 : decode cJ8_newLength_cabcc 21 = .ok (.iload_n 0, 1) := by decide +kernel
theorem dJ8_newLength_cabcc_22 : decode cJ8_newLength_cabcc 22 = .ok (.iload_n 1, 1) := by decide +kernel
theorem dJ8_newLength_cabcc_23 : decode cJ8_newLength_cabcc 23 = .ok (.invokestatic 201, 3) := by decide +kernel
theorem dJ8_newLength_cabcc_26 : decode cJ8_newLength_cabcc 26 = .ok (.ireturn, 1) := by decide +kernel
theorem dJ8_hugeLength_7cf53_0 : decode cJ8_hugeLength_7cf53 0 = .ok (.iload_n 0, 1) := by decide +kernel
theorem dJ8_hugeLength_7cf53_1 : decode cJ8_hugeLength_7cf53 1 = .ok (.iload_n 1, 1) := by decide +kernel
theorem dJ8_hugeLength_7cf53_2 : decode cJ8_hugeLength_7cf53 2 = .ok (.iadd, 1) := by decide +kernel
theorem dJ8_hugeLength_7cf53_3 : decode cJ8_hugeLength_7cf53 3 = .ok (.istore_n 2, 1) := by decide +kernel
theorem dJ8_hugeLength_7cf53_4 : decode cJ8_hugeLength_7cf53 4 = .ok (.iload_n 2, 1) := by decide +kernel
theorem dJ8_hugeLength_7cf53_5 : decode cJ8_hugeLength_7cf53 5 = .ok (.ifCond .ge 44, 3) := by decide +kernel
theorem dJ8_hugeLength_7cf53_8 : decode cJ8_hugeLength_7cf53 8 = .ok (.new 204, 3) := by decide +kernel
theorem dJ8_hugeLength_7cf53_11 : decode cJ8_hugeLength_7cf53 11 = .ok (.dup, 1) := by decide +kernel
theorem dJ8_hugeLength_7cf53_12 : decode cJ8_hugeLength_7cf53 12 = .ok (.new 89, 3) := by decide +kernel
theorem dJ8_hugeLength_7cf53_15 : decode cJ8_hugeLength_7cf53 15 = .ok (.dup, 1) := by decide +kernel
theorem dJ8_hugeLength_7cf53_16 : decode cJ8_hugeLength_7cf53 16 = .ok (.invokespecial 91, 3) := by decide +kernel
theorem dJ8_hugeLength_7cf53_19 : decode cJ8_hugeLength_7cf53 19 = .ok (.ldc 206, 2) := by decide +kernel
theorem dJ8_hugeLength_7cf53_21 : decode cJ8_hugeLength_7cf53 21 = .ok (.invokevirtual 94, 3) := by decide +kernel
theorem dJ8_hugeLength_7cf53_24 : decode cJ8_hugeLength_7cf53 24 = .ok (.iload_n 0, 1) := by decide +kernel
theorem dJ8_hugeLength_7cf53_25 : decode cJ8_hugeLength_7cf53 25 = .ok (.invokevirtual 98, 3) := by decide +kernel
theorem dJ8_hugeLength_7cf53_28 : decode cJ8_hugeLength_7cf53 28 = .ok (.ldc 208, 2) := by decide +kernel
theorem dJ8_hugeLength_7cf53_30 : decode cJ8_hugeLength_7cf53 30 = .ok (.invokevirtual 94, 3) := by decide +kernel
theorem dJ8_hugeLength_7cf53_33 : decode cJ8_hugeLength_7cf53 33 = .ok (.iload_n 1, 1) := by decide +kernel
theorem dJ8_hugeLength_7cf53_34 : decode cJ8_hugeLength_7cf53 34 = .ok (.invokevirtual 98, 3) := by decide +kernel
theorem dJ8_hugeLength_7cf53_37 : decode cJ8_hugeLength_7cf53 37 = .ok (.ldc 210, 2) := by decide +kernel
theorem dJ8_hugeLength_7cf53_39 : decode cJ8_hugeLength_7cf53 39 = .ok (.invokevirtual 94, 3) := by decide +kernel
theorem dJ8_hugeLength_7cf53_42 : decode cJ8_hugeLength_7cf53 42 = .ok (.invokevirtual 101, 3) := by decide +kernel
theorem dJ8_hugeLength_7cf53_45 : decode cJ8_hugeLength_7cf53 45 = .ok (.invokespecial 212, 3) := by decide +kernel
theorem dJ8_hugeLength_7cf53_48 : decode cJ8_hugeLength_7cf53 48 = .ok (.athrow, 1) := by decide +kernel
theorem dJ8_hugeLength_7cf53_49 : decode cJ8_hugeLength_7cf53 49 = .ok (.iload_n 2, 1) := by decide +kernel
theorem dJ8_hugeLength_7cf53_50 : decode cJ8_hugeLength_7cf53 50 = .ok (.ldc 200, 2) := by decide +kernel
theorem dJ8_hugeLength_7cf53_52 : decode cJ8_hugeLength_7cf53 52 = .ok (.if_icmp .gt 6, 3) := by decide +kernel
theorem dJ8_hugeLength_7cf53_55 : decode cJ8_hugeLength_7cf53 55 = .ok (.ldc 200, 2) := by decide +kernel
theorem dJ8_hugeLength_7cf53_57 : decode cJ8_hugeLength_7cf53 57 = .ok (.ireturn, 1) := by decide +kernel
theorem dJ8_hugeLength_7cf53_58 : decode cJ8_hugeLength_7cf53 58 = .ok (.iload_n 2, 1) := by decide +kernel
theorem dJ8_hugeLength_7cf53_59 : decode cJ8_hugeLength_7cf53 59 = .ok (.ireturn, 1) := by decide +kernel
theorem dJ3_checkIndex_8e157_0 : decode cJ3_checkIndex_8e157 0 = .ok (.iload_n 0, 1) := by decide +kernel
theorem dJ3_checkIndex_8e157_1 : decode cJ3_checkIndex_8e157 1 = .ok (.ifCond .lt 8, 3) := by decide +kernel
theorem dJ3_checkIndex_8e157_4 : decode cJ3_checkIndex_8e157 4 = .ok (.iload_n 0, 1) := by decide +kernel
theorem dJ3_checkIndex_8e157_5 : decode cJ3_checkIndex_8e157 5 = .ok (.iload_n 1, 1) := by decide +kernel
theorem dJ3_checkIndex_8e157_6 : decode cJ3_checkIndex_8e157 6 = .ok (.if_icmp .lt 10, 3) := by decide +kernel
theorem dJ3_checkIndex_8e157_9 : decode cJ3_checkIndex_8e157 9 = .ok (.aload_n 2, 1) := by decide +kernel
theorem dJ3_checkIndex_8e157_10 : decode cJ3_checkIndex_8e157 10 = .ok (.iload_n 0, 1) := by decide +kernel
theorem dJ3_checkIndex_8e157_11 : decode cJ3_checkIndex_8e157 11 = .ok (.iload_n 1, 1) := by decide +kernel
theorem dJ3_checkIndex_8e157_12 : decode cJ3_checkIndex_8e157 12 = .ok (.invokestatic 95, 3) := by decide +kernel
theorem dJ3_checkIndex_8e157_15 : decode cJ3_checkIndex_8e157 15 = .ok (.athrow, 1) := by decide +kernel
theorem dJ3_checkIndex_8e157_16 : decode cJ3_checkIndex_8e157 16 = .ok (.iload_n 0, 1) := by decide +kernel
theorem dJ3_checkIndex_8e157_17 : decode cJ3_checkIndex_8e157 17 = .ok (.ireturn, 1) := by decide +kernel
end
section
theorem dX9_in_0 : decode cX9_in 0 = .ok (.iload_n 0, 1) := by decide +kernel
theorem dX9_in_1 : decode cX9_in 1 = .ok (.iload_n 1, 1) := by decide +kernel
theorem dX9_in_2 : decode cX9_in 2 = .ok (.if_icmp .lt 12, 3) := by decide +kernel
theorem dX9_in_5 : decode cX9_in 5 = .ok (.iload_n 0, 1) := by decide +kernel
theorem dX9_in_6 : decode cX9_in 6 = .ok (.iload_n 2, 1) := by decide +kernel
theorem dX9_in_7 : decode cX9_in 7 = .ok (.if_icmp .gt 7, 3) := by decide +kernel
theorem dX9_in_10 : decode cX9_in 10 = .ok (.iconst 1, 1) := by decide +kernel
theorem dX9_in_11 : decode cX9_in 11 = .ok (.goto 4, 3) := by decide +kernel
theorem dX9_in_14 : decode cX9_in 14 = .ok (.iconst 0, 1) := by decide +kernel
theorem dX9_in_15 : decode cX9_in 15 = .ok (.ireturn, 1) := by decide +kernel
theorem dX9_least_0 : decode cX9_least 0 = .ok (.iload_n 0, 1) := by decide +kernel
theorem dX9_least_1 : decode cX9_least 1 = .ok (.iload_n 1, 1) := by decide +kernel
theorem dX9_least_2 : decode cX9_least 2 = .ok (.if_icmp .ge 7, 3) := by decide +kernel
theorem dX9_least_5 : decode cX9_least 5 = .ok (.iload_n 0, 1) := by decide +kernel
theorem dX9_least_6 : decode cX9_least 6 = .ok (.goto 4, 3) := by decide +kernel
theorem dX9_least_9 : decode cX9_least 9 = .ok (.iload_n 1, 1) := by decide +kernel
theorem dX9_least_10 : decode cX9_least 10 = .ok (.ireturn, 1) := by decide +kernel
theorem dX9_init_0 : decode cX9_init 0 = .ok (.aload_n 0, 1) := by decide +kernel
theorem dX9_init_1 : decode cX9_init 1 = .ok (.invokespecial 1, 3) := by decide +kernel
theorem dX9_init_4 : decode cX9_init 4 = .ok (.aload_n 0, 1) := by decide +kernel
theorem dX9_init_5 : decode cX9_init 5 = .ok (.iconst 4, 1) := by decide +kernel
theorem dX9_init_6 : decode cX9_init 6 = .ok (.newarray .int, 2) := by decide +kernel
theorem dX9_init_8 : decode cX9_init 8 = .ok (.putfield 7, 3) := by decide +kernel
theorem dX9_init_11 : decode cX9_init 11 = .ok (.aload_n 0, 1) := by decide +kernel
theorem dX9_init_12 : decode cX9_init 12 = .ok (.iconst 4, 1) := by decide +kernel
theorem dX9_init_13 : decode cX9_init 13 = .ok (.newarray .int, 2) := by decide +kernel
theorem dX9_init_15 : decode cX9_init 15 = .ok (.putfield 13, 3) := by decide +kernel
theorem dX9_init_18 : decode cX9_init 18 = .ok (.aload_n 0, 1) := by decide +kernel
theorem dX9_init_19 : decode cX9_init 19 = .ok (.iconst 4, 1) := by decide +kernel
theorem dX9_init_20 : decode cX9_init 20 = .ok (.newarray .boolean, 2) := by decide +kernel
theorem dX9_init_22 : decode cX9_init 22 = .ok (.putfield 16, 3) := by decide +kernel
theorem dX9_init_25 : decode cX9_init 25 = .ok (.aload_n 0, 1) := by decide +kernel
theorem dX9_init_26 : decode cX9_init 26 = .ok (.iconst 4, 1) := by decide +kernel
theorem dX9_init_27 : decode cX9_init 27 = .ok (.newarray .int, 2) := by decide +kernel
theorem dX9_init_29 : decode cX9_init 29 = .ok (.putfield 20, 3) := by decide +kernel
theorem dX9_init_32 : decode cX9_init 32 = .ok (.aload_n 0, 1) := by decide +kernel
theorem dX9_init_33 : decode cX9_init 33 = .ok (.bipush 8, 2) := by decide +kernel
theorem dX9_init_35 : decode cX9_init 35 = .ok (.newarray .int, 2) := by decide +kernel
theorem dX9_init_37 : decode cX9_init 37 = .ok (.putfield 23, 3) := by decide +kernel
theorem dX9_init_40 : decode cX9_init 40 = .ok (.aload_n 0, 1) := by decide +kernel
theorem dX9_init_41 : decode cX9_init 41 = .ok (.bipush 8, 2) := by decide +kernel
theorem dX9_init_43 : decode cX9_init 43 = .ok (.newarray .int, 2) := by decide +kernel
theorem dX9_init_45 : decode cX9_init 45 = .ok (.putfield 26, 3) := by decide +kernel
theorem dX9_init_48 : decode cX9_init 48 = .ok (.aload_n 0, 1) := by decide +kernel
theorem dX9_init_49 : decode cX9_init 49 = .ok (.bipush 32, 2) := by decide +kernel
theorem dX9_init_51 : decode cX9_init 51 = .ok (.newarray .int, 2) := by decide +kernel
theorem dX9_init_53 : decode cX9_init 53 = .ok (.putfield 29, 3) := by decide +kernel
theorem dX9_init_56 : decode cX9_init 56 = .ok (.aload_n 0, 1) := by decide +kernel
theorem dX9_init_57 : decode cX9_init 57 = .ok (.bipush 8, 2) := by decide +kernel
theorem dX9_init_59 : decode cX9_init 59 = .ok (.newarray .int, 2) := by decide +kernel
theorem dX9_init_61 : decode cX9_init 61 = .ok (.putfield 32, 3) := by decide +kernel
theorem dX9_init_64 : decode cX9_init 64 = .ok (.aload_n 0, 1) := by decide +kernel
theorem dX9_init_65 : decode cX9_init 65 = .ok (.bipush 8, 2) := by decide +kernel
theorem dX9_init_67 : decode cX9_init 67 = .ok (.newarray .int, 2) := by decide +kernel
theorem dX9_init_69 : decode cX9_init 69 = .ok (.putfield 35, 3) := by decide +kernel
theorem dX9_init_72 : decode cX9_init 72 = .ok (.aload_n 0, 1) := by decide +kernel
theorem dX9_init_73 : decode cX9_init 73 = .ok (.bipush 8, 2) := by decide +kernel
theorem dX9_init_75 : decode cX9_init 75 = .ok (.newarray .int, 2) := by decide +kernel
theorem dX9_init_77 : decode cX9_init 77 = .ok (.putfield 38, 3) := by decide +kernel
theorem dX9_init_80 : decode cX9_init 80 = .ok (.aload_n 0, 1) := by decide +kernel
theorem dX9_init_81 : decode cX9_init 81 = .ok (.bipush 10, 2) := by decide +kernel
theorem dX9_init_83 : decode cX9_init 83 = .ok (.newarray .int, 2) := by decide +kernel
theorem dX9_init_85 : decode cX9_init 85 = .ok (.putfield 41, 3) := by decide +kernel
theorem dX9_init_88 : decode cX9_init 88 = .ok (.aload_n 0, 1) := by decide +kernel
theorem dX9_init_89 : decode cX9_init 89 = .ok (.bipush 10, 2) := by decide +kernel
theorem dX9_init_91 : decode cX9_init 91 = .ok (.newarray .int, 2) := by decide +kernel
theorem dX9_init_93 : decode cX9_init 93 = .ok (.putfield 44, 3) := by decide +kernel
theorem dX9_init_96 : decode cX9_init 96 = .ok (.aload_n 0, 1) := by decide +kernel
theorem dX9_init_97 : decode cX9_init 97 = .ok (.bipush 10, 2) := by decide +kernel
theorem dX9_init_99 : decode cX9_init 99 = .ok (.newarray .int, 2) := by decide +kernel
theorem dX9_init_101 : decode cX9_init 101 = .ok (.putfield 47, 3) := by decide +kernel
theorem dX9_init_104 : decode cX9_init 104 = .ok (.aload_n 0, 1) := by decide +kernel
theorem dX9_init_105 : decode cX9_init 105 = .ok (.bipush 10, 2) := by decide +kernel
theorem dX9_init_107 : decode cX9_init 107 = .ok (.newarray .int, 2) := by decide +kernel
theorem dX9_init_109 : decode cX9_init 109 = .ok (.putfield 50, 3) := by decide +kernel
theorem dX9_init_112 : decode cX9_init 112 = .ok (.aload_n 0, 1) := by decide +kernel
theorem dX9_init_113 : decode cX9_init 113 = .ok (.bipush 10, 2) := by decide +kernel
theorem dX9_init_115 : decode cX9_init 115 = .ok (.newarray .int, 2) := by decide +kernel
theorem dX9_init_117 : decode cX9_init 117 = .ok (.putfield 53, 3) := by decide +kernel
theorem dX9_init_120 : decode cX9_init 120 = .ok (.aload_n 0, 1) := by decide +kernel
theorem dX9_init_121 : decode cX9_init 121 = .ok (.bipush 10, 2) := by decide +kernel
theorem dX9_init_123 : decode cX9_init 123 = .ok (.newarray .int, 2) := by decide +kernel
theorem dX9_init_125 : decode cX9_init 125 = .ok (.putfield 56, 3) := by decide +kernel
theorem dX9_init_128 : decode cX9_init 128 = .ok (.aload_n 0, 1) := by decide +kernel
theorem dX9_init_129 : decode cX9_init 129 = .ok (.bipush 10, 2) := by decide +kernel
theorem dX9_init_131 : decode cX9_init 131 = .ok (.newarray .int, 2) := by decide +kernel
theorem dX9_init_133 : decode cX9_init 133 = .ok (.putfield 59, 3) := by decide +kernel
theorem dX9_init_136 : decode cX9_init 136 = .ok (.aload_n 0, 1) := by decide +kernel
theorem dX9_init_137 : decode cX9_init 137 = .ok (.bipush 10, 2) := by decide +kernel
theorem dX9_init_139 : decode cX9_init 139 = .ok (.newarray .int, 2) := by decide +kernel
theorem dX9_init_141 : decode cX9_init 141 = .ok (.putfield 62, 3) := by decide +kernel
theorem dX9_init_144 : decode cX9_init 144 = .ok (.aload_n 0, 1) := by decide +kernel
theorem dX9_init_145 : decode cX9_init 145 = .ok (.bipush 10, 2) := by decide +kernel
theorem dX9_init_147 : decode cX9_init 147 = .ok (.newarray .int, 2) := by decide +kernel
theorem dX9_init_149 : decode cX9_init 149 = .ok (.putfield 65, 3) := by decide +kernel
theorem dX9_init_152 : decode cX9_init 152 = .ok (.aload_n 0, 1) := by decide +kernel
theorem dX9_init_153 : decode cX9_init 153 = .ok (.bipush 10, 2) := by decide +kernel
theorem dX9_init_155 : decode cX9_init 155 = .ok (.newarray .int, 2) := by decide +kernel
theorem dX9_init_157 : decode cX9_init 157 = .ok (.putfield 68, 3) := by decide +kernel
theorem dX9_init_160 : decode cX9_init 160 = .ok (.aload_n 0, 1) := by decide +kernel
theorem dX9_init_161 : decode cX9_init 161 = .ok (.bipush 10, 2) := by decide +kernel
theorem dX9_init_163 : decode cX9_init 163 = .ok (.newarray .int, 2) := by decide +kernel
theorem dX9_init_165 : decode cX9_init 165 = .ok (.putfield 71, 3) := by decide +kernel
theorem dX9_init_168 : decode cX9_init 168 = .ok (.aload_n 0, 1) := by decide +kernel
theorem dX9_init_169 : decode cX9_init 169 = .ok (.bipush 10, 2) := by decide +kernel
theorem dX9_init_171 : decode cX9_init 171 = .ok (.newarray .int, 2) := by decide +kernel
theorem dX9_init_173 : decode cX9_init 173 = .ok (.putfield 74, 3) := by decide +kernel
theorem dX9_init_176 : decode cX9_init 176 = .ok (.aload_n 0, 1) := by decide +kernel
theorem dX9_init_177 : decode cX9_init 177 = .ok (.bipush 10, 2) := by decide +kernel
theorem dX9_init_179 : decode cX9_init 179 = .ok (.newarray .int, 2) := by decide +kernel
theorem dX9_init_181 : decode cX9_init 181 = .ok (.putfield 77, 3) := by decide +kernel
theorem dX9_init_184 : decode cX9_init 184 = .ok (.aload_n 0, 1) := by decide +kernel
theorem dX9_init_185 : decode cX9_init 185 = .ok (.bipush 100, 2) := by decide +kernel
theorem dX9_init_187 : decode cX9_init 187 = .ok (.putfield 80, 3) := by decide +kernel
theorem dX9_init_190 : decode cX9_init 190 = .ok (.aload_n 0, 1) := by decide +kernel
theorem dX9_init_191 : decode cX9_init 191 = .ok (.bipush 7, 2) := by decide +kernel
theorem dX9_init_193 : decode cX9_init 193 = .ok (.newarray .long, 2) := by decide +kernel
theorem dX9_init_195 : decode cX9_init 195 = .ok (.putfield 84, 3) := by decide +kernel
theorem dX9_init_198 : decode cX9_init 198 = .ok (.aload_n 0, 1) := by decide +kernel
theorem dX9_init_199 : decode cX9_init 199 = .ok (.bipush 50, 2) := by decide +kernel
theorem dX9_init_201 : decode cX9_init 201 = .ok (.newarray .int, 2) := by decide +kernel
theorem dX9_init_203 : decode cX9_init 203 = .ok (.putfield 88, 3) := by decide +kernel
theorem dX9_init_206 : decode cX9_init 206 = .ok (.aload_n 0, 1) := by decide +kernel
theorem dX9_init_207 : decode cX9_init 207 = .ok (.bipush 10, 2) := by decide +kernel
theorem dX9_init_209 : decode cX9_init 209 = .ok (.newarray .int, 2) := by decide +kernel
theorem dX9_init_211 : decode cX9_init 211 = .ok (.putfield 91, 3) := by decide +kernel
theorem dX9_init_214 : decode cX9_init 214 = .ok (.aload_n 0, 1) := by decide +kernel
theorem dX9_init_215 : decode cX9_init 215 = .ok (.bipush 10, 2) := by decide +kernel
theorem dX9_init_217 : decode cX9_init 217 = .ok (.newarray .int, 2) := by decide +kernel
theorem dX9_init_219 : decode cX9_init 219 = .ok (.putfield 94, 3) := by decide +kernel
theorem dX9_init_222 : decode cX9_init 222 = .ok (.aload_n 0, 1) := by decide +kernel
theorem dX9_init_223 : decode cX9_init 223 = .ok (.sipush 600, 3) := by decide +kernel
theorem dX9_init_226 : decode cX9_init 226 = .ok (.newarray .int, 2) := by decide +kernel
theorem dX9_init_228 : decode cX9_init 228 = .ok (.putfield 97, 3) := by decide +kernel
theorem dX9_init_231 : decode cX9_init 231 = .ok (.aload_n 0, 1) := by decide +kernel
theorem dX9_init_232 : decode cX9_init 232 = .ok (.bipush 10, 2) := by decide +kernel
theorem dX9_init_234 : decode cX9_init 234 = .ok (.newarray .boolean, 2) := by decide +kernel
theorem dX9_init_236 : decode cX9_init 236 = .ok (.putfield 100, 3) := by decide +kernel
theorem dX9_init_239 : decode cX9_init 239 = .ok (.aload_n 0, 1) := by decide +kernel
theorem dX9_init_240 : decode cX9_init 240 = .ok (.bipush 64, 2) := by decide +kernel
theorem dX9_init_242 : decode cX9_init 242 = .ok (.newarray .int, 2) := by decide +kernel
theorem dX9_init_244 : decode cX9_init 244 = .ok (.putfield 103, 3) := by decide +kernel
theorem dX9_init_247 : decode cX9_init 247 = .ok (.aload_n 0, 1) := by decide +kernel
theorem dX9_init_248 : decode cX9_init 248 = .ok (.bipush 64, 2) := by decide +kernel
theorem dX9_init_250 : decode cX9_init 250 = .ok (.newarray .int, 2) := by decide +kernel
theorem dX9_init_252 : decode cX9_init 252 = .ok (.putfield 106, 3) := by decide +kernel
theorem dX9_init_255 : decode cX9_init 255 = .ok (.aload_n 0, 1) := by decide +kernel
theorem dX9_init_256 : decode cX9_init 256 = .ok (.bipush 10, 2) := by decide +kernel
theorem dX9_init_258 : decode cX9_init 258 = .ok (.newarray .int, 2) := by decide +kernel
theorem dX9_init_260 : decode cX9_init 260 = .ok (.putfield 109, 3) := by decide +kernel
theorem dX9_init_263 : decode cX9_init 263 = .ok (.iconst 0, 1) := by decide +kernel
theorem dX9_init_264 : decode cX9_init 264 = .ok (.istore_n 1, 1) := by decide +kernel
theorem dX9_init_265 : decode cX9_init 265 = .ok (.iload_n 1, 1) := by decide +kernel
theorem dX9_init_266 : decode cX9_init 266 = .ok (.bipush 10, 2) := by decide +kernel
theorem dX9_init_268 : decode cX9_init 268 = .ok (.if_icmp .ge 24, 3) := by decide +kernel
theorem dX9_init_271 : decode cX9_init 271 = .ok (.aload_n 0, 1) := by decide +kernel
theorem dX9_init_272 : decode cX9_init 272 = .ok (.getfield 91, 3) := by decide +kernel
theorem dX9_init_275 : decode cX9_init 275 = .ok (.iload_n 1, 1) := by decide +kernel
theorem dX9_init_276 : decode cX9_init 276 = .ok (.iconst 1, 1) := by decide +kernel
theorem dX9_init_277 : decode cX9_init 277 = .ok (.iastore, 1) := by decide +kernel
theorem dX9_init_278 : decode cX9_init 278 = .ok (.aload_n 0, 1) := by decide +kernel
theorem dX9_init_279 : decode cX9_init 279 = .ok (.getfield 109, 3) := by decide +kernel
theorem dX9_init_282 : decode cX9_init 282 = .ok (.iload_n 1, 1) := by decide +kernel
theorem dX9_init_283 : decode cX9_init 283 = .ok (.bipush (-4), 2) := by decide +kernel
theorem dX9_init_285 : decode cX9_init 285 = .ok (.iastore, 1) := by decide +kernel
theorem dX9_init_286 : decode cX9_init 286 = .ok (.iinc 1 1, 3) := by decide +kernel
theorem dX9_init_289 : decode cX9_init 289 = .ok (.goto (-24), 3) := by decide +kernel
theorem dX9_init_292 : decode cX9_init 292 = .ok (.return_, 1) := by decide +kernel
theorem dX9_fountain_0 : decode cX9_fountain 0 = .ok (.iload_n 1, 1) := by decide +kernel
theorem dX9_fountain_1 : decode cX9_fountain 1 = .ok (.iconst 1, 1) := by decide +kernel
theorem dX9_fountain_2 : decode cX9_fountain 2 = .ok (.bipush 20, 2) := by decide +kernel
theorem dX9_fountain_4 : decode cX9_fountain 4 = .ok (.invokestatic 112, 3) := by decide +kernel
theorem dX9_fountain_7 : decode cX9_fountain 7 = .ok (.ifCond .ne 5, 3) := by decide +kernel
theorem dX9_fountain_10 : decode cX9_fountain 10 = .ok (.iconst (-1), 1) := by decide +kernel
theorem dX9_fountain_11 : decode cX9_fountain 11 = .ok (.ireturn, 1) := by decide +kernel
theorem dX9_fountain_12 : decode cX9_fountain 12 = .ok (.aload_n 0, 1) := by decide +kernel
theorem dX9_fountain_13 : decode cX9_fountain 13 = .ok (.getfield 116, 3) := by decide +kernel
theorem dX9_fountain_16 : decode cX9_fountain 16 = .ok (.ifCond .le 6, 3) := by decide +kernel
theorem dX9_fountain_19 : decode cX9_fountain 19 = .ok (.bipush (-2), 2) := by decide +kernel
theorem dX9_fountain_21 : decode cX9_fountain 21 = .ok (.ireturn, 1) := by decide +kernel
theorem dX9_fountain_22 : decode cX9_fountain 22 = .ok (.aload_n 0, 1) := by decide +kernel
theorem dX9_fountain_23 : decode cX9_fountain 23 = .ok (.getfield 119, 3) := by decide +kernel
theorem dX9_fountain_26 : decode cX9_fountain 26 = .ok (.iconst 4, 1) := by decide +kernel
theorem dX9_fountain_27 : decode cX9_fountain 27 = .ok (.if_icmp .ne 6, 3) := by decide +kernel
theorem dX9_fountain_30 : decode cX9_fountain 30 = .ok (.bipush (-3), 2) := by decide +kernel
theorem dX9_fountain_32 : decode cX9_fountain 32 = .ok (.ireturn, 1) := by decide +kernel
theorem dX9_fountain_33 : decode cX9_fountain 33 = .ok (.aload_n 0, 1) := by decide +kernel
theorem dX9_fountain_34 : decode cX9_fountain 34 = .ok (.getfield 7, 3) := by decide +kernel
theorem dX9_fountain_37 : decode cX9_fountain 37 = .ok (.aload_n 0, 1) := by decide +kernel
theorem dX9_fountain_38 : decode cX9_fountain 38 = .ok (.getfield 119, 3) := by decide +kernel
theorem dX9_fountain_41 : decode cX9_fountain 41 = .ok (.iload_n 1, 1) := by decide +kernel
theorem dX9_fountain_42 : decode cX9_fountain 42 = .ok (.iastore, 1) := by decide +kernel
theorem dX9_fountain_43 : decode cX9_fountain 43 = .ok (.aload_n 0, 1) := by decide +kernel
theorem dX9_fountain_44 : decode cX9_fountain 44 = .ok (.getfield 16, 3) := by decide +kernel
theorem dX9_fountain_47 : decode cX9_fountain 47 = .ok (.aload_n 0, 1) := by decide +kernel
theorem dX9_fountain_48 : decode cX9_fountain 48 = .ok (.getfield 119, 3) := by decide +kernel
theorem dX9_fountain_51 : decode cX9_fountain 51 = .ok (.iconst 1, 1) := by decide +kernel
theorem dX9_fountain_52 : decode cX9_fountain 52 = .ok (.bastore, 1) := by decide +kernel
theorem dX9_fountain_53 : decode cX9_fountain 53 = .ok (.aload_n 0, 1) := by decide +kernel
theorem dX9_fountain_54 : decode cX9_fountain 54 = .ok (.dup, 1) := by decide +kernel
theorem dX9_fountain_55 : decode cX9_fountain 55 = .ok (.getfield 119, 3) := by decide +kernel
theorem dX9_fountain_58 : decode cX9_fountain 58 = .ok (.iconst 1, 1) := by decide +kernel
theorem dX9_fountain_59 : decode cX9_fountain 59 = .ok (.iadd, 1) := by decide +kernel
theorem dX9_fountain_60 : decode cX9_fountain 60 = .ok (.putfield 119, 3) := by decide +kernel
theorem dX9_fountain_63 : decode cX9_fountain 63 = .ok (.aload_n 0, 1) := by decide +kernel
theorem dX9_fountain_64 : decode cX9_fountain 64 = .ok (.getfield 119, 3) := by decide +kernel
theorem dX9_fountain_67 : decode cX9_fountain 67 = .ok (.iconst 1, 1) := by decide +kernel
theorem dX9_fountain_68 : decode cX9_fountain 68 = .ok (.isub, 1) := by decide +kernel
theorem dX9_fountain_69 : decode cX9_fountain 69 = .ok (.ireturn, 1) := by decide +kernel
theorem dX9_isMinutes_0 : decode cX9_isMinutes 0 = .ok (.iload_n 1, 1) := by decide +kernel
theorem dX9_isMinutes_1 : decode cX9_isMinutes 1 = .ok (.aload_n 0, 1) := by decide +kernel
theorem dX9_isMinutes_2 : decode cX9_isMinutes 2 = .ok (.getfield 119, 3) := by decide +kernel
theorem dX9_isMinutes_5 : decode cX9_isMinutes 5 = .ok (.if_icmp .ge 13, 3) := by decide +kernel
theorem dX9_isMinutes_8 : decode cX9_isMinutes 8 = .ok (.iload_n 2, 1) := by decide +kernel
theorem dX9_isMinutes_9 : decode cX9_isMinutes 9 = .ok (.iconst 1, 1) := by decide +kernel
theorem dX9_isMinutes_10 : decode cX9_isMinutes 10 = .ok (.bipush 30, 2) := by decide +kernel
theorem dX9_isMinutes_12 : decode cX9_isMinutes 12 = .ok (.invokestatic 112, 3) := by decide +kernel
theorem dX9_isMinutes_15 : decode cX9_isMinutes 15 = .ok (.ifCond .eq 7, 3) := by decide +kernel
theorem dX9_isMinutes_18 : decode cX9_isMinutes 18 = .ok (.iconst 1, 1) := by decide +kernel
theorem dX9_isMinutes_19 : decode cX9_isMinutes 19 = .ok (.goto 4, 3) := by decide +kernel
theorem dX9_isMinutes_22 : decode cX9_isMinutes 22 = .ok (.iconst 0, 1) := by decide +kernel
theorem dX9_isMinutes_23 : decode cX9_isMinutes 23 = .ok (.ireturn, 1) := by decide +kernel
theorem dX9_jar_0 : decode cX9_jar 0 = .ok (.iload_n 1, 1) := by decide +kernel
theorem dX9_jar_1 : decode cX9_jar 1 = .ok (.iconst 0, 1) := by decide +kernel
theorem dX9_jar_2 : decode cX9_jar 2 = .ok (.bipush 9, 2) := by decide +kernel
theorem dX9_jar_4 : decode cX9_jar 4 = .ok (.invokestatic 112, 3) := by decide +kernel
theorem dX9_jar_7 : decode cX9_jar 7 = .ok (.ifCond .eq 53, 3) := by decide +kernel
theorem dX9_jar_10 : decode cX9_jar 10 = .ok (.iload_n 2, 1) := by decide +kernel
theorem dX9_jar_11 : decode cX9_jar 11 = .ok (.iconst 1, 1) := by decide +kernel
theorem dX9_jar_12 : decode cX9_jar 12 = .ok (.sipush 200, 3) := by decide +kernel
theorem dX9_jar_15 : decode cX9_jar 15 = .ok (.invokestatic 112, 3) := by decide +kernel
theorem dX9_jar_18 : decode cX9_jar 18 = .ok (.ifCond .eq 42, 3) := by decide +kernel
theorem dX9_jar_21 : decode cX9_jar 21 = .ok (.aload_n 0, 1) := by decide +kernel
theorem dX9_jar_22 : decode cX9_jar 22 = .ok (.iconst 0, 1) := by decide +kernel
theorem dX9_jar_23 : decode cX9_jar 23 = .ok (.iload_n 3, 1) := by decide +kernel
theorem dX9_jar_24 : decode cX9_jar 24 = .ok (.invokevirtual 122, 3) := by decide +kernel
theorem dX9_jar_27 : decode cX9_jar 27 = .ok (.ifCond .eq 33, 3) := by decide +kernel
theorem dX9_jar_30 : decode cX9_jar 30 = .ok (.aload_n 0, 1) := by decide +kernel
theorem dX9_jar_31 : decode cX9_jar 31 = .ok (.iconst 1, 1) := by decide +kernel
theorem dX9_jar_32 : decode cX9_jar 32 = .ok (.iload 4, 2) := by decide +kernel
theorem dX9_jar_34 : decode cX9_jar 34 = .ok (.invokevirtual 122, 3) := by decide +kernel
theorem dX9_jar_37 : decode cX9_jar 37 = .ok (.ifCond .eq 23, 3) := by decide +kernel
theorem dX9_jar_40 : decode cX9_jar 40 = .ok (.aload_n 0, 1) := by decide +kernel
theorem dX9_jar_41 : decode cX9_jar 41 = .ok (.iconst 2, 1) := by decide +kernel
theorem dX9_jar_42 : decode cX9_jar 42 = .ok (.iload 5, 2) := by decide +kernel
theorem dX9_jar_44 : decode cX9_jar 44 = .ok (.invokevirtual 122, 3) := by decide +kernel
theorem dX9_jar_47 : decode cX9_jar 47 = .ok (.ifCond .eq 13, 3) := by decide +kernel
theorem dX9_jar_50 : decode cX9_jar 50 = .ok (.aload_n 0, 1) := by decide +kernel
theorem dX9_jar_51 : decode cX9_jar 51 = .ok (.iconst 3, 1) := by decide +kernel
theorem dX9_jar_52 : decode cX9_jar 52 = .ok (.iload 6, 2) := by decide +kernel
theorem dX9_jar_54 : decode cX9_jar 54 = .ok (.invokevirtual 122, 3) := by decide +kernel
theorem dX9_jar_57 : decode cX9_jar 57 = .ok (.ifCond .ne 5, 3) := by decide +kernel
theorem dX9_jar_60 : decode cX9_jar 60 = .ok (.iconst (-1), 1) := by decide +kernel
theorem dX9_jar_61 : decode cX9_jar 61 = .ok (.ireturn, 1) := by decide +kernel
theorem dX9_jar_62 : decode cX9_jar 62 = .ok (.aload_n 0, 1) := by decide +kernel
theorem dX9_jar_63 : decode cX9_jar 63 = .ok (.getfield 119, 3) := by decide +kernel
theorem dX9_jar_66 : decode cX9_jar 66 = .ok (.ifCond .ne 6, 3) := by decide +kernel
theorem dX9_jar_69 : decode cX9_jar 69 = .ok (.bipush (-2), 2) := by decide +kernel
theorem dX9_jar_71 : decode cX9_jar 71 = .ok (.ireturn, 1) := by decide +kernel
theorem dX9_jar_72 : decode cX9_jar 72 = .ok (.aload_n 0, 1) := by decide +kernel
theorem dX9_jar_73 : decode cX9_jar 73 = .ok (.getfield 116, 3) := by decide +kernel
theorem dX9_jar_76 : decode cX9_jar 76 = .ok (.bipush 8, 2) := by decide +kernel
theorem dX9_jar_78 : decode cX9_jar 78 = .ok (.if_icmp .ne 6, 3) := by decide +kernel
theorem dX9_jar_81 : decode cX9_jar 81 = .ok (.bipush (-3), 2) := by decide +kernel
theorem dX9_jar_83 : decode cX9_jar 83 = .ok (.ireturn, 1) := by decide +kernel
theorem dX9_jar_84 : decode cX9_jar 84 = .ok (.aload_n 0, 1) := by decide +kernel
theorem dX9_jar_85 : decode cX9_jar 85 = .ok (.getfield 23, 3) := by decide +kernel
theorem dX9_jar_88 : decode cX9_jar 88 = .ok (.aload_n 0, 1) := by decide +kernel
theorem dX9_jar_89 : decode cX9_jar 89 = .ok (.getfield 116, 3) := by decide +kernel
theorem dX9_jar_92 : decode cX9_jar 92 = .ok (.iload_n 1, 1) := by decide +kernel
theorem dX9_jar_93 : decode cX9_jar 93 = .ok (.iastore, 1) := by decide +kernel
theorem dX9_jar_94 : decode cX9_jar 94 = .ok (.aload_n 0, 1) := by decide +kernel
theorem dX9_jar_95 : decode cX9_jar 95 = .ok (.getfield 26, 3) := by decide +kernel
theorem dX9_jar_98 : decode cX9_jar 98 = .ok (.aload_n 0, 1) := by decide +kernel
theorem dX9_jar_99 : decode cX9_jar 99 = .ok (.getfield 116, 3) := by decide +kernel
theorem dX9_jar_102 : decode cX9_jar 102 = .ok (.iload_n 2, 1) := by decide +kernel
theorem dX9_jar_103 : decode cX9_jar 103 = .ok (.iastore, 1) := by decide +kernel
theorem dX9_jar_104 : decode cX9_jar 104 = .ok (.aload_n 0, 1) := by decide +kernel
theorem dX9_jar_105 : decode cX9_jar 105 = .ok (.getfield 29, 3) := by decide +kernel
theorem dX9_jar_108 : decode cX9_jar 108 = .ok (.iconst 4, 1) := by decide +kernel
theorem dX9_jar_109 : decode cX9_jar 109 = .ok (.aload_n 0, 1) := by decide +kernel
theorem dX9_jar_110 : decode cX9_jar 110 = .ok (.getfield 116, 3) := by decide +kernel
theorem dX9_jar_113 : decode cX9_jar 113 = .ok (.imul, 1) := by decide +kernel
theorem dX9_jar_114 : decode cX9_jar 114 = .ok (.iload_n 3, 1) := by decide +kernel
theorem dX9_jar_115 : decode cX9_jar 115 = .ok (.iastore, 1) := by decide +kernel
theorem dX9_jar_116 : decode cX9_jar 116 = .ok (.aload_n 0, 1) := by decide +kernel
theorem dX9_jar_117 : decode cX9_jar 117 = .ok (.getfield 29, 3) := by decide +kernel
theorem dX9_jar_120 : decode cX9_jar 120 = .ok (.iconst 4, 1) := by decide +kernel
theorem dX9_jar_121 : decode cX9_jar 121 = .ok (.aload_n 0, 1) := by decide +kernel
theorem dX9_jar_122 : decode cX9_jar 122 = .ok (.getfield 116, 3) := by decide +kernel
theorem dX9_jar_125 : decode cX9_jar 125 = .ok (.imul, 1) := by decide +kernel
theorem dX9_jar_126 : decode cX9_jar 126 = .ok (.iconst 1, 1) := by decide +kernel
theorem dX9_jar_127 : decode cX9_jar 127 = .ok (.iadd, 1) := by decide +kernel
theorem dX9_jar_128 : decode cX9_jar 128 = .ok (.iload 4, 2) := by decide +kernel
theorem dX9_jar_130 : decode cX9_jar 130 = .ok (.iastore, 1) := by decide +kernel
theorem dX9_jar_131 : decode cX9_jar 131 = .ok (.aload_n 0, 1) := by decide +kernel
theorem dX9_jar_132 : decode cX9_jar 132 = .ok (.getfield 29, 3) := by decide +kernel
theorem dX9_jar_135 : decode cX9_jar 135 = .ok (.iconst 4, 1) := by decide +kernel
theorem dX9_jar_136 : decode cX9_jar 136 = .ok (.aload_n 0, 1) := by decide +kernel
theorem dX9_jar_137 : decode cX9_jar 137 = .ok (.getfield 116, 3) := by decide +kernel
theorem dX9_jar_140 : decode cX9_jar 140 = .ok (.imul, 1) := by decide +kernel
theorem dX9_jar_141 : decode cX9_jar 141 = .ok (.iconst 2, 1) := by decide +kernel
theorem dX9_jar_142 : decode cX9_jar 142 = .ok (.iadd, 1) := by decide +kernel
theorem dX9_jar_143 : decode cX9_jar 143 = .ok (.iload 5, 2) := by decide +kernel
theorem dX9_jar_145 : decode cX9_jar 145 = .ok (.iastore, 1) := by decide +kernel
theorem dX9_jar_146 : decode cX9_jar 146 = .ok (.aload_n 0, 1) := by decide +kernel
theorem dX9_jar_147 : decode cX9_jar 147 = .ok (.getfield 29, 3) := by decide +kernel
theorem dX9_jar_150 : decode cX9_jar 150 = .ok (.iconst 4, 1) := by decide +kernel
theorem dX9_jar_151 : decode cX9_jar 151 = .ok (.aload_n 0, 1) := by decide +kernel
theorem dX9_jar_152 : decode cX9_jar 152 = .ok (.getfield 116, 3) := by decide +kernel
theorem dX9_jar_155 : decode cX9_jar 155 = .ok (.imul, 1) := by decide +kernel
theorem dX9_jar_156 : decode cX9_jar 156 = .ok (.iconst 3, 1) := by decide +kernel
theorem dX9_jar_157 : decode cX9_jar 157 = .ok (.iadd, 1) := by decide +kernel
theorem dX9_jar_158 : decode cX9_jar 158 = .ok (.iload 6, 2) := by decide +kernel
theorem dX9_jar_160 : decode cX9_jar 160 = .ok (.iastore, 1) := by decide +kernel
theorem dX9_jar_161 : decode cX9_jar 161 = .ok (.aload_n 0, 1) := by decide +kernel
theorem dX9_jar_162 : decode cX9_jar 162 = .ok (.dup, 1) := by decide +kernel
theorem dX9_jar_163 : decode cX9_jar 163 = .ok (.getfield 116, 3) := by decide +kernel
theorem dX9_jar_166 : decode cX9_jar 166 = .ok (.iconst 1, 1) := by decide +kernel
theorem dX9_jar_167 : decode cX9_jar 167 = .ok (.iadd, 1) := by decide +kernel
theorem dX9_jar_168 : decode cX9_jar 168 = .ok (.putfield 116, 3) := by decide +kernel
theorem dX9_jar_171 : decode cX9_jar 171 = .ok (.aload_n 0, 1) := by decide +kernel
theorem dX9_jar_172 : decode cX9_jar 172 = .ok (.getfield 116, 3) := by decide +kernel
theorem dX9_jar_175 : decode cX9_jar 175 = .ok (.iconst 1, 1) := by decide +kernel
theorem dX9_jar_176 : decode cX9_jar 176 = .ok (.isub, 1) := by decide +kernel
theorem dX9_jar_177 : decode cX9_jar 177 = .ok (.ireturn, 1) := by decide +kernel
theorem dX9_isFountain_0 : decode cX9_isFountain 0 = .ok (.iload_n 1, 1) := by decide +kernel
theorem dX9_isFountain_1 : decode cX9_isFountain 1 = .ok (.iconst 0, 1) := by decide +kernel
theorem dX9_isFountain_2 : decode cX9_isFountain 2 = .ok (.aload_n 0, 1) := by decide +kernel
theorem dX9_isFountain_3 : decode cX9_isFountain 3 = .ok (.getfield 119, 3) := by decide +kernel
theorem dX9_isFountain_6 : decode cX9_isFountain 6 = .ok (.iconst 1, 1) := by decide +kernel
theorem dX9_isFountain_7 : decode cX9_isFountain 7 = .ok (.isub, 1) := by decide +kernel
theorem dX9_isFountain_8 : decode cX9_isFountain 8 = .ok (.invokestatic 112, 3) := by decide +kernel
theorem dX9_isFountain_11 : decode cX9_isFountain 11 = .ok (.ireturn, 1) := by decide +kernel
theorem dX9_isJar_0 : decode cX9_isJar 0 = .ok (.iload_n 1, 1) := by decide +kernel
theorem dX9_isJar_1 : decode cX9_isJar 1 = .ok (.iconst 0, 1) := by decide +kernel
theorem dX9_isJar_2 : decode cX9_isJar 2 = .ok (.aload_n 0, 1) := by decide +kernel
theorem dX9_isJar_3 : decode cX9_isJar 3 = .ok (.getfield 116, 3) := by decide +kernel
theorem dX9_isJar_6 : decode cX9_isJar 6 = .ok (.iconst 1, 1) := by decide +kernel
theorem dX9_isJar_7 : decode cX9_isJar 7 = .ok (.isub, 1) := by decide +kernel
theorem dX9_isJar_8 : decode cX9_isJar 8 = .ok (.invokestatic 112, 3) := by decide +kernel
theorem dX9_isJar_11 : decode cX9_isJar 11 = .ok (.ireturn, 1) := by decide +kernel
theorem dX9_isMan_0 : decode cX9_isMan 0 = .ok (.iload_n 1, 1) := by decide +kernel
theorem dX9_isMan_1 : decode cX9_isMan 1 = .ok (.iconst 0, 1) := by decide +kernel
theorem dX9_isMan_2 : decode cX9_isMan 2 = .ok (.aload_n 0, 1) := by decide +kernel
theorem dX9_isMan_3 : decode cX9_isMan 3 = .ok (.getfield 126, 3) := by decide +kernel
theorem dX9_isMan_6 : decode cX9_isMan 6 = .ok (.iconst 1, 1) := by decide +kernel
theorem dX9_isMan_7 : decode cX9_isMan 7 = .ok (.isub, 1) := by decide +kernel
theorem dX9_isMan_8 : decode cX9_isMan 8 = .ok (.invokestatic 112, 3) := by decide +kernel
theorem dX9_isMan_11 : decode cX9_isMan 11 = .ok (.ireturn, 1) := by decide +kernel
theorem dX9_drinks_0 : decode cX9_drinks 0 = .ok (.aload_n 0, 1) := by decide +kernel
theorem dX9_drinks_1 : decode cX9_drinks 1 = .ok (.iload_n 1, 1) := by decide +kernel
theorem dX9_drinks_2 : decode cX9_drinks 2 = .ok (.invokevirtual 129, 3) := by decide +kernel
theorem dX9_drinks_5 : decode cX9_drinks 5 = .ok (.ifCond .eq 13, 3) := by decide +kernel
theorem dX9_drinks_8 : decode cX9_drinks 8 = .ok (.iload_n 2, 1) := by decide +kernel
theorem dX9_drinks_9 : decode cX9_drinks 9 = .ok (.iconst 0, 1) := by decide +kernel
theorem dX9_drinks_10 : decode cX9_drinks 10 = .ok (.bipush 9, 2) := by decide +kernel
theorem dX9_drinks_12 : decode cX9_drinks 12 = .ok (.invokestatic 112, 3) := by decide +kernel
theorem dX9_drinks_15 : decode cX9_drinks 15 = .ok (.ifCond .ne 5, 3) := by decide +kernel
theorem dX9_drinks_18 : decode cX9_drinks 18 = .ok (.iconst (-1), 1) := by decide +kernel
theorem dX9_drinks_19 : decode cX9_drinks 19 = .ok (.ireturn, 1) := by decide +kernel
theorem dX9_drinks_20 : decode cX9_drinks 20 = .ok (.aload_n 0, 1) := by decide +kernel
theorem dX9_drinks_21 : decode cX9_drinks 21 = .ok (.getfield 35, 3) := by decide +kernel
theorem dX9_drinks_24 : decode cX9_drinks 24 = .ok (.iload_n 1, 1) := by decide +kernel
theorem dX9_drinks_25 : decode cX9_drinks 25 = .ok (.iaload, 1) := by decide +kernel
theorem dX9_drinks_26 : decode cX9_drinks 26 = .ok (.istore_n 3, 1) := by decide +kernel
theorem dX9_drinks_27 : decode cX9_drinks 27 = .ok (.aload_n 0, 1) := by decide +kernel
theorem dX9_drinks_28 : decode cX9_drinks 28 = .ok (.getfield 35, 3) := by decide +kernel
theorem dX9_drinks_31 : decode cX9_drinks 31 = .ok (.iload_n 1, 1) := by decide +kernel
theorem dX9_drinks_32 : decode cX9_drinks 32 = .ok (.iload_n 2, 1) := by decide +kernel
theorem dX9_drinks_33 : decode cX9_drinks 33 = .ok (.iastore, 1) := by decide +kernel
theorem dX9_drinks_34 : decode cX9_drinks 34 = .ok (.iload_n 3, 1) := by decide +kernel
theorem dX9_drinks_35 : decode cX9_drinks 35 = .ok (.ireturn, 1) := by decide +kernel
theorem dX9_canGo_0 : decode cX9_canGo 0 = .ok (.iload_n 1, 1) := by decide +kernel
theorem dX9_canGo_1 : decode cX9_canGo 1 = .ok (.ifCond .gt 13, 3) := by decide +kernel
theorem dX9_canGo_4 : decode cX9_canGo 4 = .ok (.aload_n 0, 1) := by decide +kernel
theorem dX9_canGo_5 : decode cX9_canGo 5 = .ok (.getfield 23, 3) := by decide +kernel
theorem dX9_canGo_8 : decode cX9_canGo 8 = .ok (.iload_n 2, 1) := by decide +kernel
theorem dX9_canGo_9 : decode cX9_canGo 9 = .ok (.iaload, 1) := by decide +kernel
theorem dX9_canGo_10 : decode cX9_canGo 10 = .ok (.iconst 4, 1) := by decide +kernel
theorem dX9_canGo_11 : decode cX9_canGo 11 = .ok (.if_icmp .gt 7, 3) := by decide +kernel
theorem dX9_canGo_14 : decode cX9_canGo 14 = .ok (.iconst 1, 1) := by decide +kernel
theorem dX9_canGo_15 : decode cX9_canGo 15 = .ok (.goto 4, 3) := by decide +kernel
theorem dX9_canGo_18 : decode cX9_canGo 18 = .ok (.iconst 0, 1) := by decide +kernel
theorem dX9_canGo_19 : decode cX9_canGo 19 = .ok (.ireturn, 1) := by decide +kernel
theorem dX9_joinRow_0 : decode cX9_joinRow 0 = .ok (.aload_n 0, 1) := by decide +kernel
theorem dX9_joinRow_1 : decode cX9_joinRow 1 = .ok (.getfield 59, 3) := by decide +kernel
theorem dX9_joinRow_4 : decode cX9_joinRow 4 = .ok (.iload_n 1, 1) := by decide +kernel
theorem dX9_joinRow_5 : decode cX9_joinRow 5 = .ok (.iconst 0, 1) := by decide +kernel
theorem dX9_joinRow_6 : decode cX9_joinRow 6 = .ok (.iastore, 1) := by decide +kernel
theorem dX9_joinRow_7 : decode cX9_joinRow 7 = .ok (.aload_n 0, 1) := by decide +kernel
theorem dX9_joinRow_8 : decode cX9_joinRow 8 = .ok (.getfield 62, 3) := by decide +kernel
theorem dX9_joinRow_11 : decode cX9_joinRow 11 = .ok (.iload_n 1, 1) := by decide +kernel
theorem dX9_joinRow_12 : decode cX9_joinRow 12 = .ok (.iconst 0, 1) := by decide +kernel
theorem dX9_joinRow_13 : decode cX9_joinRow 13 = .ok (.iastore, 1) := by decide +kernel
theorem dX9_joinRow_14 : decode cX9_joinRow 14 = .ok (.aload_n 0, 1) := by decide +kernel
theorem dX9_joinRow_15 : decode cX9_joinRow 15 = .ok (.getfield 71, 3) := by decide +kernel
theorem dX9_joinRow_18 : decode cX9_joinRow 18 = .ok (.iload_n 1, 1) := by decide +kernel
theorem dX9_joinRow_19 : decode cX9_joinRow 19 = .ok (.aload_n 0, 1) := by decide +kernel
theorem dX9_joinRow_20 : decode cX9_joinRow 20 = .ok (.getfield 133, 3) := by decide +kernel
theorem dX9_joinRow_23 : decode cX9_joinRow 23 = .ok (.iastore, 1) := by decide +kernel
theorem dX9_joinRow_24 : decode cX9_joinRow 24 = .ok (.aload_n 0, 1) := by decide +kernel
theorem dX9_joinRow_25 : decode cX9_joinRow 25 = .ok (.dup, 1) := by decide +kernel
theorem dX9_joinRow_26 : decode cX9_joinRow 26 = .ok (.getfield 133, 3) := by decide +kernel
theorem dX9_joinRow_29 : decode cX9_joinRow 29 = .ok (.iconst 1, 1) := by decide +kernel
theorem dX9_joinRow_30 : decode cX9_joinRow 30 = .ok (.iadd, 1) := by decide +kernel
theorem dX9_joinRow_31 : decode cX9_joinRow 31 = .ok (.putfield 133, 3) := by decide +kernel
theorem dX9_joinRow_34 : decode cX9_joinRow 34 = .ok (.return_, 1) := by decide +kernel
theorem dX9_man_0 : decode cX9_man 0 = .ok (.iload_n 1, 1) := by decide +kernel
theorem dX9_man_1 : decode cX9_man 1 = .ok (.iconst 0, 1) := by decide +kernel
theorem dX9_man_2 : decode cX9_man 2 = .ok (.iconst 2, 1) := by decide +kernel
theorem dX9_man_3 : decode cX9_man 3 = .ok (.invokestatic 112, 3) := by decide +kernel
theorem dX9_man_6 : decode cX9_man 6 = .ok (.ifCond .eq 30, 3) := by decide +kernel
theorem dX9_man_9 : decode cX9_man 9 = .ok (.iload_n 2, 1) := by decide +kernel
theorem dX9_man_10 : decode cX9_man 10 = .ok (.iconst 1, 1) := by decide +kernel
theorem dX9_man_11 : decode cX9_man 11 = .ok (.bipush 40, 2) := by decide +kernel
theorem dX9_man_13 : decode cX9_man 13 = .ok (.invokestatic 112, 3) := by decide +kernel
theorem dX9_man_16 : decode cX9_man 16 = .ok (.ifCond .eq 20, 3) := by decide +kernel
theorem dX9_man_19 : decode cX9_man 19 = .ok (.aload_n 0, 1) := by decide +kernel
theorem dX9_man_20 : decode cX9_man 20 = .ok (.iload_n 3, 1) := by decide +kernel
theorem dX9_man_21 : decode cX9_man 21 = .ok (.invokevirtual 136, 3) := by decide +kernel
theorem dX9_man_24 : decode cX9_man 24 = .ok (.ifCond .eq 12, 3) := by decide +kernel
theorem dX9_man_27 : decode cX9_man 27 = .ok (.aload_n 0, 1) := by decide +kernel
theorem dX9_man_28 : decode cX9_man 28 = .ok (.iload 4, 2) := by decide +kernel
theorem dX9_man_30 : decode cX9_man 30 = .ok (.invokevirtual 129, 3) := by decide +kernel
theorem dX9_man_33 : decode cX9_man 33 = .ok (.ifCond .ne 5, 3) := by decide +kernel
theorem dX9_man_36 : decode cX9_man 36 = .ok (.iconst (-1), 1) := by decide +kernel
theorem dX9_man_37 : decode cX9_man 37 = .ok (.ireturn, 1) := by decide +kernel
theorem dX9_man_38 : decode cX9_man 38 = .ok (.aload_n 0, 1) := by decide +kernel
theorem dX9_man_39 : decode cX9_man 39 = .ok (.iload_n 1, 1) := by decide +kernel
theorem dX9_man_40 : decode cX9_man 40 = .ok (.iload 4, 2) := by decide +kernel
theorem dX9_man_42 : decode cX9_man 42 = .ok (.invokevirtual 139, 3) := by decide +kernel
theorem dX9_man_45 : decode cX9_man 45 = .ok (.ifCond .ne 6, 3) := by decide +kernel
theorem dX9_man_48 : decode cX9_man 48 = .ok (.bipush (-2), 2) := by decide +kernel
theorem dX9_man_50 : decode cX9_man 50 = .ok (.ireturn, 1) := by decide +kernel
theorem dX9_man_51 : decode cX9_man 51 = .ok (.aload_n 0, 1) := by decide +kernel
theorem dX9_man_52 : decode cX9_man 52 = .ok (.getfield 126, 3) := by decide +kernel
theorem dX9_man_55 : decode cX9_man 55 = .ok (.bipush 10, 2) := by decide +kernel
theorem dX9_man_57 : decode cX9_man 57 = .ok (.if_icmp .ne 6, 3) := by decide +kernel
theorem dX9_man_60 : decode cX9_man 60 = .ok (.bipush (-3), 2) := by decide +kernel
theorem dX9_man_62 : decode cX9_man 62 = .ok (.ireturn, 1) := by decide +kernel
theorem dX9_man_63 : decode cX9_man 63 = .ok (.aload_n 0, 1) := by decide +kernel
theorem dX9_man_64 : decode cX9_man 64 = .ok (.getfield 41, 3) := by decide +kernel
theorem dX9_man_67 : decode cX9_man 67 = .ok (.aload_n 0, 1) := by decide +kernel
theorem dX9_man_68 : decode cX9_man 68 = .ok (.getfield 126, 3) := by decide +kernel
theorem dX9_man_71 : decode cX9_man 71 = .ok (.iload_n 1, 1) := by decide +kernel
theorem dX9_man_72 : decode cX9_man 72 = .ok (.iastore, 1) := by decide +kernel
theorem dX9_man_73 : decode cX9_man 73 = .ok (.aload_n 0, 1) := by decide +kernel
theorem dX9_man_74 : decode cX9_man 74 = .ok (.getfield 44, 3) := by decide +kernel
theorem dX9_man_77 : decode cX9_man 77 = .ok (.aload_n 0, 1) := by decide +kernel
theorem dX9_man_78 : decode cX9_man 78 = .ok (.getfield 126, 3) := by decide +kernel
theorem dX9_man_81 : decode cX9_man 81 = .ok (.iload_n 2, 1) := by decide +kernel
theorem dX9_man_82 : decode cX9_man 82 = .ok (.iastore, 1) := by decide +kernel
theorem dX9_man_83 : decode cX9_man 83 = .ok (.aload_n 0, 1) := by decide +kernel
theorem dX9_man_84 : decode cX9_man 84 = .ok (.getfield 47, 3) := by decide +kernel
theorem dX9_man_87 : decode cX9_man 87 = .ok (.aload_n 0, 1) := by decide +kernel
theorem dX9_man_88 : decode cX9_man 88 = .ok (.getfield 126, 3) := by decide +kernel
theorem dX9_man_91 : decode cX9_man 91 = .ok (.iload_n 3, 1) := by decide +kernel
theorem dX9_man_92 : decode cX9_man 92 = .ok (.iastore, 1) := by decide +kernel
theorem dX9_man_93 : decode cX9_man 93 = .ok (.aload_n 0, 1) := by decide +kernel
theorem dX9_man_94 : decode cX9_man 94 = .ok (.getfield 50, 3) := by decide +kernel
theorem dX9_man_97 : decode cX9_man 97 = .ok (.aload_n 0, 1) := by decide +kernel
theorem dX9_man_98 : decode cX9_man 98 = .ok (.getfield 126, 3) := by decide +kernel
theorem dX9_man_101 : decode cX9_man 101 = .ok (.iload 4, 2) := by decide +kernel
theorem dX9_man_103 : decode cX9_man 103 = .ok (.iastore, 1) := by decide +kernel
theorem dX9_man_104 : decode cX9_man 104 = .ok (.aload_n 0, 1) := by decide +kernel
theorem dX9_man_105 : decode cX9_man 105 = .ok (.getfield 56, 3) := by decide +kernel
theorem dX9_man_108 : decode cX9_man 108 = .ok (.aload_n 0, 1) := by decide +kernel
theorem dX9_man_109 : decode cX9_man 109 = .ok (.getfield 126, 3) := by decide +kernel
theorem dX9_man_112 : decode cX9_man 112 = .ok (.iconst 2, 1) := by decide +kernel
theorem dX9_man_113 : decode cX9_man 113 = .ok (.iastore, 1) := by decide +kernel
theorem dX9_man_114 : decode cX9_man 114 = .ok (.aload_n 0, 1) := by decide +kernel
theorem dX9_man_115 : decode cX9_man 115 = .ok (.aload_n 0, 1) := by decide +kernel
theorem dX9_man_116 : decode cX9_man 116 = .ok (.getfield 126, 3) := by decide +kernel
theorem dX9_man_119 : decode cX9_man 119 = .ok (.invokevirtual 142, 3) := by decide +kernel
theorem dX9_man_122 : decode cX9_man 122 = .ok (.aload_n 0, 1) := by decide +kernel
theorem dX9_man_123 : decode cX9_man 123 = .ok (.dup, 1) := by decide +kernel
theorem dX9_man_124 : decode cX9_man 124 = .ok (.getfield 126, 3) := by decide +kernel
theorem dX9_man_127 : decode cX9_man 127 = .ok (.iconst 1, 1) := by decide +kernel
theorem dX9_man_128 : decode cX9_man 128 = .ok (.iadd, 1) := by decide +kernel
theorem dX9_man_129 : decode cX9_man 129 = .ok (.putfield 126, 3) := by decide +kernel
theorem dX9_man_132 : decode cX9_man 132 = .ok (.aload_n 0, 1) := by decide +kernel
theorem dX9_man_133 : decode cX9_man 133 = .ok (.getfield 126, 3) := by decide +kernel
theorem dX9_man_136 : decode cX9_man 136 = .ok (.iconst 1, 1) := by decide +kernel
theorem dX9_man_137 : decode cX9_man 137 = .ok (.isub, 1) := by decide +kernel
theorem dX9_man_138 : decode cX9_man 138 = .ok (.ireturn, 1) := by decide +kernel
theorem dX9_right_0 : decode cX9_right 0 = .ok (.aload_n 0, 1) := by decide +kernel
theorem dX9_right_1 : decode cX9_right 1 = .ok (.iload_n 1, 1) := by decide +kernel
theorem dX9_right_2 : decode cX9_right 2 = .ok (.invokevirtual 146, 3) := by decide +kernel
theorem dX9_right_5 : decode cX9_right 5 = .ok (.ifCond .eq 12, 3) := by decide +kernel
theorem dX9_right_8 : decode cX9_right 8 = .ok (.iload_n 2, 1) := by decide +kernel
theorem dX9_right_9 : decode cX9_right 9 = .ok (.iconst 0, 1) := by decide +kernel
theorem dX9_right_10 : decode cX9_right 10 = .ok (.iconst 3, 1) := by decide +kernel
theorem dX9_right_11 : decode cX9_right 11 = .ok (.invokestatic 112, 3) := by decide +kernel
theorem dX9_right_14 : decode cX9_right 14 = .ok (.ifCond .ne 5, 3) := by decide +kernel
theorem dX9_right_17 : decode cX9_right 17 = .ok (.iconst (-1), 1) := by decide +kernel
theorem dX9_right_18 : decode cX9_right 18 = .ok (.ireturn, 1) := by decide +kernel
theorem dX9_right_19 : decode cX9_right 19 = .ok (.aload_n 0, 1) := by decide +kernel
theorem dX9_right_20 : decode cX9_right 20 = .ok (.getfield 53, 3) := by decide +kernel
theorem dX9_right_23 : decode cX9_right 23 = .ok (.iload_n 1, 1) := by decide +kernel
theorem dX9_right_24 : decode cX9_right 24 = .ok (.iaload, 1) := by decide +kernel
theorem dX9_right_25 : decode cX9_right 25 = .ok (.istore_n 3, 1) := by decide +kernel
theorem dX9_right_26 : decode cX9_right 26 = .ok (.aload_n 0, 1) := by decide +kernel
theorem dX9_right_27 : decode cX9_right 27 = .ok (.getfield 53, 3) := by decide +kernel
theorem dX9_right_30 : decode cX9_right 30 = .ok (.iload_n 1, 1) := by decide +kernel
theorem dX9_right_31 : decode cX9_right 31 = .ok (.iload_n 2, 1) := by decide +kernel
theorem dX9_right_32 : decode cX9_right 32 = .ok (.iastore, 1) := by decide +kernel
theorem dX9_right_33 : decode cX9_right 33 = .ok (.iload_n 3, 1) := by decide +kernel
theorem dX9_right_34 : decode cX9_right 34 = .ok (.ireturn, 1) := by decide +kernel
theorem dX9_pace_0 : decode cX9_pace 0 = .ok (.aload_n 0, 1) := by decide +kernel
theorem dX9_pace_1 : decode cX9_pace 1 = .ok (.iload_n 1, 1) := by decide +kernel
theorem dX9_pace_2 : decode cX9_pace 2 = .ok (.invokevirtual 146, 3) := by decide +kernel
theorem dX9_pace_5 : decode cX9_pace 5 = .ok (.ifCond .eq 12, 3) := by decide +kernel
theorem dX9_pace_8 : decode cX9_pace 8 = .ok (.iload_n 2, 1) := by decide +kernel
theorem dX9_pace_9 : decode cX9_pace 9 = .ok (.iconst 1, 1) := by decide +kernel
theorem dX9_pace_10 : decode cX9_pace 10 = .ok (.iconst 5, 1) := by decide +kernel
theorem dX9_pace_11 : decode cX9_pace 11 = .ok (.invokestatic 112, 3) := by decide +kernel
theorem dX9_pace_14 : decode cX9_pace 14 = .ok (.ifCond .ne 5, 3) := by decide +kernel
theorem dX9_pace_17 : decode cX9_pace 17 = .ok (.iconst (-1), 1) := by decide +kernel
theorem dX9_pace_18 : decode cX9_pace 18 = .ok (.ireturn, 1) := by decide +kernel
theorem dX9_pace_19 : decode cX9_pace 19 = .ok (.aload_n 0, 1) := by decide +kernel
theorem dX9_pace_20 : decode cX9_pace 20 = .ok (.getfield 41, 3) := by decide +kernel
theorem dX9_pace_23 : decode cX9_pace 23 = .ok (.iload_n 1, 1) := by decide +kernel
theorem dX9_pace_24 : decode cX9_pace 24 = .ok (.iaload, 1) := by decide +kernel
theorem dX9_pace_25 : decode cX9_pace 25 = .ok (.iconst 2, 1) := by decide +kernel
theorem dX9_pace_26 : decode cX9_pace 26 = .ok (.if_icmp .eq 6, 3) := by decide +kernel
theorem dX9_pace_29 : decode cX9_pace 29 = .ok (.bipush (-13), 2) := by decide +kernel
theorem dX9_pace_31 : decode cX9_pace 31 = .ok (.ireturn, 1) := by decide +kernel
theorem dX9_pace_32 : decode cX9_pace 32 = .ok (.aload_n 0, 1) := by decide +kernel
theorem dX9_pace_33 : decode cX9_pace 33 = .ok (.getfield 56, 3) := by decide +kernel
theorem dX9_pace_36 : decode cX9_pace 36 = .ok (.iload_n 1, 1) := by decide +kernel
theorem dX9_pace_37 : decode cX9_pace 37 = .ok (.iaload, 1) := by decide +kernel
theorem dX9_pace_38 : decode cX9_pace 38 = .ok (.istore_n 3, 1) := by decide +kernel
theorem dX9_pace_39 : decode cX9_pace 39 = .ok (.aload_n 0, 1) := by decide +kernel
theorem dX9_pace_40 : decode cX9_pace 40 = .ok (.getfield 56, 3) := by decide +kernel
theorem dX9_pace_43 : decode cX9_pace 43 = .ok (.iload_n 1, 1) := by decide +kernel
theorem dX9_pace_44 : decode cX9_pace 44 = .ok (.iload_n 2, 1) := by decide +kernel
theorem dX9_pace_45 : decode cX9_pace 45 = .ok (.iastore, 1) := by decide +kernel
theorem dX9_pace_46 : decode cX9_pace 46 = .ok (.iload_n 3, 1) := by decide +kernel
theorem dX9_pace_47 : decode cX9_pace 47 = .ok (.ireturn, 1) := by decide +kernel
theorem dX9_moves_0 : decode cX9_moves 0 = .ok (.aload_n 0, 1) := by decide +kernel
theorem dX9_moves_1 : decode cX9_moves 1 = .ok (.iload_n 1, 1) := by decide +kernel
theorem dX9_moves_2 : decode cX9_moves 2 = .ok (.invokevirtual 146, 3) := by decide +kernel
theorem dX9_moves_5 : decode cX9_moves 5 = .ok (.ifCond .eq 19, 3) := by decide +kernel
theorem dX9_moves_8 : decode cX9_moves 8 = .ok (.aload_n 0, 1) := by decide +kernel
theorem dX9_moves_9 : decode cX9_moves 9 = .ok (.iload_n 2, 1) := by decide +kernel
theorem dX9_moves_10 : decode cX9_moves 10 = .ok (.invokevirtual 136, 3) := by decide +kernel
theorem dX9_moves_13 : decode cX9_moves 13 = .ok (.ifCond .eq 11, 3) := by decide +kernel
theorem dX9_moves_16 : decode cX9_moves 16 = .ok (.aload_n 0, 1) := by decide +kernel
theorem dX9_moves_17 : decode cX9_moves 17 = .ok (.iload_n 3, 1) := by decide +kernel
theorem dX9_moves_18 : decode cX9_moves 18 = .ok (.invokevirtual 129, 3) := by decide +kernel
theorem dX9_moves_21 : decode cX9_moves 21 = .ok (.ifCond .ne 5, 3) := by decide +kernel
theorem dX9_moves_24 : decode cX9_moves 24 = .ok (.iconst (-1), 1) := by decide +kernel
theorem dX9_moves_25 : decode cX9_moves 25 = .ok (.ireturn, 1) := by decide +kernel
theorem dX9_moves_26 : decode cX9_moves 26 = .ok (.aload_n 0, 1) := by decide +kernel
theorem dX9_moves_27 : decode cX9_moves 27 = .ok (.getfield 59, 3) := by decide +kernel
theorem dX9_moves_30 : decode cX9_moves 30 = .ok (.iload_n 1, 1) := by decide +kernel
theorem dX9_moves_31 : decode cX9_moves 31 = .ok (.iaload, 1) := by decide +kernel
theorem dX9_moves_32 : decode cX9_moves 32 = .ok (.ifCond .ne 17, 3) := by decide +kernel
theorem dX9_moves_35 : decode cX9_moves 35 = .ok (.aload_n 0, 1) := by decide +kernel
theorem dX9_moves_36 : decode cX9_moves 36 = .ok (.aload_n 0, 1) := by decide +kernel
theorem dX9_moves_37 : decode cX9_moves 37 = .ok (.getfield 41, 3) := by decide +kernel
theorem dX9_moves_40 : decode cX9_moves 40 = .ok (.iload_n 1, 1) := by decide +kernel
theorem dX9_moves_41 : decode cX9_moves 41 = .ok (.iaload, 1) := by decide +kernel
theorem dX9_moves_42 : decode cX9_moves 42 = .ok (.iload_n 3, 1) := by decide +kernel
theorem dX9_moves_43 : decode cX9_moves 43 = .ok (.invokevirtual 139, 3) := by decide +kernel
theorem dX9_moves_46 : decode cX9_moves 46 = .ok (.ifCond .ne 6, 3) := by decide +kernel
theorem dX9_moves_49 : decode cX9_moves 49 = .ok (.bipush (-2), 2) := by decide +kernel
theorem dX9_moves_51 : decode cX9_moves 51 = .ok (.ireturn, 1) := by decide +kernel
theorem dX9_moves_52 : decode cX9_moves 52 = .ok (.aload_n 0, 1) := by decide +kernel
theorem dX9_moves_53 : decode cX9_moves 53 = .ok (.getfield 47, 3) := by decide +kernel
theorem dX9_moves_56 : decode cX9_moves 56 = .ok (.iload_n 1, 1) := by decide +kernel
theorem dX9_moves_57 : decode cX9_moves 57 = .ok (.iload_n 2, 1) := by decide +kernel
theorem dX9_moves_58 : decode cX9_moves 58 = .ok (.iastore, 1) := by decide +kernel
theorem dX9_moves_59 : decode cX9_moves 59 = .ok (.aload_n 0, 1) := by decide +kernel
theorem dX9_moves_60 : decode cX9_moves 60 = .ok (.getfield 50, 3) := by decide +kernel
theorem dX9_moves_63 : decode cX9_moves 63 = .ok (.iload_n 1, 1) := by decide +kernel
theorem dX9_moves_64 : decode cX9_moves 64 = .ok (.iload_n 3, 1) := by decide +kernel
theorem dX9_moves_65 : decode cX9_moves 65 = .ok (.iastore, 1) := by decide +kernel
theorem dX9_moves_66 : decode cX9_moves 66 = .ok (.aload_n 0, 1) := by decide +kernel
theorem dX9_moves_67 : decode cX9_moves 67 = .ok (.iload_n 1, 1) := by decide +kernel
theorem dX9_moves_68 : decode cX9_moves 68 = .ok (.invokevirtual 142, 3) := by decide +kernel
theorem dX9_moves_71 : decode cX9_moves 71 = .ok (.iconst 1, 1) := by decide +kernel
theorem dX9_moves_72 : decode cX9_moves 72 = .ok (.ireturn, 1) := by decide +kernel
theorem dX9_open_0 : decode cX9_open 0 = .ok (.aload_n 0, 1) := by decide +kernel
theorem dX9_open_1 : decode cX9_open 1 = .ok (.iload_n 1, 1) := by decide +kernel
theorem dX9_open_2 : decode cX9_open 2 = .ok (.invokevirtual 136, 3) := by decide +kernel
theorem dX9_open_5 : decode cX9_open 5 = .ok (.ifCond .ne 5, 3) := by decide +kernel
theorem dX9_open_8 : decode cX9_open 8 = .ok (.iconst (-1), 1) := by decide +kernel
theorem dX9_open_9 : decode cX9_open 9 = .ok (.ireturn, 1) := by decide +kernel
theorem dX9_open_10 : decode cX9_open 10 = .ok (.aload_n 0, 1) := by decide +kernel
theorem dX9_open_11 : decode cX9_open 11 = .ok (.getfield 16, 3) := by decide +kernel
theorem dX9_open_14 : decode cX9_open 14 = .ok (.iload_n 1, 1) := by decide +kernel
theorem dX9_open_15 : decode cX9_open 15 = .ok (.baload, 1) := by decide +kernel
theorem dX9_open_16 : decode cX9_open 16 = .ok (.ifCond .eq 7, 3) := by decide +kernel
theorem dX9_open_19 : decode cX9_open 19 = .ok (.iconst 1, 1) := by decide +kernel
theorem dX9_open_20 : decode cX9_open 20 = .ok (.goto 4, 3) := by decide +kernel
theorem dX9_open_23 : decode cX9_open 23 = .ok (.iconst 0, 1) := by decide +kernel
theorem dX9_open_24 : decode cX9_open 24 = .ok (.istore_n 3, 1) := by decide +kernel
theorem dX9_open_25 : decode cX9_open 25 = .ok (.aload_n 0, 1) := by decide +kernel
theorem dX9_open_26 : decode cX9_open 26 = .ok (.getfield 16, 3) := by decide +kernel
theorem dX9_open_29 : decode cX9_open 29 = .ok (.iload_n 1, 1) := by decide +kernel
theorem dX9_open_30 : decode cX9_open 30 = .ok (.iload_n 2, 1) := by decide +kernel
theorem dX9_open_31 : decode cX9_open 31 = .ok (.bastore, 1) := by decide +kernel
theorem dX9_open_32 : decode cX9_open 32 = .ok (.iload_n 3, 1) := by decide +kernel
theorem dX9_open_33 : decode cX9_open 33 = .ok (.ireturn, 1) := by decide +kernel
theorem dX9_drought_0 : decode cX9_drought 0 = .ok (.iload_n 1, 1) := by decide +kernel
theorem dX9_drought_1 : decode cX9_drought 1 = .ok (.iconst 0, 1) := by decide +kernel
theorem dX9_drought_2 : decode cX9_drought 2 = .ok (.bipush 100, 2) := by decide +kernel
theorem dX9_drought_4 : decode cX9_drought 4 = .ok (.invokestatic 112, 3) := by decide +kernel
theorem dX9_drought_7 : decode cX9_drought 7 = .ok (.ifCond .ne 5, 3) := by decide +kernel
theorem dX9_drought_10 : decode cX9_drought 10 = .ok (.iconst (-1), 1) := by decide +kernel
theorem dX9_drought_11 : decode cX9_drought 11 = .ok (.ireturn, 1) := by decide +kernel
theorem dX9_drought_12 : decode cX9_drought 12 = .ok (.aload_n 0, 1) := by decide +kernel
theorem dX9_drought_13 : decode cX9_drought 13 = .ok (.getfield 80, 3) := by decide +kernel
theorem dX9_drought_16 : decode cX9_drought 16 = .ok (.istore_n 2, 1) := by decide +kernel
theorem dX9_drought_17 : decode cX9_drought 17 = .ok (.aload_n 0, 1) := by decide +kernel
theorem dX9_drought_18 : decode cX9_drought 18 = .ok (.iload_n 1, 1) := by decide +kernel
theorem dX9_drought_19 : decode cX9_drought 19 = .ok (.putfield 80, 3) := by decide +kernel
theorem dX9_drought_22 : decode cX9_drought 22 = .ok (.iload_n 2, 1) := by decide +kernel
theorem dX9_drought_23 : decode cX9_drought 23 = .ok (.ireturn, 1) := by decide +kernel
theorem dX9_wayOf_0 : decode cX9_wayOf 0 = .ok (.aload_n 0, 1) := by decide +kernel
theorem dX9_wayOf_1 : decode cX9_wayOf 1 = .ok (.getfield 29, 3) := by decide +kernel
theorem dX9_wayOf_4 : decode cX9_wayOf 4 = .ok (.iconst 4, 1) := by decide +kernel
theorem dX9_wayOf_5 : decode cX9_wayOf 5 = .ok (.iload_n 2, 1) := by decide +kernel
theorem dX9_wayOf_6 : decode cX9_wayOf 6 = .ok (.imul, 1) := by decide +kernel
theorem dX9_wayOf_7 : decode cX9_wayOf 7 = .ok (.aload_n 0, 1) := by decide +kernel
theorem dX9_wayOf_8 : decode cX9_wayOf 8 = .ok (.getfield 47, 3) := by decide +kernel
theorem dX9_wayOf_11 : decode cX9_wayOf 11 = .ok (.iload_n 1, 1) := by decide +kernel
theorem dX9_wayOf_12 : decode cX9_wayOf 12 = .ok (.iaload, 1) := by decide +kernel
theorem dX9_wayOf_13 : decode cX9_wayOf 13 = .ok (.iadd, 1) := by decide +kernel
theorem dX9_wayOf_14 : decode cX9_wayOf 14 = .ok (.iaload, 1) := by decide +kernel
theorem dX9_wayOf_15 : decode cX9_wayOf 15 = .ok (.istore 4, 2) := by decide +kernel
theorem dX9_wayOf_17 : decode cX9_wayOf 17 = .ok (.aload_n 0, 1) := by decide +kernel
theorem dX9_wayOf_18 : decode cX9_wayOf 18 = .ok (.getfield 41, 3) := by decide +kernel
theorem dX9_wayOf_21 : decode cX9_wayOf 21 = .ok (.iload_n 1, 1) := by decide +kernel
theorem dX9_wayOf_22 : decode cX9_wayOf 22 = .ok (.iaload, 1) := by decide +kernel
theorem dX9_wayOf_23 : decode cX9_wayOf 23 = .ok (.lookupswitch 67 #[(0, 25), (1, 44)], 25) := by decide +kernel
theorem dX9_wayOf_48 : decode cX9_wayOf 48 = .ok (.iload_n 3, 1) := by decide +kernel
theorem dX9_wayOf_49 : decode cX9_wayOf 49 = .ok (.ifCond .eq 15, 3) := by decide +kernel
theorem dX9_wayOf_52 : decode cX9_wayOf 52 = .ok (.iload 4, 2) := by decide +kernel
theorem dX9_wayOf_54 : decode cX9_wayOf 54 = .ok (.aload_n 0, 1) := by decide +kernel
theorem dX9_wayOf_55 : decode cX9_wayOf 55 = .ok (.getfield 23, 3) := by decide +kernel
theorem dX9_wayOf_58 : decode cX9_wayOf 58 = .ok (.iload_n 2, 1) := by decide +kernel
theorem dX9_wayOf_59 : decode cX9_wayOf 59 = .ok (.iaload, 1) := by decide +kernel
theorem dX9_wayOf_60 : decode cX9_wayOf 60 = .ok (.iadd, 1) := by decide +kernel
theorem dX9_wayOf_61 : decode cX9_wayOf 61 = .ok (.goto 5, 3) := by decide +kernel
theorem dX9_wayOf_64 : decode cX9_wayOf 64 = .ok (.iload 4, 2) := by decide +kernel
theorem dX9_wayOf_66 : decode cX9_wayOf 66 = .ok (.ireturn, 1) := by decide +kernel
theorem dX9_wayOf_67 : decode cX9_wayOf 67 = .ok (.iload_n 3, 1) := by decide +kernel
theorem dX9_wayOf_68 : decode cX9_wayOf 68 = .ok (.ifCond .eq 19, 3) := by decide +kernel
theorem dX9_wayOf_71 : decode cX9_wayOf 71 = .ok (.iload 4, 2) := by decide +kernel
theorem dX9_wayOf_73 : decode cX9_wayOf 73 = .ok (.aload_n 0, 1) := by decide +kernel
theorem dX9_wayOf_74 : decode cX9_wayOf 74 = .ok (.getfield 23, 3) := by decide +kernel
theorem dX9_wayOf_77 : decode cX9_wayOf 77 = .ok (.iload_n 2, 1) := by decide +kernel
theorem dX9_wayOf_78 : decode cX9_wayOf 78 = .ok (.iaload, 1) := by decide +kernel
theorem dX9_wayOf_79 : decode cX9_wayOf 79 = .ok (.iconst 1, 1) := by decide +kernel
theorem dX9_wayOf_80 : decode cX9_wayOf 80 = .ok (.iadd, 1) := by decide +kernel
theorem dX9_wayOf_81 : decode cX9_wayOf 81 = .ok (.iconst 2, 1) := by decide +kernel
theorem dX9_wayOf_82 : decode cX9_wayOf 82 = .ok (.idiv, 1) := by decide +kernel
theorem dX9_wayOf_83 : decode cX9_wayOf 83 = .ok (.iadd, 1) := by decide +kernel
theorem dX9_wayOf_84 : decode cX9_wayOf 84 = .ok (.goto 5, 3) := by decide +kernel
theorem dX9_wayOf_87 : decode cX9_wayOf 87 = .ok (.iload 4, 2) := by decide +kernel
theorem dX9_wayOf_89 : decode cX9_wayOf 89 = .ok (.ireturn, 1) := by decide +kernel
theorem dX9_wayOf_90 : decode cX9_wayOf 90 = .ok (.iload 4, 2) := by decide +kernel
theorem dX9_wayOf_92 : decode cX9_wayOf 92 = .ok (.aload_n 0, 1) := by decide +kernel
theorem dX9_wayOf_93 : decode cX9_wayOf 93 = .ok (.getfield 56, 3) := by decide +kernel
theorem dX9_wayOf_96 : decode cX9_wayOf 96 = .ok (.iload_n 1, 1) := by decide +kernel
theorem dX9_wayOf_97 : decode cX9_wayOf 97 = .ok (.iaload, 1) := by decide +kernel
theorem dX9_wayOf_98 : decode cX9_wayOf 98 = .ok (.iadd, 1) := by decide +kernel
theorem dX9_wayOf_99 : decode cX9_wayOf 99 = .ok (.iconst 1, 1) := by decide +kernel
theorem dX9_wayOf_100 : decode cX9_wayOf 100 = .ok (.isub, 1) := by decide +kernel
theorem dX9_wayOf_101 : decode cX9_wayOf 101 = .ok (.aload_n 0, 1) := by decide +kernel
theorem dX9_wayOf_102 : decode cX9_wayOf 102 = .ok (.getfield 56, 3) := by decide +kernel
theorem dX9_wayOf_105 : decode cX9_wayOf 105 = .ok (.iload_n 1, 1) := by decide +kernel
theorem dX9_wayOf_106 : decode cX9_wayOf 106 = .ok (.iaload, 1) := by decide +kernel
theorem dX9_wayOf_107 : decode cX9_wayOf 107 = .ok (.idiv, 1) := by decide +kernel
theorem dX9_wayOf_108 : decode cX9_wayOf 108 = .ok (.ireturn, 1) := by decide +kernel
theorem dX9_type_0 : decode cX9_type 0 = .ok (.iload_n 3, 1) := by decide +kernel
theorem dX9_type_1 : decode cX9_type 1 = .ok (.iconst 1, 1) := by decide +kernel
theorem dX9_type_2 : decode cX9_type 2 = .ok (.bipush 8, 2) := by decide +kernel
theorem dX9_type_4 : decode cX9_type 4 = .ok (.invokestatic 112, 3) := by decide +kernel
theorem dX9_type_7 : decode cX9_type 7 = .ok (.ifCond .ne 5, 3) := by decide +kernel
theorem dX9_type_10 : decode cX9_type 10 = .ok (.iconst (-1), 1) := by decide +kernel
theorem dX9_type_11 : decode cX9_type 11 = .ok (.ireturn, 1) := by decide +kernel
theorem dX9_type_12 : decode cX9_type 12 = .ok (.iload_n 3, 1) := by decide +kernel
theorem dX9_type_13 : decode cX9_type 13 = .ok (.iconst 1, 1) := by decide +kernel
theorem dX9_type_14 : decode cX9_type 14 = .ok (.isub, 1) := by decide +kernel
theorem dX9_type_15 : decode cX9_type 15 = .ok (.istore 4, 2) := by decide +kernel
theorem dX9_type_17 : decode cX9_type 17 = .ok (.iload 4, 2) := by decide +kernel
theorem dX9_type_19 : decode cX9_type 19 = .ok (.ifCond .lt 33, 3) := by decide +kernel
theorem dX9_type_22 : decode cX9_type 22 = .ok (.lload_n 1, 1) := by decide +kernel
theorem dX9_type_23 : decode cX9_type 23 = .ok (.bipush 8, 2) := by decide +kernel
theorem dX9_type_25 : decode cX9_type 25 = .ok (.iload 4, 2) := by decide +kernel
theorem dX9_type_27 : decode cX9_type 27 = .ok (.imul, 1) := by decide +kernel
theorem dX9_type_28 : decode cX9_type 28 = .ok (.lshr, 1) := by decide +kernel
theorem dX9_type_29 : decode cX9_type 29 = .ok (.ldc2_w 149, 3) := by decide +kernel
theorem dX9_type_32 : decode cX9_type 32 = .ok (.land, 1) := by decide +kernel
theorem dX9_type_33 : decode cX9_type 33 = .ok (.l2i, 1) := by decide +kernel
theorem dX9_type_34 : decode cX9_type 34 = .ok (.bipush 32, 2) := by decide +kernel
theorem dX9_type_36 : decode cX9_type 36 = .ok (.bipush 126, 2) := by decide +kernel
theorem dX9_type_38 : decode cX9_type 38 = .ok (.invokestatic 112, 3) := by decide +kernel
theorem dX9_type_41 : decode cX9_type 41 = .ok (.ifCond .ne 5, 3) := by decide +kernel
theorem dX9_type_44 : decode cX9_type 44 = .ok (.iconst (-1), 1) := by decide +kernel
theorem dX9_type_45 : decode cX9_type 45 = .ok (.ireturn, 1) := by decide +kernel
theorem dX9_type_46 : decode cX9_type 46 = .ok (.iinc 4 (-1), 3) := by decide +kernel
theorem dX9_type_49 : decode cX9_type 49 = .ok (.goto (-32), 3) := by decide +kernel
theorem dX9_type_52 : decode cX9_type 52 = .ok (.aload_n 0, 1) := by decide +kernel
theorem dX9_type_53 : decode cX9_type 53 = .ok (.getfield 151, 3) := by decide +kernel
theorem dX9_type_56 : decode cX9_type 56 = .ok (.iload_n 3, 1) := by decide +kernel
theorem dX9_type_57 : decode cX9_type 57 = .ok (.iadd, 1) := by decide +kernel
theorem dX9_type_58 : decode cX9_type 58 = .ok (.bipush 50, 2) := by decide +kernel
theorem dX9_type_60 : decode cX9_type 60 = .ok (.if_icmp .le 6, 3) := by decide +kernel
theorem dX9_type_63 : decode cX9_type 63 = .ok (.bipush (-3), 2) := by decide +kernel
theorem dX9_type_65 : decode cX9_type 65 = .ok (.ireturn, 1) := by decide +kernel
theorem dX9_type_66 : decode cX9_type 66 = .ok (.iload_n 3, 1) := by decide +kernel
theorem dX9_type_67 : decode cX9_type 67 = .ok (.iconst 1, 1) := by decide +kernel
theorem dX9_type_68 : decode cX9_type 68 = .ok (.isub, 1) := by decide +kernel
theorem dX9_type_69 : decode cX9_type 69 = .ok (.istore 4, 2) := by decide +kernel
theorem dX9_type_71 : decode cX9_type 71 = .ok (.iload 4, 2) := by decide +kernel
theorem dX9_type_73 : decode cX9_type 73 = .ok (.ifCond .lt 40, 3) := by decide +kernel
theorem dX9_type_76 : decode cX9_type 76 = .ok (.aload_n 0, 1) := by decide +kernel
theorem dX9_type_77 : decode cX9_type 77 = .ok (.getfield 88, 3) := by decide +kernel
theorem dX9_type_80 : decode cX9_type 80 = .ok (.aload_n 0, 1) := by decide +kernel
theorem dX9_type_81 : decode cX9_type 81 = .ok (.getfield 151, 3) := by decide +kernel
theorem dX9_type_84 : decode cX9_type 84 = .ok (.lload_n 1, 1) := by decide +kernel
theorem dX9_type_85 : decode cX9_type 85 = .ok (.bipush 8, 2) := by decide +kernel
theorem dX9_type_87 : decode cX9_type 87 = .ok (.iload 4, 2) := by decide +kernel
theorem dX9_type_89 : decode cX9_type 89 = .ok (.imul, 1) := by decide +kernel
theorem dX9_type_90 : decode cX9_type 90 = .ok (.lshr, 1) := by decide +kernel
theorem dX9_type_91 : decode cX9_type 91 = .ok (.ldc2_w 149, 3) := by decide +kernel
theorem dX9_type_94 : decode cX9_type 94 = .ok (.land, 1) := by decide +kernel
theorem dX9_type_95 : decode cX9_type 95 = .ok (.l2i, 1) := by decide +kernel
theorem dX9_type_96 : decode cX9_type 96 = .ok (.iastore, 1) := by decide +kernel
theorem dX9_type_97 : decode cX9_type 97 = .ok (.aload_n 0, 1) := by decide +kernel
theorem dX9_type_98 : decode cX9_type 98 = .ok (.dup, 1) := by decide +kernel
theorem dX9_type_99 : decode cX9_type 99 = .ok (.getfield 151, 3) := by decide +kernel
theorem dX9_type_102 : decode cX9_type 102 = .ok (.iconst 1, 1) := by decide +kernel
theorem dX9_type_103 : decode cX9_type 103 = .ok (.iadd, 1) := by decide +kernel
theorem dX9_type_104 : decode cX9_type 104 = .ok (.putfield 151, 3) := by decide +kernel
theorem dX9_type_107 : decode cX9_type 107 = .ok (.iinc 4 (-1), 3) := by decide +kernel
theorem dX9_type_110 : decode cX9_type 110 = .ok (.goto (-39), 3) := by decide +kernel
theorem dX9_type_113 : decode cX9_type 113 = .ok (.aload_n 0, 1) := by decide +kernel
theorem dX9_type_114 : decode cX9_type 114 = .ok (.getfield 151, 3) := by decide +kernel
theorem dX9_type_117 : decode cX9_type 117 = .ok (.ireturn, 1) := by decide +kernel
theorem dX9_next_0 : decode cX9_next 0 = .ok (.aload_n 0, 1) := by decide +kernel
theorem dX9_next_1 : decode cX9_next 1 = .ok (.getfield 154, 3) := by decide +kernel
theorem dX9_next_4 : decode cX9_next 4 = .ok (.aload_n 0, 1) := by decide +kernel
theorem dX9_next_5 : decode cX9_next 5 = .ok (.getfield 151, 3) := by decide +kernel
theorem dX9_next_8 : decode cX9_next 8 = .ok (.if_icmp .ge 30, 3) := by decide +kernel
theorem dX9_next_11 : decode cX9_next 11 = .ok (.aload_n 0, 1) := by decide +kernel
theorem dX9_next_12 : decode cX9_next 12 = .ok (.getfield 88, 3) := by decide +kernel
theorem dX9_next_15 : decode cX9_next 15 = .ok (.aload_n 0, 1) := by decide +kernel
theorem dX9_next_16 : decode cX9_next 16 = .ok (.getfield 154, 3) := by decide +kernel
theorem dX9_next_19 : decode cX9_next 19 = .ok (.iaload, 1) := by decide +kernel
theorem dX9_next_20 : decode cX9_next 20 = .ok (.bipush 32, 2) := by decide +kernel
theorem dX9_next_22 : decode cX9_next 22 = .ok (.if_icmp .ne 16, 3) := by decide +kernel
theorem dX9_next_25 : decode cX9_next 25 = .ok (.aload_n 0, 1) := by decide +kernel
theorem dX9_next_26 : decode cX9_next 26 = .ok (.dup, 1) := by decide +kernel
theorem dX9_next_27 : decode cX9_next 27 = .ok (.getfield 154, 3) := by decide +kernel
theorem dX9_next_30 : decode cX9_next 30 = .ok (.iconst 1, 1) := by decide +kernel
theorem dX9_next_31 : decode cX9_next 31 = .ok (.iadd, 1) := by decide +kernel
theorem dX9_next_32 : decode cX9_next 32 = .ok (.putfield 154, 3) := by decide +kernel
theorem dX9_next_35 : decode cX9_next 35 = .ok (.goto (-35), 3) := by decide +kernel
theorem dX9_next_38 : decode cX9_next 38 = .ok (.aload_n 0, 1) := by decide +kernel
theorem dX9_next_39 : decode cX9_next 39 = .ok (.getfield 154, 3) := by decide +kernel
theorem dX9_next_42 : decode cX9_next 42 = .ok (.aload_n 0, 1) := by decide +kernel
theorem dX9_next_43 : decode cX9_next 43 = .ok (.getfield 151, 3) := by decide +kernel
theorem dX9_next_46 : decode cX9_next 46 = .ok (.if_icmp .ge 15, 3) := by decide +kernel
theorem dX9_next_49 : decode cX9_next 49 = .ok (.aload_n 0, 1) := by decide +kernel
theorem dX9_next_50 : decode cX9_next 50 = .ok (.getfield 88, 3) := by decide +kernel
theorem dX9_next_53 : decode cX9_next 53 = .ok (.aload_n 0, 1) := by decide +kernel
theorem dX9_next_54 : decode cX9_next 54 = .ok (.getfield 154, 3) := by decide +kernel
theorem dX9_next_57 : decode cX9_next 57 = .ok (.iaload, 1) := by decide +kernel
theorem dX9_next_58 : decode cX9_next 58 = .ok (.goto 4, 3) := by decide +kernel
theorem dX9_next_61 : decode cX9_next 61 = .ok (.iconst (-1), 1) := by decide +kernel
theorem dX9_next_62 : decode cX9_next 62 = .ok (.ireturn, 1) := by decide +kernel
theorem dX9_number_0 : decode cX9_number 0 = .ok (.aload_n 0, 1) := by decide +kernel
theorem dX9_number_1 : decode cX9_number 1 = .ok (.invokevirtual 157, 3) := by decide +kernel
theorem dX9_number_4 : decode cX9_number 4 = .ok (.istore_n 3, 1) := by decide +kernel
theorem dX9_number_5 : decode cX9_number 5 = .ok (.aload_n 0, 1) := by decide +kernel
theorem dX9_number_6 : decode cX9_number 6 = .ok (.getfield 154, 3) := by decide +kernel
theorem dX9_number_9 : decode cX9_number 9 = .ok (.istore 4, 2) := by decide +kernel
theorem dX9_number_11 : decode cX9_number 11 = .ok (.iconst 0, 1) := by decide +kernel
theorem dX9_number_12 : decode cX9_number 12 = .ok (.istore 5, 2) := by decide +kernel
theorem dX9_number_14 : decode cX9_number 14 = .ok (.aload_n 0, 1) := by decide +kernel
theorem dX9_number_15 : decode cX9_number 15 = .ok (.getfield 154, 3) := by decide +kernel
theorem dX9_number_18 : decode cX9_number 18 = .ok (.aload_n 0, 1) := by decide +kernel
theorem dX9_number_19 : decode cX9_number 19 = .ok (.getfield 151, 3) := by decide +kernel
theorem dX9_number_22 : decode cX9_number 22 = .ok (.if_icmp .ge 66, 3) := by decide +kernel
theorem dX9_number_25 : decode cX9_number 25 = .ok (.aload_n 0, 1) := by decide +kernel
theorem dX9_number_26 : decode cX9_number 26 = .ok (.getfield 88, 3) := by decide +kernel
theorem dX9_number_29 : decode cX9_number 29 = .ok (.aload_n 0, 1) := by decide +kernel
theorem dX9_number_30 : decode cX9_number 30 = .ok (.getfield 154, 3) := by decide +kernel
theorem dX9_number_33 : decode cX9_number 33 = .ok (.iaload, 1) := by decide +kernel
theorem dX9_number_34 : decode cX9_number 34 = .ok (.bipush 48, 2) := by decide +kernel
theorem dX9_number_36 : decode cX9_number 36 = .ok (.bipush 57, 2) := by decide +kernel
theorem dX9_number_38 : decode cX9_number 38 = .ok (.invokestatic 112, 3) := by decide +kernel
theorem dX9_number_41 : decode cX9_number 41 = .ok (.ifCond .eq 47, 3) := by decide +kernel
theorem dX9_number_44 : decode cX9_number 44 = .ok (.iload 5, 2) := by decide +kernel
theorem dX9_number_46 : decode cX9_number 46 = .ok (.iload_n 2, 1) := by decide +kernel
theorem dX9_number_47 : decode cX9_number 47 = .ok (.if_icmp .le 8, 3) := by decide +kernel
theorem dX9_number_50 : decode cX9_number 50 = .ok (.iload 5, 2) := by decide +kernel
theorem dX9_number_52 : decode cX9_number 52 = .ok (.goto 21, 3) := by decide +kernel
theorem dX9_number_55 : decode cX9_number 55 = .ok (.bipush 10, 2) := by decide +kernel
theorem dX9_number_57 : decode cX9_number 57 = .ok (.iload 5, 2) := by decide +kernel
theorem dX9_number_59 : decode cX9_number 59 = .ok (.imul, 1) := by decide +kernel
theorem dX9_number_60 : decode cX9_number 60 = .ok (.aload_n 0, 1) := by decide +kernel
theorem dX9_number_61 : decode cX9_number 61 = .ok (.getfield 88, 3) := by decide +kernel
theorem dX9_number_64 : decode cX9_number 64 = .ok (.aload_n 0, 1) := by decide +kernel
theorem dX9_number_65 : decode cX9_number 65 = .ok (.getfield 154, 3) := by decide +kernel
theorem dX9_number_68 : decode cX9_number 68 = .ok (.iaload, 1) := by decide +kernel
theorem dX9_number_69 : decode cX9_number 69 = .ok (.iadd, 1) := by decide +kernel
theorem dX9_number_70 : decode cX9_number 70 = .ok (.bipush 48, 2) := by decide +kernel
theorem dX9_number_72 : decode cX9_number 72 = .ok (.isub, 1) := by decide +kernel
theorem dX9_number_73 : decode cX9_number 73 = .ok (.istore 5, 2) := by decide +kernel
theorem dX9_number_75 : decode cX9_number 75 = .ok (.aload_n 0, 1) := by decide +kernel
theorem dX9_number_76 : decode cX9_number 76 = .ok (.dup, 1) := by decide +kernel
theorem dX9_number_77 : decode cX9_number 77 = .ok (.getfield 154, 3) := by decide +kernel
theorem dX9_number_80 : decode cX9_number 80 = .ok (.iconst 1, 1) := by decide +kernel
theorem dX9_number_81 : decode cX9_number 81 = .ok (.iadd, 1) := by decide +kernel
theorem dX9_number_82 : decode cX9_number 82 = .ok (.putfield 154, 3) := by decide +kernel
theorem dX9_number_85 : decode cX9_number 85 = .ok (.goto (-71), 3) := by decide +kernel
theorem dX9_number_88 : decode cX9_number 88 = .ok (.iload_n 3, 1) := by decide +kernel
theorem dX9_number_89 : decode cX9_number 89 = .ok (.ifCond .lt 22, 3) := by decide +kernel
theorem dX9_number_92 : decode cX9_number 92 = .ok (.aload_n 0, 1) := by decide +kernel
theorem dX9_number_93 : decode cX9_number 93 = .ok (.getfield 154, 3) := by decide +kernel
theorem dX9_number_96 : decode cX9_number 96 = .ok (.iload 4, 2) := by decide +kernel
theorem dX9_number_98 : decode cX9_number 98 = .ok (.if_icmp .eq 13, 3) := by decide +kernel
theorem dX9_number_101 : decode cX9_number 101 = .ok (.iload 5, 2) := by decide +kernel
theorem dX9_number_103 : decode cX9_number 103 = .ok (.iload_n 1, 1) := by decide +kernel
theorem dX9_number_104 : decode cX9_number 104 = .ok (.iload_n 2, 1) := by decide +kernel
theorem dX9_number_105 : decode cX9_number 105 = .ok (.invokestatic 112, 3) := by decide +kernel
theorem dX9_number_108 : decode cX9_number 108 = .ok (.ifCond .ne 11, 3) := by decide +kernel
theorem dX9_number_111 : decode cX9_number 111 = .ok (.aload_n 0, 1) := by decide +kernel
theorem dX9_number_112 : decode cX9_number 112 = .ok (.iload 4, 2) := by decide +kernel
theorem dX9_number_114 : decode cX9_number 114 = .ok (.putfield 154, 3) := by decide +kernel
theorem dX9_number_117 : decode cX9_number 117 = .ok (.iconst (-1), 1) := by decide +kernel
theorem dX9_number_118 : decode cX9_number 118 = .ok (.ireturn, 1) := by decide +kernel
theorem dX9_number_119 : decode cX9_number 119 = .ok (.iload 5, 2) := by decide +kernel
theorem dX9_number_121 : decode cX9_number 121 = .ok (.ireturn, 1) := by decide +kernel
theorem dX9_readClause_0 : decode cX9_readClause 0 = .ok (.aload_n 0, 1) := by decide +kernel
theorem dX9_readClause_1 : decode cX9_readClause 1 = .ok (.iconst 0, 1) := by decide +kernel
theorem dX9_readClause_2 : decode cX9_readClause 2 = .ok (.bipush 9, 2) := by decide +kernel
theorem dX9_readClause_4 : decode cX9_readClause 4 = .ok (.invokevirtual 161, 3) := by decide +kernel
theorem dX9_readClause_7 : decode cX9_readClause 7 = .ok (.istore_n 1, 1) := by decide +kernel
theorem dX9_readClause_8 : decode cX9_readClause 8 = .ok (.iload_n 1, 1) := by decide +kernel
theorem dX9_readClause_9 : decode cX9_readClause 9 = .ok (.ifCond .ge 5, 3) := by decide +kernel
theorem dX9_readClause_12 : decode cX9_readClause 12 = .ok (.iconst 0, 1) := by decide +kernel
theorem dX9_readClause_13 : decode cX9_readClause 13 = .ok (.ireturn, 1) := by decide +kernel
theorem dX9_readClause_14 : decode cX9_readClause 14 = .ok (.iload_n 1, 1) := by decide +kernel
theorem dX9_readClause_15 : decode cX9_readClause 15 = .ok (.istore_n 2, 1) := by decide +kernel
theorem dX9_readClause_16 : decode cX9_readClause 16 = .ok (.aload_n 0, 1) := by decide +kernel
theorem dX9_readClause_17 : decode cX9_readClause 17 = .ok (.invokevirtual 157, 3) := by decide +kernel
theorem dX9_readClause_20 : decode cX9_readClause 20 = .ok (.bipush 45, 2) := by decide +kernel
theorem dX9_readClause_22 : decode cX9_readClause 22 = .ok (.if_icmp .ne 27, 3) := by decide +kernel
theorem dX9_readClause_25 : decode cX9_readClause 25 = .ok (.aload_n 0, 1) := by decide +kernel
theorem dX9_readClause_26 : decode cX9_readClause 26 = .ok (.dup, 1) := by decide +kernel
theorem dX9_readClause_27 : decode cX9_readClause 27 = .ok (.getfield 154, 3) := by decide +kernel
theorem dX9_readClause_30 : decode cX9_readClause 30 = .ok (.iconst 1, 1) := by decide +kernel
theorem dX9_readClause_31 : decode cX9_readClause 31 = .ok (.iadd, 1) := by decide +kernel
theorem dX9_readClause_32 : decode cX9_readClause 32 = .ok (.putfield 154, 3) := by decide +kernel
theorem dX9_readClause_35 : decode cX9_readClause 35 = .ok (.aload_n 0, 1) := by decide +kernel
theorem dX9_readClause_36 : decode cX9_readClause 36 = .ok (.iload_n 1, 1) := by decide +kernel
theorem dX9_readClause_37 : decode cX9_readClause 37 = .ok (.bipush 9, 2) := by decide +kernel
theorem dX9_readClause_39 : decode cX9_readClause 39 = .ok (.invokevirtual 161, 3) := by decide +kernel
theorem dX9_readClause_42 : decode cX9_readClause 42 = .ok (.istore_n 2, 1) := by decide +kernel
theorem dX9_readClause_43 : decode cX9_readClause 43 = .ok (.iload_n 2, 1) := by decide +kernel
theorem dX9_readClause_44 : decode cX9_readClause 44 = .ok (.ifCond .ge 5, 3) := by decide +kernel
theorem dX9_readClause_47 : decode cX9_readClause 47 = .ok (.iconst 0, 1) := by decide +kernel
theorem dX9_readClause_48 : decode cX9_readClause 48 = .ok (.ireturn, 1) := by decide +kernel
theorem dX9_readClause_49 : decode cX9_readClause 49 = .ok (.aload_n 0, 1) := by decide +kernel
theorem dX9_readClause_50 : decode cX9_readClause 50 = .ok (.invokevirtual 157, 3) := by decide +kernel
theorem dX9_readClause_53 : decode cX9_readClause 53 = .ok (.bipush 58, 2) := by decide +kernel
theorem dX9_readClause_55 : decode cX9_readClause 55 = .ok (.if_icmp .eq 5, 3) := by decide +kernel
theorem dX9_readClause_58 : decode cX9_readClause 58 = .ok (.iconst 0, 1) := by decide +kernel
theorem dX9_readClause_59 : decode cX9_readClause 59 = .ok (.ireturn, 1) := by decide +kernel
theorem dX9_readClause_60 : decode cX9_readClause 60 = .ok (.aload_n 0, 1) := by decide +kernel
theorem dX9_readClause_61 : decode cX9_readClause 61 = .ok (.dup, 1) := by decide +kernel
theorem dX9_readClause_62 : decode cX9_readClause 62 = .ok (.getfield 154, 3) := by decide +kernel
theorem dX9_readClause_65 : decode cX9_readClause 65 = .ok (.iconst 1, 1) := by decide +kernel
theorem dX9_readClause_66 : decode cX9_readClause 66 = .ok (.iadd, 1) := by decide +kernel
theorem dX9_readClause_67 : decode cX9_readClause 67 = .ok (.putfield 154, 3) := by decide +kernel
theorem dX9_readClause_70 : decode cX9_readClause 70 = .ok (.aload_n 0, 1) := by decide +kernel
theorem dX9_readClause_71 : decode cX9_readClause 71 = .ok (.iconst 0, 1) := by decide +kernel
theorem dX9_readClause_72 : decode cX9_readClause 72 = .ok (.bipush 99, 2) := by decide +kernel
theorem dX9_readClause_74 : decode cX9_readClause 74 = .ok (.invokevirtual 161, 3) := by decide +kernel
theorem dX9_readClause_77 : decode cX9_readClause 77 = .ok (.istore_n 3, 1) := by decide +kernel
theorem dX9_readClause_78 : decode cX9_readClause 78 = .ok (.iload_n 3, 1) := by decide +kernel
theorem dX9_readClause_79 : decode cX9_readClause 79 = .ok (.ifCond .ge 5, 3) := by decide +kernel
theorem dX9_readClause_82 : decode cX9_readClause 82 = .ok (.iconst 0, 1) := by decide +kernel
theorem dX9_readClause_83 : decode cX9_readClause 83 = .ok (.ireturn, 1) := by decide +kernel
theorem dX9_readClause_84 : decode cX9_readClause 84 = .ok (.iload_n 1, 1) := by decide +kernel
theorem dX9_readClause_85 : decode cX9_readClause 85 = .ok (.istore 4, 2) := by decide +kernel
theorem dX9_readClause_87 : decode cX9_readClause 87 = .ok (.iload 4, 2) := by decide +kernel
theorem dX9_readClause_89 : decode cX9_readClause 89 = .ok (.iload_n 2, 1) := by decide +kernel
theorem dX9_readClause_90 : decode cX9_readClause 90 = .ok (.if_icmp .gt 17, 3) := by decide +kernel
theorem dX9_readClause_93 : decode cX9_readClause 93 = .ok (.aload_n 0, 1) := by decide +kernel
theorem dX9_readClause_94 : decode cX9_readClause 94 = .ok (.getfield 94, 3) := by decide +kernel
theorem dX9_readClause_97 : decode cX9_readClause 97 = .ok (.iload 4, 2) := by decide +kernel
theorem dX9_readClause_99 : decode cX9_readClause 99 = .ok (.iload_n 3, 1) := by decide +kernel
theorem dX9_readClause_100 : decode cX9_readClause 100 = .ok (.iastore, 1) := by decide +kernel
theorem dX9_readClause_101 : decode cX9_readClause 101 = .ok (.iinc 4 1, 3) := by decide +kernel
theorem dX9_readClause_104 : decode cX9_readClause 104 = .ok (.goto (-17), 3) := by decide +kernel
theorem dX9_readClause_107 : decode cX9_readClause 107 = .ok (.iconst 1, 1) := by decide +kernel
theorem dX9_readClause_108 : decode cX9_readClause 108 = .ok (.ireturn, 1) := by decide +kernel
theorem dX9_readFares_0 : decode cX9_readFares 0 = .ok (.aload_n 0, 1) := by decide +kernel
theorem dX9_readFares_1 : decode cX9_readFares 1 = .ok (.iconst 0, 1) := by decide +kernel
theorem dX9_readFares_2 : decode cX9_readFares 2 = .ok (.putfield 154, 3) := by decide +kernel
theorem dX9_readFares_5 : decode cX9_readFares 5 = .ok (.iconst 0, 1) := by decide +kernel
theorem dX9_readFares_6 : decode cX9_readFares 6 = .ok (.istore_n 1, 1) := by decide +kernel
theorem dX9_readFares_7 : decode cX9_readFares 7 = .ok (.iload_n 1, 1) := by decide +kernel
theorem dX9_readFares_8 : decode cX9_readFares 8 = .ok (.bipush 10, 2) := by decide +kernel
theorem dX9_readFares_10 : decode cX9_readFares 10 = .ok (.if_icmp .ge 16, 3) := by decide +kernel
theorem dX9_readFares_13 : decode cX9_readFares 13 = .ok (.aload_n 0, 1) := by decide +kernel
theorem dX9_readFares_14 : decode cX9_readFares 14 = .ok (.getfield 94, 3) := by decide +kernel
theorem dX9_readFares_17 : decode cX9_readFares 17 = .ok (.iload_n 1, 1) := by decide +kernel
theorem dX9_readFares_18 : decode cX9_readFares 18 = .ok (.iconst 0, 1) := by decide +kernel
theorem dX9_readFares_19 : decode cX9_readFares 19 = .ok (.iastore, 1) := by decide +kernel
theorem dX9_readFares_20 : decode cX9_readFares 20 = .ok (.iinc 1 1, 3) := by decide +kernel
theorem dX9_readFares_23 : decode cX9_readFares 23 = .ok (.goto (-16), 3) := by decide +kernel
theorem dX9_readFares_26 : decode cX9_readFares 26 = .ok (.iconst 0, 1) := by decide +kernel
theorem dX9_readFares_27 : decode cX9_readFares 27 = .ok (.istore_n 1, 1) := by decide +kernel
theorem dX9_readFares_28 : decode cX9_readFares 28 = .ok (.iconst 1, 1) := by decide +kernel
theorem dX9_readFares_29 : decode cX9_readFares 29 = .ok (.istore_n 2, 1) := by decide +kernel
theorem dX9_readFares_30 : decode cX9_readFares 30 = .ok (.iload_n 2, 1) := by decide +kernel
theorem dX9_readFares_31 : decode cX9_readFares 31 = .ok (.ifCond .eq 68, 3) := by decide +kernel
theorem dX9_readFares_34 : decode cX9_readFares 34 = .ok (.aload_n 0, 1) := by decide +kernel
theorem dX9_readFares_35 : decode cX9_readFares 35 = .ok (.invokevirtual 165, 3) := by decide +kernel
theorem dX9_readFares_38 : decode cX9_readFares 38 = .ok (.ifCond .ne 5, 3) := by decide +kernel
theorem dX9_readFares_41 : decode cX9_readFares 41 = .ok (.iconst (-1), 1) := by decide +kernel
theorem dX9_readFares_42 : decode cX9_readFares 42 = .ok (.ireturn, 1) := by decide +kernel
theorem dX9_readFares_43 : decode cX9_readFares 43 = .ok (.iinc 1 1, 3) := by decide +kernel
theorem dX9_readFares_46 : decode cX9_readFares 46 = .ok (.aload_n 0, 1) := by decide +kernel
theorem dX9_readFares_47 : decode cX9_readFares 47 = .ok (.invokevirtual 157, 3) := by decide +kernel
theorem dX9_readFares_50 : decode cX9_readFares 50 = .ok (.istore_n 3, 1) := by decide +kernel
theorem dX9_readFares_51 : decode cX9_readFares 51 = .ok (.iload_n 3, 1) := by decide +kernel
theorem dX9_readFares_52 : decode cX9_readFares 52 = .ok (.ifCond .lt 16, 3) := by decide +kernel
theorem dX9_readFares_55 : decode cX9_readFares 55 = .ok (.iload_n 3, 1) := by decide +kernel
theorem dX9_readFares_56 : decode cX9_readFares 56 = .ok (.bipush 59, 2) := by decide +kernel
theorem dX9_readFares_58 : decode cX9_readFares 58 = .ok (.if_icmp .ne 8, 3) := by decide +kernel
theorem dX9_readFares_61 : decode cX9_readFares 61 = .ok (.iload_n 1, 1) := by decide +kernel
theorem dX9_readFares_62 : decode cX9_readFares 62 = .ok (.iconst 5, 1) := by decide +kernel
theorem dX9_readFares_63 : decode cX9_readFares 63 = .ok (.if_icmp .ne 5, 3) := by decide +kernel
theorem dX9_readFares_66 : decode cX9_readFares 66 = .ok (.iconst (-1), 1) := by decide +kernel
theorem dX9_readFares_67 : decode cX9_readFares 67 = .ok (.ireturn, 1) := by decide +kernel
theorem dX9_readFares_68 : decode cX9_readFares 68 = .ok (.iload_n 3, 1) := by decide +kernel
theorem dX9_readFares_69 : decode cX9_readFares 69 = .ok (.ifCond .lt 7, 3) := by decide +kernel
theorem dX9_readFares_72 : decode cX9_readFares 72 = .ok (.iconst 1, 1) := by decide +kernel
theorem dX9_readFares_73 : decode cX9_readFares 73 = .ok (.goto 4, 3) := by decide +kernel
theorem dX9_readFares_76 : decode cX9_readFares 76 = .ok (.iconst 0, 1) := by decide +kernel
theorem dX9_readFares_77 : decode cX9_readFares 77 = .ok (.istore_n 2, 1) := by decide +kernel
theorem dX9_readFares_78 : decode cX9_readFares 78 = .ok (.aload_n 0, 1) := by decide +kernel
theorem dX9_readFares_79 : decode cX9_readFares 79 = .ok (.dup, 1) := by decide +kernel
theorem dX9_readFares_80 : decode cX9_readFares 80 = .ok (.getfield 154, 3) := by decide +kernel
theorem dX9_readFares_83 : decode cX9_readFares 83 = .ok (.iload_n 2, 1) := by decide +kernel
theorem dX9_readFares_84 : decode cX9_readFares 84 = .ok (.ifCond .eq 7, 3) := by decide +kernel
theorem dX9_readFares_87 : decode cX9_readFares 87 = .ok (.iconst 1, 1) := by decide +kernel
theorem dX9_readFares_88 : decode cX9_readFares 88 = .ok (.goto 4, 3) := by decide +kernel
theorem dX9_readFares_91 : decode cX9_readFares 91 = .ok (.iconst 0, 1) := by decide +kernel
theorem dX9_readFares_92 : decode cX9_readFares 92 = .ok (.iadd, 1) := by decide +kernel
theorem dX9_readFares_93 : decode cX9_readFares 93 = .ok (.putfield 154, 3) := by decide +kernel
theorem dX9_readFares_96 : decode cX9_readFares 96 = .ok (.goto (-66), 3) := by decide +kernel
theorem dX9_readFares_99 : decode cX9_readFares 99 = .ok (.iload_n 1, 1) := by decide +kernel
theorem dX9_readFares_100 : decode cX9_readFares 100 = .ok (.ireturn, 1) := by decide +kernel
theorem dX9_fares_0 : decode cX9_fares 0 = .ok (.aload_n 0, 1) := by decide +kernel
theorem dX9_fares_1 : decode cX9_fares 1 = .ok (.invokevirtual 169, 3) := by decide +kernel
theorem dX9_fares_4 : decode cX9_fares 4 = .ok (.istore_n 1, 1) := by decide +kernel
theorem dX9_fares_5 : decode cX9_fares 5 = .ok (.aload_n 0, 1) := by decide +kernel
theorem dX9_fares_6 : decode cX9_fares 6 = .ok (.iconst 0, 1) := by decide +kernel
theorem dX9_fares_7 : decode cX9_fares 7 = .ok (.putfield 151, 3) := by decide +kernel
theorem dX9_fares_10 : decode cX9_fares 10 = .ok (.iload_n 1, 1) := by decide +kernel
theorem dX9_fares_11 : decode cX9_fares 11 = .ok (.ifCond .ge 11, 3) := by decide +kernel
theorem dX9_fares_14 : decode cX9_fares 14 = .ok (.bipush (-20), 2) := by decide +kernel
theorem dX9_fares_16 : decode cX9_fares 16 = .ok (.aload_n 0, 1) := by decide +kernel
theorem dX9_fares_17 : decode cX9_fares 17 = .ok (.getfield 154, 3) := by decide +kernel
theorem dX9_fares_20 : decode cX9_fares 20 = .ok (.isub, 1) := by decide +kernel
theorem dX9_fares_21 : decode cX9_fares 21 = .ok (.ireturn, 1) := by decide +kernel
theorem dX9_fares_22 : decode cX9_fares 22 = .ok (.iconst 0, 1) := by decide +kernel
theorem dX9_fares_23 : decode cX9_fares 23 = .ok (.istore_n 2, 1) := by decide +kernel
theorem dX9_fares_24 : decode cX9_fares 24 = .ok (.iload_n 2, 1) := by decide +kernel
theorem dX9_fares_25 : decode cX9_fares 25 = .ok (.bipush 10, 2) := by decide +kernel
theorem dX9_fares_27 : decode cX9_fares 27 = .ok (.if_icmp .ge 21, 3) := by decide +kernel
theorem dX9_fares_30 : decode cX9_fares 30 = .ok (.aload_n 0, 1) := by decide +kernel
theorem dX9_fares_31 : decode cX9_fares 31 = .ok (.getfield 91, 3) := by decide +kernel
theorem dX9_fares_34 : decode cX9_fares 34 = .ok (.iload_n 2, 1) := by decide +kernel
theorem dX9_fares_35 : decode cX9_fares 35 = .ok (.aload_n 0, 1) := by decide +kernel
theorem dX9_fares_36 : decode cX9_fares 36 = .ok (.getfield 94, 3) := by decide +kernel
theorem dX9_fares_39 : decode cX9_fares 39 = .ok (.iload_n 2, 1) := by decide +kernel
theorem dX9_fares_40 : decode cX9_fares 40 = .ok (.iaload, 1) := by decide +kernel
theorem dX9_fares_41 : decode cX9_fares 41 = .ok (.iastore, 1) := by decide +kernel
theorem dX9_fares_42 : decode cX9_fares 42 = .ok (.iinc 2 1, 3) := by decide +kernel
theorem dX9_fares_45 : decode cX9_fares 45 = .ok (.goto (-21), 3) := by decide +kernel
theorem dX9_fares_48 : decode cX9_fares 48 = .ok (.iload_n 1, 1) := by decide +kernel
theorem dX9_fares_49 : decode cX9_fares 49 = .ok (.ireturn, 1) := by decide +kernel
theorem dX9_fare_0 : decode cX9_fare 0 = .ok (.iload_n 1, 1) := by decide +kernel
theorem dX9_fare_1 : decode cX9_fare 1 = .ok (.iconst 0, 1) := by decide +kernel
theorem dX9_fare_2 : decode cX9_fare 2 = .ok (.bipush 9, 2) := by decide +kernel
theorem dX9_fare_4 : decode cX9_fare 4 = .ok (.invokestatic 112, 3) := by decide +kernel
theorem dX9_fare_7 : decode cX9_fare 7 = .ok (.ifCond .eq 12, 3) := by decide +kernel
theorem dX9_fare_10 : decode cX9_fare 10 = .ok (.aload_n 0, 1) := by decide +kernel
theorem dX9_fare_11 : decode cX9_fare 11 = .ok (.getfield 91, 3) := by decide +kernel
theorem dX9_fare_14 : decode cX9_fare 14 = .ok (.iload_n 1, 1) := by decide +kernel
theorem dX9_fare_15 : decode cX9_fare 15 = .ok (.iaload, 1) := by decide +kernel
theorem dX9_fare_16 : decode cX9_fare 16 = .ok (.goto 4, 3) := by decide +kernel
theorem dX9_fare_19 : decode cX9_fare 19 = .ok (.iconst (-1), 1) := by decide +kernel
theorem dX9_fare_20 : decode cX9_fare 20 = .ok (.ireturn, 1) := by decide +kernel
theorem dX9_flow_0 : decode cX9_flow 0 = .ok (.aload_n 0, 1) := by decide +kernel
theorem dX9_flow_1 : decode cX9_flow 1 = .ok (.getfield 7, 3) := by decide +kernel
theorem dX9_flow_4 : decode cX9_flow 4 = .ok (.iload_n 1, 1) := by decide +kernel
theorem dX9_flow_5 : decode cX9_flow 5 = .ok (.iaload, 1) := by decide +kernel
theorem dX9_flow_6 : decode cX9_flow 6 = .ok (.aload_n 0, 1) := by decide +kernel
theorem dX9_flow_7 : decode cX9_flow 7 = .ok (.getfield 80, 3) := by decide +kernel
theorem dX9_flow_10 : decode cX9_flow 10 = .ok (.imul, 1) := by decide +kernel
theorem dX9_flow_11 : decode cX9_flow 11 = .ok (.bipush 100, 2) := by decide +kernel
theorem dX9_flow_13 : decode cX9_flow 13 = .ok (.idiv, 1) := by decide +kernel
theorem dX9_flow_14 : decode cX9_flow 14 = .ok (.istore_n 2, 1) := by decide +kernel
theorem dX9_flow_15 : decode cX9_flow 15 = .ok (.aload_n 0, 1) := by decide +kernel
theorem dX9_flow_16 : decode cX9_flow 16 = .ok (.getfield 13, 3) := by decide +kernel
theorem dX9_flow_19 : decode cX9_flow 19 = .ok (.iload_n 1, 1) := by decide +kernel
theorem dX9_flow_20 : decode cX9_flow 20 = .ok (.iaload, 1) := by decide +kernel
theorem dX9_flow_21 : decode cX9_flow 21 = .ok (.iload_n 2, 1) := by decide +kernel
theorem dX9_flow_22 : decode cX9_flow 22 = .ok (.iadd, 1) := by decide +kernel
theorem dX9_flow_23 : decode cX9_flow 23 = .ok (.sipush 300, 3) := by decide +kernel
theorem dX9_flow_26 : decode cX9_flow 26 = .ok (.isub, 1) := by decide +kernel
theorem dX9_flow_27 : decode cX9_flow 27 = .ok (.istore_n 3, 1) := by decide +kernel
theorem dX9_flow_28 : decode cX9_flow 28 = .ok (.iload_n 3, 1) := by decide +kernel
theorem dX9_flow_29 : decode cX9_flow 29 = .ok (.ifCond .le 7, 3) := by decide +kernel
theorem dX9_flow_32 : decode cX9_flow 32 = .ok (.iload_n 3, 1) := by decide +kernel
theorem dX9_flow_33 : decode cX9_flow 33 = .ok (.goto 4, 3) := by decide +kernel
theorem dX9_flow_36 : decode cX9_flow 36 = .ok (.iconst 0, 1) := by decide +kernel
theorem dX9_flow_37 : decode cX9_flow 37 = .ok (.istore_n 3, 1) := by decide +kernel
theorem dX9_flow_38 : decode cX9_flow 38 = .ok (.aload_n 0, 1) := by decide +kernel
theorem dX9_flow_39 : decode cX9_flow 39 = .ok (.getfield 13, 3) := by decide +kernel
theorem dX9_flow_42 : decode cX9_flow 42 = .ok (.iload_n 1, 1) := by decide +kernel
theorem dX9_flow_43 : decode cX9_flow 43 = .ok (.dup2, 1) := by decide +kernel
theorem dX9_flow_44 : decode cX9_flow 44 = .ok (.iaload, 1) := by decide +kernel
theorem dX9_flow_45 : decode cX9_flow 45 = .ok (.iload_n 2, 1) := by decide +kernel
theorem dX9_flow_46 : decode cX9_flow 46 = .ok (.iload_n 3, 1) := by decide +kernel
theorem dX9_flow_47 : decode cX9_flow 47 = .ok (.isub, 1) := by decide +kernel
theorem dX9_flow_48 : decode cX9_flow 48 = .ok (.iadd, 1) := by decide +kernel
theorem dX9_flow_49 : decode cX9_flow 49 = .ok (.iastore, 1) := by decide +kernel
theorem dX9_flow_50 : decode cX9_flow 50 = .ok (.aload_n 0, 1) := by decide +kernel
theorem dX9_flow_51 : decode cX9_flow 51 = .ok (.getfield 20, 3) := by decide +kernel
theorem dX9_flow_54 : decode cX9_flow 54 = .ok (.iload_n 1, 1) := by decide +kernel
theorem dX9_flow_55 : decode cX9_flow 55 = .ok (.dup2, 1) := by decide +kernel
theorem dX9_flow_56 : decode cX9_flow 56 = .ok (.iaload, 1) := by decide +kernel
theorem dX9_flow_57 : decode cX9_flow 57 = .ok (.iload_n 3, 1) := by decide +kernel
theorem dX9_flow_58 : decode cX9_flow 58 = .ok (.iadd, 1) := by decide +kernel
theorem dX9_flow_59 : decode cX9_flow 59 = .ok (.iastore, 1) := by decide +kernel
theorem dX9_flow_60 : decode cX9_flow 60 = .ok (.aload_n 0, 1) := by decide +kernel
theorem dX9_flow_61 : decode cX9_flow 61 = .ok (.getfield 84, 3) := by decide +kernel
theorem dX9_flow_64 : decode cX9_flow 64 = .ok (.iconst 0, 1) := by decide +kernel
theorem dX9_flow_65 : decode cX9_flow 65 = .ok (.dup2, 1) := by decide +kernel
theorem dX9_flow_66 : decode cX9_flow 66 = .ok (.laload, 1) := by decide +kernel
theorem dX9_flow_67 : decode cX9_flow 67 = .ok (.iload_n 2, 1) := by decide +kernel
theorem dX9_flow_68 : decode cX9_flow 68 = .ok (.i2l, 1) := by decide +kernel
theorem dX9_flow_69 : decode cX9_flow 69 = .ok (.ladd, 1) := by decide +kernel
theorem dX9_flow_70 : decode cX9_flow 70 = .ok (.lastore, 1) := by decide +kernel
theorem dX9_flow_71 : decode cX9_flow 71 = .ok (.aload_n 0, 1) := by decide +kernel
theorem dX9_flow_72 : decode cX9_flow 72 = .ok (.getfield 84, 3) := by decide +kernel
theorem dX9_flow_75 : decode cX9_flow 75 = .ok (.iconst 1, 1) := by decide +kernel
theorem dX9_flow_76 : decode cX9_flow 76 = .ok (.dup2, 1) := by decide +kernel
theorem dX9_flow_77 : decode cX9_flow 77 = .ok (.laload, 1) := by decide +kernel
theorem dX9_flow_78 : decode cX9_flow 78 = .ok (.iload_n 3, 1) := by decide +kernel
theorem dX9_flow_79 : decode cX9_flow 79 = .ok (.i2l, 1) := by decide +kernel
theorem dX9_flow_80 : decode cX9_flow 80 = .ok (.ladd, 1) := by decide +kernel
theorem dX9_flow_81 : decode cX9_flow 81 = .ok (.lastore, 1) := by decide +kernel
theorem dX9_flow_82 : decode cX9_flow 82 = .ok (.return_, 1) := by decide +kernel
theorem dX9_isAhead_0 : decode cX9_isAhead 0 = .ok (.aload_n 0, 1) := by decide +kernel
theorem dX9_isAhead_1 : decode cX9_isAhead 1 = .ok (.getfield 53, 3) := by decide +kernel
theorem dX9_isAhead_4 : decode cX9_isAhead 4 = .ok (.iload_n 1, 1) := by decide +kernel
theorem dX9_isAhead_5 : decode cX9_isAhead 5 = .ok (.iaload, 1) := by decide +kernel
theorem dX9_isAhead_6 : decode cX9_isAhead 6 = .ok (.aload_n 0, 1) := by decide +kernel
theorem dX9_isAhead_7 : decode cX9_isAhead 7 = .ok (.getfield 53, 3) := by decide +kernel
theorem dX9_isAhead_10 : decode cX9_isAhead 10 = .ok (.iload_n 2, 1) := by decide +kernel
theorem dX9_isAhead_11 : decode cX9_isAhead 11 = .ok (.iaload, 1) := by decide +kernel
theorem dX9_isAhead_12 : decode cX9_isAhead 12 = .ok (.if_icmp .gt 33, 3) := by decide +kernel
theorem dX9_isAhead_15 : decode cX9_isAhead 15 = .ok (.aload_n 0, 1) := by decide +kernel
theorem dX9_isAhead_16 : decode cX9_isAhead 16 = .ok (.getfield 53, 3) := by decide +kernel
theorem dX9_isAhead_19 : decode cX9_isAhead 19 = .ok (.iload_n 1, 1) := by decide +kernel
theorem dX9_isAhead_20 : decode cX9_isAhead 20 = .ok (.iaload, 1) := by decide +kernel
theorem dX9_isAhead_21 : decode cX9_isAhead 21 = .ok (.aload_n 0, 1) := by decide +kernel
theorem dX9_isAhead_22 : decode cX9_isAhead 22 = .ok (.getfield 53, 3) := by decide +kernel
theorem dX9_isAhead_25 : decode cX9_isAhead 25 = .ok (.iload_n 2, 1) := by decide +kernel
theorem dX9_isAhead_26 : decode cX9_isAhead 26 = .ok (.iaload, 1) := by decide +kernel
theorem dX9_isAhead_27 : decode cX9_isAhead 27 = .ok (.if_icmp .ne 22, 3) := by decide +kernel
theorem dX9_isAhead_30 : decode cX9_isAhead 30 = .ok (.aload_n 0, 1) := by decide +kernel
theorem dX9_isAhead_31 : decode cX9_isAhead 31 = .ok (.getfield 71, 3) := by decide +kernel
theorem dX9_isAhead_34 : decode cX9_isAhead 34 = .ok (.iload_n 1, 1) := by decide +kernel
theorem dX9_isAhead_35 : decode cX9_isAhead 35 = .ok (.iaload, 1) := by decide +kernel
theorem dX9_isAhead_36 : decode cX9_isAhead 36 = .ok (.aload_n 0, 1) := by decide +kernel
theorem dX9_isAhead_37 : decode cX9_isAhead 37 = .ok (.getfield 71, 3) := by decide +kernel
theorem dX9_isAhead_40 : decode cX9_isAhead 40 = .ok (.iload_n 2, 1) := by decide +kernel
theorem dX9_isAhead_41 : decode cX9_isAhead 41 = .ok (.iaload, 1) := by decide +kernel
theorem dX9_isAhead_42 : decode cX9_isAhead 42 = .ok (.if_icmp .ge 7, 3) := by decide +kernel
theorem dX9_isAhead_45 : decode cX9_isAhead 45 = .ok (.iconst 1, 1) := by decide +kernel
theorem dX9_isAhead_46 : decode cX9_isAhead 46 = .ok (.goto 4, 3) := by decide +kernel
theorem dX9_isAhead_49 : decode cX9_isAhead 49 = .ok (.iconst 0, 1) := by decide +kernel
theorem dX9_isAhead_50 : decode cX9_isAhead 50 = .ok (.ireturn, 1) := by decide +kernel
theorem dX9_fill_0 : decode cX9_fill 0 = .ok (.iconst (-1), 1) := by decide +kernel
theorem dX9_fill_1 : decode cX9_fill 1 = .ok (.istore_n 2, 1) := by decide +kernel
theorem dX9_fill_2 : decode cX9_fill 2 = .ok (.iconst 0, 1) := by decide +kernel
theorem dX9_fill_3 : decode cX9_fill 3 = .ok (.istore_n 3, 1) := by decide +kernel
theorem dX9_fill_4 : decode cX9_fill 4 = .ok (.iload_n 3, 1) := by decide +kernel
theorem dX9_fill_5 : decode cX9_fill 5 = .ok (.aload_n 0, 1) := by decide +kernel
theorem dX9_fill_6 : decode cX9_fill 6 = .ok (.getfield 126, 3) := by decide +kernel
theorem dX9_fill_9 : decode cX9_fill 9 = .ok (.if_icmp .ge 59, 3) := by decide +kernel
theorem dX9_fill_12 : decode cX9_fill 12 = .ok (.aload_n 0, 1) := by decide +kernel
theorem dX9_fill_13 : decode cX9_fill 13 = .ok (.getfield 59, 3) := by decide +kernel
theorem dX9_fill_16 : decode cX9_fill 16 = .ok (.iload_n 3, 1) := by decide +kernel
theorem dX9_fill_17 : decode cX9_fill 17 = .ok (.iaload, 1) := by decide +kernel
theorem dX9_fill_18 : decode cX9_fill 18 = .ok (.ifCond .ne 17, 3) := by decide +kernel
theorem dX9_fill_21 : decode cX9_fill 21 = .ok (.aload_n 0, 1) := by decide +kernel
theorem dX9_fill_22 : decode cX9_fill 22 = .ok (.getfield 47, 3) := by decide +kernel
theorem dX9_fill_25 : decode cX9_fill 25 = .ok (.iload_n 3, 1) := by decide +kernel
theorem dX9_fill_26 : decode cX9_fill 26 = .ok (.iaload, 1) := by decide +kernel
theorem dX9_fill_27 : decode cX9_fill 27 = .ok (.iload_n 1, 1) := by decide +kernel
theorem dX9_fill_28 : decode cX9_fill 28 = .ok (.if_icmp .ne 7, 3) := by decide +kernel
theorem dX9_fill_31 : decode cX9_fill 31 = .ok (.iconst 1, 1) := by decide +kernel
theorem dX9_fill_32 : decode cX9_fill 32 = .ok (.goto 4, 3) := by decide +kernel
theorem dX9_fill_35 : decode cX9_fill 35 = .ok (.iconst 0, 1) := by decide +kernel
theorem dX9_fill_36 : decode cX9_fill 36 = .ok (.istore 4, 2) := by decide +kernel
theorem dX9_fill_38 : decode cX9_fill 38 = .ok (.iload 4, 2) := by decide +kernel
theorem dX9_fill_40 : decode cX9_fill 40 = .ok (.ifCond .eq 20, 3) := by decide +kernel
theorem dX9_fill_43 : decode cX9_fill 43 = .ok (.iload_n 2, 1) := by decide +kernel
theorem dX9_fill_44 : decode cX9_fill 44 = .ok (.ifCond .lt 12, 3) := by decide +kernel
theorem dX9_fill_47 : decode cX9_fill 47 = .ok (.aload_n 0, 1) := by decide +kernel
theorem dX9_fill_48 : decode cX9_fill 48 = .ok (.iload_n 3, 1) := by decide +kernel
theorem dX9_fill_49 : decode cX9_fill 49 = .ok (.iload_n 2, 1) := by decide +kernel
theorem dX9_fill_50 : decode cX9_fill 50 = .ok (.invokevirtual 172, 3) := by decide +kernel
theorem dX9_fill_53 : decode cX9_fill 53 = .ok (.ifCond .eq 7, 3) := by decide +kernel
theorem dX9_fill_56 : decode cX9_fill 56 = .ok (.iload_n 3, 1) := by decide +kernel
theorem dX9_fill_57 : decode cX9_fill 57 = .ok (.goto 4, 3) := by decide +kernel
theorem dX9_fill_60 : decode cX9_fill 60 = .ok (.iload_n 2, 1) := by decide +kernel
theorem dX9_fill_61 : decode cX9_fill 61 = .ok (.istore_n 2, 1) := by decide +kernel
theorem dX9_fill_62 : decode cX9_fill 62 = .ok (.iinc 3 1, 3) := by decide +kernel
theorem dX9_fill_65 : decode cX9_fill 65 = .ok (.goto (-61), 3) := by decide +kernel
theorem dX9_fill_68 : decode cX9_fill 68 = .ok (.iload_n 2, 1) := by decide +kernel
theorem dX9_fill_69 : decode cX9_fill 69 = .ok (.ifCond .ge 4, 3) := by decide +kernel
theorem dX9_fill_72 : decode cX9_fill 72 = .ok (.return_, 1) := by decide +kernel
theorem dX9_fill_73 : decode cX9_fill 73 = .ok (.aload_n 0, 1) := by decide +kernel
theorem dX9_fill_74 : decode cX9_fill 74 = .ok (.getfield 13, 3) := by decide +kernel
theorem dX9_fill_77 : decode cX9_fill 77 = .ok (.iload_n 1, 1) := by decide +kernel
theorem dX9_fill_78 : decode cX9_fill 78 = .ok (.iaload, 1) := by decide +kernel
theorem dX9_fill_79 : decode cX9_fill 79 = .ok (.aload_n 0, 1) := by decide +kernel
theorem dX9_fill_80 : decode cX9_fill 80 = .ok (.getfield 44, 3) := by decide +kernel
theorem dX9_fill_83 : decode cX9_fill 83 = .ok (.iload_n 2, 1) := by decide +kernel
theorem dX9_fill_84 : decode cX9_fill 84 = .ok (.iaload, 1) := by decide +kernel
theorem dX9_fill_85 : decode cX9_fill 85 = .ok (.aload_n 0, 1) := by decide +kernel
theorem dX9_fill_86 : decode cX9_fill 86 = .ok (.getfield 65, 3) := by decide +kernel
theorem dX9_fill_89 : decode cX9_fill 89 = .ok (.iload_n 2, 1) := by decide +kernel
theorem dX9_fill_90 : decode cX9_fill 90 = .ok (.iaload, 1) := by decide +kernel
theorem dX9_fill_91 : decode cX9_fill 91 = .ok (.isub, 1) := by decide +kernel
theorem dX9_fill_92 : decode cX9_fill 92 = .ok (.invokestatic 175, 3) := by decide +kernel
theorem dX9_fill_95 : decode cX9_fill 95 = .ok (.bipush 10, 2) := by decide +kernel
theorem dX9_fill_97 : decode cX9_fill 97 = .ok (.invokestatic 175, 3) := by decide +kernel
theorem dX9_fill_100 : decode cX9_fill 100 = .ok (.istore_n 3, 1) := by decide +kernel
theorem dX9_fill_101 : decode cX9_fill 101 = .ok (.iload_n 3, 1) := by decide +kernel
theorem dX9_fill_102 : decode cX9_fill 102 = .ok (.ifCond .le 51, 3) := by decide +kernel
theorem dX9_fill_105 : decode cX9_fill 105 = .ok (.aload_n 0, 1) := by decide +kernel
theorem dX9_fill_106 : decode cX9_fill 106 = .ok (.getfield 13, 3) := by decide +kernel
theorem dX9_fill_109 : decode cX9_fill 109 = .ok (.iload_n 1, 1) := by decide +kernel
theorem dX9_fill_110 : decode cX9_fill 110 = .ok (.dup2, 1) := by decide +kernel
theorem dX9_fill_111 : decode cX9_fill 111 = .ok (.iaload, 1) := by decide +kernel
theorem dX9_fill_112 : decode cX9_fill 112 = .ok (.iload_n 3, 1) := by decide +kernel
theorem dX9_fill_113 : decode cX9_fill 113 = .ok (.isub, 1) := by decide +kernel
theorem dX9_fill_114 : decode cX9_fill 114 = .ok (.iastore, 1) := by decide +kernel
theorem dX9_fill_115 : decode cX9_fill 115 = .ok (.aload_n 0, 1) := by decide +kernel
theorem dX9_fill_116 : decode cX9_fill 116 = .ok (.getfield 65, 3) := by decide +kernel
theorem dX9_fill_119 : decode cX9_fill 119 = .ok (.iload_n 2, 1) := by decide +kernel
theorem dX9_fill_120 : decode cX9_fill 120 = .ok (.dup2, 1) := by decide +kernel
theorem dX9_fill_121 : decode cX9_fill 121 = .ok (.iaload, 1) := by decide +kernel
theorem dX9_fill_122 : decode cX9_fill 122 = .ok (.iload_n 3, 1) := by decide +kernel
theorem dX9_fill_123 : decode cX9_fill 123 = .ok (.iadd, 1) := by decide +kernel
theorem dX9_fill_124 : decode cX9_fill 124 = .ok (.iastore, 1) := by decide +kernel
theorem dX9_fill_125 : decode cX9_fill 125 = .ok (.aload_n 0, 1) := by decide +kernel
theorem dX9_fill_126 : decode cX9_fill 126 = .ok (.getfield 84, 3) := by decide +kernel
theorem dX9_fill_129 : decode cX9_fill 129 = .ok (.iconst 2, 1) := by decide +kernel
theorem dX9_fill_130 : decode cX9_fill 130 = .ok (.dup2, 1) := by decide +kernel
theorem dX9_fill_131 : decode cX9_fill 131 = .ok (.laload, 1) := by decide +kernel
theorem dX9_fill_132 : decode cX9_fill 132 = .ok (.iload_n 3, 1) := by decide +kernel
theorem dX9_fill_133 : decode cX9_fill 133 = .ok (.i2l, 1) := by decide +kernel
theorem dX9_fill_134 : decode cX9_fill 134 = .ok (.ladd, 1) := by decide +kernel
theorem dX9_fill_135 : decode cX9_fill 135 = .ok (.lastore, 1) := by decide +kernel
theorem dX9_fill_136 : decode cX9_fill 136 = .ok (.aload_n 0, 1) := by decide +kernel
theorem dX9_fill_137 : decode cX9_fill 137 = .ok (.getfield 74, 3) := by decide +kernel
theorem dX9_fill_140 : decode cX9_fill 140 = .ok (.iload_n 2, 1) := by decide +kernel
theorem dX9_fill_141 : decode cX9_fill 141 = .ok (.iload_n 1, 1) := by decide +kernel
theorem dX9_fill_142 : decode cX9_fill 142 = .ok (.iastore, 1) := by decide +kernel
theorem dX9_fill_143 : decode cX9_fill 143 = .ok (.aload_n 0, 1) := by decide +kernel
theorem dX9_fill_144 : decode cX9_fill 144 = .ok (.getfield 77, 3) := by decide +kernel
theorem dX9_fill_147 : decode cX9_fill 147 = .ok (.iload_n 2, 1) := by decide +kernel
theorem dX9_fill_148 : decode cX9_fill 148 = .ok (.aload_n 0, 1) := by decide +kernel
theorem dX9_fill_149 : decode cX9_fill 149 = .ok (.getfield 178, 3) := by decide +kernel
theorem dX9_fill_152 : decode cX9_fill 152 = .ok (.iastore, 1) := by decide +kernel
theorem dX9_fill_153 : decode cX9_fill 153 = .ok (.aload_n 0, 1) := by decide +kernel
theorem dX9_fill_154 : decode cX9_fill 154 = .ok (.getfield 65, 3) := by decide +kernel
theorem dX9_fill_157 : decode cX9_fill 157 = .ok (.iload_n 2, 1) := by decide +kernel
theorem dX9_fill_158 : decode cX9_fill 158 = .ok (.iaload, 1) := by decide +kernel
theorem dX9_fill_159 : decode cX9_fill 159 = .ok (.aload_n 0, 1) := by decide +kernel
theorem dX9_fill_160 : decode cX9_fill 160 = .ok (.getfield 44, 3) := by decide +kernel
theorem dX9_fill_163 : decode cX9_fill 163 = .ok (.iload_n 2, 1) := by decide +kernel
theorem dX9_fill_164 : decode cX9_fill 164 = .ok (.iaload, 1) := by decide +kernel
theorem dX9_fill_165 : decode cX9_fill 165 = .ok (.if_icmp .ne 28, 3) := by decide +kernel
theorem dX9_fill_168 : decode cX9_fill 168 = .ok (.aload_n 0, 1) := by decide +kernel
theorem dX9_fill_169 : decode cX9_fill 169 = .ok (.getfield 59, 3) := by decide +kernel
theorem dX9_fill_172 : decode cX9_fill 172 = .ok (.iload_n 2, 1) := by decide +kernel
theorem dX9_fill_173 : decode cX9_fill 173 = .ok (.iconst 1, 1) := by decide +kernel
theorem dX9_fill_174 : decode cX9_fill 174 = .ok (.iastore, 1) := by decide +kernel
theorem dX9_fill_175 : decode cX9_fill 175 = .ok (.aload_n 0, 1) := by decide +kernel
theorem dX9_fill_176 : decode cX9_fill 176 = .ok (.getfield 62, 3) := by decide +kernel
theorem dX9_fill_179 : decode cX9_fill 179 = .ok (.iload_n 2, 1) := by decide +kernel
theorem dX9_fill_180 : decode cX9_fill 180 = .ok (.aload_n 0, 1) := by decide +kernel
theorem dX9_fill_181 : decode cX9_fill 181 = .ok (.iload_n 2, 1) := by decide +kernel
theorem dX9_fill_182 : decode cX9_fill 182 = .ok (.aload_n 0, 1) := by decide +kernel
theorem dX9_fill_183 : decode cX9_fill 183 = .ok (.getfield 50, 3) := by decide +kernel
theorem dX9_fill_186 : decode cX9_fill 186 = .ok (.iload_n 2, 1) := by decide +kernel
theorem dX9_fill_187 : decode cX9_fill 187 = .ok (.iaload, 1) := by decide +kernel
theorem dX9_fill_188 : decode cX9_fill 188 = .ok (.iconst 1, 1) := by decide +kernel
theorem dX9_fill_189 : decode cX9_fill 189 = .ok (.invokevirtual 181, 3) := by decide +kernel
theorem dX9_fill_192 : decode cX9_fill 192 = .ok (.iastore, 1) := by decide +kernel
theorem dX9_fill_193 : decode cX9_fill 193 = .ok (.return_, 1) := by decide +kernel
theorem dX9_keep_0 : decode cX9_keep 0 = .ok (.aload_n 0, 1) := by decide +kernel
theorem dX9_keep_1 : decode cX9_keep 1 = .ok (.getfield 185, 3) := by decide +kernel
theorem dX9_keep_4 : decode cX9_keep 4 = .ok (.bipush 100, 2) := by decide +kernel
theorem dX9_keep_6 : decode cX9_keep 6 = .ok (.if_icmp .ne 48, 3) := by decide +kernel
theorem dX9_keep_9 : decode cX9_keep 9 = .ok (.bipush 6, 2) := by decide +kernel
theorem dX9_keep_11 : decode cX9_keep 11 = .ok (.istore 4, 2) := by decide +kernel
theorem dX9_keep_13 : decode cX9_keep 13 = .ok (.iload 4, 2) := by decide +kernel
theorem dX9_keep_15 : decode cX9_keep 15 = .ok (.sipush 600, 3) := by decide +kernel
theorem dX9_keep_18 : decode cX9_keep 18 = .ok (.if_icmp .ge 26, 3) := by decide +kernel
theorem dX9_keep_21 : decode cX9_keep 21 = .ok (.aload_n 0, 1) := by decide +kernel
theorem dX9_keep_22 : decode cX9_keep 22 = .ok (.getfield 97, 3) := by decide +kernel
theorem dX9_keep_25 : decode cX9_keep 25 = .ok (.iload 4, 2) := by decide +kernel
theorem dX9_keep_27 : decode cX9_keep 27 = .ok (.bipush 6, 2) := by decide +kernel
theorem dX9_keep_29 : decode cX9_keep 29 = .ok (.isub, 1) := by decide +kernel
theorem dX9_keep_30 : decode cX9_keep 30 = .ok (.aload_n 0, 1) := by decide +kernel
theorem dX9_keep_31 : decode cX9_keep 31 = .ok (.getfield 97, 3) := by decide +kernel
theorem dX9_keep_34 : decode cX9_keep 34 = .ok (.iload 4, 2) := by decide +kernel
theorem dX9_keep_36 : decode cX9_keep 36 = .ok (.iaload, 1) := by decide +kernel
theorem dX9_keep_37 : decode cX9_keep 37 = .ok (.iastore, 1) := by decide +kernel
theorem dX9_keep_38 : decode cX9_keep 38 = .ok (.iinc 4 1, 3) := by decide +kernel
theorem dX9_keep_41 : decode cX9_keep 41 = .ok (.goto (-28), 3) := by decide +kernel
theorem dX9_keep_44 : decode cX9_keep 44 = .ok (.aload_n 0, 1) := by decide +kernel
theorem dX9_keep_45 : decode cX9_keep 45 = .ok (.dup, 1) := by decide +kernel
theorem dX9_keep_46 : decode cX9_keep 46 = .ok (.getfield 185, 3) := by decide +kernel
theorem dX9_keep_49 : decode cX9_keep 49 = .ok (.iconst 1, 1) := by decide +kernel
theorem dX9_keep_50 : decode cX9_keep 50 = .ok (.isub, 1) := by decide +kernel
theorem dX9_keep_51 : decode cX9_keep 51 = .ok (.putfield 185, 3) := by decide +kernel
theorem dX9_keep_54 : decode cX9_keep 54 = .ok (.bipush 6, 2) := by decide +kernel
theorem dX9_keep_56 : decode cX9_keep 56 = .ok (.aload_n 0, 1) := by decide +kernel
theorem dX9_keep_57 : decode cX9_keep 57 = .ok (.getfield 185, 3) := by decide +kernel
theorem dX9_keep_60 : decode cX9_keep 60 = .ok (.imul, 1) := by decide +kernel
theorem dX9_keep_61 : decode cX9_keep 61 = .ok (.istore 4, 2) := by decide +kernel
theorem dX9_keep_63 : decode cX9_keep 63 = .ok (.aload_n 0, 1) := by decide +kernel
theorem dX9_keep_64 : decode cX9_keep 64 = .ok (.getfield 97, 3) := by decide +kernel
theorem dX9_keep_67 : decode cX9_keep 67 = .ok (.iload 4, 2) := by decide +kernel
theorem dX9_keep_69 : decode cX9_keep 69 = .ok (.iload_n 1, 1) := by decide +kernel
theorem dX9_keep_70 : decode cX9_keep 70 = .ok (.iastore, 1) := by decide +kernel
theorem dX9_keep_71 : decode cX9_keep 71 = .ok (.aload_n 0, 1) := by decide +kernel
theorem dX9_keep_72 : decode cX9_keep 72 = .ok (.getfield 97, 3) := by decide +kernel
theorem dX9_keep_75 : decode cX9_keep 75 = .ok (.iload 4, 2) := by decide +kernel
theorem dX9_keep_77 : decode cX9_keep 77 = .ok (.iconst 1, 1) := by decide +kernel
theorem dX9_keep_78 : decode cX9_keep 78 = .ok (.iadd, 1) := by decide +kernel
theorem dX9_keep_79 : decode cX9_keep 79 = .ok (.iload_n 2, 1) := by decide +kernel
theorem dX9_keep_80 : decode cX9_keep 80 = .ok (.iastore, 1) := by decide +kernel
theorem dX9_keep_81 : decode cX9_keep 81 = .ok (.aload_n 0, 1) := by decide +kernel
theorem dX9_keep_82 : decode cX9_keep 82 = .ok (.getfield 97, 3) := by decide +kernel
theorem dX9_keep_85 : decode cX9_keep 85 = .ok (.iload 4, 2) := by decide +kernel
theorem dX9_keep_87 : decode cX9_keep 87 = .ok (.iconst 2, 1) := by decide +kernel
theorem dX9_keep_88 : decode cX9_keep 88 = .ok (.iadd, 1) := by decide +kernel
theorem dX9_keep_89 : decode cX9_keep 89 = .ok (.iload_n 3, 1) := by decide +kernel
theorem dX9_keep_90 : decode cX9_keep 90 = .ok (.iastore, 1) := by decide +kernel
theorem dX9_keep_91 : decode cX9_keep 91 = .ok (.aload_n 0, 1) := by decide +kernel
theorem dX9_keep_92 : decode cX9_keep 92 = .ok (.getfield 97, 3) := by decide +kernel
theorem dX9_keep_95 : decode cX9_keep 95 = .ok (.iload 4, 2) := by decide +kernel
theorem dX9_keep_97 : decode cX9_keep 97 = .ok (.iconst 3, 1) := by decide +kernel
theorem dX9_keep_98 : decode cX9_keep 98 = .ok (.iadd, 1) := by decide +kernel
theorem dX9_keep_99 : decode cX9_keep 99 = .ok (.aload_n 0, 1) := by decide +kernel
theorem dX9_keep_100 : decode cX9_keep 100 = .ok (.getfield 178, 3) := by decide +kernel
theorem dX9_keep_103 : decode cX9_keep 103 = .ok (.iastore, 1) := by decide +kernel
theorem dX9_keep_104 : decode cX9_keep 104 = .ok (.aload_n 0, 1) := by decide +kernel
theorem dX9_keep_105 : decode cX9_keep 105 = .ok (.getfield 97, 3) := by decide +kernel
theorem dX9_keep_108 : decode cX9_keep 108 = .ok (.iload 4, 2) := by decide +kernel
theorem dX9_keep_110 : decode cX9_keep 110 = .ok (.iconst 4, 1) := by decide +kernel
theorem dX9_keep_111 : decode cX9_keep 111 = .ok (.iadd, 1) := by decide +kernel
theorem dX9_keep_112 : decode cX9_keep 112 = .ok (.aload_n 0, 1) := by decide +kernel
theorem dX9_keep_113 : decode cX9_keep 113 = .ok (.getfield 74, 3) := by decide +kernel
theorem dX9_keep_116 : decode cX9_keep 116 = .ok (.iload_n 1, 1) := by decide +kernel
theorem dX9_keep_117 : decode cX9_keep 117 = .ok (.iaload, 1) := by decide +kernel
theorem dX9_keep_118 : decode cX9_keep 118 = .ok (.iastore, 1) := by decide +kernel
theorem dX9_keep_119 : decode cX9_keep 119 = .ok (.aload_n 0, 1) := by decide +kernel
theorem dX9_keep_120 : decode cX9_keep 120 = .ok (.getfield 97, 3) := by decide +kernel
theorem dX9_keep_123 : decode cX9_keep 123 = .ok (.iload 4, 2) := by decide +kernel
theorem dX9_keep_125 : decode cX9_keep 125 = .ok (.iconst 5, 1) := by decide +kernel
theorem dX9_keep_126 : decode cX9_keep 126 = .ok (.iadd, 1) := by decide +kernel
theorem dX9_keep_127 : decode cX9_keep 127 = .ok (.aload_n 0, 1) := by decide +kernel
theorem dX9_keep_128 : decode cX9_keep 128 = .ok (.getfield 77, 3) := by decide +kernel
theorem dX9_keep_131 : decode cX9_keep 131 = .ok (.iload_n 1, 1) := by decide +kernel
theorem dX9_keep_132 : decode cX9_keep 132 = .ok (.iaload, 1) := by decide +kernel
theorem dX9_keep_133 : decode cX9_keep 133 = .ok (.iastore, 1) := by decide +kernel
theorem dX9_keep_134 : decode cX9_keep 134 = .ok (.aload_n 0, 1) := by decide +kernel
theorem dX9_keep_135 : decode cX9_keep 135 = .ok (.dup, 1) := by decide +kernel
theorem dX9_keep_136 : decode cX9_keep 136 = .ok (.getfield 185, 3) := by decide +kernel
theorem dX9_keep_139 : decode cX9_keep 139 = .ok (.iconst 1, 1) := by decide +kernel
theorem dX9_keep_140 : decode cX9_keep 140 = .ok (.iadd, 1) := by decide +kernel
theorem dX9_keep_141 : decode cX9_keep 141 = .ok (.putfield 185, 3) := by decide +kernel
theorem dX9_keep_144 : decode cX9_keep 144 = .ok (.return_, 1) := by decide +kernel
theorem dX9_goDown_0 : decode cX9_goDown 0 = .ok (.aload_n 0, 1) := by decide +kernel
theorem dX9_goDown_1 : decode cX9_goDown 1 = .ok (.getfield 59, 3) := by decide +kernel
theorem dX9_goDown_4 : decode cX9_goDown 4 = .ok (.iload_n 1, 1) := by decide +kernel
theorem dX9_goDown_5 : decode cX9_goDown 5 = .ok (.iconst 2, 1) := by decide +kernel
theorem dX9_goDown_6 : decode cX9_goDown 6 = .ok (.iastore, 1) := by decide +kernel
theorem dX9_goDown_7 : decode cX9_goDown 7 = .ok (.aload_n 0, 1) := by decide +kernel
theorem dX9_goDown_8 : decode cX9_goDown 8 = .ok (.getfield 62, 3) := by decide +kernel
theorem dX9_goDown_11 : decode cX9_goDown 11 = .ok (.iload_n 1, 1) := by decide +kernel
theorem dX9_goDown_12 : decode cX9_goDown 12 = .ok (.aload_n 0, 1) := by decide +kernel
theorem dX9_goDown_13 : decode cX9_goDown 13 = .ok (.iload_n 1, 1) := by decide +kernel
theorem dX9_goDown_14 : decode cX9_goDown 14 = .ok (.aload_n 0, 1) := by decide +kernel
theorem dX9_goDown_15 : decode cX9_goDown 15 = .ok (.getfield 50, 3) := by decide +kernel
theorem dX9_goDown_18 : decode cX9_goDown 18 = .ok (.iload_n 1, 1) := by decide +kernel
theorem dX9_goDown_19 : decode cX9_goDown 19 = .ok (.iaload, 1) := by decide +kernel
theorem dX9_goDown_20 : decode cX9_goDown 20 = .ok (.iconst 0, 1) := by decide +kernel
theorem dX9_goDown_21 : decode cX9_goDown 21 = .ok (.invokevirtual 181, 3) := by decide +kernel
theorem dX9_goDown_24 : decode cX9_goDown 24 = .ok (.iastore, 1) := by decide +kernel
theorem dX9_goDown_25 : decode cX9_goDown 25 = .ok (.return_, 1) := by decide +kernel
theorem dX9_pour_0 : decode cX9_pour 0 = .ok (.aload_n 0, 1) := by decide +kernel
theorem dX9_pour_1 : decode cX9_pour 1 = .ok (.getfield 50, 3) := by decide +kernel
theorem dX9_pour_4 : decode cX9_pour 4 = .ok (.iload_n 1, 1) := by decide +kernel
theorem dX9_pour_5 : decode cX9_pour 5 = .ok (.iaload, 1) := by decide +kernel
theorem dX9_pour_6 : decode cX9_pour 6 = .ok (.istore_n 2, 1) := by decide +kernel
theorem dX9_pour_7 : decode cX9_pour 7 = .ok (.aload_n 0, 1) := by decide +kernel
theorem dX9_pour_8 : decode cX9_pour 8 = .ok (.getfield 65, 3) := by decide +kernel
theorem dX9_pour_11 : decode cX9_pour 11 = .ok (.iload_n 1, 1) := by decide +kernel
theorem dX9_pour_12 : decode cX9_pour 12 = .ok (.iaload, 1) := by decide +kernel
theorem dX9_pour_13 : decode cX9_pour 13 = .ok (.aload_n 0, 1) := by decide +kernel
theorem dX9_pour_14 : decode cX9_pour 14 = .ok (.getfield 26, 3) := by decide +kernel
theorem dX9_pour_17 : decode cX9_pour 17 = .ok (.iload_n 2, 1) := by decide +kernel
theorem dX9_pour_18 : decode cX9_pour 18 = .ok (.iaload, 1) := by decide +kernel
theorem dX9_pour_19 : decode cX9_pour 19 = .ok (.aload_n 0, 1) := by decide +kernel
theorem dX9_pour_20 : decode cX9_pour 20 = .ok (.getfield 32, 3) := by decide +kernel
theorem dX9_pour_23 : decode cX9_pour 23 = .ok (.iload_n 2, 1) := by decide +kernel
theorem dX9_pour_24 : decode cX9_pour 24 = .ok (.iaload, 1) := by decide +kernel
theorem dX9_pour_25 : decode cX9_pour 25 = .ok (.isub, 1) := by decide +kernel
theorem dX9_pour_26 : decode cX9_pour 26 = .ok (.invokestatic 175, 3) := by decide +kernel
theorem dX9_pour_29 : decode cX9_pour 29 = .ok (.istore_n 3, 1) := by decide +kernel
theorem dX9_pour_30 : decode cX9_pour 30 = .ok (.iload_n 3, 1) := by decide +kernel
theorem dX9_pour_31 : decode cX9_pour 31 = .ok (.ifCond .le 87, 3) := by decide +kernel
theorem dX9_pour_34 : decode cX9_pour 34 = .ok (.aload_n 0, 1) := by decide +kernel
theorem dX9_pour_35 : decode cX9_pour 35 = .ok (.getfield 65, 3) := by decide +kernel
theorem dX9_pour_38 : decode cX9_pour 38 = .ok (.iload_n 1, 1) := by decide +kernel
theorem dX9_pour_39 : decode cX9_pour 39 = .ok (.dup2, 1) := by decide +kernel
theorem dX9_pour_40 : decode cX9_pour 40 = .ok (.iaload, 1) := by decide +kernel
theorem dX9_pour_41 : decode cX9_pour 41 = .ok (.iload_n 3, 1) := by decide +kernel
theorem dX9_pour_42 : decode cX9_pour 42 = .ok (.isub, 1) := by decide +kernel
theorem dX9_pour_43 : decode cX9_pour 43 = .ok (.iastore, 1) := by decide +kernel
theorem dX9_pour_44 : decode cX9_pour 44 = .ok (.aload_n 0, 1) := by decide +kernel
theorem dX9_pour_45 : decode cX9_pour 45 = .ok (.getfield 32, 3) := by decide +kernel
theorem dX9_pour_48 : decode cX9_pour 48 = .ok (.iload_n 2, 1) := by decide +kernel
theorem dX9_pour_49 : decode cX9_pour 49 = .ok (.dup2, 1) := by decide +kernel
theorem dX9_pour_50 : decode cX9_pour 50 = .ok (.iaload, 1) := by decide +kernel
theorem dX9_pour_51 : decode cX9_pour 51 = .ok (.iload_n 3, 1) := by decide +kernel
theorem dX9_pour_52 : decode cX9_pour 52 = .ok (.iadd, 1) := by decide +kernel
theorem dX9_pour_53 : decode cX9_pour 53 = .ok (.iastore, 1) := by decide +kernel
theorem dX9_pour_54 : decode cX9_pour 54 = .ok (.aload_n 0, 1) := by decide +kernel
theorem dX9_pour_55 : decode cX9_pour 55 = .ok (.getfield 68, 3) := by decide +kernel
theorem dX9_pour_58 : decode cX9_pour 58 = .ok (.iload_n 1, 1) := by decide +kernel
theorem dX9_pour_59 : decode cX9_pour 59 = .ok (.dup2, 1) := by decide +kernel
theorem dX9_pour_60 : decode cX9_pour 60 = .ok (.iaload, 1) := by decide +kernel
theorem dX9_pour_61 : decode cX9_pour 61 = .ok (.iload_n 3, 1) := by decide +kernel
theorem dX9_pour_62 : decode cX9_pour 62 = .ok (.aload_n 0, 1) := by decide +kernel
theorem dX9_pour_63 : decode cX9_pour 63 = .ok (.getfield 91, 3) := by decide +kernel
theorem dX9_pour_66 : decode cX9_pour 66 = .ok (.aload_n 0, 1) := by decide +kernel
theorem dX9_pour_67 : decode cX9_pour 67 = .ok (.getfield 23, 3) := by decide +kernel
theorem dX9_pour_70 : decode cX9_pour 70 = .ok (.iload_n 2, 1) := by decide +kernel
theorem dX9_pour_71 : decode cX9_pour 71 = .ok (.iaload, 1) := by decide +kernel
theorem dX9_pour_72 : decode cX9_pour 72 = .ok (.iaload, 1) := by decide +kernel
theorem dX9_pour_73 : decode cX9_pour 73 = .ok (.imul, 1) := by decide +kernel
theorem dX9_pour_74 : decode cX9_pour 74 = .ok (.iadd, 1) := by decide +kernel
theorem dX9_pour_75 : decode cX9_pour 75 = .ok (.iastore, 1) := by decide +kernel
theorem dX9_pour_76 : decode cX9_pour 76 = .ok (.aload_n 0, 1) := by decide +kernel
theorem dX9_pour_77 : decode cX9_pour 77 = .ok (.getfield 84, 3) := by decide +kernel
theorem dX9_pour_80 : decode cX9_pour 80 = .ok (.iconst 3, 1) := by decide +kernel
theorem dX9_pour_81 : decode cX9_pour 81 = .ok (.dup2, 1) := by decide +kernel
theorem dX9_pour_82 : decode cX9_pour 82 = .ok (.laload, 1) := by decide +kernel
theorem dX9_pour_83 : decode cX9_pour 83 = .ok (.iload_n 3, 1) := by decide +kernel
theorem dX9_pour_84 : decode cX9_pour 84 = .ok (.i2l, 1) := by decide +kernel
theorem dX9_pour_85 : decode cX9_pour 85 = .ok (.ladd, 1) := by decide +kernel
theorem dX9_pour_86 : decode cX9_pour 86 = .ok (.lastore, 1) := by decide +kernel
theorem dX9_pour_87 : decode cX9_pour 87 = .ok (.aload_n 0, 1) := by decide +kernel
theorem dX9_pour_88 : decode cX9_pour 88 = .ok (.getfield 84, 3) := by decide +kernel
theorem dX9_pour_91 : decode cX9_pour 91 = .ok (.bipush 6, 2) := by decide +kernel
theorem dX9_pour_93 : decode cX9_pour 93 = .ok (.dup2, 1) := by decide +kernel
theorem dX9_pour_94 : decode cX9_pour 94 = .ok (.laload, 1) := by decide +kernel
theorem dX9_pour_95 : decode cX9_pour 95 = .ok (.iload_n 3, 1) := by decide +kernel
theorem dX9_pour_96 : decode cX9_pour 96 = .ok (.aload_n 0, 1) := by decide +kernel
theorem dX9_pour_97 : decode cX9_pour 97 = .ok (.getfield 91, 3) := by decide +kernel
theorem dX9_pour_100 : decode cX9_pour 100 = .ok (.aload_n 0, 1) := by decide +kernel
theorem dX9_pour_101 : decode cX9_pour 101 = .ok (.getfield 23, 3) := by decide +kernel
theorem dX9_pour_104 : decode cX9_pour 104 = .ok (.iload_n 2, 1) := by decide +kernel
theorem dX9_pour_105 : decode cX9_pour 105 = .ok (.iaload, 1) := by decide +kernel
theorem dX9_pour_106 : decode cX9_pour 106 = .ok (.iaload, 1) := by decide +kernel
theorem dX9_pour_107 : decode cX9_pour 107 = .ok (.imul, 1) := by decide +kernel
theorem dX9_pour_108 : decode cX9_pour 108 = .ok (.i2l, 1) := by decide +kernel
theorem dX9_pour_109 : decode cX9_pour 109 = .ok (.ladd, 1) := by decide +kernel
theorem dX9_pour_110 : decode cX9_pour 110 = .ok (.lastore, 1) := by decide +kernel
theorem dX9_pour_111 : decode cX9_pour 111 = .ok (.aload_n 0, 1) := by decide +kernel
theorem dX9_pour_112 : decode cX9_pour 112 = .ok (.iload_n 1, 1) := by decide +kernel
theorem dX9_pour_113 : decode cX9_pour 113 = .ok (.iload_n 2, 1) := by decide +kernel
theorem dX9_pour_114 : decode cX9_pour 114 = .ok (.iload_n 3, 1) := by decide +kernel
theorem dX9_pour_115 : decode cX9_pour 115 = .ok (.invokevirtual 188, 3) := by decide +kernel
theorem dX9_pour_118 : decode cX9_pour 118 = .ok (.aload_n 0, 1) := by decide +kernel
theorem dX9_pour_119 : decode cX9_pour 119 = .ok (.iload_n 1, 1) := by decide +kernel
theorem dX9_pour_120 : decode cX9_pour 120 = .ok (.invokevirtual 192, 3) := by decide +kernel
theorem dX9_pour_123 : decode cX9_pour 123 = .ok (.return_, 1) := by decide +kernel
theorem dX9_minute_0 : decode cX9_minute 0 = .ok (.iconst 0, 1) := by decide +kernel
theorem dX9_minute_1 : decode cX9_minute 1 = .ok (.istore_n 1, 1) := by decide +kernel
theorem dX9_minute_2 : decode cX9_minute 2 = .ok (.iload_n 1, 1) := by decide +kernel
theorem dX9_minute_3 : decode cX9_minute 3 = .ok (.aload_n 0, 1) := by decide +kernel
theorem dX9_minute_4 : decode cX9_minute 4 = .ok (.getfield 126, 3) := by decide +kernel
theorem dX9_minute_7 : decode cX9_minute 7 = .ok (.if_icmp .ge 29, 3) := by decide +kernel
theorem dX9_minute_10 : decode cX9_minute 10 = .ok (.aload_n 0, 1) := by decide +kernel
theorem dX9_minute_11 : decode cX9_minute 11 = .ok (.getfield 100, 3) := by decide +kernel
theorem dX9_minute_14 : decode cX9_minute 14 = .ok (.iload_n 1, 1) := by decide +kernel
theorem dX9_minute_15 : decode cX9_minute 15 = .ok (.aload_n 0, 1) := by decide +kernel
theorem dX9_minute_16 : decode cX9_minute 16 = .ok (.getfield 59, 3) := by decide +kernel
theorem dX9_minute_19 : decode cX9_minute 19 = .ok (.iload_n 1, 1) := by decide +kernel
theorem dX9_minute_20 : decode cX9_minute 20 = .ok (.iaload, 1) := by decide +kernel
theorem dX9_minute_21 : decode cX9_minute 21 = .ok (.ifCond .eq 7, 3) := by decide +kernel
theorem dX9_minute_24 : decode cX9_minute 24 = .ok (.iconst 1, 1) := by decide +kernel
theorem dX9_minute_25 : decode cX9_minute 25 = .ok (.goto 4, 3) := by decide +kernel
theorem dX9_minute_28 : decode cX9_minute 28 = .ok (.iconst 0, 1) := by decide +kernel
theorem dX9_minute_29 : decode cX9_minute 29 = .ok (.bastore, 1) := by decide +kernel
theorem dX9_minute_30 : decode cX9_minute 30 = .ok (.iinc 1 1, 3) := by decide +kernel
theorem dX9_minute_33 : decode cX9_minute 33 = .ok (.goto (-31), 3) := by decide +kernel
theorem dX9_minute_36 : decode cX9_minute 36 = .ok (.iconst 0, 1) := by decide +kernel
theorem dX9_minute_37 : decode cX9_minute 37 = .ok (.istore_n 1, 1) := by decide +kernel
theorem dX9_minute_38 : decode cX9_minute 38 = .ok (.iload_n 1, 1) := by decide +kernel
theorem dX9_minute_39 : decode cX9_minute 39 = .ok (.aload_n 0, 1) := by decide +kernel
theorem dX9_minute_40 : decode cX9_minute 40 = .ok (.getfield 119, 3) := by decide +kernel
theorem dX9_minute_43 : decode cX9_minute 43 = .ok (.if_icmp .ge 23, 3) := by decide +kernel
theorem dX9_minute_46 : decode cX9_minute 46 = .ok (.aload_n 0, 1) := by decide +kernel
theorem dX9_minute_47 : decode cX9_minute 47 = .ok (.getfield 16, 3) := by decide +kernel
theorem dX9_minute_50 : decode cX9_minute 50 = .ok (.iload_n 1, 1) := by decide +kernel
theorem dX9_minute_51 : decode cX9_minute 51 = .ok (.baload, 1) := by decide +kernel
theorem dX9_minute_52 : decode cX9_minute 52 = .ok (.ifCond .eq 8, 3) := by decide +kernel
theorem dX9_minute_55 : decode cX9_minute 55 = .ok (.aload_n 0, 1) := by decide +kernel
theorem dX9_minute_56 : decode cX9_minute 56 = .ok (.iload_n 1, 1) := by decide +kernel
theorem dX9_minute_57 : decode cX9_minute 57 = .ok (.invokevirtual 195, 3) := by decide +kernel
theorem dX9_minute_60 : decode cX9_minute 60 = .ok (.iinc 1 1, 3) := by decide +kernel
theorem dX9_minute_63 : decode cX9_minute 63 = .ok (.goto (-25), 3) := by decide +kernel
theorem dX9_minute_66 : decode cX9_minute 66 = .ok (.iconst 0, 1) := by decide +kernel
theorem dX9_minute_67 : decode cX9_minute 67 = .ok (.istore_n 1, 1) := by decide +kernel
theorem dX9_minute_68 : decode cX9_minute 68 = .ok (.iload_n 1, 1) := by decide +kernel
theorem dX9_minute_69 : decode cX9_minute 69 = .ok (.aload_n 0, 1) := by decide +kernel
theorem dX9_minute_70 : decode cX9_minute 70 = .ok (.getfield 119, 3) := by decide +kernel
theorem dX9_minute_73 : decode cX9_minute 73 = .ok (.if_icmp .ge 23, 3) := by decide +kernel
theorem dX9_minute_76 : decode cX9_minute 76 = .ok (.aload_n 0, 1) := by decide +kernel
theorem dX9_minute_77 : decode cX9_minute 77 = .ok (.getfield 16, 3) := by decide +kernel
theorem dX9_minute_80 : decode cX9_minute 80 = .ok (.iload_n 1, 1) := by decide +kernel
theorem dX9_minute_81 : decode cX9_minute 81 = .ok (.baload, 1) := by decide +kernel
theorem dX9_minute_82 : decode cX9_minute 82 = .ok (.ifCond .eq 8, 3) := by decide +kernel
theorem dX9_minute_85 : decode cX9_minute 85 = .ok (.aload_n 0, 1) := by decide +kernel
theorem dX9_minute_86 : decode cX9_minute 86 = .ok (.iload_n 1, 1) := by decide +kernel
theorem dX9_minute_87 : decode cX9_minute 87 = .ok (.invokevirtual 198, 3) := by decide +kernel
theorem dX9_minute_90 : decode cX9_minute 90 = .ok (.iinc 1 1, 3) := by decide +kernel
theorem dX9_minute_93 : decode cX9_minute 93 = .ok (.goto (-25), 3) := by decide +kernel
theorem dX9_minute_96 : decode cX9_minute 96 = .ok (.iconst 0, 1) := by decide +kernel
theorem dX9_minute_97 : decode cX9_minute 97 = .ok (.istore_n 1, 1) := by decide +kernel
theorem dX9_minute_98 : decode cX9_minute 98 = .ok (.iload_n 1, 1) := by decide +kernel
theorem dX9_minute_99 : decode cX9_minute 99 = .ok (.aload_n 0, 1) := by decide +kernel
theorem dX9_minute_100 : decode cX9_minute 100 = .ok (.getfield 126, 3) := by decide +kernel
theorem dX9_minute_103 : decode cX9_minute 103 = .ok (.if_icmp .ge 60, 3) := by decide +kernel
theorem dX9_minute_106 : decode cX9_minute 106 = .ok (.aload_n 0, 1) := by decide +kernel
theorem dX9_minute_107 : decode cX9_minute 107 = .ok (.getfield 100, 3) := by decide +kernel
theorem dX9_minute_110 : decode cX9_minute 110 = .ok (.iload_n 1, 1) := by decide +kernel
theorem dX9_minute_111 : decode cX9_minute 111 = .ok (.baload, 1) := by decide +kernel
theorem dX9_minute_112 : decode cX9_minute 112 = .ok (.ifCond .eq 45, 3) := by decide +kernel
theorem dX9_minute_115 : decode cX9_minute 115 = .ok (.aload_n 0, 1) := by decide +kernel
theorem dX9_minute_116 : decode cX9_minute 116 = .ok (.getfield 62, 3) := by decide +kernel
theorem dX9_minute_119 : decode cX9_minute 119 = .ok (.iload_n 1, 1) := by decide +kernel
theorem dX9_minute_120 : decode cX9_minute 120 = .ok (.dup2, 1) := by decide +kernel
theorem dX9_minute_121 : decode cX9_minute 121 = .ok (.iaload, 1) := by decide +kernel
theorem dX9_minute_122 : decode cX9_minute 122 = .ok (.iconst 1, 1) := by decide +kernel
theorem dX9_minute_123 : decode cX9_minute 123 = .ok (.isub, 1) := by decide +kernel
theorem dX9_minute_124 : decode cX9_minute 124 = .ok (.iastore, 1) := by decide +kernel
theorem dX9_minute_125 : decode cX9_minute 125 = .ok (.aload_n 0, 1) := by decide +kernel
theorem dX9_minute_126 : decode cX9_minute 126 = .ok (.getfield 62, 3) := by decide +kernel
theorem dX9_minute_129 : decode cX9_minute 129 = .ok (.iload_n 1, 1) := by decide +kernel
theorem dX9_minute_130 : decode cX9_minute 130 = .ok (.iaload, 1) := by decide +kernel
theorem dX9_minute_131 : decode cX9_minute 131 = .ok (.ifCond .ne 26, 3) := by decide +kernel
theorem dX9_minute_134 : decode cX9_minute 134 = .ok (.aload_n 0, 1) := by decide +kernel
theorem dX9_minute_135 : decode cX9_minute 135 = .ok (.getfield 59, 3) := by decide +kernel
theorem dX9_minute_138 : decode cX9_minute 138 = .ok (.iload_n 1, 1) := by decide +kernel
theorem dX9_minute_139 : decode cX9_minute 139 = .ok (.iaload, 1) := by decide +kernel
theorem dX9_minute_140 : decode cX9_minute 140 = .ok (.iconst 1, 1) := by decide +kernel
theorem dX9_minute_141 : decode cX9_minute 141 = .ok (.if_icmp .ne 11, 3) := by decide +kernel
theorem dX9_minute_144 : decode cX9_minute 144 = .ok (.aload_n 0, 1) := by decide +kernel
theorem dX9_minute_145 : decode cX9_minute 145 = .ok (.iload_n 1, 1) := by decide +kernel
theorem dX9_minute_146 : decode cX9_minute 146 = .ok (.invokevirtual 201, 3) := by decide +kernel
theorem dX9_minute_149 : decode cX9_minute 149 = .ok (.goto 8, 3) := by decide +kernel
theorem dX9_minute_152 : decode cX9_minute 152 = .ok (.aload_n 0, 1) := by decide +kernel
theorem dX9_minute_153 : decode cX9_minute 153 = .ok (.iload_n 1, 1) := by decide +kernel
theorem dX9_minute_154 : decode cX9_minute 154 = .ok (.invokevirtual 142, 3) := by decide +kernel
theorem dX9_minute_157 : decode cX9_minute 157 = .ok (.iinc 1 1, 3) := by decide +kernel
theorem dX9_minute_160 : decode cX9_minute 160 = .ok (.goto (-62), 3) := by decide +kernel
theorem dX9_minute_163 : decode cX9_minute 163 = .ok (.iconst 0, 1) := by decide +kernel
theorem dX9_minute_164 : decode cX9_minute 164 = .ok (.istore_n 1, 1) := by decide +kernel
theorem dX9_minute_165 : decode cX9_minute 165 = .ok (.iload_n 1, 1) := by decide +kernel
theorem dX9_minute_166 : decode cX9_minute 166 = .ok (.aload_n 0, 1) := by decide +kernel
theorem dX9_minute_167 : decode cX9_minute 167 = .ok (.getfield 116, 3) := by decide +kernel
theorem dX9_minute_170 : decode cX9_minute 170 = .ok (.if_icmp .ge 56, 3) := by decide +kernel
theorem dX9_minute_173 : decode cX9_minute 173 = .ok (.aload_n 0, 1) := by decide +kernel
theorem dX9_minute_174 : decode cX9_minute 174 = .ok (.getfield 35, 3) := by decide +kernel
theorem dX9_minute_177 : decode cX9_minute 177 = .ok (.iload_n 1, 1) := by decide +kernel
theorem dX9_minute_178 : decode cX9_minute 178 = .ok (.iaload, 1) := by decide +kernel
theorem dX9_minute_179 : decode cX9_minute 179 = .ok (.aload_n 0, 1) := by decide +kernel
theorem dX9_minute_180 : decode cX9_minute 180 = .ok (.getfield 32, 3) := by decide +kernel
theorem dX9_minute_183 : decode cX9_minute 183 = .ok (.iload_n 1, 1) := by decide +kernel
theorem dX9_minute_184 : decode cX9_minute 184 = .ok (.iaload, 1) := by decide +kernel
theorem dX9_minute_185 : decode cX9_minute 185 = .ok (.invokestatic 175, 3) := by decide +kernel
theorem dX9_minute_188 : decode cX9_minute 188 = .ok (.istore_n 2, 1) := by decide +kernel
theorem dX9_minute_189 : decode cX9_minute 189 = .ok (.aload_n 0, 1) := by decide +kernel
theorem dX9_minute_190 : decode cX9_minute 190 = .ok (.getfield 32, 3) := by decide +kernel
theorem dX9_minute_193 : decode cX9_minute 193 = .ok (.iload_n 1, 1) := by decide +kernel
theorem dX9_minute_194 : decode cX9_minute 194 = .ok (.dup2, 1) := by decide +kernel
theorem dX9_minute_195 : decode cX9_minute 195 = .ok (.iaload, 1) := by decide +kernel
theorem dX9_minute_196 : decode cX9_minute 196 = .ok (.iload_n 2, 1) := by decide +kernel
theorem dX9_minute_197 : decode cX9_minute 197 = .ok (.isub, 1) := by decide +kernel
theorem dX9_minute_198 : decode cX9_minute 198 = .ok (.iastore, 1) := by decide +kernel
theorem dX9_minute_199 : decode cX9_minute 199 = .ok (.aload_n 0, 1) := by decide +kernel
theorem dX9_minute_200 : decode cX9_minute 200 = .ok (.getfield 38, 3) := by decide +kernel
theorem dX9_minute_203 : decode cX9_minute 203 = .ok (.iload_n 1, 1) := by decide +kernel
theorem dX9_minute_204 : decode cX9_minute 204 = .ok (.dup2, 1) := by decide +kernel
theorem dX9_minute_205 : decode cX9_minute 205 = .ok (.iaload, 1) := by decide +kernel
theorem dX9_minute_206 : decode cX9_minute 206 = .ok (.iload_n 2, 1) := by decide +kernel
theorem dX9_minute_207 : decode cX9_minute 207 = .ok (.iadd, 1) := by decide +kernel
theorem dX9_minute_208 : decode cX9_minute 208 = .ok (.iastore, 1) := by decide +kernel
theorem dX9_minute_209 : decode cX9_minute 209 = .ok (.aload_n 0, 1) := by decide +kernel
theorem dX9_minute_210 : decode cX9_minute 210 = .ok (.getfield 84, 3) := by decide +kernel
theorem dX9_minute_213 : decode cX9_minute 213 = .ok (.iconst 4, 1) := by decide +kernel
theorem dX9_minute_214 : decode cX9_minute 214 = .ok (.dup2, 1) := by decide +kernel
theorem dX9_minute_215 : decode cX9_minute 215 = .ok (.laload, 1) := by decide +kernel
theorem dX9_minute_216 : decode cX9_minute 216 = .ok (.iload_n 2, 1) := by decide +kernel
theorem dX9_minute_217 : decode cX9_minute 217 = .ok (.i2l, 1) := by decide +kernel
theorem dX9_minute_218 : decode cX9_minute 218 = .ok (.ladd, 1) := by decide +kernel
theorem dX9_minute_219 : decode cX9_minute 219 = .ok (.lastore, 1) := by decide +kernel
theorem dX9_minute_220 : decode cX9_minute 220 = .ok (.iinc 1 1, 3) := by decide +kernel
theorem dX9_minute_223 : decode cX9_minute 223 = .ok (.goto (-58), 3) := by decide +kernel
theorem dX9_minute_226 : decode cX9_minute 226 = .ok (.aload_n 0, 1) := by decide +kernel
theorem dX9_minute_227 : decode cX9_minute 227 = .ok (.dup, 1) := by decide +kernel
theorem dX9_minute_228 : decode cX9_minute 228 = .ok (.getfield 178, 3) := by decide +kernel
theorem dX9_minute_231 : decode cX9_minute 231 = .ok (.iconst 1, 1) := by decide +kernel
theorem dX9_minute_232 : decode cX9_minute 232 = .ok (.iadd, 1) := by decide +kernel
theorem dX9_minute_233 : decode cX9_minute 233 = .ok (.putfield 178, 3) := by decide +kernel
theorem dX9_minute_236 : decode cX9_minute 236 = .ok (.return_, 1) := by decide +kernel
theorem dX9_run_0 : decode cX9_run 0 = .ok (.iload_n 1, 1) := by decide +kernel
theorem dX9_run_1 : decode cX9_run 1 = .ok (.iconst 1, 1) := by decide +kernel
theorem dX9_run_2 : decode cX9_run 2 = .ok (.sipush 500, 3) := by decide +kernel
theorem dX9_run_5 : decode cX9_run 5 = .ok (.invokestatic 112, 3) := by decide +kernel
theorem dX9_run_8 : decode cX9_run 8 = .ok (.ifCond .ne 5, 3) := by decide +kernel
theorem dX9_run_11 : decode cX9_run 11 = .ok (.iconst (-1), 1) := by decide +kernel
theorem dX9_run_12 : decode cX9_run 12 = .ok (.ireturn, 1) := by decide +kernel
theorem dX9_run_13 : decode cX9_run 13 = .ok (.aload_n 0, 1) := by decide +kernel
theorem dX9_run_14 : decode cX9_run 14 = .ok (.getfield 178, 3) := by decide +kernel
theorem dX9_run_17 : decode cX9_run 17 = .ok (.iload_n 1, 1) := by decide +kernel
theorem dX9_run_18 : decode cX9_run 18 = .ok (.iadd, 1) := by decide +kernel
theorem dX9_run_19 : decode cX9_run 19 = .ok (.sipush 20000, 3) := by decide +kernel
theorem dX9_run_22 : decode cX9_run 22 = .ok (.if_icmp .le 6, 3) := by decide +kernel
theorem dX9_run_25 : decode cX9_run 25 = .ok (.bipush (-3), 2) := by decide +kernel
theorem dX9_run_27 : decode cX9_run 27 = .ok (.ireturn, 1) := by decide +kernel
theorem dX9_run_28 : decode cX9_run 28 = .ok (.iconst 0, 1) := by decide +kernel
theorem dX9_run_29 : decode cX9_run 29 = .ok (.istore_n 2, 1) := by decide +kernel
theorem dX9_run_30 : decode cX9_run 30 = .ok (.iload_n 2, 1) := by decide +kernel
theorem dX9_run_31 : decode cX9_run 31 = .ok (.iload_n 1, 1) := by decide +kernel
theorem dX9_run_32 : decode cX9_run 32 = .ok (.if_icmp .ge 13, 3) := by decide +kernel
theorem dX9_run_35 : decode cX9_run 35 = .ok (.aload_n 0, 1) := by decide +kernel
theorem dX9_run_36 : decode cX9_run 36 = .ok (.invokevirtual 204, 3) := by decide +kernel
theorem dX9_run_39 : decode cX9_run 39 = .ok (.iinc 2 1, 3) := by decide +kernel
theorem dX9_run_42 : decode cX9_run 42 = .ok (.goto (-12), 3) := by decide +kernel
theorem dX9_run_45 : decode cX9_run 45 = .ok (.aload_n 0, 1) := by decide +kernel
theorem dX9_run_46 : decode cX9_run 46 = .ok (.getfield 178, 3) := by decide +kernel
theorem dX9_run_49 : decode cX9_run 49 = .ok (.ireturn, 1) := by decide +kernel
theorem dX9_told_0 : decode cX9_told 0 = .ok (.aload_n 0, 1) := by decide +kernel
theorem dX9_told_1 : decode cX9_told 1 = .ok (.iload_n 1, 1) := by decide +kernel
theorem dX9_told_2 : decode cX9_told 2 = .ok (.invokevirtual 146, 3) := by decide +kernel
theorem dX9_told_5 : decode cX9_told 5 = .ok (.ifCond .ne 5, 3) := by decide +kernel
theorem dX9_told_8 : decode cX9_told 8 = .ok (.iconst (-1), 1) := by decide +kernel
theorem dX9_told_9 : decode cX9_told 9 = .ok (.ireturn, 1) := by decide +kernel
theorem dX9_told_10 : decode cX9_told 10 = .ok (.iload_n 2, 1) := by decide +kernel
theorem dX9_told_11 : decode cX9_told 11 = .ok (.tableswitch 198 0 8 #[49, 56, 140, 147, 154, 161, 168, 168, 191], 49) := by decide +kernel
theorem dX9_told_60 : decode cX9_told 60 = .ok (.aload_n 0, 1) := by decide +kernel
theorem dX9_told_61 : decode cX9_told 61 = .ok (.getfield 59, 3) := by decide +kernel
theorem dX9_told_64 : decode cX9_told 64 = .ok (.iload_n 1, 1) := by decide +kernel
theorem dX9_told_65 : decode cX9_told 65 = .ok (.iaload, 1) := by decide +kernel
theorem dX9_told_66 : decode cX9_told 66 = .ok (.ireturn, 1) := by decide +kernel
theorem dX9_told_67 : decode cX9_told 67 = .ok (.iconst 0, 1) := by decide +kernel
theorem dX9_told_68 : decode cX9_told 68 = .ok (.istore_n 3, 1) := by decide +kernel
theorem dX9_told_69 : decode cX9_told 69 = .ok (.iconst 0, 1) := by decide +kernel
theorem dX9_told_70 : decode cX9_told 70 = .ok (.istore 4, 2) := by decide +kernel
theorem dX9_told_72 : decode cX9_told 72 = .ok (.iload 4, 2) := by decide +kernel
theorem dX9_told_74 : decode cX9_told 74 = .ok (.aload_n 0, 1) := by decide +kernel
theorem dX9_told_75 : decode cX9_told 75 = .ok (.getfield 126, 3) := by decide +kernel
theorem dX9_told_78 : decode cX9_told 78 = .ok (.if_icmp .ge 53, 3) := by decide +kernel
theorem dX9_told_81 : decode cX9_told 81 = .ok (.iload_n 3, 1) := by decide +kernel
theorem dX9_told_82 : decode cX9_told 82 = .ok (.aload_n 0, 1) := by decide +kernel
theorem dX9_told_83 : decode cX9_told 83 = .ok (.getfield 59, 3) := by decide +kernel
theorem dX9_told_86 : decode cX9_told 86 = .ok (.iload 4, 2) := by decide +kernel
theorem dX9_told_88 : decode cX9_told 88 = .ok (.iaload, 1) := by decide +kernel
theorem dX9_told_89 : decode cX9_told 89 = .ok (.ifCond .ne 33, 3) := by decide +kernel
theorem dX9_told_92 : decode cX9_told 92 = .ok (.aload_n 0, 1) := by decide +kernel
theorem dX9_told_93 : decode cX9_told 93 = .ok (.getfield 47, 3) := by decide +kernel
theorem dX9_told_96 : decode cX9_told 96 = .ok (.iload 4, 2) := by decide +kernel
theorem dX9_told_98 : decode cX9_told 98 = .ok (.iaload, 1) := by decide +kernel
theorem dX9_told_99 : decode cX9_told 99 = .ok (.aload_n 0, 1) := by decide +kernel
theorem dX9_told_100 : decode cX9_told 100 = .ok (.getfield 47, 3) := by decide +kernel
theorem dX9_told_103 : decode cX9_told 103 = .ok (.iload_n 1, 1) := by decide +kernel
theorem dX9_told_104 : decode cX9_told 104 = .ok (.iaload, 1) := by decide +kernel
theorem dX9_told_105 : decode cX9_told 105 = .ok (.if_icmp .ne 17, 3) := by decide +kernel
theorem dX9_told_108 : decode cX9_told 108 = .ok (.aload_n 0, 1) := by decide +kernel
theorem dX9_told_109 : decode cX9_told 109 = .ok (.iload 4, 2) := by decide +kernel
theorem dX9_told_111 : decode cX9_told 111 = .ok (.iload_n 1, 1) := by decide +kernel
theorem dX9_told_112 : decode cX9_told 112 = .ok (.invokevirtual 172, 3) := by decide +kernel
theorem dX9_told_115 : decode cX9_told 115 = .ok (.ifCond .eq 7, 3) := by decide +kernel
theorem dX9_told_118 : decode cX9_told 118 = .ok (.iconst 1, 1) := by decide +kernel
theorem dX9_told_119 : decode cX9_told 119 = .ok (.goto 4, 3) := by decide +kernel
theorem dX9_told_122 : decode cX9_told 122 = .ok (.iconst 0, 1) := by decide +kernel
theorem dX9_told_123 : decode cX9_told 123 = .ok (.iadd, 1) := by decide +kernel
theorem dX9_told_124 : decode cX9_told 124 = .ok (.istore_n 3, 1) := by decide +kernel
theorem dX9_told_125 : decode cX9_told 125 = .ok (.iinc 4 1, 3) := by decide +kernel
theorem dX9_told_128 : decode cX9_told 128 = .ok (.goto (-56), 3) := by decide +kernel
theorem dX9_told_131 : decode cX9_told 131 = .ok (.aload_n 0, 1) := by decide +kernel
theorem dX9_told_132 : decode cX9_told 132 = .ok (.getfield 59, 3) := by decide +kernel
theorem dX9_told_135 : decode cX9_told 135 = .ok (.iload_n 1, 1) := by decide +kernel
theorem dX9_told_136 : decode cX9_told 136 = .ok (.iaload, 1) := by decide +kernel
theorem dX9_told_137 : decode cX9_told 137 = .ok (.ifCond .ne 7, 3) := by decide +kernel
theorem dX9_told_140 : decode cX9_told 140 = .ok (.iload_n 3, 1) := by decide +kernel
theorem dX9_told_141 : decode cX9_told 141 = .ok (.goto 9, 3) := by decide +kernel
theorem dX9_told_144 : decode cX9_told 144 = .ok (.aload_n 0, 1) := by decide +kernel
theorem dX9_told_145 : decode cX9_told 145 = .ok (.getfield 62, 3) := by decide +kernel
theorem dX9_told_148 : decode cX9_told 148 = .ok (.iload_n 1, 1) := by decide +kernel
theorem dX9_told_149 : decode cX9_told 149 = .ok (.iaload, 1) := by decide +kernel
theorem dX9_told_150 : decode cX9_told 150 = .ok (.ireturn, 1) := by decide +kernel
theorem dX9_told_151 : decode cX9_told 151 = .ok (.aload_n 0, 1) := by decide +kernel
theorem dX9_told_152 : decode cX9_told 152 = .ok (.getfield 65, 3) := by decide +kernel
theorem dX9_told_155 : decode cX9_told 155 = .ok (.iload_n 1, 1) := by decide +kernel
theorem dX9_told_156 : decode cX9_told 156 = .ok (.iaload, 1) := by decide +kernel
theorem dX9_told_157 : decode cX9_told 157 = .ok (.ireturn, 1) := by decide +kernel
theorem dX9_told_158 : decode cX9_told 158 = .ok (.aload_n 0, 1) := by decide +kernel
theorem dX9_told_159 : decode cX9_told 159 = .ok (.getfield 68, 3) := by decide +kernel
theorem dX9_told_162 : decode cX9_told 162 = .ok (.iload_n 1, 1) := by decide +kernel
theorem dX9_told_163 : decode cX9_told 163 = .ok (.iaload, 1) := by decide +kernel
theorem dX9_told_164 : decode cX9_told 164 = .ok (.ireturn, 1) := by decide +kernel
theorem dX9_told_165 : decode cX9_told 165 = .ok (.aload_n 0, 1) := by decide +kernel
theorem dX9_told_166 : decode cX9_told 166 = .ok (.getfield 47, 3) := by decide +kernel
theorem dX9_told_169 : decode cX9_told 169 = .ok (.iload_n 1, 1) := by decide +kernel
theorem dX9_told_170 : decode cX9_told 170 = .ok (.iaload, 1) := by decide +kernel
theorem dX9_told_171 : decode cX9_told 171 = .ok (.ireturn, 1) := by decide +kernel
theorem dX9_told_172 : decode cX9_told 172 = .ok (.aload_n 0, 1) := by decide +kernel
theorem dX9_told_173 : decode cX9_told 173 = .ok (.getfield 50, 3) := by decide +kernel
theorem dX9_told_176 : decode cX9_told 176 = .ok (.iload_n 1, 1) := by decide +kernel
theorem dX9_told_177 : decode cX9_told 177 = .ok (.iaload, 1) := by decide +kernel
theorem dX9_told_178 : decode cX9_told 178 = .ok (.ireturn, 1) := by decide +kernel
theorem dX9_told_179 : decode cX9_told 179 = .ok (.aload_n 0, 1) := by decide +kernel
theorem dX9_told_180 : decode cX9_told 180 = .ok (.iload_n 1, 1) := by decide +kernel
theorem dX9_told_181 : decode cX9_told 181 = .ok (.aload_n 0, 1) := by decide +kernel
theorem dX9_told_182 : decode cX9_told 182 = .ok (.getfield 50, 3) := by decide +kernel
theorem dX9_told_185 : decode cX9_told 185 = .ok (.iload_n 1, 1) := by decide +kernel
theorem dX9_told_186 : decode cX9_told 186 = .ok (.iaload, 1) := by decide +kernel
theorem dX9_told_187 : decode cX9_told 187 = .ok (.iload_n 2, 1) := by decide +kernel
theorem dX9_told_188 : decode cX9_told 188 = .ok (.bipush 6, 2) := by decide +kernel
theorem dX9_told_190 : decode cX9_told 190 = .ok (.if_icmp .ne 7, 3) := by decide +kernel
theorem dX9_told_193 : decode cX9_told 193 = .ok (.iconst 1, 1) := by decide +kernel
theorem dX9_told_194 : decode cX9_told 194 = .ok (.goto 4, 3) := by decide +kernel
theorem dX9_told_197 : decode cX9_told 197 = .ok (.iconst 0, 1) := by decide +kernel
theorem dX9_told_198 : decode cX9_told 198 = .ok (.invokevirtual 181, 3) := by decide +kernel
theorem dX9_told_201 : decode cX9_told 201 = .ok (.ireturn, 1) := by decide +kernel
theorem dX9_told_202 : decode cX9_told 202 = .ok (.aload_n 0, 1) := by decide +kernel
theorem dX9_told_203 : decode cX9_told 203 = .ok (.getfield 41, 3) := by decide +kernel
theorem dX9_told_206 : decode cX9_told 206 = .ok (.iload_n 1, 1) := by decide +kernel
theorem dX9_told_207 : decode cX9_told 207 = .ok (.iaload, 1) := by decide +kernel
theorem dX9_told_208 : decode cX9_told 208 = .ok (.ireturn, 1) := by decide +kernel
theorem dX9_told_209 : decode cX9_told 209 = .ok (.iconst (-1), 1) := by decide +kernel
theorem dX9_told_210 : decode cX9_told 210 = .ok (.ireturn, 1) := by decide +kernel
theorem dX9_water_0 : decode cX9_water 0 = .ok (.iload_n 2, 1) := by decide +kernel
theorem dX9_water_1 : decode cX9_water 1 = .ok (.tableswitch 107 0 3 #[31, 50, 69, 88], 31) := by decide +kernel
theorem dX9_water_32 : decode cX9_water 32 = .ok (.aload_n 0, 1) := by decide +kernel
theorem dX9_water_33 : decode cX9_water 33 = .ok (.iload_n 1, 1) := by decide +kernel
theorem dX9_water_34 : decode cX9_water 34 = .ok (.invokevirtual 136, 3) := by decide +kernel
theorem dX9_water_37 : decode cX9_water 37 = .ok (.ifCond .eq 12, 3) := by decide +kernel
theorem dX9_water_40 : decode cX9_water 40 = .ok (.aload_n 0, 1) := by decide +kernel
theorem dX9_water_41 : decode cX9_water 41 = .ok (.getfield 13, 3) := by decide +kernel
theorem dX9_water_44 : decode cX9_water 44 = .ok (.iload_n 1, 1) := by decide +kernel
theorem dX9_water_45 : decode cX9_water 45 = .ok (.iaload, 1) := by decide +kernel
theorem dX9_water_46 : decode cX9_water 46 = .ok (.goto 4, 3) := by decide +kernel
theorem dX9_water_49 : decode cX9_water 49 = .ok (.iconst (-1), 1) := by decide +kernel
theorem dX9_water_50 : decode cX9_water 50 = .ok (.ireturn, 1) := by decide +kernel
theorem dX9_water_51 : decode cX9_water 51 = .ok (.aload_n 0, 1) := by decide +kernel
theorem dX9_water_52 : decode cX9_water 52 = .ok (.iload_n 1, 1) := by decide +kernel
theorem dX9_water_53 : decode cX9_water 53 = .ok (.invokevirtual 129, 3) := by decide +kernel
theorem dX9_water_56 : decode cX9_water 56 = .ok (.ifCond .eq 12, 3) := by decide +kernel
theorem dX9_water_59 : decode cX9_water 59 = .ok (.aload_n 0, 1) := by decide +kernel
theorem dX9_water_60 : decode cX9_water 60 = .ok (.getfield 32, 3) := by decide +kernel
theorem dX9_water_63 : decode cX9_water 63 = .ok (.iload_n 1, 1) := by decide +kernel
theorem dX9_water_64 : decode cX9_water 64 = .ok (.iaload, 1) := by decide +kernel
theorem dX9_water_65 : decode cX9_water 65 = .ok (.goto 4, 3) := by decide +kernel
theorem dX9_water_68 : decode cX9_water 68 = .ok (.iconst (-1), 1) := by decide +kernel
theorem dX9_water_69 : decode cX9_water 69 = .ok (.ireturn, 1) := by decide +kernel
theorem dX9_water_70 : decode cX9_water 70 = .ok (.aload_n 0, 1) := by decide +kernel
theorem dX9_water_71 : decode cX9_water 71 = .ok (.iload_n 1, 1) := by decide +kernel
theorem dX9_water_72 : decode cX9_water 72 = .ok (.invokevirtual 136, 3) := by decide +kernel
theorem dX9_water_75 : decode cX9_water 75 = .ok (.ifCond .eq 12, 3) := by decide +kernel
theorem dX9_water_78 : decode cX9_water 78 = .ok (.aload_n 0, 1) := by decide +kernel
theorem dX9_water_79 : decode cX9_water 79 = .ok (.getfield 20, 3) := by decide +kernel
theorem dX9_water_82 : decode cX9_water 82 = .ok (.iload_n 1, 1) := by decide +kernel
theorem dX9_water_83 : decode cX9_water 83 = .ok (.iaload, 1) := by decide +kernel
theorem dX9_water_84 : decode cX9_water 84 = .ok (.goto 4, 3) := by decide +kernel
theorem dX9_water_87 : decode cX9_water 87 = .ok (.iconst (-1), 1) := by decide +kernel
theorem dX9_water_88 : decode cX9_water 88 = .ok (.ireturn, 1) := by decide +kernel
theorem dX9_water_89 : decode cX9_water 89 = .ok (.aload_n 0, 1) := by decide +kernel
theorem dX9_water_90 : decode cX9_water 90 = .ok (.iload_n 1, 1) := by decide +kernel
theorem dX9_water_91 : decode cX9_water 91 = .ok (.invokevirtual 129, 3) := by decide +kernel
theorem dX9_water_94 : decode cX9_water 94 = .ok (.ifCond .eq 12, 3) := by decide +kernel
theorem dX9_water_97 : decode cX9_water 97 = .ok (.aload_n 0, 1) := by decide +kernel
theorem dX9_water_98 : decode cX9_water 98 = .ok (.getfield 38, 3) := by decide +kernel
theorem dX9_water_101 : decode cX9_water 101 = .ok (.iload_n 1, 1) := by decide +kernel
theorem dX9_water_102 : decode cX9_water 102 = .ok (.iaload, 1) := by decide +kernel
theorem dX9_water_103 : decode cX9_water 103 = .ok (.goto 4, 3) := by decide +kernel
theorem dX9_water_106 : decode cX9_water 106 = .ok (.iconst (-1), 1) := by decide +kernel
theorem dX9_water_107 : decode cX9_water 107 = .ok (.ireturn, 1) := by decide +kernel
theorem dX9_water_108 : decode cX9_water 108 = .ok (.iconst (-1), 1) := by decide +kernel
theorem dX9_water_109 : decode cX9_water 109 = .ok (.ireturn, 1) := by decide +kernel
theorem dX9_sum_0 : decode cX9_sum 0 = .ok (.iload_n 1, 1) := by decide +kernel
theorem dX9_sum_1 : decode cX9_sum 1 = .ok (.iconst 0, 1) := by decide +kernel
theorem dX9_sum_2 : decode cX9_sum 2 = .ok (.bipush 7, 2) := by decide +kernel
theorem dX9_sum_4 : decode cX9_sum 4 = .ok (.invokestatic 112, 3) := by decide +kernel
theorem dX9_sum_7 : decode cX9_sum 7 = .ok (.ifCond .ne 9, 3) := by decide +kernel
theorem dX9_sum_10 : decode cX9_sum 10 = .ok (.ldc2_w 207, 3) := by decide +kernel
theorem dX9_sum_13 : decode cX9_sum 13 = .ok (.goto 23, 3) := by decide +kernel
theorem dX9_sum_16 : decode cX9_sum 16 = .ok (.iload_n 1, 1) := by decide +kernel
theorem dX9_sum_17 : decode cX9_sum 17 = .ok (.bipush 7, 2) := by decide +kernel
theorem dX9_sum_19 : decode cX9_sum 19 = .ok (.if_icmp .ne 11, 3) := by decide +kernel
theorem dX9_sum_22 : decode cX9_sum 22 = .ok (.aload_n 0, 1) := by decide +kernel
theorem dX9_sum_23 : decode cX9_sum 23 = .ok (.getfield 178, 3) := by decide +kernel
theorem dX9_sum_26 : decode cX9_sum 26 = .ok (.i2l, 1) := by decide +kernel
theorem dX9_sum_27 : decode cX9_sum 27 = .ok (.goto 9, 3) := by decide +kernel
theorem dX9_sum_30 : decode cX9_sum 30 = .ok (.aload_n 0, 1) := by decide +kernel
theorem dX9_sum_31 : decode cX9_sum 31 = .ok (.getfield 84, 3) := by decide +kernel
theorem dX9_sum_34 : decode cX9_sum 34 = .ok (.iload_n 1, 1) := by decide +kernel
theorem dX9_sum_35 : decode cX9_sum 35 = .ok (.laload, 1) := by decide +kernel
theorem dX9_sum_36 : decode cX9_sum 36 = .ok (.lreturn, 1) := by decide +kernel
theorem dX9_fire_0 : decode cX9_fire 0 = .ok (.aload_n 0, 1) := by decide +kernel
theorem dX9_fire_1 : decode cX9_fire 1 = .ok (.iload_n 1, 1) := by decide +kernel
theorem dX9_fire_2 : decode cX9_fire 2 = .ok (.invokevirtual 129, 3) := by decide +kernel
theorem dX9_fire_5 : decode cX9_fire 5 = .ok (.ifCond .eq 13, 3) := by decide +kernel
theorem dX9_fire_8 : decode cX9_fire 8 = .ok (.iload_n 2, 1) := by decide +kernel
theorem dX9_fire_9 : decode cX9_fire 9 = .ok (.iconst 0, 1) := by decide +kernel
theorem dX9_fire_10 : decode cX9_fire 10 = .ok (.bipush 60, 2) := by decide +kernel
theorem dX9_fire_12 : decode cX9_fire 12 = .ok (.invokestatic 112, 3) := by decide +kernel
theorem dX9_fire_15 : decode cX9_fire 15 = .ok (.ifCond .ne 5, 3) := by decide +kernel
theorem dX9_fire_18 : decode cX9_fire 18 = .ok (.iconst (-1), 1) := by decide +kernel
theorem dX9_fire_19 : decode cX9_fire 19 = .ok (.ireturn, 1) := by decide +kernel
theorem dX9_fire_20 : decode cX9_fire 20 = .ok (.iconst 0, 1) := by decide +kernel
theorem dX9_fire_21 : decode cX9_fire 21 = .ok (.istore_n 3, 1) := by decide +kernel
theorem dX9_fire_22 : decode cX9_fire 22 = .ok (.iconst 0, 1) := by decide +kernel
theorem dX9_fire_23 : decode cX9_fire 23 = .ok (.istore 4, 2) := by decide +kernel
theorem dX9_fire_25 : decode cX9_fire 25 = .ok (.iload 4, 2) := by decide +kernel
theorem dX9_fire_27 : decode cX9_fire 27 = .ok (.aload_n 0, 1) := by decide +kernel
theorem dX9_fire_28 : decode cX9_fire 28 = .ok (.getfield 126, 3) := by decide +kernel
theorem dX9_fire_31 : decode cX9_fire 31 = .ok (.if_icmp .ge 66, 3) := by decide +kernel
theorem dX9_fire_34 : decode cX9_fire 34 = .ok (.aload_n 0, 1) := by decide +kernel
theorem dX9_fire_35 : decode cX9_fire 35 = .ok (.getfield 59, 3) := by decide +kernel
theorem dX9_fire_38 : decode cX9_fire 38 = .ok (.iload 4, 2) := by decide +kernel
theorem dX9_fire_40 : decode cX9_fire 40 = .ok (.iaload, 1) := by decide +kernel
theorem dX9_fire_41 : decode cX9_fire 41 = .ok (.iconst 1, 1) := by decide +kernel
theorem dX9_fire_42 : decode cX9_fire 42 = .ok (.if_icmp .ne 49, 3) := by decide +kernel
theorem dX9_fire_45 : decode cX9_fire 45 = .ok (.aload_n 0, 1) := by decide +kernel
theorem dX9_fire_46 : decode cX9_fire 46 = .ok (.getfield 50, 3) := by decide +kernel
theorem dX9_fire_49 : decode cX9_fire 49 = .ok (.iload 4, 2) := by decide +kernel
theorem dX9_fire_51 : decode cX9_fire 51 = .ok (.iaload, 1) := by decide +kernel
theorem dX9_fire_52 : decode cX9_fire 52 = .ok (.iload_n 1, 1) := by decide +kernel
theorem dX9_fire_53 : decode cX9_fire 53 = .ok (.if_icmp .ne 38, 3) := by decide +kernel
theorem dX9_fire_56 : decode cX9_fire 56 = .ok (.aload_n 0, 1) := by decide +kernel
theorem dX9_fire_57 : decode cX9_fire 57 = .ok (.getfield 62, 3) := by decide +kernel
theorem dX9_fire_60 : decode cX9_fire 60 = .ok (.iload 4, 2) := by decide +kernel
theorem dX9_fire_62 : decode cX9_fire 62 = .ok (.iaload, 1) := by decide +kernel
theorem dX9_fire_63 : decode cX9_fire 63 = .ok (.iload_n 2, 1) := by decide +kernel
theorem dX9_fire_64 : decode cX9_fire 64 = .ok (.if_icmp .gt 27, 3) := by decide +kernel
theorem dX9_fire_67 : decode cX9_fire 67 = .ok (.iload_n 3, 1) := by decide +kernel
theorem dX9_fire_68 : decode cX9_fire 68 = .ok (.aload_n 0, 1) := by decide +kernel
theorem dX9_fire_69 : decode cX9_fire 69 = .ok (.getfield 65, 3) := by decide +kernel
theorem dX9_fire_72 : decode cX9_fire 72 = .ok (.iload 4, 2) := by decide +kernel
theorem dX9_fire_74 : decode cX9_fire 74 = .ok (.iaload, 1) := by decide +kernel
theorem dX9_fire_75 : decode cX9_fire 75 = .ok (.iadd, 1) := by decide +kernel
theorem dX9_fire_76 : decode cX9_fire 76 = .ok (.istore_n 3, 1) := by decide +kernel
theorem dX9_fire_77 : decode cX9_fire 77 = .ok (.aload_n 0, 1) := by decide +kernel
theorem dX9_fire_78 : decode cX9_fire 78 = .ok (.getfield 65, 3) := by decide +kernel
theorem dX9_fire_81 : decode cX9_fire 81 = .ok (.iload 4, 2) := by decide +kernel
theorem dX9_fire_83 : decode cX9_fire 83 = .ok (.iconst 0, 1) := by decide +kernel
theorem dX9_fire_84 : decode cX9_fire 84 = .ok (.iastore, 1) := by decide +kernel
theorem dX9_fire_85 : decode cX9_fire 85 = .ok (.aload_n 0, 1) := by decide +kernel
theorem dX9_fire_86 : decode cX9_fire 86 = .ok (.iload 4, 2) := by decide +kernel
theorem dX9_fire_88 : decode cX9_fire 88 = .ok (.invokevirtual 192, 3) := by decide +kernel
theorem dX9_fire_91 : decode cX9_fire 91 = .ok (.iinc 4 1, 3) := by decide +kernel
theorem dX9_fire_94 : decode cX9_fire 94 = .ok (.goto (-69), 3) := by decide +kernel
theorem dX9_fire_97 : decode cX9_fire 97 = .ok (.aload_n 0, 1) := by decide +kernel
theorem dX9_fire_98 : decode cX9_fire 98 = .ok (.getfield 84, 3) := by decide +kernel
theorem dX9_fire_101 : decode cX9_fire 101 = .ok (.iconst 5, 1) := by decide +kernel
theorem dX9_fire_102 : decode cX9_fire 102 = .ok (.dup2, 1) := by decide +kernel
theorem dX9_fire_103 : decode cX9_fire 103 = .ok (.laload, 1) := by decide +kernel
theorem dX9_fire_104 : decode cX9_fire 104 = .ok (.iload_n 3, 1) := by decide +kernel
theorem dX9_fire_105 : decode cX9_fire 105 = .ok (.i2l, 1) := by decide +kernel
theorem dX9_fire_106 : decode cX9_fire 106 = .ok (.ladd, 1) := by decide +kernel
theorem dX9_fire_107 : decode cX9_fire 107 = .ok (.lastore, 1) := by decide +kernel
theorem dX9_fire_108 : decode cX9_fire 108 = .ok (.iload_n 3, 1) := by decide +kernel
theorem dX9_fire_109 : decode cX9_fire 109 = .ok (.ireturn, 1) := by decide +kernel
theorem dX9_poured_0 : decode cX9_poured 0 = .ok (.iload_n 1, 1) := by decide +kernel
theorem dX9_poured_1 : decode cX9_poured 1 = .ok (.ifCond .lt 12, 3) := by decide +kernel
theorem dX9_poured_4 : decode cX9_poured 4 = .ok (.iload_n 2, 1) := by decide +kernel
theorem dX9_poured_5 : decode cX9_poured 5 = .ok (.iconst 0, 1) := by decide +kernel
theorem dX9_poured_6 : decode cX9_poured 6 = .ok (.iconst 5, 1) := by decide +kernel
theorem dX9_poured_7 : decode cX9_poured 7 = .ok (.invokestatic 112, 3) := by decide +kernel
theorem dX9_poured_10 : decode cX9_poured 10 = .ok (.ifCond .ne 5, 3) := by decide +kernel
theorem dX9_poured_13 : decode cX9_poured 13 = .ok (.iconst (-1), 1) := by decide +kernel
theorem dX9_poured_14 : decode cX9_poured 14 = .ok (.ireturn, 1) := by decide +kernel
theorem dX9_poured_15 : decode cX9_poured 15 = .ok (.iload_n 1, 1) := by decide +kernel
theorem dX9_poured_16 : decode cX9_poured 16 = .ok (.aload_n 0, 1) := by decide +kernel
theorem dX9_poured_17 : decode cX9_poured 17 = .ok (.getfield 185, 3) := by decide +kernel
theorem dX9_poured_20 : decode cX9_poured 20 = .ok (.if_icmp .lt 8, 3) := by decide +kernel
theorem dX9_poured_23 : decode cX9_poured 23 = .ok (.bipush (-4), 2) := by decide +kernel
theorem dX9_poured_25 : decode cX9_poured 25 = .ok (.goto 21, 3) := by decide +kernel
theorem dX9_poured_28 : decode cX9_poured 28 = .ok (.aload_n 0, 1) := by decide +kernel
theorem dX9_poured_29 : decode cX9_poured 29 = .ok (.getfield 97, 3) := by decide +kernel
theorem dX9_poured_32 : decode cX9_poured 32 = .ok (.bipush 6, 2) := by decide +kernel
theorem dX9_poured_34 : decode cX9_poured 34 = .ok (.aload_n 0, 1) := by decide +kernel
theorem dX9_poured_35 : decode cX9_poured 35 = .ok (.getfield 185, 3) := by decide +kernel
theorem dX9_poured_38 : decode cX9_poured 38 = .ok (.iconst 1, 1) := by decide +kernel
theorem dX9_poured_39 : decode cX9_poured 39 = .ok (.isub, 1) := by decide +kernel
theorem dX9_poured_40 : decode cX9_poured 40 = .ok (.iload_n 1, 1) := by decide +kernel
theorem dX9_poured_41 : decode cX9_poured 41 = .ok (.isub, 1) := by decide +kernel
theorem dX9_poured_42 : decode cX9_poured 42 = .ok (.imul, 1) := by decide +kernel
theorem dX9_poured_43 : decode cX9_poured 43 = .ok (.iload_n 2, 1) := by decide +kernel
theorem dX9_poured_44 : decode cX9_poured 44 = .ok (.iadd, 1) := by decide +kernel
theorem dX9_poured_45 : decode cX9_poured 45 = .ok (.iaload, 1) := by decide +kernel
theorem dX9_poured_46 : decode cX9_poured 46 = .ok (.ireturn, 1) := by decide +kernel
theorem dX9_foul_0 : decode cX9_foul 0 = .ok (.aload_n 0, 1) := by decide +kernel
theorem dX9_foul_1 : decode cX9_foul 1 = .ok (.iload_n 1, 1) := by decide +kernel
theorem dX9_foul_2 : decode cX9_foul 2 = .ok (.invokevirtual 136, 3) := by decide +kernel
theorem dX9_foul_5 : decode cX9_foul 5 = .ok (.ifCond .eq 7, 3) := by decide +kernel
theorem dX9_foul_8 : decode cX9_foul 8 = .ok (.iload_n 2, 1) := by decide +kernel
theorem dX9_foul_9 : decode cX9_foul 9 = .ok (.ifCond .ge 5, 3) := by decide +kernel
theorem dX9_foul_12 : decode cX9_foul 12 = .ok (.iconst (-1), 1) := by decide +kernel
theorem dX9_foul_13 : decode cX9_foul 13 = .ok (.ireturn, 1) := by decide +kernel
theorem dX9_foul_14 : decode cX9_foul 14 = .ok (.iconst 0, 1) := by decide +kernel
theorem dX9_foul_15 : decode cX9_foul 15 = .ok (.istore_n 3, 1) := by decide +kernel
theorem dX9_foul_16 : decode cX9_foul 16 = .ok (.iconst 0, 1) := by decide +kernel
theorem dX9_foul_17 : decode cX9_foul 17 = .ok (.istore 4, 2) := by decide +kernel
theorem dX9_foul_19 : decode cX9_foul 19 = .ok (.iload 4, 2) := by decide +kernel
theorem dX9_foul_21 : decode cX9_foul 21 = .ok (.aload_n 0, 1) := by decide +kernel
theorem dX9_foul_22 : decode cX9_foul 22 = .ok (.getfield 185, 3) := by decide +kernel
theorem dX9_foul_25 : decode cX9_foul 25 = .ok (.if_icmp .ge 62, 3) := by decide +kernel
theorem dX9_foul_28 : decode cX9_foul 28 = .ok (.iload_n 3, 1) := by decide +kernel
theorem dX9_foul_29 : decode cX9_foul 29 = .ok (.aload_n 0, 1) := by decide +kernel
theorem dX9_foul_30 : decode cX9_foul 30 = .ok (.getfield 97, 3) := by decide +kernel
theorem dX9_foul_33 : decode cX9_foul 33 = .ok (.bipush 6, 2) := by decide +kernel
theorem dX9_foul_35 : decode cX9_foul 35 = .ok (.iload 4, 2) := by decide +kernel
theorem dX9_foul_37 : decode cX9_foul 37 = .ok (.imul, 1) := by decide +kernel
theorem dX9_foul_38 : decode cX9_foul 38 = .ok (.iconst 4, 1) := by decide +kernel
theorem dX9_foul_39 : decode cX9_foul 39 = .ok (.iadd, 1) := by decide +kernel
theorem dX9_foul_40 : decode cX9_foul 40 = .ok (.iaload, 1) := by decide +kernel
theorem dX9_foul_41 : decode cX9_foul 41 = .ok (.iload_n 1, 1) := by decide +kernel
theorem dX9_foul_42 : decode cX9_foul 42 = .ok (.if_icmp .ne 36, 3) := by decide +kernel
theorem dX9_foul_45 : decode cX9_foul 45 = .ok (.aload_n 0, 1) := by decide +kernel
theorem dX9_foul_46 : decode cX9_foul 46 = .ok (.getfield 97, 3) := by decide +kernel
theorem dX9_foul_49 : decode cX9_foul 49 = .ok (.bipush 6, 2) := by decide +kernel
theorem dX9_foul_51 : decode cX9_foul 51 = .ok (.iload 4, 2) := by decide +kernel
theorem dX9_foul_53 : decode cX9_foul 53 = .ok (.imul, 1) := by decide +kernel
theorem dX9_foul_54 : decode cX9_foul 54 = .ok (.iconst 5, 1) := by decide +kernel
theorem dX9_foul_55 : decode cX9_foul 55 = .ok (.iadd, 1) := by decide +kernel
theorem dX9_foul_56 : decode cX9_foul 56 = .ok (.iaload, 1) := by decide +kernel
theorem dX9_foul_57 : decode cX9_foul 57 = .ok (.iload_n 2, 1) := by decide +kernel
theorem dX9_foul_58 : decode cX9_foul 58 = .ok (.if_icmp .lt 20, 3) := by decide +kernel
theorem dX9_foul_61 : decode cX9_foul 61 = .ok (.iconst 1, 1) := by decide +kernel
theorem dX9_foul_62 : decode cX9_foul 62 = .ok (.aload_n 0, 1) := by decide +kernel
theorem dX9_foul_63 : decode cX9_foul 63 = .ok (.getfield 97, 3) := by decide +kernel
theorem dX9_foul_66 : decode cX9_foul 66 = .ok (.bipush 6, 2) := by decide +kernel
theorem dX9_foul_68 : decode cX9_foul 68 = .ok (.iload 4, 2) := by decide +kernel
theorem dX9_foul_70 : decode cX9_foul 70 = .ok (.imul, 1) := by decide +kernel
theorem dX9_foul_71 : decode cX9_foul 71 = .ok (.iconst 1, 1) := by decide +kernel
theorem dX9_foul_72 : decode cX9_foul 72 = .ok (.iadd, 1) := by decide +kernel
theorem dX9_foul_73 : decode cX9_foul 73 = .ok (.iaload, 1) := by decide +kernel
theorem dX9_foul_74 : decode cX9_foul 74 = .ok (.ishl, 1) := by decide +kernel
theorem dX9_foul_75 : decode cX9_foul 75 = .ok (.goto 4, 3) := by decide +kernel
theorem dX9_foul_78 : decode cX9_foul 78 = .ok (.iconst 0, 1) := by decide +kernel
theorem dX9_foul_79 : decode cX9_foul 79 = .ok (.ior, 1) := by decide +kernel
theorem dX9_foul_80 : decode cX9_foul 80 = .ok (.istore_n 3, 1) := by decide +kernel
theorem dX9_foul_81 : decode cX9_foul 81 = .ok (.iinc 4 1, 3) := by decide +kernel
theorem dX9_foul_84 : decode cX9_foul 84 = .ok (.goto (-65), 3) := by decide +kernel
theorem dX9_foul_87 : decode cX9_foul 87 = .ok (.iload_n 3, 1) := by decide +kernel
theorem dX9_foul_88 : decode cX9_foul 88 = .ok (.ireturn, 1) := by decide +kernel
theorem dX9_ones_0 : decode cX9_ones 0 = .ok (.iconst 0, 1) := by decide +kernel
theorem dX9_ones_1 : decode cX9_ones 1 = .ok (.istore_n 1, 1) := by decide +kernel
theorem dX9_ones_2 : decode cX9_ones 2 = .ok (.iconst 0, 1) := by decide +kernel
theorem dX9_ones_3 : decode cX9_ones 3 = .ok (.istore_n 2, 1) := by decide +kernel
theorem dX9_ones_4 : decode cX9_ones 4 = .ok (.iload_n 2, 1) := by decide +kernel
theorem dX9_ones_5 : decode cX9_ones 5 = .ok (.bipush 6, 2) := by decide +kernel
theorem dX9_ones_7 : decode cX9_ones 7 = .ok (.if_icmp .ge 17, 3) := by decide +kernel
theorem dX9_ones_10 : decode cX9_ones 10 = .ok (.iload_n 1, 1) := by decide +kernel
theorem dX9_ones_11 : decode cX9_ones 11 = .ok (.iload_n 0, 1) := by decide +kernel
theorem dX9_ones_12 : decode cX9_ones 12 = .ok (.iload_n 2, 1) := by decide +kernel
theorem dX9_ones_13 : decode cX9_ones 13 = .ok (.ishr, 1) := by decide +kernel
theorem dX9_ones_14 : decode cX9_ones 14 = .ok (.iconst 1, 1) := by decide +kernel
theorem dX9_ones_15 : decode cX9_ones 15 = .ok (.iand, 1) := by decide +kernel
theorem dX9_ones_16 : decode cX9_ones 16 = .ok (.iadd, 1) := by decide +kernel
theorem dX9_ones_17 : decode cX9_ones 17 = .ok (.istore_n 1, 1) := by decide +kernel
theorem dX9_ones_18 : decode cX9_ones 18 = .ok (.iinc 2 1, 3) := by decide +kernel
theorem dX9_ones_21 : decode cX9_ones 21 = .ok (.goto (-17), 3) := by decide +kernel
theorem dX9_ones_24 : decode cX9_ones 24 = .ok (.iload_n 1, 1) := by decide +kernel
theorem dX9_ones_25 : decode cX9_ones 25 = .ok (.ireturn, 1) := by decide +kernel
theorem dX9_give_0 : decode cX9_give 0 = .ok (.iload_n 3, 1) := by decide +kernel
theorem dX9_give_1 : decode cX9_give 1 = .ok (.iconst 1, 1) := by decide +kernel
theorem dX9_give_2 : decode cX9_give 2 = .ok (.bipush 6, 2) := by decide +kernel
theorem dX9_give_4 : decode cX9_give 4 = .ok (.invokestatic 112, 3) := by decide +kernel
theorem dX9_give_7 : decode cX9_give 7 = .ok (.ifCond .eq 39, 3) := by decide +kernel
theorem dX9_give_10 : decode cX9_give 10 = .ok (.aload_n 0, 1) := by decide +kernel
theorem dX9_give_11 : decode cX9_give 11 = .ok (.iload_n 1, 1) := by decide +kernel
theorem dX9_give_12 : decode cX9_give 12 = .ok (.invokevirtual 146, 3) := by decide +kernel
theorem dX9_give_15 : decode cX9_give 15 = .ok (.ifCond .eq 31, 3) := by decide +kernel
theorem dX9_give_18 : decode cX9_give 18 = .ok (.aload_n 0, 1) := by decide +kernel
theorem dX9_give_19 : decode cX9_give 19 = .ok (.iload_n 2, 1) := by decide +kernel
theorem dX9_give_20 : decode cX9_give 20 = .ok (.invokevirtual 129, 3) := by decide +kernel
theorem dX9_give_23 : decode cX9_give 23 = .ok (.ifCond .eq 23, 3) := by decide +kernel
theorem dX9_give_26 : decode cX9_give 26 = .ok (.iload_n 1, 1) := by decide +kernel
theorem dX9_give_27 : decode cX9_give 27 = .ok (.aload_n 0, 1) := by decide +kernel
theorem dX9_give_28 : decode cX9_give 28 = .ok (.getfield 126, 3) := by decide +kernel
theorem dX9_give_31 : decode cX9_give 31 = .ok (.iload_n 3, 1) := by decide +kernel
theorem dX9_give_32 : decode cX9_give 32 = .ok (.isub, 1) := by decide +kernel
theorem dX9_give_33 : decode cX9_give 33 = .ok (.if_icmp .gt 13, 3) := by decide +kernel
theorem dX9_give_36 : decode cX9_give 36 = .ok (.iload_n 2, 1) := by decide +kernel
theorem dX9_give_37 : decode cX9_give 37 = .ok (.aload_n 0, 1) := by decide +kernel
theorem dX9_give_38 : decode cX9_give 38 = .ok (.getfield 116, 3) := by decide +kernel
theorem dX9_give_41 : decode cX9_give 41 = .ok (.iload_n 3, 1) := by decide +kernel
theorem dX9_give_42 : decode cX9_give 42 = .ok (.isub, 1) := by decide +kernel
theorem dX9_give_43 : decode cX9_give 43 = .ok (.if_icmp .le 5, 3) := by decide +kernel
theorem dX9_give_46 : decode cX9_give 46 = .ok (.iconst (-1), 1) := by decide +kernel
theorem dX9_give_47 : decode cX9_give 47 = .ok (.ireturn, 1) := by decide +kernel
theorem dX9_give_48 : decode cX9_give 48 = .ok (.iconst 1, 1) := by decide +kernel
theorem dX9_give_49 : decode cX9_give 49 = .ok (.iload_n 3, 1) := by decide +kernel
theorem dX9_give_50 : decode cX9_give 50 = .ok (.ishl, 1) := by decide +kernel
theorem dX9_give_51 : decode cX9_give 51 = .ok (.iconst 1, 1) := by decide +kernel
theorem dX9_give_52 : decode cX9_give 52 = .ok (.isub, 1) := by decide +kernel
theorem dX9_give_53 : decode cX9_give 53 = .ok (.istore 4, 2) := by decide +kernel
theorem dX9_give_55 : decode cX9_give 55 = .ok (.iload 4, 2) := by decide +kernel
theorem dX9_give_57 : decode cX9_give 57 = .ok (.istore 5, 2) := by decide +kernel
theorem dX9_give_59 : decode cX9_give 59 = .ok (.iload 5, 2) := by decide +kernel
theorem dX9_give_61 : decode cX9_give 61 = .ok (.ifCond .lt 180, 3) := by decide +kernel
theorem dX9_give_64 : decode cX9_give 64 = .ok (.aload_n 0, 1) := by decide +kernel
theorem dX9_give_65 : decode cX9_give 65 = .ok (.getfield 103, 3) := by decide +kernel
theorem dX9_give_68 : decode cX9_give 68 = .ok (.iload 5, 2) := by decide +kernel
theorem dX9_give_70 : decode cX9_give 70 = .ok (.iload 5, 2) := by decide +kernel
theorem dX9_give_72 : decode cX9_give 72 = .ok (.iload 4, 2) := by decide +kernel
theorem dX9_give_74 : decode cX9_give 74 = .ok (.if_icmp .ne 7, 3) := by decide +kernel
theorem dX9_give_77 : decode cX9_give 77 = .ok (.iconst 0, 1) := by decide +kernel
theorem dX9_give_78 : decode cX9_give 78 = .ok (.goto 4, 3) := by decide +kernel
theorem dX9_give_81 : decode cX9_give 81 = .ok (.iconst (-1), 1) := by decide +kernel
theorem dX9_give_82 : decode cX9_give 82 = .ok (.iastore, 1) := by decide +kernel
theorem dX9_give_83 : decode cX9_give 83 = .ok (.iload_n 1, 1) := by decide +kernel
theorem dX9_give_84 : decode cX9_give 84 = .ok (.iload 5, 2) := by decide +kernel
theorem dX9_give_86 : decode cX9_give 86 = .ok (.invokestatic 209, 3) := by decide +kernel
theorem dX9_give_89 : decode cX9_give 89 = .ok (.iadd, 1) := by decide +kernel
theorem dX9_give_90 : decode cX9_give 90 = .ok (.istore 6, 2) := by decide +kernel
theorem dX9_give_92 : decode cX9_give 92 = .ok (.iload_n 3, 1) := by decide +kernel
theorem dX9_give_93 : decode cX9_give 93 = .ok (.iconst 1, 1) := by decide +kernel
theorem dX9_give_94 : decode cX9_give 94 = .ok (.isub, 1) := by decide +kernel
theorem dX9_give_95 : decode cX9_give 95 = .ok (.istore 7, 2) := by decide +kernel
theorem dX9_give_97 : decode cX9_give 97 = .ok (.iload 7, 2) := by decide +kernel
theorem dX9_give_99 : decode cX9_give 99 = .ok (.ifCond .lt 136, 3) := by decide +kernel
theorem dX9_give_102 : decode cX9_give 102 = .ok (.iload 5, 2) := by decide +kernel
theorem dX9_give_104 : decode cX9_give 104 = .ok (.iload 4, 2) := by decide +kernel
theorem dX9_give_106 : decode cX9_give 106 = .ok (.if_icmp .ge 129, 3) := by decide +kernel
theorem dX9_give_109 : decode cX9_give 109 = .ok (.iload 5, 2) := by decide +kernel
theorem dX9_give_111 : decode cX9_give 111 = .ok (.iload 7, 2) := by decide +kernel
theorem dX9_give_113 : decode cX9_give 113 = .ok (.ishr, 1) := by decide +kernel
theorem dX9_give_114 : decode cX9_give 114 = .ok (.iconst 1, 1) := by decide +kernel
theorem dX9_give_115 : decode cX9_give 115 = .ok (.iand, 1) := by decide +kernel
theorem dX9_give_116 : decode cX9_give 116 = .ok (.iconst 1, 1) := by decide +kernel
theorem dX9_give_117 : decode cX9_give 117 = .ok (.if_icmp .ne 7, 3) := by decide +kernel
theorem dX9_give_120 : decode cX9_give 120 = .ok (.iconst (-1), 1) := by decide +kernel
theorem dX9_give_121 : decode cX9_give 121 = .ok (.goto 15, 3) := by decide +kernel
theorem dX9_give_124 : decode cX9_give 124 = .ok (.aload_n 0, 1) := by decide +kernel
theorem dX9_give_125 : decode cX9_give 125 = .ok (.getfield 103, 3) := by decide +kernel
theorem dX9_give_128 : decode cX9_give 128 = .ok (.iload 5, 2) := by decide +kernel
theorem dX9_give_130 : decode cX9_give 130 = .ok (.iconst 1, 1) := by decide +kernel
theorem dX9_give_131 : decode cX9_give 131 = .ok (.iload 7, 2) := by decide +kernel
theorem dX9_give_133 : decode cX9_give 133 = .ok (.ishl, 1) := by decide +kernel
theorem dX9_give_134 : decode cX9_give 134 = .ok (.ior, 1) := by decide +kernel
theorem dX9_give_135 : decode cX9_give 135 = .ok (.iaload, 1) := by decide +kernel
theorem dX9_give_136 : decode cX9_give 136 = .ok (.istore 8, 2) := by decide +kernel
theorem dX9_give_138 : decode cX9_give 138 = .ok (.iload 8, 2) := by decide +kernel
theorem dX9_give_140 : decode cX9_give 140 = .ok (.ifCond .lt 89, 3) := by decide +kernel
theorem dX9_give_143 : decode cX9_give 143 = .ok (.aload_n 0, 1) := by decide +kernel
theorem dX9_give_144 : decode cX9_give 144 = .ok (.aload_n 0, 1) := by decide +kernel
theorem dX9_give_145 : decode cX9_give 145 = .ok (.getfield 41, 3) := by decide +kernel
theorem dX9_give_148 : decode cX9_give 148 = .ok (.iload 6, 2) := by decide +kernel
theorem dX9_give_150 : decode cX9_give 150 = .ok (.iaload, 1) := by decide +kernel
theorem dX9_give_151 : decode cX9_give 151 = .ok (.iload_n 2, 1) := by decide +kernel
theorem dX9_give_152 : decode cX9_give 152 = .ok (.iload 7, 2) := by decide +kernel
theorem dX9_give_154 : decode cX9_give 154 = .ok (.iadd, 1) := by decide +kernel
theorem dX9_give_155 : decode cX9_give 155 = .ok (.invokevirtual 139, 3) := by decide +kernel
theorem dX9_give_158 : decode cX9_give 158 = .ok (.ifCond .eq 71, 3) := by decide +kernel
theorem dX9_give_161 : decode cX9_give 161 = .ok (.iload 8, 2) := by decide +kernel
theorem dX9_give_163 : decode cX9_give 163 = .ok (.aload_n 0, 1) := by decide +kernel
theorem dX9_give_164 : decode cX9_give 164 = .ok (.iload 6, 2) := by decide +kernel
theorem dX9_give_166 : decode cX9_give 166 = .ok (.iload_n 2, 1) := by decide +kernel
theorem dX9_give_167 : decode cX9_give 167 = .ok (.iload 7, 2) := by decide +kernel
theorem dX9_give_169 : decode cX9_give 169 = .ok (.iadd, 1) := by decide +kernel
theorem dX9_give_170 : decode cX9_give 170 = .ok (.iconst 1, 1) := by decide +kernel
theorem dX9_give_171 : decode cX9_give 171 = .ok (.invokevirtual 181, 3) := by decide +kernel
theorem dX9_give_174 : decode cX9_give 174 = .ok (.iadd, 1) := by decide +kernel
theorem dX9_give_175 : decode cX9_give 175 = .ok (.aload_n 0, 1) := by decide +kernel
theorem dX9_give_176 : decode cX9_give 176 = .ok (.iload 6, 2) := by decide +kernel
theorem dX9_give_178 : decode cX9_give 178 = .ok (.iload_n 2, 1) := by decide +kernel
theorem dX9_give_179 : decode cX9_give 179 = .ok (.iload 7, 2) := by decide +kernel
theorem dX9_give_181 : decode cX9_give 181 = .ok (.iadd, 1) := by decide +kernel
theorem dX9_give_182 : decode cX9_give 182 = .ok (.iconst 0, 1) := by decide +kernel
theorem dX9_give_183 : decode cX9_give 183 = .ok (.invokevirtual 181, 3) := by decide +kernel
theorem dX9_give_186 : decode cX9_give 186 = .ok (.iadd, 1) := by decide +kernel
theorem dX9_give_187 : decode cX9_give 187 = .ok (.istore 9, 2) := by decide +kernel
theorem dX9_give_189 : decode cX9_give 189 = .ok (.aload_n 0, 1) := by decide +kernel
theorem dX9_give_190 : decode cX9_give 190 = .ok (.getfield 103, 3) := by decide +kernel
theorem dX9_give_193 : decode cX9_give 193 = .ok (.iload 5, 2) := by decide +kernel
theorem dX9_give_195 : decode cX9_give 195 = .ok (.iaload, 1) := by decide +kernel
theorem dX9_give_196 : decode cX9_give 196 = .ok (.ifCond .lt 15, 3) := by decide +kernel
theorem dX9_give_199 : decode cX9_give 199 = .ok (.iload 9, 2) := by decide +kernel
theorem dX9_give_201 : decode cX9_give 201 = .ok (.aload_n 0, 1) := by decide +kernel
theorem dX9_give_202 : decode cX9_give 202 = .ok (.getfield 103, 3) := by decide +kernel
theorem dX9_give_205 : decode cX9_give 205 = .ok (.iload 5, 2) := by decide +kernel
theorem dX9_give_207 : decode cX9_give 207 = .ok (.iaload, 1) := by decide +kernel
theorem dX9_give_208 : decode cX9_give 208 = .ok (.if_icmp .gt 21, 3) := by decide +kernel
theorem dX9_give_211 : decode cX9_give 211 = .ok (.aload_n 0, 1) := by decide +kernel
theorem dX9_give_212 : decode cX9_give 212 = .ok (.getfield 103, 3) := by decide +kernel
theorem dX9_give_215 : decode cX9_give 215 = .ok (.iload 5, 2) := by decide +kernel
theorem dX9_give_217 : decode cX9_give 217 = .ok (.iload 9, 2) := by decide +kernel
theorem dX9_give_219 : decode cX9_give 219 = .ok (.iastore, 1) := by decide +kernel
theorem dX9_give_220 : decode cX9_give 220 = .ok (.aload_n 0, 1) := by decide +kernel
theorem dX9_give_221 : decode cX9_give 221 = .ok (.getfield 106, 3) := by decide +kernel
theorem dX9_give_224 : decode cX9_give 224 = .ok (.iload 5, 2) := by decide +kernel
theorem dX9_give_226 : decode cX9_give 226 = .ok (.iload 7, 2) := by decide +kernel
theorem dX9_give_228 : decode cX9_give 228 = .ok (.iastore, 1) := by decide +kernel
theorem dX9_give_229 : decode cX9_give 229 = .ok (.iinc 7 (-1), 3) := by decide +kernel
theorem dX9_give_232 : decode cX9_give 232 = .ok (.goto (-135), 3) := by decide +kernel
theorem dX9_give_235 : decode cX9_give 235 = .ok (.iinc 5 (-1), 3) := by decide +kernel
theorem dX9_give_238 : decode cX9_give 238 = .ok (.goto (-179), 3) := by decide +kernel
theorem dX9_give_241 : decode cX9_give 241 = .ok (.aload_n 0, 1) := by decide +kernel
theorem dX9_give_242 : decode cX9_give 242 = .ok (.getfield 103, 3) := by decide +kernel
theorem dX9_give_245 : decode cX9_give 245 = .ok (.iconst 0, 1) := by decide +kernel
theorem dX9_give_246 : decode cX9_give 246 = .ok (.iaload, 1) := by decide +kernel
theorem dX9_give_247 : decode cX9_give 247 = .ok (.ifCond .ge 6, 3) := by decide +kernel
theorem dX9_give_250 : decode cX9_give 250 = .ok (.bipush (-4), 2) := by decide +kernel
theorem dX9_give_252 : decode cX9_give 252 = .ok (.ireturn, 1) := by decide +kernel
theorem dX9_give_253 : decode cX9_give 253 = .ok (.iconst 0, 1) := by decide +kernel
theorem dX9_give_254 : decode cX9_give 254 = .ok (.istore 5, 2) := by decide +kernel
theorem dX9_give_256 : decode cX9_give 256 = .ok (.iload 5, 2) := by decide +kernel
theorem dX9_give_258 : decode cX9_give 258 = .ok (.bipush 10, 2) := by decide +kernel
theorem dX9_give_260 : decode cX9_give 260 = .ok (.if_icmp .ge 18, 3) := by decide +kernel
theorem dX9_give_263 : decode cX9_give 263 = .ok (.aload_n 0, 1) := by decide +kernel
theorem dX9_give_264 : decode cX9_give 264 = .ok (.getfield 109, 3) := by decide +kernel
theorem dX9_give_267 : decode cX9_give 267 = .ok (.iload 5, 2) := by decide +kernel
theorem dX9_give_269 : decode cX9_give 269 = .ok (.bipush (-4), 2) := by decide +kernel
theorem dX9_give_271 : decode cX9_give 271 = .ok (.iastore, 1) := by decide +kernel
theorem dX9_give_272 : decode cX9_give 272 = .ok (.iinc 5 1, 3) := by decide +kernel
theorem dX9_give_275 : decode cX9_give 275 = .ok (.goto (-19), 3) := by decide +kernel
theorem dX9_give_278 : decode cX9_give 278 = .ok (.iconst 0, 1) := by decide +kernel
theorem dX9_give_279 : decode cX9_give 279 = .ok (.istore 5, 2) := by decide +kernel
theorem dX9_give_281 : decode cX9_give 281 = .ok (.iload_n 1, 1) := by decide +kernel
theorem dX9_give_282 : decode cX9_give 282 = .ok (.istore 6, 2) := by decide +kernel
theorem dX9_give_284 : decode cX9_give 284 = .ok (.iload 6, 2) := by decide +kernel
theorem dX9_give_286 : decode cX9_give 286 = .ok (.iload_n 1, 1) := by decide +kernel
theorem dX9_give_287 : decode cX9_give 287 = .ok (.iload_n 3, 1) := by decide +kernel
theorem dX9_give_288 : decode cX9_give 288 = .ok (.iadd, 1) := by decide +kernel
theorem dX9_give_289 : decode cX9_give 289 = .ok (.if_icmp .ge 38, 3) := by decide +kernel
theorem dX9_give_292 : decode cX9_give 292 = .ok (.aload_n 0, 1) := by decide +kernel
theorem dX9_give_293 : decode cX9_give 293 = .ok (.getfield 106, 3) := by decide +kernel
theorem dX9_give_296 : decode cX9_give 296 = .ok (.iload 5, 2) := by decide +kernel
theorem dX9_give_298 : decode cX9_give 298 = .ok (.iaload, 1) := by decide +kernel
theorem dX9_give_299 : decode cX9_give 299 = .ok (.istore 7, 2) := by decide +kernel
theorem dX9_give_301 : decode cX9_give 301 = .ok (.aload_n 0, 1) := by decide +kernel
theorem dX9_give_302 : decode cX9_give 302 = .ok (.getfield 109, 3) := by decide +kernel
theorem dX9_give_305 : decode cX9_give 305 = .ok (.iload 6, 2) := by decide +kernel
theorem dX9_give_307 : decode cX9_give 307 = .ok (.iload_n 2, 1) := by decide +kernel
theorem dX9_give_308 : decode cX9_give 308 = .ok (.iload 7, 2) := by decide +kernel
theorem dX9_give_310 : decode cX9_give 310 = .ok (.iadd, 1) := by decide +kernel
theorem dX9_give_311 : decode cX9_give 311 = .ok (.iastore, 1) := by decide +kernel
theorem dX9_give_312 : decode cX9_give 312 = .ok (.iload 5, 2) := by decide +kernel
theorem dX9_give_314 : decode cX9_give 314 = .ok (.iconst 1, 1) := by decide +kernel
theorem dX9_give_315 : decode cX9_give 315 = .ok (.iload 7, 2) := by decide +kernel
theorem dX9_give_317 : decode cX9_give 317 = .ok (.ishl, 1) := by decide +kernel
theorem dX9_give_318 : decode cX9_give 318 = .ok (.ior, 1) := by decide +kernel
theorem dX9_give_319 : decode cX9_give 319 = .ok (.istore 5, 2) := by decide +kernel
theorem dX9_give_321 : decode cX9_give 321 = .ok (.iinc 6 1, 3) := by decide +kernel
theorem dX9_give_324 : decode cX9_give 324 = .ok (.goto (-40), 3) := by decide +kernel
theorem dX9_give_327 : decode cX9_give 327 = .ok (.aload_n 0, 1) := by decide +kernel
theorem dX9_give_328 : decode cX9_give 328 = .ok (.getfield 103, 3) := by decide +kernel
theorem dX9_give_331 : decode cX9_give 331 = .ok (.iconst 0, 1) := by decide +kernel
theorem dX9_give_332 : decode cX9_give 332 = .ok (.iaload, 1) := by decide +kernel
theorem dX9_give_333 : decode cX9_give 333 = .ok (.ireturn, 1) := by decide +kernel
theorem dX9_given_0 : decode cX9_given 0 = .ok (.aload_n 0, 1) := by decide +kernel
theorem dX9_given_1 : decode cX9_given 1 = .ok (.iload_n 1, 1) := by decide +kernel
theorem dX9_given_2 : decode cX9_given 2 = .ok (.invokevirtual 146, 3) := by decide +kernel
theorem dX9_given_5 : decode cX9_given 5 = .ok (.ifCond .eq 12, 3) := by decide +kernel
theorem dX9_given_8 : decode cX9_given 8 = .ok (.aload_n 0, 1) := by decide +kernel
theorem dX9_given_9 : decode cX9_given 9 = .ok (.getfield 109, 3) := by decide +kernel
theorem dX9_given_12 : decode cX9_given 12 = .ok (.iload_n 1, 1) := by decide +kernel
theorem dX9_given_13 : decode cX9_given 13 = .ok (.iaload, 1) := by decide +kernel
theorem dX9_given_14 : decode cX9_given 14 = .ok (.goto 4, 3) := by decide +kernel
theorem dX9_given_17 : decode cX9_given 17 = .ok (.iconst (-1), 1) := by decide +kernel
theorem dX9_given_18 : decode cX9_given 18 = .ok (.ireturn, 1) := by decide +kernel
theorem dX9_count_0 : decode cX9_count 0 = .ok (.iload_n 1, 1) := by decide +kernel
theorem dX9_count_1 : decode cX9_count 1 = .ok (.tableswitch 103 0 6 #[43, 48, 53, 58, 58, 58, 98], 43) := by decide +kernel
theorem dX9_count_44 : decode cX9_count 44 = .ok (.aload_n 0, 1) := by decide +kernel
theorem dX9_count_45 : decode cX9_count 45 = .ok (.getfield 119, 3) := by decide +kernel
theorem dX9_count_48 : decode cX9_count 48 = .ok (.ireturn, 1) := by decide +kernel
theorem dX9_count_49 : decode cX9_count 49 = .ok (.aload_n 0, 1) := by decide +kernel
theorem dX9_count_50 : decode cX9_count 50 = .ok (.getfield 116, 3) := by decide +kernel
theorem dX9_count_53 : decode cX9_count 53 = .ok (.ireturn, 1) := by decide +kernel
theorem dX9_count_54 : decode cX9_count 54 = .ok (.aload_n 0, 1) := by decide +kernel
theorem dX9_count_55 : decode cX9_count 55 = .ok (.getfield 126, 3) := by decide +kernel
theorem dX9_count_58 : decode cX9_count 58 = .ok (.ireturn, 1) := by decide +kernel
theorem dX9_count_59 : decode cX9_count 59 = .ok (.iconst 0, 1) := by decide +kernel
theorem dX9_count_60 : decode cX9_count 60 = .ok (.istore_n 2, 1) := by decide +kernel
theorem dX9_count_61 : decode cX9_count 61 = .ok (.iconst 0, 1) := by decide +kernel
theorem dX9_count_62 : decode cX9_count 62 = .ok (.istore_n 3, 1) := by decide +kernel
theorem dX9_count_63 : decode cX9_count 63 = .ok (.iload_n 3, 1) := by decide +kernel
theorem dX9_count_64 : decode cX9_count 64 = .ok (.aload_n 0, 1) := by decide +kernel
theorem dX9_count_65 : decode cX9_count 65 = .ok (.getfield 126, 3) := by decide +kernel
theorem dX9_count_68 : decode cX9_count 68 = .ok (.if_icmp .ge 29, 3) := by decide +kernel
theorem dX9_count_71 : decode cX9_count 71 = .ok (.iload_n 2, 1) := by decide +kernel
theorem dX9_count_72 : decode cX9_count 72 = .ok (.aload_n 0, 1) := by decide +kernel
theorem dX9_count_73 : decode cX9_count 73 = .ok (.getfield 59, 3) := by decide +kernel
theorem dX9_count_76 : decode cX9_count 76 = .ok (.iload_n 3, 1) := by decide +kernel
theorem dX9_count_77 : decode cX9_count 77 = .ok (.iaload, 1) := by decide +kernel
theorem dX9_count_78 : decode cX9_count 78 = .ok (.iload_n 1, 1) := by decide +kernel
theorem dX9_count_79 : decode cX9_count 79 = .ok (.iconst 3, 1) := by decide +kernel
theorem dX9_count_80 : decode cX9_count 80 = .ok (.isub, 1) := by decide +kernel
theorem dX9_count_81 : decode cX9_count 81 = .ok (.if_icmp .ne 7, 3) := by decide +kernel
theorem dX9_count_84 : decode cX9_count 84 = .ok (.iconst 1, 1) := by decide +kernel
theorem dX9_count_85 : decode cX9_count 85 = .ok (.goto 4, 3) := by decide +kernel
theorem dX9_count_88 : decode cX9_count 88 = .ok (.iconst 0, 1) := by decide +kernel
theorem dX9_count_89 : decode cX9_count 89 = .ok (.iadd, 1) := by decide +kernel
theorem dX9_count_90 : decode cX9_count 90 = .ok (.istore_n 2, 1) := by decide +kernel
theorem dX9_count_91 : decode cX9_count 91 = .ok (.iinc 3 1, 3) := by decide +kernel
theorem dX9_count_94 : decode cX9_count 94 = .ok (.goto (-31), 3) := by decide +kernel
theorem dX9_count_97 : decode cX9_count 97 = .ok (.iload_n 2, 1) := by decide +kernel
theorem dX9_count_98 : decode cX9_count 98 = .ok (.ireturn, 1) := by decide +kernel
theorem dX9_count_99 : decode cX9_count 99 = .ok (.aload_n 0, 1) := by decide +kernel
theorem dX9_count_100 : decode cX9_count 100 = .ok (.getfield 185, 3) := by decide +kernel
theorem dX9_count_103 : decode cX9_count 103 = .ok (.ireturn, 1) := by decide +kernel
theorem dX9_count_104 : decode cX9_count 104 = .ok (.iconst (-1), 1) := by decide +kernel
theorem dX9_count_105 : decode cX9_count 105 = .ok (.ireturn, 1) := by decide +kernel
end
section
theorem dL_law_0 : decode cL_law 0 = .ok (.new 7, 3) := by decide +kernel
theorem dL_law_3 : decode cL_law 3 = .ok (.dup, 1) := by decide +kernel
theorem dL_law_4 : decode cL_law 4 = .ok (.invokespecial 9, 3) := by decide +kernel
theorem dL_law_7 : decode cL_law 7 = .ok (.astore_n 1, 1) := by decide +kernel
theorem dL_law_8 : decode cL_law 8 = .ok (.new 10, 3) := by decide +kernel
theorem dL_law_11 : decode cL_law 11 = .ok (.dup, 1) := by decide +kernel
theorem dL_law_12 : decode cL_law 12 = .ok (.invokespecial 12, 3) := by decide +kernel
theorem dL_law_15 : decode cL_law 15 = .ok (.astore_n 2, 1) := by decide +kernel
theorem dL_law_16 : decode cL_law 16 = .ok (.iconst 0, 1) := by decide +kernel
theorem dL_law_17 : decode cL_law 17 = .ok (.istore_n 3, 1) := by decide +kernel
theorem dL_law_18 : decode cL_law 18 = .ok (.iload_n 3, 1) := by decide +kernel
theorem dL_law_19 : decode cL_law 19 = .ok (.aload_n 0, 1) := by decide +kernel
theorem dL_law_20 : decode cL_law 20 = .ok (.arraylength, 1) := by decide +kernel
theorem dL_law_21 : decode cL_law 21 = .ok (.bipush 7, 2) := by decide +kernel
theorem dL_law_23 : decode cL_law 23 = .ok (.isub, 1) := by decide +kernel
theorem dL_law_24 : decode cL_law 24 = .ok (.if_icmp .gt 883, 3) := by decide +kernel
theorem dL_law_27 : decode cL_law 27 = .ok (.aload_n 0, 1) := by decide +kernel
theorem dL_law_28 : decode cL_law 28 = .ok (.iload_n 3, 1) := by decide +kernel
theorem dL_law_29 : decode cL_law 29 = .ok (.iaload, 1) := by decide +kernel
theorem dL_law_30 : decode cL_law 30 = .ok (.bipush 31, 2) := by decide +kernel
theorem dL_law_32 : decode cL_law 32 = .ok (.iand, 1) := by decide +kernel
theorem dL_law_33 : decode cL_law 33 = .ok (.tableswitch 868 0 21 #[103, 126, 201, 234, 287, 320, 353, 396, 445, 468, 531, 544, 567, 590, 623, 656, 680, 713, 746, 779, 822, 845], 103) := by decide +kernel
theorem dL_law_136 : decode cL_law 136 = .ok (.aload_n 1, 1) := by decide +kernel
theorem dL_law_137 : decode cL_law 137 = .ok (.aload_n 0, 1) := by decide +kernel
theorem dL_law_138 : decode cL_law 138 = .ok (.iload_n 3, 1) := by decide +kernel
theorem dL_law_139 : decode cL_law 139 = .ok (.iconst 1, 1) := by decide +kernel
theorem dL_law_140 : decode cL_law 140 = .ok (.iadd, 1) := by decide +kernel
theorem dL_law_141 : decode cL_law 141 = .ok (.iaload, 1) := by decide +kernel
theorem dL_law_142 : decode cL_law 142 = .ok (.invokevirtual 13, 3) := by decide +kernel
theorem dL_law_145 : decode cL_law 145 = .ok (.aload_n 2, 1) := by decide +kernel
theorem dL_law_146 : decode cL_law 146 = .ok (.aload_n 0, 1) := by decide +kernel
theorem dL_law_147 : decode cL_law 147 = .ok (.iload_n 3, 1) := by decide +kernel
theorem dL_law_148 : decode cL_law 148 = .ok (.iconst 1, 1) := by decide +kernel
theorem dL_law_149 : decode cL_law 149 = .ok (.iadd, 1) := by decide +kernel
theorem dL_law_150 : decode cL_law 150 = .ok (.iaload, 1) := by decide +kernel
theorem dL_law_151 : decode cL_law 151 = .ok (.invokevirtual 17, 3) := by decide +kernel
theorem dL_law_154 : decode cL_law 154 = .ok (.if_icmp .eq 747, 3) := by decide +kernel
theorem dL_law_157 : decode cL_law 157 = .ok (.iconst 0, 1) := by decide +kernel
theorem dL_law_158 : decode cL_law 158 = .ok (.ireturn, 1) := by decide +kernel
theorem dL_law_159 : decode cL_law 159 = .ok (.aload_n 1, 1) := by decide +kernel
theorem dL_law_160 : decode cL_law 160 = .ok (.aload_n 0, 1) := by decide +kernel
theorem dL_law_161 : decode cL_law 161 = .ok (.iload_n 3, 1) := by decide +kernel
theorem dL_law_162 : decode cL_law 162 = .ok (.iconst 1, 1) := by decide +kernel
theorem dL_law_163 : decode cL_law 163 = .ok (.iadd, 1) := by decide +kernel
theorem dL_law_164 : decode cL_law 164 = .ok (.iaload, 1) := by decide +kernel
theorem dL_law_165 : decode cL_law 165 = .ok (.aload_n 0, 1) := by decide +kernel
theorem dL_law_166 : decode cL_law 166 = .ok (.iload_n 3, 1) := by decide +kernel
theorem dL_law_167 : decode cL_law 167 = .ok (.iconst 2, 1) := by decide +kernel
theorem dL_law_168 : decode cL_law 168 = .ok (.iadd, 1) := by decide +kernel
theorem dL_law_169 : decode cL_law 169 = .ok (.iaload, 1) := by decide +kernel
theorem dL_law_170 : decode cL_law 170 = .ok (.aload_n 0, 1) := by decide +kernel
theorem dL_law_171 : decode cL_law 171 = .ok (.iload_n 3, 1) := by decide +kernel
theorem dL_law_172 : decode cL_law 172 = .ok (.iconst 3, 1) := by decide +kernel
theorem dL_law_173 : decode cL_law 173 = .ok (.iadd, 1) := by decide +kernel
theorem dL_law_174 : decode cL_law 174 = .ok (.iaload, 1) := by decide +kernel
theorem dL_law_175 : decode cL_law 175 = .ok (.aload_n 0, 1) := by decide +kernel
theorem dL_law_176 : decode cL_law 176 = .ok (.iload_n 3, 1) := by decide +kernel
theorem dL_law_177 : decode cL_law 177 = .ok (.iconst 4, 1) := by decide +kernel
theorem dL_law_178 : decode cL_law 178 = .ok (.iadd, 1) := by decide +kernel
theorem dL_law_179 : decode cL_law 179 = .ok (.iaload, 1) := by decide +kernel
theorem dL_law_180 : decode cL_law 180 = .ok (.aload_n 0, 1) := by decide +kernel
theorem dL_law_181 : decode cL_law 181 = .ok (.iload_n 3, 1) := by decide +kernel
theorem dL_law_182 : decode cL_law 182 = .ok (.iconst 5, 1) := by decide +kernel
theorem dL_law_183 : decode cL_law 183 = .ok (.iadd, 1) := by decide +kernel
theorem dL_law_184 : decode cL_law 184 = .ok (.iaload, 1) := by decide +kernel
theorem dL_law_185 : decode cL_law 185 = .ok (.aload_n 0, 1) := by decide +kernel
theorem dL_law_186 : decode cL_law 186 = .ok (.iload_n 3, 1) := by decide +kernel
theorem dL_law_187 : decode cL_law 187 = .ok (.bipush 6, 2) := by decide +kernel
theorem dL_law_189 : decode cL_law 189 = .ok (.iadd, 1) := by decide +kernel
theorem dL_law_190 : decode cL_law 190 = .ok (.iaload, 1) := by decide +kernel
theorem dL_law_191 : decode cL_law 191 = .ok (.invokevirtual 18, 3) := by decide +kernel
theorem dL_law_194 : decode cL_law 194 = .ok (.aload_n 2, 1) := by decide +kernel
theorem dL_law_195 : decode cL_law 195 = .ok (.aload_n 0, 1) := by decide +kernel
theorem dL_law_196 : decode cL_law 196 = .ok (.iload_n 3, 1) := by decide +kernel
theorem dL_law_197 : decode cL_law 197 = .ok (.iconst 1, 1) := by decide +kernel
theorem dL_law_198 : decode cL_law 198 = .ok (.iadd, 1) := by decide +kernel
theorem dL_law_199 : decode cL_law 199 = .ok (.iaload, 1) := by decide +kernel
theorem dL_law_200 : decode cL_law 200 = .ok (.aload_n 0, 1) := by decide +kernel
theorem dL_law_201 : decode cL_law 201 = .ok (.iload_n 3, 1) := by decide +kernel
theorem dL_law_202 : decode cL_law 202 = .ok (.iconst 2, 1) := by decide +kernel
theorem dL_law_203 : decode cL_law 203 = .ok (.iadd, 1) := by decide +kernel
theorem dL_law_204 : decode cL_law 204 = .ok (.iaload, 1) := by decide +kernel
theorem dL_law_205 : decode cL_law 205 = .ok (.aload_n 0, 1) := by decide +kernel
theorem dL_law_206 : decode cL_law 206 = .ok (.iload_n 3, 1) := by decide +kernel
theorem dL_law_207 : decode cL_law 207 = .ok (.iconst 3, 1) := by decide +kernel
theorem dL_law_208 : decode cL_law 208 = .ok (.iadd, 1) := by decide +kernel
theorem dL_law_209 : decode cL_law 209 = .ok (.iaload, 1) := by decide +kernel
theorem dL_law_210 : decode cL_law 210 = .ok (.aload_n 0, 1) := by decide +kernel
theorem dL_law_211 : decode cL_law 211 = .ok (.iload_n 3, 1) := by decide +kernel
theorem dL_law_212 : decode cL_law 212 = .ok (.iconst 4, 1) := by decide +kernel
theorem dL_law_213 : decode cL_law 213 = .ok (.iadd, 1) := by decide +kernel
theorem dL_law_214 : decode cL_law 214 = .ok (.iaload, 1) := by decide +kernel
theorem dL_law_215 : decode cL_law 215 = .ok (.aload_n 0, 1) := by decide +kernel
theorem dL_law_216 : decode cL_law 216 = .ok (.iload_n 3, 1) := by decide +kernel
theorem dL_law_217 : decode cL_law 217 = .ok (.iconst 5, 1) := by decide +kernel
theorem dL_law_218 : decode cL_law 218 = .ok (.iadd, 1) := by decide +kernel
theorem dL_law_219 : decode cL_law 219 = .ok (.iaload, 1) := by decide +kernel
theorem dL_law_220 : decode cL_law 220 = .ok (.aload_n 0, 1) := by decide +kernel
theorem dL_law_221 : decode cL_law 221 = .ok (.iload_n 3, 1) := by decide +kernel
theorem dL_law_222 : decode cL_law 222 = .ok (.bipush 6, 2) := by decide +kernel
theorem dL_law_224 : decode cL_law 224 = .ok (.iadd, 1) := by decide +kernel
theorem dL_law_225 : decode cL_law 225 = .ok (.iaload, 1) := by decide +kernel
theorem dL_law_226 : decode cL_law 226 = .ok (.invokevirtual 22, 3) := by decide +kernel
theorem dL_law_229 : decode cL_law 229 = .ok (.if_icmp .eq 672, 3) := by decide +kernel
theorem dL_law_232 : decode cL_law 232 = .ok (.iconst 0, 1) := by decide +kernel
theorem dL_law_233 : decode cL_law 233 = .ok (.ireturn, 1) := by decide +kernel
theorem dL_law_234 : decode cL_law 234 = .ok (.aload_n 1, 1) := by decide +kernel
theorem dL_law_235 : decode cL_law 235 = .ok (.aload_n 0, 1) := by decide +kernel
theorem dL_law_236 : decode cL_law 236 = .ok (.iload_n 3, 1) := by decide +kernel
theorem dL_law_237 : decode cL_law 237 = .ok (.iconst 1, 1) := by decide +kernel
theorem dL_law_238 : decode cL_law 238 = .ok (.iadd, 1) := by decide +kernel
theorem dL_law_239 : decode cL_law 239 = .ok (.iaload, 1) := by decide +kernel
theorem dL_law_240 : decode cL_law 240 = .ok (.aload_n 0, 1) := by decide +kernel
theorem dL_law_241 : decode cL_law 241 = .ok (.iload_n 3, 1) := by decide +kernel
theorem dL_law_242 : decode cL_law 242 = .ok (.iconst 2, 1) := by decide +kernel
theorem dL_law_243 : decode cL_law 243 = .ok (.iadd, 1) := by decide +kernel
theorem dL_law_244 : decode cL_law 244 = .ok (.iaload, 1) := by decide +kernel
theorem dL_law_245 : decode cL_law 245 = .ok (.invokevirtual 23, 3) := by decide +kernel
theorem dL_law_248 : decode cL_law 248 = .ok (.aload_n 2, 1) := by decide +kernel
theorem dL_law_249 : decode cL_law 249 = .ok (.aload_n 0, 1) := by decide +kernel
theorem dL_law_250 : decode cL_law 250 = .ok (.iload_n 3, 1) := by decide +kernel
theorem dL_law_251 : decode cL_law 251 = .ok (.iconst 1, 1) := by decide +kernel
theorem dL_law_252 : decode cL_law 252 = .ok (.iadd, 1) := by decide +kernel
theorem dL_law_253 : decode cL_law 253 = .ok (.iaload, 1) := by decide +kernel
theorem dL_law_254 : decode cL_law 254 = .ok (.aload_n 0, 1) := by decide +kernel
theorem dL_law_255 : decode cL_law 255 = .ok (.iload_n 3, 1) := by decide +kernel
theorem dL_law_256 : decode cL_law 256 = .ok (.iconst 2, 1) := by decide +kernel
theorem dL_law_257 : decode cL_law 257 = .ok (.iadd, 1) := by decide +kernel
theorem dL_law_258 : decode cL_law 258 = .ok (.iaload, 1) := by decide +kernel
theorem dL_law_259 : decode cL_law 259 = .ok (.invokevirtual 27, 3) := by decide +kernel
theorem dL_law_262 : decode cL_law 262 = .ok (.if_icmp .eq 639, 3) := by decide +kernel
theorem dL_law_265 : decode cL_law 265 = .ok (.iconst 0, 1) := by decide +kernel
theorem dL_law_266 : decode cL_law 266 = .ok (.ireturn, 1) := by decide +kernel
theorem dL_law_267 : decode cL_law 267 = .ok (.aload_n 1, 1) := by decide +kernel
theorem dL_law_268 : decode cL_law 268 = .ok (.aload_n 0, 1) := by decide +kernel
theorem dL_law_269 : decode cL_law 269 = .ok (.iload_n 3, 1) := by decide +kernel
theorem dL_law_270 : decode cL_law 270 = .ok (.iconst 1, 1) := by decide +kernel
theorem dL_law_271 : decode cL_law 271 = .ok (.iadd, 1) := by decide +kernel
theorem dL_law_272 : decode cL_law 272 = .ok (.iaload, 1) := by decide +kernel
theorem dL_law_273 : decode cL_law 273 = .ok (.aload_n 0, 1) := by decide +kernel
theorem dL_law_274 : decode cL_law 274 = .ok (.iload_n 3, 1) := by decide +kernel
theorem dL_law_275 : decode cL_law 275 = .ok (.iconst 2, 1) := by decide +kernel
theorem dL_law_276 : decode cL_law 276 = .ok (.iadd, 1) := by decide +kernel
theorem dL_law_277 : decode cL_law 277 = .ok (.iaload, 1) := by decide +kernel
theorem dL_law_278 : decode cL_law 278 = .ok (.aload_n 0, 1) := by decide +kernel
theorem dL_law_279 : decode cL_law 279 = .ok (.iload_n 3, 1) := by decide +kernel
theorem dL_law_280 : decode cL_law 280 = .ok (.iconst 3, 1) := by decide +kernel
theorem dL_law_281 : decode cL_law 281 = .ok (.iadd, 1) := by decide +kernel
theorem dL_law_282 : decode cL_law 282 = .ok (.iaload, 1) := by decide +kernel
theorem dL_law_283 : decode cL_law 283 = .ok (.aload_n 0, 1) := by decide +kernel
theorem dL_law_284 : decode cL_law 284 = .ok (.iload_n 3, 1) := by decide +kernel
theorem dL_law_285 : decode cL_law 285 = .ok (.iconst 4, 1) := by decide +kernel
theorem dL_law_286 : decode cL_law 286 = .ok (.iadd, 1) := by decide +kernel
theorem dL_law_287 : decode cL_law 287 = .ok (.iaload, 1) := by decide +kernel
theorem dL_law_288 : decode cL_law 288 = .ok (.invokevirtual 28, 3) := by decide +kernel
theorem dL_law_291 : decode cL_law 291 = .ok (.aload_n 2, 1) := by decide +kernel
theorem dL_law_292 : decode cL_law 292 = .ok (.aload_n 0, 1) := by decide +kernel
theorem dL_law_293 : decode cL_law 293 = .ok (.iload_n 3, 1) := by decide +kernel
theorem dL_law_294 : decode cL_law 294 = .ok (.iconst 1, 1) := by decide +kernel
theorem dL_law_295 : decode cL_law 295 = .ok (.iadd, 1) := by decide +kernel
theorem dL_law_296 : decode cL_law 296 = .ok (.iaload, 1) := by decide +kernel
theorem dL_law_297 : decode cL_law 297 = .ok (.aload_n 0, 1) := by decide +kernel
theorem dL_law_298 : decode cL_law 298 = .ok (.iload_n 3, 1) := by decide +kernel
theorem dL_law_299 : decode cL_law 299 = .ok (.iconst 2, 1) := by decide +kernel
theorem dL_law_300 : decode cL_law 300 = .ok (.iadd, 1) := by decide +kernel
theorem dL_law_301 : decode cL_law 301 = .ok (.iaload, 1) := by decide +kernel
theorem dL_law_302 : decode cL_law 302 = .ok (.aload_n 0, 1) := by decide +kernel
theorem dL_law_303 : decode cL_law 303 = .ok (.iload_n 3, 1) := by decide +kernel
theorem dL_law_304 : decode cL_law 304 = .ok (.iconst 3, 1) := by decide +kernel
theorem dL_law_305 : decode cL_law 305 = .ok (.iadd, 1) := by decide +kernel
theorem dL_law_306 : decode cL_law 306 = .ok (.iaload, 1) := by decide +kernel
theorem dL_law_307 : decode cL_law 307 = .ok (.aload_n 0, 1) := by decide +kernel
theorem dL_law_308 : decode cL_law 308 = .ok (.iload_n 3, 1) := by decide +kernel
theorem dL_law_309 : decode cL_law 309 = .ok (.iconst 4, 1) := by decide +kernel
theorem dL_law_310 : decode cL_law 310 = .ok (.iadd, 1) := by decide +kernel
theorem dL_law_311 : decode cL_law 311 = .ok (.iaload, 1) := by decide +kernel
theorem dL_law_312 : decode cL_law 312 = .ok (.invokevirtual 32, 3) := by decide +kernel
theorem dL_law_315 : decode cL_law 315 = .ok (.if_icmp .eq 586, 3) := by decide +kernel
theorem dL_law_318 : decode cL_law 318 = .ok (.iconst 0, 1) := by decide +kernel
theorem dL_law_319 : decode cL_law 319 = .ok (.ireturn, 1) := by decide +kernel
theorem dL_law_320 : decode cL_law 320 = .ok (.aload_n 1, 1) := by decide +kernel
theorem dL_law_321 : decode cL_law 321 = .ok (.aload_n 0, 1) := by decide +kernel
theorem dL_law_322 : decode cL_law 322 = .ok (.iload_n 3, 1) := by decide +kernel
theorem dL_law_323 : decode cL_law 323 = .ok (.iconst 1, 1) := by decide +kernel
theorem dL_law_324 : decode cL_law 324 = .ok (.iadd, 1) := by decide +kernel
theorem dL_law_325 : decode cL_law 325 = .ok (.iaload, 1) := by decide +kernel
theorem dL_law_326 : decode cL_law 326 = .ok (.aload_n 0, 1) := by decide +kernel
theorem dL_law_327 : decode cL_law 327 = .ok (.iload_n 3, 1) := by decide +kernel
theorem dL_law_328 : decode cL_law 328 = .ok (.iconst 2, 1) := by decide +kernel
theorem dL_law_329 : decode cL_law 329 = .ok (.iadd, 1) := by decide +kernel
theorem dL_law_330 : decode cL_law 330 = .ok (.iaload, 1) := by decide +kernel
theorem dL_law_331 : decode cL_law 331 = .ok (.invokevirtual 33, 3) := by decide +kernel
theorem dL_law_334 : decode cL_law 334 = .ok (.aload_n 2, 1) := by decide +kernel
theorem dL_law_335 : decode cL_law 335 = .ok (.aload_n 0, 1) := by decide +kernel
theorem dL_law_336 : decode cL_law 336 = .ok (.iload_n 3, 1) := by decide +kernel
theorem dL_law_337 : decode cL_law 337 = .ok (.iconst 1, 1) := by decide +kernel
theorem dL_law_338 : decode cL_law 338 = .ok (.iadd, 1) := by decide +kernel
theorem dL_law_339 : decode cL_law 339 = .ok (.iaload, 1) := by decide +kernel
theorem dL_law_340 : decode cL_law 340 = .ok (.aload_n 0, 1) := by decide +kernel
theorem dL_law_341 : decode cL_law 341 = .ok (.iload_n 3, 1) := by decide +kernel
theorem dL_law_342 : decode cL_law 342 = .ok (.iconst 2, 1) := by decide +kernel
theorem dL_law_343 : decode cL_law 343 = .ok (.iadd, 1) := by decide +kernel
theorem dL_law_344 : decode cL_law 344 = .ok (.iaload, 1) := by decide +kernel
theorem dL_law_345 : decode cL_law 345 = .ok (.invokevirtual 36, 3) := by decide +kernel
theorem dL_law_348 : decode cL_law 348 = .ok (.if_icmp .eq 553, 3) := by decide +kernel
theorem dL_law_351 : decode cL_law 351 = .ok (.iconst 0, 1) := by decide +kernel
theorem dL_law_352 : decode cL_law 352 = .ok (.ireturn, 1) := by decide +kernel
theorem dL_law_353 : decode cL_law 353 = .ok (.aload_n 1, 1) := by decide +kernel
theorem dL_law_354 : decode cL_law 354 = .ok (.aload_n 0, 1) := by decide +kernel
theorem dL_law_355 : decode cL_law 355 = .ok (.iload_n 3, 1) := by decide +kernel
theorem dL_law_356 : decode cL_law 356 = .ok (.iconst 1, 1) := by decide +kernel
theorem dL_law_357 : decode cL_law 357 = .ok (.iadd, 1) := by decide +kernel
theorem dL_law_358 : decode cL_law 358 = .ok (.iaload, 1) := by decide +kernel
theorem dL_law_359 : decode cL_law 359 = .ok (.aload_n 0, 1) := by decide +kernel
theorem dL_law_360 : decode cL_law 360 = .ok (.iload_n 3, 1) := by decide +kernel
theorem dL_law_361 : decode cL_law 361 = .ok (.iconst 2, 1) := by decide +kernel
theorem dL_law_362 : decode cL_law 362 = .ok (.iadd, 1) := by decide +kernel
theorem dL_law_363 : decode cL_law 363 = .ok (.iaload, 1) := by decide +kernel
theorem dL_law_364 : decode cL_law 364 = .ok (.invokevirtual 37, 3) := by decide +kernel
theorem dL_law_367 : decode cL_law 367 = .ok (.aload_n 2, 1) := by decide +kernel
theorem dL_law_368 : decode cL_law 368 = .ok (.aload_n 0, 1) := by decide +kernel
theorem dL_law_369 : decode cL_law 369 = .ok (.iload_n 3, 1) := by decide +kernel
theorem dL_law_370 : decode cL_law 370 = .ok (.iconst 1, 1) := by decide +kernel
theorem dL_law_371 : decode cL_law 371 = .ok (.iadd, 1) := by decide +kernel
theorem dL_law_372 : decode cL_law 372 = .ok (.iaload, 1) := by decide +kernel
theorem dL_law_373 : decode cL_law 373 = .ok (.aload_n 0, 1) := by decide +kernel
theorem dL_law_374 : decode cL_law 374 = .ok (.iload_n 3, 1) := by decide +kernel
theorem dL_law_375 : decode cL_law 375 = .ok (.iconst 2, 1) := by decide +kernel
theorem dL_law_376 : decode cL_law 376 = .ok (.iadd, 1) := by decide +kernel
theorem dL_law_377 : decode cL_law 377 = .ok (.iaload, 1) := by decide +kernel
theorem dL_law_378 : decode cL_law 378 = .ok (.invokevirtual 40, 3) := by decide +kernel
theorem dL_law_381 : decode cL_law 381 = .ok (.if_icmp .eq 520, 3) := by decide +kernel
theorem dL_law_384 : decode cL_law 384 = .ok (.iconst 0, 1) := by decide +kernel
theorem dL_law_385 : decode cL_law 385 = .ok (.ireturn, 1) := by decide +kernel
theorem dL_law_386 : decode cL_law 386 = .ok (.aload_n 1, 1) := by decide +kernel
theorem dL_law_387 : decode cL_law 387 = .ok (.aload_n 0, 1) := by decide +kernel
theorem dL_law_388 : decode cL_law 388 = .ok (.iload_n 3, 1) := by decide +kernel
theorem dL_law_389 : decode cL_law 389 = .ok (.iconst 1, 1) := by decide +kernel
theorem dL_law_390 : decode cL_law 390 = .ok (.iadd, 1) := by decide +kernel
theorem dL_law_391 : decode cL_law 391 = .ok (.iaload, 1) := by decide +kernel
theorem dL_law_392 : decode cL_law 392 = .ok (.aload_n 0, 1) := by decide +kernel
theorem dL_law_393 : decode cL_law 393 = .ok (.iload_n 3, 1) := by decide +kernel
theorem dL_law_394 : decode cL_law 394 = .ok (.iconst 2, 1) := by decide +kernel
theorem dL_law_395 : decode cL_law 395 = .ok (.iadd, 1) := by decide +kernel
theorem dL_law_396 : decode cL_law 396 = .ok (.iaload, 1) := by decide +kernel
theorem dL_law_397 : decode cL_law 397 = .ok (.aload_n 0, 1) := by decide +kernel
theorem dL_law_398 : decode cL_law 398 = .ok (.iload_n 3, 1) := by decide +kernel
theorem dL_law_399 : decode cL_law 399 = .ok (.iconst 3, 1) := by decide +kernel
theorem dL_law_400 : decode cL_law 400 = .ok (.iadd, 1) := by decide +kernel
theorem dL_law_401 : decode cL_law 401 = .ok (.iaload, 1) := by decide +kernel
theorem dL_law_402 : decode cL_law 402 = .ok (.invokevirtual 41, 3) := by decide +kernel
theorem dL_law_405 : decode cL_law 405 = .ok (.aload_n 2, 1) := by decide +kernel
theorem dL_law_406 : decode cL_law 406 = .ok (.aload_n 0, 1) := by decide +kernel
theorem dL_law_407 : decode cL_law 407 = .ok (.iload_n 3, 1) := by decide +kernel
theorem dL_law_408 : decode cL_law 408 = .ok (.iconst 1, 1) := by decide +kernel
theorem dL_law_409 : decode cL_law 409 = .ok (.iadd, 1) := by decide +kernel
theorem dL_law_410 : decode cL_law 410 = .ok (.iaload, 1) := by decide +kernel
theorem dL_law_411 : decode cL_law 411 = .ok (.aload_n 0, 1) := by decide +kernel
theorem dL_law_412 : decode cL_law 412 = .ok (.iload_n 3, 1) := by decide +kernel
theorem dL_law_413 : decode cL_law 413 = .ok (.iconst 2, 1) := by decide +kernel
theorem dL_law_414 : decode cL_law 414 = .ok (.iadd, 1) := by decide +kernel
theorem dL_law_415 : decode cL_law 415 = .ok (.iaload, 1) := by decide +kernel
theorem dL_law_416 : decode cL_law 416 = .ok (.aload_n 0, 1) := by decide +kernel
theorem dL_law_417 : decode cL_law 417 = .ok (.iload_n 3, 1) := by decide +kernel
theorem dL_law_418 : decode cL_law 418 = .ok (.iconst 3, 1) := by decide +kernel
theorem dL_law_419 : decode cL_law 419 = .ok (.iadd, 1) := by decide +kernel
theorem dL_law_420 : decode cL_law 420 = .ok (.iaload, 1) := by decide +kernel
theorem dL_law_421 : decode cL_law 421 = .ok (.invokevirtual 45, 3) := by decide +kernel
theorem dL_law_424 : decode cL_law 424 = .ok (.if_icmp .eq 477, 3) := by decide +kernel
theorem dL_law_427 : decode cL_law 427 = .ok (.iconst 0, 1) := by decide +kernel
theorem dL_law_428 : decode cL_law 428 = .ok (.ireturn, 1) := by decide +kernel
theorem dL_law_429 : decode cL_law 429 = .ok (.aload_n 1, 1) := by decide +kernel
theorem dL_law_430 : decode cL_law 430 = .ok (.aload_n 0, 1) := by decide +kernel
theorem dL_law_431 : decode cL_law 431 = .ok (.iload_n 3, 1) := by decide +kernel
theorem dL_law_432 : decode cL_law 432 = .ok (.iconst 1, 1) := by decide +kernel
theorem dL_law_433 : decode cL_law 433 = .ok (.iadd, 1) := by decide +kernel
theorem dL_law_434 : decode cL_law 434 = .ok (.iaload, 1) := by decide +kernel
theorem dL_law_435 : decode cL_law 435 = .ok (.aload_n 0, 1) := by decide +kernel
theorem dL_law_436 : decode cL_law 436 = .ok (.iload_n 3, 1) := by decide +kernel
theorem dL_law_437 : decode cL_law 437 = .ok (.iconst 2, 1) := by decide +kernel
theorem dL_law_438 : decode cL_law 438 = .ok (.iadd, 1) := by decide +kernel
theorem dL_law_439 : decode cL_law 439 = .ok (.iaload, 1) := by decide +kernel
theorem dL_law_440 : decode cL_law 440 = .ok (.ifCond .eq 7, 3) := by decide +kernel
theorem dL_law_443 : decode cL_law 443 = .ok (.iconst 1, 1) := by decide +kernel
theorem dL_law_444 : decode cL_law 444 = .ok (.goto 4, 3) := by decide +kernel
theorem dL_law_447 : decode cL_law 447 = .ok (.iconst 0, 1) := by decide +kernel
theorem dL_law_448 : decode cL_law 448 = .ok (.invokevirtual 46, 3) := by decide +kernel
theorem dL_law_451 : decode cL_law 451 = .ok (.aload_n 2, 1) := by decide +kernel
theorem dL_law_452 : decode cL_law 452 = .ok (.aload_n 0, 1) := by decide +kernel
theorem dL_law_453 : decode cL_law 453 = .ok (.iload_n 3, 1) := by decide +kernel
theorem dL_law_454 : decode cL_law 454 = .ok (.iconst 1, 1) := by decide +kernel
theorem dL_law_455 : decode cL_law 455 = .ok (.iadd, 1) := by decide +kernel
theorem dL_law_456 : decode cL_law 456 = .ok (.iaload, 1) := by decide +kernel
theorem dL_law_457 : decode cL_law 457 = .ok (.aload_n 0, 1) := by decide +kernel
theorem dL_law_458 : decode cL_law 458 = .ok (.iload_n 3, 1) := by decide +kernel
theorem dL_law_459 : decode cL_law 459 = .ok (.iconst 2, 1) := by decide +kernel
theorem dL_law_460 : decode cL_law 460 = .ok (.iadd, 1) := by decide +kernel
theorem dL_law_461 : decode cL_law 461 = .ok (.iaload, 1) := by decide +kernel
theorem dL_law_462 : decode cL_law 462 = .ok (.ifCond .eq 7, 3) := by decide +kernel
theorem dL_law_465 : decode cL_law 465 = .ok (.iconst 1, 1) := by decide +kernel
theorem dL_law_466 : decode cL_law 466 = .ok (.goto 4, 3) := by decide +kernel
theorem dL_law_469 : decode cL_law 469 = .ok (.iconst 0, 1) := by decide +kernel
theorem dL_law_470 : decode cL_law 470 = .ok (.invokevirtual 50, 3) := by decide +kernel
theorem dL_law_473 : decode cL_law 473 = .ok (.if_icmp .eq 428, 3) := by decide +kernel
theorem dL_law_476 : decode cL_law 476 = .ok (.iconst 0, 1) := by decide +kernel
theorem dL_law_477 : decode cL_law 477 = .ok (.ireturn, 1) := by decide +kernel
theorem dL_law_478 : decode cL_law 478 = .ok (.aload_n 1, 1) := by decide +kernel
theorem dL_law_479 : decode cL_law 479 = .ok (.aload_n 0, 1) := by decide +kernel
theorem dL_law_480 : decode cL_law 480 = .ok (.iload_n 3, 1) := by decide +kernel
theorem dL_law_481 : decode cL_law 481 = .ok (.iconst 1, 1) := by decide +kernel
theorem dL_law_482 : decode cL_law 482 = .ok (.iadd, 1) := by decide +kernel
theorem dL_law_483 : decode cL_law 483 = .ok (.iaload, 1) := by decide +kernel
theorem dL_law_484 : decode cL_law 484 = .ok (.invokevirtual 51, 3) := by decide +kernel
theorem dL_law_487 : decode cL_law 487 = .ok (.aload_n 2, 1) := by decide +kernel
theorem dL_law_488 : decode cL_law 488 = .ok (.aload_n 0, 1) := by decide +kernel
theorem dL_law_489 : decode cL_law 489 = .ok (.iload_n 3, 1) := by decide +kernel
theorem dL_law_490 : decode cL_law 490 = .ok (.iconst 1, 1) := by decide +kernel
theorem dL_law_491 : decode cL_law 491 = .ok (.iadd, 1) := by decide +kernel
theorem dL_law_492 : decode cL_law 492 = .ok (.iaload, 1) := by decide +kernel
theorem dL_law_493 : decode cL_law 493 = .ok (.invokevirtual 54, 3) := by decide +kernel
theorem dL_law_496 : decode cL_law 496 = .ok (.if_icmp .eq 405, 3) := by decide +kernel
theorem dL_law_499 : decode cL_law 499 = .ok (.iconst 0, 1) := by decide +kernel
theorem dL_law_500 : decode cL_law 500 = .ok (.ireturn, 1) := by decide +kernel
theorem dL_law_501 : decode cL_law 501 = .ok (.aload_n 1, 1) := by decide +kernel
theorem dL_law_502 : decode cL_law 502 = .ok (.aload_n 0, 1) := by decide +kernel
theorem dL_law_503 : decode cL_law 503 = .ok (.iload_n 3, 1) := by decide +kernel
theorem dL_law_504 : decode cL_law 504 = .ok (.iconst 1, 1) := by decide +kernel
theorem dL_law_505 : decode cL_law 505 = .ok (.iadd, 1) := by decide +kernel
theorem dL_law_506 : decode cL_law 506 = .ok (.iaload, 1) := by decide +kernel
theorem dL_law_507 : decode cL_law 507 = .ok (.i2l, 1) := by decide +kernel
theorem dL_law_508 : decode cL_law 508 = .ok (.bipush 32, 2) := by decide +kernel
theorem dL_law_510 : decode cL_law 510 = .ok (.lshl, 1) := by decide +kernel
theorem dL_law_511 : decode cL_law 511 = .ok (.aload_n 0, 1) := by decide +kernel
theorem dL_law_512 : decode cL_law 512 = .ok (.iload_n 3, 1) := by decide +kernel
theorem dL_law_513 : decode cL_law 513 = .ok (.iconst 2, 1) := by decide +kernel
theorem dL_law_514 : decode cL_law 514 = .ok (.iadd, 1) := by decide +kernel
theorem dL_law_515 : decode cL_law 515 = .ok (.iaload, 1) := by decide +kernel
theorem dL_law_516 : decode cL_law 516 = .ok (.i2l, 1) := by decide +kernel
theorem dL_law_517 : decode cL_law 517 = .ok (.ldc2_w 55, 3) := by decide +kernel
theorem dL_law_520 : decode cL_law 520 = .ok (.land, 1) := by decide +kernel
theorem dL_law_521 : decode cL_law 521 = .ok (.lor, 1) := by decide +kernel
theorem dL_law_522 : decode cL_law 522 = .ok (.aload_n 0, 1) := by decide +kernel
theorem dL_law_523 : decode cL_law 523 = .ok (.iload_n 3, 1) := by decide +kernel
theorem dL_law_524 : decode cL_law 524 = .ok (.iconst 3, 1) := by decide +kernel
theorem dL_law_525 : decode cL_law 525 = .ok (.iadd, 1) := by decide +kernel
theorem dL_law_526 : decode cL_law 526 = .ok (.iaload, 1) := by decide +kernel
theorem dL_law_527 : decode cL_law 527 = .ok (.invokevirtual 57, 3) := by decide +kernel
theorem dL_law_530 : decode cL_law 530 = .ok (.aload_n 2, 1) := by decide +kernel
theorem dL_law_531 : decode cL_law 531 = .ok (.aload_n 0, 1) := by decide +kernel
theorem dL_law_532 : decode cL_law 532 = .ok (.iload_n 3, 1) := by decide +kernel
theorem dL_law_533 : decode cL_law 533 = .ok (.iconst 1, 1) := by decide +kernel
theorem dL_law_534 : decode cL_law 534 = .ok (.iadd, 1) := by decide +kernel
theorem dL_law_535 : decode cL_law 535 = .ok (.iaload, 1) := by decide +kernel
theorem dL_law_536 : decode cL_law 536 = .ok (.i2l, 1) := by decide +kernel
theorem dL_law_537 : decode cL_law 537 = .ok (.bipush 32, 2) := by decide +kernel
theorem dL_law_539 : decode cL_law 539 = .ok (.lshl, 1) := by decide +kernel
theorem dL_law_540 : decode cL_law 540 = .ok (.aload_n 0, 1) := by decide +kernel
theorem dL_law_541 : decode cL_law 541 = .ok (.iload_n 3, 1) := by decide +kernel
theorem dL_law_542 : decode cL_law 542 = .ok (.iconst 2, 1) := by decide +kernel
theorem dL_law_543 : decode cL_law 543 = .ok (.iadd, 1) := by decide +kernel
theorem dL_law_544 : decode cL_law 544 = .ok (.iaload, 1) := by decide +kernel
theorem dL_law_545 : decode cL_law 545 = .ok (.i2l, 1) := by decide +kernel
theorem dL_law_546 : decode cL_law 546 = .ok (.ldc2_w 55, 3) := by decide +kernel
theorem dL_law_549 : decode cL_law 549 = .ok (.land, 1) := by decide +kernel
theorem dL_law_550 : decode cL_law 550 = .ok (.lor, 1) := by decide +kernel
theorem dL_law_551 : decode cL_law 551 = .ok (.aload_n 0, 1) := by decide +kernel
theorem dL_law_552 : decode cL_law 552 = .ok (.iload_n 3, 1) := by decide +kernel
theorem dL_law_553 : decode cL_law 553 = .ok (.iconst 3, 1) := by decide +kernel
theorem dL_law_554 : decode cL_law 554 = .ok (.iadd, 1) := by decide +kernel
theorem dL_law_555 : decode cL_law 555 = .ok (.iaload, 1) := by decide +kernel
theorem dL_law_556 : decode cL_law 556 = .ok (.invokevirtual 61, 3) := by decide +kernel
theorem dL_law_559 : decode cL_law 559 = .ok (.if_icmp .eq 342, 3) := by decide +kernel
theorem dL_law_562 : decode cL_law 562 = .ok (.iconst 0, 1) := by decide +kernel
theorem dL_law_563 : decode cL_law 563 = .ok (.ireturn, 1) := by decide +kernel
theorem dL_law_564 : decode cL_law 564 = .ok (.aload_n 1, 1) := by decide +kernel
theorem dL_law_565 : decode cL_law 565 = .ok (.invokevirtual 62, 3) := by decide +kernel
theorem dL_law_568 : decode cL_law 568 = .ok (.aload_n 2, 1) := by decide +kernel
theorem dL_law_569 : decode cL_law 569 = .ok (.invokevirtual 66, 3) := by decide +kernel
theorem dL_law_572 : decode cL_law 572 = .ok (.if_icmp .eq 329, 3) := by decide +kernel
theorem dL_law_575 : decode cL_law 575 = .ok (.iconst 0, 1) := by decide +kernel
theorem dL_law_576 : decode cL_law 576 = .ok (.ireturn, 1) := by decide +kernel
theorem dL_law_577 : decode cL_law 577 = .ok (.aload_n 1, 1) := by decide +kernel
theorem dL_law_578 : decode cL_law 578 = .ok (.aload_n 0, 1) := by decide +kernel
theorem dL_law_579 : decode cL_law 579 = .ok (.iload_n 3, 1) := by decide +kernel
theorem dL_law_580 : decode cL_law 580 = .ok (.iconst 1, 1) := by decide +kernel
theorem dL_law_581 : decode cL_law 581 = .ok (.iadd, 1) := by decide +kernel
theorem dL_law_582 : decode cL_law 582 = .ok (.iaload, 1) := by decide +kernel
theorem dL_law_583 : decode cL_law 583 = .ok (.invokevirtual 67, 3) := by decide +kernel
theorem dL_law_586 : decode cL_law 586 = .ok (.aload_n 2, 1) := by decide +kernel
theorem dL_law_587 : decode cL_law 587 = .ok (.aload_n 0, 1) := by decide +kernel
theorem dL_law_588 : decode cL_law 588 = .ok (.iload_n 3, 1) := by decide +kernel
theorem dL_law_589 : decode cL_law 589 = .ok (.iconst 1, 1) := by decide +kernel
theorem dL_law_590 : decode cL_law 590 = .ok (.iadd, 1) := by decide +kernel
theorem dL_law_591 : decode cL_law 591 = .ok (.iaload, 1) := by decide +kernel
theorem dL_law_592 : decode cL_law 592 = .ok (.invokevirtual 70, 3) := by decide +kernel
theorem dL_law_595 : decode cL_law 595 = .ok (.if_icmp .eq 306, 3) := by decide +kernel
theorem dL_law_598 : decode cL_law 598 = .ok (.iconst 0, 1) := by decide +kernel
theorem dL_law_599 : decode cL_law 599 = .ok (.ireturn, 1) := by decide +kernel
theorem dL_law_600 : decode cL_law 600 = .ok (.aload_n 1, 1) := by decide +kernel
theorem dL_law_601 : decode cL_law 601 = .ok (.aload_n 0, 1) := by decide +kernel
theorem dL_law_602 : decode cL_law 602 = .ok (.iload_n 3, 1) := by decide +kernel
theorem dL_law_603 : decode cL_law 603 = .ok (.iconst 1, 1) := by decide +kernel
theorem dL_law_604 : decode cL_law 604 = .ok (.iadd, 1) := by decide +kernel
theorem dL_law_605 : decode cL_law 605 = .ok (.iaload, 1) := by decide +kernel
theorem dL_law_606 : decode cL_law 606 = .ok (.invokevirtual 71, 3) := by decide +kernel
theorem dL_law_609 : decode cL_law 609 = .ok (.aload_n 2, 1) := by decide +kernel
theorem dL_law_610 : decode cL_law 610 = .ok (.aload_n 0, 1) := by decide +kernel
theorem dL_law_611 : decode cL_law 611 = .ok (.iload_n 3, 1) := by decide +kernel
theorem dL_law_612 : decode cL_law 612 = .ok (.iconst 1, 1) := by decide +kernel
theorem dL_law_613 : decode cL_law 613 = .ok (.iadd, 1) := by decide +kernel
theorem dL_law_614 : decode cL_law 614 = .ok (.iaload, 1) := by decide +kernel
theorem dL_law_615 : decode cL_law 615 = .ok (.invokevirtual 74, 3) := by decide +kernel
theorem dL_law_618 : decode cL_law 618 = .ok (.if_icmp .eq 283, 3) := by decide +kernel
theorem dL_law_621 : decode cL_law 621 = .ok (.iconst 0, 1) := by decide +kernel
theorem dL_law_622 : decode cL_law 622 = .ok (.ireturn, 1) := by decide +kernel
theorem dL_law_623 : decode cL_law 623 = .ok (.aload_n 1, 1) := by decide +kernel
theorem dL_law_624 : decode cL_law 624 = .ok (.aload_n 0, 1) := by decide +kernel
theorem dL_law_625 : decode cL_law 625 = .ok (.iload_n 3, 1) := by decide +kernel
theorem dL_law_626 : decode cL_law 626 = .ok (.iconst 1, 1) := by decide +kernel
theorem dL_law_627 : decode cL_law 627 = .ok (.iadd, 1) := by decide +kernel
theorem dL_law_628 : decode cL_law 628 = .ok (.iaload, 1) := by decide +kernel
theorem dL_law_629 : decode cL_law 629 = .ok (.aload_n 0, 1) := by decide +kernel
theorem dL_law_630 : decode cL_law 630 = .ok (.iload_n 3, 1) := by decide +kernel
theorem dL_law_631 : decode cL_law 631 = .ok (.iconst 2, 1) := by decide +kernel
theorem dL_law_632 : decode cL_law 632 = .ok (.iadd, 1) := by decide +kernel
theorem dL_law_633 : decode cL_law 633 = .ok (.iaload, 1) := by decide +kernel
theorem dL_law_634 : decode cL_law 634 = .ok (.invokevirtual 75, 3) := by decide +kernel
theorem dL_law_637 : decode cL_law 637 = .ok (.aload_n 2, 1) := by decide +kernel
theorem dL_law_638 : decode cL_law 638 = .ok (.aload_n 0, 1) := by decide +kernel
theorem dL_law_639 : decode cL_law 639 = .ok (.iload_n 3, 1) := by decide +kernel
theorem dL_law_640 : decode cL_law 640 = .ok (.iconst 1, 1) := by decide +kernel
theorem dL_law_641 : decode cL_law 641 = .ok (.iadd, 1) := by decide +kernel
theorem dL_law_642 : decode cL_law 642 = .ok (.iaload, 1) := by decide +kernel
theorem dL_law_643 : decode cL_law 643 = .ok (.aload_n 0, 1) := by decide +kernel
theorem dL_law_644 : decode cL_law 644 = .ok (.iload_n 3, 1) := by decide +kernel
theorem dL_law_645 : decode cL_law 645 = .ok (.iconst 2, 1) := by decide +kernel
theorem dL_law_646 : decode cL_law 646 = .ok (.iadd, 1) := by decide +kernel
theorem dL_law_647 : decode cL_law 647 = .ok (.iaload, 1) := by decide +kernel
theorem dL_law_648 : decode cL_law 648 = .ok (.invokevirtual 78, 3) := by decide +kernel
theorem dL_law_651 : decode cL_law 651 = .ok (.if_icmp .eq 250, 3) := by decide +kernel
theorem dL_law_654 : decode cL_law 654 = .ok (.iconst 0, 1) := by decide +kernel
theorem dL_law_655 : decode cL_law 655 = .ok (.ireturn, 1) := by decide +kernel
theorem dL_law_656 : decode cL_law 656 = .ok (.aload_n 1, 1) := by decide +kernel
theorem dL_law_657 : decode cL_law 657 = .ok (.aload_n 0, 1) := by decide +kernel
theorem dL_law_658 : decode cL_law 658 = .ok (.iload_n 3, 1) := by decide +kernel
theorem dL_law_659 : decode cL_law 659 = .ok (.iconst 1, 1) := by decide +kernel
theorem dL_law_660 : decode cL_law 660 = .ok (.iadd, 1) := by decide +kernel
theorem dL_law_661 : decode cL_law 661 = .ok (.iaload, 1) := by decide +kernel
theorem dL_law_662 : decode cL_law 662 = .ok (.aload_n 0, 1) := by decide +kernel
theorem dL_law_663 : decode cL_law 663 = .ok (.iload_n 3, 1) := by decide +kernel
theorem dL_law_664 : decode cL_law 664 = .ok (.iconst 2, 1) := by decide +kernel
theorem dL_law_665 : decode cL_law 665 = .ok (.iadd, 1) := by decide +kernel
theorem dL_law_666 : decode cL_law 666 = .ok (.iaload, 1) := by decide +kernel
theorem dL_law_667 : decode cL_law 667 = .ok (.invokevirtual 79, 3) := by decide +kernel
theorem dL_law_670 : decode cL_law 670 = .ok (.aload_n 2, 1) := by decide +kernel
theorem dL_law_671 : decode cL_law 671 = .ok (.aload_n 0, 1) := by decide +kernel
theorem dL_law_672 : decode cL_law 672 = .ok (.iload_n 3, 1) := by decide +kernel
theorem dL_law_673 : decode cL_law 673 = .ok (.iconst 1, 1) := by decide +kernel
theorem dL_law_674 : decode cL_law 674 = .ok (.iadd, 1) := by decide +kernel
theorem dL_law_675 : decode cL_law 675 = .ok (.iaload, 1) := by decide +kernel
theorem dL_law_676 : decode cL_law 676 = .ok (.aload_n 0, 1) := by decide +kernel
theorem dL_law_677 : decode cL_law 677 = .ok (.iload_n 3, 1) := by decide +kernel
theorem dL_law_678 : decode cL_law 678 = .ok (.iconst 2, 1) := by decide +kernel
theorem dL_law_679 : decode cL_law 679 = .ok (.iadd, 1) := by decide +kernel
theorem dL_law_680 : decode cL_law 680 = .ok (.iaload, 1) := by decide +kernel
theorem dL_law_681 : decode cL_law 681 = .ok (.invokevirtual 82, 3) := by decide +kernel
theorem dL_law_684 : decode cL_law 684 = .ok (.if_icmp .eq 217, 3) := by decide +kernel
theorem dL_law_687 : decode cL_law 687 = .ok (.iconst 0, 1) := by decide +kernel
theorem dL_law_688 : decode cL_law 688 = .ok (.ireturn, 1) := by decide +kernel
theorem dL_law_689 : decode cL_law 689 = .ok (.aload_n 1, 1) := by decide +kernel
theorem dL_law_690 : decode cL_law 690 = .ok (.aload_n 0, 1) := by decide +kernel
theorem dL_law_691 : decode cL_law 691 = .ok (.iload_n 3, 1) := by decide +kernel
theorem dL_law_692 : decode cL_law 692 = .ok (.iconst 1, 1) := by decide +kernel
theorem dL_law_693 : decode cL_law 693 = .ok (.iadd, 1) := by decide +kernel
theorem dL_law_694 : decode cL_law 694 = .ok (.iaload, 1) := by decide +kernel
theorem dL_law_695 : decode cL_law 695 = .ok (.invokevirtual 83, 3) := by decide +kernel
theorem dL_law_698 : decode cL_law 698 = .ok (.aload_n 2, 1) := by decide +kernel
theorem dL_law_699 : decode cL_law 699 = .ok (.aload_n 0, 1) := by decide +kernel
theorem dL_law_700 : decode cL_law 700 = .ok (.iload_n 3, 1) := by decide +kernel
theorem dL_law_701 : decode cL_law 701 = .ok (.iconst 1, 1) := by decide +kernel
theorem dL_law_702 : decode cL_law 702 = .ok (.iadd, 1) := by decide +kernel
theorem dL_law_703 : decode cL_law 703 = .ok (.iaload, 1) := by decide +kernel
theorem dL_law_704 : decode cL_law 704 = .ok (.invokevirtual 87, 3) := by decide +kernel
theorem dL_law_707 : decode cL_law 707 = .ok (.lcmp, 1) := by decide +kernel
theorem dL_law_708 : decode cL_law 708 = .ok (.ifCond .eq 193, 3) := by decide +kernel
theorem dL_law_711 : decode cL_law 711 = .ok (.iconst 0, 1) := by decide +kernel
theorem dL_law_712 : decode cL_law 712 = .ok (.ireturn, 1) := by decide +kernel
theorem dL_law_713 : decode cL_law 713 = .ok (.aload_n 1, 1) := by decide +kernel
theorem dL_law_714 : decode cL_law 714 = .ok (.aload_n 0, 1) := by decide +kernel
theorem dL_law_715 : decode cL_law 715 = .ok (.iload_n 3, 1) := by decide +kernel
theorem dL_law_716 : decode cL_law 716 = .ok (.iconst 1, 1) := by decide +kernel
theorem dL_law_717 : decode cL_law 717 = .ok (.iadd, 1) := by decide +kernel
theorem dL_law_718 : decode cL_law 718 = .ok (.iaload, 1) := by decide +kernel
theorem dL_law_719 : decode cL_law 719 = .ok (.aload_n 0, 1) := by decide +kernel
theorem dL_law_720 : decode cL_law 720 = .ok (.iload_n 3, 1) := by decide +kernel
theorem dL_law_721 : decode cL_law 721 = .ok (.iconst 2, 1) := by decide +kernel
theorem dL_law_722 : decode cL_law 722 = .ok (.iadd, 1) := by decide +kernel
theorem dL_law_723 : decode cL_law 723 = .ok (.iaload, 1) := by decide +kernel
theorem dL_law_724 : decode cL_law 724 = .ok (.invokevirtual 88, 3) := by decide +kernel
theorem dL_law_727 : decode cL_law 727 = .ok (.aload_n 2, 1) := by decide +kernel
theorem dL_law_728 : decode cL_law 728 = .ok (.aload_n 0, 1) := by decide +kernel
theorem dL_law_729 : decode cL_law 729 = .ok (.iload_n 3, 1) := by decide +kernel
theorem dL_law_730 : decode cL_law 730 = .ok (.iconst 1, 1) := by decide +kernel
theorem dL_law_731 : decode cL_law 731 = .ok (.iadd, 1) := by decide +kernel
theorem dL_law_732 : decode cL_law 732 = .ok (.iaload, 1) := by decide +kernel
theorem dL_law_733 : decode cL_law 733 = .ok (.aload_n 0, 1) := by decide +kernel
theorem dL_law_734 : decode cL_law 734 = .ok (.iload_n 3, 1) := by decide +kernel
theorem dL_law_735 : decode cL_law 735 = .ok (.iconst 2, 1) := by decide +kernel
theorem dL_law_736 : decode cL_law 736 = .ok (.iadd, 1) := by decide +kernel
theorem dL_law_737 : decode cL_law 737 = .ok (.iaload, 1) := by decide +kernel
theorem dL_law_738 : decode cL_law 738 = .ok (.invokevirtual 91, 3) := by decide +kernel
theorem dL_law_741 : decode cL_law 741 = .ok (.if_icmp .eq 160, 3) := by decide +kernel
theorem dL_law_744 : decode cL_law 744 = .ok (.iconst 0, 1) := by decide +kernel
theorem dL_law_745 : decode cL_law 745 = .ok (.ireturn, 1) := by decide +kernel
theorem dL_law_746 : decode cL_law 746 = .ok (.aload_n 1, 1) := by decide +kernel
theorem dL_law_747 : decode cL_law 747 = .ok (.aload_n 0, 1) := by decide +kernel
theorem dL_law_748 : decode cL_law 748 = .ok (.iload_n 3, 1) := by decide +kernel
theorem dL_law_749 : decode cL_law 749 = .ok (.iconst 1, 1) := by decide +kernel
theorem dL_law_750 : decode cL_law 750 = .ok (.iadd, 1) := by decide +kernel
theorem dL_law_751 : decode cL_law 751 = .ok (.iaload, 1) := by decide +kernel
theorem dL_law_752 : decode cL_law 752 = .ok (.aload_n 0, 1) := by decide +kernel
theorem dL_law_753 : decode cL_law 753 = .ok (.iload_n 3, 1) := by decide +kernel
theorem dL_law_754 : decode cL_law 754 = .ok (.iconst 2, 1) := by decide +kernel
theorem dL_law_755 : decode cL_law 755 = .ok (.iadd, 1) := by decide +kernel
theorem dL_law_756 : decode cL_law 756 = .ok (.iaload, 1) := by decide +kernel
theorem dL_law_757 : decode cL_law 757 = .ok (.invokevirtual 92, 3) := by decide +kernel
theorem dL_law_760 : decode cL_law 760 = .ok (.aload_n 2, 1) := by decide +kernel
theorem dL_law_761 : decode cL_law 761 = .ok (.aload_n 0, 1) := by decide +kernel
theorem dL_law_762 : decode cL_law 762 = .ok (.iload_n 3, 1) := by decide +kernel
theorem dL_law_763 : decode cL_law 763 = .ok (.iconst 1, 1) := by decide +kernel
theorem dL_law_764 : decode cL_law 764 = .ok (.iadd, 1) := by decide +kernel
theorem dL_law_765 : decode cL_law 765 = .ok (.iaload, 1) := by decide +kernel
theorem dL_law_766 : decode cL_law 766 = .ok (.aload_n 0, 1) := by decide +kernel
theorem dL_law_767 : decode cL_law 767 = .ok (.iload_n 3, 1) := by decide +kernel
theorem dL_law_768 : decode cL_law 768 = .ok (.iconst 2, 1) := by decide +kernel
theorem dL_law_769 : decode cL_law 769 = .ok (.iadd, 1) := by decide +kernel
theorem dL_law_770 : decode cL_law 770 = .ok (.iaload, 1) := by decide +kernel
theorem dL_law_771 : decode cL_law 771 = .ok (.invokevirtual 95, 3) := by decide +kernel
theorem dL_law_774 : decode cL_law 774 = .ok (.if_icmp .eq 127, 3) := by decide +kernel
theorem dL_law_777 : decode cL_law 777 = .ok (.iconst 0, 1) := by decide +kernel
theorem dL_law_778 : decode cL_law 778 = .ok (.ireturn, 1) := by decide +kernel
theorem dL_law_779 : decode cL_law 779 = .ok (.aload_n 1, 1) := by decide +kernel
theorem dL_law_780 : decode cL_law 780 = .ok (.aload_n 0, 1) := by decide +kernel
theorem dL_law_781 : decode cL_law 781 = .ok (.iload_n 3, 1) := by decide +kernel
theorem dL_law_782 : decode cL_law 782 = .ok (.iconst 1, 1) := by decide +kernel
theorem dL_law_783 : decode cL_law 783 = .ok (.iadd, 1) := by decide +kernel
theorem dL_law_784 : decode cL_law 784 = .ok (.iaload, 1) := by decide +kernel
theorem dL_law_785 : decode cL_law 785 = .ok (.aload_n 0, 1) := by decide +kernel
theorem dL_law_786 : decode cL_law 786 = .ok (.iload_n 3, 1) := by decide +kernel
theorem dL_law_787 : decode cL_law 787 = .ok (.iconst 2, 1) := by decide +kernel
theorem dL_law_788 : decode cL_law 788 = .ok (.iadd, 1) := by decide +kernel
theorem dL_law_789 : decode cL_law 789 = .ok (.iaload, 1) := by decide +kernel
theorem dL_law_790 : decode cL_law 790 = .ok (.invokevirtual 96, 3) := by decide +kernel
theorem dL_law_793 : decode cL_law 793 = .ok (.aload_n 2, 1) := by decide +kernel
theorem dL_law_794 : decode cL_law 794 = .ok (.aload_n 0, 1) := by decide +kernel
theorem dL_law_795 : decode cL_law 795 = .ok (.iload_n 3, 1) := by decide +kernel
theorem dL_law_796 : decode cL_law 796 = .ok (.iconst 1, 1) := by decide +kernel
theorem dL_law_797 : decode cL_law 797 = .ok (.iadd, 1) := by decide +kernel
theorem dL_law_798 : decode cL_law 798 = .ok (.iaload, 1) := by decide +kernel
theorem dL_law_799 : decode cL_law 799 = .ok (.aload_n 0, 1) := by decide +kernel
theorem dL_law_800 : decode cL_law 800 = .ok (.iload_n 3, 1) := by decide +kernel
theorem dL_law_801 : decode cL_law 801 = .ok (.iconst 2, 1) := by decide +kernel
theorem dL_law_802 : decode cL_law 802 = .ok (.iadd, 1) := by decide +kernel
theorem dL_law_803 : decode cL_law 803 = .ok (.iaload, 1) := by decide +kernel
theorem dL_law_804 : decode cL_law 804 = .ok (.invokevirtual 99, 3) := by decide +kernel
theorem dL_law_807 : decode cL_law 807 = .ok (.if_icmp .eq 94, 3) := by decide +kernel
theorem dL_law_810 : decode cL_law 810 = .ok (.iconst 0, 1) := by decide +kernel
theorem dL_law_811 : decode cL_law 811 = .ok (.ireturn, 1) := by decide +kernel
theorem dL_law_812 : decode cL_law 812 = .ok (.aload_n 1, 1) := by decide +kernel
theorem dL_law_813 : decode cL_law 813 = .ok (.aload_n 0, 1) := by decide +kernel
theorem dL_law_814 : decode cL_law 814 = .ok (.iload_n 3, 1) := by decide +kernel
theorem dL_law_815 : decode cL_law 815 = .ok (.iconst 1, 1) := by decide +kernel
theorem dL_law_816 : decode cL_law 816 = .ok (.iadd, 1) := by decide +kernel
theorem dL_law_817 : decode cL_law 817 = .ok (.iaload, 1) := by decide +kernel
theorem dL_law_818 : decode cL_law 818 = .ok (.aload_n 0, 1) := by decide +kernel
theorem dL_law_819 : decode cL_law 819 = .ok (.iload_n 3, 1) := by decide +kernel
theorem dL_law_820 : decode cL_law 820 = .ok (.iconst 2, 1) := by decide +kernel
theorem dL_law_821 : decode cL_law 821 = .ok (.iadd, 1) := by decide +kernel
theorem dL_law_822 : decode cL_law 822 = .ok (.iaload, 1) := by decide +kernel
theorem dL_law_823 : decode cL_law 823 = .ok (.aload_n 0, 1) := by decide +kernel
theorem dL_law_824 : decode cL_law 824 = .ok (.iload_n 3, 1) := by decide +kernel
theorem dL_law_825 : decode cL_law 825 = .ok (.iconst 3, 1) := by decide +kernel
theorem dL_law_826 : decode cL_law 826 = .ok (.iadd, 1) := by decide +kernel
theorem dL_law_827 : decode cL_law 827 = .ok (.iaload, 1) := by decide +kernel
theorem dL_law_828 : decode cL_law 828 = .ok (.invokevirtual 100, 3) := by decide +kernel
theorem dL_law_831 : decode cL_law 831 = .ok (.aload_n 2, 1) := by decide +kernel
theorem dL_law_832 : decode cL_law 832 = .ok (.aload_n 0, 1) := by decide +kernel
theorem dL_law_833 : decode cL_law 833 = .ok (.iload_n 3, 1) := by decide +kernel
theorem dL_law_834 : decode cL_law 834 = .ok (.iconst 1, 1) := by decide +kernel
theorem dL_law_835 : decode cL_law 835 = .ok (.iadd, 1) := by decide +kernel
theorem dL_law_836 : decode cL_law 836 = .ok (.iaload, 1) := by decide +kernel
theorem dL_law_837 : decode cL_law 837 = .ok (.aload_n 0, 1) := by decide +kernel
theorem dL_law_838 : decode cL_law 838 = .ok (.iload_n 3, 1) := by decide +kernel
theorem dL_law_839 : decode cL_law 839 = .ok (.iconst 2, 1) := by decide +kernel
theorem dL_law_840 : decode cL_law 840 = .ok (.iadd, 1) := by decide +kernel
theorem dL_law_841 : decode cL_law 841 = .ok (.iaload, 1) := by decide +kernel
theorem dL_law_842 : decode cL_law 842 = .ok (.aload_n 0, 1) := by decide +kernel
theorem dL_law_843 : decode cL_law 843 = .ok (.iload_n 3, 1) := by decide +kernel
theorem dL_law_844 : decode cL_law 844 = .ok (.iconst 3, 1) := by decide +kernel
theorem dL_law_845 : decode cL_law 845 = .ok (.iadd, 1) := by decide +kernel
theorem dL_law_846 : decode cL_law 846 = .ok (.iaload, 1) := by decide +kernel
theorem dL_law_847 : decode cL_law 847 = .ok (.invokevirtual 103, 3) := by decide +kernel
theorem dL_law_850 : decode cL_law 850 = .ok (.if_icmp .eq 51, 3) := by decide +kernel
theorem dL_law_853 : decode cL_law 853 = .ok (.iconst 0, 1) := by decide +kernel
theorem dL_law_854 : decode cL_law 854 = .ok (.ireturn, 1) := by decide +kernel
theorem dL_law_855 : decode cL_law 855 = .ok (.aload_n 1, 1) := by decide +kernel
theorem dL_law_856 : decode cL_law 856 = .ok (.aload_n 0, 1) := by decide +kernel
theorem dL_law_857 : decode cL_law 857 = .ok (.iload_n 3, 1) := by decide +kernel
theorem dL_law_858 : decode cL_law 858 = .ok (.iconst 1, 1) := by decide +kernel
theorem dL_law_859 : decode cL_law 859 = .ok (.iadd, 1) := by decide +kernel
theorem dL_law_860 : decode cL_law 860 = .ok (.iaload, 1) := by decide +kernel
theorem dL_law_861 : decode cL_law 861 = .ok (.invokevirtual 104, 3) := by decide +kernel
theorem dL_law_864 : decode cL_law 864 = .ok (.aload_n 2, 1) := by decide +kernel
theorem dL_law_865 : decode cL_law 865 = .ok (.aload_n 0, 1) := by decide +kernel
theorem dL_law_866 : decode cL_law 866 = .ok (.iload_n 3, 1) := by decide +kernel
theorem dL_law_867 : decode cL_law 867 = .ok (.iconst 1, 1) := by decide +kernel
theorem dL_law_868 : decode cL_law 868 = .ok (.iadd, 1) := by decide +kernel
theorem dL_law_869 : decode cL_law 869 = .ok (.iaload, 1) := by decide +kernel
theorem dL_law_870 : decode cL_law 870 = .ok (.invokevirtual 107, 3) := by decide +kernel
theorem dL_law_873 : decode cL_law 873 = .ok (.if_icmp .eq 28, 3) := by decide +kernel
theorem dL_law_876 : decode cL_law 876 = .ok (.iconst 0, 1) := by decide +kernel
theorem dL_law_877 : decode cL_law 877 = .ok (.ireturn, 1) := by decide +kernel
theorem dL_law_878 : decode cL_law 878 = .ok (.aload_n 1, 1) := by decide +kernel
theorem dL_law_879 : decode cL_law 879 = .ok (.aload_n 0, 1) := by decide +kernel
theorem dL_law_880 : decode cL_law 880 = .ok (.iload_n 3, 1) := by decide +kernel
theorem dL_law_881 : decode cL_law 881 = .ok (.iconst 1, 1) := by decide +kernel
theorem dL_law_882 : decode cL_law 882 = .ok (.iadd, 1) := by decide +kernel
theorem dL_law_883 : decode cL_law 883 = .ok (.iaload, 1) := by decide +kernel
theorem dL_law_884 : decode cL_law 884 = .ok (.invokevirtual 108, 3) := by decide +kernel
theorem dL_law_887 : decode cL_law 887 = .ok (.aload_n 2, 1) := by decide +kernel
theorem dL_law_888 : decode cL_law 888 = .ok (.aload_n 0, 1) := by decide +kernel
theorem dL_law_889 : decode cL_law 889 = .ok (.iload_n 3, 1) := by decide +kernel
theorem dL_law_890 : decode cL_law 890 = .ok (.iconst 1, 1) := by decide +kernel
theorem dL_law_891 : decode cL_law 891 = .ok (.iadd, 1) := by decide +kernel
theorem dL_law_892 : decode cL_law 892 = .ok (.iaload, 1) := by decide +kernel
theorem dL_law_893 : decode cL_law 893 = .ok (.invokevirtual 111, 3) := by decide +kernel
theorem dL_law_896 : decode cL_law 896 = .ok (.if_icmp .eq 5, 3) := by decide +kernel
theorem dL_law_899 : decode cL_law 899 = .ok (.iconst 0, 1) := by decide +kernel
theorem dL_law_900 : decode cL_law 900 = .ok (.ireturn, 1) := by decide +kernel
theorem dL_law_901 : decode cL_law 901 = .ok (.iinc 3 7, 3) := by decide +kernel
theorem dL_law_904 : decode cL_law 904 = .ok (.goto (-886), 3) := by decide +kernel
theorem dL_law_907 : decode cL_law 907 = .ok (.iconst 1, 1) := by decide +kernel
theorem dL_law_908 : decode cL_law 908 = .ok (.ireturn, 1) := by decide +kernel
end
section

/-! ===== the memory, the world, the walker ===== -/
abbrev ab_M : Type := Nat → Option ((Nat × Nat) × va_E)
def ab_set (M : ab_M) (a : Nat) (t : Nat × Nat) (e : va_E) : ab_M := fun q => if q = a then some (t, e) else M q
theorem ab_set_self {M : ab_M} {a : Nat} {t : Nat × Nat} {e : va_E} : ab_set M a t e a = some (t, e) := by simp [ab_set]
theorem ab_set_ne {M : ab_M} {a b : Nat} {t : Nat × Nat} {e : va_E} (h : b ≠ a) : ab_set M a t e b = M b := by simp [ab_set, h]
theorem ab_set_tag {M : ab_M} {a b : Nat} {t t2 : Nat × Nat} {e e0 e2 : va_E} (ha : M a = some (t, e0)) (hb : M b = some (t2, e2)) (ht : t2 ≠ t) : ab_set M a t e b = some (t2, e2) := by
  rw [ab_set_ne, hb]
  intro h
  subst h
  rw [hb] at ha
  cases ha
  exact ht rfl
theorem ab_set_new {M : ab_M} {a b : Nat} {t : Nat × Nat} {e : va_E} {z : (Nat × Nat) × va_E} (ha : M a = none) (hb : M b = some z) : ab_set M a t e b = some z := by
  rw [ab_set_ne, hb]
  intro h
  subst h
  rw [hb] at ha
  cases ha
/-- class numbers, slots, array classes, the first new address, the empty row of ArrayList -/
abbrev ab_G : Type := (Nat → ClassId) × (Nat → Nat → Nat) × (Nat → ClassId) × Nat × Nat
abbrev ab_D (g : ab_G) : va_G := (g.1, g.2.1)
abbrev ab_B (g : ab_G) : Nat := g.2.2.2.1
abbrev ab_e0 (g : ab_G) : Nat := g.2.2.2.2
abbrev ab_A (g : ab_G) : Nat → Prop := fun q => ab_B g ≤ q
abbrev ab_tys (g : ab_G) : List (ClassId × FieldType) := [(g.2.2.1 0, .int), (g.2.2.1 1, .long), (g.2.2.1 2, .boolean), (g.2.2.1 3, .object "java/lang/Object")]
abbrev ab_ai (g : ab_G) (n : Nat) (f : Nat → Int32) : va_E := .inl (g.2.2.1 0, n, .inl f)
abbrev ab_al (g : ab_G) (n : Nat) (f : Nat → Int64) : va_E := .inl (g.2.2.1 1, n, .inr (.inl f))
abbrev ab_az (g : ab_G) (n : Nat) (f : Nat → Int32) : va_E := .inl (g.2.2.1 2, n, .inl f)
abbrev ab_aq (g : ab_G) (n : Nat) (f : Nat → Option Nat) : va_E := .inl (g.2.2.1 3, n, .inr (.inr (.inr (.inr f))))
abbrev ab_ob (ci : Nat) (fs : List Value) : va_E := .inr (ci, fs)
/-- the words of the tables that every method may use -/
def ab_T : List Cond := lw_tbl.filter goodWord
theorem ab_T_in {i : Nat} {w : Cond} (h : lw_tbl[i]? = some w) (hg : goodWord w = true) : w ∈ ab_T := List.mem_filter.mpr ⟨List.mem_of_getElem? h, hg⟩
theorem ab_T_good {w : Cond} (h : w ∈ ab_T) : (w.onTables && w.keeps) = true ∨ ∃ ty, w = .arrayClass ty := good_of_word (List.mem_filter.mp h).2
def ab_isN : Cond → Bool
  | .methodLinkNest .. => true
  | .castable .. => true
  | _ => false
def ab_nest : List Cond := lw_tbl.filter ab_isN
def ab_noD : List String := ["WaterMen$Man", "WaterMen$Strong"]
/-- what holds of the tables and of the statics, at a state and a heap -/
def ab_E (g : ab_G) (U : State) (H : Heap) : Prop :=
  va_K (ab_D g) vwCl (ab_tys g) U ∧ (∀ w ∈ ab_nest, va_Nw w U) ∧ va_AO "java/lang/Object" U ∧ (∀ C ∈ ab_noD, va_Nc C "WaterMen$Donkey" U) ∧
  va_Z "java/util/ArrayList" "DEFAULTCAPACITY_EMPTY_ELEMENTDATA" "[Ljava/lang/Object;" (.ref (ab_e0 g)) (ab_A g) U H ∧ va_T (.object "java/lang/Object") (ab_e0 g) 0 (fun _ => .null) (ab_A g) U H
theorem ab_nest_warm {s U : State} (hW : s.WarmedH U.vm) {w : Cond} (hw : w ∈ ab_nest) (h : va_Nw w s) : va_Nw w U := by
  have h2 := (List.mem_filter.mp hw).2
  cases w <;> first | exact va_Nw.warmM hW h | exact va_Nw.warmC hW h | (simp [ab_isN] at h2; done)
theorem ab_E_warm {g : ab_G} {s U : State} {H H1 : Heap} (hW : s.WarmedH U.vm) (h : ab_E g s H) (hq : ∀ a : Nat, a < H.size → ¬ ab_A g a → H1[a]? = H[a]?) : ab_E g U H1 :=
  ⟨va_K.moved hW.alike h.1, fun w hw => ab_nest_warm hW hw (h.2.1 w hw), va_AO.moved hW.alike h.2.2.1, fun C hC => va_Nc.moved hW.alike (h.2.2.2.1 C hC), va_Z.moved hW.alike (va_Z.kept h.2.2.2.2.1 hq), va_T.moved hW.alike (va_T.kept h.2.2.2.2.2 hq)⟩
/-- the heap holds the memory -/
def ab_R (g : ab_G) (M : ab_M) (H : Heap) : Prop := ∃ ws : va_W, va_P (ab_D g) vwCl ws H ∧ va_D (ab_A g) ws ∧ ∀ (a : Nat) (t : Nat × Nat) (e : va_E), M a = some (t, e) → ∃ k : Nat, ws[k]? = some (a, e)
/-- locals -/
def ab_pr : Nat → List (Option Value) → List (Nat × Value)
  | _, [] => []
  | i, none :: L => ab_pr (i + 1) L
  | i, some v :: L => (i, v) :: ab_pr (i + 1) L
theorem ab_pr_mem : ∀ (L : List (Option Value)) (i j : Nat) (v : Value), (j, v) ∈ ab_pr i L ↔ i ≤ j ∧ L[j - i]? = some (some v)
  | [], i, j, v => by simp [ab_pr]
  | none :: L, i, j, v => by
    rw [ab_pr, ab_pr_mem L (i + 1) j v]
    constructor
    · rintro ⟨h1, h2⟩
      refine ⟨by omega, ?_⟩
      rw [show j - i = (j - (i + 1)) + 1 by omega, List.getElem?_cons_succ]
      exact h2
    · rintro ⟨h1, h2⟩
      by_cases hj : j = i
      · subst hj
        simp at h2
      · rw [show j - i = (j - (i + 1)) + 1 by omega, List.getElem?_cons_succ] at h2
        exact ⟨by omega, h2⟩
  | some u :: L, i, j, v => by
    rw [ab_pr, List.mem_cons, ab_pr_mem L (i + 1) j v]
    constructor
    · rintro (h | ⟨h1, h2⟩)
      · cases h
        exact ⟨Nat.le_refl _, by simp⟩
      · refine ⟨by omega, ?_⟩
        rw [show j - i = (j - (i + 1)) + 1 by omega, List.getElem?_cons_succ]
        exact h2
    · rintro ⟨h1, h2⟩
      by_cases hj : j = i
      · subst hj
        simp at h2
        exact Or.inl (by rw [h2])
      · rw [show j - i = (j - (i + 1)) + 1 by omega, List.getElem?_cons_succ] at h2
        exact Or.inr ⟨by omega, h2⟩
def ab_L (ls : Array Slot) (nL : Nat) (L : List (Option Value)) : Prop := lv_has ls nL (ab_pr 0 L)
theorem ab_L_at {ls : Array Slot} {nL : Nat} {L : List (Option Value)} (h : ab_L ls nL L) {i : Nat} {v : Value} (hi : L[i]? = some (some v)) : ls[i]? = some (.val v) :=
  h.2.2 (i, v) ((ab_pr_mem L 0 i v).mpr ⟨Nat.zero_le _, hi⟩)
def ab_ok1 (L : List (Option Value)) : Nat → Bool
  | 0 => true
  | i + 1 => match L[i]? with
    | some (some (.long _)) => false
    | some (some (.double _)) => false
    | _ => true
theorem ab_ok1_no {L : List (Option Value)} {i : Nat} (h : ab_ok1 L i = true) {j : Nat} {w : Value} (hj : L[j]? = some (some w)) (e : j + 1 = i) : ¬ w.category = 2 := by
  subst e
  rw [ab_ok1, hj] at h
  cases w <;> simp_all [Value.category]
theorem ab_L_pairs {ls : Array Slot} {nL : Nat} {L : List (Option Value)} {i : Nat} {v : Value} (hk : ab_ok1 L i = true) (h : lv_has ls nL ((i, v) :: (ab_pr 0 L).filter (fun q => !(q.1 == i) && !(q.1 + 1 == i && q.2.category == 2)))) : ab_L ls nL (L.set i (some v)) := by
  refine ⟨h.1, h.2.1, fun q hq => ?_⟩
  obtain ⟨j, w⟩ := q
  obtain ⟨-, hj⟩ := (ab_pr_mem _ 0 j w).mp hq
  by_cases hji : j = i
  · subst hji
    by_cases hl : j < L.length
    · simp [List.getElem?_set_self hl] at hj
      subst hj
      exact h.2.2 _ List.mem_cons_self
    · rw [Nat.sub_zero] at hj
      have hz := (List.getElem?_eq_some_iff.mp hj).1
      rw [List.length_set] at hz
      omega
  · have hj2 : L[j]? = some (some w) := by
      rw [Nat.sub_zero, List.getElem?_set_ne (Ne.symm hji)] at hj
      exact hj
    refine h.2.2 _ (List.mem_cons_of_mem _ (List.mem_filter.mpr ⟨(ab_pr_mem L 0 j w).mpr ⟨Nat.zero_le _, hj2⟩, ?_⟩))
    by_cases e : j + 1 = i
    · have := ab_ok1_no hk hj2 e
      simp [hji, this]
    · simp [hji, e]
abbrev ab_Y : Type := MethodName × ByteArray × Nat × Option FieldType
/-- what stays in a body -/
def ab_C (g : ab_G) (X : State → Array Value → Prop) (y : ab_Y) (F Lw : Nat) (p : Program) (R : Room) (s : State) (m : MethodId) (args : Array Value) (meth : Method) (c : Code) : Prop :=
  p.tables.exec = Jvm.exec ∧ c.code = y.2.1 ∧ c.maxLocals = y.2.2.1 ∧ s.vm.findClass y.1.cls = some m.cls ∧ (∀ w ∈ ab_T, w.before args s = true) ∧ meth.locks = false ∧ meth.sig.returnType = y.2.2.2 ∧ meth.name = y.1.name ∧ X s args ∧ F ≤ R.frames ∧ Lw ≤ R.locals ∧ ab_E g s s.heap ∧ ab_B g ≤ s.heap.size
/-- THE WALKER -/
def AW (l : Launch) (g : ab_G) (X : State → Array Value → Prop) (Z : List Frame → Array Value → State → Room → State → Prop) (y : ab_Y) (F Lw kc ks : Nat) (pc : Nat) (L : List (Option Value)) (st : List Value) (M : ab_M) : Prop :=
  ∀ (p : Program) (e : Env) (R : Room) (s : State) (m : MethodId) (args : Array Value) (below : List Frame) (meth : Method) (c : Code) (H : Heap) (locs : List Loc) (cells slots : Nat) (ls : Array Slot),
    ab_C g X y F Lw p R s m args meth c → cells + kc ≤ R.cells → slots + ks ≤ R.slots → va_S (ab_A g) s.heap H locs → ab_R g M H → ab_L ls y.2.2.1 L →
    W p l e R s m args below meth c H locs cells slots (Z below args s R) (F0 m pc ls st)
def ab_Qc (g : ab_G) (Q : Option Value → ab_M → Prop) : Array Value → State → Outcome → State → Prop := fun _ st o t => (∃ (r : Option Value) (M' : ab_M), o = .returned r ∧ Q r M' ∧ ab_R g M' t.heap) ∧ va_F (ab_A g) st t
def ab_Z (g : ab_G) (Q : Option Value → ab_M → Prop) : List Frame → Array Value → State → Room → State → Prop := fun below args s R => MQ below (ab_Qc g Q) args s R.cells R.slots (ab_A g)
def ab_P (g : ab_G) (M : ab_M) : State → Prop := fun U => ab_E g U U.heap ∧ ab_B g ≤ U.heap.size ∧ ab_R g M U.heap
def ab_ws (y : ab_Y) : List Cond := .code y.1 y.2.1 y.2.2.1 y.2.2.2 :: ab_T
/-- A METHOD'S CONTRACT -/
def AM (l : Launch) (g : ab_G) (y : ab_Y) (F Lw mc ms : Nat) (vs : List Value) (M : ab_M) (Q : Option Value → ab_M → Prop) : Prop :=
  Met l y.1 (ab_ws y) { frames := F, cells := mc, slots := ms, locals := Lw } (va_Pc vs (ab_P g M)) (ab_Qc g Q) mc ms (ab_A g)
abbrev ab_X0 : State → Array Value → Prop := fun _ _ => True
theorem AM.of {l : Launch} {g : ab_G} {y : ab_Y} {F Lw mc ms : Nat} {vs : List Value} {M : ab_M} {Q : Option Value → ab_M → Prop} (L : List (Option Value)) (hy : plainName y.1.cls = true) (hn : (lg_sl vs).length ≤ y.2.2.1) (hL : ab_pr 0 L = lv_args 0 vs)
    (h : AW l g ab_X0 (ab_Z g Q) y F Lw mc ms 0 L [] M) : AM l g y F Lw mc ms vs M Q := by
  refine Met.ofW (cc := y.2.1) (maxL := y.2.2.1) (ret := y.2.2.2) hy rfl ?_
  intro p e s m args below meth c s₁ B hml hv
  obtain ⟨rfl, hE, hB, hR⟩ := hv
  have hts := atoms_spec (ws := ab_ws y) B.pre
  have hown : s.vm.findClass y.1.cls = some m.cls := findClass_of_methodNamed B.named
  have hl := lv_entry vs (n := y.2.2.1) hn
  rw [lg_entry_eq]
  refine h p e _ s m _ below meth c s.heap [] 0 0 _ ⟨B.exec, B.bytes, hml, hown, fun w hw => hts w (List.mem_cons_of_mem _ hw), B.notSynchronized, B.returns, (name_of_methodNamed B.named B.method).1, trivial, Nat.le_refl _, Nat.le_refl _, hE, hB⟩ ?_ ?_ va_S.rf hR ?_
  · show 0 + mc ≤ mc
    omega
  · show 0 + ms ≤ ms
    omega
  · show lv_has _ _ (ab_pr 0 L)
    rw [hL]
    exact hl
section AB
variable {l : Launch} {g : ab_G} {X : State → Array Value → Prop} {Z : List Frame → Array Value → State → Room → State → Prop} {y : ab_Y} {F Lw kc ks : Nat} {pc : Nat} {L : List (Option Value)} {st : List Value} {M : ab_M}
theorem AW.use {kc' ks' : Nat} (h1 : kc' ≤ kc) (h2 : ks' ≤ ks) (k : AW l g X Z y F Lw kc' ks' pc L st M) : AW l g X Z y F Lw kc ks pc L st M :=
  fun p e R s m args below meth c H locs cells slots ls C c1 c2 hS hR hl => k p e R s m args below meth c H locs cells slots ls C (by omega) (by omega) hS hR hl
theorem AW.eq {L' : List (Option Value)} {st' : List Value} (h1 : L = L') (h2 : st = st') (k : AW l g X Z y F Lw kc ks pc L' st' M) : AW l g X Z y F Lw kc ks pc L st M := by
  subst h1; subst h2; exact k

theorem aw_iconst {n : Int} {v : Int32} (hd : decode y.2.1 pc = .ok (.iconst n, 1)) (hv : Int32.ofInt n = v) (k : AW l g X Z y F Lw kc ks (pc + 1) L (.int v :: st) M) : AW l g X Z y F Lw kc ks pc L (st) M :=
  fun p e R s m args below meth c H locs cells slots ls C c1 c2 hS hR hl => lv_iconst C.1 C.2.1 hd hv (k p e R s m args below meth c H locs cells slots ls C c1 c2 hS hR hl)
theorem aw_bipush {n : Int} {v : Int32} (hd : decode y.2.1 pc = .ok (.bipush n, 2)) (hv : (Int8.ofInt n).toInt32 = v) (k : AW l g X Z y F Lw kc ks (pc + 2) L (.int v :: st) M) : AW l g X Z y F Lw kc ks pc L (st) M :=
  fun p e R s m args below meth c H locs cells slots ls C c1 c2 hS hR hl => lv_bipush C.1 C.2.1 hd hv (k p e R s m args below meth c H locs cells slots ls C c1 c2 hS hR hl)
theorem aw_sipush {n : Int} {v : Int32} (hd : decode y.2.1 pc = .ok (.sipush n, 3)) (hv : (Int16.ofInt n).toInt32 = v) (k : AW l g X Z y F Lw kc ks (pc + 3) L (.int v :: st) M) : AW l g X Z y F Lw kc ks pc L (st) M :=
  fun p e R s m args below meth c H locs cells slots ls C c1 c2 hS hR hl => lv_sipush C.1 C.2.1 hd hv (k p e R s m args below meth c H locs cells slots ls C c1 c2 hS hR hl)
theorem aw_lconst {n : Fin 2} {v : Int64} (hd : decode y.2.1 pc = .ok (.lconst n, 1)) (hv : Int64.ofNat (n : Nat) = v) (k : AW l g X Z y F Lw kc ks (pc + 1) L (.long v :: st) M) : AW l g X Z y F Lw kc ks pc L (st) M :=
  fun p e R s m args below meth c H locs cells slots ls C c1 c2 hS hR hl => lv_lconst C.1 C.2.1 hd hv (k p e R s m args below meth c H locs cells slots ls C c1 c2 hS hR hl)
theorem aw_null (hd : decode y.2.1 pc = .ok (.aconst_null, 1)) (k : AW l g X Z y F Lw kc ks (pc + 1) L (.null :: st) M) : AW l g X Z y F Lw kc ks pc L (st) M :=
  fun p e R s m args below meth c H locs cells slots ls C c1 c2 hS hR hl => lv_null C.1 C.2.1 hd (k p e R s m args below meth c H locs cells slots ls C c1 c2 hS hR hl)
theorem aw_iload_n {i : Fin 4} {x : Int32} (hd : decode y.2.1 pc = .ok (.iload_n i, 1)) (hi : L[(i : Nat)]? = some (some (.int x))) (k : AW l g X Z y F Lw kc ks (pc + 1) L (.int x :: st) M) : AW l g X Z y F Lw kc ks pc L (st) M :=
  fun p e R s m args below meth c H locs cells slots ls C c1 c2 hS hR hl => lv_iload_n C.1 C.2.1 hd rfl (ab_L_at hl hi) (k p e R s m args below meth c H locs cells slots ls C c1 c2 hS hR hl)
theorem aw_iload {i : Nat} {x : Int32} (hd : decode y.2.1 pc = .ok (.iload i, 2)) (hi : L[i]? = some (some (.int x))) (k : AW l g X Z y F Lw kc ks (pc + 2) L (.int x :: st) M) : AW l g X Z y F Lw kc ks pc L (st) M :=
  fun p e R s m args below meth c H locs cells slots ls C c1 c2 hS hR hl => lv_iload C.1 C.2.1 hd (ab_L_at hl hi) (k p e R s m args below meth c H locs cells slots ls C c1 c2 hS hR hl)
theorem aw_lload_n {i : Fin 4} {x : Int64} (hd : decode y.2.1 pc = .ok (.lload_n i, 1)) (hi : L[(i : Nat)]? = some (some (.long x))) (k : AW l g X Z y F Lw kc ks (pc + 1) L (.long x :: st) M) : AW l g X Z y F Lw kc ks pc L (st) M :=
  fun p e R s m args below meth c H locs cells slots ls C c1 c2 hS hR hl => lv_lload_n C.1 C.2.1 hd rfl (ab_L_at hl hi) (k p e R s m args below meth c H locs cells slots ls C c1 c2 hS hR hl)
theorem aw_lload {i : Nat} {x : Int64} (hd : decode y.2.1 pc = .ok (.lload i, 2)) (hi : L[i]? = some (some (.long x))) (k : AW l g X Z y F Lw kc ks (pc + 2) L (.long x :: st) M) : AW l g X Z y F Lw kc ks pc L (st) M :=
  fun p e R s m args below meth c H locs cells slots ls C c1 c2 hS hR hl => lv_lload C.1 C.2.1 hd (ab_L_at hl hi) (k p e R s m args below meth c H locs cells slots ls C c1 c2 hS hR hl)
theorem aw_aload_n {i : Fin 4} {x : Nat} (hd : decode y.2.1 pc = .ok (.aload_n i, 1)) (hi : L[(i : Nat)]? = some (some (.ref x))) (k : AW l g X Z y F Lw kc ks (pc + 1) L (.ref x :: st) M) : AW l g X Z y F Lw kc ks pc L (st) M :=
  fun p e R s m args below meth c H locs cells slots ls C c1 c2 hS hR hl => lv_aload_n C.1 C.2.1 hd rfl (ab_L_at hl hi) (k p e R s m args below meth c H locs cells slots ls C c1 c2 hS hR hl)
theorem aw_aload {i : Nat} {x : Nat} (hd : decode y.2.1 pc = .ok (.aload i, 2)) (hi : L[i]? = some (some (.ref x))) (k : AW l g X Z y F Lw kc ks (pc + 2) L (.ref x :: st) M) : AW l g X Z y F Lw kc ks pc L (st) M :=
  fun p e R s m args below meth c H locs cells slots ls C c1 c2 hS hR hl => lv_aload C.1 C.2.1 hd (ab_L_at hl hi) (k p e R s m args below meth c H locs cells slots ls C c1 c2 hS hR hl)
theorem aw_aload_nN {i : Fin 4} (hd : decode y.2.1 pc = .ok (.aload_n i, 1)) (hi : L[(i : Nat)]? = some (some .null)) (k : AW l g X Z y F Lw kc ks (pc + 1) L (.null :: st) M) : AW l g X Z y F Lw kc ks pc L (st) M :=
  fun p e R s m args below meth c H locs cells slots ls C c1 c2 hS hR hl => lv_aload_nN C.1 C.2.1 hd rfl (ab_L_at hl hi) (k p e R s m args below meth c H locs cells slots ls C c1 c2 hS hR hl)
theorem aw_aloadN {i : Nat} (hd : decode y.2.1 pc = .ok (.aload i, 2)) (hi : L[i]? = some (some .null)) (k : AW l g X Z y F Lw kc ks (pc + 2) L (.null :: st) M) : AW l g X Z y F Lw kc ks pc L (st) M :=
  fun p e R s m args below meth c H locs cells slots ls C c1 c2 hS hR hl => lv_aloadN C.1 C.2.1 hd (ab_L_at hl hi) (k p e R s m args below meth c H locs cells slots ls C c1 c2 hS hR hl)
theorem aw_istore_n {i : Fin 4} {x : Int32} (hd : decode y.2.1 pc = .ok (.istore_n i, 1)) (hk : ab_ok1 L (i : Nat) = true) (hn : (i : Nat) < y.2.2.1) (k : AW l g X Z y F Lw kc ks (pc + 1) (L.set (i : Nat) (some (.int x))) st M) : AW l g X Z y F Lw kc ks pc L (.int x :: st) M :=
  fun p e R s m args below meth c H locs cells slots ls C c1 c2 hS hR hl => lv_istore_n C.1 C.2.1 hd rfl hl hn rfl (fun ls' hl' => k p e R s m args below meth c H locs cells slots ls' C c1 c2 hS hR (ab_L_pairs hk hl'))
theorem aw_istore {i : Nat} {x : Int32} (hd : decode y.2.1 pc = .ok (.istore i, 2)) (hk : ab_ok1 L i = true) (hn : i < y.2.2.1) (k : AW l g X Z y F Lw kc ks (pc + 2) (L.set i (some (.int x))) st M) : AW l g X Z y F Lw kc ks pc L (.int x :: st) M :=
  fun p e R s m args below meth c H locs cells slots ls C c1 c2 hS hR hl => lv_istore C.1 C.2.1 hd hl hn rfl (fun ls' hl' => k p e R s m args below meth c H locs cells slots ls' C c1 c2 hS hR (ab_L_pairs hk hl'))
theorem aw_astore_n {i : Fin 4} {x : Nat} (hd : decode y.2.1 pc = .ok (.astore_n i, 1)) (hk : ab_ok1 L (i : Nat) = true) (hn : (i : Nat) < y.2.2.1) (k : AW l g X Z y F Lw kc ks (pc + 1) (L.set (i : Nat) (some (.ref x))) st M) : AW l g X Z y F Lw kc ks pc L (.ref x :: st) M :=
  fun p e R s m args below meth c H locs cells slots ls C c1 c2 hS hR hl => lv_astore_n C.1 C.2.1 hd rfl hl hn rfl (fun ls' hl' => k p e R s m args below meth c H locs cells slots ls' C c1 c2 hS hR (ab_L_pairs hk hl'))
theorem aw_astore {i : Nat} {x : Nat} (hd : decode y.2.1 pc = .ok (.astore i, 2)) (hk : ab_ok1 L i = true) (hn : i < y.2.2.1) (k : AW l g X Z y F Lw kc ks (pc + 2) (L.set i (some (.ref x))) st M) : AW l g X Z y F Lw kc ks pc L (.ref x :: st) M :=
  fun p e R s m args below meth c H locs cells slots ls C c1 c2 hS hR hl => lv_astore C.1 C.2.1 hd hl hn rfl (fun ls' hl' => k p e R s m args below meth c H locs cells slots ls' C c1 c2 hS hR (ab_L_pairs hk hl'))
theorem aw_astore_nN {i : Fin 4} (hd : decode y.2.1 pc = .ok (.astore_n i, 1)) (hk : ab_ok1 L (i : Nat) = true) (hn : (i : Nat) < y.2.2.1) (k : AW l g X Z y F Lw kc ks (pc + 1) (L.set (i : Nat) (some (.null))) st M) : AW l g X Z y F Lw kc ks pc L (.null :: st) M :=
  fun p e R s m args below meth c H locs cells slots ls C c1 c2 hS hR hl => lv_astore_nN C.1 C.2.1 hd rfl hl hn rfl (fun ls' hl' => k p e R s m args below meth c H locs cells slots ls' C c1 c2 hS hR (ab_L_pairs hk hl'))
theorem aw_astoreN {i : Nat} (hd : decode y.2.1 pc = .ok (.astore i, 2)) (hk : ab_ok1 L i = true) (hn : i < y.2.2.1) (k : AW l g X Z y F Lw kc ks (pc + 2) (L.set i (some (.null))) st M) : AW l g X Z y F Lw kc ks pc L (.null :: st) M :=
  fun p e R s m args below meth c H locs cells slots ls C c1 c2 hS hR hl => lv_astoreN C.1 C.2.1 hd hl hn rfl (fun ls' hl' => k p e R s m args below meth c H locs cells slots ls' C c1 c2 hS hR (ab_L_pairs hk hl'))
theorem aw_iinc {i : Nat} {n : Int} {x v : Int32} (hd : decode y.2.1 pc = .ok (.iinc i n, 3)) (hi : L[i]? = some (some (.int x))) (hv : x + Int32.ofInt n = v) (hk : ab_ok1 L i = true) (hn : i < y.2.2.1) (k : AW l g X Z y F Lw kc ks (pc + 3) (L.set i (some (.int v))) st M) : AW l g X Z y F Lw kc ks pc L st M := by
  intro p e R s m args below meth c H locs cells slots ls C c1 c2 hS hR hl
  obtain ⟨kk, hkk⟩ := List.getElem?_of_mem ((ab_pr_mem L 0 i (.int x)).mpr ⟨Nat.zero_le _, hi⟩)
  exact lv_iinc C.1 C.2.1 hd hl hkk hv hn rfl (fun ls' hl' => k p e R s m args below meth c H locs cells slots ls' C c1 c2 hS hR (ab_L_pairs hk hl'))
theorem aw_iadd {a b : Int32} (hd : decode y.2.1 pc = .ok (.iadd, 1)) (k : AW l g X Z y F Lw kc ks (pc + 1) L (.int (a + b) :: st) M) : AW l g X Z y F Lw kc ks pc L (.int b :: .int a :: st) M :=
  fun p e R s m args below meth c H locs cells slots ls C c1 c2 hS hR hl => lv_iadd C.1 C.2.1 hd (k p e R s m args below meth c H locs cells slots ls C c1 c2 hS hR hl)
theorem aw_isub {a b : Int32} (hd : decode y.2.1 pc = .ok (.isub, 1)) (k : AW l g X Z y F Lw kc ks (pc + 1) L (.int (a - b) :: st) M) : AW l g X Z y F Lw kc ks pc L (.int b :: .int a :: st) M :=
  fun p e R s m args below meth c H locs cells slots ls C c1 c2 hS hR hl => lv_isub C.1 C.2.1 hd (k p e R s m args below meth c H locs cells slots ls C c1 c2 hS hR hl)
theorem aw_imul {a b : Int32} (hd : decode y.2.1 pc = .ok (.imul, 1)) (k : AW l g X Z y F Lw kc ks (pc + 1) L (.int (a * b) :: st) M) : AW l g X Z y F Lw kc ks pc L (.int b :: .int a :: st) M :=
  fun p e R s m args below meth c H locs cells slots ls C c1 c2 hS hR hl => lv_imul C.1 C.2.1 hd (k p e R s m args below meth c H locs cells slots ls C c1 c2 hS hR hl)
theorem aw_iand {a b : Int32} (hd : decode y.2.1 pc = .ok (.iand, 1)) (k : AW l g X Z y F Lw kc ks (pc + 1) L (.int (a &&& b) :: st) M) : AW l g X Z y F Lw kc ks pc L (.int b :: .int a :: st) M :=
  fun p e R s m args below meth c H locs cells slots ls C c1 c2 hS hR hl => lv_iand C.1 C.2.1 hd (k p e R s m args below meth c H locs cells slots ls C c1 c2 hS hR hl)
theorem aw_ior {a b : Int32} (hd : decode y.2.1 pc = .ok (.ior, 1)) (k : AW l g X Z y F Lw kc ks (pc + 1) L (.int (a ||| b) :: st) M) : AW l g X Z y F Lw kc ks pc L (.int b :: .int a :: st) M :=
  fun p e R s m args below meth c H locs cells slots ls C c1 c2 hS hR hl => lv_ior C.1 C.2.1 hd (k p e R s m args below meth c H locs cells slots ls C c1 c2 hS hR hl)
theorem aw_ixor {a b : Int32} (hd : decode y.2.1 pc = .ok (.ixor, 1)) (k : AW l g X Z y F Lw kc ks (pc + 1) L (.int (a ^^^ b) :: st) M) : AW l g X Z y F Lw kc ks pc L (.int b :: .int a :: st) M :=
  fun p e R s m args below meth c H locs cells slots ls C c1 c2 hS hR hl => lv_ixor C.1 C.2.1 hd (k p e R s m args below meth c H locs cells slots ls C c1 c2 hS hR hl)
theorem aw_ishl {a b : Int32} (hd : decode y.2.1 pc = .ok (.ishl, 1)) (k : AW l g X Z y F Lw kc ks (pc + 1) L (.int (a <<< (b &&& 31)) :: st) M) : AW l g X Z y F Lw kc ks pc L (.int b :: .int a :: st) M :=
  fun p e R s m args below meth c H locs cells slots ls C c1 c2 hS hR hl => lv_ishl C.1 C.2.1 hd (k p e R s m args below meth c H locs cells slots ls C c1 c2 hS hR hl)
theorem aw_ishr {a b : Int32} (hd : decode y.2.1 pc = .ok (.ishr, 1)) (k : AW l g X Z y F Lw kc ks (pc + 1) L (.int (a >>> (b &&& 31)) :: st) M) : AW l g X Z y F Lw kc ks pc L (.int b :: .int a :: st) M :=
  fun p e R s m args below meth c H locs cells slots ls C c1 c2 hS hR hl => lv_ishr C.1 C.2.1 hd (k p e R s m args below meth c H locs cells slots ls C c1 c2 hS hR hl)
theorem aw_iushr {a b : Int32} (hd : decode y.2.1 pc = .ok (.iushr, 1)) (k : AW l g X Z y F Lw kc ks (pc + 1) L (.int ((a.toUInt32 >>> (b.toUInt32 &&& Int32.toUInt32 31)).toInt32) :: st) M) : AW l g X Z y F Lw kc ks pc L (.int b :: .int a :: st) M :=
  fun p e R s m args below meth c H locs cells slots ls C c1 c2 hS hR hl => lv_iushr C.1 C.2.1 hd rfl (k p e R s m args below meth c H locs cells slots ls C c1 c2 hS hR hl)
theorem aw_idiv {a b : Int32} (hd : decode y.2.1 pc = .ok (.idiv, 1)) (hne : ¬ b = 0) (k : AW l g X Z y F Lw kc ks (pc + 1) L (.int (a / b) :: st) M) : AW l g X Z y F Lw kc ks pc L (.int b :: .int a :: st) M :=
  fun p e R s m args below meth c H locs cells slots ls C c1 c2 hS hR hl => lv_idiv C.1 C.2.1 hd hne (k p e R s m args below meth c H locs cells slots ls C c1 c2 hS hR hl)
theorem aw_irem {a b : Int32} (hd : decode y.2.1 pc = .ok (.irem, 1)) (hne : ¬ b = 0) (k : AW l g X Z y F Lw kc ks (pc + 1) L (.int (a - a / b * b) :: st) M) : AW l g X Z y F Lw kc ks pc L (.int b :: .int a :: st) M :=
  fun p e R s m args below meth c H locs cells slots ls C c1 c2 hS hR hl => lv_irem C.1 C.2.1 hd hne (k p e R s m args below meth c H locs cells slots ls C c1 c2 hS hR hl)
theorem aw_ladd {a b : Int64} (hd : decode y.2.1 pc = .ok (.ladd, 1)) (k : AW l g X Z y F Lw kc ks (pc + 1) L (.long (a + b) :: st) M) : AW l g X Z y F Lw kc ks pc L (.long b :: .long a :: st) M :=
  fun p e R s m args below meth c H locs cells slots ls C c1 c2 hS hR hl => lv_ladd C.1 C.2.1 hd (k p e R s m args below meth c H locs cells slots ls C c1 c2 hS hR hl)
theorem aw_land {a b : Int64} (hd : decode y.2.1 pc = .ok (.land, 1)) (k : AW l g X Z y F Lw kc ks (pc + 1) L (.long (a &&& b) :: st) M) : AW l g X Z y F Lw kc ks pc L (.long b :: .long a :: st) M :=
  fun p e R s m args below meth c H locs cells slots ls C c1 c2 hS hR hl => lv_land C.1 C.2.1 hd (k p e R s m args below meth c H locs cells slots ls C c1 c2 hS hR hl)
theorem aw_lor {a b : Int64} (hd : decode y.2.1 pc = .ok (.lor, 1)) (k : AW l g X Z y F Lw kc ks (pc + 1) L (.long (a ||| b) :: st) M) : AW l g X Z y F Lw kc ks pc L (.long b :: .long a :: st) M :=
  fun p e R s m args below meth c H locs cells slots ls C c1 c2 hS hR hl => lv_lor C.1 C.2.1 hd (k p e R s m args below meth c H locs cells slots ls C c1 c2 hS hR hl)
theorem aw_i2l {a : Int32} (hd : decode y.2.1 pc = .ok (.i2l, 1)) (k : AW l g X Z y F Lw kc ks (pc + 1) L (.long a.toInt64 :: st) M) : AW l g X Z y F Lw kc ks pc L (.int a :: st) M :=
  fun p e R s m args below meth c H locs cells slots ls C c1 c2 hS hR hl => lv_i2l C.1 C.2.1 hd rfl (k p e R s m args below meth c H locs cells slots ls C c1 c2 hS hR hl)
theorem aw_l2i {a : Int64} (hd : decode y.2.1 pc = .ok (.l2i, 1)) (k : AW l g X Z y F Lw kc ks (pc + 1) L (.int a.toInt32 :: st) M) : AW l g X Z y F Lw kc ks pc L (.long a :: st) M :=
  fun p e R s m args below meth c H locs cells slots ls C c1 c2 hS hR hl => lv_l2i C.1 C.2.1 hd rfl (k p e R s m args below meth c H locs cells slots ls C c1 c2 hS hR hl)
theorem aw_lushr {a : Int64} {b : Int32} (hd : decode y.2.1 pc = .ok (.lushr, 1)) (k : AW l g X Z y F Lw kc ks (pc + 1) L (.long ((a.toUInt64 >>> (b.toInt64.toUInt64 &&& Int64.toUInt64 63)).toInt64) :: st) M) : AW l g X Z y F Lw kc ks pc L (.int b :: .long a :: st) M :=
  fun p e R s m args below meth c H locs cells slots ls C c1 c2 hS hR hl => lv_lushr C.1 C.2.1 hd rfl (k p e R s m args below meth c H locs cells slots ls C c1 c2 hS hR hl)
theorem aw_lshl {a : Int64} {b : Int32} (hd : decode y.2.1 pc = .ok (.lshl, 1)) (k : AW l g X Z y F Lw kc ks (pc + 1) L (.long (a <<< (b.toInt64 &&& 63)) :: st) M) : AW l g X Z y F Lw kc ks pc L (.int b :: .long a :: st) M :=
  fun p e R s m args below meth c H locs cells slots ls C c1 c2 hS hR hl => lv_lshl C.1 C.2.1 hd rfl (k p e R s m args below meth c H locs cells slots ls C c1 c2 hS hR hl)
theorem aw_lshr {a : Int64} {b : Int32} (hd : decode y.2.1 pc = .ok (.lshr, 1)) (k : AW l g X Z y F Lw kc ks (pc + 1) L (.long (a >>> (b.toInt64 &&& 63)) :: st) M) : AW l g X Z y F Lw kc ks pc L (.int b :: .long a :: st) M :=
  fun p e R s m args below meth c H locs cells slots ls C c1 c2 hS hR hl => lv_lshr C.1 C.2.1 hd rfl (k p e R s m args below meth c H locs cells slots ls C c1 c2 hS hR hl)
theorem aw_lcmp {a b : Int64} (hd : decode y.2.1 pc = .ok (.lcmp, 1)) (k : AW l g X Z y F Lw kc ks (pc + 1) L (.int (lg_cmp a b) :: st) M) : AW l g X Z y F Lw kc ks pc L (.long b :: .long a :: st) M :=
  fun p e R s m args below meth c H locs cells slots ls C c1 c2 hS hR hl => W.lcmp C.1 C.2.1 hd (k p e R s m args below meth c H locs cells slots ls C c1 c2 hS hR hl)
theorem aw_dup {va : Value} (hd : decode y.2.1 pc = .ok (.dup, 1)) (h1 : va.category = 1) (k : AW l g X Z y F Lw kc ks (pc + 1) L (va :: va :: st) M) : AW l g X Z y F Lw kc ks pc L (va :: st) M :=
  fun p e R s m args below meth c H locs cells slots ls C c1 c2 hS hR hl => lv_dup C.1 C.2.1 hd h1 (k p e R s m args below meth c H locs cells slots ls C c1 c2 hS hR hl)
theorem aw_pop {va : Value} (hd : decode y.2.1 pc = .ok (.pop, 1)) (h1 : va.category = 1) (k : AW l g X Z y F Lw kc ks (pc + 1) L (st) M) : AW l g X Z y F Lw kc ks pc L (va :: st) M :=
  fun p e R s m args below meth c H locs cells slots ls C c1 c2 hS hR hl => lv_pop C.1 C.2.1 hd h1 (k p e R s m args below meth c H locs cells slots ls C c1 c2 hS hR hl)
theorem aw_dup_x1 {va vb : Value} (hd : decode y.2.1 pc = .ok (.dup_x1, 1)) (h1 : va.category = 1) (h2 : vb.category = 1) (k : AW l g X Z y F Lw kc ks (pc + 1) L (va :: vb :: va :: st) M) : AW l g X Z y F Lw kc ks pc L (va :: vb :: st) M :=
  fun p e R s m args below meth c H locs cells slots ls C c1 c2 hS hR hl => lv_dup_x1 C.1 C.2.1 hd h1 h2 (k p e R s m args below meth c H locs cells slots ls C c1 c2 hS hR hl)
theorem aw_dup2 {va vb : Value} (hd : decode y.2.1 pc = .ok (.dup2, 1)) (h1 : va.category = 1) (h2 : vb.category = 1) (k : AW l g X Z y F Lw kc ks (pc + 1) L (va :: vb :: va :: vb :: st) M) : AW l g X Z y F Lw kc ks pc L (va :: vb :: st) M :=
  fun p e R s m args below meth c H locs cells slots ls C c1 c2 hS hR hl => lv_dup2_11 C.1 C.2.1 hd h1 h2 (k p e R s m args below meth c H locs cells slots ls C c1 c2 hS hR hl)
theorem aw_ldc {i : Nat} {v : Int32} (hd : decode y.2.1 pc = .ok (.ldc i, 2)) (hw : Jvm.Cond.constant y.1.cls i v ∈ ab_T) (k : AW l g X Z y F Lw kc ks (pc + 2) L (.int v :: st) M) : AW l g X Z y F Lw kc ks pc L (st) M :=
  fun p e R s m args below meth c H locs cells slots ls C c1 c2 hS hR hl => lv_ldc C.1 C.2.1 C.2.2.2.1 (C.2.2.2.2.1 _ hw) hd (k p e R s m args below meth c H locs cells slots ls C c1 c2 hS hR hl)
theorem aw_ldcw {i : Nat} {v : Int32} (hd : decode y.2.1 pc = .ok (.ldc_w i, 3)) (hw : Jvm.Cond.constant y.1.cls i v ∈ ab_T) (k : AW l g X Z y F Lw kc ks (pc + 3) L (.int v :: st) M) : AW l g X Z y F Lw kc ks pc L (st) M :=
  fun p e R s m args below meth c H locs cells slots ls C c1 c2 hS hR hl => lv_ldcw C.1 C.2.1 C.2.2.2.1 (C.2.2.2.2.1 _ hw) hd (k p e R s m args below meth c H locs cells slots ls C c1 c2 hS hR hl)
theorem aw_ldc2 {i : Nat} {v : Int64} (hd : decode y.2.1 pc = .ok (.ldc2_w i, 3)) (hw : Jvm.Cond.constantLong y.1.cls i v ∈ ab_T) (k : AW l g X Z y F Lw kc ks (pc + 3) L (.long v :: st) M) : AW l g X Z y F Lw kc ks pc L (st) M :=
  fun p e R s m args below meth c H locs cells slots ls C c1 c2 hS hR hl => lv_ldc2 C.1 C.2.1 C.2.2.2.1 (C.2.2.2.2.1 _ hw) hd (k p e R s m args below meth c H locs cells slots ls C c1 c2 hS hR hl)
theorem aw_castN {i : Nat} (hd : decode y.2.1 pc = .ok (.checkcast i, 3)) (k : AW l g X Z y F Lw kc ks (pc + 3) L (.null :: st) M) : AW l g X Z y F Lw kc ks pc L (.null :: st) M :=
  fun p e R s m args below meth c H locs cells slots ls C c1 c2 hS hR hl => lv_castN C.1 C.2.1 hd (k p e R s m args below meth c H locs cells slots ls C c1 c2 hS hR hl)
theorem aw_if_eq {x : Int32} {off : Int} {tgt : Nat} (hd : decode y.2.1 pc = .ok (.ifCond .eq off, 3)) (ht : (pc : Int) + off = (tgt : Int)) (kt : x = 0 → AW l g X Z y F Lw kc ks tgt L st M) (kf : ¬ x = 0 → AW l g X Z y F Lw kc ks (pc + 3) L st M) : AW l g X Z y F Lw kc ks pc L (.int x :: st) M :=
  fun p e R s m args below meth c H locs cells slots ls C c1 c2 hS hR hl => lv_if_eq C.1 C.2.1 hd ht (fun h => kt h p e R s m args below meth c H locs cells slots ls C c1 c2 hS hR hl) (fun h => kf h p e R s m args below meth c H locs cells slots ls C c1 c2 hS hR hl)
theorem aw_if_ne {x : Int32} {off : Int} {tgt : Nat} (hd : decode y.2.1 pc = .ok (.ifCond .ne off, 3)) (ht : (pc : Int) + off = (tgt : Int)) (kt : ¬ x = 0 → AW l g X Z y F Lw kc ks tgt L st M) (kf : x = 0 → AW l g X Z y F Lw kc ks (pc + 3) L st M) : AW l g X Z y F Lw kc ks pc L (.int x :: st) M :=
  fun p e R s m args below meth c H locs cells slots ls C c1 c2 hS hR hl => lv_if_ne C.1 C.2.1 hd ht (fun h => kt h p e R s m args below meth c H locs cells slots ls C c1 c2 hS hR hl) (fun h => kf h p e R s m args below meth c H locs cells slots ls C c1 c2 hS hR hl)
theorem aw_if_lt {x : Int32} {off : Int} {tgt : Nat} (hd : decode y.2.1 pc = .ok (.ifCond .lt off, 3)) (ht : (pc : Int) + off = (tgt : Int)) (kt : x < 0 → AW l g X Z y F Lw kc ks tgt L st M) (kf : ¬ x < 0 → AW l g X Z y F Lw kc ks (pc + 3) L st M) : AW l g X Z y F Lw kc ks pc L (.int x :: st) M :=
  fun p e R s m args below meth c H locs cells slots ls C c1 c2 hS hR hl => lv_if_lt C.1 C.2.1 hd ht (fun h => kt h p e R s m args below meth c H locs cells slots ls C c1 c2 hS hR hl) (fun h => kf h p e R s m args below meth c H locs cells slots ls C c1 c2 hS hR hl)
theorem aw_if_ge {x : Int32} {off : Int} {tgt : Nat} (hd : decode y.2.1 pc = .ok (.ifCond .ge off, 3)) (ht : (pc : Int) + off = (tgt : Int)) (kt : 0 ≤ x → AW l g X Z y F Lw kc ks tgt L st M) (kf : ¬ 0 ≤ x → AW l g X Z y F Lw kc ks (pc + 3) L st M) : AW l g X Z y F Lw kc ks pc L (.int x :: st) M :=
  fun p e R s m args below meth c H locs cells slots ls C c1 c2 hS hR hl => lv_if_ge C.1 C.2.1 hd ht (fun h => kt h p e R s m args below meth c H locs cells slots ls C c1 c2 hS hR hl) (fun h => kf h p e R s m args below meth c H locs cells slots ls C c1 c2 hS hR hl)
theorem aw_if_gt {x : Int32} {off : Int} {tgt : Nat} (hd : decode y.2.1 pc = .ok (.ifCond .gt off, 3)) (ht : (pc : Int) + off = (tgt : Int)) (kt : 0 < x → AW l g X Z y F Lw kc ks tgt L st M) (kf : ¬ 0 < x → AW l g X Z y F Lw kc ks (pc + 3) L st M) : AW l g X Z y F Lw kc ks pc L (.int x :: st) M :=
  fun p e R s m args below meth c H locs cells slots ls C c1 c2 hS hR hl => lv_if_gt C.1 C.2.1 hd ht (fun h => kt h p e R s m args below meth c H locs cells slots ls C c1 c2 hS hR hl) (fun h => kf h p e R s m args below meth c H locs cells slots ls C c1 c2 hS hR hl)
theorem aw_if_le {x : Int32} {off : Int} {tgt : Nat} (hd : decode y.2.1 pc = .ok (.ifCond .le off, 3)) (ht : (pc : Int) + off = (tgt : Int)) (kt : x ≤ 0 → AW l g X Z y F Lw kc ks tgt L st M) (kf : ¬ x ≤ 0 → AW l g X Z y F Lw kc ks (pc + 3) L st M) : AW l g X Z y F Lw kc ks pc L (.int x :: st) M :=
  fun p e R s m args below meth c H locs cells slots ls C c1 c2 hS hR hl => lv_if_le C.1 C.2.1 hd ht (fun h => kt h p e R s m args below meth c H locs cells slots ls C c1 c2 hS hR hl) (fun h => kf h p e R s m args below meth c H locs cells slots ls C c1 c2 hS hR hl)
theorem aw_icmp_eq {x z : Int32} {off : Int} {tgt : Nat} (hd : decode y.2.1 pc = .ok (.if_icmp .eq off, 3)) (ht : (pc : Int) + off = (tgt : Int)) (kt : x = z → AW l g X Z y F Lw kc ks tgt L st M) (kf : ¬ x = z → AW l g X Z y F Lw kc ks (pc + 3) L st M) : AW l g X Z y F Lw kc ks pc L (.int z :: .int x :: st) M :=
  fun p e R s m args below meth c H locs cells slots ls C c1 c2 hS hR hl => lv_icmp_eq C.1 C.2.1 hd ht (fun h => kt h p e R s m args below meth c H locs cells slots ls C c1 c2 hS hR hl) (fun h => kf h p e R s m args below meth c H locs cells slots ls C c1 c2 hS hR hl)
theorem aw_icmp_ne {x z : Int32} {off : Int} {tgt : Nat} (hd : decode y.2.1 pc = .ok (.if_icmp .ne off, 3)) (ht : (pc : Int) + off = (tgt : Int)) (kt : ¬ x = z → AW l g X Z y F Lw kc ks tgt L st M) (kf : x = z → AW l g X Z y F Lw kc ks (pc + 3) L st M) : AW l g X Z y F Lw kc ks pc L (.int z :: .int x :: st) M :=
  fun p e R s m args below meth c H locs cells slots ls C c1 c2 hS hR hl => lv_icmp_ne C.1 C.2.1 hd ht (fun h => kt h p e R s m args below meth c H locs cells slots ls C c1 c2 hS hR hl) (fun h => kf h p e R s m args below meth c H locs cells slots ls C c1 c2 hS hR hl)
theorem aw_icmp_lt {x z : Int32} {off : Int} {tgt : Nat} (hd : decode y.2.1 pc = .ok (.if_icmp .lt off, 3)) (ht : (pc : Int) + off = (tgt : Int)) (kt : x < z → AW l g X Z y F Lw kc ks tgt L st M) (kf : ¬ x < z → AW l g X Z y F Lw kc ks (pc + 3) L st M) : AW l g X Z y F Lw kc ks pc L (.int z :: .int x :: st) M :=
  fun p e R s m args below meth c H locs cells slots ls C c1 c2 hS hR hl => lv_icmp_lt C.1 C.2.1 hd ht (fun h => kt h p e R s m args below meth c H locs cells slots ls C c1 c2 hS hR hl) (fun h => kf h p e R s m args below meth c H locs cells slots ls C c1 c2 hS hR hl)
theorem aw_icmp_ge {x z : Int32} {off : Int} {tgt : Nat} (hd : decode y.2.1 pc = .ok (.if_icmp .ge off, 3)) (ht : (pc : Int) + off = (tgt : Int)) (kt : z ≤ x → AW l g X Z y F Lw kc ks tgt L st M) (kf : ¬ z ≤ x → AW l g X Z y F Lw kc ks (pc + 3) L st M) : AW l g X Z y F Lw kc ks pc L (.int z :: .int x :: st) M :=
  fun p e R s m args below meth c H locs cells slots ls C c1 c2 hS hR hl => lv_icmp_ge C.1 C.2.1 hd ht (fun h => kt h p e R s m args below meth c H locs cells slots ls C c1 c2 hS hR hl) (fun h => kf h p e R s m args below meth c H locs cells slots ls C c1 c2 hS hR hl)
theorem aw_icmp_gt {x z : Int32} {off : Int} {tgt : Nat} (hd : decode y.2.1 pc = .ok (.if_icmp .gt off, 3)) (ht : (pc : Int) + off = (tgt : Int)) (kt : z < x → AW l g X Z y F Lw kc ks tgt L st M) (kf : ¬ z < x → AW l g X Z y F Lw kc ks (pc + 3) L st M) : AW l g X Z y F Lw kc ks pc L (.int z :: .int x :: st) M :=
  fun p e R s m args below meth c H locs cells slots ls C c1 c2 hS hR hl => lv_icmp_gt C.1 C.2.1 hd ht (fun h => kt h p e R s m args below meth c H locs cells slots ls C c1 c2 hS hR hl) (fun h => kf h p e R s m args below meth c H locs cells slots ls C c1 c2 hS hR hl)
theorem aw_icmp_le {x z : Int32} {off : Int} {tgt : Nat} (hd : decode y.2.1 pc = .ok (.if_icmp .le off, 3)) (ht : (pc : Int) + off = (tgt : Int)) (kt : x ≤ z → AW l g X Z y F Lw kc ks tgt L st M) (kf : ¬ x ≤ z → AW l g X Z y F Lw kc ks (pc + 3) L st M) : AW l g X Z y F Lw kc ks pc L (.int z :: .int x :: st) M :=
  fun p e R s m args below meth c H locs cells slots ls C c1 c2 hS hR hl => lv_icmp_le C.1 C.2.1 hd ht (fun h => kt h p e R s m args below meth c H locs cells slots ls C c1 c2 hS hR hl) (fun h => kf h p e R s m args below meth c H locs cells slots ls C c1 c2 hS hR hl)
theorem aw_goto {off : Int} {tgt : Nat} (hd : decode y.2.1 pc = .ok (.goto off, 3)) (ht : (pc : Int) + off = (tgt : Int)) (k : AW l g X Z y F Lw kc ks tgt L st M) : AW l g X Z y F Lw kc ks pc L st M :=
  fun p e R s m args below meth c H locs cells slots ls C c1 c2 hS hR hl => lv_goto C.1 C.2.1 hd ht (k p e R s m args below meth c H locs cells slots ls C c1 c2 hS hR hl)
theorem aw_ifnonnull {x : Nat} {off : Int} {tgt : Nat} (hd : decode y.2.1 pc = .ok (.ifnonnull off, 3)) (ht : (pc : Int) + off = (tgt : Int)) (k : AW l g X Z y F Lw kc ks tgt L st M) : AW l g X Z y F Lw kc ks pc L (.ref x :: st) M :=
  fun p e R s m args below meth c H locs cells slots ls C c1 c2 hS hR hl => lv_ifnonnull C.1 C.2.1 hd ht (k p e R s m args below meth c H locs cells slots ls C c1 c2 hS hR hl)
theorem aw_ifnull {x : Nat} {off : Int} (hd : decode y.2.1 pc = .ok (.ifnull off, 3)) (k : AW l g X Z y F Lw kc ks (pc + 3) L st M) : AW l g X Z y F Lw kc ks pc L (.ref x :: st) M :=
  fun p e R s m args below meth c H locs cells slots ls C c1 c2 hS hR hl => lv_ifnull C.1 C.2.1 hd (k p e R s m args below meth c H locs cells slots ls C c1 c2 hS hR hl)
theorem aw_ifnullN {off : Int} {tgt : Nat} (hd : decode y.2.1 pc = .ok (.ifnull off, 3)) (ht : (pc : Int) + off = (tgt : Int)) (k : AW l g X Z y F Lw kc ks tgt L st M) : AW l g X Z y F Lw kc ks pc L (.null :: st) M :=
  fun p e R s m args below meth c H locs cells slots ls C c1 c2 hS hR hl => lv_ifnullN C.1 C.2.1 hd ht (k p e R s m args below meth c H locs cells slots ls C c1 c2 hS hR hl)
theorem aw_ifnonnullN {off : Int} (hd : decode y.2.1 pc = .ok (.ifnonnull off, 3)) (k : AW l g X Z y F Lw kc ks (pc + 3) L st M) : AW l g X Z y F Lw kc ks pc L (.null :: st) M :=
  fun p e R s m args below meth c H locs cells slots ls C c1 c2 hS hR hl => lv_ifnonnullN C.1 C.2.1 hd (k p e R s m args below meth c H locs cells slots ls C c1 c2 hS hR hl)
theorem aw_acmp_eq {x z : Nat} {off : Int} {tgt : Nat} (hd : decode y.2.1 pc = .ok (.if_acmp .eq off, 3)) (ht : (pc : Int) + off = (tgt : Int)) (kt : x = z → AW l g X Z y F Lw kc ks tgt L st M) (kf : ¬ x = z → AW l g X Z y F Lw kc ks (pc + 3) L st M) : AW l g X Z y F Lw kc ks pc L (.ref z :: .ref x :: st) M :=
  fun p e R s m args below meth c H locs cells slots ls C c1 c2 hS hR hl => lv_acmp_eq (rx := some x) (ry := some z) C.1 C.2.1 hd ht (fun h => kt (Option.some.inj h) p e R s m args below meth c H locs cells slots ls C c1 c2 hS hR hl) (fun h => kf (fun q => h (congrArg some q)) p e R s m args below meth c H locs cells slots ls C c1 c2 hS hR hl)
theorem aw_acmp_ne {x z : Nat} {off : Int} {tgt : Nat} (hd : decode y.2.1 pc = .ok (.if_acmp .ne off, 3)) (ht : (pc : Int) + off = (tgt : Int)) (kt : ¬ x = z → AW l g X Z y F Lw kc ks tgt L st M) (kf : x = z → AW l g X Z y F Lw kc ks (pc + 3) L st M) : AW l g X Z y F Lw kc ks pc L (.ref z :: .ref x :: st) M :=
  fun p e R s m args below meth c H locs cells slots ls C c1 c2 hS hR hl => lv_acmp_ne (rx := some x) (ry := some z) C.1 C.2.1 hd ht (fun h => kt (fun q => h (congrArg some q)) p e R s m args below meth c H locs cells slots ls C c1 c2 hS hR hl) (fun h => kf (Option.some.inj h) p e R s m args below meth c H locs cells slots ls C c1 c2 hS hR hl)
theorem aw_swIn {dflt lo hi : Int} {offs : Array Int} {len : Nat} {x : Int32} {off : Int} {tgt : Nat} (hd : decode y.2.1 pc = .ok (.tableswitch dflt lo hi offs, len)) (h1 : ¬ x.toInt < lo) (h2 : ¬ hi < x.toInt) (ho : offs[(x.toInt - lo).toNat]? = some off) (ht : (pc : Int) + off = (tgt : Int)) (k : AW l g X Z y F Lw kc ks tgt L st M) : AW l g X Z y F Lw kc ks pc L (.int x :: st) M :=
  fun p e R s m args below meth c H locs cells slots ls C c1 c2 hS hR hl => lv_tableIn C.1 C.2.1 hd h1 h2 ho ht (k p e R s m args below meth c H locs cells slots ls C c1 c2 hS hR hl)
theorem aw_swOut {dflt lo hi : Int} {offs : Array Int} {len : Nat} {x : Int32} {tgt : Nat} (hd : decode y.2.1 pc = .ok (.tableswitch dflt lo hi offs, len)) (h : x.toInt < lo ∨ hi < x.toInt) (ht : (pc : Int) + dflt = (tgt : Int)) (k : AW l g X Z y F Lw kc ks tgt L st M) : AW l g X Z y F Lw kc ks pc L (.int x :: st) M :=
  fun p e R s m args below meth c H locs cells slots ls C c1 c2 hS hR hl => lv_tableOut C.1 C.2.1 hd h ht (k p e R s m args below meth c H locs cells slots ls C c1 c2 hS hR hl)
theorem aw_lsw {dflt : Int} {ps : Array (Int × Int)} {len : Nat} {x : Int32} {off : Int} {tgt : Nat} (hd : decode y.2.1 pc = .ok (.lookupswitch dflt ps, len)) (hp : (ps.toList.zip (ps.toList.drop 1)).all (fun (a, next) => a.1 < next.1) = true) (ho : Op.lookupswitch.offset ps.toList dflt x.toInt = off) (ht : (pc : Int) + off = (tgt : Int)) (k : AW l g X Z y F Lw kc ks tgt L st M) : AW l g X Z y F Lw kc ks pc L (.int x :: st) M :=
  fun p e R s m args below meth c H locs cells slots ls C c1 c2 hS hR hl => lv_lookup C.1 C.2.1 hd hp ho ht (k p e R s m args below meth c H locs cells slots ls C c1 c2 hS hR hl)
end AB
end
section

/-! ===== static facts: classes, fields, calls ===== -/
def ab_cl (ci : Nat) (C : String) (T : u_T) (N : Nat) (ty0 : Nat → FieldType) : Prop := vwCl[ci]? = some (C, T, N) ∧ (∀ w ∈ u_ws C T N, w ∈ ab_T) ∧ (∀ k, k < N → parseFieldDescriptor (T k).2.2.1 = some (ty0 k)) ∧ ∀ a, a < N → ∀ b, b < N → a ≠ b → (T a).2.1 ≠ (T b).2.1
/-- the field link 'i' of the class 'own' is slot k of the class number ci, of type ty; fin: it is final -/
def ab_fl (own : String) (i ci k : Nat) (ty : FieldType) (fin : Bool) : Prop := ∃ (C : String) (T : u_T) (N : Nat) (ty0 : Nat → FieldType) (ref : String), ab_cl ci C T N ty0 ∧ k < N ∧ parseFieldDescriptor (T k).2.2.1 = some ty ∧ (T k).2.2.2 = fin ∧ (fin = true → (T k).1 = own) ∧ Cond.fieldLink own i ref (T k).2.1 (T k).2.2.1 ∈ ab_T ∧ (ref = (T k).1 ∨ Cond.sameField ref (T k).1 (T k).2.1 (T k).2.2.1 ∈ ab_T)
def ab_fg (own : String) (i ci k : Nat) : Prop := ∃ (C : String) (T : u_T) (N : Nat) (ty0 : Nat → FieldType) (ref : String), ab_cl ci C T N ty0 ∧ k < N ∧ Cond.fieldLink own i ref (T k).2.1 (T k).2.2.1 ∈ ab_T ∧ (ref = (T k).1 ∨ Cond.sameField ref (T k).1 (T k).2.1 (T k).2.2.1 ∈ ab_T)
def ab_pm (z : ab_Y) (n : Nat) : Prop := (z.1.cls ≠ "java/lang/invoke/MethodHandle" ∧ z.1.cls ≠ "java/lang/invoke/VarHandle") ∧ (parseMethodDescriptor z.1.desc).map (fun d => d.parameters.length) = some n ∧ Cond.code z.1 z.2.1 z.2.2.1 z.2.2.2 ∈ ab_T ∧ Cond.initialized z.1.cls ∈ ab_T
def ab_cS (own : String) (i : Nat) (z : ab_Y) (n : Nat) : Prop := ab_pm z n ∧ Cond.methodLink own i z.1 ∈ ab_T ∧ Cond.static z.1 ∈ ab_T
def ab_cN (own : String) (i : Nat) (z : ab_Y) (n : Nat) : Prop := ab_pm z n ∧ (∃ host, Cond.methodLinkNest own i z.1 host ∈ ab_nest) ∧ Cond.static z.1 ∈ ab_T
def ab_cI (own : String) (i : Nat) (z : ab_Y) (n : Nat) : Prop := ab_pm z n ∧ Cond.methodLink own i z.1 ∈ ab_T ∧ Cond.instanceMethod z.1 ∈ ab_T ∧ z.1.name = "<init>" ∧ z.2.2.2 = none
def ab_cJ (own : String) (i : Nat) (z : ab_Y) (n : Nat) : Prop := ab_pm z n ∧ (∃ host, Cond.methodLinkNest own i z.1 host ∈ ab_nest) ∧ Cond.instanceMethod z.1 ∈ ab_T ∧ z.1.name = "<init>" ∧ z.2.2.2 = none
/-- a virtual call on an object of the class number ci -/
def ab_cV (own : String) (i ci : Nat) (z : ab_Y) (n : Nat) : Prop := ab_pm z n ∧ ∃ (C : String) (T : u_T) (N : Nat), vwCl[ci]? = some (C, T, N) ∧ ((C = z.1.cls ∧ Cond.methodLink own i z.1 ∈ ab_T ∧ Cond.instanceMethod z.1 ∈ ab_T ∧ Cond.selects C z.1 z.1 ∈ ab_T) ∨
  (∃ (x : MethodName) (owner : String) (b0 : ByteArray) (m0 : Nat) (r0 : Option FieldType), (owner ≠ "java/lang/invoke/MethodHandle" ∧ owner ≠ "java/lang/invoke/VarHandle") ∧ (parseMethodDescriptor x.desc).map (fun d => d.parameters.length) = some n ∧ Cond.methodLink own i x ∈ ab_T ∧ Cond.sameMethod x.cls owner x.name x.desc ∈ ab_T ∧ Cond.instanceMethod ⟨owner, x.name, x.desc⟩ ∈ ab_T ∧ Cond.code ⟨owner, x.name, x.desc⟩ b0 m0 r0 ∈ ab_T ∧ Cond.selects C x z.1 ∈ ab_T ∧ Cond.instanceMethod z.1 ∈ ab_T))
theorem ab_len {ds : String} {n : Nat} (h : (parseMethodDescriptor ds).map (fun d => d.parameters.length) = some n) : ∀ sig, parseMethodDescriptor ds = some sig → n = sig.parameters.length := by
  intro sig hs
  rw [hs] at h
  exact (Option.some.inj h).symm
theorem ab_pay {args : Array Value} {s : State} {z : ab_Y} {n : Nat} (hts : ∀ w ∈ ab_T, w.before args s = true) (h : ab_pm z n) : ∀ w ∈ ab_ws z, ∀ (a' : Array Value) (U : State), s.WarmedH U.vm → w.before a' U = true := by
  intro w hw a' U hW
  rcases List.mem_cons.mp hw with rfl | hw
  · exact word_at hW (ab_T_good h.2.2.1) (hts _ h.2.2.1)
  · exact word_at hW (ab_T_good hw) (hts _ hw)
theorem ab_blind {g : ab_G} {vs : List Value} {M : ab_M} : FrameBlind (va_Pc vs (ab_P g M)) := by
  intro a U f mk q
  obtain ⟨q0, qE, qB, qR⟩ := q
  obtain ⟨k1, k2, k3, k4, k5, k6⟩ := qE
  have hal : U.vm.Alike (U.calling f mk a).vm := Vm.Alike.refl U.vm
  exact ⟨q0, ⟨va_K.moved hal k1, fun w hw => by
    have h2 := (List.mem_filter.mp hw).2
    have h3 := k2 w hw
    cases w <;> first | exact va_Nw.same rfl rfl h3 | (simp [ab_isN] at h2; done), k3.moved hal, fun C hC => (k4 C hC).moved hal, k5.moved hal, k6.moved hal⟩, qB, qR⟩
section AB2
variable {l : Launch} {g : ab_G} {X : State → Array Value → Prop} {Z : List Frame → Array Value → State → Room → State → Prop} {y : ab_Y} {F Lw kc ks : Nat} {pc : Nat} {L : List (Option Value)} {st : List Value} {M : ab_M}
/-- a write into a cell that stands -/
theorem ab_R_put {H : Heap} {ws : va_W} {k a : Nat} {t : Nat × Nat} {e0 e : va_E} {H1 : Heap} (hP : va_P (ab_D g) vwCl (ws.set k (a, e)) H1) (hD : va_D (ab_A g) (ws.set k (a, e))) (hk : ws[k]? = some (a, e0)) (hM : ∀ (a : Nat) (t : Nat × Nat) (e : va_E), M a = some (t, e) → ∃ k : Nat, ws[k]? = some (a, e)) (hD0 : va_D (ab_A g) ws) : ab_R g (ab_set M a t e) H1 := by
  have hlt := (List.getElem?_eq_some_iff.mp hk).1
  refine ⟨_, hP, hD, fun b t2 e2 h => ?_⟩
  by_cases hb : b = a
  · subst hb
    rw [ab_set_self] at h
    cases h
    exact ⟨k, List.getElem?_set_self hlt⟩
  · rw [ab_set_ne hb] at h
    obtain ⟨j, hj⟩ := hM b t2 e2 h
    refine ⟨j, ?_⟩
    rw [List.getElem?_set_ne]
    · exact hj
    · intro h2
      subst h2
      rw [hk] at hj
      cases hj
      exact hb rfl
theorem ab_R_new {ws : va_W} {q : Nat} {t : Nat × Nat} {e : va_E} {H1 : Heap} (hP : va_P (ab_D g) vwCl (ws ++ [(q, e)]) H1) (hD : va_D (ab_A g) (ws ++ [(q, e)])) (hM : ∀ (a : Nat) (t : Nat × Nat) (e : va_E), M a = some (t, e) → ∃ k : Nat, ws[k]? = some (a, e)) : M q = none ∧ ab_R g (ab_set M q t e) H1 := by
  have hq : ∀ (k : Nat) (e2 : va_E), ¬ ws[k]? = some (q, e2) := by
    intro k e2 hk
    have hlt := (List.getElem?_eq_some_iff.mp hk).1
    have h1 : (ws ++ [(q, e)])[k]? = some (q, e2) := by rw [List.getElem?_append_left hlt]; exact hk
    have h2 : (ws ++ [(q, e)])[ws.length]? = some (q, e) := by simp
    have := hD.1 k ws.length _ _ h1 h2 rfl
    omega
  refine ⟨?_, _, hP, hD, fun b t2 e2 h => ?_⟩
  · cases hz : M q with
    | none => rfl
    | some z =>
      obtain ⟨k, hk⟩ := hM q z.1 z.2 hz
      exact absurd hk (hq k z.2)
  · by_cases hb : b = q
    · subst hb
      rw [ab_set_self] at h
      cases h
      exact ⟨ws.length, by simp⟩
    · rw [ab_set_ne hb] at h
      obtain ⟨j, hj⟩ := hM b t2 e2 h
      exact ⟨j, by rw [List.getElem?_append_left (List.getElem?_eq_some_iff.mp hj).1]; exact hj⟩
theorem aw_get {i ci k a : Nat} {t : Nat × Nat} {fs : List Value} {v : Value} (hd : decode y.2.1 pc = .ok (.getfield i, 3)) (hf : ab_fg y.1.cls i ci k) (hM : M a = some (t, .inr (ci, fs))) (hv : fs[k]? = some v)
    (kk : AW l g X Z y F Lw kc ks (pc + 3) L (v :: st) M) : AW l g X Z y F Lw kc ks pc L (.ref a :: st) M := by
  intro p e R s m args below meth c H locs cells slots ls C c1 c2 hS hR hl
  obtain ⟨ws, hP, hD, hW⟩ := id hR
  obtain ⟨kw, hk⟩ := hW a t _ hM
  obtain ⟨C0, T, N, ty0, ref, ⟨hc, hin, -, -⟩, hkN, hlink, hsame⟩ := hf
  obtain ⟨hx, hb, hml, hown, hts, -, -, -, -, -, -, hE, -⟩ := id C
  refine va_get (D := ab_D g) (tys := ab_tys g) hx hb hts hin hown hE.1 hP kw hk hc k hkN (hts _ hlink) ?_ hv hd (kk p e R s m args below meth c H locs cells slots ls C c1 c2 hS hR hl)
  rcases hsame with h | h
  · exact fun x h9 => by rw [h]; exact h9
  · exact fun x h9 => u_same (hts _ h) x h9
theorem aw_put {i ci k a : Nat} {t : Nat × Nat} {ty : FieldType} {fs : List Value} {v : Value} (hd : decode y.2.1 pc = .ok (.putfield i, 3)) (hf : ab_fl y.1.cls i ci k ty false) (hM : M a = some (t, .inr (ci, fs))) (hn : narrow ty v = v) (hfit : fits ty v = true) (hlen : k < fs.length)
    (kk : AW l g X Z y F Lw kc ks (pc + 3) L st (ab_set M a t (.inr (ci, fs.set k v)))) : AW l g X Z y F Lw kc ks pc L (v :: .ref a :: st) M := by
  intro p e R s m args below meth c H locs cells slots ls C c1 c2 hS hR hl
  obtain ⟨ws, hP, hD, hW⟩ := id hR
  obtain ⟨kw, hk⟩ := hW a t _ hM
  obtain ⟨C0, T, N, ty0, ref, ⟨hc, hin, hty, hnm⟩, hkN, hpd, hfin, -, hlink, hsame⟩ := hf
  obtain ⟨hx, hb, hml, hown, hts, -, -, -, -, -, -, hE, -⟩ := id C
  refine va_put (D := ab_D g) (tys := ab_tys g) hx hb hts hin ty0 hty hnm hown hE.1 hP hD hS kw hk hc k hkN (hts _ hlink) ?_ hfin hpd hn hfit hlen hd (fun H1 locs1 hP1 hD1 hS1 => kk p e R s m args below meth c H1 locs1 cells slots ls C c1 c2 hS1 (ab_R_put (H := H) hP1 hD1 hk hW hD) hl)
  rcases hsame with h | h
  · exact fun x h9 => by rw [h]; exact h9
  · exact fun x h9 => u_same (hts _ h) x h9
theorem aw_putF {i ci k a : Nat} {t : Nat × Nat} {ty : FieldType} {fs : List Value} {v : Value} (hd : decode y.2.1 pc = .ok (.putfield i, 3)) (hf : ab_fl y.1.cls i ci k ty true) (hin2 : y.1.name = "<init>") (hM : M a = some (t, .inr (ci, fs))) (hn : narrow ty v = v) (hfit : fits ty v = true) (hlen : k < fs.length)
    (kk : AW l g X Z y F Lw kc ks (pc + 3) L st (ab_set M a t (.inr (ci, fs.set k v)))) : AW l g X Z y F Lw kc ks pc L (v :: .ref a :: st) M := by
  intro p e R s m args below meth c H locs cells slots ls C c1 c2 hS hR hl
  obtain ⟨ws, hP, hD, hW⟩ := id hR
  obtain ⟨kw, hk⟩ := hW a t _ hM
  obtain ⟨C0, T, N, ty0, ref, ⟨hc, hin, hty, hnm⟩, hkN, hpd, hfin, hown1, hlink, hsame⟩ := hf
  obtain ⟨hx, hb, hml, hown, hts, -, -, hnm2, -, -, -, hE, -⟩ := id C
  refine va_putF (D := ab_D g) (tys := ab_tys g) hx hb hts hin ty0 hty hnm hown hE.1 hP hD hS kw hk hc k hkN (hts _ hlink) ?_ hfin (hnm2.trans hin2) (hown1 rfl) hpd hn hfit hlen hd (fun H1 locs1 hP1 hD1 hS1 => kk p e R s m args below meth c H1 locs1 cells slots ls C c1 c2 hS1 (ab_R_put (H := H) hP1 hD1 hk hW hD) hl)
  rcases hsame with h | h
  · exact fun x h9 => by rw [h]; exact h9
  · exact fun x h9 => u_same (hts _ h) x h9

theorem aw_iald {a n : Nat} {t : Nat × Nat} {f : Nat → Int32} {i : Int32} (hd : decode y.2.1 pc = .ok (.iaload, 1)) (hM : M a = some (t, ab_ai g n f)) (hin : vp_in i n) (kk : AW l g X Z y F Lw kc ks (pc + 1) L (.int (f i.toNatClampNeg) :: st) M) : AW l g X Z y F Lw kc ks pc L (.int i :: .ref a :: st) M := by
  intro p e R s m args below meth c H locs cells slots ls C c1 c2 hS hR hl
  obtain ⟨ws, hP, hD, hW⟩ := id hR
  obtain ⟨kw, hk⟩ := hW a t _ hM
  exact va_iald (D := ab_D g) (tys := ab_tys g) C.1 C.2.1 C.2.2.2.2.2.2.2.2.2.2.2.1.1 hP kw 0 hk rfl hin hd (kk p e R s m args below meth c H locs cells slots ls C c1 c2 hS hR hl)
theorem aw_zald {a n : Nat} {t : Nat × Nat} {f : Nat → Int32} {i : Int32} (hd : decode y.2.1 pc = .ok (.baload, 1)) (hM : M a = some (t, ab_az g n f)) (hin : vp_in i n) (kk : AW l g X Z y F Lw kc ks (pc + 1) L (.int (f i.toNatClampNeg) :: st) M) : AW l g X Z y F Lw kc ks pc L (.int i :: .ref a :: st) M := by
  intro p e R s m args below meth c H locs cells slots ls C c1 c2 hS hR hl
  obtain ⟨ws, hP, hD, hW⟩ := id hR
  obtain ⟨kw, hk⟩ := hW a t _ hM
  exact va_zald (D := ab_D g) (tys := ab_tys g) C.1 C.2.1 C.2.2.2.2.2.2.2.2.2.2.2.1.1 hP kw 2 hk rfl hin hd (kk p e R s m args below meth c H locs cells slots ls C c1 c2 hS hR hl)
theorem aw_lald {a n : Nat} {t : Nat × Nat} {f : Nat → Int64} {i : Int32} (hd : decode y.2.1 pc = .ok (.laload, 1)) (hM : M a = some (t, ab_al g n f)) (hin : vp_in i n) (kk : AW l g X Z y F Lw kc ks (pc + 1) L (.long (f i.toNatClampNeg) :: st) M) : AW l g X Z y F Lw kc ks pc L (.int i :: .ref a :: st) M := by
  intro p e R s m args below meth c H locs cells slots ls C c1 c2 hS hR hl
  obtain ⟨ws, hP, hD, hW⟩ := id hR
  obtain ⟨kw, hk⟩ := hW a t _ hM
  exact va_lald (D := ab_D g) (tys := ab_tys g) C.1 C.2.1 C.2.2.2.2.2.2.2.2.2.2.2.1.1 hP kw 1 hk rfl hin hd (kk p e R s m args below meth c H locs cells slots ls C c1 c2 hS hR hl)
theorem aw_aald0 {a n : Nat} {t : Nat × Nat} {f : Nat → Option Nat} {i : Int32} (hd : decode y.2.1 pc = .ok (.aaload, 1)) (hM : M a = some (t, ab_aq g n f)) (hin : vp_in i n) (kk : AW l g X Z y F Lw kc ks (pc + 1) L (va_rf (f i.toNatClampNeg) :: st) M) : AW l g X Z y F Lw kc ks pc L (.int i :: .ref a :: st) M := by
  intro p e R s m args below meth c H locs cells slots ls C c1 c2 hS hR hl
  obtain ⟨ws, hP, hD, hW⟩ := id hR
  obtain ⟨kw, hk⟩ := hW a t _ hM
  exact va_aldq (D := ab_D g) (tys := ab_tys g) C.1 C.2.1 C.2.2.2.2.2.2.2.2.2.2.2.1.1 hP kw 3 hk rfl hin hd (kk p e R s m args below meth c H locs cells slots ls C c1 c2 hS hR hl)
theorem aw_aald {a n x : Nat} {t : Nat × Nat} {f : Nat → Option Nat} {i : Int32} (hd : decode y.2.1 pc = .ok (.aaload, 1)) (hM : M a = some (t, ab_aq g n f)) (hin : vp_in i n) (hf : f i.toNatClampNeg = some x) (kk : AW l g X Z y F Lw kc ks (pc + 1) L (.ref x :: st) M) : AW l g X Z y F Lw kc ks pc L (.int i :: .ref a :: st) M := by
  refine aw_aald0 hd hM hin ?_
  rw [hf]
  exact kk
theorem aw_iast {a n : Nat} {t : Nat × Nat} {f : Nat → Int32} {i : Int32} {x : Int32} (hd : decode y.2.1 pc = .ok (.iastore, 1)) (hM : M a = some (t, ab_ai g n f)) (hin : vp_in i n) (kk : AW l g X Z y F Lw kc ks (pc + 1) L st (ab_set M a t (ab_ai g n (upd f i.toNatClampNeg x)))) : AW l g X Z y F Lw kc ks pc L (.int x :: .int i :: .ref a :: st) M := by
  intro p e R s m args below meth c H locs cells slots ls C c1 c2 hS hR hl
  obtain ⟨ws, hP, hD, hW⟩ := id hR
  obtain ⟨kw, hk⟩ := hW a t _ hM
  exact va_iast (D := ab_D g) (tys := ab_tys g) C.1 C.2.1 C.2.2.2.2.2.2.2.2.2.2.2.1.1 hP hD hS kw 0 hk rfl hin hd (fun H1 locs1 hP1 hD1 hS1 => kk p e R s m args below meth c H1 locs1 cells slots ls C c1 c2 hS1 (ab_R_put (H := H) hP1 hD1 hk hW hD) hl)
theorem aw_zast {a n : Nat} {t : Nat × Nat} {f : Nat → Int32} {i : Int32} {x : Int32} (hd : decode y.2.1 pc = .ok (.bastore, 1)) (hM : M a = some (t, ab_az g n f)) (hin : vp_in i n) (kk : AW l g X Z y F Lw kc ks (pc + 1) L st (ab_set M a t (ab_az g n (upd f i.toNatClampNeg (vp_nar .boolean x))))) : AW l g X Z y F Lw kc ks pc L (.int x :: .int i :: .ref a :: st) M := by
  intro p e R s m args below meth c H locs cells slots ls C c1 c2 hS hR hl
  obtain ⟨ws, hP, hD, hW⟩ := id hR
  obtain ⟨kw, hk⟩ := hW a t _ hM
  exact va_zast (D := ab_D g) (tys := ab_tys g) C.1 C.2.1 C.2.2.2.2.2.2.2.2.2.2.2.1.1 hP hD hS kw 2 hk rfl hin hd (fun H1 locs1 hP1 hD1 hS1 => kk p e R s m args below meth c H1 locs1 cells slots ls C c1 c2 hS1 (ab_R_put (H := H) hP1 hD1 hk hW hD) hl)
theorem aw_last {a n : Nat} {t : Nat × Nat} {f : Nat → Int64} {i : Int32} {x : Int64} (hd : decode y.2.1 pc = .ok (.lastore, 1)) (hM : M a = some (t, ab_al g n f)) (hin : vp_in i n) (kk : AW l g X Z y F Lw kc ks (pc + 1) L st (ab_set M a t (ab_al g n (vp_updL f i.toNatClampNeg x)))) : AW l g X Z y F Lw kc ks pc L (.long x :: .int i :: .ref a :: st) M := by
  intro p e R s m args below meth c H locs cells slots ls C c1 c2 hS hR hl
  obtain ⟨ws, hP, hD, hW⟩ := id hR
  obtain ⟨kw, hk⟩ := hW a t _ hM
  exact va_last (D := ab_D g) (tys := ab_tys g) C.1 C.2.1 C.2.2.2.2.2.2.2.2.2.2.2.1.1 hP hD hS kw 1 hk rfl hin hd (fun H1 locs1 hP1 hD1 hS1 => kk p e R s m args below meth c H1 locs1 cells slots ls C c1 c2 hS1 (ab_R_put (H := H) hP1 hD1 hk hW hD) hl)
theorem aw_aastN {a n : Nat} {t : Nat × Nat} {f : Nat → Option Nat} {i : Int32} (hd : decode y.2.1 pc = .ok (.aastore, 1)) (hM : M a = some (t, ab_aq g n f)) (hin : vp_in i n) (kk : AW l g X Z y F Lw kc ks (pc + 1) L st (ab_set M a t (ab_aq g n (va_up f i.toNatClampNeg none)))) : AW l g X Z y F Lw kc ks pc L (.null :: .int i :: .ref a :: st) M := by
  intro p e R s m args below meth c H locs cells slots ls C c1 c2 hS hR hl
  obtain ⟨ws, hP, hD, hW⟩ := id hR
  obtain ⟨kw, hk⟩ := hW a t _ hM
  exact va_astqN (D := ab_D g) (tys := ab_tys g) C.1 C.2.1 C.2.2.2.2.2.2.2.2.2.2.2.1.1 hP hD hS kw 3 hk rfl hin hd (fun H1 locs1 hP1 hD1 hS1 => kk p e R s m args below meth c H1 locs1 cells slots ls C c1 c2 hS1 (ab_R_put (H := H) hP1 hD1 hk hW hD) hl)
theorem aw_aast {a n x ci : Nat} {t t2 : Nat × Nat} {f : Nat → Option Nat} {i : Int32} {fs : List Value} {r : vw_C} (hd : decode y.2.1 pc = .ok (.aastore, 1)) (hM : M a = some (t, ab_aq g n f)) (hx : M x = some (t2, .inr (ci, fs))) (hr : vwCl[ci]? = some r) (hca : Cond.castable r.1 "java/lang/Object" ∈ ab_nest) (hin : vp_in i n) (kk : AW l g X Z y F Lw kc ks (pc + 1) L st (ab_set M a t (ab_aq g n (va_up f i.toNatClampNeg (some x))))) : AW l g X Z y F Lw kc ks pc L (.ref x :: .int i :: .ref a :: st) M := by
  intro p e R s m args below meth c H locs cells slots ls C c1 c2 hS hR hl
  obtain ⟨ws, hP, hD, hW⟩ := id hR
  obtain ⟨kw, hk⟩ := hW a t _ hM
  obtain ⟨kx, hkx⟩ := hW x t2 _ hx
  have hE := C.2.2.2.2.2.2.2.2.2.2.2.1
  exact va_astqO (D := ab_D g) (tys := ab_tys g) C.1 C.2.1 hE.1 hP hD hS kw 3 kx ci hk rfl (hE.2.1 _ hca) hkx hr hin hd (fun H1 locs1 hP1 hD1 hS1 => kk p e R s m args below meth c H1 locs1 cells slots ls C c1 c2 hS1 (ab_R_put (H := H) hP1 hD1 hk hW hD) hl)
theorem aw_alen {a : Nat} {t : Nat × Nat} {x : vp_A} {cA : ClassId} {v : Int32} (hd : decode y.2.1 pc = .ok (.arraylength, 1)) (hM : M a = some (t, .inl (cA, x))) (tn : Nat) {ty : FieldType} (htn : (ab_tys g)[tn]? = some (cA, ty)) (hv : Int32.ofNat x.1 = v) (kk : AW l g X Z y F Lw kc ks (pc + 1) L (.int v :: st) M) : AW l g X Z y F Lw kc ks pc L (.ref a :: st) M := by
  intro p e R s m args below meth c H locs cells slots ls C c1 c2 hS hR hl
  obtain ⟨ws, hP, hD, hW⟩ := id hR
  obtain ⟨kw, hk⟩ := hW a t _ hM
  exact va_alen (D := ab_D g) (tys := ab_tys g) C.1 C.2.1 C.2.2.2.2.2.2.2.2.2.2.2.1.1 hP kw tn hk htn hv hd (kk p e R s m args below meth c H locs cells slots ls C c1 c2 hS hR hl)
theorem aw_alen0 (hd : decode y.2.1 pc = .ok (.arraylength, 1)) (kk : AW l g X Z y F Lw kc ks (pc + 1) L (.int 0 :: st) M) : AW l g X Z y F Lw kc ks pc L (.ref (ab_e0 g) :: st) M := by
  intro p e R s m args below meth c H locs cells slots ls C c1 c2 hS hR hl
  exact va_tlen C.1 C.2.1 C.2.2.2.2.2.2.2.2.2.2.2.1.2.2.2.2.2 hS rfl hd (kk p e R s m args below meth c H locs cells slots ls C c1 c2 hS hR hl)
theorem aw_gets0 {i : Nat} (hd : decode y.2.1 pc = .ok (.getstatic i, 3)) (hlink : Cond.fieldLink y.1.cls i "java/util/ArrayList" "DEFAULTCAPACITY_EMPTY_ELEMENTDATA" "[Ljava/lang/Object;" ∈ ab_T) (kk : AW l g X Z y F Lw kc ks (pc + 3) L (.ref (ab_e0 g) :: st) M) : AW l g X Z y F Lw kc ks pc L st M := by
  intro p e R s m args below meth c H locs cells slots ls C c1 c2 hS hR hl
  exact va_gets C.1 C.2.1 C.2.2.2.2.2.2.2.2.2.2.2.1.2.2.2.2.1 hS C.2.2.2.1 (C.2.2.2.2.1 _ hlink) (fun _ h9 => h9) hd (kk p e R s m args below meth c H locs cells slots ls C c1 c2 hS hR hl)
theorem ab_recv {s : State} {H : Heap} {a ci : Nat} {t : Nat × Nat} {fs : List Value} {C : String} {T : u_T} {N : Nat} (hE : ab_E g s s.heap) (hR : ab_R g M H) (hM : M a = some (t, .inr (ci, fs))) (hc : vwCl[ci]? = some (C, T, N)) : ∃ cell : Cell, H[a]? = some cell ∧ cell.vm.isStatics = false ∧ s.vm.findClass C = some cell.cls := by
  obtain ⟨ws, hP, hD, hW⟩ := id hR
  obtain ⟨kw, hk⟩ := hW a t _ hM
  exact va_recv hE.1 hP hc hk
theorem aw_castS {i a ci : Nat} {t : Nat × Nat} {fs : List Value} {C : String} {T : u_T} {N : Nat} (hd : decode y.2.1 pc = .ok (.checkcast i, 3)) (hlink : Cond.classLink y.1.cls i C ∈ ab_T) (hM : M a = some (t, .inr (ci, fs))) (hc : vwCl[ci]? = some (C, T, N)) (kk : AW l g X Z y F Lw kc ks (pc + 3) L (.ref a :: st) M) : AW l g X Z y F Lw kc ks pc L (.ref a :: st) M := by
  intro p e R s m args below meth c H locs cells slots ls C c1 c2 hS hR hl
  have hE := C.2.2.2.2.2.2.2.2.2.2.2.1
  exact va_castS C.1 C.2.1 C.2.2.2.1 (C.2.2.2.2.1 _ hlink) (hE.1.1 ci _ hc).2 (ab_recv hE hR hM hc) hd (kk p e R s m args below meth c H locs cells slots ls C c1 c2 hS hR hl)
theorem aw_castY {i a ci : Nat} {t : Nat × Nat} {fs : List Value} {C nm : String} {T : u_T} {N : Nat} (hd : decode y.2.1 pc = .ok (.checkcast i, 3)) (hlink : Cond.classLink y.1.cls i nm ∈ ab_T) (hca : Cond.castable C nm ∈ ab_nest) (hM : M a = some (t, .inr (ci, fs))) (hc : vwCl[ci]? = some (C, T, N)) (kk : AW l g X Z y F Lw kc ks (pc + 3) L (.ref a :: st) M) : AW l g X Z y F Lw kc ks pc L (.ref a :: st) M := by
  intro p e R s m args below meth c H locs cells slots ls C c1 c2 hS hR hl
  have hE := C.2.2.2.2.2.2.2.2.2.2.2.1
  exact va_castY C.1 C.2.1 C.2.2.2.1 (C.2.2.2.2.1 _ hlink) (hE.2.1 _ hca) (ab_recv hE hR hM hc) hd (kk p e R s m args below meth c H locs cells slots ls C c1 c2 hS hR hl)
theorem aw_instS {i a ci : Nat} {t : Nat × Nat} {fs : List Value} {C : String} {T : u_T} {N : Nat} (hd : decode y.2.1 pc = .ok (.instanceof i, 3)) (hlink : Cond.classLink y.1.cls i C ∈ ab_T) (hM : M a = some (t, .inr (ci, fs))) (hc : vwCl[ci]? = some (C, T, N)) (kk : AW l g X Z y F Lw kc ks (pc + 3) L (.int 1 :: st) M) : AW l g X Z y F Lw kc ks pc L (.ref a :: st) M := by
  intro p e R s m args below meth c H locs cells slots ls C c1 c2 hS hR hl
  have hE := C.2.2.2.2.2.2.2.2.2.2.2.1
  exact va_instS C.1 C.2.1 C.2.2.2.1 (C.2.2.2.2.1 _ hlink) (hE.1.1 ci _ hc).2 (ab_recv hE hR hM hc) hd (kk p e R s m args below meth c H locs cells slots ls C c1 c2 hS hR hl)
theorem aw_instNo {i a ci : Nat} {t : Nat × Nat} {fs : List Value} {C : String} {T : u_T} {N : Nat} (hd : decode y.2.1 pc = .ok (.instanceof i, 3)) (hlink : Cond.classLink y.1.cls i "WaterMen$Donkey" ∈ ab_T) (hno : C ∈ ab_noD) (hM : M a = some (t, .inr (ci, fs))) (hc : vwCl[ci]? = some (C, T, N)) (kk : AW l g X Z y F Lw kc ks (pc + 3) L (.int 0 :: st) M) : AW l g X Z y F Lw kc ks pc L (.ref a :: st) M := by
  intro p e R s m args below meth c H locs cells slots ls C c1 c2 hS hR hl
  have hE := C.2.2.2.2.2.2.2.2.2.2.2.1
  exact va_instNo C.1 C.2.1 C.2.2.2.1 (C.2.2.2.2.1 _ hlink) (hE.2.2.2.1 _ hno) (ab_recv hE hR hM hc) hd (kk p e R s m args below meth c H locs cells slots ls C c1 c2 hS hR hl)
/-- what is new: objects -/
theorem aw_new {i ci N : Nat} {C : String} {T : u_T} {ty0 : Nat → FieldType} (t : Nat × Nat) (fs : List Value) (hd : decode y.2.1 pc = .ok (.new i, 3)) (hc : ab_cl ci C T N ty0) (hlink : Cond.classLink y.1.cls i C ∈ ab_T) (hinst : Cond.instantiable C N ∈ ab_T) (hini : Cond.initialized C ∈ ab_T) (hfs : ∀ j, j < N → defaultValue (ty0 j) = vp_V fs j)
    (kk : ∀ a : Nat, M a = none → AW l g X Z y F Lw kc ks (pc + 3) L (.ref a :: st) (ab_set M a t (.inr (ci, fs)))) : AW l g X Z y F Lw (kc + 1) (ks + N) pc L st M := by
  intro p e R s m args below meth c H locs cells slots ls C c1 c2 hS hR hl
  obtain ⟨ws, hP, hD, hW⟩ := id hR
  obtain ⟨hx, hb, hml, hown, hts, -, -, -, -, -, -, hE, hB⟩ := id C
  refine va_new (D := ab_D g) (tys := ab_tys g) hx hb hts hc.2.1 ty0 hc.2.2.1 hown (hts _ hlink) (hts _ hinst) (hts _ hini) hE.1 hP hD hS (fun q hq => Nat.le_trans hB hq) hc.1 hfs (by omega) (by omega) hd (fun q H1 hP1 hD1 hS1 => ?_)
  obtain ⟨h1, h2⟩ := ab_R_new (t := t) hP1 hD1 hW
  exact kk q h1 p e R s m args below meth c H1 locs (cells + 1) (slots + N) ls C (by omega) (by omega) hS1 h2 hl
theorem ab_cA {s : State} {cA : ClassId} {ty : FieldType} {tys : List (ClassId × FieldType)} {D : va_G} {cl : List vw_C} (hK : va_K D cl (tys ++ [(cA, ty)]) s) {tn : Nat} {c0 : ClassId} (h : tys[tn]? = some (c0, ty)) : cA = c0 := by
  have h1 := (hK.2 tn (c0, ty) (by rw [List.getElem?_append_left (List.getElem?_eq_some_iff.mp h).1]; exact h)).2
  have h2 := (hK.2 tys.length (cA, ty) (by simp)).2
  cases ty with
  | object C =>
    obtain ⟨_, _, _, _, _, e1⟩ := h1
    obtain ⟨_, _, _, _, _, e2⟩ := h2
    exact Option.some.inj (e2.symm.trans e1)
  | _ => exact Option.some.inj (Eq.trans (Eq.symm h2) h1)

theorem aw_newaI {atype : ArrayType} {n : Int32} {N : Nat} (t : Nat × Nat) (hd : decode y.2.1 pc = .ok (.newarray atype, 2)) (hty : newarray.typeOf atype = .int) (harr : Cond.arrayClass .int ∈ ab_T) (hn : ¬ n < 0) (hN : n.toNatClampNeg = N) (hbytes : N * componentBytes .int ≤ 536870912)
    (kk : ∀ a : Nat, M a = none → AW l g X Z y F Lw kc ks (pc + 2) L (.ref a :: st) (ab_set M a t (ab_ai g N (fun _ => 0)))) : AW l g X Z y F Lw (kc + 1) (ks + N) pc L (.int n :: st) M := by
  intro p e R s m args below meth c H locs cells slots ls C c1 c2 hS hR hl
  obtain ⟨ws, hP, hD, hW⟩ := id hR
  obtain ⟨hx, hb, hml, hown, hts, -, -, -, -, -, -, hE, hB⟩ := id C
  refine va_newa (D := ab_D g) (tys := ab_tys g) (a0 := (N, .inl (fun _ => 0))) hx hb (by rw [hty]; exact hts _ harr) hty hE.1 hP hD hS (fun q hq => Nat.le_trans hB hq) (fun cA => rfl) hn hN hbytes (by omega) (by omega) hd (fun q cA H1 hK1 hP1 hD1 hS1 => ?_)
  have hcA : cA = g.2.2.1 0 := ab_cA hK1 (tn := 0) rfl
  subst hcA
  obtain ⟨h1, h2⟩ := ab_R_new (t := t) hP1 hD1 hW
  exact kk q h1 p e R s m args below meth c H1 locs (cells + 1) (slots + N) ls C (by omega) (by omega) hS1 h2 hl
theorem aw_newaJ {atype : ArrayType} {n : Int32} {N : Nat} (t : Nat × Nat) (hd : decode y.2.1 pc = .ok (.newarray atype, 2)) (hty : newarray.typeOf atype = .long) (harr : Cond.arrayClass .long ∈ ab_T) (hn : ¬ n < 0) (hN : n.toNatClampNeg = N) (hbytes : N * componentBytes .long ≤ 536870912)
    (kk : ∀ a : Nat, M a = none → AW l g X Z y F Lw kc ks (pc + 2) L (.ref a :: st) (ab_set M a t (ab_al g N (fun _ => 0)))) : AW l g X Z y F Lw (kc + 1) (ks + N) pc L (.int n :: st) M := by
  intro p e R s m args below meth c H locs cells slots ls C c1 c2 hS hR hl
  obtain ⟨ws, hP, hD, hW⟩ := id hR
  obtain ⟨hx, hb, hml, hown, hts, -, -, -, -, -, -, hE, hB⟩ := id C
  refine va_newa (D := ab_D g) (tys := ab_tys g) (a0 := (N, .inr (.inl (fun _ => 0)))) hx hb (by rw [hty]; exact hts _ harr) hty hE.1 hP hD hS (fun q hq => Nat.le_trans hB hq) (fun cA => rfl) hn hN hbytes (by omega) (by omega) hd (fun q cA H1 hK1 hP1 hD1 hS1 => ?_)
  have hcA : cA = g.2.2.1 1 := ab_cA hK1 (tn := 1) rfl
  subst hcA
  obtain ⟨h1, h2⟩ := ab_R_new (t := t) hP1 hD1 hW
  exact kk q h1 p e R s m args below meth c H1 locs (cells + 1) (slots + N) ls C (by omega) (by omega) hS1 h2 hl
theorem aw_newaZ {atype : ArrayType} {n : Int32} {N : Nat} (t : Nat × Nat) (hd : decode y.2.1 pc = .ok (.newarray atype, 2)) (hty : newarray.typeOf atype = .boolean) (harr : Cond.arrayClass .boolean ∈ ab_T) (hn : ¬ n < 0) (hN : n.toNatClampNeg = N) (hbytes : N * componentBytes .boolean ≤ 536870912)
    (kk : ∀ a : Nat, M a = none → AW l g X Z y F Lw kc ks (pc + 2) L (.ref a :: st) (ab_set M a t (ab_az g N (fun _ => 0)))) : AW l g X Z y F Lw (kc + 1) (ks + N) pc L (.int n :: st) M := by
  intro p e R s m args below meth c H locs cells slots ls C c1 c2 hS hR hl
  obtain ⟨ws, hP, hD, hW⟩ := id hR
  obtain ⟨hx, hb, hml, hown, hts, -, -, -, -, -, -, hE, hB⟩ := id C
  refine va_newa (D := ab_D g) (tys := ab_tys g) (a0 := (N, .inl (fun _ => 0))) hx hb (by rw [hty]; exact hts _ harr) hty hE.1 hP hD hS (fun q hq => Nat.le_trans hB hq) (fun cA => rfl) hn hN hbytes (by omega) (by omega) hd (fun q cA H1 hK1 hP1 hD1 hS1 => ?_)
  have hcA : cA = g.2.2.1 2 := ab_cA hK1 (tn := 2) rfl
  subst hcA
  obtain ⟨h1, h2⟩ := ab_R_new (t := t) hP1 hD1 hW
  exact kk q h1 p e R s m args below meth c H1 locs (cells + 1) (slots + N) ls C (by omega) (by omega) hS1 h2 hl
theorem aw_newq {i : Nat} {n : Int32} {N : Nat} (t : Nat × Nat) (hd : decode y.2.1 pc = .ok (.anewarray i, 3)) (hlink : Cond.classLink y.1.cls i "java/lang/Object" ∈ ab_T) (hn : ¬ n < 0) (hN : n.toNatClampNeg = N) (hbytes : N * 4 ≤ 536870912)
    (kk : ∀ a : Nat, M a = none → AW l g X Z y F Lw kc ks (pc + 3) L (.ref a :: st) (ab_set M a t (ab_aq g N (fun _ => none)))) : AW l g X Z y F Lw (kc + 1) (ks + N) pc L (.int n :: st) M := by
  intro p e R s m args below meth c H locs cells slots ls C c1 c2 hS hR hl
  obtain ⟨ws, hP, hD, hW⟩ := id hR
  obtain ⟨hx, hb, hml, hown, hts, -, -, -, -, -, -, hE, hB⟩ := id C
  refine va_newq (D := ab_D g) (tys := ab_tys g) hx hb hown (hts _ hlink) hE.2.2.1 hE.1 hP hD hS (fun q hq => Nat.le_trans hB hq) hn hN hbytes (by omega) (by omega) hd (fun q cA H1 hK1 hP1 hD1 hS1 => ?_)
  have hcA : cA = g.2.2.1 3 := ab_cA hK1 (tn := 3) rfl
  subst hcA
  obtain ⟨h1, h2⟩ := ab_R_new (t := t) hP1 hD1 hW
  exact kk q h1 p e R s m args below meth c H1 locs (cells + 1) (slots + N) ls C (by omega) (by omega) hS1 h2 hl
theorem aw_objInit {i a : Nat} (hd : decode y.2.1 pc = .ok (.invokespecial i, 3)) (h1 : Cond.methodLink y.1.cls i objectInit ∈ ab_T) (h2 : Cond.instanceMethod objectInit ∈ ab_T) (h3 : Cond.code objectInit ⟨#[0xb1]⟩ 1 none ∈ ab_T) (hF : 1 ≤ F) (hLw : (st.map fun v => v.category).sum + 12 ≤ Lw) (kk : AW l g X Z y F Lw kc ks (pc + 3) L st M) : AW l g X Z y F Lw kc ks pc L (.ref a :: st) M := by
  intro p e R s m args below meth c H locs cells slots ls C c1 c2 hS hR hl
  obtain ⟨hx, hb, hml, hown, hts, -, -, -, -, hF1, hL1, hE, hB⟩ := id C
  exact W.objInit hx hb hown (hts _ h1) (hts _ h2) (hts _ h3) rfl (by rw [hml]; exact hl.1) rfl hd (by omega) (by show 2 * 0 + _ + 12 ≤ _; omega) (kk p e R s m args below meth c H locs cells slots ls C c1 c2 hS hR hl)
theorem aw_arraycopy {i a n0 : Nat} {t : Nat × Nat} {f : Nat → Option Nat} {sp dp n : Int32} (hd : decode y.2.1 pc = .ok (.invokestatic i, 3)) (h1 : Cond.methodLink y.1.cls i arraycopyName ∈ ab_T) (h2 : Cond.native arraycopyName ∈ ab_T) (h3 : Cond.static arraycopyName ∈ ab_T) (h4 : Cond.initialized "java/lang/System" ∈ ab_T) (hF : 1 ≤ F) (hLw : (st.map fun v => v.category).sum + (nativeFrameWords "java/lang/System" "arraycopy" 5 + 11) ≤ Lw) (hM : M a = some (t, ab_aq g n0 f)) (g1 : ¬ sp < 0) (g2 : ¬ dp < 0) (g3 : ¬ n < 0) (g4 : sp.toNatClampNeg + n.toNatClampNeg ≤ n0) (g5 : dp.toNatClampNeg + n.toNatClampNeg ≤ n0)
    (hel : ∀ i : Nat, i < n.toNatClampNeg → ∀ x : Nat, f (sp.toNatClampNeg + i) = some x → ∃ (t2 : Nat × Nat) (ci : Nat) (fs : List Value) (r : vw_C), M x = some (t2, .inr (ci, fs)) ∧ vwCl[ci]? = some r ∧ Cond.castable r.1 "java/lang/Object" ∈ ab_nest)
    (kk : AW l g X Z y F Lw kc ks (pc + 3) L st (ab_set M a t (ab_aq g n0 (va_cpy f f sp.toNatClampNeg dp.toNatClampNeg n.toNatClampNeg)))) : AW l g X Z y F Lw kc ks pc L (.int n :: .int dp :: .ref a :: .int sp :: .ref a :: st) M := by
  intro p e R s m args below meth c H locs cells slots ls C c1 c2 hS hR hl
  obtain ⟨ws, hP, hD, hW⟩ := id hR
  obtain ⟨kw, hk⟩ := hW a t _ hM
  obtain ⟨hx, hb, hml, hown, hts, -, -, -, -, hF1, hL1, hE, hB⟩ := id C
  refine va_copyM (D := ab_D g) (tys := ab_tys g) hx hb (hml.trans hl.1.symm) hown (hts _ h1) (hts _ h2) (hts _ h3) (hts _ h4) hE.1 hP hD hS kw kw 3 3 hk hk rfl rfl g1 g2 g3 g4 g5 (fun i hi x hx2 => ?_) (by omega) (by omega) hd (fun H1 locs1 hP1 hD1 hS1 => kk p e R s m args below meth c H1 locs1 cells slots ls C c1 c2 hS1 (ab_R_put (H := H) hP1 hD1 hk hW hD) hl)
  obtain ⟨t2, ci, fs, r, e1, e2, e3⟩ := hel i hi x hx2
  obtain ⟨kx, hkx⟩ := hW x t2 _ e1
  refine va_rAny hE.1 hP hkx e2 ?_
  have hn := hE.2.1 _ e3
  intro comp c0 hcm hc0
  have hz : (Cond.castable r.1 "java/lang/Object").before #[] s = true := hn
  simp only [Cond.before, Cond.holds, Cond.value] at hz
  rw [hc0, hcm] at hz
  simpa using hz

end AB2
end
section

/-! ===== calls and returns ===== -/
section AB3
variable {l : Launch} {g : ab_G} {X : State → Array Value → Prop} {Z : List Frame → Array Value → State → Room → State → Prop} {y : ab_Y} {F Lw kc ks : Nat} {pc : Nat} {L : List (Option Value)} {st : List Value} {M : ab_M}
theorem ab_call {p : Program} {e : Env} {R : Room} {s : State} {m : MethodId} {args : Array Value} {below : List Frame} {meth : Method} {c : Code} {H : Heap} {locs : List Loc} {cells slots mc ms : Nat} {QQ : State → Prop} {ls : Array Slot} {st0 rest : List Value} {a : Array Value} {Q : Option Value → ab_M → Prop}
    (hr : va_Run p l e R s m args below meth c H locs cells slots mc ms (F0 m pc ls st0) rest (ab_Qc g Q a) (ab_A g)) (hS : va_S (ab_A g) s.heap H locs)
    (kk : ∀ (r : Option Value) (M' : ab_M) (H1 : Heap) (locs1 : List Loc), Q r M' → ab_R g M' H1 → va_S (ab_A g) s.heap H1 locs1 → W p l e R s m args below meth c H1 locs1 (cells + mc) (slots + ms) QQ (F0 m (pc + 3) ls (r.toList ++ rest))) : W p l e R s m args below meth c H locs cells slots QQ (F0 m pc ls st0) := by
  intro T hT X
  obtain ⟨v, st₀, t, T', L, h0, X', hL, e1, e2, ⟨⟨r, M', hv, hp, hb⟩, hz, hk⟩, st⟩ := hr T hT X
  cases hv
  rw [h0] at hz hk
  obtain ⟨t2, a1, b1⟩ := kk v M' T'.heap (locs ++ L) hp (by rw [e1]; exact hb)
    ⟨Nat.le_trans hS.1 (by rw [e1]; exact hz), fun q h1 h2 => by rw [e1, hk q (Nat.lt_of_lt_of_le h1 hS.1) h2]; exact hS.2.1 q h1 h2, fun q hq => by
      rcases List.mem_append.mp hq with h | h
      · exact hS.2.2 q h
      · exact hL q h⟩ T' rfl X'
  exact ⟨t2, st t2 a1, b1⟩
/-- the room that a call needs -/
def ab_fit (F Lw kc ks : Nat) (z : ab_Y) (F' Lw' mc ms kc' ks' : Nat) : Bool := decide (F' + 1 ≤ F) && (decide (8 + (z.2.2.1 + 11) + Lw' ≤ Lw) && (decide (mc + kc' ≤ kc) && decide (ms + ks' ≤ ks)))
theorem ab_fit_of {F Lw kc ks : Nat} {z : ab_Y} {F' Lw' mc ms kc' ks' : Nat} (h : ab_fit F Lw kc ks z F' Lw' mc ms kc' ks' = true) : F' + 1 ≤ F ∧ 8 + (z.2.2.1 + 11) + Lw' ≤ Lw ∧ mc + kc' ≤ kc ∧ ms + ks' ≤ ks := by
  simp only [ab_fit, Bool.and_eq_true, decide_eq_true_eq] at h
  exact h
theorem ab_pre {s : State} {H : Heap} {locs : List Loc} {As : List Value} (hE : ab_E g s s.heap) (hB : ab_B g ≤ s.heap.size) (hS : va_S (ab_A g) s.heap H locs) (hR : ab_R g M H) : ∀ U : State, U.heap = H → s.WarmedH U.vm → va_Pc As (ab_P g M) As.toArray U := by
  intro U hU hW
  exact ⟨rfl, ab_E_warm hW hE (fun a ha hn => by rw [hU]; exact hS.2.1 a ha hn), by rw [hU]; exact Nat.le_trans hB hS.1, by rw [hU]; exact hR⟩
theorem aw_callS {i n : Nat} {z : ab_Y} {F' Lw' mc ms kc' ks' : Nat} {Q : Option Value → ab_M → Prop} {As rest : List Value} (hd : decode y.2.1 pc = .ok (.invokestatic i, 3)) (hw : ab_cS y.1.cls i z n) (hm : AM l g z F' Lw' mc ms As M Q) (hf : ab_fit F Lw kc ks z F' Lw' mc ms kc' ks' = true) (hn : As.length = n) (hst : st = As.reverse ++ rest) (h8 : (rest.map fun v => v.category).sum ≤ 8)
    (kk : ∀ (r : Option Value) (M' : ab_M), Q r M' → AW l g X Z y F Lw kc' ks' (pc + 3) L (r.toList ++ rest) M') : AW l g X Z y F Lw kc ks pc L st M := by
  intro p e R s m args below meth c H locs cells slots ls C c1 c2 hS hR hl
  obtain ⟨hx, hb, hml, hown, hts, -, -, -, -, hF1, hL1, hE, hB⟩ := id C
  obtain ⟨f1, f2, f3, f4⟩ := ab_fit_of hf
  obtain ⟨hpm, w1, w2⟩ := hw
  refine ab_call (va_runS (Ts := ab_T) (nL := y.2.2.1) ⟨hx, hb, hml, hown, hts⟩ hm ⟨⟨rfl, rfl, by show F' + 1 ≤ R.frames; omega, by show 8 + (z.2.2.1 + 11) + Lw' ≤ R.locals; omega, ab_pay hts hpm, List.mem_cons_self, hts _ hpm.2.2.1, hts _ hpm.2.2.2, hpm.1, ab_len hpm.2.1, hts _ w1⟩, hts _ w2⟩ ⟨ab_blind, ab_pre hE hB hS hR⟩ rfl hn hl.1 hst (lv_room h8) hd ⟨by omega, by omega⟩) hS (fun r M' H1 locs1 hq hR1 hS1 => kk r M' hq p e R s m args below meth c H1 locs1 _ _ ls C (by omega) (by omega) hS1 hR1 hl)
theorem aw_callN {i n : Nat} {z : ab_Y} {F' Lw' mc ms kc' ks' : Nat} {Q : Option Value → ab_M → Prop} {As rest : List Value} (hd : decode y.2.1 pc = .ok (.invokestatic i, 3)) (hw : ab_cN y.1.cls i z n) (hm : AM l g z F' Lw' mc ms As M Q) (hf : ab_fit F Lw kc ks z F' Lw' mc ms kc' ks' = true) (hn : As.length = n) (hst : st = As.reverse ++ rest) (h8 : (rest.map fun v => v.category).sum ≤ 8)
    (kk : ∀ (r : Option Value) (M' : ab_M), Q r M' → AW l g X Z y F Lw kc' ks' (pc + 3) L (r.toList ++ rest) M') : AW l g X Z y F Lw kc ks pc L st M := by
  intro p e R s m args below meth c H locs cells slots ls C c1 c2 hS hR hl
  obtain ⟨hx, hb, hml, hown, hts, -, -, -, -, hF1, hL1, hE, hB⟩ := id C
  obtain ⟨f1, f2, f3, f4⟩ := ab_fit_of hf
  obtain ⟨hpm, ⟨host, w1⟩, w2⟩ := hw
  refine ab_call (va_runSN (Ts := ab_T) (nL := y.2.2.1) ⟨hx, hb, hml, hown, hts⟩ hm ⟨⟨⟨rfl, rfl, by show F' + 1 ≤ R.frames; omega, by show 8 + (z.2.2.1 + 11) + Lw' ≤ R.locals; omega, ab_pay hts hpm, List.mem_cons_self⟩, hts _ hpm.2.2.1, hts _ hpm.2.2.2, hpm.1, ab_len hpm.2.1, va_Nw.use rfl (hE.2.1 _ w1)⟩, hts _ w2, trivial⟩ ⟨ab_blind, ab_pre hE hB hS hR⟩ rfl hn hl.1 hst (lv_room h8) hd ⟨by omega, by omega⟩) hS (fun r M' H1 locs1 hq hR1 hS1 => kk r M' hq p e R s m args below meth c H1 locs1 _ _ ls C (by omega) (by omega) hS1 hR1 hl)
theorem aw_callI {i n a : Nat} {z : ab_Y} {F' Lw' mc ms kc' ks' : Nat} {Q : Option Value → ab_M → Prop} {As rest : List Value} (hd : decode y.2.1 pc = .ok (.invokespecial i, 3)) (hw : ab_cI y.1.cls i z n) (hm : AM l g z F' Lw' mc ms (.ref a :: As) M Q) (hf : ab_fit F Lw kc ks z F' Lw' mc ms kc' ks' = true) (hn : As.length = n) (hst : st = As.reverse ++ .ref a :: rest) (h8 : (rest.map fun v => v.category).sum ≤ 8)
    (kk : ∀ (r : Option Value) (M' : ab_M), Q r M' → AW l g X Z y F Lw kc' ks' (pc + 3) L (r.toList ++ rest) M') : AW l g X Z y F Lw kc ks pc L st M := by
  intro p e R s m args below meth c H locs cells slots ls C c1 c2 hS hR hl
  obtain ⟨hx, hb, hml, hown, hts, -, -, -, -, hF1, hL1, hE, hB⟩ := id C
  obtain ⟨f1, f2, f3, f4⟩ := ab_fit_of hf
  obtain ⟨hpm, w1, w2, w3, w4⟩ := hw
  obtain ⟨z1, z2, z3, z4⟩ := z
  have w4 : z4 = none := w4
  subst w4
  refine ab_call (va_runI (Ts := ab_T) (nL := y.2.2.1) ⟨hx, hb, hml, hown, hts⟩ hm ⟨⟨rfl, rfl, by show F' + 1 ≤ R.frames; omega, by show 8 + (z3 + 11) + Lw' ≤ R.locals; dsimp only at f2; omega, ab_pay hts hpm, List.mem_cons_self, hts _ hpm.2.2.1, hts _ hpm.2.2.2, hpm.1, ab_len hpm.2.1, hts _ w1⟩, w3, hts _ w2⟩ ⟨ab_blind, ab_pre hE hB hS hR⟩ rfl hn hl.1 hst (lv_room h8) hd ⟨by omega, by omega⟩) hS (fun r M' H1 locs1 hq hR1 hS1 => kk r M' hq p e R s m args below meth c H1 locs1 _ _ ls C (by omega) (by omega) hS1 hR1 hl)
theorem aw_callJ {i n a : Nat} {z : ab_Y} {F' Lw' mc ms kc' ks' : Nat} {Q : Option Value → ab_M → Prop} {As rest : List Value} (hd : decode y.2.1 pc = .ok (.invokespecial i, 3)) (hw : ab_cJ y.1.cls i z n) (hm : AM l g z F' Lw' mc ms (.ref a :: As) M Q) (hf : ab_fit F Lw kc ks z F' Lw' mc ms kc' ks' = true) (hn : As.length = n) (hst : st = As.reverse ++ .ref a :: rest) (h8 : (rest.map fun v => v.category).sum ≤ 8)
    (kk : ∀ (r : Option Value) (M' : ab_M), Q r M' → AW l g X Z y F Lw kc' ks' (pc + 3) L (r.toList ++ rest) M') : AW l g X Z y F Lw kc ks pc L st M := by
  intro p e R s m args below meth c H locs cells slots ls C c1 c2 hS hR hl
  obtain ⟨hx, hb, hml, hown, hts, -, -, -, -, hF1, hL1, hE, hB⟩ := id C
  obtain ⟨f1, f2, f3, f4⟩ := ab_fit_of hf
  obtain ⟨hpm, ⟨host, w1⟩, w2, w3, w4⟩ := hw
  obtain ⟨z1, z2, z3, z4⟩ := z
  have w4 : z4 = none := w4
  subst w4
  refine ab_call (va_runIN (Ts := ab_T) (nL := y.2.2.1) ⟨hx, hb, hml, hown, hts⟩ hm ⟨⟨⟨rfl, rfl, by show F' + 1 ≤ R.frames; omega, by show 8 + (z3 + 11) + Lw' ≤ R.locals; dsimp only at f2; omega, ab_pay hts hpm, List.mem_cons_self⟩, hts _ hpm.2.2.1, hts _ hpm.2.2.2, hpm.1, ab_len hpm.2.1, va_Nw.use rfl (hE.2.1 _ w1)⟩, w3, hts _ w2⟩ ⟨ab_blind, ab_pre hE hB hS hR⟩ rfl hn hl.1 hst (lv_room h8) hd ⟨by omega, by omega⟩) hS (fun r M' H1 locs1 hq hR1 hS1 => kk r M' hq p e R s m args below meth c H1 locs1 _ _ ls C (by omega) (by omega) hS1 hR1 hl)
theorem aw_callV {i n a ci : Nat} {z : ab_Y} {F' Lw' mc ms kc' ks' : Nat} {t : Nat × Nat} {fs : List Value} {Q : Option Value → ab_M → Prop} {As rest : List Value} (hd : decode y.2.1 pc = .ok (.invokevirtual i, 3)) (hw : ab_cV y.1.cls i ci z n) (hM : M a = some (t, .inr (ci, fs))) (hm : AM l g z F' Lw' mc ms (.ref a :: As) M Q) (hf : ab_fit F Lw kc ks z F' Lw' mc ms kc' ks' = true) (hn : As.length = n) (hst : st = As.reverse ++ .ref a :: rest) (h8 : (rest.map fun v => v.category).sum ≤ 8)
    (kk : ∀ (r : Option Value) (M' : ab_M), Q r M' → AW l g X Z y F Lw kc' ks' (pc + 3) L (r.toList ++ rest) M') : AW l g X Z y F Lw kc ks pc L st M := by
  intro p e R s m args below meth c H locs cells slots ls C c1 c2 hS hR hl
  obtain ⟨hx, hb, hml, hown, hts, -, -, -, -, hF1, hL1, hE, hB⟩ := id C
  obtain ⟨f1, f2, f3, f4⟩ := ab_fit_of hf
  obtain ⟨hpm, C0, T0, N0, hc, h | h⟩ := hw
  · obtain ⟨rfl, w1, w2, w3⟩ := h
    refine ab_call (va_runV (Ts := ab_T) (nL := y.2.2.1) ⟨hx, hb, hml, hown, hts⟩ hm ⟨⟨rfl, rfl, by show F' + 1 ≤ R.frames; omega, by show 8 + (z.2.2.1 + 11) + Lw' ≤ R.locals; omega, ab_pay hts hpm, List.mem_cons_self, hts _ hpm.2.2.1, hts _ hpm.2.2.2, hpm.1, ab_len hpm.2.1, hts _ w1⟩, hts _ w2, hts _ w3⟩ ⟨ab_blind, ab_recv hE hR hM hc, ab_pre hE hB hS hR⟩ rfl hn hl.1 hst (lv_room h8) hd ⟨by omega, by omega⟩) hS (fun r M' H1 locs1 hq hR1 hS1 => kk r M' hq p e R s m args below meth c H1 locs1 _ _ ls C (by omega) (by omega) hS1 hR1 hl)
  · obtain ⟨x, owner, b0, m0, r0, w0, wl, w1, w2, w3, w4, w5, w6⟩ := h
    refine ab_call (va_runU (Ts := ab_T) (nL := y.2.2.1) (owner := owner) (x := x) ⟨hx, hb, hml, hown, hts⟩ hm ⟨⟨rfl, rfl, by show F' + 1 ≤ R.frames; omega, by show 8 + (z.2.2.1 + 11) + Lw' ≤ R.locals; omega, ab_pay hts hpm, List.mem_cons_self⟩, hts _ hpm.2.2.1, hts _ hpm.2.2.2, w0, ab_len wl, hts _ w1, hts _ w2, va_Decl.of (hts _ w3) (hts _ w4), hts _ w5, hts _ w6⟩ ⟨ab_blind, ab_recv hE hR hM hc, ab_pre hE hB hS hR⟩ rfl hn hl.1 hst (lv_room h8) hd ⟨by omega, by omega⟩) hS (fun r M' H1 locs1 hq hR1 hS1 => kk r M' hq p e R s m args below meth c H1 locs1 _ _ ls C (by omega) (by omega) hS1 hR1 hl)
/-! what a method answers: void, int, long, a reference or null -/
abbrev ab_Qv (Q : ab_M → Prop) : Option Value → ab_M → Prop := fun r M' => r = none ∧ Q M'
abbrev ab_Qi (Q : Int32 → ab_M → Prop) : Option Value → ab_M → Prop := fun r M' => ∃ x : Int32, r = some (.int x) ∧ Q x M'
abbrev ab_Ql (Q : Int64 → ab_M → Prop) : Option Value → ab_M → Prop := fun r M' => ∃ x : Int64, r = some (.long x) ∧ Q x M'
abbrev ab_Qr (Q : Nat → ab_M → Prop) : Option Value → ab_M → Prop := fun r M' => ∃ x : Nat, r = some (.ref x) ∧ Q x M'
abbrev ab_Qq (Q : Option Nat → ab_M → Prop) : Option Value → ab_M → Prop := fun r M' => ∃ x : Option Nat, r = some (va_rf x) ∧ Q x M'
theorem ab_wide {p : Program} {e : Env} {R : Room} {s : State} {m : MethodId} {args : Array Value} {below : List Frame} {meth : Method} {c : Code} {H : Heap} {locs : List Loc} {cells slots : Nat} {QQ : State → Prop} {f : JFrame} (c1 : cells + kc ≤ R.cells) (c2 : slots + ks ≤ R.slots) (h : W p l e R s m args below meth c H locs R.cells R.slots QQ f) : W p l e R s m args below meth c H locs cells slots QQ f := W.widen (by omega) (by omega) h
theorem ab_q {s : State} {H : Heap} {locs : List Loc} {args : Array Value} {Q : Option Value → ab_M → Prop} {r : Option Value} (hS : va_S (ab_A g) s.heap H locs) (hR : ab_R g M H) (hq : Q r M) : ∀ t : State, t.heap = H → s.WarmedH t.vm → ab_Qc g Q args s (.returned r) t := by
  intro t ht hW
  exact ⟨⟨r, M, rfl, hq, by rw [ht]; exact hR⟩, hS.F ht⟩
theorem aw_vret {Q : ab_M → Prop} (hd : decode y.2.1 pc = .ok (.return_, 1)) (hr : y.2.2.2 = none) (hq : Q M) : AW l g X (ab_Z g (ab_Qv Q)) y F Lw kc ks pc L [] M := by
  intro p e R s m args below meth c H locs cells slots ls C c1 c2 hS hR hl
  obtain ⟨hx, hb, hml, hown, hts, hlk, hrt, -⟩ := id C
  exact ab_wide c1 c2 (W.vret hx hb (hrt.trans hr) (ab_q hS hR ⟨rfl, hq⟩) hS.2.2 hd hlk)
theorem aw_iret {x : Int32} {Q : Int32 → ab_M → Prop} (hd : decode y.2.1 pc = .ok (.ireturn, 1)) (hr : y.2.2.2 = some .int) (hq : Q x M) : AW l g X (ab_Z g (ab_Qi Q)) y F Lw kc ks pc L [.int x] M := by
  intro p e R s m args below meth c H locs cells slots ls C c1 c2 hS hR hl
  obtain ⟨hx, hb, hml, hown, hts, hlk, hrt, -⟩ := id C
  exact ab_wide c1 c2 (W.iret hx hb (hrt.trans hr) (ab_q hS hR ⟨x, rfl, hq⟩) hS.2.2 hd hlk)
theorem aw_zret {x : Int32} {Q : Int32 → ab_M → Prop} (hd : decode y.2.1 pc = .ok (.ireturn, 1)) (hr : y.2.2.2 = some .boolean) (hn : narrow .boolean (.int x) = .int x) (hq : Q x M) : AW l g X (ab_Z g (ab_Qi Q)) y F Lw kc ks pc L [.int x] M := by
  intro p e R s m args below meth c H locs cells slots ls C c1 c2 hS hR hl
  obtain ⟨hx, hb, hml, hown, hts, hlk, hrt, -⟩ := id C
  exact ab_wide c1 c2 (W.zret hx hb (hrt.trans hr) hn (ab_q hS hR ⟨x, rfl, hq⟩) hS.2.2 hd hlk)
theorem aw_lret {x : Int64} {Q : Int64 → ab_M → Prop} (hd : decode y.2.1 pc = .ok (.lreturn, 1)) (hr : y.2.2.2 = some .long) (hq : Q x M) : AW l g X (ab_Z g (ab_Ql Q)) y F Lw kc ks pc L [.long x] M := by
  intro p e R s m args below meth c H locs cells slots ls C c1 c2 hS hR hl
  obtain ⟨hx, hb, hml, hown, hts, hlk, hrt, -⟩ := id C
  exact ab_wide c1 c2 (W.lret hx hb (hrt.trans hr) (ab_q hS hR ⟨x, rfl, hq⟩) hS.2.2 hd hlk)
theorem aw_rret {x : Nat} {Q : Nat → ab_M → Prop} {rt : FieldType} (hd : decode y.2.1 pc = .ok (.areturn, 1)) (hr : y.2.2.2 = some rt) (hrt2 : (∃ n, rt = .object n) ∨ ∃ t, rt = .array t) (hq : Q x M) : AW l g X (ab_Z g (ab_Qr Q)) y F Lw kc ks pc L [.ref x] M := by
  intro p e R s m args below meth c H locs cells slots ls C c1 c2 hS hR hl
  obtain ⟨hx, hb, hml, hown, hts, hlk, hrt, -⟩ := id C
  exact ab_wide c1 c2 (W.aret hx hb (hrt.trans hr) hrt2 (Or.inr ⟨x, rfl⟩) (ab_q hS hR ⟨x, rfl, hq⟩) hS.2.2 hd hlk)
theorem aw_qret {x : Option Nat} {Q : Option Nat → ab_M → Prop} {rt : FieldType} (hd : decode y.2.1 pc = .ok (.areturn, 1)) (hr : y.2.2.2 = some rt) (hrt2 : (∃ n, rt = .object n) ∨ ∃ t, rt = .array t) (hq : Q x M) : AW l g X (ab_Z g (ab_Qq Q)) y F Lw kc ks pc L [va_rf x] M := by
  intro p e R s m args below meth c H locs cells slots ls C c1 c2 hS hR hl
  obtain ⟨hx, hb, hml, hown, hts, hlk, hrt, -⟩ := id C
  refine ab_wide c1 c2 (W.aret hx hb (hrt.trans hr) hrt2 ?_ (ab_q hS hR ⟨x, rfl, hq⟩) hS.2.2 hd hlk)
  cases x with
  | none => exact Or.inl rfl
  | some a => exact Or.inr ⟨a, rfl⟩

theorem aw_S0v {i : Nat} {z : ab_Y} {F' Lw' mc ms kc' ks' : Nat} {Q : ab_M → Prop} {rest : List Value} (hd : decode y.2.1 pc = .ok (.invokestatic i, 3)) (hw : ab_cS y.1.cls i z 0) (hm : AM l g z F' Lw' mc ms ([]) M (ab_Qv Q)) (hf : ab_fit F Lw kc ks z F' Lw' mc ms kc' ks' = true) (h8 : (rest.map fun v => v.category).sum ≤ 8) (kk : ∀ (M' : ab_M), Q M' → AW l g X Z y F Lw kc' ks' (pc + 3) L (rest) M') : AW l g X Z y F Lw kc ks pc L (rest) M :=
  aw_callS (As := []) (rest := rest) hd hw hm hf rfl rfl h8 (fun r M' h => by
    obtain ⟨rfl, h⟩ := h
    exact kk M' h)
theorem aw_S0i {i : Nat} {z : ab_Y} {F' Lw' mc ms kc' ks' : Nat} {Q : Int32 → ab_M → Prop} {rest : List Value} (hd : decode y.2.1 pc = .ok (.invokestatic i, 3)) (hw : ab_cS y.1.cls i z 0) (hm : AM l g z F' Lw' mc ms ([]) M (ab_Qi Q)) (hf : ab_fit F Lw kc ks z F' Lw' mc ms kc' ks' = true) (h8 : (rest.map fun v => v.category).sum ≤ 8) (kk : ∀ (x : Int32) (M' : ab_M), Q x M' → AW l g X Z y F Lw kc' ks' (pc + 3) L (.int x :: rest) M') : AW l g X Z y F Lw kc ks pc L (rest) M :=
  aw_callS (As := []) (rest := rest) hd hw hm hf rfl rfl h8 (fun r M' h => by
    obtain ⟨x, rfl, h⟩ := h
    exact kk x M' h)
theorem aw_S0l {i : Nat} {z : ab_Y} {F' Lw' mc ms kc' ks' : Nat} {Q : Int64 → ab_M → Prop} {rest : List Value} (hd : decode y.2.1 pc = .ok (.invokestatic i, 3)) (hw : ab_cS y.1.cls i z 0) (hm : AM l g z F' Lw' mc ms ([]) M (ab_Ql Q)) (hf : ab_fit F Lw kc ks z F' Lw' mc ms kc' ks' = true) (h8 : (rest.map fun v => v.category).sum ≤ 8) (kk : ∀ (x : Int64) (M' : ab_M), Q x M' → AW l g X Z y F Lw kc' ks' (pc + 3) L (.long x :: rest) M') : AW l g X Z y F Lw kc ks pc L (rest) M :=
  aw_callS (As := []) (rest := rest) hd hw hm hf rfl rfl h8 (fun r M' h => by
    obtain ⟨x, rfl, h⟩ := h
    exact kk x M' h)
theorem aw_S0r {i : Nat} {z : ab_Y} {F' Lw' mc ms kc' ks' : Nat} {Q : Nat → ab_M → Prop} {rest : List Value} (hd : decode y.2.1 pc = .ok (.invokestatic i, 3)) (hw : ab_cS y.1.cls i z 0) (hm : AM l g z F' Lw' mc ms ([]) M (ab_Qr Q)) (hf : ab_fit F Lw kc ks z F' Lw' mc ms kc' ks' = true) (h8 : (rest.map fun v => v.category).sum ≤ 8) (kk : ∀ (x : Nat) (M' : ab_M), Q x M' → AW l g X Z y F Lw kc' ks' (pc + 3) L (.ref x :: rest) M') : AW l g X Z y F Lw kc ks pc L (rest) M :=
  aw_callS (As := []) (rest := rest) hd hw hm hf rfl rfl h8 (fun r M' h => by
    obtain ⟨x, rfl, h⟩ := h
    exact kk x M' h)
theorem aw_S0q {i : Nat} {z : ab_Y} {F' Lw' mc ms kc' ks' : Nat} {Q : Option Nat → ab_M → Prop} {rest : List Value} (hd : decode y.2.1 pc = .ok (.invokestatic i, 3)) (hw : ab_cS y.1.cls i z 0) (hm : AM l g z F' Lw' mc ms ([]) M (ab_Qq Q)) (hf : ab_fit F Lw kc ks z F' Lw' mc ms kc' ks' = true) (h8 : (rest.map fun v => v.category).sum ≤ 8) (kk : ∀ (x : Option Nat) (M' : ab_M), Q x M' → AW l g X Z y F Lw kc' ks' (pc + 3) L (va_rf x :: rest) M') : AW l g X Z y F Lw kc ks pc L (rest) M :=
  aw_callS (As := []) (rest := rest) hd hw hm hf rfl rfl h8 (fun r M' h => by
    obtain ⟨x, rfl, h⟩ := h
    exact kk x M' h)
theorem aw_S1v {i : Nat} {z : ab_Y} {F' Lw' mc ms kc' ks' : Nat} {Q : ab_M → Prop} {v1 : Value} {rest : List Value} (hd : decode y.2.1 pc = .ok (.invokestatic i, 3)) (hw : ab_cS y.1.cls i z 1) (hm : AM l g z F' Lw' mc ms ([v1]) M (ab_Qv Q)) (hf : ab_fit F Lw kc ks z F' Lw' mc ms kc' ks' = true) (h8 : (rest.map fun v => v.category).sum ≤ 8) (kk : ∀ (M' : ab_M), Q M' → AW l g X Z y F Lw kc' ks' (pc + 3) L (rest) M') : AW l g X Z y F Lw kc ks pc L (v1 :: rest) M :=
  aw_callS (As := [v1]) (rest := rest) hd hw hm hf rfl rfl h8 (fun r M' h => by
    obtain ⟨rfl, h⟩ := h
    exact kk M' h)
theorem aw_S1i {i : Nat} {z : ab_Y} {F' Lw' mc ms kc' ks' : Nat} {Q : Int32 → ab_M → Prop} {v1 : Value} {rest : List Value} (hd : decode y.2.1 pc = .ok (.invokestatic i, 3)) (hw : ab_cS y.1.cls i z 1) (hm : AM l g z F' Lw' mc ms ([v1]) M (ab_Qi Q)) (hf : ab_fit F Lw kc ks z F' Lw' mc ms kc' ks' = true) (h8 : (rest.map fun v => v.category).sum ≤ 8) (kk : ∀ (x : Int32) (M' : ab_M), Q x M' → AW l g X Z y F Lw kc' ks' (pc + 3) L (.int x :: rest) M') : AW l g X Z y F Lw kc ks pc L (v1 :: rest) M :=
  aw_callS (As := [v1]) (rest := rest) hd hw hm hf rfl rfl h8 (fun r M' h => by
    obtain ⟨x, rfl, h⟩ := h
    exact kk x M' h)
theorem aw_S1l {i : Nat} {z : ab_Y} {F' Lw' mc ms kc' ks' : Nat} {Q : Int64 → ab_M → Prop} {v1 : Value} {rest : List Value} (hd : decode y.2.1 pc = .ok (.invokestatic i, 3)) (hw : ab_cS y.1.cls i z 1) (hm : AM l g z F' Lw' mc ms ([v1]) M (ab_Ql Q)) (hf : ab_fit F Lw kc ks z F' Lw' mc ms kc' ks' = true) (h8 : (rest.map fun v => v.category).sum ≤ 8) (kk : ∀ (x : Int64) (M' : ab_M), Q x M' → AW l g X Z y F Lw kc' ks' (pc + 3) L (.long x :: rest) M') : AW l g X Z y F Lw kc ks pc L (v1 :: rest) M :=
  aw_callS (As := [v1]) (rest := rest) hd hw hm hf rfl rfl h8 (fun r M' h => by
    obtain ⟨x, rfl, h⟩ := h
    exact kk x M' h)
theorem aw_S1r {i : Nat} {z : ab_Y} {F' Lw' mc ms kc' ks' : Nat} {Q : Nat → ab_M → Prop} {v1 : Value} {rest : List Value} (hd : decode y.2.1 pc = .ok (.invokestatic i, 3)) (hw : ab_cS y.1.cls i z 1) (hm : AM l g z F' Lw' mc ms ([v1]) M (ab_Qr Q)) (hf : ab_fit F Lw kc ks z F' Lw' mc ms kc' ks' = true) (h8 : (rest.map fun v => v.category).sum ≤ 8) (kk : ∀ (x : Nat) (M' : ab_M), Q x M' → AW l g X Z y F Lw kc' ks' (pc + 3) L (.ref x :: rest) M') : AW l g X Z y F Lw kc ks pc L (v1 :: rest) M :=
  aw_callS (As := [v1]) (rest := rest) hd hw hm hf rfl rfl h8 (fun r M' h => by
    obtain ⟨x, rfl, h⟩ := h
    exact kk x M' h)
theorem aw_S1q {i : Nat} {z : ab_Y} {F' Lw' mc ms kc' ks' : Nat} {Q : Option Nat → ab_M → Prop} {v1 : Value} {rest : List Value} (hd : decode y.2.1 pc = .ok (.invokestatic i, 3)) (hw : ab_cS y.1.cls i z 1) (hm : AM l g z F' Lw' mc ms ([v1]) M (ab_Qq Q)) (hf : ab_fit F Lw kc ks z F' Lw' mc ms kc' ks' = true) (h8 : (rest.map fun v => v.category).sum ≤ 8) (kk : ∀ (x : Option Nat) (M' : ab_M), Q x M' → AW l g X Z y F Lw kc' ks' (pc + 3) L (va_rf x :: rest) M') : AW l g X Z y F Lw kc ks pc L (v1 :: rest) M :=
  aw_callS (As := [v1]) (rest := rest) hd hw hm hf rfl rfl h8 (fun r M' h => by
    obtain ⟨x, rfl, h⟩ := h
    exact kk x M' h)
theorem aw_S2v {i : Nat} {z : ab_Y} {F' Lw' mc ms kc' ks' : Nat} {Q : ab_M → Prop} {v1 v2 : Value} {rest : List Value} (hd : decode y.2.1 pc = .ok (.invokestatic i, 3)) (hw : ab_cS y.1.cls i z 2) (hm : AM l g z F' Lw' mc ms ([v1, v2]) M (ab_Qv Q)) (hf : ab_fit F Lw kc ks z F' Lw' mc ms kc' ks' = true) (h8 : (rest.map fun v => v.category).sum ≤ 8) (kk : ∀ (M' : ab_M), Q M' → AW l g X Z y F Lw kc' ks' (pc + 3) L (rest) M') : AW l g X Z y F Lw kc ks pc L (v2 :: v1 :: rest) M :=
  aw_callS (As := [v1, v2]) (rest := rest) hd hw hm hf rfl rfl h8 (fun r M' h => by
    obtain ⟨rfl, h⟩ := h
    exact kk M' h)
theorem aw_S2i {i : Nat} {z : ab_Y} {F' Lw' mc ms kc' ks' : Nat} {Q : Int32 → ab_M → Prop} {v1 v2 : Value} {rest : List Value} (hd : decode y.2.1 pc = .ok (.invokestatic i, 3)) (hw : ab_cS y.1.cls i z 2) (hm : AM l g z F' Lw' mc ms ([v1, v2]) M (ab_Qi Q)) (hf : ab_fit F Lw kc ks z F' Lw' mc ms kc' ks' = true) (h8 : (rest.map fun v => v.category).sum ≤ 8) (kk : ∀ (x : Int32) (M' : ab_M), Q x M' → AW l g X Z y F Lw kc' ks' (pc + 3) L (.int x :: rest) M') : AW l g X Z y F Lw kc ks pc L (v2 :: v1 :: rest) M :=
  aw_callS (As := [v1, v2]) (rest := rest) hd hw hm hf rfl rfl h8 (fun r M' h => by
    obtain ⟨x, rfl, h⟩ := h
    exact kk x M' h)
theorem aw_S2l {i : Nat} {z : ab_Y} {F' Lw' mc ms kc' ks' : Nat} {Q : Int64 → ab_M → Prop} {v1 v2 : Value} {rest : List Value} (hd : decode y.2.1 pc = .ok (.invokestatic i, 3)) (hw : ab_cS y.1.cls i z 2) (hm : AM l g z F' Lw' mc ms ([v1, v2]) M (ab_Ql Q)) (hf : ab_fit F Lw kc ks z F' Lw' mc ms kc' ks' = true) (h8 : (rest.map fun v => v.category).sum ≤ 8) (kk : ∀ (x : Int64) (M' : ab_M), Q x M' → AW l g X Z y F Lw kc' ks' (pc + 3) L (.long x :: rest) M') : AW l g X Z y F Lw kc ks pc L (v2 :: v1 :: rest) M :=
  aw_callS (As := [v1, v2]) (rest := rest) hd hw hm hf rfl rfl h8 (fun r M' h => by
    obtain ⟨x, rfl, h⟩ := h
    exact kk x M' h)
theorem aw_S2r {i : Nat} {z : ab_Y} {F' Lw' mc ms kc' ks' : Nat} {Q : Nat → ab_M → Prop} {v1 v2 : Value} {rest : List Value} (hd : decode y.2.1 pc = .ok (.invokestatic i, 3)) (hw : ab_cS y.1.cls i z 2) (hm : AM l g z F' Lw' mc ms ([v1, v2]) M (ab_Qr Q)) (hf : ab_fit F Lw kc ks z F' Lw' mc ms kc' ks' = true) (h8 : (rest.map fun v => v.category).sum ≤ 8) (kk : ∀ (x : Nat) (M' : ab_M), Q x M' → AW l g X Z y F Lw kc' ks' (pc + 3) L (.ref x :: rest) M') : AW l g X Z y F Lw kc ks pc L (v2 :: v1 :: rest) M :=
  aw_callS (As := [v1, v2]) (rest := rest) hd hw hm hf rfl rfl h8 (fun r M' h => by
    obtain ⟨x, rfl, h⟩ := h
    exact kk x M' h)
theorem aw_S2q {i : Nat} {z : ab_Y} {F' Lw' mc ms kc' ks' : Nat} {Q : Option Nat → ab_M → Prop} {v1 v2 : Value} {rest : List Value} (hd : decode y.2.1 pc = .ok (.invokestatic i, 3)) (hw : ab_cS y.1.cls i z 2) (hm : AM l g z F' Lw' mc ms ([v1, v2]) M (ab_Qq Q)) (hf : ab_fit F Lw kc ks z F' Lw' mc ms kc' ks' = true) (h8 : (rest.map fun v => v.category).sum ≤ 8) (kk : ∀ (x : Option Nat) (M' : ab_M), Q x M' → AW l g X Z y F Lw kc' ks' (pc + 3) L (va_rf x :: rest) M') : AW l g X Z y F Lw kc ks pc L (v2 :: v1 :: rest) M :=
  aw_callS (As := [v1, v2]) (rest := rest) hd hw hm hf rfl rfl h8 (fun r M' h => by
    obtain ⟨x, rfl, h⟩ := h
    exact kk x M' h)
theorem aw_S3v {i : Nat} {z : ab_Y} {F' Lw' mc ms kc' ks' : Nat} {Q : ab_M → Prop} {v1 v2 v3 : Value} {rest : List Value} (hd : decode y.2.1 pc = .ok (.invokestatic i, 3)) (hw : ab_cS y.1.cls i z 3) (hm : AM l g z F' Lw' mc ms ([v1, v2, v3]) M (ab_Qv Q)) (hf : ab_fit F Lw kc ks z F' Lw' mc ms kc' ks' = true) (h8 : (rest.map fun v => v.category).sum ≤ 8) (kk : ∀ (M' : ab_M), Q M' → AW l g X Z y F Lw kc' ks' (pc + 3) L (rest) M') : AW l g X Z y F Lw kc ks pc L (v3 :: v2 :: v1 :: rest) M :=
  aw_callS (As := [v1, v2, v3]) (rest := rest) hd hw hm hf rfl rfl h8 (fun r M' h => by
    obtain ⟨rfl, h⟩ := h
    exact kk M' h)
theorem aw_S3i {i : Nat} {z : ab_Y} {F' Lw' mc ms kc' ks' : Nat} {Q : Int32 → ab_M → Prop} {v1 v2 v3 : Value} {rest : List Value} (hd : decode y.2.1 pc = .ok (.invokestatic i, 3)) (hw : ab_cS y.1.cls i z 3) (hm : AM l g z F' Lw' mc ms ([v1, v2, v3]) M (ab_Qi Q)) (hf : ab_fit F Lw kc ks z F' Lw' mc ms kc' ks' = true) (h8 : (rest.map fun v => v.category).sum ≤ 8) (kk : ∀ (x : Int32) (M' : ab_M), Q x M' → AW l g X Z y F Lw kc' ks' (pc + 3) L (.int x :: rest) M') : AW l g X Z y F Lw kc ks pc L (v3 :: v2 :: v1 :: rest) M :=
  aw_callS (As := [v1, v2, v3]) (rest := rest) hd hw hm hf rfl rfl h8 (fun r M' h => by
    obtain ⟨x, rfl, h⟩ := h
    exact kk x M' h)
theorem aw_S3l {i : Nat} {z : ab_Y} {F' Lw' mc ms kc' ks' : Nat} {Q : Int64 → ab_M → Prop} {v1 v2 v3 : Value} {rest : List Value} (hd : decode y.2.1 pc = .ok (.invokestatic i, 3)) (hw : ab_cS y.1.cls i z 3) (hm : AM l g z F' Lw' mc ms ([v1, v2, v3]) M (ab_Ql Q)) (hf : ab_fit F Lw kc ks z F' Lw' mc ms kc' ks' = true) (h8 : (rest.map fun v => v.category).sum ≤ 8) (kk : ∀ (x : Int64) (M' : ab_M), Q x M' → AW l g X Z y F Lw kc' ks' (pc + 3) L (.long x :: rest) M') : AW l g X Z y F Lw kc ks pc L (v3 :: v2 :: v1 :: rest) M :=
  aw_callS (As := [v1, v2, v3]) (rest := rest) hd hw hm hf rfl rfl h8 (fun r M' h => by
    obtain ⟨x, rfl, h⟩ := h
    exact kk x M' h)
theorem aw_S3r {i : Nat} {z : ab_Y} {F' Lw' mc ms kc' ks' : Nat} {Q : Nat → ab_M → Prop} {v1 v2 v3 : Value} {rest : List Value} (hd : decode y.2.1 pc = .ok (.invokestatic i, 3)) (hw : ab_cS y.1.cls i z 3) (hm : AM l g z F' Lw' mc ms ([v1, v2, v3]) M (ab_Qr Q)) (hf : ab_fit F Lw kc ks z F' Lw' mc ms kc' ks' = true) (h8 : (rest.map fun v => v.category).sum ≤ 8) (kk : ∀ (x : Nat) (M' : ab_M), Q x M' → AW l g X Z y F Lw kc' ks' (pc + 3) L (.ref x :: rest) M') : AW l g X Z y F Lw kc ks pc L (v3 :: v2 :: v1 :: rest) M :=
  aw_callS (As := [v1, v2, v3]) (rest := rest) hd hw hm hf rfl rfl h8 (fun r M' h => by
    obtain ⟨x, rfl, h⟩ := h
    exact kk x M' h)
theorem aw_S3q {i : Nat} {z : ab_Y} {F' Lw' mc ms kc' ks' : Nat} {Q : Option Nat → ab_M → Prop} {v1 v2 v3 : Value} {rest : List Value} (hd : decode y.2.1 pc = .ok (.invokestatic i, 3)) (hw : ab_cS y.1.cls i z 3) (hm : AM l g z F' Lw' mc ms ([v1, v2, v3]) M (ab_Qq Q)) (hf : ab_fit F Lw kc ks z F' Lw' mc ms kc' ks' = true) (h8 : (rest.map fun v => v.category).sum ≤ 8) (kk : ∀ (x : Option Nat) (M' : ab_M), Q x M' → AW l g X Z y F Lw kc' ks' (pc + 3) L (va_rf x :: rest) M') : AW l g X Z y F Lw kc ks pc L (v3 :: v2 :: v1 :: rest) M :=
  aw_callS (As := [v1, v2, v3]) (rest := rest) hd hw hm hf rfl rfl h8 (fun r M' h => by
    obtain ⟨x, rfl, h⟩ := h
    exact kk x M' h)
theorem aw_S4v {i : Nat} {z : ab_Y} {F' Lw' mc ms kc' ks' : Nat} {Q : ab_M → Prop} {v1 v2 v3 v4 : Value} {rest : List Value} (hd : decode y.2.1 pc = .ok (.invokestatic i, 3)) (hw : ab_cS y.1.cls i z 4) (hm : AM l g z F' Lw' mc ms ([v1, v2, v3, v4]) M (ab_Qv Q)) (hf : ab_fit F Lw kc ks z F' Lw' mc ms kc' ks' = true) (h8 : (rest.map fun v => v.category).sum ≤ 8) (kk : ∀ (M' : ab_M), Q M' → AW l g X Z y F Lw kc' ks' (pc + 3) L (rest) M') : AW l g X Z y F Lw kc ks pc L (v4 :: v3 :: v2 :: v1 :: rest) M :=
  aw_callS (As := [v1, v2, v3, v4]) (rest := rest) hd hw hm hf rfl rfl h8 (fun r M' h => by
    obtain ⟨rfl, h⟩ := h
    exact kk M' h)
theorem aw_S4i {i : Nat} {z : ab_Y} {F' Lw' mc ms kc' ks' : Nat} {Q : Int32 → ab_M → Prop} {v1 v2 v3 v4 : Value} {rest : List Value} (hd : decode y.2.1 pc = .ok (.invokestatic i, 3)) (hw : ab_cS y.1.cls i z 4) (hm : AM l g z F' Lw' mc ms ([v1, v2, v3, v4]) M (ab_Qi Q)) (hf : ab_fit F Lw kc ks z F' Lw' mc ms kc' ks' = true) (h8 : (rest.map fun v => v.category).sum ≤ 8) (kk : ∀ (x : Int32) (M' : ab_M), Q x M' → AW l g X Z y F Lw kc' ks' (pc + 3) L (.int x :: rest) M') : AW l g X Z y F Lw kc ks pc L (v4 :: v3 :: v2 :: v1 :: rest) M :=
  aw_callS (As := [v1, v2, v3, v4]) (rest := rest) hd hw hm hf rfl rfl h8 (fun r M' h => by
    obtain ⟨x, rfl, h⟩ := h
    exact kk x M' h)
theorem aw_S4l {i : Nat} {z : ab_Y} {F' Lw' mc ms kc' ks' : Nat} {Q : Int64 → ab_M → Prop} {v1 v2 v3 v4 : Value} {rest : List Value} (hd : decode y.2.1 pc = .ok (.invokestatic i, 3)) (hw : ab_cS y.1.cls i z 4) (hm : AM l g z F' Lw' mc ms ([v1, v2, v3, v4]) M (ab_Ql Q)) (hf : ab_fit F Lw kc ks z F' Lw' mc ms kc' ks' = true) (h8 : (rest.map fun v => v.category).sum ≤ 8) (kk : ∀ (x : Int64) (M' : ab_M), Q x M' → AW l g X Z y F Lw kc' ks' (pc + 3) L (.long x :: rest) M') : AW l g X Z y F Lw kc ks pc L (v4 :: v3 :: v2 :: v1 :: rest) M :=
  aw_callS (As := [v1, v2, v3, v4]) (rest := rest) hd hw hm hf rfl rfl h8 (fun r M' h => by
    obtain ⟨x, rfl, h⟩ := h
    exact kk x M' h)
theorem aw_S4r {i : Nat} {z : ab_Y} {F' Lw' mc ms kc' ks' : Nat} {Q : Nat → ab_M → Prop} {v1 v2 v3 v4 : Value} {rest : List Value} (hd : decode y.2.1 pc = .ok (.invokestatic i, 3)) (hw : ab_cS y.1.cls i z 4) (hm : AM l g z F' Lw' mc ms ([v1, v2, v3, v4]) M (ab_Qr Q)) (hf : ab_fit F Lw kc ks z F' Lw' mc ms kc' ks' = true) (h8 : (rest.map fun v => v.category).sum ≤ 8) (kk : ∀ (x : Nat) (M' : ab_M), Q x M' → AW l g X Z y F Lw kc' ks' (pc + 3) L (.ref x :: rest) M') : AW l g X Z y F Lw kc ks pc L (v4 :: v3 :: v2 :: v1 :: rest) M :=
  aw_callS (As := [v1, v2, v3, v4]) (rest := rest) hd hw hm hf rfl rfl h8 (fun r M' h => by
    obtain ⟨x, rfl, h⟩ := h
    exact kk x M' h)
theorem aw_S4q {i : Nat} {z : ab_Y} {F' Lw' mc ms kc' ks' : Nat} {Q : Option Nat → ab_M → Prop} {v1 v2 v3 v4 : Value} {rest : List Value} (hd : decode y.2.1 pc = .ok (.invokestatic i, 3)) (hw : ab_cS y.1.cls i z 4) (hm : AM l g z F' Lw' mc ms ([v1, v2, v3, v4]) M (ab_Qq Q)) (hf : ab_fit F Lw kc ks z F' Lw' mc ms kc' ks' = true) (h8 : (rest.map fun v => v.category).sum ≤ 8) (kk : ∀ (x : Option Nat) (M' : ab_M), Q x M' → AW l g X Z y F Lw kc' ks' (pc + 3) L (va_rf x :: rest) M') : AW l g X Z y F Lw kc ks pc L (v4 :: v3 :: v2 :: v1 :: rest) M :=
  aw_callS (As := [v1, v2, v3, v4]) (rest := rest) hd hw hm hf rfl rfl h8 (fun r M' h => by
    obtain ⟨x, rfl, h⟩ := h
    exact kk x M' h)
theorem aw_S5v {i : Nat} {z : ab_Y} {F' Lw' mc ms kc' ks' : Nat} {Q : ab_M → Prop} {v1 v2 v3 v4 v5 : Value} {rest : List Value} (hd : decode y.2.1 pc = .ok (.invokestatic i, 3)) (hw : ab_cS y.1.cls i z 5) (hm : AM l g z F' Lw' mc ms ([v1, v2, v3, v4, v5]) M (ab_Qv Q)) (hf : ab_fit F Lw kc ks z F' Lw' mc ms kc' ks' = true) (h8 : (rest.map fun v => v.category).sum ≤ 8) (kk : ∀ (M' : ab_M), Q M' → AW l g X Z y F Lw kc' ks' (pc + 3) L (rest) M') : AW l g X Z y F Lw kc ks pc L (v5 :: v4 :: v3 :: v2 :: v1 :: rest) M :=
  aw_callS (As := [v1, v2, v3, v4, v5]) (rest := rest) hd hw hm hf rfl rfl h8 (fun r M' h => by
    obtain ⟨rfl, h⟩ := h
    exact kk M' h)
theorem aw_S5i {i : Nat} {z : ab_Y} {F' Lw' mc ms kc' ks' : Nat} {Q : Int32 → ab_M → Prop} {v1 v2 v3 v4 v5 : Value} {rest : List Value} (hd : decode y.2.1 pc = .ok (.invokestatic i, 3)) (hw : ab_cS y.1.cls i z 5) (hm : AM l g z F' Lw' mc ms ([v1, v2, v3, v4, v5]) M (ab_Qi Q)) (hf : ab_fit F Lw kc ks z F' Lw' mc ms kc' ks' = true) (h8 : (rest.map fun v => v.category).sum ≤ 8) (kk : ∀ (x : Int32) (M' : ab_M), Q x M' → AW l g X Z y F Lw kc' ks' (pc + 3) L (.int x :: rest) M') : AW l g X Z y F Lw kc ks pc L (v5 :: v4 :: v3 :: v2 :: v1 :: rest) M :=
  aw_callS (As := [v1, v2, v3, v4, v5]) (rest := rest) hd hw hm hf rfl rfl h8 (fun r M' h => by
    obtain ⟨x, rfl, h⟩ := h
    exact kk x M' h)
theorem aw_S5l {i : Nat} {z : ab_Y} {F' Lw' mc ms kc' ks' : Nat} {Q : Int64 → ab_M → Prop} {v1 v2 v3 v4 v5 : Value} {rest : List Value} (hd : decode y.2.1 pc = .ok (.invokestatic i, 3)) (hw : ab_cS y.1.cls i z 5) (hm : AM l g z F' Lw' mc ms ([v1, v2, v3, v4, v5]) M (ab_Ql Q)) (hf : ab_fit F Lw kc ks z F' Lw' mc ms kc' ks' = true) (h8 : (rest.map fun v => v.category).sum ≤ 8) (kk : ∀ (x : Int64) (M' : ab_M), Q x M' → AW l g X Z y F Lw kc' ks' (pc + 3) L (.long x :: rest) M') : AW l g X Z y F Lw kc ks pc L (v5 :: v4 :: v3 :: v2 :: v1 :: rest) M :=
  aw_callS (As := [v1, v2, v3, v4, v5]) (rest := rest) hd hw hm hf rfl rfl h8 (fun r M' h => by
    obtain ⟨x, rfl, h⟩ := h
    exact kk x M' h)
theorem aw_S5r {i : Nat} {z : ab_Y} {F' Lw' mc ms kc' ks' : Nat} {Q : Nat → ab_M → Prop} {v1 v2 v3 v4 v5 : Value} {rest : List Value} (hd : decode y.2.1 pc = .ok (.invokestatic i, 3)) (hw : ab_cS y.1.cls i z 5) (hm : AM l g z F' Lw' mc ms ([v1, v2, v3, v4, v5]) M (ab_Qr Q)) (hf : ab_fit F Lw kc ks z F' Lw' mc ms kc' ks' = true) (h8 : (rest.map fun v => v.category).sum ≤ 8) (kk : ∀ (x : Nat) (M' : ab_M), Q x M' → AW l g X Z y F Lw kc' ks' (pc + 3) L (.ref x :: rest) M') : AW l g X Z y F Lw kc ks pc L (v5 :: v4 :: v3 :: v2 :: v1 :: rest) M :=
  aw_callS (As := [v1, v2, v3, v4, v5]) (rest := rest) hd hw hm hf rfl rfl h8 (fun r M' h => by
    obtain ⟨x, rfl, h⟩ := h
    exact kk x M' h)
theorem aw_S5q {i : Nat} {z : ab_Y} {F' Lw' mc ms kc' ks' : Nat} {Q : Option Nat → ab_M → Prop} {v1 v2 v3 v4 v5 : Value} {rest : List Value} (hd : decode y.2.1 pc = .ok (.invokestatic i, 3)) (hw : ab_cS y.1.cls i z 5) (hm : AM l g z F' Lw' mc ms ([v1, v2, v3, v4, v5]) M (ab_Qq Q)) (hf : ab_fit F Lw kc ks z F' Lw' mc ms kc' ks' = true) (h8 : (rest.map fun v => v.category).sum ≤ 8) (kk : ∀ (x : Option Nat) (M' : ab_M), Q x M' → AW l g X Z y F Lw kc' ks' (pc + 3) L (va_rf x :: rest) M') : AW l g X Z y F Lw kc ks pc L (v5 :: v4 :: v3 :: v2 :: v1 :: rest) M :=
  aw_callS (As := [v1, v2, v3, v4, v5]) (rest := rest) hd hw hm hf rfl rfl h8 (fun r M' h => by
    obtain ⟨x, rfl, h⟩ := h
    exact kk x M' h)
theorem aw_S6v {i : Nat} {z : ab_Y} {F' Lw' mc ms kc' ks' : Nat} {Q : ab_M → Prop} {v1 v2 v3 v4 v5 v6 : Value} {rest : List Value} (hd : decode y.2.1 pc = .ok (.invokestatic i, 3)) (hw : ab_cS y.1.cls i z 6) (hm : AM l g z F' Lw' mc ms ([v1, v2, v3, v4, v5, v6]) M (ab_Qv Q)) (hf : ab_fit F Lw kc ks z F' Lw' mc ms kc' ks' = true) (h8 : (rest.map fun v => v.category).sum ≤ 8) (kk : ∀ (M' : ab_M), Q M' → AW l g X Z y F Lw kc' ks' (pc + 3) L (rest) M') : AW l g X Z y F Lw kc ks pc L (v6 :: v5 :: v4 :: v3 :: v2 :: v1 :: rest) M :=
  aw_callS (As := [v1, v2, v3, v4, v5, v6]) (rest := rest) hd hw hm hf rfl rfl h8 (fun r M' h => by
    obtain ⟨rfl, h⟩ := h
    exact kk M' h)
theorem aw_S6i {i : Nat} {z : ab_Y} {F' Lw' mc ms kc' ks' : Nat} {Q : Int32 → ab_M → Prop} {v1 v2 v3 v4 v5 v6 : Value} {rest : List Value} (hd : decode y.2.1 pc = .ok (.invokestatic i, 3)) (hw : ab_cS y.1.cls i z 6) (hm : AM l g z F' Lw' mc ms ([v1, v2, v3, v4, v5, v6]) M (ab_Qi Q)) (hf : ab_fit F Lw kc ks z F' Lw' mc ms kc' ks' = true) (h8 : (rest.map fun v => v.category).sum ≤ 8) (kk : ∀ (x : Int32) (M' : ab_M), Q x M' → AW l g X Z y F Lw kc' ks' (pc + 3) L (.int x :: rest) M') : AW l g X Z y F Lw kc ks pc L (v6 :: v5 :: v4 :: v3 :: v2 :: v1 :: rest) M :=
  aw_callS (As := [v1, v2, v3, v4, v5, v6]) (rest := rest) hd hw hm hf rfl rfl h8 (fun r M' h => by
    obtain ⟨x, rfl, h⟩ := h
    exact kk x M' h)
theorem aw_S6l {i : Nat} {z : ab_Y} {F' Lw' mc ms kc' ks' : Nat} {Q : Int64 → ab_M → Prop} {v1 v2 v3 v4 v5 v6 : Value} {rest : List Value} (hd : decode y.2.1 pc = .ok (.invokestatic i, 3)) (hw : ab_cS y.1.cls i z 6) (hm : AM l g z F' Lw' mc ms ([v1, v2, v3, v4, v5, v6]) M (ab_Ql Q)) (hf : ab_fit F Lw kc ks z F' Lw' mc ms kc' ks' = true) (h8 : (rest.map fun v => v.category).sum ≤ 8) (kk : ∀ (x : Int64) (M' : ab_M), Q x M' → AW l g X Z y F Lw kc' ks' (pc + 3) L (.long x :: rest) M') : AW l g X Z y F Lw kc ks pc L (v6 :: v5 :: v4 :: v3 :: v2 :: v1 :: rest) M :=
  aw_callS (As := [v1, v2, v3, v4, v5, v6]) (rest := rest) hd hw hm hf rfl rfl h8 (fun r M' h => by
    obtain ⟨x, rfl, h⟩ := h
    exact kk x M' h)
theorem aw_S6r {i : Nat} {z : ab_Y} {F' Lw' mc ms kc' ks' : Nat} {Q : Nat → ab_M → Prop} {v1 v2 v3 v4 v5 v6 : Value} {rest : List Value} (hd : decode y.2.1 pc = .ok (.invokestatic i, 3)) (hw : ab_cS y.1.cls i z 6) (hm : AM l g z F' Lw' mc ms ([v1, v2, v3, v4, v5, v6]) M (ab_Qr Q)) (hf : ab_fit F Lw kc ks z F' Lw' mc ms kc' ks' = true) (h8 : (rest.map fun v => v.category).sum ≤ 8) (kk : ∀ (x : Nat) (M' : ab_M), Q x M' → AW l g X Z y F Lw kc' ks' (pc + 3) L (.ref x :: rest) M') : AW l g X Z y F Lw kc ks pc L (v6 :: v5 :: v4 :: v3 :: v2 :: v1 :: rest) M :=
  aw_callS (As := [v1, v2, v3, v4, v5, v6]) (rest := rest) hd hw hm hf rfl rfl h8 (fun r M' h => by
    obtain ⟨x, rfl, h⟩ := h
    exact kk x M' h)
theorem aw_S6q {i : Nat} {z : ab_Y} {F' Lw' mc ms kc' ks' : Nat} {Q : Option Nat → ab_M → Prop} {v1 v2 v3 v4 v5 v6 : Value} {rest : List Value} (hd : decode y.2.1 pc = .ok (.invokestatic i, 3)) (hw : ab_cS y.1.cls i z 6) (hm : AM l g z F' Lw' mc ms ([v1, v2, v3, v4, v5, v6]) M (ab_Qq Q)) (hf : ab_fit F Lw kc ks z F' Lw' mc ms kc' ks' = true) (h8 : (rest.map fun v => v.category).sum ≤ 8) (kk : ∀ (x : Option Nat) (M' : ab_M), Q x M' → AW l g X Z y F Lw kc' ks' (pc + 3) L (va_rf x :: rest) M') : AW l g X Z y F Lw kc ks pc L (v6 :: v5 :: v4 :: v3 :: v2 :: v1 :: rest) M :=
  aw_callS (As := [v1, v2, v3, v4, v5, v6]) (rest := rest) hd hw hm hf rfl rfl h8 (fun r M' h => by
    obtain ⟨x, rfl, h⟩ := h
    exact kk x M' h)
theorem aw_N0v {i : Nat} {z : ab_Y} {F' Lw' mc ms kc' ks' : Nat} {Q : ab_M → Prop} {rest : List Value} (hd : decode y.2.1 pc = .ok (.invokestatic i, 3)) (hw : ab_cN y.1.cls i z 0) (hm : AM l g z F' Lw' mc ms ([]) M (ab_Qv Q)) (hf : ab_fit F Lw kc ks z F' Lw' mc ms kc' ks' = true) (h8 : (rest.map fun v => v.category).sum ≤ 8) (kk : ∀ (M' : ab_M), Q M' → AW l g X Z y F Lw kc' ks' (pc + 3) L (rest) M') : AW l g X Z y F Lw kc ks pc L (rest) M :=
  aw_callN (As := []) (rest := rest) hd hw hm hf rfl rfl h8 (fun r M' h => by
    obtain ⟨rfl, h⟩ := h
    exact kk M' h)
theorem aw_N0i {i : Nat} {z : ab_Y} {F' Lw' mc ms kc' ks' : Nat} {Q : Int32 → ab_M → Prop} {rest : List Value} (hd : decode y.2.1 pc = .ok (.invokestatic i, 3)) (hw : ab_cN y.1.cls i z 0) (hm : AM l g z F' Lw' mc ms ([]) M (ab_Qi Q)) (hf : ab_fit F Lw kc ks z F' Lw' mc ms kc' ks' = true) (h8 : (rest.map fun v => v.category).sum ≤ 8) (kk : ∀ (x : Int32) (M' : ab_M), Q x M' → AW l g X Z y F Lw kc' ks' (pc + 3) L (.int x :: rest) M') : AW l g X Z y F Lw kc ks pc L (rest) M :=
  aw_callN (As := []) (rest := rest) hd hw hm hf rfl rfl h8 (fun r M' h => by
    obtain ⟨x, rfl, h⟩ := h
    exact kk x M' h)
theorem aw_N0l {i : Nat} {z : ab_Y} {F' Lw' mc ms kc' ks' : Nat} {Q : Int64 → ab_M → Prop} {rest : List Value} (hd : decode y.2.1 pc = .ok (.invokestatic i, 3)) (hw : ab_cN y.1.cls i z 0) (hm : AM l g z F' Lw' mc ms ([]) M (ab_Ql Q)) (hf : ab_fit F Lw kc ks z F' Lw' mc ms kc' ks' = true) (h8 : (rest.map fun v => v.category).sum ≤ 8) (kk : ∀ (x : Int64) (M' : ab_M), Q x M' → AW l g X Z y F Lw kc' ks' (pc + 3) L (.long x :: rest) M') : AW l g X Z y F Lw kc ks pc L (rest) M :=
  aw_callN (As := []) (rest := rest) hd hw hm hf rfl rfl h8 (fun r M' h => by
    obtain ⟨x, rfl, h⟩ := h
    exact kk x M' h)
theorem aw_N0r {i : Nat} {z : ab_Y} {F' Lw' mc ms kc' ks' : Nat} {Q : Nat → ab_M → Prop} {rest : List Value} (hd : decode y.2.1 pc = .ok (.invokestatic i, 3)) (hw : ab_cN y.1.cls i z 0) (hm : AM l g z F' Lw' mc ms ([]) M (ab_Qr Q)) (hf : ab_fit F Lw kc ks z F' Lw' mc ms kc' ks' = true) (h8 : (rest.map fun v => v.category).sum ≤ 8) (kk : ∀ (x : Nat) (M' : ab_M), Q x M' → AW l g X Z y F Lw kc' ks' (pc + 3) L (.ref x :: rest) M') : AW l g X Z y F Lw kc ks pc L (rest) M :=
  aw_callN (As := []) (rest := rest) hd hw hm hf rfl rfl h8 (fun r M' h => by
    obtain ⟨x, rfl, h⟩ := h
    exact kk x M' h)
theorem aw_N0q {i : Nat} {z : ab_Y} {F' Lw' mc ms kc' ks' : Nat} {Q : Option Nat → ab_M → Prop} {rest : List Value} (hd : decode y.2.1 pc = .ok (.invokestatic i, 3)) (hw : ab_cN y.1.cls i z 0) (hm : AM l g z F' Lw' mc ms ([]) M (ab_Qq Q)) (hf : ab_fit F Lw kc ks z F' Lw' mc ms kc' ks' = true) (h8 : (rest.map fun v => v.category).sum ≤ 8) (kk : ∀ (x : Option Nat) (M' : ab_M), Q x M' → AW l g X Z y F Lw kc' ks' (pc + 3) L (va_rf x :: rest) M') : AW l g X Z y F Lw kc ks pc L (rest) M :=
  aw_callN (As := []) (rest := rest) hd hw hm hf rfl rfl h8 (fun r M' h => by
    obtain ⟨x, rfl, h⟩ := h
    exact kk x M' h)
theorem aw_N1v {i : Nat} {z : ab_Y} {F' Lw' mc ms kc' ks' : Nat} {Q : ab_M → Prop} {v1 : Value} {rest : List Value} (hd : decode y.2.1 pc = .ok (.invokestatic i, 3)) (hw : ab_cN y.1.cls i z 1) (hm : AM l g z F' Lw' mc ms ([v1]) M (ab_Qv Q)) (hf : ab_fit F Lw kc ks z F' Lw' mc ms kc' ks' = true) (h8 : (rest.map fun v => v.category).sum ≤ 8) (kk : ∀ (M' : ab_M), Q M' → AW l g X Z y F Lw kc' ks' (pc + 3) L (rest) M') : AW l g X Z y F Lw kc ks pc L (v1 :: rest) M :=
  aw_callN (As := [v1]) (rest := rest) hd hw hm hf rfl rfl h8 (fun r M' h => by
    obtain ⟨rfl, h⟩ := h
    exact kk M' h)
theorem aw_N1i {i : Nat} {z : ab_Y} {F' Lw' mc ms kc' ks' : Nat} {Q : Int32 → ab_M → Prop} {v1 : Value} {rest : List Value} (hd : decode y.2.1 pc = .ok (.invokestatic i, 3)) (hw : ab_cN y.1.cls i z 1) (hm : AM l g z F' Lw' mc ms ([v1]) M (ab_Qi Q)) (hf : ab_fit F Lw kc ks z F' Lw' mc ms kc' ks' = true) (h8 : (rest.map fun v => v.category).sum ≤ 8) (kk : ∀ (x : Int32) (M' : ab_M), Q x M' → AW l g X Z y F Lw kc' ks' (pc + 3) L (.int x :: rest) M') : AW l g X Z y F Lw kc ks pc L (v1 :: rest) M :=
  aw_callN (As := [v1]) (rest := rest) hd hw hm hf rfl rfl h8 (fun r M' h => by
    obtain ⟨x, rfl, h⟩ := h
    exact kk x M' h)
theorem aw_N1l {i : Nat} {z : ab_Y} {F' Lw' mc ms kc' ks' : Nat} {Q : Int64 → ab_M → Prop} {v1 : Value} {rest : List Value} (hd : decode y.2.1 pc = .ok (.invokestatic i, 3)) (hw : ab_cN y.1.cls i z 1) (hm : AM l g z F' Lw' mc ms ([v1]) M (ab_Ql Q)) (hf : ab_fit F Lw kc ks z F' Lw' mc ms kc' ks' = true) (h8 : (rest.map fun v => v.category).sum ≤ 8) (kk : ∀ (x : Int64) (M' : ab_M), Q x M' → AW l g X Z y F Lw kc' ks' (pc + 3) L (.long x :: rest) M') : AW l g X Z y F Lw kc ks pc L (v1 :: rest) M :=
  aw_callN (As := [v1]) (rest := rest) hd hw hm hf rfl rfl h8 (fun r M' h => by
    obtain ⟨x, rfl, h⟩ := h
    exact kk x M' h)
theorem aw_N1r {i : Nat} {z : ab_Y} {F' Lw' mc ms kc' ks' : Nat} {Q : Nat → ab_M → Prop} {v1 : Value} {rest : List Value} (hd : decode y.2.1 pc = .ok (.invokestatic i, 3)) (hw : ab_cN y.1.cls i z 1) (hm : AM l g z F' Lw' mc ms ([v1]) M (ab_Qr Q)) (hf : ab_fit F Lw kc ks z F' Lw' mc ms kc' ks' = true) (h8 : (rest.map fun v => v.category).sum ≤ 8) (kk : ∀ (x : Nat) (M' : ab_M), Q x M' → AW l g X Z y F Lw kc' ks' (pc + 3) L (.ref x :: rest) M') : AW l g X Z y F Lw kc ks pc L (v1 :: rest) M :=
  aw_callN (As := [v1]) (rest := rest) hd hw hm hf rfl rfl h8 (fun r M' h => by
    obtain ⟨x, rfl, h⟩ := h
    exact kk x M' h)
theorem aw_N1q {i : Nat} {z : ab_Y} {F' Lw' mc ms kc' ks' : Nat} {Q : Option Nat → ab_M → Prop} {v1 : Value} {rest : List Value} (hd : decode y.2.1 pc = .ok (.invokestatic i, 3)) (hw : ab_cN y.1.cls i z 1) (hm : AM l g z F' Lw' mc ms ([v1]) M (ab_Qq Q)) (hf : ab_fit F Lw kc ks z F' Lw' mc ms kc' ks' = true) (h8 : (rest.map fun v => v.category).sum ≤ 8) (kk : ∀ (x : Option Nat) (M' : ab_M), Q x M' → AW l g X Z y F Lw kc' ks' (pc + 3) L (va_rf x :: rest) M') : AW l g X Z y F Lw kc ks pc L (v1 :: rest) M :=
  aw_callN (As := [v1]) (rest := rest) hd hw hm hf rfl rfl h8 (fun r M' h => by
    obtain ⟨x, rfl, h⟩ := h
    exact kk x M' h)
theorem aw_N2v {i : Nat} {z : ab_Y} {F' Lw' mc ms kc' ks' : Nat} {Q : ab_M → Prop} {v1 v2 : Value} {rest : List Value} (hd : decode y.2.1 pc = .ok (.invokestatic i, 3)) (hw : ab_cN y.1.cls i z 2) (hm : AM l g z F' Lw' mc ms ([v1, v2]) M (ab_Qv Q)) (hf : ab_fit F Lw kc ks z F' Lw' mc ms kc' ks' = true) (h8 : (rest.map fun v => v.category).sum ≤ 8) (kk : ∀ (M' : ab_M), Q M' → AW l g X Z y F Lw kc' ks' (pc + 3) L (rest) M') : AW l g X Z y F Lw kc ks pc L (v2 :: v1 :: rest) M :=
  aw_callN (As := [v1, v2]) (rest := rest) hd hw hm hf rfl rfl h8 (fun r M' h => by
    obtain ⟨rfl, h⟩ := h
    exact kk M' h)
theorem aw_N2i {i : Nat} {z : ab_Y} {F' Lw' mc ms kc' ks' : Nat} {Q : Int32 → ab_M → Prop} {v1 v2 : Value} {rest : List Value} (hd : decode y.2.1 pc = .ok (.invokestatic i, 3)) (hw : ab_cN y.1.cls i z 2) (hm : AM l g z F' Lw' mc ms ([v1, v2]) M (ab_Qi Q)) (hf : ab_fit F Lw kc ks z F' Lw' mc ms kc' ks' = true) (h8 : (rest.map fun v => v.category).sum ≤ 8) (kk : ∀ (x : Int32) (M' : ab_M), Q x M' → AW l g X Z y F Lw kc' ks' (pc + 3) L (.int x :: rest) M') : AW l g X Z y F Lw kc ks pc L (v2 :: v1 :: rest) M :=
  aw_callN (As := [v1, v2]) (rest := rest) hd hw hm hf rfl rfl h8 (fun r M' h => by
    obtain ⟨x, rfl, h⟩ := h
    exact kk x M' h)
theorem aw_N2l {i : Nat} {z : ab_Y} {F' Lw' mc ms kc' ks' : Nat} {Q : Int64 → ab_M → Prop} {v1 v2 : Value} {rest : List Value} (hd : decode y.2.1 pc = .ok (.invokestatic i, 3)) (hw : ab_cN y.1.cls i z 2) (hm : AM l g z F' Lw' mc ms ([v1, v2]) M (ab_Ql Q)) (hf : ab_fit F Lw kc ks z F' Lw' mc ms kc' ks' = true) (h8 : (rest.map fun v => v.category).sum ≤ 8) (kk : ∀ (x : Int64) (M' : ab_M), Q x M' → AW l g X Z y F Lw kc' ks' (pc + 3) L (.long x :: rest) M') : AW l g X Z y F Lw kc ks pc L (v2 :: v1 :: rest) M :=
  aw_callN (As := [v1, v2]) (rest := rest) hd hw hm hf rfl rfl h8 (fun r M' h => by
    obtain ⟨x, rfl, h⟩ := h
    exact kk x M' h)
theorem aw_N2r {i : Nat} {z : ab_Y} {F' Lw' mc ms kc' ks' : Nat} {Q : Nat → ab_M → Prop} {v1 v2 : Value} {rest : List Value} (hd : decode y.2.1 pc = .ok (.invokestatic i, 3)) (hw : ab_cN y.1.cls i z 2) (hm : AM l g z F' Lw' mc ms ([v1, v2]) M (ab_Qr Q)) (hf : ab_fit F Lw kc ks z F' Lw' mc ms kc' ks' = true) (h8 : (rest.map fun v => v.category).sum ≤ 8) (kk : ∀ (x : Nat) (M' : ab_M), Q x M' → AW l g X Z y F Lw kc' ks' (pc + 3) L (.ref x :: rest) M') : AW l g X Z y F Lw kc ks pc L (v2 :: v1 :: rest) M :=
  aw_callN (As := [v1, v2]) (rest := rest) hd hw hm hf rfl rfl h8 (fun r M' h => by
    obtain ⟨x, rfl, h⟩ := h
    exact kk x M' h)
theorem aw_N2q {i : Nat} {z : ab_Y} {F' Lw' mc ms kc' ks' : Nat} {Q : Option Nat → ab_M → Prop} {v1 v2 : Value} {rest : List Value} (hd : decode y.2.1 pc = .ok (.invokestatic i, 3)) (hw : ab_cN y.1.cls i z 2) (hm : AM l g z F' Lw' mc ms ([v1, v2]) M (ab_Qq Q)) (hf : ab_fit F Lw kc ks z F' Lw' mc ms kc' ks' = true) (h8 : (rest.map fun v => v.category).sum ≤ 8) (kk : ∀ (x : Option Nat) (M' : ab_M), Q x M' → AW l g X Z y F Lw kc' ks' (pc + 3) L (va_rf x :: rest) M') : AW l g X Z y F Lw kc ks pc L (v2 :: v1 :: rest) M :=
  aw_callN (As := [v1, v2]) (rest := rest) hd hw hm hf rfl rfl h8 (fun r M' h => by
    obtain ⟨x, rfl, h⟩ := h
    exact kk x M' h)
theorem aw_N3v {i : Nat} {z : ab_Y} {F' Lw' mc ms kc' ks' : Nat} {Q : ab_M → Prop} {v1 v2 v3 : Value} {rest : List Value} (hd : decode y.2.1 pc = .ok (.invokestatic i, 3)) (hw : ab_cN y.1.cls i z 3) (hm : AM l g z F' Lw' mc ms ([v1, v2, v3]) M (ab_Qv Q)) (hf : ab_fit F Lw kc ks z F' Lw' mc ms kc' ks' = true) (h8 : (rest.map fun v => v.category).sum ≤ 8) (kk : ∀ (M' : ab_M), Q M' → AW l g X Z y F Lw kc' ks' (pc + 3) L (rest) M') : AW l g X Z y F Lw kc ks pc L (v3 :: v2 :: v1 :: rest) M :=
  aw_callN (As := [v1, v2, v3]) (rest := rest) hd hw hm hf rfl rfl h8 (fun r M' h => by
    obtain ⟨rfl, h⟩ := h
    exact kk M' h)
theorem aw_N3i {i : Nat} {z : ab_Y} {F' Lw' mc ms kc' ks' : Nat} {Q : Int32 → ab_M → Prop} {v1 v2 v3 : Value} {rest : List Value} (hd : decode y.2.1 pc = .ok (.invokestatic i, 3)) (hw : ab_cN y.1.cls i z 3) (hm : AM l g z F' Lw' mc ms ([v1, v2, v3]) M (ab_Qi Q)) (hf : ab_fit F Lw kc ks z F' Lw' mc ms kc' ks' = true) (h8 : (rest.map fun v => v.category).sum ≤ 8) (kk : ∀ (x : Int32) (M' : ab_M), Q x M' → AW l g X Z y F Lw kc' ks' (pc + 3) L (.int x :: rest) M') : AW l g X Z y F Lw kc ks pc L (v3 :: v2 :: v1 :: rest) M :=
  aw_callN (As := [v1, v2, v3]) (rest := rest) hd hw hm hf rfl rfl h8 (fun r M' h => by
    obtain ⟨x, rfl, h⟩ := h
    exact kk x M' h)
theorem aw_N3l {i : Nat} {z : ab_Y} {F' Lw' mc ms kc' ks' : Nat} {Q : Int64 → ab_M → Prop} {v1 v2 v3 : Value} {rest : List Value} (hd : decode y.2.1 pc = .ok (.invokestatic i, 3)) (hw : ab_cN y.1.cls i z 3) (hm : AM l g z F' Lw' mc ms ([v1, v2, v3]) M (ab_Ql Q)) (hf : ab_fit F Lw kc ks z F' Lw' mc ms kc' ks' = true) (h8 : (rest.map fun v => v.category).sum ≤ 8) (kk : ∀ (x : Int64) (M' : ab_M), Q x M' → AW l g X Z y F Lw kc' ks' (pc + 3) L (.long x :: rest) M') : AW l g X Z y F Lw kc ks pc L (v3 :: v2 :: v1 :: rest) M :=
  aw_callN (As := [v1, v2, v3]) (rest := rest) hd hw hm hf rfl rfl h8 (fun r M' h => by
    obtain ⟨x, rfl, h⟩ := h
    exact kk x M' h)
theorem aw_N3r {i : Nat} {z : ab_Y} {F' Lw' mc ms kc' ks' : Nat} {Q : Nat → ab_M → Prop} {v1 v2 v3 : Value} {rest : List Value} (hd : decode y.2.1 pc = .ok (.invokestatic i, 3)) (hw : ab_cN y.1.cls i z 3) (hm : AM l g z F' Lw' mc ms ([v1, v2, v3]) M (ab_Qr Q)) (hf : ab_fit F Lw kc ks z F' Lw' mc ms kc' ks' = true) (h8 : (rest.map fun v => v.category).sum ≤ 8) (kk : ∀ (x : Nat) (M' : ab_M), Q x M' → AW l g X Z y F Lw kc' ks' (pc + 3) L (.ref x :: rest) M') : AW l g X Z y F Lw kc ks pc L (v3 :: v2 :: v1 :: rest) M :=
  aw_callN (As := [v1, v2, v3]) (rest := rest) hd hw hm hf rfl rfl h8 (fun r M' h => by
    obtain ⟨x, rfl, h⟩ := h
    exact kk x M' h)
theorem aw_N3q {i : Nat} {z : ab_Y} {F' Lw' mc ms kc' ks' : Nat} {Q : Option Nat → ab_M → Prop} {v1 v2 v3 : Value} {rest : List Value} (hd : decode y.2.1 pc = .ok (.invokestatic i, 3)) (hw : ab_cN y.1.cls i z 3) (hm : AM l g z F' Lw' mc ms ([v1, v2, v3]) M (ab_Qq Q)) (hf : ab_fit F Lw kc ks z F' Lw' mc ms kc' ks' = true) (h8 : (rest.map fun v => v.category).sum ≤ 8) (kk : ∀ (x : Option Nat) (M' : ab_M), Q x M' → AW l g X Z y F Lw kc' ks' (pc + 3) L (va_rf x :: rest) M') : AW l g X Z y F Lw kc ks pc L (v3 :: v2 :: v1 :: rest) M :=
  aw_callN (As := [v1, v2, v3]) (rest := rest) hd hw hm hf rfl rfl h8 (fun r M' h => by
    obtain ⟨x, rfl, h⟩ := h
    exact kk x M' h)
theorem aw_N4v {i : Nat} {z : ab_Y} {F' Lw' mc ms kc' ks' : Nat} {Q : ab_M → Prop} {v1 v2 v3 v4 : Value} {rest : List Value} (hd : decode y.2.1 pc = .ok (.invokestatic i, 3)) (hw : ab_cN y.1.cls i z 4) (hm : AM l g z F' Lw' mc ms ([v1, v2, v3, v4]) M (ab_Qv Q)) (hf : ab_fit F Lw kc ks z F' Lw' mc ms kc' ks' = true) (h8 : (rest.map fun v => v.category).sum ≤ 8) (kk : ∀ (M' : ab_M), Q M' → AW l g X Z y F Lw kc' ks' (pc + 3) L (rest) M') : AW l g X Z y F Lw kc ks pc L (v4 :: v3 :: v2 :: v1 :: rest) M :=
  aw_callN (As := [v1, v2, v3, v4]) (rest := rest) hd hw hm hf rfl rfl h8 (fun r M' h => by
    obtain ⟨rfl, h⟩ := h
    exact kk M' h)
theorem aw_N4i {i : Nat} {z : ab_Y} {F' Lw' mc ms kc' ks' : Nat} {Q : Int32 → ab_M → Prop} {v1 v2 v3 v4 : Value} {rest : List Value} (hd : decode y.2.1 pc = .ok (.invokestatic i, 3)) (hw : ab_cN y.1.cls i z 4) (hm : AM l g z F' Lw' mc ms ([v1, v2, v3, v4]) M (ab_Qi Q)) (hf : ab_fit F Lw kc ks z F' Lw' mc ms kc' ks' = true) (h8 : (rest.map fun v => v.category).sum ≤ 8) (kk : ∀ (x : Int32) (M' : ab_M), Q x M' → AW l g X Z y F Lw kc' ks' (pc + 3) L (.int x :: rest) M') : AW l g X Z y F Lw kc ks pc L (v4 :: v3 :: v2 :: v1 :: rest) M :=
  aw_callN (As := [v1, v2, v3, v4]) (rest := rest) hd hw hm hf rfl rfl h8 (fun r M' h => by
    obtain ⟨x, rfl, h⟩ := h
    exact kk x M' h)
theorem aw_N4l {i : Nat} {z : ab_Y} {F' Lw' mc ms kc' ks' : Nat} {Q : Int64 → ab_M → Prop} {v1 v2 v3 v4 : Value} {rest : List Value} (hd : decode y.2.1 pc = .ok (.invokestatic i, 3)) (hw : ab_cN y.1.cls i z 4) (hm : AM l g z F' Lw' mc ms ([v1, v2, v3, v4]) M (ab_Ql Q)) (hf : ab_fit F Lw kc ks z F' Lw' mc ms kc' ks' = true) (h8 : (rest.map fun v => v.category).sum ≤ 8) (kk : ∀ (x : Int64) (M' : ab_M), Q x M' → AW l g X Z y F Lw kc' ks' (pc + 3) L (.long x :: rest) M') : AW l g X Z y F Lw kc ks pc L (v4 :: v3 :: v2 :: v1 :: rest) M :=
  aw_callN (As := [v1, v2, v3, v4]) (rest := rest) hd hw hm hf rfl rfl h8 (fun r M' h => by
    obtain ⟨x, rfl, h⟩ := h
    exact kk x M' h)
theorem aw_N4r {i : Nat} {z : ab_Y} {F' Lw' mc ms kc' ks' : Nat} {Q : Nat → ab_M → Prop} {v1 v2 v3 v4 : Value} {rest : List Value} (hd : decode y.2.1 pc = .ok (.invokestatic i, 3)) (hw : ab_cN y.1.cls i z 4) (hm : AM l g z F' Lw' mc ms ([v1, v2, v3, v4]) M (ab_Qr Q)) (hf : ab_fit F Lw kc ks z F' Lw' mc ms kc' ks' = true) (h8 : (rest.map fun v => v.category).sum ≤ 8) (kk : ∀ (x : Nat) (M' : ab_M), Q x M' → AW l g X Z y F Lw kc' ks' (pc + 3) L (.ref x :: rest) M') : AW l g X Z y F Lw kc ks pc L (v4 :: v3 :: v2 :: v1 :: rest) M :=
  aw_callN (As := [v1, v2, v3, v4]) (rest := rest) hd hw hm hf rfl rfl h8 (fun r M' h => by
    obtain ⟨x, rfl, h⟩ := h
    exact kk x M' h)
theorem aw_N4q {i : Nat} {z : ab_Y} {F' Lw' mc ms kc' ks' : Nat} {Q : Option Nat → ab_M → Prop} {v1 v2 v3 v4 : Value} {rest : List Value} (hd : decode y.2.1 pc = .ok (.invokestatic i, 3)) (hw : ab_cN y.1.cls i z 4) (hm : AM l g z F' Lw' mc ms ([v1, v2, v3, v4]) M (ab_Qq Q)) (hf : ab_fit F Lw kc ks z F' Lw' mc ms kc' ks' = true) (h8 : (rest.map fun v => v.category).sum ≤ 8) (kk : ∀ (x : Option Nat) (M' : ab_M), Q x M' → AW l g X Z y F Lw kc' ks' (pc + 3) L (va_rf x :: rest) M') : AW l g X Z y F Lw kc ks pc L (v4 :: v3 :: v2 :: v1 :: rest) M :=
  aw_callN (As := [v1, v2, v3, v4]) (rest := rest) hd hw hm hf rfl rfl h8 (fun r M' h => by
    obtain ⟨x, rfl, h⟩ := h
    exact kk x M' h)
theorem aw_N5v {i : Nat} {z : ab_Y} {F' Lw' mc ms kc' ks' : Nat} {Q : ab_M → Prop} {v1 v2 v3 v4 v5 : Value} {rest : List Value} (hd : decode y.2.1 pc = .ok (.invokestatic i, 3)) (hw : ab_cN y.1.cls i z 5) (hm : AM l g z F' Lw' mc ms ([v1, v2, v3, v4, v5]) M (ab_Qv Q)) (hf : ab_fit F Lw kc ks z F' Lw' mc ms kc' ks' = true) (h8 : (rest.map fun v => v.category).sum ≤ 8) (kk : ∀ (M' : ab_M), Q M' → AW l g X Z y F Lw kc' ks' (pc + 3) L (rest) M') : AW l g X Z y F Lw kc ks pc L (v5 :: v4 :: v3 :: v2 :: v1 :: rest) M :=
  aw_callN (As := [v1, v2, v3, v4, v5]) (rest := rest) hd hw hm hf rfl rfl h8 (fun r M' h => by
    obtain ⟨rfl, h⟩ := h
    exact kk M' h)
theorem aw_N5i {i : Nat} {z : ab_Y} {F' Lw' mc ms kc' ks' : Nat} {Q : Int32 → ab_M → Prop} {v1 v2 v3 v4 v5 : Value} {rest : List Value} (hd : decode y.2.1 pc = .ok (.invokestatic i, 3)) (hw : ab_cN y.1.cls i z 5) (hm : AM l g z F' Lw' mc ms ([v1, v2, v3, v4, v5]) M (ab_Qi Q)) (hf : ab_fit F Lw kc ks z F' Lw' mc ms kc' ks' = true) (h8 : (rest.map fun v => v.category).sum ≤ 8) (kk : ∀ (x : Int32) (M' : ab_M), Q x M' → AW l g X Z y F Lw kc' ks' (pc + 3) L (.int x :: rest) M') : AW l g X Z y F Lw kc ks pc L (v5 :: v4 :: v3 :: v2 :: v1 :: rest) M :=
  aw_callN (As := [v1, v2, v3, v4, v5]) (rest := rest) hd hw hm hf rfl rfl h8 (fun r M' h => by
    obtain ⟨x, rfl, h⟩ := h
    exact kk x M' h)
theorem aw_N5l {i : Nat} {z : ab_Y} {F' Lw' mc ms kc' ks' : Nat} {Q : Int64 → ab_M → Prop} {v1 v2 v3 v4 v5 : Value} {rest : List Value} (hd : decode y.2.1 pc = .ok (.invokestatic i, 3)) (hw : ab_cN y.1.cls i z 5) (hm : AM l g z F' Lw' mc ms ([v1, v2, v3, v4, v5]) M (ab_Ql Q)) (hf : ab_fit F Lw kc ks z F' Lw' mc ms kc' ks' = true) (h8 : (rest.map fun v => v.category).sum ≤ 8) (kk : ∀ (x : Int64) (M' : ab_M), Q x M' → AW l g X Z y F Lw kc' ks' (pc + 3) L (.long x :: rest) M') : AW l g X Z y F Lw kc ks pc L (v5 :: v4 :: v3 :: v2 :: v1 :: rest) M :=
  aw_callN (As := [v1, v2, v3, v4, v5]) (rest := rest) hd hw hm hf rfl rfl h8 (fun r M' h => by
    obtain ⟨x, rfl, h⟩ := h
    exact kk x M' h)
theorem aw_N5r {i : Nat} {z : ab_Y} {F' Lw' mc ms kc' ks' : Nat} {Q : Nat → ab_M → Prop} {v1 v2 v3 v4 v5 : Value} {rest : List Value} (hd : decode y.2.1 pc = .ok (.invokestatic i, 3)) (hw : ab_cN y.1.cls i z 5) (hm : AM l g z F' Lw' mc ms ([v1, v2, v3, v4, v5]) M (ab_Qr Q)) (hf : ab_fit F Lw kc ks z F' Lw' mc ms kc' ks' = true) (h8 : (rest.map fun v => v.category).sum ≤ 8) (kk : ∀ (x : Nat) (M' : ab_M), Q x M' → AW l g X Z y F Lw kc' ks' (pc + 3) L (.ref x :: rest) M') : AW l g X Z y F Lw kc ks pc L (v5 :: v4 :: v3 :: v2 :: v1 :: rest) M :=
  aw_callN (As := [v1, v2, v3, v4, v5]) (rest := rest) hd hw hm hf rfl rfl h8 (fun r M' h => by
    obtain ⟨x, rfl, h⟩ := h
    exact kk x M' h)
theorem aw_N5q {i : Nat} {z : ab_Y} {F' Lw' mc ms kc' ks' : Nat} {Q : Option Nat → ab_M → Prop} {v1 v2 v3 v4 v5 : Value} {rest : List Value} (hd : decode y.2.1 pc = .ok (.invokestatic i, 3)) (hw : ab_cN y.1.cls i z 5) (hm : AM l g z F' Lw' mc ms ([v1, v2, v3, v4, v5]) M (ab_Qq Q)) (hf : ab_fit F Lw kc ks z F' Lw' mc ms kc' ks' = true) (h8 : (rest.map fun v => v.category).sum ≤ 8) (kk : ∀ (x : Option Nat) (M' : ab_M), Q x M' → AW l g X Z y F Lw kc' ks' (pc + 3) L (va_rf x :: rest) M') : AW l g X Z y F Lw kc ks pc L (v5 :: v4 :: v3 :: v2 :: v1 :: rest) M :=
  aw_callN (As := [v1, v2, v3, v4, v5]) (rest := rest) hd hw hm hf rfl rfl h8 (fun r M' h => by
    obtain ⟨x, rfl, h⟩ := h
    exact kk x M' h)
theorem aw_N6v {i : Nat} {z : ab_Y} {F' Lw' mc ms kc' ks' : Nat} {Q : ab_M → Prop} {v1 v2 v3 v4 v5 v6 : Value} {rest : List Value} (hd : decode y.2.1 pc = .ok (.invokestatic i, 3)) (hw : ab_cN y.1.cls i z 6) (hm : AM l g z F' Lw' mc ms ([v1, v2, v3, v4, v5, v6]) M (ab_Qv Q)) (hf : ab_fit F Lw kc ks z F' Lw' mc ms kc' ks' = true) (h8 : (rest.map fun v => v.category).sum ≤ 8) (kk : ∀ (M' : ab_M), Q M' → AW l g X Z y F Lw kc' ks' (pc + 3) L (rest) M') : AW l g X Z y F Lw kc ks pc L (v6 :: v5 :: v4 :: v3 :: v2 :: v1 :: rest) M :=
  aw_callN (As := [v1, v2, v3, v4, v5, v6]) (rest := rest) hd hw hm hf rfl rfl h8 (fun r M' h => by
    obtain ⟨rfl, h⟩ := h
    exact kk M' h)
theorem aw_N6i {i : Nat} {z : ab_Y} {F' Lw' mc ms kc' ks' : Nat} {Q : Int32 → ab_M → Prop} {v1 v2 v3 v4 v5 v6 : Value} {rest : List Value} (hd : decode y.2.1 pc = .ok (.invokestatic i, 3)) (hw : ab_cN y.1.cls i z 6) (hm : AM l g z F' Lw' mc ms ([v1, v2, v3, v4, v5, v6]) M (ab_Qi Q)) (hf : ab_fit F Lw kc ks z F' Lw' mc ms kc' ks' = true) (h8 : (rest.map fun v => v.category).sum ≤ 8) (kk : ∀ (x : Int32) (M' : ab_M), Q x M' → AW l g X Z y F Lw kc' ks' (pc + 3) L (.int x :: rest) M') : AW l g X Z y F Lw kc ks pc L (v6 :: v5 :: v4 :: v3 :: v2 :: v1 :: rest) M :=
  aw_callN (As := [v1, v2, v3, v4, v5, v6]) (rest := rest) hd hw hm hf rfl rfl h8 (fun r M' h => by
    obtain ⟨x, rfl, h⟩ := h
    exact kk x M' h)
theorem aw_N6l {i : Nat} {z : ab_Y} {F' Lw' mc ms kc' ks' : Nat} {Q : Int64 → ab_M → Prop} {v1 v2 v3 v4 v5 v6 : Value} {rest : List Value} (hd : decode y.2.1 pc = .ok (.invokestatic i, 3)) (hw : ab_cN y.1.cls i z 6) (hm : AM l g z F' Lw' mc ms ([v1, v2, v3, v4, v5, v6]) M (ab_Ql Q)) (hf : ab_fit F Lw kc ks z F' Lw' mc ms kc' ks' = true) (h8 : (rest.map fun v => v.category).sum ≤ 8) (kk : ∀ (x : Int64) (M' : ab_M), Q x M' → AW l g X Z y F Lw kc' ks' (pc + 3) L (.long x :: rest) M') : AW l g X Z y F Lw kc ks pc L (v6 :: v5 :: v4 :: v3 :: v2 :: v1 :: rest) M :=
  aw_callN (As := [v1, v2, v3, v4, v5, v6]) (rest := rest) hd hw hm hf rfl rfl h8 (fun r M' h => by
    obtain ⟨x, rfl, h⟩ := h
    exact kk x M' h)
theorem aw_N6r {i : Nat} {z : ab_Y} {F' Lw' mc ms kc' ks' : Nat} {Q : Nat → ab_M → Prop} {v1 v2 v3 v4 v5 v6 : Value} {rest : List Value} (hd : decode y.2.1 pc = .ok (.invokestatic i, 3)) (hw : ab_cN y.1.cls i z 6) (hm : AM l g z F' Lw' mc ms ([v1, v2, v3, v4, v5, v6]) M (ab_Qr Q)) (hf : ab_fit F Lw kc ks z F' Lw' mc ms kc' ks' = true) (h8 : (rest.map fun v => v.category).sum ≤ 8) (kk : ∀ (x : Nat) (M' : ab_M), Q x M' → AW l g X Z y F Lw kc' ks' (pc + 3) L (.ref x :: rest) M') : AW l g X Z y F Lw kc ks pc L (v6 :: v5 :: v4 :: v3 :: v2 :: v1 :: rest) M :=
  aw_callN (As := [v1, v2, v3, v4, v5, v6]) (rest := rest) hd hw hm hf rfl rfl h8 (fun r M' h => by
    obtain ⟨x, rfl, h⟩ := h
    exact kk x M' h)
theorem aw_N6q {i : Nat} {z : ab_Y} {F' Lw' mc ms kc' ks' : Nat} {Q : Option Nat → ab_M → Prop} {v1 v2 v3 v4 v5 v6 : Value} {rest : List Value} (hd : decode y.2.1 pc = .ok (.invokestatic i, 3)) (hw : ab_cN y.1.cls i z 6) (hm : AM l g z F' Lw' mc ms ([v1, v2, v3, v4, v5, v6]) M (ab_Qq Q)) (hf : ab_fit F Lw kc ks z F' Lw' mc ms kc' ks' = true) (h8 : (rest.map fun v => v.category).sum ≤ 8) (kk : ∀ (x : Option Nat) (M' : ab_M), Q x M' → AW l g X Z y F Lw kc' ks' (pc + 3) L (va_rf x :: rest) M') : AW l g X Z y F Lw kc ks pc L (v6 :: v5 :: v4 :: v3 :: v2 :: v1 :: rest) M :=
  aw_callN (As := [v1, v2, v3, v4, v5, v6]) (rest := rest) hd hw hm hf rfl rfl h8 (fun r M' h => by
    obtain ⟨x, rfl, h⟩ := h
    exact kk x M' h)
theorem aw_V0v {i : Nat} {z : ab_Y} {F' Lw' mc ms kc' ks' : Nat} {a : Nat} {ci : Nat} {t : Nat × Nat} {fs : List Value} {Q : ab_M → Prop} {rest : List Value} (hd : decode y.2.1 pc = .ok (.invokevirtual i, 3)) (hw : ab_cV y.1.cls i ci z 0) (hM : M a = some (t, .inr (ci, fs))) (hm : AM l g z F' Lw' mc ms (.ref a :: []) M (ab_Qv Q)) (hf : ab_fit F Lw kc ks z F' Lw' mc ms kc' ks' = true) (h8 : (rest.map fun v => v.category).sum ≤ 8) (kk : ∀ (M' : ab_M), Q M' → AW l g X Z y F Lw kc' ks' (pc + 3) L (rest) M') : AW l g X Z y F Lw kc ks pc L (.ref a :: rest) M :=
  aw_callV (As := []) (rest := rest) hd hw hM hm hf rfl rfl h8 (fun r M' h => by
    obtain ⟨rfl, h⟩ := h
    exact kk M' h)
theorem aw_V0i {i : Nat} {z : ab_Y} {F' Lw' mc ms kc' ks' : Nat} {a : Nat} {ci : Nat} {t : Nat × Nat} {fs : List Value} {Q : Int32 → ab_M → Prop} {rest : List Value} (hd : decode y.2.1 pc = .ok (.invokevirtual i, 3)) (hw : ab_cV y.1.cls i ci z 0) (hM : M a = some (t, .inr (ci, fs))) (hm : AM l g z F' Lw' mc ms (.ref a :: []) M (ab_Qi Q)) (hf : ab_fit F Lw kc ks z F' Lw' mc ms kc' ks' = true) (h8 : (rest.map fun v => v.category).sum ≤ 8) (kk : ∀ (x : Int32) (M' : ab_M), Q x M' → AW l g X Z y F Lw kc' ks' (pc + 3) L (.int x :: rest) M') : AW l g X Z y F Lw kc ks pc L (.ref a :: rest) M :=
  aw_callV (As := []) (rest := rest) hd hw hM hm hf rfl rfl h8 (fun r M' h => by
    obtain ⟨x, rfl, h⟩ := h
    exact kk x M' h)
theorem aw_V0l {i : Nat} {z : ab_Y} {F' Lw' mc ms kc' ks' : Nat} {a : Nat} {ci : Nat} {t : Nat × Nat} {fs : List Value} {Q : Int64 → ab_M → Prop} {rest : List Value} (hd : decode y.2.1 pc = .ok (.invokevirtual i, 3)) (hw : ab_cV y.1.cls i ci z 0) (hM : M a = some (t, .inr (ci, fs))) (hm : AM l g z F' Lw' mc ms (.ref a :: []) M (ab_Ql Q)) (hf : ab_fit F Lw kc ks z F' Lw' mc ms kc' ks' = true) (h8 : (rest.map fun v => v.category).sum ≤ 8) (kk : ∀ (x : Int64) (M' : ab_M), Q x M' → AW l g X Z y F Lw kc' ks' (pc + 3) L (.long x :: rest) M') : AW l g X Z y F Lw kc ks pc L (.ref a :: rest) M :=
  aw_callV (As := []) (rest := rest) hd hw hM hm hf rfl rfl h8 (fun r M' h => by
    obtain ⟨x, rfl, h⟩ := h
    exact kk x M' h)
theorem aw_V0r {i : Nat} {z : ab_Y} {F' Lw' mc ms kc' ks' : Nat} {a : Nat} {ci : Nat} {t : Nat × Nat} {fs : List Value} {Q : Nat → ab_M → Prop} {rest : List Value} (hd : decode y.2.1 pc = .ok (.invokevirtual i, 3)) (hw : ab_cV y.1.cls i ci z 0) (hM : M a = some (t, .inr (ci, fs))) (hm : AM l g z F' Lw' mc ms (.ref a :: []) M (ab_Qr Q)) (hf : ab_fit F Lw kc ks z F' Lw' mc ms kc' ks' = true) (h8 : (rest.map fun v => v.category).sum ≤ 8) (kk : ∀ (x : Nat) (M' : ab_M), Q x M' → AW l g X Z y F Lw kc' ks' (pc + 3) L (.ref x :: rest) M') : AW l g X Z y F Lw kc ks pc L (.ref a :: rest) M :=
  aw_callV (As := []) (rest := rest) hd hw hM hm hf rfl rfl h8 (fun r M' h => by
    obtain ⟨x, rfl, h⟩ := h
    exact kk x M' h)
theorem aw_V0q {i : Nat} {z : ab_Y} {F' Lw' mc ms kc' ks' : Nat} {a : Nat} {ci : Nat} {t : Nat × Nat} {fs : List Value} {Q : Option Nat → ab_M → Prop} {rest : List Value} (hd : decode y.2.1 pc = .ok (.invokevirtual i, 3)) (hw : ab_cV y.1.cls i ci z 0) (hM : M a = some (t, .inr (ci, fs))) (hm : AM l g z F' Lw' mc ms (.ref a :: []) M (ab_Qq Q)) (hf : ab_fit F Lw kc ks z F' Lw' mc ms kc' ks' = true) (h8 : (rest.map fun v => v.category).sum ≤ 8) (kk : ∀ (x : Option Nat) (M' : ab_M), Q x M' → AW l g X Z y F Lw kc' ks' (pc + 3) L (va_rf x :: rest) M') : AW l g X Z y F Lw kc ks pc L (.ref a :: rest) M :=
  aw_callV (As := []) (rest := rest) hd hw hM hm hf rfl rfl h8 (fun r M' h => by
    obtain ⟨x, rfl, h⟩ := h
    exact kk x M' h)
theorem aw_V1v {i : Nat} {z : ab_Y} {F' Lw' mc ms kc' ks' : Nat} {a : Nat} {ci : Nat} {t : Nat × Nat} {fs : List Value} {Q : ab_M → Prop} {v1 : Value} {rest : List Value} (hd : decode y.2.1 pc = .ok (.invokevirtual i, 3)) (hw : ab_cV y.1.cls i ci z 1) (hM : M a = some (t, .inr (ci, fs))) (hm : AM l g z F' Lw' mc ms (.ref a :: [v1]) M (ab_Qv Q)) (hf : ab_fit F Lw kc ks z F' Lw' mc ms kc' ks' = true) (h8 : (rest.map fun v => v.category).sum ≤ 8) (kk : ∀ (M' : ab_M), Q M' → AW l g X Z y F Lw kc' ks' (pc + 3) L (rest) M') : AW l g X Z y F Lw kc ks pc L (v1 :: .ref a :: rest) M :=
  aw_callV (As := [v1]) (rest := rest) hd hw hM hm hf rfl rfl h8 (fun r M' h => by
    obtain ⟨rfl, h⟩ := h
    exact kk M' h)
theorem aw_V1i {i : Nat} {z : ab_Y} {F' Lw' mc ms kc' ks' : Nat} {a : Nat} {ci : Nat} {t : Nat × Nat} {fs : List Value} {Q : Int32 → ab_M → Prop} {v1 : Value} {rest : List Value} (hd : decode y.2.1 pc = .ok (.invokevirtual i, 3)) (hw : ab_cV y.1.cls i ci z 1) (hM : M a = some (t, .inr (ci, fs))) (hm : AM l g z F' Lw' mc ms (.ref a :: [v1]) M (ab_Qi Q)) (hf : ab_fit F Lw kc ks z F' Lw' mc ms kc' ks' = true) (h8 : (rest.map fun v => v.category).sum ≤ 8) (kk : ∀ (x : Int32) (M' : ab_M), Q x M' → AW l g X Z y F Lw kc' ks' (pc + 3) L (.int x :: rest) M') : AW l g X Z y F Lw kc ks pc L (v1 :: .ref a :: rest) M :=
  aw_callV (As := [v1]) (rest := rest) hd hw hM hm hf rfl rfl h8 (fun r M' h => by
    obtain ⟨x, rfl, h⟩ := h
    exact kk x M' h)
theorem aw_V1l {i : Nat} {z : ab_Y} {F' Lw' mc ms kc' ks' : Nat} {a : Nat} {ci : Nat} {t : Nat × Nat} {fs : List Value} {Q : Int64 → ab_M → Prop} {v1 : Value} {rest : List Value} (hd : decode y.2.1 pc = .ok (.invokevirtual i, 3)) (hw : ab_cV y.1.cls i ci z 1) (hM : M a = some (t, .inr (ci, fs))) (hm : AM l g z F' Lw' mc ms (.ref a :: [v1]) M (ab_Ql Q)) (hf : ab_fit F Lw kc ks z F' Lw' mc ms kc' ks' = true) (h8 : (rest.map fun v => v.category).sum ≤ 8) (kk : ∀ (x : Int64) (M' : ab_M), Q x M' → AW l g X Z y F Lw kc' ks' (pc + 3) L (.long x :: rest) M') : AW l g X Z y F Lw kc ks pc L (v1 :: .ref a :: rest) M :=
  aw_callV (As := [v1]) (rest := rest) hd hw hM hm hf rfl rfl h8 (fun r M' h => by
    obtain ⟨x, rfl, h⟩ := h
    exact kk x M' h)
theorem aw_V1r {i : Nat} {z : ab_Y} {F' Lw' mc ms kc' ks' : Nat} {a : Nat} {ci : Nat} {t : Nat × Nat} {fs : List Value} {Q : Nat → ab_M → Prop} {v1 : Value} {rest : List Value} (hd : decode y.2.1 pc = .ok (.invokevirtual i, 3)) (hw : ab_cV y.1.cls i ci z 1) (hM : M a = some (t, .inr (ci, fs))) (hm : AM l g z F' Lw' mc ms (.ref a :: [v1]) M (ab_Qr Q)) (hf : ab_fit F Lw kc ks z F' Lw' mc ms kc' ks' = true) (h8 : (rest.map fun v => v.category).sum ≤ 8) (kk : ∀ (x : Nat) (M' : ab_M), Q x M' → AW l g X Z y F Lw kc' ks' (pc + 3) L (.ref x :: rest) M') : AW l g X Z y F Lw kc ks pc L (v1 :: .ref a :: rest) M :=
  aw_callV (As := [v1]) (rest := rest) hd hw hM hm hf rfl rfl h8 (fun r M' h => by
    obtain ⟨x, rfl, h⟩ := h
    exact kk x M' h)
theorem aw_V1q {i : Nat} {z : ab_Y} {F' Lw' mc ms kc' ks' : Nat} {a : Nat} {ci : Nat} {t : Nat × Nat} {fs : List Value} {Q : Option Nat → ab_M → Prop} {v1 : Value} {rest : List Value} (hd : decode y.2.1 pc = .ok (.invokevirtual i, 3)) (hw : ab_cV y.1.cls i ci z 1) (hM : M a = some (t, .inr (ci, fs))) (hm : AM l g z F' Lw' mc ms (.ref a :: [v1]) M (ab_Qq Q)) (hf : ab_fit F Lw kc ks z F' Lw' mc ms kc' ks' = true) (h8 : (rest.map fun v => v.category).sum ≤ 8) (kk : ∀ (x : Option Nat) (M' : ab_M), Q x M' → AW l g X Z y F Lw kc' ks' (pc + 3) L (va_rf x :: rest) M') : AW l g X Z y F Lw kc ks pc L (v1 :: .ref a :: rest) M :=
  aw_callV (As := [v1]) (rest := rest) hd hw hM hm hf rfl rfl h8 (fun r M' h => by
    obtain ⟨x, rfl, h⟩ := h
    exact kk x M' h)
theorem aw_V2v {i : Nat} {z : ab_Y} {F' Lw' mc ms kc' ks' : Nat} {a : Nat} {ci : Nat} {t : Nat × Nat} {fs : List Value} {Q : ab_M → Prop} {v1 v2 : Value} {rest : List Value} (hd : decode y.2.1 pc = .ok (.invokevirtual i, 3)) (hw : ab_cV y.1.cls i ci z 2) (hM : M a = some (t, .inr (ci, fs))) (hm : AM l g z F' Lw' mc ms (.ref a :: [v1, v2]) M (ab_Qv Q)) (hf : ab_fit F Lw kc ks z F' Lw' mc ms kc' ks' = true) (h8 : (rest.map fun v => v.category).sum ≤ 8) (kk : ∀ (M' : ab_M), Q M' → AW l g X Z y F Lw kc' ks' (pc + 3) L (rest) M') : AW l g X Z y F Lw kc ks pc L (v2 :: v1 :: .ref a :: rest) M :=
  aw_callV (As := [v1, v2]) (rest := rest) hd hw hM hm hf rfl rfl h8 (fun r M' h => by
    obtain ⟨rfl, h⟩ := h
    exact kk M' h)
theorem aw_V2i {i : Nat} {z : ab_Y} {F' Lw' mc ms kc' ks' : Nat} {a : Nat} {ci : Nat} {t : Nat × Nat} {fs : List Value} {Q : Int32 → ab_M → Prop} {v1 v2 : Value} {rest : List Value} (hd : decode y.2.1 pc = .ok (.invokevirtual i, 3)) (hw : ab_cV y.1.cls i ci z 2) (hM : M a = some (t, .inr (ci, fs))) (hm : AM l g z F' Lw' mc ms (.ref a :: [v1, v2]) M (ab_Qi Q)) (hf : ab_fit F Lw kc ks z F' Lw' mc ms kc' ks' = true) (h8 : (rest.map fun v => v.category).sum ≤ 8) (kk : ∀ (x : Int32) (M' : ab_M), Q x M' → AW l g X Z y F Lw kc' ks' (pc + 3) L (.int x :: rest) M') : AW l g X Z y F Lw kc ks pc L (v2 :: v1 :: .ref a :: rest) M :=
  aw_callV (As := [v1, v2]) (rest := rest) hd hw hM hm hf rfl rfl h8 (fun r M' h => by
    obtain ⟨x, rfl, h⟩ := h
    exact kk x M' h)
theorem aw_V2l {i : Nat} {z : ab_Y} {F' Lw' mc ms kc' ks' : Nat} {a : Nat} {ci : Nat} {t : Nat × Nat} {fs : List Value} {Q : Int64 → ab_M → Prop} {v1 v2 : Value} {rest : List Value} (hd : decode y.2.1 pc = .ok (.invokevirtual i, 3)) (hw : ab_cV y.1.cls i ci z 2) (hM : M a = some (t, .inr (ci, fs))) (hm : AM l g z F' Lw' mc ms (.ref a :: [v1, v2]) M (ab_Ql Q)) (hf : ab_fit F Lw kc ks z F' Lw' mc ms kc' ks' = true) (h8 : (rest.map fun v => v.category).sum ≤ 8) (kk : ∀ (x : Int64) (M' : ab_M), Q x M' → AW l g X Z y F Lw kc' ks' (pc + 3) L (.long x :: rest) M') : AW l g X Z y F Lw kc ks pc L (v2 :: v1 :: .ref a :: rest) M :=
  aw_callV (As := [v1, v2]) (rest := rest) hd hw hM hm hf rfl rfl h8 (fun r M' h => by
    obtain ⟨x, rfl, h⟩ := h
    exact kk x M' h)
theorem aw_V2r {i : Nat} {z : ab_Y} {F' Lw' mc ms kc' ks' : Nat} {a : Nat} {ci : Nat} {t : Nat × Nat} {fs : List Value} {Q : Nat → ab_M → Prop} {v1 v2 : Value} {rest : List Value} (hd : decode y.2.1 pc = .ok (.invokevirtual i, 3)) (hw : ab_cV y.1.cls i ci z 2) (hM : M a = some (t, .inr (ci, fs))) (hm : AM l g z F' Lw' mc ms (.ref a :: [v1, v2]) M (ab_Qr Q)) (hf : ab_fit F Lw kc ks z F' Lw' mc ms kc' ks' = true) (h8 : (rest.map fun v => v.category).sum ≤ 8) (kk : ∀ (x : Nat) (M' : ab_M), Q x M' → AW l g X Z y F Lw kc' ks' (pc + 3) L (.ref x :: rest) M') : AW l g X Z y F Lw kc ks pc L (v2 :: v1 :: .ref a :: rest) M :=
  aw_callV (As := [v1, v2]) (rest := rest) hd hw hM hm hf rfl rfl h8 (fun r M' h => by
    obtain ⟨x, rfl, h⟩ := h
    exact kk x M' h)
theorem aw_V2q {i : Nat} {z : ab_Y} {F' Lw' mc ms kc' ks' : Nat} {a : Nat} {ci : Nat} {t : Nat × Nat} {fs : List Value} {Q : Option Nat → ab_M → Prop} {v1 v2 : Value} {rest : List Value} (hd : decode y.2.1 pc = .ok (.invokevirtual i, 3)) (hw : ab_cV y.1.cls i ci z 2) (hM : M a = some (t, .inr (ci, fs))) (hm : AM l g z F' Lw' mc ms (.ref a :: [v1, v2]) M (ab_Qq Q)) (hf : ab_fit F Lw kc ks z F' Lw' mc ms kc' ks' = true) (h8 : (rest.map fun v => v.category).sum ≤ 8) (kk : ∀ (x : Option Nat) (M' : ab_M), Q x M' → AW l g X Z y F Lw kc' ks' (pc + 3) L (va_rf x :: rest) M') : AW l g X Z y F Lw kc ks pc L (v2 :: v1 :: .ref a :: rest) M :=
  aw_callV (As := [v1, v2]) (rest := rest) hd hw hM hm hf rfl rfl h8 (fun r M' h => by
    obtain ⟨x, rfl, h⟩ := h
    exact kk x M' h)
theorem aw_V3v {i : Nat} {z : ab_Y} {F' Lw' mc ms kc' ks' : Nat} {a : Nat} {ci : Nat} {t : Nat × Nat} {fs : List Value} {Q : ab_M → Prop} {v1 v2 v3 : Value} {rest : List Value} (hd : decode y.2.1 pc = .ok (.invokevirtual i, 3)) (hw : ab_cV y.1.cls i ci z 3) (hM : M a = some (t, .inr (ci, fs))) (hm : AM l g z F' Lw' mc ms (.ref a :: [v1, v2, v3]) M (ab_Qv Q)) (hf : ab_fit F Lw kc ks z F' Lw' mc ms kc' ks' = true) (h8 : (rest.map fun v => v.category).sum ≤ 8) (kk : ∀ (M' : ab_M), Q M' → AW l g X Z y F Lw kc' ks' (pc + 3) L (rest) M') : AW l g X Z y F Lw kc ks pc L (v3 :: v2 :: v1 :: .ref a :: rest) M :=
  aw_callV (As := [v1, v2, v3]) (rest := rest) hd hw hM hm hf rfl rfl h8 (fun r M' h => by
    obtain ⟨rfl, h⟩ := h
    exact kk M' h)
theorem aw_V3i {i : Nat} {z : ab_Y} {F' Lw' mc ms kc' ks' : Nat} {a : Nat} {ci : Nat} {t : Nat × Nat} {fs : List Value} {Q : Int32 → ab_M → Prop} {v1 v2 v3 : Value} {rest : List Value} (hd : decode y.2.1 pc = .ok (.invokevirtual i, 3)) (hw : ab_cV y.1.cls i ci z 3) (hM : M a = some (t, .inr (ci, fs))) (hm : AM l g z F' Lw' mc ms (.ref a :: [v1, v2, v3]) M (ab_Qi Q)) (hf : ab_fit F Lw kc ks z F' Lw' mc ms kc' ks' = true) (h8 : (rest.map fun v => v.category).sum ≤ 8) (kk : ∀ (x : Int32) (M' : ab_M), Q x M' → AW l g X Z y F Lw kc' ks' (pc + 3) L (.int x :: rest) M') : AW l g X Z y F Lw kc ks pc L (v3 :: v2 :: v1 :: .ref a :: rest) M :=
  aw_callV (As := [v1, v2, v3]) (rest := rest) hd hw hM hm hf rfl rfl h8 (fun r M' h => by
    obtain ⟨x, rfl, h⟩ := h
    exact kk x M' h)
theorem aw_V3l {i : Nat} {z : ab_Y} {F' Lw' mc ms kc' ks' : Nat} {a : Nat} {ci : Nat} {t : Nat × Nat} {fs : List Value} {Q : Int64 → ab_M → Prop} {v1 v2 v3 : Value} {rest : List Value} (hd : decode y.2.1 pc = .ok (.invokevirtual i, 3)) (hw : ab_cV y.1.cls i ci z 3) (hM : M a = some (t, .inr (ci, fs))) (hm : AM l g z F' Lw' mc ms (.ref a :: [v1, v2, v3]) M (ab_Ql Q)) (hf : ab_fit F Lw kc ks z F' Lw' mc ms kc' ks' = true) (h8 : (rest.map fun v => v.category).sum ≤ 8) (kk : ∀ (x : Int64) (M' : ab_M), Q x M' → AW l g X Z y F Lw kc' ks' (pc + 3) L (.long x :: rest) M') : AW l g X Z y F Lw kc ks pc L (v3 :: v2 :: v1 :: .ref a :: rest) M :=
  aw_callV (As := [v1, v2, v3]) (rest := rest) hd hw hM hm hf rfl rfl h8 (fun r M' h => by
    obtain ⟨x, rfl, h⟩ := h
    exact kk x M' h)
theorem aw_V3r {i : Nat} {z : ab_Y} {F' Lw' mc ms kc' ks' : Nat} {a : Nat} {ci : Nat} {t : Nat × Nat} {fs : List Value} {Q : Nat → ab_M → Prop} {v1 v2 v3 : Value} {rest : List Value} (hd : decode y.2.1 pc = .ok (.invokevirtual i, 3)) (hw : ab_cV y.1.cls i ci z 3) (hM : M a = some (t, .inr (ci, fs))) (hm : AM l g z F' Lw' mc ms (.ref a :: [v1, v2, v3]) M (ab_Qr Q)) (hf : ab_fit F Lw kc ks z F' Lw' mc ms kc' ks' = true) (h8 : (rest.map fun v => v.category).sum ≤ 8) (kk : ∀ (x : Nat) (M' : ab_M), Q x M' → AW l g X Z y F Lw kc' ks' (pc + 3) L (.ref x :: rest) M') : AW l g X Z y F Lw kc ks pc L (v3 :: v2 :: v1 :: .ref a :: rest) M :=
  aw_callV (As := [v1, v2, v3]) (rest := rest) hd hw hM hm hf rfl rfl h8 (fun r M' h => by
    obtain ⟨x, rfl, h⟩ := h
    exact kk x M' h)
theorem aw_V3q {i : Nat} {z : ab_Y} {F' Lw' mc ms kc' ks' : Nat} {a : Nat} {ci : Nat} {t : Nat × Nat} {fs : List Value} {Q : Option Nat → ab_M → Prop} {v1 v2 v3 : Value} {rest : List Value} (hd : decode y.2.1 pc = .ok (.invokevirtual i, 3)) (hw : ab_cV y.1.cls i ci z 3) (hM : M a = some (t, .inr (ci, fs))) (hm : AM l g z F' Lw' mc ms (.ref a :: [v1, v2, v3]) M (ab_Qq Q)) (hf : ab_fit F Lw kc ks z F' Lw' mc ms kc' ks' = true) (h8 : (rest.map fun v => v.category).sum ≤ 8) (kk : ∀ (x : Option Nat) (M' : ab_M), Q x M' → AW l g X Z y F Lw kc' ks' (pc + 3) L (va_rf x :: rest) M') : AW l g X Z y F Lw kc ks pc L (v3 :: v2 :: v1 :: .ref a :: rest) M :=
  aw_callV (As := [v1, v2, v3]) (rest := rest) hd hw hM hm hf rfl rfl h8 (fun r M' h => by
    obtain ⟨x, rfl, h⟩ := h
    exact kk x M' h)
theorem aw_V4v {i : Nat} {z : ab_Y} {F' Lw' mc ms kc' ks' : Nat} {a : Nat} {ci : Nat} {t : Nat × Nat} {fs : List Value} {Q : ab_M → Prop} {v1 v2 v3 v4 : Value} {rest : List Value} (hd : decode y.2.1 pc = .ok (.invokevirtual i, 3)) (hw : ab_cV y.1.cls i ci z 4) (hM : M a = some (t, .inr (ci, fs))) (hm : AM l g z F' Lw' mc ms (.ref a :: [v1, v2, v3, v4]) M (ab_Qv Q)) (hf : ab_fit F Lw kc ks z F' Lw' mc ms kc' ks' = true) (h8 : (rest.map fun v => v.category).sum ≤ 8) (kk : ∀ (M' : ab_M), Q M' → AW l g X Z y F Lw kc' ks' (pc + 3) L (rest) M') : AW l g X Z y F Lw kc ks pc L (v4 :: v3 :: v2 :: v1 :: .ref a :: rest) M :=
  aw_callV (As := [v1, v2, v3, v4]) (rest := rest) hd hw hM hm hf rfl rfl h8 (fun r M' h => by
    obtain ⟨rfl, h⟩ := h
    exact kk M' h)
theorem aw_V4i {i : Nat} {z : ab_Y} {F' Lw' mc ms kc' ks' : Nat} {a : Nat} {ci : Nat} {t : Nat × Nat} {fs : List Value} {Q : Int32 → ab_M → Prop} {v1 v2 v3 v4 : Value} {rest : List Value} (hd : decode y.2.1 pc = .ok (.invokevirtual i, 3)) (hw : ab_cV y.1.cls i ci z 4) (hM : M a = some (t, .inr (ci, fs))) (hm : AM l g z F' Lw' mc ms (.ref a :: [v1, v2, v3, v4]) M (ab_Qi Q)) (hf : ab_fit F Lw kc ks z F' Lw' mc ms kc' ks' = true) (h8 : (rest.map fun v => v.category).sum ≤ 8) (kk : ∀ (x : Int32) (M' : ab_M), Q x M' → AW l g X Z y F Lw kc' ks' (pc + 3) L (.int x :: rest) M') : AW l g X Z y F Lw kc ks pc L (v4 :: v3 :: v2 :: v1 :: .ref a :: rest) M :=
  aw_callV (As := [v1, v2, v3, v4]) (rest := rest) hd hw hM hm hf rfl rfl h8 (fun r M' h => by
    obtain ⟨x, rfl, h⟩ := h
    exact kk x M' h)
theorem aw_V4l {i : Nat} {z : ab_Y} {F' Lw' mc ms kc' ks' : Nat} {a : Nat} {ci : Nat} {t : Nat × Nat} {fs : List Value} {Q : Int64 → ab_M → Prop} {v1 v2 v3 v4 : Value} {rest : List Value} (hd : decode y.2.1 pc = .ok (.invokevirtual i, 3)) (hw : ab_cV y.1.cls i ci z 4) (hM : M a = some (t, .inr (ci, fs))) (hm : AM l g z F' Lw' mc ms (.ref a :: [v1, v2, v3, v4]) M (ab_Ql Q)) (hf : ab_fit F Lw kc ks z F' Lw' mc ms kc' ks' = true) (h8 : (rest.map fun v => v.category).sum ≤ 8) (kk : ∀ (x : Int64) (M' : ab_M), Q x M' → AW l g X Z y F Lw kc' ks' (pc + 3) L (.long x :: rest) M') : AW l g X Z y F Lw kc ks pc L (v4 :: v3 :: v2 :: v1 :: .ref a :: rest) M :=
  aw_callV (As := [v1, v2, v3, v4]) (rest := rest) hd hw hM hm hf rfl rfl h8 (fun r M' h => by
    obtain ⟨x, rfl, h⟩ := h
    exact kk x M' h)
theorem aw_V4r {i : Nat} {z : ab_Y} {F' Lw' mc ms kc' ks' : Nat} {a : Nat} {ci : Nat} {t : Nat × Nat} {fs : List Value} {Q : Nat → ab_M → Prop} {v1 v2 v3 v4 : Value} {rest : List Value} (hd : decode y.2.1 pc = .ok (.invokevirtual i, 3)) (hw : ab_cV y.1.cls i ci z 4) (hM : M a = some (t, .inr (ci, fs))) (hm : AM l g z F' Lw' mc ms (.ref a :: [v1, v2, v3, v4]) M (ab_Qr Q)) (hf : ab_fit F Lw kc ks z F' Lw' mc ms kc' ks' = true) (h8 : (rest.map fun v => v.category).sum ≤ 8) (kk : ∀ (x : Nat) (M' : ab_M), Q x M' → AW l g X Z y F Lw kc' ks' (pc + 3) L (.ref x :: rest) M') : AW l g X Z y F Lw kc ks pc L (v4 :: v3 :: v2 :: v1 :: .ref a :: rest) M :=
  aw_callV (As := [v1, v2, v3, v4]) (rest := rest) hd hw hM hm hf rfl rfl h8 (fun r M' h => by
    obtain ⟨x, rfl, h⟩ := h
    exact kk x M' h)
theorem aw_V4q {i : Nat} {z : ab_Y} {F' Lw' mc ms kc' ks' : Nat} {a : Nat} {ci : Nat} {t : Nat × Nat} {fs : List Value} {Q : Option Nat → ab_M → Prop} {v1 v2 v3 v4 : Value} {rest : List Value} (hd : decode y.2.1 pc = .ok (.invokevirtual i, 3)) (hw : ab_cV y.1.cls i ci z 4) (hM : M a = some (t, .inr (ci, fs))) (hm : AM l g z F' Lw' mc ms (.ref a :: [v1, v2, v3, v4]) M (ab_Qq Q)) (hf : ab_fit F Lw kc ks z F' Lw' mc ms kc' ks' = true) (h8 : (rest.map fun v => v.category).sum ≤ 8) (kk : ∀ (x : Option Nat) (M' : ab_M), Q x M' → AW l g X Z y F Lw kc' ks' (pc + 3) L (va_rf x :: rest) M') : AW l g X Z y F Lw kc ks pc L (v4 :: v3 :: v2 :: v1 :: .ref a :: rest) M :=
  aw_callV (As := [v1, v2, v3, v4]) (rest := rest) hd hw hM hm hf rfl rfl h8 (fun r M' h => by
    obtain ⟨x, rfl, h⟩ := h
    exact kk x M' h)
theorem aw_V5v {i : Nat} {z : ab_Y} {F' Lw' mc ms kc' ks' : Nat} {a : Nat} {ci : Nat} {t : Nat × Nat} {fs : List Value} {Q : ab_M → Prop} {v1 v2 v3 v4 v5 : Value} {rest : List Value} (hd : decode y.2.1 pc = .ok (.invokevirtual i, 3)) (hw : ab_cV y.1.cls i ci z 5) (hM : M a = some (t, .inr (ci, fs))) (hm : AM l g z F' Lw' mc ms (.ref a :: [v1, v2, v3, v4, v5]) M (ab_Qv Q)) (hf : ab_fit F Lw kc ks z F' Lw' mc ms kc' ks' = true) (h8 : (rest.map fun v => v.category).sum ≤ 8) (kk : ∀ (M' : ab_M), Q M' → AW l g X Z y F Lw kc' ks' (pc + 3) L (rest) M') : AW l g X Z y F Lw kc ks pc L (v5 :: v4 :: v3 :: v2 :: v1 :: .ref a :: rest) M :=
  aw_callV (As := [v1, v2, v3, v4, v5]) (rest := rest) hd hw hM hm hf rfl rfl h8 (fun r M' h => by
    obtain ⟨rfl, h⟩ := h
    exact kk M' h)
theorem aw_V5i {i : Nat} {z : ab_Y} {F' Lw' mc ms kc' ks' : Nat} {a : Nat} {ci : Nat} {t : Nat × Nat} {fs : List Value} {Q : Int32 → ab_M → Prop} {v1 v2 v3 v4 v5 : Value} {rest : List Value} (hd : decode y.2.1 pc = .ok (.invokevirtual i, 3)) (hw : ab_cV y.1.cls i ci z 5) (hM : M a = some (t, .inr (ci, fs))) (hm : AM l g z F' Lw' mc ms (.ref a :: [v1, v2, v3, v4, v5]) M (ab_Qi Q)) (hf : ab_fit F Lw kc ks z F' Lw' mc ms kc' ks' = true) (h8 : (rest.map fun v => v.category).sum ≤ 8) (kk : ∀ (x : Int32) (M' : ab_M), Q x M' → AW l g X Z y F Lw kc' ks' (pc + 3) L (.int x :: rest) M') : AW l g X Z y F Lw kc ks pc L (v5 :: v4 :: v3 :: v2 :: v1 :: .ref a :: rest) M :=
  aw_callV (As := [v1, v2, v3, v4, v5]) (rest := rest) hd hw hM hm hf rfl rfl h8 (fun r M' h => by
    obtain ⟨x, rfl, h⟩ := h
    exact kk x M' h)
theorem aw_V5l {i : Nat} {z : ab_Y} {F' Lw' mc ms kc' ks' : Nat} {a : Nat} {ci : Nat} {t : Nat × Nat} {fs : List Value} {Q : Int64 → ab_M → Prop} {v1 v2 v3 v4 v5 : Value} {rest : List Value} (hd : decode y.2.1 pc = .ok (.invokevirtual i, 3)) (hw : ab_cV y.1.cls i ci z 5) (hM : M a = some (t, .inr (ci, fs))) (hm : AM l g z F' Lw' mc ms (.ref a :: [v1, v2, v3, v4, v5]) M (ab_Ql Q)) (hf : ab_fit F Lw kc ks z F' Lw' mc ms kc' ks' = true) (h8 : (rest.map fun v => v.category).sum ≤ 8) (kk : ∀ (x : Int64) (M' : ab_M), Q x M' → AW l g X Z y F Lw kc' ks' (pc + 3) L (.long x :: rest) M') : AW l g X Z y F Lw kc ks pc L (v5 :: v4 :: v3 :: v2 :: v1 :: .ref a :: rest) M :=
  aw_callV (As := [v1, v2, v3, v4, v5]) (rest := rest) hd hw hM hm hf rfl rfl h8 (fun r M' h => by
    obtain ⟨x, rfl, h⟩ := h
    exact kk x M' h)
theorem aw_V5r {i : Nat} {z : ab_Y} {F' Lw' mc ms kc' ks' : Nat} {a : Nat} {ci : Nat} {t : Nat × Nat} {fs : List Value} {Q : Nat → ab_M → Prop} {v1 v2 v3 v4 v5 : Value} {rest : List Value} (hd : decode y.2.1 pc = .ok (.invokevirtual i, 3)) (hw : ab_cV y.1.cls i ci z 5) (hM : M a = some (t, .inr (ci, fs))) (hm : AM l g z F' Lw' mc ms (.ref a :: [v1, v2, v3, v4, v5]) M (ab_Qr Q)) (hf : ab_fit F Lw kc ks z F' Lw' mc ms kc' ks' = true) (h8 : (rest.map fun v => v.category).sum ≤ 8) (kk : ∀ (x : Nat) (M' : ab_M), Q x M' → AW l g X Z y F Lw kc' ks' (pc + 3) L (.ref x :: rest) M') : AW l g X Z y F Lw kc ks pc L (v5 :: v4 :: v3 :: v2 :: v1 :: .ref a :: rest) M :=
  aw_callV (As := [v1, v2, v3, v4, v5]) (rest := rest) hd hw hM hm hf rfl rfl h8 (fun r M' h => by
    obtain ⟨x, rfl, h⟩ := h
    exact kk x M' h)
theorem aw_V5q {i : Nat} {z : ab_Y} {F' Lw' mc ms kc' ks' : Nat} {a : Nat} {ci : Nat} {t : Nat × Nat} {fs : List Value} {Q : Option Nat → ab_M → Prop} {v1 v2 v3 v4 v5 : Value} {rest : List Value} (hd : decode y.2.1 pc = .ok (.invokevirtual i, 3)) (hw : ab_cV y.1.cls i ci z 5) (hM : M a = some (t, .inr (ci, fs))) (hm : AM l g z F' Lw' mc ms (.ref a :: [v1, v2, v3, v4, v5]) M (ab_Qq Q)) (hf : ab_fit F Lw kc ks z F' Lw' mc ms kc' ks' = true) (h8 : (rest.map fun v => v.category).sum ≤ 8) (kk : ∀ (x : Option Nat) (M' : ab_M), Q x M' → AW l g X Z y F Lw kc' ks' (pc + 3) L (va_rf x :: rest) M') : AW l g X Z y F Lw kc ks pc L (v5 :: v4 :: v3 :: v2 :: v1 :: .ref a :: rest) M :=
  aw_callV (As := [v1, v2, v3, v4, v5]) (rest := rest) hd hw hM hm hf rfl rfl h8 (fun r M' h => by
    obtain ⟨x, rfl, h⟩ := h
    exact kk x M' h)
theorem aw_V6v {i : Nat} {z : ab_Y} {F' Lw' mc ms kc' ks' : Nat} {a : Nat} {ci : Nat} {t : Nat × Nat} {fs : List Value} {Q : ab_M → Prop} {v1 v2 v3 v4 v5 v6 : Value} {rest : List Value} (hd : decode y.2.1 pc = .ok (.invokevirtual i, 3)) (hw : ab_cV y.1.cls i ci z 6) (hM : M a = some (t, .inr (ci, fs))) (hm : AM l g z F' Lw' mc ms (.ref a :: [v1, v2, v3, v4, v5, v6]) M (ab_Qv Q)) (hf : ab_fit F Lw kc ks z F' Lw' mc ms kc' ks' = true) (h8 : (rest.map fun v => v.category).sum ≤ 8) (kk : ∀ (M' : ab_M), Q M' → AW l g X Z y F Lw kc' ks' (pc + 3) L (rest) M') : AW l g X Z y F Lw kc ks pc L (v6 :: v5 :: v4 :: v3 :: v2 :: v1 :: .ref a :: rest) M :=
  aw_callV (As := [v1, v2, v3, v4, v5, v6]) (rest := rest) hd hw hM hm hf rfl rfl h8 (fun r M' h => by
    obtain ⟨rfl, h⟩ := h
    exact kk M' h)
theorem aw_V6i {i : Nat} {z : ab_Y} {F' Lw' mc ms kc' ks' : Nat} {a : Nat} {ci : Nat} {t : Nat × Nat} {fs : List Value} {Q : Int32 → ab_M → Prop} {v1 v2 v3 v4 v5 v6 : Value} {rest : List Value} (hd : decode y.2.1 pc = .ok (.invokevirtual i, 3)) (hw : ab_cV y.1.cls i ci z 6) (hM : M a = some (t, .inr (ci, fs))) (hm : AM l g z F' Lw' mc ms (.ref a :: [v1, v2, v3, v4, v5, v6]) M (ab_Qi Q)) (hf : ab_fit F Lw kc ks z F' Lw' mc ms kc' ks' = true) (h8 : (rest.map fun v => v.category).sum ≤ 8) (kk : ∀ (x : Int32) (M' : ab_M), Q x M' → AW l g X Z y F Lw kc' ks' (pc + 3) L (.int x :: rest) M') : AW l g X Z y F Lw kc ks pc L (v6 :: v5 :: v4 :: v3 :: v2 :: v1 :: .ref a :: rest) M :=
  aw_callV (As := [v1, v2, v3, v4, v5, v6]) (rest := rest) hd hw hM hm hf rfl rfl h8 (fun r M' h => by
    obtain ⟨x, rfl, h⟩ := h
    exact kk x M' h)
theorem aw_V6l {i : Nat} {z : ab_Y} {F' Lw' mc ms kc' ks' : Nat} {a : Nat} {ci : Nat} {t : Nat × Nat} {fs : List Value} {Q : Int64 → ab_M → Prop} {v1 v2 v3 v4 v5 v6 : Value} {rest : List Value} (hd : decode y.2.1 pc = .ok (.invokevirtual i, 3)) (hw : ab_cV y.1.cls i ci z 6) (hM : M a = some (t, .inr (ci, fs))) (hm : AM l g z F' Lw' mc ms (.ref a :: [v1, v2, v3, v4, v5, v6]) M (ab_Ql Q)) (hf : ab_fit F Lw kc ks z F' Lw' mc ms kc' ks' = true) (h8 : (rest.map fun v => v.category).sum ≤ 8) (kk : ∀ (x : Int64) (M' : ab_M), Q x M' → AW l g X Z y F Lw kc' ks' (pc + 3) L (.long x :: rest) M') : AW l g X Z y F Lw kc ks pc L (v6 :: v5 :: v4 :: v3 :: v2 :: v1 :: .ref a :: rest) M :=
  aw_callV (As := [v1, v2, v3, v4, v5, v6]) (rest := rest) hd hw hM hm hf rfl rfl h8 (fun r M' h => by
    obtain ⟨x, rfl, h⟩ := h
    exact kk x M' h)
theorem aw_V6r {i : Nat} {z : ab_Y} {F' Lw' mc ms kc' ks' : Nat} {a : Nat} {ci : Nat} {t : Nat × Nat} {fs : List Value} {Q : Nat → ab_M → Prop} {v1 v2 v3 v4 v5 v6 : Value} {rest : List Value} (hd : decode y.2.1 pc = .ok (.invokevirtual i, 3)) (hw : ab_cV y.1.cls i ci z 6) (hM : M a = some (t, .inr (ci, fs))) (hm : AM l g z F' Lw' mc ms (.ref a :: [v1, v2, v3, v4, v5, v6]) M (ab_Qr Q)) (hf : ab_fit F Lw kc ks z F' Lw' mc ms kc' ks' = true) (h8 : (rest.map fun v => v.category).sum ≤ 8) (kk : ∀ (x : Nat) (M' : ab_M), Q x M' → AW l g X Z y F Lw kc' ks' (pc + 3) L (.ref x :: rest) M') : AW l g X Z y F Lw kc ks pc L (v6 :: v5 :: v4 :: v3 :: v2 :: v1 :: .ref a :: rest) M :=
  aw_callV (As := [v1, v2, v3, v4, v5, v6]) (rest := rest) hd hw hM hm hf rfl rfl h8 (fun r M' h => by
    obtain ⟨x, rfl, h⟩ := h
    exact kk x M' h)
theorem aw_V6q {i : Nat} {z : ab_Y} {F' Lw' mc ms kc' ks' : Nat} {a : Nat} {ci : Nat} {t : Nat × Nat} {fs : List Value} {Q : Option Nat → ab_M → Prop} {v1 v2 v3 v4 v5 v6 : Value} {rest : List Value} (hd : decode y.2.1 pc = .ok (.invokevirtual i, 3)) (hw : ab_cV y.1.cls i ci z 6) (hM : M a = some (t, .inr (ci, fs))) (hm : AM l g z F' Lw' mc ms (.ref a :: [v1, v2, v3, v4, v5, v6]) M (ab_Qq Q)) (hf : ab_fit F Lw kc ks z F' Lw' mc ms kc' ks' = true) (h8 : (rest.map fun v => v.category).sum ≤ 8) (kk : ∀ (x : Option Nat) (M' : ab_M), Q x M' → AW l g X Z y F Lw kc' ks' (pc + 3) L (va_rf x :: rest) M') : AW l g X Z y F Lw kc ks pc L (v6 :: v5 :: v4 :: v3 :: v2 :: v1 :: .ref a :: rest) M :=
  aw_callV (As := [v1, v2, v3, v4, v5, v6]) (rest := rest) hd hw hM hm hf rfl rfl h8 (fun r M' h => by
    obtain ⟨x, rfl, h⟩ := h
    exact kk x M' h)
theorem aw_I0v {i : Nat} {z : ab_Y} {F' Lw' mc ms kc' ks' : Nat} {a : Nat} {Q : ab_M → Prop} {rest : List Value} (hd : decode y.2.1 pc = .ok (.invokespecial i, 3)) (hw : ab_cI y.1.cls i z 0) (hm : AM l g z F' Lw' mc ms (.ref a :: []) M (ab_Qv Q)) (hf : ab_fit F Lw kc ks z F' Lw' mc ms kc' ks' = true) (h8 : (rest.map fun v => v.category).sum ≤ 8) (kk : ∀ (M' : ab_M), Q M' → AW l g X Z y F Lw kc' ks' (pc + 3) L (rest) M') : AW l g X Z y F Lw kc ks pc L (.ref a :: rest) M :=
  aw_callI (As := []) (rest := rest) hd hw hm hf rfl rfl h8 (fun r M' h => by
    obtain ⟨rfl, h⟩ := h
    exact kk M' h)
theorem aw_I1v {i : Nat} {z : ab_Y} {F' Lw' mc ms kc' ks' : Nat} {a : Nat} {Q : ab_M → Prop} {v1 : Value} {rest : List Value} (hd : decode y.2.1 pc = .ok (.invokespecial i, 3)) (hw : ab_cI y.1.cls i z 1) (hm : AM l g z F' Lw' mc ms (.ref a :: [v1]) M (ab_Qv Q)) (hf : ab_fit F Lw kc ks z F' Lw' mc ms kc' ks' = true) (h8 : (rest.map fun v => v.category).sum ≤ 8) (kk : ∀ (M' : ab_M), Q M' → AW l g X Z y F Lw kc' ks' (pc + 3) L (rest) M') : AW l g X Z y F Lw kc ks pc L (v1 :: .ref a :: rest) M :=
  aw_callI (As := [v1]) (rest := rest) hd hw hm hf rfl rfl h8 (fun r M' h => by
    obtain ⟨rfl, h⟩ := h
    exact kk M' h)
theorem aw_I2v {i : Nat} {z : ab_Y} {F' Lw' mc ms kc' ks' : Nat} {a : Nat} {Q : ab_M → Prop} {v1 v2 : Value} {rest : List Value} (hd : decode y.2.1 pc = .ok (.invokespecial i, 3)) (hw : ab_cI y.1.cls i z 2) (hm : AM l g z F' Lw' mc ms (.ref a :: [v1, v2]) M (ab_Qv Q)) (hf : ab_fit F Lw kc ks z F' Lw' mc ms kc' ks' = true) (h8 : (rest.map fun v => v.category).sum ≤ 8) (kk : ∀ (M' : ab_M), Q M' → AW l g X Z y F Lw kc' ks' (pc + 3) L (rest) M') : AW l g X Z y F Lw kc ks pc L (v2 :: v1 :: .ref a :: rest) M :=
  aw_callI (As := [v1, v2]) (rest := rest) hd hw hm hf rfl rfl h8 (fun r M' h => by
    obtain ⟨rfl, h⟩ := h
    exact kk M' h)
theorem aw_I3v {i : Nat} {z : ab_Y} {F' Lw' mc ms kc' ks' : Nat} {a : Nat} {Q : ab_M → Prop} {v1 v2 v3 : Value} {rest : List Value} (hd : decode y.2.1 pc = .ok (.invokespecial i, 3)) (hw : ab_cI y.1.cls i z 3) (hm : AM l g z F' Lw' mc ms (.ref a :: [v1, v2, v3]) M (ab_Qv Q)) (hf : ab_fit F Lw kc ks z F' Lw' mc ms kc' ks' = true) (h8 : (rest.map fun v => v.category).sum ≤ 8) (kk : ∀ (M' : ab_M), Q M' → AW l g X Z y F Lw kc' ks' (pc + 3) L (rest) M') : AW l g X Z y F Lw kc ks pc L (v3 :: v2 :: v1 :: .ref a :: rest) M :=
  aw_callI (As := [v1, v2, v3]) (rest := rest) hd hw hm hf rfl rfl h8 (fun r M' h => by
    obtain ⟨rfl, h⟩ := h
    exact kk M' h)
theorem aw_I4v {i : Nat} {z : ab_Y} {F' Lw' mc ms kc' ks' : Nat} {a : Nat} {Q : ab_M → Prop} {v1 v2 v3 v4 : Value} {rest : List Value} (hd : decode y.2.1 pc = .ok (.invokespecial i, 3)) (hw : ab_cI y.1.cls i z 4) (hm : AM l g z F' Lw' mc ms (.ref a :: [v1, v2, v3, v4]) M (ab_Qv Q)) (hf : ab_fit F Lw kc ks z F' Lw' mc ms kc' ks' = true) (h8 : (rest.map fun v => v.category).sum ≤ 8) (kk : ∀ (M' : ab_M), Q M' → AW l g X Z y F Lw kc' ks' (pc + 3) L (rest) M') : AW l g X Z y F Lw kc ks pc L (v4 :: v3 :: v2 :: v1 :: .ref a :: rest) M :=
  aw_callI (As := [v1, v2, v3, v4]) (rest := rest) hd hw hm hf rfl rfl h8 (fun r M' h => by
    obtain ⟨rfl, h⟩ := h
    exact kk M' h)
theorem aw_J0v {i : Nat} {z : ab_Y} {F' Lw' mc ms kc' ks' : Nat} {a : Nat} {Q : ab_M → Prop} {rest : List Value} (hd : decode y.2.1 pc = .ok (.invokespecial i, 3)) (hw : ab_cJ y.1.cls i z 0) (hm : AM l g z F' Lw' mc ms (.ref a :: []) M (ab_Qv Q)) (hf : ab_fit F Lw kc ks z F' Lw' mc ms kc' ks' = true) (h8 : (rest.map fun v => v.category).sum ≤ 8) (kk : ∀ (M' : ab_M), Q M' → AW l g X Z y F Lw kc' ks' (pc + 3) L (rest) M') : AW l g X Z y F Lw kc ks pc L (.ref a :: rest) M :=
  aw_callJ (As := []) (rest := rest) hd hw hm hf rfl rfl h8 (fun r M' h => by
    obtain ⟨rfl, h⟩ := h
    exact kk M' h)
theorem aw_J1v {i : Nat} {z : ab_Y} {F' Lw' mc ms kc' ks' : Nat} {a : Nat} {Q : ab_M → Prop} {v1 : Value} {rest : List Value} (hd : decode y.2.1 pc = .ok (.invokespecial i, 3)) (hw : ab_cJ y.1.cls i z 1) (hm : AM l g z F' Lw' mc ms (.ref a :: [v1]) M (ab_Qv Q)) (hf : ab_fit F Lw kc ks z F' Lw' mc ms kc' ks' = true) (h8 : (rest.map fun v => v.category).sum ≤ 8) (kk : ∀ (M' : ab_M), Q M' → AW l g X Z y F Lw kc' ks' (pc + 3) L (rest) M') : AW l g X Z y F Lw kc ks pc L (v1 :: .ref a :: rest) M :=
  aw_callJ (As := [v1]) (rest := rest) hd hw hm hf rfl rfl h8 (fun r M' h => by
    obtain ⟨rfl, h⟩ := h
    exact kk M' h)
theorem aw_J2v {i : Nat} {z : ab_Y} {F' Lw' mc ms kc' ks' : Nat} {a : Nat} {Q : ab_M → Prop} {v1 v2 : Value} {rest : List Value} (hd : decode y.2.1 pc = .ok (.invokespecial i, 3)) (hw : ab_cJ y.1.cls i z 2) (hm : AM l g z F' Lw' mc ms (.ref a :: [v1, v2]) M (ab_Qv Q)) (hf : ab_fit F Lw kc ks z F' Lw' mc ms kc' ks' = true) (h8 : (rest.map fun v => v.category).sum ≤ 8) (kk : ∀ (M' : ab_M), Q M' → AW l g X Z y F Lw kc' ks' (pc + 3) L (rest) M') : AW l g X Z y F Lw kc ks pc L (v2 :: v1 :: .ref a :: rest) M :=
  aw_callJ (As := [v1, v2]) (rest := rest) hd hw hm hf rfl rfl h8 (fun r M' h => by
    obtain ⟨rfl, h⟩ := h
    exact kk M' h)
theorem aw_J3v {i : Nat} {z : ab_Y} {F' Lw' mc ms kc' ks' : Nat} {a : Nat} {Q : ab_M → Prop} {v1 v2 v3 : Value} {rest : List Value} (hd : decode y.2.1 pc = .ok (.invokespecial i, 3)) (hw : ab_cJ y.1.cls i z 3) (hm : AM l g z F' Lw' mc ms (.ref a :: [v1, v2, v3]) M (ab_Qv Q)) (hf : ab_fit F Lw kc ks z F' Lw' mc ms kc' ks' = true) (h8 : (rest.map fun v => v.category).sum ≤ 8) (kk : ∀ (M' : ab_M), Q M' → AW l g X Z y F Lw kc' ks' (pc + 3) L (rest) M') : AW l g X Z y F Lw kc ks pc L (v3 :: v2 :: v1 :: .ref a :: rest) M :=
  aw_callJ (As := [v1, v2, v3]) (rest := rest) hd hw hm hf rfl rfl h8 (fun r M' h => by
    obtain ⟨rfl, h⟩ := h
    exact kk M' h)
theorem aw_J4v {i : Nat} {z : ab_Y} {F' Lw' mc ms kc' ks' : Nat} {a : Nat} {Q : ab_M → Prop} {v1 v2 v3 v4 : Value} {rest : List Value} (hd : decode y.2.1 pc = .ok (.invokespecial i, 3)) (hw : ab_cJ y.1.cls i z 4) (hm : AM l g z F' Lw' mc ms (.ref a :: [v1, v2, v3, v4]) M (ab_Qv Q)) (hf : ab_fit F Lw kc ks z F' Lw' mc ms kc' ks' = true) (h8 : (rest.map fun v => v.category).sum ≤ 8) (kk : ∀ (M' : ab_M), Q M' → AW l g X Z y F Lw kc' ks' (pc + 3) L (rest) M') : AW l g X Z y F Lw kc ks pc L (v4 :: v3 :: v2 :: v1 :: .ref a :: rest) M :=
  aw_callJ (As := [v1, v2, v3, v4]) (rest := rest) hd hw hm hf rfl rfl h8 (fun r M' h => by
    obtain ⟨rfl, h⟩ := h
    exact kk M' h)
end AB3
end
section
/-! ===== static facts of the claim's classes, fields, methods, calls: by a program out of the tables ===== -/
theorem ab_in (ws : List Cond) (ps : List Nat) (hp : ws = ps.filterMap (fun i => lw_tbl[i]?)) (h : ws.all goodWord = true) : ∀ w ∈ ws, w ∈ ab_T := by
  intro w hw
  have h1 := List.all_eq_true.mp h w hw
  rw [hp] at hw
  obtain ⟨i, -, hi⟩ := List.mem_filterMap.mp hw
  exact ab_T_in hi h1
theorem ab_nest_in {i : Nat} {w : Cond} (h : lw_tbl[i]? = some w) (hg : ab_isN w = true) : w ∈ ab_nest := List.mem_filter.mpr ⟨List.mem_of_getElem? h, hg⟩
abbrev Y_X8_init : ab_Y := (yX8_init, cX8_init, 1, none)
abbrev Y_Jx4a65c_init_da8c8 : ab_Y := (yJx4a65c_init_da8c8, cJx4a65c_init_da8c8, 1, none)
abbrev Y_Jxc12de_init_da8c8 : ab_Y := (yJxc12de_init_da8c8, cJxc12de_init_da8c8, 1, none)
abbrev Y_Jxa1e45_init_da8c8 : ab_Y := (yJxa1e45_init_da8c8, cJxa1e45_init_da8c8, 1, none)
abbrev Y_X1_init : ab_Y := (yX1_init, cX1_init, 1, none)
abbrev Y_J7_fill_53178 : ab_Y := (yJ7_fill_53178, cJ7_fill_53178, 4, none)
abbrev Y_X6_init : ab_Y := (yX6_init, cX6_init, 1, none)
abbrev Y_X3_init : ab_Y := (yX3_init, cX3_init, 1, none)
abbrev Y_X8_fountain : ab_Y := (yX8_fountain, cX8_fountain, 3, (some .int))
abbrev Y_X8_outside : ab_Y := (yX8_outside, cX8_outside, 3, (some .boolean))
abbrev Y_Jx4a65c_isEmpty_aae02 : ab_Y := (yJx4a65c_isEmpty_aae02, cJx4a65c_isEmpty_aae02, 1, (some .boolean))
abbrev Y_Jx4a65c_size_8abf5 : ab_Y := (yJx4a65c_size_8abf5, cJx4a65c_size_8abf5, 1, (some .int))
abbrev Y_X2_init : ab_Y := (yX2_init, cX2_init, 3, none)
abbrev Y_Jx4a65c_add_9ea2d : ab_Y := (yJx4a65c_add_9ea2d, cJx4a65c_add_9ea2d, 2, (some .boolean))
abbrev Y_Jx4a65c_add_72be8 : ab_Y := (yJx4a65c_add_72be8, cJx4a65c_add_72be8, 4, none)
abbrev Y_Jx4a65c_grow_d5877 : ab_Y := (yJx4a65c_grow_d5877, cJx4a65c_grow_d5877, 1, (some (.array (.object "java/lang/Object"))))
abbrev Y_Jx4a65c_grow_92f84 : ab_Y := (yJx4a65c_grow_92f84, cJx4a65c_grow_92f84, 4, (some (.array (.object "java/lang/Object"))))
abbrev Y_J8_newLength_cabcc : ab_Y := (yJ8_newLength_cabcc, cJ8_newLength_cabcc, 4, (some .int))
abbrev Y_J9_max_7cf53 : ab_Y := (yJ9_max_7cf53, cJ9_max_7cf53, 2, (some .int))
abbrev Y_J8_hugeLength_7cf53 : ab_Y := (yJ8_hugeLength_7cf53, cJ8_hugeLength_7cf53, 3, (some .int))
abbrev Y_J7_copyOf_1904c : ab_Y := (yJ7_copyOf_1904c, cJ7_copyOf_1904c, 2, (some (.array (.object "java/lang/Object"))))
abbrev Y_J7_copyOf_6403c : ab_Y := (yJ7_copyOf_6403c, cJ7_copyOf_6403c, 4, (some (.array (.object "java/lang/Object"))))
abbrev Y_J9_min_7cf53 : ab_Y := (yJ9_min_7cf53, cJ9_min_7cf53, 2, (some .int))
abbrev Y_X8_jar : ab_Y := (yX8_jar, cX8_jar, 9, (some .int))
abbrev Y_X4_init : ab_Y := (yX4_init, cX4_init, 5, none)
abbrev Y_X8_drinks : ab_Y := (yX8_drinks, cX8_drinks, 5, (some .int))
abbrev Y_X8_jarAt : ab_Y := (yX8_jarAt, cX8_jarAt, 2, (some (.object "WaterMen$Jar")))
abbrev Y_Jx4a65c_get_915e3 : ab_Y := (yJx4a65c_get_915e3, cJx4a65c_get_915e3, 2, (some (.object "java/lang/Object")))
abbrev Y_J15_checkIndex_7cf53 : ab_Y := (yJ15_checkIndex_7cf53, cJ15_checkIndex_7cf53, 2, (some .int))
abbrev Y_J3_checkIndex_8e157 : ab_Y := (yJ3_checkIndex_8e157, cJ3_checkIndex_8e157, 3, (some .int))
abbrev Y_Jx4a65c_elementData_915e3 : ab_Y := (yJx4a65c_elementData_915e3, cJx4a65c_elementData_915e3, 2, (some (.object "java/lang/Object")))
abbrev Y_X8_man : ab_Y := (yX8_man, cX8_man, 9, (some .int))
abbrev Y_X8_fountainAt : ab_Y := (yX8_fountainAt, cX8_fountainAt, 2, (some (.object "WaterMen$Fountain")))
abbrev Y_X8_newMan : ab_Y := (yX8_newMan, cX8_newMan, 5, (some (.object "WaterMen$Man")))
abbrev Y_X0_init : ab_Y := (yX0_init, cX0_init, 5, none)
abbrev Y_X7_init : ab_Y := (yX7_init, cX7_init, 5, none)
abbrev Y_X5_init : ab_Y := (yX5_init, cX5_init, 5, none)
abbrev Y_X7_canGoTo : ab_Y := (yX7_canGoTo, cX7_canGoTo, 2, (some .boolean))
abbrev Y_X5_canGoTo : ab_Y := (yX5_canGoTo, cX5_canGoTo, 2, (some .boolean))
abbrev Y_X5_joinRow : ab_Y := (yX5_joinRow, cX5_joinRow, 1, none)
abbrev Y_X8_right : ab_Y := (yX8_right, cX8_right, 5, (some .int))
abbrev Y_X8_manAt : ab_Y := (yX8_manAt, cX8_manAt, 2, (some (.object "WaterMen$Man")))
abbrev Y_X8_pace : ab_Y := (yX8_pace, cX8_pace, 6, (some .int))
abbrev Y_X8_moves : ab_Y := (yX8_moves, cX8_moves, 7, (some .int))
abbrev Y_X5_leaveRow : ab_Y := (yX5_leaveRow, cX5_leaveRow, 3, none)
abbrev Y_Jx4a65c_remove_915e3 : ab_Y := (yJx4a65c_remove_915e3, cJx4a65c_remove_915e3, 4, (some (.object "java/lang/Object")))
abbrev Y_Jx4a65c_fastRemove_b59b0 : ab_Y := (yJx4a65c_fastRemove_b59b0, cJx4a65c_fastRemove_b59b0, 4, none)
abbrev Y_X8_open : ab_Y := (yX8_open, cX8_open, 5, (some .int))
abbrev Y_X8_drought : ab_Y := (yX8_drought, cX8_drought, 3, (some .int))
abbrev Y_X8_type : ab_Y := (yX8_type, cX8_type, 4, (some .int))
abbrev Y_X1_append : ab_Y := (yX1_append, cX1_append, 5, (some .int))
abbrev Y_X1_byteOf : ab_Y := (yX1_byteOf, cX1_byteOf, 3, (some .int))
abbrev Y_X8_fares : ab_Y := (yX8_fares, cX8_fares, 1, (some .int))
abbrev Y_X1_takeTape : ab_Y := (yX1_takeTape, cX1_takeTape, 3, (some .int))
abbrev Y_X1_readClauses : ab_Y := (yX1_readClauses, cX1_readClauses, 2, (some .int))
abbrev Y_X1_readClause : ab_Y := (yX1_readClause, cX1_readClause, 5, (some .boolean))
abbrev Y_X1_readNumber : ab_Y := (yX1_readNumber, cX1_readNumber, 5, (some .int))
abbrev Y_X1_skipBlanks : ab_Y := (yX1_skipBlanks, cX1_skipBlanks, 1, none)
abbrev Y_X1_readSign : ab_Y := (yX1_readSign, cX1_readSign, 2, (some .boolean))
abbrev Y_X1_isAtEnd : ab_Y := (yX1_isAtEnd, cX1_isAtEnd, 1, (some .boolean))
abbrev Y_X1_useDraft : ab_Y := (yX1_useDraft, cX1_useDraft, 2, none)
abbrev Y_X8_fare : ab_Y := (yX8_fare, cX8_fare, 2, (some .int))
abbrev Y_X1_priceOf : ab_Y := (yX1_priceOf, cX1_priceOf, 2, (some .int))
abbrev Y_X8_run : ab_Y := (yX8_run, cX8_run, 3, (some .int))
abbrev Y_X8_passMinute : ab_Y := (yX8_passMinute, cX8_passMinute, 2, none)
abbrev Y_X8_letFlow : ab_Y := (yX8_letFlow, cX8_letFlow, 4, none)
abbrev Y_X8_fillNext : ab_Y := (yX8_fillNext, cX8_fillNext, 4, none)
abbrev Y_X2_nextToFill : ab_Y := (yX2_nextToFill, cX2_nextToFill, 4, (some (.object "WaterMen$Man")))
abbrev Y_X5_goUp : ab_Y := (yX5_goUp, cX5_goUp, 2, none)
abbrev Y_X5_wayUp : ab_Y := (yX5_wayUp, cX5_wayUp, 2, (some .int))
abbrev Y_X5_wayDown : ab_Y := (yX5_wayDown, cX5_wayDown, 2, (some .int))
abbrev Y_X4_minutesFrom : ab_Y := (yX4_minutesFrom, cX4_minutesFrom, 3, (some .int))
abbrev Y_X0_walkTime : ab_Y := (yX0_walkTime, cX0_walkTime, 2, (some .int))
abbrev Y_X8_cutUp : ab_Y := (yX8_cutUp, cX8_cutUp, 2, (some .int))
abbrev Y_X5_walkTime : ab_Y := (yX5_walkTime, cX5_walkTime, 2, (some .int))
abbrev Y_X0_climbTime : ab_Y := (yX0_climbTime, cX0_climbTime, 2, (some .int))
abbrev Y_X7_climbTime : ab_Y := (yX7_climbTime, cX7_climbTime, 2, (some .int))
abbrev Y_X5_climbTime : ab_Y := (yX5_climbTime, cX5_climbTime, 2, (some .int))
abbrev Y_X8_walk : ab_Y := (yX8_walk, cX8_walk, 2, none)
abbrev Y_X8_pour : ab_Y := (yX8_pour, cX8_pour, 5, none)
abbrev Y_X6_keep : ab_Y := (yX6_keep, cX6_keep, 5, none)
abbrev Y_X5_goDown : ab_Y := (yX5_goDown, cX5_goDown, 1, none)
abbrev Y_X4_drinkOnce : ab_Y := (yX4_drinkOnce, cX4_drinkOnce, 2, (some .int))
abbrev Y_X8_told : ab_Y := (yX8_told, cX8_told, 4, (some .int))
abbrev Y_X2_countAhead : ab_Y := (yX2_countAhead, cX2_countAhead, 6, (some .int))
abbrev Y_X0_kind : ab_Y := (yX0_kind, cX0_kind, 1, (some .int))
abbrev Y_X7_kind : ab_Y := (yX7_kind, cX7_kind, 1, (some .int))
abbrev Y_X5_kind : ab_Y := (yX5_kind, cX5_kind, 1, (some .int))
abbrev Y_X8_water : ab_Y := (yX8_water, cX8_water, 4, (some .int))
abbrev Y_X8_sum : ab_Y := (yX8_sum, cX8_sum, 2, (some .long))
abbrev Y_X8_fire : ab_Y := (yX8_fire, cX8_fire, 7, (some .int))
abbrev Y_X8_poured : ab_Y := (yX8_poured, cX8_poured, 3, (some .int))
abbrev Y_X6_fact : ab_Y := (yX6_fact, cX6_fact, 4, (some .int))
abbrev Y_J9_floorMod_7cf53 : ab_Y := (yJ9_floorMod_7cf53, cJ9_floorMod_7cf53, 3, (some .int))
abbrev Y_X8_foul : ab_Y := (yX8_foul, cX8_foul, 3, (some .int))
abbrev Y_X6_jarsFouledBy : ab_Y := (yX6_jarsFouledBy, cX6_jarsFouledBy, 5, (some .int))
abbrev Y_X8_give : ab_Y := (yX8_give, cX8_give, 6, (some .int))
abbrev Y_X5_toilFor : ab_Y := (yX5_toilFor, cX5_toilFor, 2, (some .int))
abbrev Y_X3_setToil : ab_Y := (yX3_setToil, cX3_setToil, 4, none)
abbrev Y_X3_findLeast : ab_Y := (yX3_findLeast, cX3_findLeast, 6, (some .int))
abbrev Y_X3_toilWith : ab_Y := (yX3_toilWith, cX3_toilWith, 5, (some .int))
abbrev Y_J6_bitCount_0f7a4 : ab_Y := (yJ6_bitCount_0f7a4, cJ6_bitCount_0f7a4, 1, (some .int))
abbrev Y_X3_settle : ab_Y := (yX3_settle, cX3_settle, 7, none)
abbrev Y_X3_firstBest : ab_Y := (yX3_firstBest, cX3_firstBest, 5, (some .int))
abbrev Y_X8_given : ab_Y := (yX8_given, cX8_given, 2, (some .int))
abbrev Y_X3_jarOf : ab_Y := (yX3_jarOf, cX3_jarOf, 2, (some .int))
abbrev Y_X8_count : ab_Y := (yX8_count, cX8_count, 2, (some .int))
abbrev Y_X8_countDoing : ab_Y := (yX8_countDoing, cX8_countDoing, 4, (some .int))
abbrev Y_X9_init : ab_Y := (yX9_init, cX9_init, 2, none)
abbrev Y_X9_fountain : ab_Y := (yX9_fountain, cX9_fountain, 2, (some .int))
abbrev Y_X9_in : ab_Y := (yX9_in, cX9_in, 3, (some .boolean))
abbrev Y_X9_jar : ab_Y := (yX9_jar, cX9_jar, 7, (some .int))
abbrev Y_X9_isMinutes : ab_Y := (yX9_isMinutes, cX9_isMinutes, 3, (some .boolean))
abbrev Y_X9_drinks : ab_Y := (yX9_drinks, cX9_drinks, 4, (some .int))
abbrev Y_X9_isJar : ab_Y := (yX9_isJar, cX9_isJar, 2, (some .boolean))
abbrev Y_X9_man : ab_Y := (yX9_man, cX9_man, 5, (some .int))
abbrev Y_X9_isFountain : ab_Y := (yX9_isFountain, cX9_isFountain, 2, (some .boolean))
abbrev Y_X9_canGo : ab_Y := (yX9_canGo, cX9_canGo, 3, (some .boolean))
abbrev Y_X9_joinRow : ab_Y := (yX9_joinRow, cX9_joinRow, 2, none)
abbrev Y_X9_right : ab_Y := (yX9_right, cX9_right, 4, (some .int))
abbrev Y_X9_isMan : ab_Y := (yX9_isMan, cX9_isMan, 2, (some .boolean))
abbrev Y_X9_pace : ab_Y := (yX9_pace, cX9_pace, 4, (some .int))
abbrev Y_X9_moves : ab_Y := (yX9_moves, cX9_moves, 4, (some .int))
abbrev Y_X9_open : ab_Y := (yX9_open, cX9_open, 4, (some .int))
abbrev Y_X9_drought : ab_Y := (yX9_drought, cX9_drought, 3, (some .int))
abbrev Y_X9_type : ab_Y := (yX9_type, cX9_type, 5, (some .int))
abbrev Y_X9_fares : ab_Y := (yX9_fares, cX9_fares, 3, (some .int))
abbrev Y_X9_readFares : ab_Y := (yX9_readFares, cX9_readFares, 4, (some .int))
abbrev Y_X9_readClause : ab_Y := (yX9_readClause, cX9_readClause, 5, (some .boolean))
abbrev Y_X9_number : ab_Y := (yX9_number, cX9_number, 6, (some .int))
abbrev Y_X9_next : ab_Y := (yX9_next, cX9_next, 1, (some .int))
abbrev Y_X9_fare : ab_Y := (yX9_fare, cX9_fare, 2, (some .int))
abbrev Y_X9_run : ab_Y := (yX9_run, cX9_run, 3, (some .int))
abbrev Y_X9_minute : ab_Y := (yX9_minute, cX9_minute, 3, none)
abbrev Y_X9_flow : ab_Y := (yX9_flow, cX9_flow, 4, none)
abbrev Y_X9_fill : ab_Y := (yX9_fill, cX9_fill, 5, none)
abbrev Y_X9_isAhead : ab_Y := (yX9_isAhead, cX9_isAhead, 3, (some .boolean))
abbrev Y_X9_least : ab_Y := (yX9_least, cX9_least, 2, (some .int))
abbrev Y_X9_wayOf : ab_Y := (yX9_wayOf, cX9_wayOf, 5, (some .int))
abbrev Y_X9_pour : ab_Y := (yX9_pour, cX9_pour, 4, none)
abbrev Y_X9_keep : ab_Y := (yX9_keep, cX9_keep, 5, none)
abbrev Y_X9_goDown : ab_Y := (yX9_goDown, cX9_goDown, 2, none)
abbrev Y_X9_told : ab_Y := (yX9_told, cX9_told, 5, (some .int))
abbrev Y_X9_water : ab_Y := (yX9_water, cX9_water, 3, (some .int))
abbrev Y_X9_sum : ab_Y := (yX9_sum, cX9_sum, 2, (some .long))
abbrev Y_X9_fire : ab_Y := (yX9_fire, cX9_fire, 5, (some .int))
abbrev Y_X9_poured : ab_Y := (yX9_poured, cX9_poured, 3, (some .int))
abbrev Y_X9_foul : ab_Y := (yX9_foul, cX9_foul, 5, (some .int))
abbrev Y_X9_give : ab_Y := (yX9_give, cX9_give, 10, (some .int))
abbrev Y_X9_ones : ab_Y := (yX9_ones, cX9_ones, 3, (some .int))
abbrev Y_X9_given : ab_Y := (yX9_given, cX9_given, 2, (some .int))
abbrev Y_X9_count : ab_Y := (yX9_count, cX9_count, 4, (some .int))
theorem cl_0 : ab_cl 0 RJx4a65c TJx4a65c 3 tyJx4a65c := ⟨rfl, ab_in _ [92, 88, 90] (by decide +kernel) (by decide +kernel), tyJx4a65c_ok, nmJx4a65c⟩
theorem cl_1 : ab_cl 1 RX0 TX0 13 tyX0 := ⟨rfl, ab_in _ [408, 410, 412, 414, 416, 418, 420, 422, 424, 426, 428, 430, 406] (by decide +kernel) (by decide +kernel), tyX0_ok, nmX0⟩
theorem cl_2 : ab_cl 2 RX1 TX1 5 tyX1 := ⟨rfl, ab_in _ [109, 111, 113, 115, 117] (by decide +kernel) (by decide +kernel), tyX1_ok, nmX1⟩
theorem cl_3 : ab_cl 3 RX2 TX2 6 tyX2 := ⟨rfl, ab_in _ [220, 222, 224, 226, 228, 230] (by decide +kernel) (by decide +kernel), tyX2_ok, nmX2⟩
theorem cl_4 : ab_cl 4 RX3 TX3 3 tyX3 := ⟨rfl, ab_in _ [148, 150, 152] (by decide +kernel) (by decide +kernel), tyX3_ok, nmX3⟩
theorem cl_5 : ab_cl 5 RX4 TX4 7 tyX4 := ⟨rfl, ab_in _ [316, 318, 320, 322, 324, 326, 328] (by decide +kernel) (by decide +kernel), tyX4_ok, nmX4⟩
theorem cl_6 : ab_cl 6 RX5 TX5 12 tyX5 := ⟨rfl, ab_in _ [452, 453, 454, 455, 456, 457, 458, 459, 460, 461, 462, 463] (by decide +kernel) (by decide +kernel), tyX5_ok, nmX5⟩
theorem cl_7 : ab_cl 7 RX6 TX6 3 tyX6 := ⟨rfl, ab_in _ [131, 133, 135] (by decide +kernel) (by decide +kernel), tyX6_ok, nmX6⟩
theorem cl_8 : ab_cl 8 RX7 TX7 12 tyX7 := ⟨rfl, ab_in _ [436, 437, 438, 439, 440, 441, 442, 443, 444, 445, 446, 447] (by decide +kernel) (by decide +kernel), tyX7_ok, nmX7⟩
theorem cl_9 : ab_cl 9 RX8 TX8 9 tyX8 := ⟨rfl, ab_in _ [164, 166, 168, 170, 172, 174, 176, 178, 180] (by decide +kernel) (by decide +kernel), tyX8_ok, nmX8⟩
theorem cl_10 : ab_cl 10 RX9 TX9 41 tyX9 := ⟨rfl, ab_in _ [836, 838, 840, 842, 844, 846, 848, 850, 852, 854, 856, 858, 860, 862, 864, 866, 868, 870, 872, 874, 876, 878, 880, 882, 884, 886, 888, 890, 892, 894, 896, 898, 900, 902, 904, 906, 908, 910, 912, 914, 916] (by decide +kernel) (by decide +kernel), tyX9_ok, nmX9⟩
theorem tw_83 : Cond.fieldLink RJx4a65c 9 "java/util/ArrayList" "elementData" "[Ljava/lang/Object;" ∈ ab_T := ab_T_in (i := 83) (by decide +kernel) (by decide +kernel)
theorem fg_Jx4a65c_9_0 : ab_fg RJx4a65c 9 0 1 := ⟨RJx4a65c, TJx4a65c, 3, tyJx4a65c, "java/util/ArrayList", cl_0, by decide, tw_83, Or.inl rfl⟩
theorem fl_Jx4a65c_9_0 : ab_fl RJx4a65c 9 0 1 (.array (.object "java/lang/Object")) false := ⟨RJx4a65c, TJx4a65c, 3, tyJx4a65c, "java/util/ArrayList", cl_0, by decide, by decide +kernel, rfl, (fun h => by cases h), tw_83, Or.inl rfl⟩
theorem tw_84 : Cond.fieldLink RJx4a65c 48 "java/util/ArrayList" "size" "I" ∈ ab_T := ab_T_in (i := 84) (by decide +kernel) (by decide +kernel)
theorem fg_Jx4a65c_48_0 : ab_fg RJx4a65c 48 0 2 := ⟨RJx4a65c, TJx4a65c, 3, tyJx4a65c, "java/util/ArrayList", cl_0, by decide, tw_84, Or.inl rfl⟩
theorem fl_Jx4a65c_48_0 : ab_fl RJx4a65c 48 0 2 (.int) false := ⟨RJx4a65c, TJx4a65c, 3, tyJx4a65c, "java/util/ArrayList", cl_0, by decide, by decide +kernel, rfl, (fun h => by cases h), tw_84, Or.inl rfl⟩
theorem tw_85 : Cond.fieldLink RJxc12de 7 "java/util/AbstractList" "modCount" "I" ∈ ab_T := ab_T_in (i := 85) (by decide +kernel) (by decide +kernel)
theorem fg_Jxc12de_7_0 : ab_fg RJxc12de 7 0 0 := ⟨RJx4a65c, TJx4a65c, 3, tyJx4a65c, "java/util/AbstractList", cl_0, by decide, tw_85, Or.inl rfl⟩
theorem fl_Jxc12de_7_0 : ab_fl RJxc12de 7 0 0 (.int) false := ⟨RJx4a65c, TJx4a65c, 3, tyJx4a65c, "java/util/AbstractList", cl_0, by decide, by decide +kernel, rfl, (fun h => by cases h), tw_85, Or.inl rfl⟩
theorem tw_86 : Cond.fieldLink RJx4a65c 63 "java/util/ArrayList" "modCount" "I" ∈ ab_T := ab_T_in (i := 86) (by decide +kernel) (by decide +kernel)
theorem fg_Jx4a65c_63_0 : ab_fg RJx4a65c 63 0 0 := ⟨RJx4a65c, TJx4a65c, 3, tyJx4a65c, "java/util/ArrayList", cl_0, by decide, tw_86, Or.inr (ab_T_in (i := 87) (by decide +kernel) (by decide +kernel))⟩
theorem fl_Jx4a65c_63_0 : ab_fl RJx4a65c 63 0 0 (.int) false := ⟨RJx4a65c, TJx4a65c, 3, tyJx4a65c, "java/util/ArrayList", cl_0, by decide, by decide +kernel, rfl, (fun h => by cases h), tw_86, Or.inr (ab_T_in (i := 87) (by decide +kernel) (by decide +kernel))⟩
theorem tw_104 : Cond.fieldLink RX1 11 "WaterMen$Fares" "tape" "[I" ∈ ab_T := ab_T_in (i := 104) (by decide +kernel) (by decide +kernel)
theorem fg_X1_11_2 : ab_fg RX1 11 2 0 := ⟨RX1, TX1, 5, tyX1, "WaterMen$Fares", cl_2, by decide, tw_104, Or.inl rfl⟩
theorem fl_X1_11_2 : ab_fl RX1 11 2 0 (.array .int) true := ⟨RX1, TX1, 5, tyX1, "WaterMen$Fares", cl_2, by decide, by decide +kernel, rfl, fun _ => rfl, tw_104, Or.inl rfl⟩
theorem tw_105 : Cond.fieldLink RX1 15 "WaterMen$Fares" "prices" "[I" ∈ ab_T := ab_T_in (i := 105) (by decide +kernel) (by decide +kernel)
theorem fg_X1_15_2 : ab_fg RX1 15 2 1 := ⟨RX1, TX1, 5, tyX1, "WaterMen$Fares", cl_2, by decide, tw_105, Or.inl rfl⟩
theorem fl_X1_15_2 : ab_fl RX1 15 2 1 (.array .int) false := ⟨RX1, TX1, 5, tyX1, "WaterMen$Fares", cl_2, by decide, by decide +kernel, rfl, (fun h => by cases h), tw_105, Or.inl rfl⟩
theorem tw_106 : Cond.fieldLink RX1 18 "WaterMen$Fares" "draft" "[I" ∈ ab_T := ab_T_in (i := 106) (by decide +kernel) (by decide +kernel)
theorem fg_X1_18_2 : ab_fg RX1 18 2 2 := ⟨RX1, TX1, 5, tyX1, "WaterMen$Fares", cl_2, by decide, tw_106, Or.inl rfl⟩
theorem fl_X1_18_2 : ab_fl RX1 18 2 2 (.array .int) false := ⟨RX1, TX1, 5, tyX1, "WaterMen$Fares", cl_2, by decide, by decide +kernel, rfl, (fun h => by cases h), tw_106, Or.inl rfl⟩
theorem tw_107 : Cond.fieldLink RX1 21 "WaterMen$Fares" "length" "I" ∈ ab_T := ab_T_in (i := 107) (by decide +kernel) (by decide +kernel)
theorem fg_X1_21_2 : ab_fg RX1 21 2 3 := ⟨RX1, TX1, 5, tyX1, "WaterMen$Fares", cl_2, by decide, tw_107, Or.inl rfl⟩
theorem fl_X1_21_2 : ab_fl RX1 21 2 3 (.int) false := ⟨RX1, TX1, 5, tyX1, "WaterMen$Fares", cl_2, by decide, by decide +kernel, rfl, (fun h => by cases h), tw_107, Or.inl rfl⟩
theorem tw_108 : Cond.fieldLink RX1 25 "WaterMen$Fares" "place" "I" ∈ ab_T := ab_T_in (i := 108) (by decide +kernel) (by decide +kernel)
theorem fg_X1_25_2 : ab_fg RX1 25 2 4 := ⟨RX1, TX1, 5, tyX1, "WaterMen$Fares", cl_2, by decide, tw_108, Or.inl rfl⟩
theorem fl_X1_25_2 : ab_fl RX1 25 2 4 (.int) false := ⟨RX1, TX1, 5, tyX1, "WaterMen$Fares", cl_2, by decide, by decide +kernel, rfl, (fun h => by cases h), tw_108, Or.inl rfl⟩
theorem tw_127 : Cond.fieldLink RX6 11 "WaterMen$Pourings" "facts" "[I" ∈ ab_T := ab_T_in (i := 127) (by decide +kernel) (by decide +kernel)
theorem fg_X6_11_7 : ab_fg RX6 11 7 0 := ⟨RX6, TX6, 3, tyX6, "WaterMen$Pourings", cl_7, by decide, tw_127, Or.inl rfl⟩
theorem fl_X6_11_7 : ab_fl RX6 11 7 0 (.array .int) true := ⟨RX6, TX6, 3, tyX6, "WaterMen$Pourings", cl_7, by decide, by decide +kernel, rfl, fun _ => rfl, tw_127, Or.inl rfl⟩
theorem tw_128 : Cond.fieldLink RX6 15 "WaterMen$Pourings" "next" "I" ∈ ab_T := ab_T_in (i := 128) (by decide +kernel) (by decide +kernel)
theorem fg_X6_15_7 : ab_fg RX6 15 7 1 := ⟨RX6, TX6, 3, tyX6, "WaterMen$Pourings", cl_7, by decide, tw_128, Or.inl rfl⟩
theorem fl_X6_15_7 : ab_fl RX6 15 7 1 (.int) false := ⟨RX6, TX6, 3, tyX6, "WaterMen$Pourings", cl_7, by decide, by decide +kernel, rfl, (fun h => by cases h), tw_128, Or.inl rfl⟩
theorem tw_129 : Cond.fieldLink RX6 19 "WaterMen$Pourings" "kept" "I" ∈ ab_T := ab_T_in (i := 129) (by decide +kernel) (by decide +kernel)
theorem fg_X6_19_7 : ab_fg RX6 19 7 2 := ⟨RX6, TX6, 3, tyX6, "WaterMen$Pourings", cl_7, by decide, tw_129, Or.inl rfl⟩
theorem fl_X6_19_7 : ab_fl RX6 19 7 2 (.int) false := ⟨RX6, TX6, 3, tyX6, "WaterMen$Pourings", cl_7, by decide, by decide +kernel, rfl, (fun h => by cases h), tw_129, Or.inl rfl⟩
theorem tw_130 : Cond.fieldLink RX8 194 "WaterMen$Pourings" "kept" "I" ∈ ab_T := ab_T_in (i := 130) (by decide +kernel) (by decide +kernel)
theorem fg_X8_194_7 : ab_fg RX8 194 7 2 := ⟨RX6, TX6, 3, tyX6, "WaterMen$Pourings", cl_7, by decide, tw_130, Or.inl rfl⟩
theorem fl_X8_194_7 : ab_fl RX8 194 7 2 (.int) false := ⟨RX6, TX6, 3, tyX6, "WaterMen$Pourings", cl_7, by decide, by decide +kernel, rfl, (fun h => by cases h), tw_130, Or.inl rfl⟩
theorem tw_145 : Cond.fieldLink RX3 11 "WaterMen$Giving" "toils" "[I" ∈ ab_T := ab_T_in (i := 145) (by decide +kernel) (by decide +kernel)
theorem fg_X3_11_4 : ab_fg RX3 11 4 0 := ⟨RX3, TX3, 3, tyX3, "WaterMen$Giving", cl_4, by decide, tw_145, Or.inl rfl⟩
theorem fl_X3_11_4 : ab_fl RX3 11 4 0 (.array .int) true := ⟨RX3, TX3, 3, tyX3, "WaterMen$Giving", cl_4, by decide, by decide +kernel, rfl, fun _ => rfl, tw_145, Or.inl rfl⟩
theorem tw_146 : Cond.fieldLink RX3 15 "WaterMen$Giving" "least" "[I" ∈ ab_T := ab_T_in (i := 146) (by decide +kernel) (by decide +kernel)
theorem fg_X3_15_4 : ab_fg RX3 15 4 1 := ⟨RX3, TX3, 3, tyX3, "WaterMen$Giving", cl_4, by decide, tw_146, Or.inl rfl⟩
theorem fl_X3_15_4 : ab_fl RX3 15 4 1 (.array .int) true := ⟨RX3, TX3, 3, tyX3, "WaterMen$Giving", cl_4, by decide, by decide +kernel, rfl, fun _ => rfl, tw_146, Or.inl rfl⟩
theorem tw_147 : Cond.fieldLink RX3 18 "WaterMen$Giving" "jarsOfMen" "[I" ∈ ab_T := ab_T_in (i := 147) (by decide +kernel) (by decide +kernel)
theorem fg_X3_18_4 : ab_fg RX3 18 4 2 := ⟨RX3, TX3, 3, tyX3, "WaterMen$Giving", cl_4, by decide, tw_147, Or.inl rfl⟩
theorem fl_X3_18_4 : ab_fl RX3 18 4 2 (.array .int) true := ⟨RX3, TX3, 3, tyX3, "WaterMen$Giving", cl_4, by decide, by decide +kernel, rfl, fun _ => rfl, tw_147, Or.inl rfl⟩
theorem tw_155 : Cond.fieldLink RX8 10 "WaterMen" "fountains" "Ljava/util/ArrayList;" ∈ ab_T := ab_T_in (i := 155) (by decide +kernel) (by decide +kernel)
theorem fg_X8_10_9 : ab_fg RX8 10 9 0 := ⟨RX8, TX8, 9, tyX8, "WaterMen", cl_9, by decide, tw_155, Or.inl rfl⟩
theorem fl_X8_10_9 : ab_fl RX8 10 9 0 (.object "java/util/ArrayList") true := ⟨RX8, TX8, 9, tyX8, "WaterMen", cl_9, by decide, by decide +kernel, rfl, fun _ => rfl, tw_155, Or.inl rfl⟩
theorem tw_156 : Cond.fieldLink RX8 16 "WaterMen" "jars" "Ljava/util/ArrayList;" ∈ ab_T := ab_T_in (i := 156) (by decide +kernel) (by decide +kernel)
theorem fg_X8_16_9 : ab_fg RX8 16 9 1 := ⟨RX8, TX8, 9, tyX8, "WaterMen", cl_9, by decide, tw_156, Or.inl rfl⟩
theorem fl_X8_16_9 : ab_fl RX8 16 9 1 (.object "java/util/ArrayList") true := ⟨RX8, TX8, 9, tyX8, "WaterMen", cl_9, by decide, by decide +kernel, rfl, fun _ => rfl, tw_156, Or.inl rfl⟩
theorem tw_157 : Cond.fieldLink RX8 19 "WaterMen" "men" "Ljava/util/ArrayList;" ∈ ab_T := ab_T_in (i := 157) (by decide +kernel) (by decide +kernel)
theorem fg_X8_19_9 : ab_fg RX8 19 9 2 := ⟨RX8, TX8, 9, tyX8, "WaterMen", cl_9, by decide, tw_157, Or.inl rfl⟩
theorem fl_X8_19_9 : ab_fl RX8 19 9 2 (.object "java/util/ArrayList") true := ⟨RX8, TX8, 9, tyX8, "WaterMen", cl_9, by decide, by decide +kernel, rfl, fun _ => rfl, tw_157, Or.inl rfl⟩
theorem tw_158 : Cond.fieldLink RX8 25 "WaterMen" "prices" "LWaterMen$Fares;" ∈ ab_T := ab_T_in (i := 158) (by decide +kernel) (by decide +kernel)
theorem fg_X8_25_9 : ab_fg RX8 25 9 3 := ⟨RX8, TX8, 9, tyX8, "WaterMen", cl_9, by decide, tw_158, Or.inl rfl⟩
theorem fl_X8_25_9 : ab_fl RX8 25 9 3 (.object "WaterMen$Fares") true := ⟨RX8, TX8, 9, tyX8, "WaterMen", cl_9, by decide, by decide +kernel, rfl, fun _ => rfl, tw_158, Or.inl rfl⟩
theorem tw_159 : Cond.fieldLink RX8 32 "WaterMen" "pourings" "LWaterMen$Pourings;" ∈ ab_T := ab_T_in (i := 159) (by decide +kernel) (by decide +kernel)
theorem fg_X8_32_9 : ab_fg RX8 32 9 4 := ⟨RX8, TX8, 9, tyX8, "WaterMen", cl_9, by decide, tw_159, Or.inl rfl⟩
theorem fl_X8_32_9 : ab_fl RX8 32 9 4 (.object "WaterMen$Pourings") true := ⟨RX8, TX8, 9, tyX8, "WaterMen", cl_9, by decide, by decide +kernel, rfl, fun _ => rfl, tw_159, Or.inl rfl⟩
theorem tw_160 : Cond.fieldLink RX8 39 "WaterMen" "giving" "LWaterMen$Giving;" ∈ ab_T := ab_T_in (i := 160) (by decide +kernel) (by decide +kernel)
theorem fg_X8_39_9 : ab_fg RX8 39 9 5 := ⟨RX8, TX8, 9, tyX8, "WaterMen", cl_9, by decide, tw_160, Or.inl rfl⟩
theorem fl_X8_39_9 : ab_fl RX8 39 9 5 (.object "WaterMen$Giving") true := ⟨RX8, TX8, 9, tyX8, "WaterMen", cl_9, by decide, by decide +kernel, rfl, fun _ => rfl, tw_160, Or.inl rfl⟩
theorem tw_161 : Cond.fieldLink RX8 43 "WaterMen" "sums" "[J" ∈ ab_T := ab_T_in (i := 161) (by decide +kernel) (by decide +kernel)
theorem fg_X8_43_9 : ab_fg RX8 43 9 6 := ⟨RX8, TX8, 9, tyX8, "WaterMen", cl_9, by decide, tw_161, Or.inl rfl⟩
theorem fl_X8_43_9 : ab_fl RX8 43 9 6 (.array .long) true := ⟨RX8, TX8, 9, tyX8, "WaterMen", cl_9, by decide, by decide +kernel, rfl, fun _ => rfl, tw_161, Or.inl rfl⟩
theorem tw_162 : Cond.fieldLink RX8 47 "WaterMen" "time" "I" ∈ ab_T := ab_T_in (i := 162) (by decide +kernel) (by decide +kernel)
theorem fg_X8_47_9 : ab_fg RX8 47 9 7 := ⟨RX8, TX8, 9, tyX8, "WaterMen", cl_9, by decide, tw_162, Or.inl rfl⟩
theorem fl_X8_47_9 : ab_fl RX8 47 9 7 (.int) false := ⟨RX8, TX8, 9, tyX8, "WaterMen", cl_9, by decide, by decide +kernel, rfl, (fun h => by cases h), tw_162, Or.inl rfl⟩
theorem tw_163 : Cond.fieldLink RX8 51 "WaterMen" "hundredths" "I" ∈ ab_T := ab_T_in (i := 163) (by decide +kernel) (by decide +kernel)
theorem fg_X8_51_9 : ab_fg RX8 51 9 8 := ⟨RX8, TX8, 9, tyX8, "WaterMen", cl_9, by decide, tw_163, Or.inl rfl⟩
theorem fl_X8_51_9 : ab_fl RX8 51 9 8 (.int) false := ⟨RX8, TX8, 9, tyX8, "WaterMen", cl_9, by decide, by decide +kernel, rfl, (fun h => by cases h), tw_163, Or.inl rfl⟩
theorem tw_207 : Cond.fieldLink RX2 27 "WaterMen$Fountain" "number" "I" ∈ ab_T := ab_T_in (i := 207) (by decide +kernel) (by decide +kernel)
theorem fg_X2_27_3 : ab_fg RX2 27 3 0 := ⟨RX2, TX2, 6, tyX2, "WaterMen$Fountain", cl_3, by decide, tw_207, Or.inl rfl⟩
theorem fl_X2_27_3 : ab_fl RX2 27 3 0 (.int) true := ⟨RX2, TX2, 6, tyX2, "WaterMen$Fountain", cl_3, by decide, by decide +kernel, rfl, fun _ => rfl, tw_207, Or.inl rfl⟩
theorem tw_208 : Cond.fieldLink RX4 32 "WaterMen$Fountain" "number" "I" ∈ ab_T := ab_T_in (i := 208) (by decide +kernel) (by decide +kernel)
theorem fg_X4_32_3 : ab_fg RX4 32 3 0 := ⟨RX2, TX2, 6, tyX2, "WaterMen$Fountain", cl_3, by decide, tw_208, Or.inl rfl⟩
theorem tw_209 : Cond.fieldLink RX8 161 "WaterMen$Fountain" "number" "I" ∈ ab_T := ab_T_in (i := 209) (by decide +kernel) (by decide +kernel)
theorem fg_X8_161_3 : ab_fg RX8 161 3 0 := ⟨RX2, TX2, 6, tyX2, "WaterMen$Fountain", cl_3, by decide, tw_209, Or.inl rfl⟩
theorem tw_210 : Cond.fieldLink RX2 30 "WaterMen$Fountain" "flow" "I" ∈ ab_T := ab_T_in (i := 210) (by decide +kernel) (by decide +kernel)
theorem fg_X2_30_3 : ab_fg RX2 30 3 1 := ⟨RX2, TX2, 6, tyX2, "WaterMen$Fountain", cl_3, by decide, tw_210, Or.inl rfl⟩
theorem fl_X2_30_3 : ab_fl RX2 30 3 1 (.int) true := ⟨RX2, TX2, 6, tyX2, "WaterMen$Fountain", cl_3, by decide, by decide +kernel, rfl, fun _ => rfl, tw_210, Or.inl rfl⟩
theorem tw_211 : Cond.fieldLink RX8 244 "WaterMen$Fountain" "flow" "I" ∈ ab_T := ab_T_in (i := 211) (by decide +kernel) (by decide +kernel)
theorem fg_X8_244_3 : ab_fg RX8 244 3 1 := ⟨RX2, TX2, 6, tyX2, "WaterMen$Fountain", cl_3, by decide, tw_211, Or.inl rfl⟩
theorem tw_212 : Cond.fieldLink RX2 10 "WaterMen$Fountain" "row" "Ljava/util/ArrayList;" ∈ ab_T := ab_T_in (i := 212) (by decide +kernel) (by decide +kernel)
theorem fg_X2_10_3 : ab_fg RX2 10 3 2 := ⟨RX2, TX2, 6, tyX2, "WaterMen$Fountain", cl_3, by decide, tw_212, Or.inl rfl⟩
theorem fl_X2_10_3 : ab_fl RX2 10 3 2 (.object "java/util/ArrayList") true := ⟨RX2, TX2, 6, tyX2, "WaterMen$Fountain", cl_3, by decide, by decide +kernel, rfl, fun _ => rfl, tw_212, Or.inl rfl⟩
theorem tw_213 : Cond.fieldLink RX5 79 "WaterMen$Fountain" "row" "Ljava/util/ArrayList;" ∈ ab_T := ab_T_in (i := 213) (by decide +kernel) (by decide +kernel)
theorem fg_X5_79_3 : ab_fg RX5 79 3 2 := ⟨RX2, TX2, 6, tyX2, "WaterMen$Fountain", cl_3, by decide, tw_213, Or.inl rfl⟩
theorem tw_214 : Cond.fieldLink RX2 16 "WaterMen$Fountain" "isOpen" "Z" ∈ ab_T := ab_T_in (i := 214) (by decide +kernel) (by decide +kernel)
theorem fg_X2_16_3 : ab_fg RX2 16 3 3 := ⟨RX2, TX2, 6, tyX2, "WaterMen$Fountain", cl_3, by decide, tw_214, Or.inl rfl⟩
theorem fl_X2_16_3 : ab_fl RX2 16 3 3 (.boolean) false := ⟨RX2, TX2, 6, tyX2, "WaterMen$Fountain", cl_3, by decide, by decide +kernel, rfl, (fun h => by cases h), tw_214, Or.inl rfl⟩
theorem tw_215 : Cond.fieldLink RX8 130 "WaterMen$Fountain" "isOpen" "Z" ∈ ab_T := ab_T_in (i := 215) (by decide +kernel) (by decide +kernel)
theorem fg_X8_130_3 : ab_fg RX8 130 3 3 := ⟨RX2, TX2, 6, tyX2, "WaterMen$Fountain", cl_3, by decide, tw_215, Or.inl rfl⟩
theorem fl_X8_130_3 : ab_fl RX8 130 3 3 (.boolean) false := ⟨RX2, TX2, 6, tyX2, "WaterMen$Fountain", cl_3, by decide, by decide +kernel, rfl, (fun h => by cases h), tw_215, Or.inl rfl⟩
theorem tw_216 : Cond.fieldLink RX2 20 "WaterMen$Fountain" "has" "I" ∈ ab_T := ab_T_in (i := 216) (by decide +kernel) (by decide +kernel)
theorem fg_X2_20_3 : ab_fg RX2 20 3 4 := ⟨RX2, TX2, 6, tyX2, "WaterMen$Fountain", cl_3, by decide, tw_216, Or.inl rfl⟩
theorem fl_X2_20_3 : ab_fl RX2 20 3 4 (.int) false := ⟨RX2, TX2, 6, tyX2, "WaterMen$Fountain", cl_3, by decide, by decide +kernel, rfl, (fun h => by cases h), tw_216, Or.inl rfl⟩
theorem tw_217 : Cond.fieldLink RX8 175 "WaterMen$Fountain" "has" "I" ∈ ab_T := ab_T_in (i := 217) (by decide +kernel) (by decide +kernel)
theorem fg_X8_175_3 : ab_fg RX8 175 3 4 := ⟨RX2, TX2, 6, tyX2, "WaterMen$Fountain", cl_3, by decide, tw_217, Or.inl rfl⟩
theorem fl_X8_175_3 : ab_fl RX8 175 3 4 (.int) false := ⟨RX2, TX2, 6, tyX2, "WaterMen$Fountain", cl_3, by decide, by decide +kernel, rfl, (fun h => by cases h), tw_217, Or.inl rfl⟩
theorem tw_218 : Cond.fieldLink RX2 24 "WaterMen$Fountain" "ranOff" "I" ∈ ab_T := ab_T_in (i := 218) (by decide +kernel) (by decide +kernel)
theorem fg_X2_24_3 : ab_fg RX2 24 3 5 := ⟨RX2, TX2, 6, tyX2, "WaterMen$Fountain", cl_3, by decide, tw_218, Or.inl rfl⟩
theorem fl_X2_24_3 : ab_fl RX2 24 3 5 (.int) false := ⟨RX2, TX2, 6, tyX2, "WaterMen$Fountain", cl_3, by decide, by decide +kernel, rfl, (fun h => by cases h), tw_218, Or.inl rfl⟩
theorem tw_219 : Cond.fieldLink RX8 178 "WaterMen$Fountain" "ranOff" "I" ∈ ab_T := ab_T_in (i := 219) (by decide +kernel) (by decide +kernel)
theorem fg_X8_178_3 : ab_fg RX8 178 3 5 := ⟨RX2, TX2, 6, tyX2, "WaterMen$Fountain", cl_3, by decide, tw_219, Or.inl rfl⟩
theorem fl_X8_178_3 : ab_fl RX8 178 3 5 (.int) false := ⟨RX2, TX2, 6, tyX2, "WaterMen$Fountain", cl_3, by decide, by decide +kernel, rfl, (fun h => by cases h), tw_219, Or.inl rfl⟩
theorem tw_301 : Cond.fieldLink RX4 19 "WaterMen$Jar" "number" "I" ∈ ab_T := ab_T_in (i := 301) (by decide +kernel) (by decide +kernel)
theorem fg_X4_19_5 : ab_fg RX4 19 5 0 := ⟨RX4, TX4, 7, tyX4, "WaterMen$Jar", cl_5, by decide, tw_301, Or.inl rfl⟩
theorem fl_X4_19_5 : ab_fl RX4 19 5 0 (.int) true := ⟨RX4, TX4, 7, tyX4, "WaterMen$Jar", cl_5, by decide, by decide +kernel, rfl, fun _ => rfl, tw_301, Or.inl rfl⟩
theorem tw_302 : Cond.fieldLink RX6 31 "WaterMen$Jar" "number" "I" ∈ ab_T := ab_T_in (i := 302) (by decide +kernel) (by decide +kernel)
theorem fg_X6_31_5 : ab_fg RX6 31 5 0 := ⟨RX4, TX4, 7, tyX4, "WaterMen$Jar", cl_5, by decide, tw_302, Or.inl rfl⟩
theorem tw_303 : Cond.fieldLink RX8 164 "WaterMen$Jar" "number" "I" ∈ ab_T := ab_T_in (i := 303) (by decide +kernel) (by decide +kernel)
theorem fg_X8_164_5 : ab_fg RX8 164 5 0 := ⟨RX4, TX4, 7, tyX4, "WaterMen$Jar", cl_5, by decide, tw_303, Or.inl rfl⟩
theorem tw_304 : Cond.fieldLink RX4 22 "WaterMen$Jar" "floor" "I" ∈ ab_T := ab_T_in (i := 304) (by decide +kernel) (by decide +kernel)
theorem fg_X4_22_5 : ab_fg RX4 22 5 1 := ⟨RX4, TX4, 7, tyX4, "WaterMen$Jar", cl_5, by decide, tw_304, Or.inl rfl⟩
theorem fl_X4_22_5 : ab_fl RX4 22 5 1 (.int) true := ⟨RX4, TX4, 7, tyX4, "WaterMen$Jar", cl_5, by decide, by decide +kernel, rfl, fun _ => rfl, tw_304, Or.inl rfl⟩
theorem tw_305 : Cond.fieldLink RX5 50 "WaterMen$Jar" "floor" "I" ∈ ab_T := ab_T_in (i := 305) (by decide +kernel) (by decide +kernel)
theorem fg_X5_50_5 : ab_fg RX5 50 5 1 := ⟨RX4, TX4, 7, tyX4, "WaterMen$Jar", cl_5, by decide, tw_305, Or.inl rfl⟩
theorem tw_306 : Cond.fieldLink RX8 281 "WaterMen$Jar" "floor" "I" ∈ ab_T := ab_T_in (i := 306) (by decide +kernel) (by decide +kernel)
theorem fg_X8_281_5 : ab_fg RX8 281 5 1 := ⟨RX4, TX4, 7, tyX4, "WaterMen$Jar", cl_5, by decide, tw_306, Or.inl rfl⟩
theorem tw_307 : Cond.fieldLink RX4 25 "WaterMen$Jar" "holds" "I" ∈ ab_T := ab_T_in (i := 307) (by decide +kernel) (by decide +kernel)
theorem fg_X4_25_5 : ab_fg RX4 25 5 2 := ⟨RX4, TX4, 7, tyX4, "WaterMen$Jar", cl_5, by decide, tw_307, Or.inl rfl⟩
theorem fl_X4_25_5 : ab_fl RX4 25 5 2 (.int) true := ⟨RX4, TX4, 7, tyX4, "WaterMen$Jar", cl_5, by decide, by decide +kernel, rfl, fun _ => rfl, tw_307, Or.inl rfl⟩
theorem tw_308 : Cond.fieldLink RX8 278 "WaterMen$Jar" "holds" "I" ∈ ab_T := ab_T_in (i := 308) (by decide +kernel) (by decide +kernel)
theorem fg_X8_278_5 : ab_fg RX8 278 5 2 := ⟨RX4, TX4, 7, tyX4, "WaterMen$Jar", cl_5, by decide, tw_308, Or.inl rfl⟩
theorem tw_309 : Cond.fieldLink RX4 28 "WaterMen$Jar" "minutes" "[I" ∈ ab_T := ab_T_in (i := 309) (by decide +kernel) (by decide +kernel)
theorem fg_X4_28_5 : ab_fg RX4 28 5 3 := ⟨RX4, TX4, 7, tyX4, "WaterMen$Jar", cl_5, by decide, tw_309, Or.inl rfl⟩
theorem fl_X4_28_5 : ab_fl RX4 28 5 3 (.array .int) true := ⟨RX4, TX4, 7, tyX4, "WaterMen$Jar", cl_5, by decide, by decide +kernel, rfl, fun _ => rfl, tw_309, Or.inl rfl⟩
theorem tw_310 : Cond.fieldLink RX4 7 "WaterMen$Jar" "has" "I" ∈ ab_T := ab_T_in (i := 310) (by decide +kernel) (by decide +kernel)
theorem fg_X4_7_5 : ab_fg RX4 7 5 4 := ⟨RX4, TX4, 7, tyX4, "WaterMen$Jar", cl_5, by decide, tw_310, Or.inl rfl⟩
theorem fl_X4_7_5 : ab_fl RX4 7 5 4 (.int) false := ⟨RX4, TX4, 7, tyX4, "WaterMen$Jar", cl_5, by decide, by decide +kernel, rfl, (fun h => by cases h), tw_310, Or.inl rfl⟩
theorem tw_311 : Cond.fieldLink RX8 181 "WaterMen$Jar" "has" "I" ∈ ab_T := ab_T_in (i := 311) (by decide +kernel) (by decide +kernel)
theorem fg_X8_181_5 : ab_fg RX8 181 5 4 := ⟨RX4, TX4, 7, tyX4, "WaterMen$Jar", cl_5, by decide, tw_311, Or.inl rfl⟩
theorem fl_X8_181_5 : ab_fl RX8 181 5 4 (.int) false := ⟨RX4, TX4, 7, tyX4, "WaterMen$Jar", cl_5, by decide, by decide +kernel, rfl, (fun h => by cases h), tw_311, Or.inl rfl⟩
theorem tw_312 : Cond.fieldLink RX4 13 "WaterMen$Jar" "thirst" "I" ∈ ab_T := ab_T_in (i := 312) (by decide +kernel) (by decide +kernel)
theorem fg_X4_13_5 : ab_fg RX4 13 5 5 := ⟨RX4, TX4, 7, tyX4, "WaterMen$Jar", cl_5, by decide, tw_312, Or.inl rfl⟩
theorem fl_X4_13_5 : ab_fl RX4 13 5 5 (.int) false := ⟨RX4, TX4, 7, tyX4, "WaterMen$Jar", cl_5, by decide, by decide +kernel, rfl, (fun h => by cases h), tw_312, Or.inl rfl⟩
theorem tw_313 : Cond.fieldLink RX8 84 "WaterMen$Jar" "thirst" "I" ∈ ab_T := ab_T_in (i := 313) (by decide +kernel) (by decide +kernel)
theorem fg_X8_84_5 : ab_fg RX8 84 5 5 := ⟨RX4, TX4, 7, tyX4, "WaterMen$Jar", cl_5, by decide, tw_313, Or.inl rfl⟩
theorem fl_X8_84_5 : ab_fl RX8 84 5 5 (.int) false := ⟨RX4, TX4, 7, tyX4, "WaterMen$Jar", cl_5, by decide, by decide +kernel, rfl, (fun h => by cases h), tw_313, Or.inl rfl⟩
theorem tw_314 : Cond.fieldLink RX4 16 "WaterMen$Jar" "drunk" "I" ∈ ab_T := ab_T_in (i := 314) (by decide +kernel) (by decide +kernel)
theorem fg_X4_16_5 : ab_fg RX4 16 5 6 := ⟨RX4, TX4, 7, tyX4, "WaterMen$Jar", cl_5, by decide, tw_314, Or.inl rfl⟩
theorem fl_X4_16_5 : ab_fl RX4 16 5 6 (.int) false := ⟨RX4, TX4, 7, tyX4, "WaterMen$Jar", cl_5, by decide, by decide +kernel, rfl, (fun h => by cases h), tw_314, Or.inl rfl⟩
theorem tw_315 : Cond.fieldLink RX8 182 "WaterMen$Jar" "drunk" "I" ∈ ab_T := ab_T_in (i := 315) (by decide +kernel) (by decide +kernel)
theorem fg_X8_182_5 : ab_fg RX8 182 5 6 := ⟨RX4, TX4, 7, tyX4, "WaterMen$Jar", cl_5, by decide, tw_315, Or.inl rfl⟩
theorem fl_X8_182_5 : ab_fl RX8 182 5 6 (.int) false := ⟨RX4, TX4, 7, tyX4, "WaterMen$Jar", cl_5, by decide, by decide +kernel, rfl, (fun h => by cases h), tw_315, Or.inl rfl⟩
theorem tw_376 : Cond.fieldLink RX0 9 "WaterMen$Donkey" "speed" "I" ∈ ab_T := ab_T_in (i := 376) (by decide +kernel) (by decide +kernel)
theorem fg_X0_9_1 : ab_fg RX0 9 1 12 := ⟨RX0, TX0, 13, tyX0, "WaterMen$Donkey", cl_1, by decide, tw_376, Or.inl rfl⟩
theorem fl_X0_9_1 : ab_fl RX0 9 1 12 (.int) false := ⟨RX0, TX0, 13, tyX0, "WaterMen$Donkey", cl_1, by decide, by decide +kernel, rfl, (fun h => by cases h), tw_376, Or.inl rfl⟩
theorem tw_377 : Cond.fieldLink RX8 113 "WaterMen$Donkey" "speed" "I" ∈ ab_T := ab_T_in (i := 377) (by decide +kernel) (by decide +kernel)
theorem fg_X8_113_1 : ab_fg RX8 113 1 12 := ⟨RX0, TX0, 13, tyX0, "WaterMen$Donkey", cl_1, by decide, tw_377, Or.inl rfl⟩
theorem fl_X8_113_1 : ab_fl RX8 113 1 12 (.int) false := ⟨RX0, TX0, 13, tyX0, "WaterMen$Donkey", cl_1, by decide, by decide +kernel, rfl, (fun h => by cases h), tw_377, Or.inl rfl⟩
theorem tw_378 : Cond.fieldLink RX5 36 "WaterMen$Man" "number" "I" ∈ ab_T := ab_T_in (i := 378) (by decide +kernel) (by decide +kernel)
theorem fg_X5_36_1 : ab_fg RX5 36 1 0 := ⟨RX0, TX0, 13, tyX0, "WaterMen$Man", cl_1, by decide, tw_378, Or.inl rfl⟩
theorem fl_X5_36_1 : ab_fl RX5 36 1 0 (.int) true := ⟨RX0, TX0, 13, tyX0, "WaterMen$Man", cl_1, by decide, by decide +kernel, rfl, fun _ => rfl, tw_378, Or.inl rfl⟩
theorem fg_X5_36_6 : ab_fg RX5 36 6 0 := ⟨RX5, TX5, 12, tyX5, "WaterMen$Man", cl_6, by decide, tw_378, Or.inl rfl⟩
theorem fl_X5_36_6 : ab_fl RX5 36 6 0 (.int) true := ⟨RX5, TX5, 12, tyX5, "WaterMen$Man", cl_6, by decide, by decide +kernel, rfl, fun _ => rfl, tw_378, Or.inl rfl⟩
theorem fg_X5_36_8 : ab_fg RX5 36 8 0 := ⟨RX7, TX7, 12, tyX7, "WaterMen$Man", cl_8, by decide, tw_378, Or.inl rfl⟩
theorem fl_X5_36_8 : ab_fl RX5 36 8 0 (.int) true := ⟨RX7, TX7, 12, tyX7, "WaterMen$Man", cl_8, by decide, by decide +kernel, rfl, fun _ => rfl, tw_378, Or.inl rfl⟩
theorem tw_379 : Cond.fieldLink RX6 22 "WaterMen$Man" "number" "I" ∈ ab_T := ab_T_in (i := 379) (by decide +kernel) (by decide +kernel)
theorem fg_X6_22_1 : ab_fg RX6 22 1 0 := ⟨RX0, TX0, 13, tyX0, "WaterMen$Man", cl_1, by decide, tw_379, Or.inl rfl⟩
theorem fg_X6_22_6 : ab_fg RX6 22 6 0 := ⟨RX5, TX5, 12, tyX5, "WaterMen$Man", cl_6, by decide, tw_379, Or.inl rfl⟩
theorem fg_X6_22_8 : ab_fg RX6 22 8 0 := ⟨RX7, TX7, 12, tyX7, "WaterMen$Man", cl_8, by decide, tw_379, Or.inl rfl⟩
theorem tw_380 : Cond.fieldLink RX5 39 "WaterMen$Man" "load" "I" ∈ ab_T := ab_T_in (i := 380) (by decide +kernel) (by decide +kernel)
theorem fg_X5_39_1 : ab_fg RX5 39 1 1 := ⟨RX0, TX0, 13, tyX0, "WaterMen$Man", cl_1, by decide, tw_380, Or.inl rfl⟩
theorem fl_X5_39_1 : ab_fl RX5 39 1 1 (.int) true := ⟨RX0, TX0, 13, tyX0, "WaterMen$Man", cl_1, by decide, by decide +kernel, rfl, fun _ => rfl, tw_380, Or.inl rfl⟩
theorem fg_X5_39_6 : ab_fg RX5 39 6 1 := ⟨RX5, TX5, 12, tyX5, "WaterMen$Man", cl_6, by decide, tw_380, Or.inl rfl⟩
theorem fl_X5_39_6 : ab_fl RX5 39 6 1 (.int) true := ⟨RX5, TX5, 12, tyX5, "WaterMen$Man", cl_6, by decide, by decide +kernel, rfl, fun _ => rfl, tw_380, Or.inl rfl⟩
theorem fg_X5_39_8 : ab_fg RX5 39 8 1 := ⟨RX7, TX7, 12, tyX7, "WaterMen$Man", cl_8, by decide, tw_380, Or.inl rfl⟩
theorem fl_X5_39_8 : ab_fl RX5 39 8 1 (.int) true := ⟨RX7, TX7, 12, tyX7, "WaterMen$Man", cl_8, by decide, by decide +kernel, rfl, fun _ => rfl, tw_380, Or.inl rfl⟩
theorem tw_381 : Cond.fieldLink RX8 256 "WaterMen$Man" "load" "I" ∈ ab_T := ab_T_in (i := 381) (by decide +kernel) (by decide +kernel)
theorem fg_X8_256_1 : ab_fg RX8 256 1 1 := ⟨RX0, TX0, 13, tyX0, "WaterMen$Man", cl_1, by decide, tw_381, Or.inl rfl⟩
theorem fg_X8_256_6 : ab_fg RX8 256 6 1 := ⟨RX5, TX5, 12, tyX5, "WaterMen$Man", cl_6, by decide, tw_381, Or.inl rfl⟩
theorem fg_X8_256_8 : ab_fg RX8 256 8 1 := ⟨RX7, TX7, 12, tyX7, "WaterMen$Man", cl_8, by decide, tw_381, Or.inl rfl⟩
theorem tw_382 : Cond.fieldLink RX5 42 "WaterMen$Man" "fountain" "LWaterMen$Fountain;" ∈ ab_T := ab_T_in (i := 382) (by decide +kernel) (by decide +kernel)
theorem fg_X5_42_1 : ab_fg RX5 42 1 2 := ⟨RX0, TX0, 13, tyX0, "WaterMen$Man", cl_1, by decide, tw_382, Or.inl rfl⟩
theorem fl_X5_42_1 : ab_fl RX5 42 1 2 (.object "WaterMen$Fountain") false := ⟨RX0, TX0, 13, tyX0, "WaterMen$Man", cl_1, by decide, by decide +kernel, rfl, (fun h => by cases h), tw_382, Or.inl rfl⟩
theorem fg_X5_42_6 : ab_fg RX5 42 6 2 := ⟨RX5, TX5, 12, tyX5, "WaterMen$Man", cl_6, by decide, tw_382, Or.inl rfl⟩
theorem fl_X5_42_6 : ab_fl RX5 42 6 2 (.object "WaterMen$Fountain") false := ⟨RX5, TX5, 12, tyX5, "WaterMen$Man", cl_6, by decide, by decide +kernel, rfl, (fun h => by cases h), tw_382, Or.inl rfl⟩
theorem fg_X5_42_8 : ab_fg RX5 42 8 2 := ⟨RX7, TX7, 12, tyX7, "WaterMen$Man", cl_8, by decide, tw_382, Or.inl rfl⟩
theorem fl_X5_42_8 : ab_fl RX5 42 8 2 (.object "WaterMen$Fountain") false := ⟨RX7, TX7, 12, tyX7, "WaterMen$Man", cl_8, by decide, by decide +kernel, rfl, (fun h => by cases h), tw_382, Or.inl rfl⟩
theorem tw_383 : Cond.fieldLink RX8 122 "WaterMen$Man" "fountain" "LWaterMen$Fountain;" ∈ ab_T := ab_T_in (i := 383) (by decide +kernel) (by decide +kernel)
theorem fg_X8_122_1 : ab_fg RX8 122 1 2 := ⟨RX0, TX0, 13, tyX0, "WaterMen$Man", cl_1, by decide, tw_383, Or.inl rfl⟩
theorem fl_X8_122_1 : ab_fl RX8 122 1 2 (.object "WaterMen$Fountain") false := ⟨RX0, TX0, 13, tyX0, "WaterMen$Man", cl_1, by decide, by decide +kernel, rfl, (fun h => by cases h), tw_383, Or.inl rfl⟩
theorem fg_X8_122_6 : ab_fg RX8 122 6 2 := ⟨RX5, TX5, 12, tyX5, "WaterMen$Man", cl_6, by decide, tw_383, Or.inl rfl⟩
theorem fl_X8_122_6 : ab_fl RX8 122 6 2 (.object "WaterMen$Fountain") false := ⟨RX5, TX5, 12, tyX5, "WaterMen$Man", cl_6, by decide, by decide +kernel, rfl, (fun h => by cases h), tw_383, Or.inl rfl⟩
theorem fg_X8_122_8 : ab_fg RX8 122 8 2 := ⟨RX7, TX7, 12, tyX7, "WaterMen$Man", cl_8, by decide, tw_383, Or.inl rfl⟩
theorem fl_X8_122_8 : ab_fl RX8 122 8 2 (.object "WaterMen$Fountain") false := ⟨RX7, TX7, 12, tyX7, "WaterMen$Man", cl_8, by decide, by decide +kernel, rfl, (fun h => by cases h), tw_383, Or.inl rfl⟩
theorem tw_384 : Cond.fieldLink RX5 46 "WaterMen$Man" "jar" "LWaterMen$Jar;" ∈ ab_T := ab_T_in (i := 384) (by decide +kernel) (by decide +kernel)
theorem fg_X5_46_1 : ab_fg RX5 46 1 3 := ⟨RX0, TX0, 13, tyX0, "WaterMen$Man", cl_1, by decide, tw_384, Or.inl rfl⟩
theorem fl_X5_46_1 : ab_fl RX5 46 1 3 (.object "WaterMen$Jar") false := ⟨RX0, TX0, 13, tyX0, "WaterMen$Man", cl_1, by decide, by decide +kernel, rfl, (fun h => by cases h), tw_384, Or.inl rfl⟩
theorem fg_X5_46_6 : ab_fg RX5 46 6 3 := ⟨RX5, TX5, 12, tyX5, "WaterMen$Man", cl_6, by decide, tw_384, Or.inl rfl⟩
theorem fl_X5_46_6 : ab_fl RX5 46 6 3 (.object "WaterMen$Jar") false := ⟨RX5, TX5, 12, tyX5, "WaterMen$Man", cl_6, by decide, by decide +kernel, rfl, (fun h => by cases h), tw_384, Or.inl rfl⟩
theorem fg_X5_46_8 : ab_fg RX5 46 8 3 := ⟨RX7, TX7, 12, tyX7, "WaterMen$Man", cl_8, by decide, tw_384, Or.inl rfl⟩
theorem fl_X5_46_8 : ab_fl RX5 46 8 3 (.object "WaterMen$Jar") false := ⟨RX7, TX7, 12, tyX7, "WaterMen$Man", cl_8, by decide, by decide +kernel, rfl, (fun h => by cases h), tw_384, Or.inl rfl⟩
theorem tw_385 : Cond.fieldLink RX6 27 "WaterMen$Man" "jar" "LWaterMen$Jar;" ∈ ab_T := ab_T_in (i := 385) (by decide +kernel) (by decide +kernel)
theorem fg_X6_27_1 : ab_fg RX6 27 1 3 := ⟨RX0, TX0, 13, tyX0, "WaterMen$Man", cl_1, by decide, tw_385, Or.inl rfl⟩
theorem fl_X6_27_1 : ab_fl RX6 27 1 3 (.object "WaterMen$Jar") false := ⟨RX0, TX0, 13, tyX0, "WaterMen$Man", cl_1, by decide, by decide +kernel, rfl, (fun h => by cases h), tw_385, Or.inl rfl⟩
theorem fg_X6_27_6 : ab_fg RX6 27 6 3 := ⟨RX5, TX5, 12, tyX5, "WaterMen$Man", cl_6, by decide, tw_385, Or.inl rfl⟩
theorem fl_X6_27_6 : ab_fl RX6 27 6 3 (.object "WaterMen$Jar") false := ⟨RX5, TX5, 12, tyX5, "WaterMen$Man", cl_6, by decide, by decide +kernel, rfl, (fun h => by cases h), tw_385, Or.inl rfl⟩
theorem fg_X6_27_8 : ab_fg RX6 27 8 3 := ⟨RX7, TX7, 12, tyX7, "WaterMen$Man", cl_8, by decide, tw_385, Or.inl rfl⟩
theorem fl_X6_27_8 : ab_fl RX6 27 8 3 (.object "WaterMen$Jar") false := ⟨RX7, TX7, 12, tyX7, "WaterMen$Man", cl_8, by decide, by decide +kernel, rfl, (fun h => by cases h), tw_385, Or.inl rfl⟩
theorem tw_386 : Cond.fieldLink RX8 126 "WaterMen$Man" "jar" "LWaterMen$Jar;" ∈ ab_T := ab_T_in (i := 386) (by decide +kernel) (by decide +kernel)
theorem fg_X8_126_1 : ab_fg RX8 126 1 3 := ⟨RX0, TX0, 13, tyX0, "WaterMen$Man", cl_1, by decide, tw_386, Or.inl rfl⟩
theorem fl_X8_126_1 : ab_fl RX8 126 1 3 (.object "WaterMen$Jar") false := ⟨RX0, TX0, 13, tyX0, "WaterMen$Man", cl_1, by decide, by decide +kernel, rfl, (fun h => by cases h), tw_386, Or.inl rfl⟩
theorem fg_X8_126_6 : ab_fg RX8 126 6 3 := ⟨RX5, TX5, 12, tyX5, "WaterMen$Man", cl_6, by decide, tw_386, Or.inl rfl⟩
theorem fl_X8_126_6 : ab_fl RX8 126 6 3 (.object "WaterMen$Jar") false := ⟨RX5, TX5, 12, tyX5, "WaterMen$Man", cl_6, by decide, by decide +kernel, rfl, (fun h => by cases h), tw_386, Or.inl rfl⟩
theorem fg_X8_126_8 : ab_fg RX8 126 8 3 := ⟨RX7, TX7, 12, tyX7, "WaterMen$Man", cl_8, by decide, tw_386, Or.inl rfl⟩
theorem fl_X8_126_8 : ab_fl RX8 126 8 3 (.object "WaterMen$Jar") false := ⟨RX7, TX7, 12, tyX7, "WaterMen$Man", cl_8, by decide, by decide +kernel, rfl, (fun h => by cases h), tw_386, Or.inl rfl⟩
theorem tw_387 : Cond.fieldLink RX5 9 "WaterMen$Man" "rank" "I" ∈ ab_T := ab_T_in (i := 387) (by decide +kernel) (by decide +kernel)
theorem fg_X5_9_1 : ab_fg RX5 9 1 4 := ⟨RX0, TX0, 13, tyX0, "WaterMen$Man", cl_1, by decide, tw_387, Or.inl rfl⟩
theorem fl_X5_9_1 : ab_fl RX5 9 1 4 (.int) false := ⟨RX0, TX0, 13, tyX0, "WaterMen$Man", cl_1, by decide, by decide +kernel, rfl, (fun h => by cases h), tw_387, Or.inl rfl⟩
theorem fg_X5_9_6 : ab_fg RX5 9 6 4 := ⟨RX5, TX5, 12, tyX5, "WaterMen$Man", cl_6, by decide, tw_387, Or.inl rfl⟩
theorem fl_X5_9_6 : ab_fl RX5 9 6 4 (.int) false := ⟨RX5, TX5, 12, tyX5, "WaterMen$Man", cl_6, by decide, by decide +kernel, rfl, (fun h => by cases h), tw_387, Or.inl rfl⟩
theorem fg_X5_9_8 : ab_fg RX5 9 8 4 := ⟨RX7, TX7, 12, tyX7, "WaterMen$Man", cl_8, by decide, tw_387, Or.inl rfl⟩
theorem fl_X5_9_8 : ab_fl RX5 9 8 4 (.int) false := ⟨RX7, TX7, 12, tyX7, "WaterMen$Man", cl_8, by decide, by decide +kernel, rfl, (fun h => by cases h), tw_387, Or.inl rfl⟩
theorem tw_388 : Cond.fieldLink RX2 43 "WaterMen$Man" "rank" "I" ∈ ab_T := ab_T_in (i := 388) (by decide +kernel) (by decide +kernel)
theorem fg_X2_43_1 : ab_fg RX2 43 1 4 := ⟨RX0, TX0, 13, tyX0, "WaterMen$Man", cl_1, by decide, tw_388, Or.inl rfl⟩
theorem fl_X2_43_1 : ab_fl RX2 43 1 4 (.int) false := ⟨RX0, TX0, 13, tyX0, "WaterMen$Man", cl_1, by decide, by decide +kernel, rfl, (fun h => by cases h), tw_388, Or.inl rfl⟩
theorem fg_X2_43_6 : ab_fg RX2 43 6 4 := ⟨RX5, TX5, 12, tyX5, "WaterMen$Man", cl_6, by decide, tw_388, Or.inl rfl⟩
theorem fl_X2_43_6 : ab_fl RX2 43 6 4 (.int) false := ⟨RX5, TX5, 12, tyX5, "WaterMen$Man", cl_6, by decide, by decide +kernel, rfl, (fun h => by cases h), tw_388, Or.inl rfl⟩
theorem fg_X2_43_8 : ab_fg RX2 43 8 4 := ⟨RX7, TX7, 12, tyX7, "WaterMen$Man", cl_8, by decide, tw_388, Or.inl rfl⟩
theorem fl_X2_43_8 : ab_fl RX2 43 8 4 (.int) false := ⟨RX7, TX7, 12, tyX7, "WaterMen$Man", cl_8, by decide, by decide +kernel, rfl, (fun h => by cases h), tw_388, Or.inl rfl⟩
theorem tw_389 : Cond.fieldLink RX8 108 "WaterMen$Man" "rank" "I" ∈ ab_T := ab_T_in (i := 389) (by decide +kernel) (by decide +kernel)
theorem fg_X8_108_1 : ab_fg RX8 108 1 4 := ⟨RX0, TX0, 13, tyX0, "WaterMen$Man", cl_1, by decide, tw_389, Or.inl rfl⟩
theorem fl_X8_108_1 : ab_fl RX8 108 1 4 (.int) false := ⟨RX0, TX0, 13, tyX0, "WaterMen$Man", cl_1, by decide, by decide +kernel, rfl, (fun h => by cases h), tw_389, Or.inl rfl⟩
theorem fg_X8_108_6 : ab_fg RX8 108 6 4 := ⟨RX5, TX5, 12, tyX5, "WaterMen$Man", cl_6, by decide, tw_389, Or.inl rfl⟩
theorem fl_X8_108_6 : ab_fl RX8 108 6 4 (.int) false := ⟨RX5, TX5, 12, tyX5, "WaterMen$Man", cl_6, by decide, by decide +kernel, rfl, (fun h => by cases h), tw_389, Or.inl rfl⟩
theorem fg_X8_108_8 : ab_fg RX8 108 8 4 := ⟨RX7, TX7, 12, tyX7, "WaterMen$Man", cl_8, by decide, tw_389, Or.inl rfl⟩
theorem fl_X8_108_8 : ab_fl RX8 108 8 4 (.int) false := ⟨RX7, TX7, 12, tyX7, "WaterMen$Man", cl_8, by decide, by decide +kernel, rfl, (fun h => by cases h), tw_389, Or.inl rfl⟩
theorem tw_390 : Cond.fieldLink RX5 15 "WaterMen$Man" "doing" "I" ∈ ab_T := ab_T_in (i := 390) (by decide +kernel) (by decide +kernel)
theorem fg_X5_15_1 : ab_fg RX5 15 1 5 := ⟨RX0, TX0, 13, tyX0, "WaterMen$Man", cl_1, by decide, tw_390, Or.inl rfl⟩
theorem fl_X5_15_1 : ab_fl RX5 15 1 5 (.int) false := ⟨RX0, TX0, 13, tyX0, "WaterMen$Man", cl_1, by decide, by decide +kernel, rfl, (fun h => by cases h), tw_390, Or.inl rfl⟩
theorem fg_X5_15_6 : ab_fg RX5 15 6 5 := ⟨RX5, TX5, 12, tyX5, "WaterMen$Man", cl_6, by decide, tw_390, Or.inl rfl⟩
theorem fl_X5_15_6 : ab_fl RX5 15 6 5 (.int) false := ⟨RX5, TX5, 12, tyX5, "WaterMen$Man", cl_6, by decide, by decide +kernel, rfl, (fun h => by cases h), tw_390, Or.inl rfl⟩
theorem fg_X5_15_8 : ab_fg RX5 15 8 5 := ⟨RX7, TX7, 12, tyX7, "WaterMen$Man", cl_8, by decide, tw_390, Or.inl rfl⟩
theorem fl_X5_15_8 : ab_fl RX5 15 8 5 (.int) false := ⟨RX7, TX7, 12, tyX7, "WaterMen$Man", cl_8, by decide, by decide +kernel, rfl, (fun h => by cases h), tw_390, Or.inl rfl⟩
theorem tw_391 : Cond.fieldLink RX8 116 "WaterMen$Man" "doing" "I" ∈ ab_T := ab_T_in (i := 391) (by decide +kernel) (by decide +kernel)
theorem fg_X8_116_1 : ab_fg RX8 116 1 5 := ⟨RX0, TX0, 13, tyX0, "WaterMen$Man", cl_1, by decide, tw_391, Or.inl rfl⟩
theorem fl_X8_116_1 : ab_fl RX8 116 1 5 (.int) false := ⟨RX0, TX0, 13, tyX0, "WaterMen$Man", cl_1, by decide, by decide +kernel, rfl, (fun h => by cases h), tw_391, Or.inl rfl⟩
theorem fg_X8_116_6 : ab_fg RX8 116 6 5 := ⟨RX5, TX5, 12, tyX5, "WaterMen$Man", cl_6, by decide, tw_391, Or.inl rfl⟩
theorem fl_X8_116_6 : ab_fl RX8 116 6 5 (.int) false := ⟨RX5, TX5, 12, tyX5, "WaterMen$Man", cl_6, by decide, by decide +kernel, rfl, (fun h => by cases h), tw_391, Or.inl rfl⟩
theorem fg_X8_116_8 : ab_fg RX8 116 8 5 := ⟨RX7, TX7, 12, tyX7, "WaterMen$Man", cl_8, by decide, tw_391, Or.inl rfl⟩
theorem fl_X8_116_8 : ab_fl RX8 116 8 5 (.int) false := ⟨RX7, TX7, 12, tyX7, "WaterMen$Man", cl_8, by decide, by decide +kernel, rfl, (fun h => by cases h), tw_391, Or.inl rfl⟩
theorem tw_392 : Cond.fieldLink RX5 18 "WaterMen$Man" "toGo" "I" ∈ ab_T := ab_T_in (i := 392) (by decide +kernel) (by decide +kernel)
theorem fg_X5_18_1 : ab_fg RX5 18 1 6 := ⟨RX0, TX0, 13, tyX0, "WaterMen$Man", cl_1, by decide, tw_392, Or.inl rfl⟩
theorem fl_X5_18_1 : ab_fl RX5 18 1 6 (.int) false := ⟨RX0, TX0, 13, tyX0, "WaterMen$Man", cl_1, by decide, by decide +kernel, rfl, (fun h => by cases h), tw_392, Or.inl rfl⟩
theorem fg_X5_18_6 : ab_fg RX5 18 6 6 := ⟨RX5, TX5, 12, tyX5, "WaterMen$Man", cl_6, by decide, tw_392, Or.inl rfl⟩
theorem fl_X5_18_6 : ab_fl RX5 18 6 6 (.int) false := ⟨RX5, TX5, 12, tyX5, "WaterMen$Man", cl_6, by decide, by decide +kernel, rfl, (fun h => by cases h), tw_392, Or.inl rfl⟩
theorem fg_X5_18_8 : ab_fg RX5 18 8 6 := ⟨RX7, TX7, 12, tyX7, "WaterMen$Man", cl_8, by decide, tw_392, Or.inl rfl⟩
theorem fl_X5_18_8 : ab_fl RX5 18 8 6 (.int) false := ⟨RX7, TX7, 12, tyX7, "WaterMen$Man", cl_8, by decide, by decide +kernel, rfl, (fun h => by cases h), tw_392, Or.inl rfl⟩
theorem tw_393 : Cond.fieldLink RX8 152 "WaterMen$Man" "toGo" "I" ∈ ab_T := ab_T_in (i := 393) (by decide +kernel) (by decide +kernel)
theorem fg_X8_152_1 : ab_fg RX8 152 1 6 := ⟨RX0, TX0, 13, tyX0, "WaterMen$Man", cl_1, by decide, tw_393, Or.inl rfl⟩
theorem fl_X8_152_1 : ab_fl RX8 152 1 6 (.int) false := ⟨RX0, TX0, 13, tyX0, "WaterMen$Man", cl_1, by decide, by decide +kernel, rfl, (fun h => by cases h), tw_393, Or.inl rfl⟩
theorem fg_X8_152_6 : ab_fg RX8 152 6 6 := ⟨RX5, TX5, 12, tyX5, "WaterMen$Man", cl_6, by decide, tw_393, Or.inl rfl⟩
theorem fl_X8_152_6 : ab_fl RX8 152 6 6 (.int) false := ⟨RX5, TX5, 12, tyX5, "WaterMen$Man", cl_6, by decide, by decide +kernel, rfl, (fun h => by cases h), tw_393, Or.inl rfl⟩
theorem fg_X8_152_8 : ab_fg RX8 152 8 6 := ⟨RX7, TX7, 12, tyX7, "WaterMen$Man", cl_8, by decide, tw_393, Or.inl rfl⟩
theorem fl_X8_152_8 : ab_fl RX8 152 8 6 (.int) false := ⟨RX7, TX7, 12, tyX7, "WaterMen$Man", cl_8, by decide, by decide +kernel, rfl, (fun h => by cases h), tw_393, Or.inl rfl⟩
theorem tw_394 : Cond.fieldLink RX5 21 "WaterMen$Man" "carries" "I" ∈ ab_T := ab_T_in (i := 394) (by decide +kernel) (by decide +kernel)
theorem fg_X5_21_1 : ab_fg RX5 21 1 7 := ⟨RX0, TX0, 13, tyX0, "WaterMen$Man", cl_1, by decide, tw_394, Or.inl rfl⟩
theorem fl_X5_21_1 : ab_fl RX5 21 1 7 (.int) false := ⟨RX0, TX0, 13, tyX0, "WaterMen$Man", cl_1, by decide, by decide +kernel, rfl, (fun h => by cases h), tw_394, Or.inl rfl⟩
theorem fg_X5_21_6 : ab_fg RX5 21 6 7 := ⟨RX5, TX5, 12, tyX5, "WaterMen$Man", cl_6, by decide, tw_394, Or.inl rfl⟩
theorem fl_X5_21_6 : ab_fl RX5 21 6 7 (.int) false := ⟨RX5, TX5, 12, tyX5, "WaterMen$Man", cl_6, by decide, by decide +kernel, rfl, (fun h => by cases h), tw_394, Or.inl rfl⟩
theorem fg_X5_21_8 : ab_fg RX5 21 8 7 := ⟨RX7, TX7, 12, tyX7, "WaterMen$Man", cl_8, by decide, tw_394, Or.inl rfl⟩
theorem fl_X5_21_8 : ab_fl RX5 21 8 7 (.int) false := ⟨RX7, TX7, 12, tyX7, "WaterMen$Man", cl_8, by decide, by decide +kernel, rfl, (fun h => by cases h), tw_394, Or.inl rfl⟩
theorem tw_395 : Cond.fieldLink RX8 155 "WaterMen$Man" "carries" "I" ∈ ab_T := ab_T_in (i := 395) (by decide +kernel) (by decide +kernel)
theorem fg_X8_155_1 : ab_fg RX8 155 1 7 := ⟨RX0, TX0, 13, tyX0, "WaterMen$Man", cl_1, by decide, tw_395, Or.inl rfl⟩
theorem fl_X8_155_1 : ab_fl RX8 155 1 7 (.int) false := ⟨RX0, TX0, 13, tyX0, "WaterMen$Man", cl_1, by decide, by decide +kernel, rfl, (fun h => by cases h), tw_395, Or.inl rfl⟩
theorem fg_X8_155_6 : ab_fg RX8 155 6 7 := ⟨RX5, TX5, 12, tyX5, "WaterMen$Man", cl_6, by decide, tw_395, Or.inl rfl⟩
theorem fl_X8_155_6 : ab_fl RX8 155 6 7 (.int) false := ⟨RX5, TX5, 12, tyX5, "WaterMen$Man", cl_6, by decide, by decide +kernel, rfl, (fun h => by cases h), tw_395, Or.inl rfl⟩
theorem fg_X8_155_8 : ab_fg RX8 155 8 7 := ⟨RX7, TX7, 12, tyX7, "WaterMen$Man", cl_8, by decide, tw_395, Or.inl rfl⟩
theorem fl_X8_155_8 : ab_fl RX8 155 8 7 (.int) false := ⟨RX7, TX7, 12, tyX7, "WaterMen$Man", cl_8, by decide, by decide +kernel, rfl, (fun h => by cases h), tw_395, Or.inl rfl⟩
theorem tw_396 : Cond.fieldLink RX5 24 "WaterMen$Man" "earned" "I" ∈ ab_T := ab_T_in (i := 396) (by decide +kernel) (by decide +kernel)
theorem fg_X5_24_1 : ab_fg RX5 24 1 8 := ⟨RX0, TX0, 13, tyX0, "WaterMen$Man", cl_1, by decide, tw_396, Or.inl rfl⟩
theorem fl_X5_24_1 : ab_fl RX5 24 1 8 (.int) false := ⟨RX0, TX0, 13, tyX0, "WaterMen$Man", cl_1, by decide, by decide +kernel, rfl, (fun h => by cases h), tw_396, Or.inl rfl⟩
theorem fg_X5_24_6 : ab_fg RX5 24 6 8 := ⟨RX5, TX5, 12, tyX5, "WaterMen$Man", cl_6, by decide, tw_396, Or.inl rfl⟩
theorem fl_X5_24_6 : ab_fl RX5 24 6 8 (.int) false := ⟨RX5, TX5, 12, tyX5, "WaterMen$Man", cl_6, by decide, by decide +kernel, rfl, (fun h => by cases h), tw_396, Or.inl rfl⟩
theorem fg_X5_24_8 : ab_fg RX5 24 8 8 := ⟨RX7, TX7, 12, tyX7, "WaterMen$Man", cl_8, by decide, tw_396, Or.inl rfl⟩
theorem fl_X5_24_8 : ab_fl RX5 24 8 8 (.int) false := ⟨RX7, TX7, 12, tyX7, "WaterMen$Man", cl_8, by decide, by decide +kernel, rfl, (fun h => by cases h), tw_396, Or.inl rfl⟩
theorem tw_397 : Cond.fieldLink RX8 158 "WaterMen$Man" "earned" "I" ∈ ab_T := ab_T_in (i := 397) (by decide +kernel) (by decide +kernel)
theorem fg_X8_158_1 : ab_fg RX8 158 1 8 := ⟨RX0, TX0, 13, tyX0, "WaterMen$Man", cl_1, by decide, tw_397, Or.inl rfl⟩
theorem fl_X8_158_1 : ab_fl RX8 158 1 8 (.int) false := ⟨RX0, TX0, 13, tyX0, "WaterMen$Man", cl_1, by decide, by decide +kernel, rfl, (fun h => by cases h), tw_397, Or.inl rfl⟩
theorem fg_X8_158_6 : ab_fg RX8 158 6 8 := ⟨RX5, TX5, 12, tyX5, "WaterMen$Man", cl_6, by decide, tw_397, Or.inl rfl⟩
theorem fl_X8_158_6 : ab_fl RX8 158 6 8 (.int) false := ⟨RX5, TX5, 12, tyX5, "WaterMen$Man", cl_6, by decide, by decide +kernel, rfl, (fun h => by cases h), tw_397, Or.inl rfl⟩
theorem fg_X8_158_8 : ab_fg RX8 158 8 8 := ⟨RX7, TX7, 12, tyX7, "WaterMen$Man", cl_8, by decide, tw_397, Or.inl rfl⟩
theorem fl_X8_158_8 : ab_fl RX8 158 8 8 (.int) false := ⟨RX7, TX7, 12, tyX7, "WaterMen$Man", cl_8, by decide, by decide +kernel, rfl, (fun h => by cases h), tw_397, Or.inl rfl⟩
theorem tw_398 : Cond.fieldLink RX5 27 "WaterMen$Man" "setOutTime" "I" ∈ ab_T := ab_T_in (i := 398) (by decide +kernel) (by decide +kernel)
theorem fg_X5_27_1 : ab_fg RX5 27 1 9 := ⟨RX0, TX0, 13, tyX0, "WaterMen$Man", cl_1, by decide, tw_398, Or.inl rfl⟩
theorem fl_X5_27_1 : ab_fl RX5 27 1 9 (.int) false := ⟨RX0, TX0, 13, tyX0, "WaterMen$Man", cl_1, by decide, by decide +kernel, rfl, (fun h => by cases h), tw_398, Or.inl rfl⟩
theorem fg_X5_27_6 : ab_fg RX5 27 6 9 := ⟨RX5, TX5, 12, tyX5, "WaterMen$Man", cl_6, by decide, tw_398, Or.inl rfl⟩
theorem fl_X5_27_6 : ab_fl RX5 27 6 9 (.int) false := ⟨RX5, TX5, 12, tyX5, "WaterMen$Man", cl_6, by decide, by decide +kernel, rfl, (fun h => by cases h), tw_398, Or.inl rfl⟩
theorem fg_X5_27_8 : ab_fg RX5 27 8 9 := ⟨RX7, TX7, 12, tyX7, "WaterMen$Man", cl_8, by decide, tw_398, Or.inl rfl⟩
theorem fl_X5_27_8 : ab_fl RX5 27 8 9 (.int) false := ⟨RX7, TX7, 12, tyX7, "WaterMen$Man", cl_8, by decide, by decide +kernel, rfl, (fun h => by cases h), tw_398, Or.inl rfl⟩
theorem tw_399 : Cond.fieldLink RX8 272 "WaterMen$Man" "setOutTime" "I" ∈ ab_T := ab_T_in (i := 399) (by decide +kernel) (by decide +kernel)
theorem fg_X8_272_1 : ab_fg RX8 272 1 9 := ⟨RX0, TX0, 13, tyX0, "WaterMen$Man", cl_1, by decide, tw_399, Or.inl rfl⟩
theorem fl_X8_272_1 : ab_fl RX8 272 1 9 (.int) false := ⟨RX0, TX0, 13, tyX0, "WaterMen$Man", cl_1, by decide, by decide +kernel, rfl, (fun h => by cases h), tw_399, Or.inl rfl⟩
theorem fg_X8_272_6 : ab_fg RX8 272 6 9 := ⟨RX5, TX5, 12, tyX5, "WaterMen$Man", cl_6, by decide, tw_399, Or.inl rfl⟩
theorem fl_X8_272_6 : ab_fl RX8 272 6 9 (.int) false := ⟨RX5, TX5, 12, tyX5, "WaterMen$Man", cl_6, by decide, by decide +kernel, rfl, (fun h => by cases h), tw_399, Or.inl rfl⟩
theorem fg_X8_272_8 : ab_fg RX8 272 8 9 := ⟨RX7, TX7, 12, tyX7, "WaterMen$Man", cl_8, by decide, tw_399, Or.inl rfl⟩
theorem fl_X8_272_8 : ab_fl RX8 272 8 9 (.int) false := ⟨RX7, TX7, 12, tyX7, "WaterMen$Man", cl_8, by decide, by decide +kernel, rfl, (fun h => by cases h), tw_399, Or.inl rfl⟩
theorem tw_400 : Cond.fieldLink RX5 30 "WaterMen$Man" "filledFrom" "I" ∈ ab_T := ab_T_in (i := 400) (by decide +kernel) (by decide +kernel)
theorem fg_X5_30_1 : ab_fg RX5 30 1 10 := ⟨RX0, TX0, 13, tyX0, "WaterMen$Man", cl_1, by decide, tw_400, Or.inl rfl⟩
theorem fl_X5_30_1 : ab_fl RX5 30 1 10 (.int) false := ⟨RX0, TX0, 13, tyX0, "WaterMen$Man", cl_1, by decide, by decide +kernel, rfl, (fun h => by cases h), tw_400, Or.inl rfl⟩
theorem fg_X5_30_6 : ab_fg RX5 30 6 10 := ⟨RX5, TX5, 12, tyX5, "WaterMen$Man", cl_6, by decide, tw_400, Or.inl rfl⟩
theorem fl_X5_30_6 : ab_fl RX5 30 6 10 (.int) false := ⟨RX5, TX5, 12, tyX5, "WaterMen$Man", cl_6, by decide, by decide +kernel, rfl, (fun h => by cases h), tw_400, Or.inl rfl⟩
theorem fg_X5_30_8 : ab_fg RX5 30 8 10 := ⟨RX7, TX7, 12, tyX7, "WaterMen$Man", cl_8, by decide, tw_400, Or.inl rfl⟩
theorem fl_X5_30_8 : ab_fl RX5 30 8 10 (.int) false := ⟨RX7, TX7, 12, tyX7, "WaterMen$Man", cl_8, by decide, by decide +kernel, rfl, (fun h => by cases h), tw_400, Or.inl rfl⟩
theorem tw_401 : Cond.fieldLink RX6 34 "WaterMen$Man" "filledFrom" "I" ∈ ab_T := ab_T_in (i := 401) (by decide +kernel) (by decide +kernel)
theorem fg_X6_34_1 : ab_fg RX6 34 1 10 := ⟨RX0, TX0, 13, tyX0, "WaterMen$Man", cl_1, by decide, tw_401, Or.inl rfl⟩
theorem fl_X6_34_1 : ab_fl RX6 34 1 10 (.int) false := ⟨RX0, TX0, 13, tyX0, "WaterMen$Man", cl_1, by decide, by decide +kernel, rfl, (fun h => by cases h), tw_401, Or.inl rfl⟩
theorem fg_X6_34_6 : ab_fg RX6 34 6 10 := ⟨RX5, TX5, 12, tyX5, "WaterMen$Man", cl_6, by decide, tw_401, Or.inl rfl⟩
theorem fl_X6_34_6 : ab_fl RX6 34 6 10 (.int) false := ⟨RX5, TX5, 12, tyX5, "WaterMen$Man", cl_6, by decide, by decide +kernel, rfl, (fun h => by cases h), tw_401, Or.inl rfl⟩
theorem fg_X6_34_8 : ab_fg RX6 34 8 10 := ⟨RX7, TX7, 12, tyX7, "WaterMen$Man", cl_8, by decide, tw_401, Or.inl rfl⟩
theorem fl_X6_34_8 : ab_fl RX6 34 8 10 (.int) false := ⟨RX7, TX7, 12, tyX7, "WaterMen$Man", cl_8, by decide, by decide +kernel, rfl, (fun h => by cases h), tw_401, Or.inl rfl⟩
theorem tw_402 : Cond.fieldLink RX8 262 "WaterMen$Man" "filledFrom" "I" ∈ ab_T := ab_T_in (i := 402) (by decide +kernel) (by decide +kernel)
theorem fg_X8_262_1 : ab_fg RX8 262 1 10 := ⟨RX0, TX0, 13, tyX0, "WaterMen$Man", cl_1, by decide, tw_402, Or.inl rfl⟩
theorem fl_X8_262_1 : ab_fl RX8 262 1 10 (.int) false := ⟨RX0, TX0, 13, tyX0, "WaterMen$Man", cl_1, by decide, by decide +kernel, rfl, (fun h => by cases h), tw_402, Or.inl rfl⟩
theorem fg_X8_262_6 : ab_fg RX8 262 6 10 := ⟨RX5, TX5, 12, tyX5, "WaterMen$Man", cl_6, by decide, tw_402, Or.inl rfl⟩
theorem fl_X8_262_6 : ab_fl RX8 262 6 10 (.int) false := ⟨RX5, TX5, 12, tyX5, "WaterMen$Man", cl_6, by decide, by decide +kernel, rfl, (fun h => by cases h), tw_402, Or.inl rfl⟩
theorem fg_X8_262_8 : ab_fg RX8 262 8 10 := ⟨RX7, TX7, 12, tyX7, "WaterMen$Man", cl_8, by decide, tw_402, Or.inl rfl⟩
theorem fl_X8_262_8 : ab_fl RX8 262 8 10 (.int) false := ⟨RX7, TX7, 12, tyX7, "WaterMen$Man", cl_8, by decide, by decide +kernel, rfl, (fun h => by cases h), tw_402, Or.inl rfl⟩
theorem tw_403 : Cond.fieldLink RX5 33 "WaterMen$Man" "filledTime" "I" ∈ ab_T := ab_T_in (i := 403) (by decide +kernel) (by decide +kernel)
theorem fg_X5_33_1 : ab_fg RX5 33 1 11 := ⟨RX0, TX0, 13, tyX0, "WaterMen$Man", cl_1, by decide, tw_403, Or.inl rfl⟩
theorem fl_X5_33_1 : ab_fl RX5 33 1 11 (.int) false := ⟨RX0, TX0, 13, tyX0, "WaterMen$Man", cl_1, by decide, by decide +kernel, rfl, (fun h => by cases h), tw_403, Or.inl rfl⟩
theorem fg_X5_33_6 : ab_fg RX5 33 6 11 := ⟨RX5, TX5, 12, tyX5, "WaterMen$Man", cl_6, by decide, tw_403, Or.inl rfl⟩
theorem fl_X5_33_6 : ab_fl RX5 33 6 11 (.int) false := ⟨RX5, TX5, 12, tyX5, "WaterMen$Man", cl_6, by decide, by decide +kernel, rfl, (fun h => by cases h), tw_403, Or.inl rfl⟩
theorem fg_X5_33_8 : ab_fg RX5 33 8 11 := ⟨RX7, TX7, 12, tyX7, "WaterMen$Man", cl_8, by decide, tw_403, Or.inl rfl⟩
theorem fl_X5_33_8 : ab_fl RX5 33 8 11 (.int) false := ⟨RX7, TX7, 12, tyX7, "WaterMen$Man", cl_8, by decide, by decide +kernel, rfl, (fun h => by cases h), tw_403, Or.inl rfl⟩
theorem tw_404 : Cond.fieldLink RX6 37 "WaterMen$Man" "filledTime" "I" ∈ ab_T := ab_T_in (i := 404) (by decide +kernel) (by decide +kernel)
theorem fg_X6_37_1 : ab_fg RX6 37 1 11 := ⟨RX0, TX0, 13, tyX0, "WaterMen$Man", cl_1, by decide, tw_404, Or.inl rfl⟩
theorem fl_X6_37_1 : ab_fl RX6 37 1 11 (.int) false := ⟨RX0, TX0, 13, tyX0, "WaterMen$Man", cl_1, by decide, by decide +kernel, rfl, (fun h => by cases h), tw_404, Or.inl rfl⟩
theorem fg_X6_37_6 : ab_fg RX6 37 6 11 := ⟨RX5, TX5, 12, tyX5, "WaterMen$Man", cl_6, by decide, tw_404, Or.inl rfl⟩
theorem fl_X6_37_6 : ab_fl RX6 37 6 11 (.int) false := ⟨RX5, TX5, 12, tyX5, "WaterMen$Man", cl_6, by decide, by decide +kernel, rfl, (fun h => by cases h), tw_404, Or.inl rfl⟩
theorem fg_X6_37_8 : ab_fg RX6 37 8 11 := ⟨RX7, TX7, 12, tyX7, "WaterMen$Man", cl_8, by decide, tw_404, Or.inl rfl⟩
theorem fl_X6_37_8 : ab_fl RX6 37 8 11 (.int) false := ⟨RX7, TX7, 12, tyX7, "WaterMen$Man", cl_8, by decide, by decide +kernel, rfl, (fun h => by cases h), tw_404, Or.inl rfl⟩
theorem tw_405 : Cond.fieldLink RX8 265 "WaterMen$Man" "filledTime" "I" ∈ ab_T := ab_T_in (i := 405) (by decide +kernel) (by decide +kernel)
theorem fg_X8_265_1 : ab_fg RX8 265 1 11 := ⟨RX0, TX0, 13, tyX0, "WaterMen$Man", cl_1, by decide, tw_405, Or.inl rfl⟩
theorem fl_X8_265_1 : ab_fl RX8 265 1 11 (.int) false := ⟨RX0, TX0, 13, tyX0, "WaterMen$Man", cl_1, by decide, by decide +kernel, rfl, (fun h => by cases h), tw_405, Or.inl rfl⟩
theorem fg_X8_265_6 : ab_fg RX8 265 6 11 := ⟨RX5, TX5, 12, tyX5, "WaterMen$Man", cl_6, by decide, tw_405, Or.inl rfl⟩
theorem fl_X8_265_6 : ab_fl RX8 265 6 11 (.int) false := ⟨RX5, TX5, 12, tyX5, "WaterMen$Man", cl_6, by decide, by decide +kernel, rfl, (fun h => by cases h), tw_405, Or.inl rfl⟩
theorem fg_X8_265_8 : ab_fg RX8 265 8 11 := ⟨RX7, TX7, 12, tyX7, "WaterMen$Man", cl_8, by decide, tw_405, Or.inl rfl⟩
theorem fl_X8_265_8 : ab_fl RX8 265 8 11 (.int) false := ⟨RX7, TX7, 12, tyX7, "WaterMen$Man", cl_8, by decide, by decide +kernel, rfl, (fun h => by cases h), tw_405, Or.inl rfl⟩
theorem tw_795 : Cond.fieldLink RX9 119 "WaterMenModel" "fountains" "I" ∈ ab_T := ab_T_in (i := 795) (by decide +kernel) (by decide +kernel)
theorem fg_X9_119_10 : ab_fg RX9 119 10 0 := ⟨RX9, TX9, 41, tyX9, "WaterMenModel", cl_10, by decide, tw_795, Or.inl rfl⟩
theorem fl_X9_119_10 : ab_fl RX9 119 10 0 (.int) false := ⟨RX9, TX9, 41, tyX9, "WaterMenModel", cl_10, by decide, by decide +kernel, rfl, (fun h => by cases h), tw_795, Or.inl rfl⟩
theorem tw_796 : Cond.fieldLink RX9 7 "WaterMenModel" "flows" "[I" ∈ ab_T := ab_T_in (i := 796) (by decide +kernel) (by decide +kernel)
theorem fg_X9_7_10 : ab_fg RX9 7 10 1 := ⟨RX9, TX9, 41, tyX9, "WaterMenModel", cl_10, by decide, tw_796, Or.inl rfl⟩
theorem fl_X9_7_10 : ab_fl RX9 7 10 1 (.array .int) true := ⟨RX9, TX9, 41, tyX9, "WaterMenModel", cl_10, by decide, by decide +kernel, rfl, fun _ => rfl, tw_796, Or.inl rfl⟩
theorem tw_797 : Cond.fieldLink RX9 13 "WaterMenModel" "depth" "[I" ∈ ab_T := ab_T_in (i := 797) (by decide +kernel) (by decide +kernel)
theorem fg_X9_13_10 : ab_fg RX9 13 10 2 := ⟨RX9, TX9, 41, tyX9, "WaterMenModel", cl_10, by decide, tw_797, Or.inl rfl⟩
theorem fl_X9_13_10 : ab_fl RX9 13 10 2 (.array .int) true := ⟨RX9, TX9, 41, tyX9, "WaterMenModel", cl_10, by decide, by decide +kernel, rfl, fun _ => rfl, tw_797, Or.inl rfl⟩
theorem tw_798 : Cond.fieldLink RX9 16 "WaterMenModel" "isOpen" "[Z" ∈ ab_T := ab_T_in (i := 798) (by decide +kernel) (by decide +kernel)
theorem fg_X9_16_10 : ab_fg RX9 16 10 3 := ⟨RX9, TX9, 41, tyX9, "WaterMenModel", cl_10, by decide, tw_798, Or.inl rfl⟩
theorem fl_X9_16_10 : ab_fl RX9 16 10 3 (.array .boolean) true := ⟨RX9, TX9, 41, tyX9, "WaterMenModel", cl_10, by decide, by decide +kernel, rfl, fun _ => rfl, tw_798, Or.inl rfl⟩
theorem tw_799 : Cond.fieldLink RX9 20 "WaterMenModel" "ranOff" "[I" ∈ ab_T := ab_T_in (i := 799) (by decide +kernel) (by decide +kernel)
theorem fg_X9_20_10 : ab_fg RX9 20 10 4 := ⟨RX9, TX9, 41, tyX9, "WaterMenModel", cl_10, by decide, tw_799, Or.inl rfl⟩
theorem fl_X9_20_10 : ab_fl RX9 20 10 4 (.array .int) true := ⟨RX9, TX9, 41, tyX9, "WaterMenModel", cl_10, by decide, by decide +kernel, rfl, fun _ => rfl, tw_799, Or.inl rfl⟩
theorem tw_800 : Cond.fieldLink RX9 116 "WaterMenModel" "jars" "I" ∈ ab_T := ab_T_in (i := 800) (by decide +kernel) (by decide +kernel)
theorem fg_X9_116_10 : ab_fg RX9 116 10 5 := ⟨RX9, TX9, 41, tyX9, "WaterMenModel", cl_10, by decide, tw_800, Or.inl rfl⟩
theorem fl_X9_116_10 : ab_fl RX9 116 10 5 (.int) false := ⟨RX9, TX9, 41, tyX9, "WaterMenModel", cl_10, by decide, by decide +kernel, rfl, (fun h => by cases h), tw_800, Or.inl rfl⟩
theorem tw_801 : Cond.fieldLink RX9 23 "WaterMenModel" "floors" "[I" ∈ ab_T := ab_T_in (i := 801) (by decide +kernel) (by decide +kernel)
theorem fg_X9_23_10 : ab_fg RX9 23 10 6 := ⟨RX9, TX9, 41, tyX9, "WaterMenModel", cl_10, by decide, tw_801, Or.inl rfl⟩
theorem fl_X9_23_10 : ab_fl RX9 23 10 6 (.array .int) true := ⟨RX9, TX9, 41, tyX9, "WaterMenModel", cl_10, by decide, by decide +kernel, rfl, fun _ => rfl, tw_801, Or.inl rfl⟩
theorem tw_802 : Cond.fieldLink RX9 26 "WaterMenModel" "holds" "[I" ∈ ab_T := ab_T_in (i := 802) (by decide +kernel) (by decide +kernel)
theorem fg_X9_26_10 : ab_fg RX9 26 10 7 := ⟨RX9, TX9, 41, tyX9, "WaterMenModel", cl_10, by decide, tw_802, Or.inl rfl⟩
theorem fl_X9_26_10 : ab_fl RX9 26 10 7 (.array .int) true := ⟨RX9, TX9, 41, tyX9, "WaterMenModel", cl_10, by decide, by decide +kernel, rfl, fun _ => rfl, tw_802, Or.inl rfl⟩
theorem tw_803 : Cond.fieldLink RX9 29 "WaterMenModel" "away" "[I" ∈ ab_T := ab_T_in (i := 803) (by decide +kernel) (by decide +kernel)
theorem fg_X9_29_10 : ab_fg RX9 29 10 8 := ⟨RX9, TX9, 41, tyX9, "WaterMenModel", cl_10, by decide, tw_803, Or.inl rfl⟩
theorem fl_X9_29_10 : ab_fl RX9 29 10 8 (.array .int) true := ⟨RX9, TX9, 41, tyX9, "WaterMenModel", cl_10, by decide, by decide +kernel, rfl, fun _ => rfl, tw_803, Or.inl rfl⟩
theorem tw_804 : Cond.fieldLink RX9 32 "WaterMenModel" "jarWater" "[I" ∈ ab_T := ab_T_in (i := 804) (by decide +kernel) (by decide +kernel)
theorem fg_X9_32_10 : ab_fg RX9 32 10 9 := ⟨RX9, TX9, 41, tyX9, "WaterMenModel", cl_10, by decide, tw_804, Or.inl rfl⟩
theorem fl_X9_32_10 : ab_fl RX9 32 10 9 (.array .int) true := ⟨RX9, TX9, 41, tyX9, "WaterMenModel", cl_10, by decide, by decide +kernel, rfl, fun _ => rfl, tw_804, Or.inl rfl⟩
theorem tw_805 : Cond.fieldLink RX9 35 "WaterMenModel" "thirst" "[I" ∈ ab_T := ab_T_in (i := 805) (by decide +kernel) (by decide +kernel)
theorem fg_X9_35_10 : ab_fg RX9 35 10 10 := ⟨RX9, TX9, 41, tyX9, "WaterMenModel", cl_10, by decide, tw_805, Or.inl rfl⟩
theorem fl_X9_35_10 : ab_fl RX9 35 10 10 (.array .int) true := ⟨RX9, TX9, 41, tyX9, "WaterMenModel", cl_10, by decide, by decide +kernel, rfl, fun _ => rfl, tw_805, Or.inl rfl⟩
theorem tw_806 : Cond.fieldLink RX9 38 "WaterMenModel" "drunk" "[I" ∈ ab_T := ab_T_in (i := 806) (by decide +kernel) (by decide +kernel)
theorem fg_X9_38_10 : ab_fg RX9 38 10 11 := ⟨RX9, TX9, 41, tyX9, "WaterMenModel", cl_10, by decide, tw_806, Or.inl rfl⟩
theorem fl_X9_38_10 : ab_fl RX9 38 10 11 (.array .int) true := ⟨RX9, TX9, 41, tyX9, "WaterMenModel", cl_10, by decide, by decide +kernel, rfl, fun _ => rfl, tw_806, Or.inl rfl⟩
theorem tw_807 : Cond.fieldLink RX9 126 "WaterMenModel" "men" "I" ∈ ab_T := ab_T_in (i := 807) (by decide +kernel) (by decide +kernel)
theorem fg_X9_126_10 : ab_fg RX9 126 10 12 := ⟨RX9, TX9, 41, tyX9, "WaterMenModel", cl_10, by decide, tw_807, Or.inl rfl⟩
theorem fl_X9_126_10 : ab_fl RX9 126 10 12 (.int) false := ⟨RX9, TX9, 41, tyX9, "WaterMenModel", cl_10, by decide, by decide +kernel, rfl, (fun h => by cases h), tw_807, Or.inl rfl⟩
theorem tw_808 : Cond.fieldLink RX9 41 "WaterMenModel" "kinds" "[I" ∈ ab_T := ab_T_in (i := 808) (by decide +kernel) (by decide +kernel)
theorem fg_X9_41_10 : ab_fg RX9 41 10 13 := ⟨RX9, TX9, 41, tyX9, "WaterMenModel", cl_10, by decide, tw_808, Or.inl rfl⟩
theorem fl_X9_41_10 : ab_fl RX9 41 10 13 (.array .int) true := ⟨RX9, TX9, 41, tyX9, "WaterMenModel", cl_10, by decide, by decide +kernel, rfl, fun _ => rfl, tw_808, Or.inl rfl⟩
theorem tw_809 : Cond.fieldLink RX9 44 "WaterMenModel" "loads" "[I" ∈ ab_T := ab_T_in (i := 809) (by decide +kernel) (by decide +kernel)
theorem fg_X9_44_10 : ab_fg RX9 44 10 14 := ⟨RX9, TX9, 41, tyX9, "WaterMenModel", cl_10, by decide, tw_809, Or.inl rfl⟩
theorem fl_X9_44_10 : ab_fl RX9 44 10 14 (.array .int) true := ⟨RX9, TX9, 41, tyX9, "WaterMenModel", cl_10, by decide, by decide +kernel, rfl, fun _ => rfl, tw_809, Or.inl rfl⟩
theorem tw_810 : Cond.fieldLink RX9 47 "WaterMenModel" "ofFountain" "[I" ∈ ab_T := ab_T_in (i := 810) (by decide +kernel) (by decide +kernel)
theorem fg_X9_47_10 : ab_fg RX9 47 10 15 := ⟨RX9, TX9, 41, tyX9, "WaterMenModel", cl_10, by decide, tw_810, Or.inl rfl⟩
theorem fl_X9_47_10 : ab_fl RX9 47 10 15 (.array .int) true := ⟨RX9, TX9, 41, tyX9, "WaterMenModel", cl_10, by decide, by decide +kernel, rfl, fun _ => rfl, tw_810, Or.inl rfl⟩
theorem tw_811 : Cond.fieldLink RX9 50 "WaterMenModel" "ofJar" "[I" ∈ ab_T := ab_T_in (i := 811) (by decide +kernel) (by decide +kernel)
theorem fg_X9_50_10 : ab_fg RX9 50 10 16 := ⟨RX9, TX9, 41, tyX9, "WaterMenModel", cl_10, by decide, tw_811, Or.inl rfl⟩
theorem fl_X9_50_10 : ab_fl RX9 50 10 16 (.array .int) true := ⟨RX9, TX9, 41, tyX9, "WaterMenModel", cl_10, by decide, by decide +kernel, rfl, fun _ => rfl, tw_811, Or.inl rfl⟩
theorem tw_812 : Cond.fieldLink RX9 53 "WaterMenModel" "rights" "[I" ∈ ab_T := ab_T_in (i := 812) (by decide +kernel) (by decide +kernel)
theorem fg_X9_53_10 : ab_fg RX9 53 10 17 := ⟨RX9, TX9, 41, tyX9, "WaterMenModel", cl_10, by decide, tw_812, Or.inl rfl⟩
theorem fl_X9_53_10 : ab_fl RX9 53 10 17 (.array .int) true := ⟨RX9, TX9, 41, tyX9, "WaterMenModel", cl_10, by decide, by decide +kernel, rfl, fun _ => rfl, tw_812, Or.inl rfl⟩
theorem tw_813 : Cond.fieldLink RX9 56 "WaterMenModel" "paces" "[I" ∈ ab_T := ab_T_in (i := 813) (by decide +kernel) (by decide +kernel)
theorem fg_X9_56_10 : ab_fg RX9 56 10 18 := ⟨RX9, TX9, 41, tyX9, "WaterMenModel", cl_10, by decide, tw_813, Or.inl rfl⟩
theorem fl_X9_56_10 : ab_fl RX9 56 10 18 (.array .int) true := ⟨RX9, TX9, 41, tyX9, "WaterMenModel", cl_10, by decide, by decide +kernel, rfl, fun _ => rfl, tw_813, Or.inl rfl⟩
theorem tw_814 : Cond.fieldLink RX9 59 "WaterMenModel" "does" "[I" ∈ ab_T := ab_T_in (i := 814) (by decide +kernel) (by decide +kernel)
theorem fg_X9_59_10 : ab_fg RX9 59 10 19 := ⟨RX9, TX9, 41, tyX9, "WaterMenModel", cl_10, by decide, tw_814, Or.inl rfl⟩
theorem fl_X9_59_10 : ab_fl RX9 59 10 19 (.array .int) true := ⟨RX9, TX9, 41, tyX9, "WaterMenModel", cl_10, by decide, by decide +kernel, rfl, fun _ => rfl, tw_814, Or.inl rfl⟩
theorem tw_815 : Cond.fieldLink RX9 62 "WaterMenModel" "toGo" "[I" ∈ ab_T := ab_T_in (i := 815) (by decide +kernel) (by decide +kernel)
theorem fg_X9_62_10 : ab_fg RX9 62 10 20 := ⟨RX9, TX9, 41, tyX9, "WaterMenModel", cl_10, by decide, tw_815, Or.inl rfl⟩
theorem fl_X9_62_10 : ab_fl RX9 62 10 20 (.array .int) true := ⟨RX9, TX9, 41, tyX9, "WaterMenModel", cl_10, by decide, by decide +kernel, rfl, fun _ => rfl, tw_815, Or.inl rfl⟩
theorem tw_816 : Cond.fieldLink RX9 65 "WaterMenModel" "carries" "[I" ∈ ab_T := ab_T_in (i := 816) (by decide +kernel) (by decide +kernel)
theorem fg_X9_65_10 : ab_fg RX9 65 10 21 := ⟨RX9, TX9, 41, tyX9, "WaterMenModel", cl_10, by decide, tw_816, Or.inl rfl⟩
theorem fl_X9_65_10 : ab_fl RX9 65 10 21 (.array .int) true := ⟨RX9, TX9, 41, tyX9, "WaterMenModel", cl_10, by decide, by decide +kernel, rfl, fun _ => rfl, tw_816, Or.inl rfl⟩
theorem tw_817 : Cond.fieldLink RX9 68 "WaterMenModel" "earned" "[I" ∈ ab_T := ab_T_in (i := 817) (by decide +kernel) (by decide +kernel)
theorem fg_X9_68_10 : ab_fg RX9 68 10 22 := ⟨RX9, TX9, 41, tyX9, "WaterMenModel", cl_10, by decide, tw_817, Or.inl rfl⟩
theorem fl_X9_68_10 : ab_fl RX9 68 10 22 (.array .int) true := ⟨RX9, TX9, 41, tyX9, "WaterMenModel", cl_10, by decide, by decide +kernel, rfl, fun _ => rfl, tw_817, Or.inl rfl⟩
theorem tw_818 : Cond.fieldLink RX9 71 "WaterMenModel" "came" "[I" ∈ ab_T := ab_T_in (i := 818) (by decide +kernel) (by decide +kernel)
theorem fg_X9_71_10 : ab_fg RX9 71 10 23 := ⟨RX9, TX9, 41, tyX9, "WaterMenModel", cl_10, by decide, tw_818, Or.inl rfl⟩
theorem fl_X9_71_10 : ab_fl RX9 71 10 23 (.array .int) true := ⟨RX9, TX9, 41, tyX9, "WaterMenModel", cl_10, by decide, by decide +kernel, rfl, fun _ => rfl, tw_818, Or.inl rfl⟩
theorem tw_819 : Cond.fieldLink RX9 74 "WaterMenModel" "filledAt" "[I" ∈ ab_T := ab_T_in (i := 819) (by decide +kernel) (by decide +kernel)
theorem fg_X9_74_10 : ab_fg RX9 74 10 24 := ⟨RX9, TX9, 41, tyX9, "WaterMenModel", cl_10, by decide, tw_819, Or.inl rfl⟩
theorem fl_X9_74_10 : ab_fl RX9 74 10 24 (.array .int) true := ⟨RX9, TX9, 41, tyX9, "WaterMenModel", cl_10, by decide, by decide +kernel, rfl, fun _ => rfl, tw_819, Or.inl rfl⟩
theorem tw_820 : Cond.fieldLink RX9 77 "WaterMenModel" "filledWhen" "[I" ∈ ab_T := ab_T_in (i := 820) (by decide +kernel) (by decide +kernel)
theorem fg_X9_77_10 : ab_fg RX9 77 10 25 := ⟨RX9, TX9, 41, tyX9, "WaterMenModel", cl_10, by decide, tw_820, Or.inl rfl⟩
theorem fl_X9_77_10 : ab_fl RX9 77 10 25 (.array .int) true := ⟨RX9, TX9, 41, tyX9, "WaterMenModel", cl_10, by decide, by decide +kernel, rfl, fun _ => rfl, tw_820, Or.inl rfl⟩
theorem tw_821 : Cond.fieldLink RX9 133 "WaterMenModel" "coming" "I" ∈ ab_T := ab_T_in (i := 821) (by decide +kernel) (by decide +kernel)
theorem fg_X9_133_10 : ab_fg RX9 133 10 26 := ⟨RX9, TX9, 41, tyX9, "WaterMenModel", cl_10, by decide, tw_821, Or.inl rfl⟩
theorem fl_X9_133_10 : ab_fl RX9 133 10 26 (.int) false := ⟨RX9, TX9, 41, tyX9, "WaterMenModel", cl_10, by decide, by decide +kernel, rfl, (fun h => by cases h), tw_821, Or.inl rfl⟩
theorem tw_822 : Cond.fieldLink RX9 80 "WaterMenModel" "part" "I" ∈ ab_T := ab_T_in (i := 822) (by decide +kernel) (by decide +kernel)
theorem fg_X9_80_10 : ab_fg RX9 80 10 27 := ⟨RX9, TX9, 41, tyX9, "WaterMenModel", cl_10, by decide, tw_822, Or.inl rfl⟩
theorem fl_X9_80_10 : ab_fl RX9 80 10 27 (.int) false := ⟨RX9, TX9, 41, tyX9, "WaterMenModel", cl_10, by decide, by decide +kernel, rfl, (fun h => by cases h), tw_822, Or.inl rfl⟩
theorem tw_823 : Cond.fieldLink RX9 178 "WaterMenModel" "time" "I" ∈ ab_T := ab_T_in (i := 823) (by decide +kernel) (by decide +kernel)
theorem fg_X9_178_10 : ab_fg RX9 178 10 28 := ⟨RX9, TX9, 41, tyX9, "WaterMenModel", cl_10, by decide, tw_823, Or.inl rfl⟩
theorem fl_X9_178_10 : ab_fl RX9 178 10 28 (.int) false := ⟨RX9, TX9, 41, tyX9, "WaterMenModel", cl_10, by decide, by decide +kernel, rfl, (fun h => by cases h), tw_823, Or.inl rfl⟩
theorem tw_824 : Cond.fieldLink RX9 84 "WaterMenModel" "sums" "[J" ∈ ab_T := ab_T_in (i := 824) (by decide +kernel) (by decide +kernel)
theorem fg_X9_84_10 : ab_fg RX9 84 10 29 := ⟨RX9, TX9, 41, tyX9, "WaterMenModel", cl_10, by decide, tw_824, Or.inl rfl⟩
theorem fl_X9_84_10 : ab_fl RX9 84 10 29 (.array .long) true := ⟨RX9, TX9, 41, tyX9, "WaterMenModel", cl_10, by decide, by decide +kernel, rfl, fun _ => rfl, tw_824, Or.inl rfl⟩
theorem tw_825 : Cond.fieldLink RX9 88 "WaterMenModel" "tape" "[I" ∈ ab_T := ab_T_in (i := 825) (by decide +kernel) (by decide +kernel)
theorem fg_X9_88_10 : ab_fg RX9 88 10 30 := ⟨RX9, TX9, 41, tyX9, "WaterMenModel", cl_10, by decide, tw_825, Or.inl rfl⟩
theorem fl_X9_88_10 : ab_fl RX9 88 10 30 (.array .int) true := ⟨RX9, TX9, 41, tyX9, "WaterMenModel", cl_10, by decide, by decide +kernel, rfl, fun _ => rfl, tw_825, Or.inl rfl⟩
theorem tw_826 : Cond.fieldLink RX9 151 "WaterMenModel" "taped" "I" ∈ ab_T := ab_T_in (i := 826) (by decide +kernel) (by decide +kernel)
theorem fg_X9_151_10 : ab_fg RX9 151 10 31 := ⟨RX9, TX9, 41, tyX9, "WaterMenModel", cl_10, by decide, tw_826, Or.inl rfl⟩
theorem fl_X9_151_10 : ab_fl RX9 151 10 31 (.int) false := ⟨RX9, TX9, 41, tyX9, "WaterMenModel", cl_10, by decide, by decide +kernel, rfl, (fun h => by cases h), tw_826, Or.inl rfl⟩
theorem tw_827 : Cond.fieldLink RX9 154 "WaterMenModel" "at" "I" ∈ ab_T := ab_T_in (i := 827) (by decide +kernel) (by decide +kernel)
theorem fg_X9_154_10 : ab_fg RX9 154 10 32 := ⟨RX9, TX9, 41, tyX9, "WaterMenModel", cl_10, by decide, tw_827, Or.inl rfl⟩
theorem fl_X9_154_10 : ab_fl RX9 154 10 32 (.int) false := ⟨RX9, TX9, 41, tyX9, "WaterMenModel", cl_10, by decide, by decide +kernel, rfl, (fun h => by cases h), tw_827, Or.inl rfl⟩
theorem tw_828 : Cond.fieldLink RX9 91 "WaterMenModel" "prices" "[I" ∈ ab_T := ab_T_in (i := 828) (by decide +kernel) (by decide +kernel)
theorem fg_X9_91_10 : ab_fg RX9 91 10 33 := ⟨RX9, TX9, 41, tyX9, "WaterMenModel", cl_10, by decide, tw_828, Or.inl rfl⟩
theorem fl_X9_91_10 : ab_fl RX9 91 10 33 (.array .int) true := ⟨RX9, TX9, 41, tyX9, "WaterMenModel", cl_10, by decide, by decide +kernel, rfl, fun _ => rfl, tw_828, Or.inl rfl⟩
theorem tw_829 : Cond.fieldLink RX9 94 "WaterMenModel" "readPrices" "[I" ∈ ab_T := ab_T_in (i := 829) (by decide +kernel) (by decide +kernel)
theorem fg_X9_94_10 : ab_fg RX9 94 10 34 := ⟨RX9, TX9, 41, tyX9, "WaterMenModel", cl_10, by decide, tw_829, Or.inl rfl⟩
theorem fl_X9_94_10 : ab_fl RX9 94 10 34 (.array .int) true := ⟨RX9, TX9, 41, tyX9, "WaterMenModel", cl_10, by decide, by decide +kernel, rfl, fun _ => rfl, tw_829, Or.inl rfl⟩
theorem tw_830 : Cond.fieldLink RX9 185 "WaterMenModel" "pourings" "I" ∈ ab_T := ab_T_in (i := 830) (by decide +kernel) (by decide +kernel)
theorem fg_X9_185_10 : ab_fg RX9 185 10 35 := ⟨RX9, TX9, 41, tyX9, "WaterMenModel", cl_10, by decide, tw_830, Or.inl rfl⟩
theorem fl_X9_185_10 : ab_fl RX9 185 10 35 (.int) false := ⟨RX9, TX9, 41, tyX9, "WaterMenModel", cl_10, by decide, by decide +kernel, rfl, (fun h => by cases h), tw_830, Or.inl rfl⟩
theorem tw_831 : Cond.fieldLink RX9 97 "WaterMenModel" "kept" "[I" ∈ ab_T := ab_T_in (i := 831) (by decide +kernel) (by decide +kernel)
theorem fg_X9_97_10 : ab_fg RX9 97 10 36 := ⟨RX9, TX9, 41, tyX9, "WaterMenModel", cl_10, by decide, tw_831, Or.inl rfl⟩
theorem fl_X9_97_10 : ab_fl RX9 97 10 36 (.array .int) true := ⟨RX9, TX9, 41, tyX9, "WaterMenModel", cl_10, by decide, by decide +kernel, rfl, fun _ => rfl, tw_831, Or.inl rfl⟩
theorem tw_832 : Cond.fieldLink RX9 100 "WaterMenModel" "going" "[Z" ∈ ab_T := ab_T_in (i := 832) (by decide +kernel) (by decide +kernel)
theorem fg_X9_100_10 : ab_fg RX9 100 10 37 := ⟨RX9, TX9, 41, tyX9, "WaterMenModel", cl_10, by decide, tw_832, Or.inl rfl⟩
theorem fl_X9_100_10 : ab_fl RX9 100 10 37 (.array .boolean) true := ⟨RX9, TX9, 41, tyX9, "WaterMenModel", cl_10, by decide, by decide +kernel, rfl, fun _ => rfl, tw_832, Or.inl rfl⟩
theorem tw_833 : Cond.fieldLink RX9 103 "WaterMenModel" "toils" "[I" ∈ ab_T := ab_T_in (i := 833) (by decide +kernel) (by decide +kernel)
theorem fg_X9_103_10 : ab_fg RX9 103 10 38 := ⟨RX9, TX9, 41, tyX9, "WaterMenModel", cl_10, by decide, tw_833, Or.inl rfl⟩
theorem fl_X9_103_10 : ab_fl RX9 103 10 38 (.array .int) true := ⟨RX9, TX9, 41, tyX9, "WaterMenModel", cl_10, by decide, by decide +kernel, rfl, fun _ => rfl, tw_833, Or.inl rfl⟩
theorem tw_834 : Cond.fieldLink RX9 106 "WaterMenModel" "choices" "[I" ∈ ab_T := ab_T_in (i := 834) (by decide +kernel) (by decide +kernel)
theorem fg_X9_106_10 : ab_fg RX9 106 10 39 := ⟨RX9, TX9, 41, tyX9, "WaterMenModel", cl_10, by decide, tw_834, Or.inl rfl⟩
theorem fl_X9_106_10 : ab_fl RX9 106 10 39 (.array .int) true := ⟨RX9, TX9, 41, tyX9, "WaterMenModel", cl_10, by decide, by decide +kernel, rfl, fun _ => rfl, tw_834, Or.inl rfl⟩
theorem tw_835 : Cond.fieldLink RX9 109 "WaterMenModel" "toJar" "[I" ∈ ab_T := ab_T_in (i := 835) (by decide +kernel) (by decide +kernel)
theorem fg_X9_109_10 : ab_fg RX9 109 10 40 := ⟨RX9, TX9, 41, tyX9, "WaterMenModel", cl_10, by decide, tw_835, Or.inl rfl⟩
theorem fl_X9_109_10 : ab_fl RX9 109 10 40 (.array .int) true := ⟨RX9, TX9, 41, tyX9, "WaterMenModel", cl_10, by decide, by decide +kernel, rfl, fun _ => rfl, tw_835, Or.inl rfl⟩
theorem tw_40 : Cond.initialized "WaterMenLaw" ∈ ab_T := ab_T_in (i := 40) (by decide +kernel) (by decide +kernel)
theorem tw_41 : Cond.initialized RX8 ∈ ab_T := ab_T_in (i := 41) (by decide +kernel) (by decide +kernel)
theorem tw_42 : Cond.initialized RJxa1e45 ∈ ab_T := ab_T_in (i := 42) (by decide +kernel) (by decide +kernel)
theorem tw_43 : Cond.initialized RJxc12de ∈ ab_T := ab_T_in (i := 43) (by decide +kernel) (by decide +kernel)
theorem tw_44 : Cond.initialized RJx4a65c ∈ ab_T := ab_T_in (i := 44) (by decide +kernel) (by decide +kernel)
theorem tw_45 : Cond.initialized RX1 ∈ ab_T := ab_T_in (i := 45) (by decide +kernel) (by decide +kernel)
theorem tw_46 : Cond.initialized RJ7 ∈ ab_T := ab_T_in (i := 46) (by decide +kernel) (by decide +kernel)
theorem tw_47 : Cond.initialized RX6 ∈ ab_T := ab_T_in (i := 47) (by decide +kernel) (by decide +kernel)
theorem tw_48 : Cond.initialized RX3 ∈ ab_T := ab_T_in (i := 48) (by decide +kernel) (by decide +kernel)
theorem tw_49 : Cond.initialized RX9 ∈ ab_T := ab_T_in (i := 49) (by decide +kernel) (by decide +kernel)
theorem tw_50 : Cond.initialized RX2 ∈ ab_T := ab_T_in (i := 50) (by decide +kernel) (by decide +kernel)
theorem tw_51 : Cond.initialized RJ8 ∈ ab_T := ab_T_in (i := 51) (by decide +kernel) (by decide +kernel)
theorem tw_52 : Cond.initialized RJ9 ∈ ab_T := ab_T_in (i := 52) (by decide +kernel) (by decide +kernel)
theorem tw_53 : Cond.initialized RJ10 ∈ ab_T := ab_T_in (i := 53) (by decide +kernel) (by decide +kernel)
theorem tw_54 : Cond.initialized RX4 ∈ ab_T := ab_T_in (i := 54) (by decide +kernel) (by decide +kernel)
theorem tw_55 : Cond.initialized RJ15 ∈ ab_T := ab_T_in (i := 55) (by decide +kernel) (by decide +kernel)
theorem tw_56 : Cond.initialized RJ3 ∈ ab_T := ab_T_in (i := 56) (by decide +kernel) (by decide +kernel)
theorem tw_57 : Cond.initialized RX5 ∈ ab_T := ab_T_in (i := 57) (by decide +kernel) (by decide +kernel)
theorem tw_58 : Cond.initialized RX7 ∈ ab_T := ab_T_in (i := 58) (by decide +kernel) (by decide +kernel)
theorem tw_59 : Cond.initialized RX0 ∈ ab_T := ab_T_in (i := 59) (by decide +kernel) (by decide +kernel)
theorem tw_60 : Cond.initialized RJ6 ∈ ab_T := ab_T_in (i := 60) (by decide +kernel) (by decide +kernel)
theorem tw_61 : Cond.classLink "WaterMenLaw" 7 RX8 ∈ ab_T := ab_T_in (i := 61) (by decide +kernel) (by decide +kernel)
theorem tw_62 : Cond.instantiable RX8 9 ∈ ab_T := ab_T_in (i := 62) (by decide +kernel) (by decide +kernel)
theorem tw_65 : Cond.code yX8_init cX8_init 1 none ∈ ab_T := ab_T_in (i := 65) (by decide +kernel) (by decide +kernel)
theorem pm_X8_init : ab_pm Y_X8_init 0 := ⟨⟨by decide +kernel, by decide +kernel⟩, by decide +kernel, tw_65, tw_41⟩
theorem tw_63 : Cond.methodLink "WaterMenLaw" 9 yX8_init ∈ ab_T := ab_T_in (i := 63) (by decide +kernel) (by decide +kernel)
theorem tw_64 : Cond.instanceMethod yX8_init ∈ ab_T := ab_T_in (i := 64) (by decide +kernel) (by decide +kernel)
theorem cs_L_9 : ab_cI "WaterMenLaw" 9 Y_X8_init 0 := ⟨pm_X8_init, tw_63, tw_64, rfl, rfl⟩
theorem tw_66 : Cond.methodLink RX8 1 objectInit ∈ ab_T := ab_T_in (i := 66) (by decide +kernel) (by decide +kernel)
theorem tw_69 : Cond.classLink RX8 7 RJx4a65c ∈ ab_T := ab_T_in (i := 69) (by decide +kernel) (by decide +kernel)
theorem tw_70 : Cond.instantiable RJx4a65c 3 ∈ ab_T := ab_T_in (i := 70) (by decide +kernel) (by decide +kernel)
theorem tw_73 : Cond.code yJx4a65c_init_da8c8 cJx4a65c_init_da8c8 1 none ∈ ab_T := ab_T_in (i := 73) (by decide +kernel) (by decide +kernel)
theorem pm_Jx4a65c_init_da8c8 : ab_pm Y_Jx4a65c_init_da8c8 0 := ⟨⟨by decide +kernel, by decide +kernel⟩, by decide +kernel, tw_73, tw_44⟩
theorem tw_71 : Cond.methodLink RX8 9 yJx4a65c_init_da8c8 ∈ ab_T := ab_T_in (i := 71) (by decide +kernel) (by decide +kernel)
theorem tw_72 : Cond.instanceMethod yJx4a65c_init_da8c8 ∈ ab_T := ab_T_in (i := 72) (by decide +kernel) (by decide +kernel)
theorem cs_X8_9 : ab_cI RX8 9 Y_Jx4a65c_init_da8c8 0 := ⟨pm_Jx4a65c_init_da8c8, tw_71, tw_72, rfl, rfl⟩
theorem tw_76 : Cond.code yJxc12de_init_da8c8 cJxc12de_init_da8c8 1 none ∈ ab_T := ab_T_in (i := 76) (by decide +kernel) (by decide +kernel)
theorem pm_Jxc12de_init_da8c8 : ab_pm Y_Jxc12de_init_da8c8 0 := ⟨⟨by decide +kernel, by decide +kernel⟩, by decide +kernel, tw_76, tw_43⟩
theorem tw_74 : Cond.methodLink RJx4a65c 1 yJxc12de_init_da8c8 ∈ ab_T := ab_T_in (i := 74) (by decide +kernel) (by decide +kernel)
theorem tw_75 : Cond.instanceMethod yJxc12de_init_da8c8 ∈ ab_T := ab_T_in (i := 75) (by decide +kernel) (by decide +kernel)
theorem cs_Jx4a65c_1 : ab_cI RJx4a65c 1 Y_Jxc12de_init_da8c8 0 := ⟨pm_Jxc12de_init_da8c8, tw_74, tw_75, rfl, rfl⟩
theorem tw_79 : Cond.code yJxa1e45_init_da8c8 cJxa1e45_init_da8c8 1 none ∈ ab_T := ab_T_in (i := 79) (by decide +kernel) (by decide +kernel)
theorem pm_Jxa1e45_init_da8c8 : ab_pm Y_Jxa1e45_init_da8c8 0 := ⟨⟨by decide +kernel, by decide +kernel⟩, by decide +kernel, tw_79, tw_42⟩
theorem tw_77 : Cond.methodLink RJxc12de 1 yJxa1e45_init_da8c8 ∈ ab_T := ab_T_in (i := 77) (by decide +kernel) (by decide +kernel)
theorem tw_78 : Cond.instanceMethod yJxa1e45_init_da8c8 ∈ ab_T := ab_T_in (i := 78) (by decide +kernel) (by decide +kernel)
theorem cs_Jxc12de_1 : ab_cI RJxc12de 1 Y_Jxa1e45_init_da8c8 0 := ⟨pm_Jxa1e45_init_da8c8, tw_77, tw_78, rfl, rfl⟩
theorem tw_80 : Cond.methodLink RJxa1e45 1 objectInit ∈ ab_T := ab_T_in (i := 80) (by decide +kernel) (by decide +kernel)
theorem tw_95 : Cond.classLink RX8 22 RX1 ∈ ab_T := ab_T_in (i := 95) (by decide +kernel) (by decide +kernel)
theorem tw_96 : Cond.instantiable RX1 5 ∈ ab_T := ab_T_in (i := 96) (by decide +kernel) (by decide +kernel)
theorem tw_99 : Cond.code yX1_init cX1_init 1 none ∈ ab_T := ab_T_in (i := 99) (by decide +kernel) (by decide +kernel)
theorem pm_X1_init : ab_pm Y_X1_init 0 := ⟨⟨by decide +kernel, by decide +kernel⟩, by decide +kernel, tw_99, tw_45⟩
theorem tw_97 : Cond.methodLink RX8 24 yX1_init ∈ ab_T := ab_T_in (i := 97) (by decide +kernel) (by decide +kernel)
theorem tw_98 : Cond.instanceMethod yX1_init ∈ ab_T := ab_T_in (i := 98) (by decide +kernel) (by decide +kernel)
theorem cs_X8_24 : ab_cI RX8 24 Y_X1_init 0 := ⟨pm_X1_init, tw_97, tw_98, rfl, rfl⟩
theorem tw_100 : Cond.methodLink RX1 3 objectInit ∈ ab_T := ab_T_in (i := 100) (by decide +kernel) (by decide +kernel)
theorem tw_103 : Cond.code yJ7_fill_53178 cJ7_fill_53178 4 none ∈ ab_T := ab_T_in (i := 103) (by decide +kernel) (by decide +kernel)
theorem pm_J7_fill_53178 : ab_pm Y_J7_fill_53178 2 := ⟨⟨by decide +kernel, by decide +kernel⟩, by decide +kernel, tw_103, tw_46⟩
theorem tw_101 : Cond.methodLink RX1 28 yJ7_fill_53178 ∈ ab_T := ab_T_in (i := 101) (by decide +kernel) (by decide +kernel)
theorem tw_102 : Cond.static yJ7_fill_53178 ∈ ab_T := ab_T_in (i := 102) (by decide +kernel) (by decide +kernel)
theorem cs_X1_28 : ab_cS RX1 28 Y_J7_fill_53178 2 := ⟨pm_J7_fill_53178, tw_101, tw_102⟩
theorem tw_120 : Cond.arrayClass .int ∈ ab_T := ab_T_in (i := 120) (by decide +kernel) (by decide +kernel)
theorem tw_121 : Cond.classLink RX8 29 RX6 ∈ ab_T := ab_T_in (i := 121) (by decide +kernel) (by decide +kernel)
theorem tw_122 : Cond.instantiable RX6 3 ∈ ab_T := ab_T_in (i := 122) (by decide +kernel) (by decide +kernel)
theorem tw_125 : Cond.code yX6_init cX6_init 1 none ∈ ab_T := ab_T_in (i := 125) (by decide +kernel) (by decide +kernel)
theorem pm_X6_init : ab_pm Y_X6_init 0 := ⟨⟨by decide +kernel, by decide +kernel⟩, by decide +kernel, tw_125, tw_47⟩
theorem tw_124 : Cond.instanceMethod yX6_init ∈ ab_T := ab_T_in (i := 124) (by decide +kernel) (by decide +kernel)
theorem cs_X8_31 : ab_cJ RX8 31 Y_X6_init 0 := ⟨pm_X6_init, ⟨"WaterMen", ab_nest_in (i := 123) (by decide +kernel) rfl⟩, tw_124, rfl, rfl⟩
theorem tw_126 : Cond.methodLink RX6 3 objectInit ∈ ab_T := ab_T_in (i := 126) (by decide +kernel) (by decide +kernel)
theorem tw_138 : Cond.classLink RX8 36 RX3 ∈ ab_T := ab_T_in (i := 138) (by decide +kernel) (by decide +kernel)
theorem tw_139 : Cond.instantiable RX3 3 ∈ ab_T := ab_T_in (i := 139) (by decide +kernel) (by decide +kernel)
theorem tw_142 : Cond.code yX3_init cX3_init 1 none ∈ ab_T := ab_T_in (i := 142) (by decide +kernel) (by decide +kernel)
theorem pm_X3_init : ab_pm Y_X3_init 0 := ⟨⟨by decide +kernel, by decide +kernel⟩, by decide +kernel, tw_142, tw_48⟩
theorem tw_140 : Cond.methodLink RX8 38 yX3_init ∈ ab_T := ab_T_in (i := 140) (by decide +kernel) (by decide +kernel)
theorem tw_141 : Cond.instanceMethod yX3_init ∈ ab_T := ab_T_in (i := 141) (by decide +kernel) (by decide +kernel)
theorem cs_X8_38 : ab_cI RX8 38 Y_X3_init 0 := ⟨pm_X3_init, tw_140, tw_141, rfl, rfl⟩
theorem tw_143 : Cond.methodLink RX3 3 objectInit ∈ ab_T := ab_T_in (i := 143) (by decide +kernel) (by decide +kernel)
theorem tw_144 : Cond.methodLink RX3 21 yJ7_fill_53178 ∈ ab_T := ab_T_in (i := 144) (by decide +kernel) (by decide +kernel)
theorem cs_X3_21 : ab_cS RX3 21 Y_J7_fill_53178 2 := ⟨pm_J7_fill_53178, tw_144, tw_102⟩
theorem tw_183 : Cond.arrayClass .long ∈ ab_T := ab_T_in (i := 183) (by decide +kernel) (by decide +kernel)
theorem tw_187 : Cond.code yX8_fountain cX8_fountain 3 (some .int) ∈ ab_T := ab_T_in (i := 187) (by decide +kernel) (by decide +kernel)
theorem pm_X8_fountain : ab_pm Y_X8_fountain 1 := ⟨⟨by decide +kernel, by decide +kernel⟩, by decide +kernel, tw_187, tw_41⟩
theorem tw_184 : Cond.methodLink "WaterMenLaw" 13 yX8_fountain ∈ ab_T := ab_T_in (i := 184) (by decide +kernel) (by decide +kernel)
theorem tw_186 : Cond.selects RX8 yX8_fountain yX8_fountain ∈ ab_T := ab_T_in (i := 186) (by decide +kernel) (by decide +kernel)
theorem tw_185 : Cond.instanceMethod yX8_fountain ∈ ab_T := ab_T_in (i := 185) (by decide +kernel) (by decide +kernel)
theorem cs_L_13_9 : ab_cV "WaterMenLaw" 13 9 Y_X8_fountain 1 := ⟨pm_X8_fountain, RX8, TX8, 9, rfl, Or.inl ⟨rfl, tw_184, tw_185, tw_186⟩⟩
theorem tw_190 : Cond.code yX8_outside cX8_outside 3 (some .boolean) ∈ ab_T := ab_T_in (i := 190) (by decide +kernel) (by decide +kernel)
theorem pm_X8_outside : ab_pm Y_X8_outside 3 := ⟨⟨by decide +kernel, by decide +kernel⟩, by decide +kernel, tw_190, tw_41⟩
theorem tw_188 : Cond.methodLink RX8 54 yX8_outside ∈ ab_T := ab_T_in (i := 188) (by decide +kernel) (by decide +kernel)
theorem tw_189 : Cond.static yX8_outside ∈ ab_T := ab_T_in (i := 189) (by decide +kernel) (by decide +kernel)
theorem cs_X8_54 : ab_cS RX8 54 Y_X8_outside 3 := ⟨pm_X8_outside, tw_188, tw_189⟩
theorem tw_194 : Cond.code yJx4a65c_isEmpty_aae02 cJx4a65c_isEmpty_aae02 1 (some .boolean) ∈ ab_T := ab_T_in (i := 194) (by decide +kernel) (by decide +kernel)
theorem pm_Jx4a65c_isEmpty_aae02 : ab_pm Y_Jx4a65c_isEmpty_aae02 0 := ⟨⟨by decide +kernel, by decide +kernel⟩, by decide +kernel, tw_194, tw_44⟩
theorem tw_191 : Cond.methodLink RX8 58 yJx4a65c_isEmpty_aae02 ∈ ab_T := ab_T_in (i := 191) (by decide +kernel) (by decide +kernel)
theorem tw_193 : Cond.selects RJx4a65c yJx4a65c_isEmpty_aae02 yJx4a65c_isEmpty_aae02 ∈ ab_T := ab_T_in (i := 193) (by decide +kernel) (by decide +kernel)
theorem tw_192 : Cond.instanceMethod yJx4a65c_isEmpty_aae02 ∈ ab_T := ab_T_in (i := 192) (by decide +kernel) (by decide +kernel)
theorem cs_X8_58_0 : ab_cV RX8 58 0 Y_Jx4a65c_isEmpty_aae02 0 := ⟨pm_Jx4a65c_isEmpty_aae02, RJx4a65c, TJx4a65c, 3, rfl, Or.inl ⟨rfl, tw_191, tw_192, tw_193⟩⟩
theorem tw_198 : Cond.code yJx4a65c_size_8abf5 cJx4a65c_size_8abf5 1 (some .int) ∈ ab_T := ab_T_in (i := 198) (by decide +kernel) (by decide +kernel)
theorem pm_Jx4a65c_size_8abf5 : ab_pm Y_Jx4a65c_size_8abf5 0 := ⟨⟨by decide +kernel, by decide +kernel⟩, by decide +kernel, tw_198, tw_44⟩
theorem tw_195 : Cond.methodLink RX8 62 yJx4a65c_size_8abf5 ∈ ab_T := ab_T_in (i := 195) (by decide +kernel) (by decide +kernel)
theorem tw_197 : Cond.selects RJx4a65c yJx4a65c_size_8abf5 yJx4a65c_size_8abf5 ∈ ab_T := ab_T_in (i := 197) (by decide +kernel) (by decide +kernel)
theorem tw_196 : Cond.instanceMethod yJx4a65c_size_8abf5 ∈ ab_T := ab_T_in (i := 196) (by decide +kernel) (by decide +kernel)
theorem cs_X8_62_0 : ab_cV RX8 62 0 Y_Jx4a65c_size_8abf5 0 := ⟨pm_Jx4a65c_size_8abf5, RJx4a65c, TJx4a65c, 3, rfl, Or.inl ⟨rfl, tw_195, tw_196, tw_197⟩⟩
theorem tw_199 : Cond.classLink RX8 66 RX2 ∈ ab_T := ab_T_in (i := 199) (by decide +kernel) (by decide +kernel)
theorem tw_200 : Cond.instantiable RX2 6 ∈ ab_T := ab_T_in (i := 200) (by decide +kernel) (by decide +kernel)
theorem tw_203 : Cond.code yX2_init cX2_init 3 none ∈ ab_T := ab_T_in (i := 203) (by decide +kernel) (by decide +kernel)
theorem pm_X2_init : ab_pm Y_X2_init 2 := ⟨⟨by decide +kernel, by decide +kernel⟩, by decide +kernel, tw_203, tw_50⟩
theorem tw_201 : Cond.methodLink RX8 68 yX2_init ∈ ab_T := ab_T_in (i := 201) (by decide +kernel) (by decide +kernel)
theorem tw_202 : Cond.instanceMethod yX2_init ∈ ab_T := ab_T_in (i := 202) (by decide +kernel) (by decide +kernel)
theorem cs_X8_68 : ab_cI RX8 68 Y_X2_init 2 := ⟨pm_X2_init, tw_201, tw_202, rfl, rfl⟩
theorem tw_204 : Cond.methodLink RX2 1 objectInit ∈ ab_T := ab_T_in (i := 204) (by decide +kernel) (by decide +kernel)
theorem tw_205 : Cond.classLink RX2 7 RJx4a65c ∈ ab_T := ab_T_in (i := 205) (by decide +kernel) (by decide +kernel)
theorem tw_206 : Cond.methodLink RX2 9 yJx4a65c_init_da8c8 ∈ ab_T := ab_T_in (i := 206) (by decide +kernel) (by decide +kernel)
theorem cs_X2_9 : ab_cI RX2 9 Y_Jx4a65c_init_da8c8 0 := ⟨pm_Jx4a65c_init_da8c8, tw_206, tw_72, rfl, rfl⟩
theorem tw_236 : Cond.code yJx4a65c_add_9ea2d cJx4a65c_add_9ea2d 2 (some .boolean) ∈ ab_T := ab_T_in (i := 236) (by decide +kernel) (by decide +kernel)
theorem pm_Jx4a65c_add_9ea2d : ab_pm Y_Jx4a65c_add_9ea2d 1 := ⟨⟨by decide +kernel, by decide +kernel⟩, by decide +kernel, tw_236, tw_44⟩
theorem tw_233 : Cond.methodLink RX8 71 yJx4a65c_add_9ea2d ∈ ab_T := ab_T_in (i := 233) (by decide +kernel) (by decide +kernel)
theorem tw_235 : Cond.selects RJx4a65c yJx4a65c_add_9ea2d yJx4a65c_add_9ea2d ∈ ab_T := ab_T_in (i := 235) (by decide +kernel) (by decide +kernel)
theorem tw_234 : Cond.instanceMethod yJx4a65c_add_9ea2d ∈ ab_T := ab_T_in (i := 234) (by decide +kernel) (by decide +kernel)
theorem cs_X8_71_0 : ab_cV RX8 71 0 Y_Jx4a65c_add_9ea2d 1 := ⟨pm_Jx4a65c_add_9ea2d, RJx4a65c, TJx4a65c, 3, rfl, Or.inl ⟨rfl, tw_233, tw_234, tw_235⟩⟩
theorem tw_240 : Cond.code yJx4a65c_add_72be8 cJx4a65c_add_72be8 4 none ∈ ab_T := ab_T_in (i := 240) (by decide +kernel) (by decide +kernel)
theorem pm_Jx4a65c_add_72be8 : ab_pm Y_Jx4a65c_add_72be8 3 := ⟨⟨by decide +kernel, by decide +kernel⟩, by decide +kernel, tw_240, tw_44⟩
theorem tw_237 : Cond.methodLink RJx4a65c 131 yJx4a65c_add_72be8 ∈ ab_T := ab_T_in (i := 237) (by decide +kernel) (by decide +kernel)
theorem tw_0 : Cond.selects RJx4a65c yJx4a65c_add_72be8 yJx4a65c_add_72be8 ∈ ab_T := ab_T_in (i := 0) (by decide +kernel) (by decide +kernel)
theorem tw_239 : Cond.instanceMethod yJx4a65c_add_72be8 ∈ ab_T := ab_T_in (i := 239) (by decide +kernel) (by decide +kernel)
theorem cs_Jx4a65c_131_0 : ab_cV RJx4a65c 131 0 Y_Jx4a65c_add_72be8 3 := ⟨pm_Jx4a65c_add_72be8, RJx4a65c, TJx4a65c, 3, rfl, Or.inl ⟨rfl, tw_237, tw_239, tw_0⟩⟩
theorem tw_244 : Cond.code yJx4a65c_grow_d5877 cJx4a65c_grow_d5877 1 (some (.array (.object "java/lang/Object"))) ∈ ab_T := ab_T_in (i := 244) (by decide +kernel) (by decide +kernel)
theorem pm_Jx4a65c_grow_d5877 : ab_pm Y_Jx4a65c_grow_d5877 0 := ⟨⟨by decide +kernel, by decide +kernel⟩, by decide +kernel, tw_244, tw_44⟩
theorem tw_241 : Cond.methodLink RJx4a65c 129 yJx4a65c_grow_d5877 ∈ ab_T := ab_T_in (i := 241) (by decide +kernel) (by decide +kernel)
theorem tw_1 : Cond.selects RJx4a65c yJx4a65c_grow_d5877 yJx4a65c_grow_d5877 ∈ ab_T := ab_T_in (i := 1) (by decide +kernel) (by decide +kernel)
theorem tw_243 : Cond.instanceMethod yJx4a65c_grow_d5877 ∈ ab_T := ab_T_in (i := 243) (by decide +kernel) (by decide +kernel)
theorem cs_Jx4a65c_129_0 : ab_cV RJx4a65c 129 0 Y_Jx4a65c_grow_d5877 0 := ⟨pm_Jx4a65c_grow_d5877, RJx4a65c, TJx4a65c, 3, rfl, Or.inl ⟨rfl, tw_241, tw_243, tw_1⟩⟩
theorem tw_248 : Cond.code yJx4a65c_grow_92f84 cJx4a65c_grow_92f84 4 (some (.array (.object "java/lang/Object"))) ∈ ab_T := ab_T_in (i := 248) (by decide +kernel) (by decide +kernel)
theorem pm_Jx4a65c_grow_92f84 : ab_pm Y_Jx4a65c_grow_92f84 1 := ⟨⟨by decide +kernel, by decide +kernel⟩, by decide +kernel, tw_248, tw_44⟩
theorem tw_245 : Cond.methodLink RJx4a65c 69 yJx4a65c_grow_92f84 ∈ ab_T := ab_T_in (i := 245) (by decide +kernel) (by decide +kernel)
theorem tw_2 : Cond.selects RJx4a65c yJx4a65c_grow_92f84 yJx4a65c_grow_92f84 ∈ ab_T := ab_T_in (i := 2) (by decide +kernel) (by decide +kernel)
theorem tw_247 : Cond.instanceMethod yJx4a65c_grow_92f84 ∈ ab_T := ab_T_in (i := 247) (by decide +kernel) (by decide +kernel)
theorem cs_Jx4a65c_69_0 : ab_cV RJx4a65c 69 0 Y_Jx4a65c_grow_92f84 1 := ⟨pm_Jx4a65c_grow_92f84, RJx4a65c, TJx4a65c, 3, rfl, Or.inl ⟨rfl, tw_245, tw_247, tw_2⟩⟩
theorem tw_251 : Cond.code yJ8_newLength_cabcc cJ8_newLength_cabcc 4 (some .int) ∈ ab_T := ab_T_in (i := 251) (by decide +kernel) (by decide +kernel)
theorem pm_J8_newLength_cabcc : ab_pm Y_J8_newLength_cabcc 3 := ⟨⟨by decide +kernel, by decide +kernel⟩, by decide +kernel, tw_251, tw_51⟩
theorem tw_249 : Cond.methodLink RJx4a65c 73 yJ8_newLength_cabcc ∈ ab_T := ab_T_in (i := 249) (by decide +kernel) (by decide +kernel)
theorem tw_250 : Cond.static yJ8_newLength_cabcc ∈ ab_T := ab_T_in (i := 250) (by decide +kernel) (by decide +kernel)
theorem cs_Jx4a65c_73 : ab_cS RJx4a65c 73 Y_J8_newLength_cabcc 3 := ⟨pm_J8_newLength_cabcc, tw_249, tw_250⟩
theorem tw_254 : Cond.code yJ9_max_7cf53 cJ9_max_7cf53 2 (some .int) ∈ ab_T := ab_T_in (i := 254) (by decide +kernel) (by decide +kernel)
theorem pm_J9_max_7cf53 : ab_pm Y_J9_max_7cf53 2 := ⟨⟨by decide +kernel, by decide +kernel⟩, by decide +kernel, tw_254, tw_52⟩
theorem tw_252 : Cond.methodLink RJ8 194 yJ9_max_7cf53 ∈ ab_T := ab_T_in (i := 252) (by decide +kernel) (by decide +kernel)
theorem tw_253 : Cond.static yJ9_max_7cf53 ∈ ab_T := ab_T_in (i := 253) (by decide +kernel) (by decide +kernel)
theorem cs_J8_194 : ab_cS RJ8 194 Y_J9_max_7cf53 2 := ⟨pm_J9_max_7cf53, tw_252, tw_253⟩
theorem tw_255 : Cond.constant RJ8 200 (2147483639) ∈ ab_T := ab_T_in (i := 255) (by decide +kernel) (by decide +kernel)
theorem tw_258 : Cond.code yJ8_hugeLength_7cf53 cJ8_hugeLength_7cf53 3 (some .int) ∈ ab_T := ab_T_in (i := 258) (by decide +kernel) (by decide +kernel)
theorem pm_J8_hugeLength_7cf53 : ab_pm Y_J8_hugeLength_7cf53 2 := ⟨⟨by decide +kernel, by decide +kernel⟩, by decide +kernel, tw_258, tw_51⟩
theorem tw_256 : Cond.methodLink RJ8 201 yJ8_hugeLength_7cf53 ∈ ab_T := ab_T_in (i := 256) (by decide +kernel) (by decide +kernel)
theorem tw_257 : Cond.static yJ8_hugeLength_7cf53 ∈ ab_T := ab_T_in (i := 257) (by decide +kernel) (by decide +kernel)
theorem cs_J8_201 : ab_cS RJ8 201 Y_J8_hugeLength_7cf53 2 := ⟨pm_J8_hugeLength_7cf53, tw_256, tw_257⟩
theorem tw_261 : Cond.code yJ7_copyOf_1904c cJ7_copyOf_1904c 2 (some (.array (.object "java/lang/Object"))) ∈ ab_T := ab_T_in (i := 261) (by decide +kernel) (by decide +kernel)
theorem pm_J7_copyOf_1904c : ab_pm Y_J7_copyOf_1904c 2 := ⟨⟨by decide +kernel, by decide +kernel⟩, by decide +kernel, tw_261, tw_46⟩
theorem tw_259 : Cond.methodLink RJx4a65c 66 yJ7_copyOf_1904c ∈ ab_T := ab_T_in (i := 259) (by decide +kernel) (by decide +kernel)
theorem tw_260 : Cond.static yJ7_copyOf_1904c ∈ ab_T := ab_T_in (i := 260) (by decide +kernel) (by decide +kernel)
theorem cs_Jx4a65c_66 : ab_cS RJx4a65c 66 Y_J7_copyOf_1904c 2 := ⟨pm_J7_copyOf_1904c, tw_259, tw_260⟩
theorem tw_279 : Cond.code yJ7_copyOf_6403c cJ7_copyOf_6403c 4 (some (.array (.object "java/lang/Object"))) ∈ ab_T := ab_T_in (i := 279) (by decide +kernel) (by decide +kernel)
theorem pm_J7_copyOf_6403c : ab_pm Y_J7_copyOf_6403c 3 := ⟨⟨by decide +kernel, by decide +kernel⟩, by decide +kernel, tw_279, tw_46⟩
theorem tw_277 : Cond.methodLink RJ7 300 yJ7_copyOf_6403c ∈ ab_T := ab_T_in (i := 277) (by decide +kernel) (by decide +kernel)
theorem tw_278 : Cond.static yJ7_copyOf_6403c ∈ ab_T := ab_T_in (i := 278) (by decide +kernel) (by decide +kernel)
theorem cs_J7_300 : ab_cS RJ7 300 Y_J7_copyOf_6403c 3 := ⟨pm_J7_copyOf_6403c, tw_277, tw_278⟩
theorem tw_280 : Cond.classLink RJ7 110 "[Ljava/lang/Object;" ∈ ab_T := ab_T_in (i := 280) (by decide +kernel) (by decide +kernel)
theorem tw_282 : Cond.classLink RJ7 2 "java/lang/Object" ∈ ab_T := ab_T_in (i := 282) (by decide +kernel) (by decide +kernel)
theorem tw_285 : Cond.code yJ9_min_7cf53 cJ9_min_7cf53 2 (some .int) ∈ ab_T := ab_T_in (i := 285) (by decide +kernel) (by decide +kernel)
theorem pm_J9_min_7cf53 : ab_pm Y_J9_min_7cf53 2 := ⟨⟨by decide +kernel, by decide +kernel⟩, by decide +kernel, tw_285, tw_52⟩
theorem tw_283 : Cond.methodLink RJ7 304 yJ9_min_7cf53 ∈ ab_T := ab_T_in (i := 283) (by decide +kernel) (by decide +kernel)
theorem tw_284 : Cond.static yJ9_min_7cf53 ∈ ab_T := ab_T_in (i := 284) (by decide +kernel) (by decide +kernel)
theorem cs_J7_304 : ab_cS RJ7 304 Y_J9_min_7cf53 2 := ⟨pm_J9_min_7cf53, tw_283, tw_284⟩
theorem tw_287 : Cond.static arraycopyName ∈ ab_T := ab_T_in (i := 287) (by decide +kernel) (by decide +kernel)
theorem tw_288 : Cond.native arraycopyName ∈ ab_T := ab_T_in (i := 288) (by decide +kernel) (by decide +kernel)
theorem tw_289 : Cond.methodLink RJx4a65c 79 yJ9_max_7cf53 ∈ ab_T := ab_T_in (i := 289) (by decide +kernel) (by decide +kernel)
theorem cs_Jx4a65c_79 : ab_cS RJx4a65c 79 Y_J9_max_7cf53 2 := ⟨pm_J9_max_7cf53, tw_289, tw_253⟩
theorem tw_290 : Cond.classLink RJx4a65c 7 "java/lang/Object" ∈ ab_T := ab_T_in (i := 290) (by decide +kernel) (by decide +kernel)
theorem tw_294 : Cond.code yX8_jar cX8_jar 9 (some .int) ∈ ab_T := ab_T_in (i := 294) (by decide +kernel) (by decide +kernel)
theorem pm_X8_jar : ab_pm Y_X8_jar 6 := ⟨⟨by decide +kernel, by decide +kernel⟩, by decide +kernel, tw_294, tw_41⟩
theorem tw_291 : Cond.methodLink "WaterMenLaw" 18 yX8_jar ∈ ab_T := ab_T_in (i := 291) (by decide +kernel) (by decide +kernel)
theorem tw_293 : Cond.selects RX8 yX8_jar yX8_jar ∈ ab_T := ab_T_in (i := 293) (by decide +kernel) (by decide +kernel)
theorem tw_292 : Cond.instanceMethod yX8_jar ∈ ab_T := ab_T_in (i := 292) (by decide +kernel) (by decide +kernel)
theorem cs_L_18_9 : ab_cV "WaterMenLaw" 18 9 Y_X8_jar 6 := ⟨pm_X8_jar, RX8, TX8, 9, rfl, Or.inl ⟨rfl, tw_291, tw_292, tw_293⟩⟩
theorem tw_295 : Cond.classLink RX8 75 RX4 ∈ ab_T := ab_T_in (i := 295) (by decide +kernel) (by decide +kernel)
theorem tw_296 : Cond.instantiable RX4 7 ∈ ab_T := ab_T_in (i := 296) (by decide +kernel) (by decide +kernel)
theorem tw_299 : Cond.code yX4_init cX4_init 5 none ∈ ab_T := ab_T_in (i := 299) (by decide +kernel) (by decide +kernel)
theorem pm_X4_init : ab_pm Y_X4_init 4 := ⟨⟨by decide +kernel, by decide +kernel⟩, by decide +kernel, tw_299, tw_54⟩
theorem tw_297 : Cond.methodLink RX8 77 yX4_init ∈ ab_T := ab_T_in (i := 297) (by decide +kernel) (by decide +kernel)
theorem tw_298 : Cond.instanceMethod yX4_init ∈ ab_T := ab_T_in (i := 298) (by decide +kernel) (by decide +kernel)
theorem cs_X8_77 : ab_cI RX8 77 Y_X4_init 4 := ⟨pm_X4_init, tw_297, tw_298, rfl, rfl⟩
theorem tw_300 : Cond.methodLink RX4 1 objectInit ∈ ab_T := ab_T_in (i := 300) (by decide +kernel) (by decide +kernel)
theorem tw_334 : Cond.code yX8_drinks cX8_drinks 5 (some .int) ∈ ab_T := ab_T_in (i := 334) (by decide +kernel) (by decide +kernel)
theorem pm_X8_drinks : ab_pm Y_X8_drinks 2 := ⟨⟨by decide +kernel, by decide +kernel⟩, by decide +kernel, tw_334, tw_41⟩
theorem tw_331 : Cond.methodLink "WaterMenLaw" 23 yX8_drinks ∈ ab_T := ab_T_in (i := 331) (by decide +kernel) (by decide +kernel)
theorem tw_333 : Cond.selects RX8 yX8_drinks yX8_drinks ∈ ab_T := ab_T_in (i := 333) (by decide +kernel) (by decide +kernel)
theorem tw_332 : Cond.instanceMethod yX8_drinks ∈ ab_T := ab_T_in (i := 332) (by decide +kernel) (by decide +kernel)
theorem cs_L_23_9 : ab_cV "WaterMenLaw" 23 9 Y_X8_drinks 2 := ⟨pm_X8_drinks, RX8, TX8, 9, rfl, Or.inl ⟨rfl, tw_331, tw_332, tw_333⟩⟩
theorem tw_338 : Cond.code yX8_jarAt cX8_jarAt 2 (some (.object "WaterMen$Jar")) ∈ ab_T := ab_T_in (i := 338) (by decide +kernel) (by decide +kernel)
theorem pm_X8_jarAt : ab_pm Y_X8_jarAt 1 := ⟨⟨by decide +kernel, by decide +kernel⟩, by decide +kernel, tw_338, tw_41⟩
theorem tw_335 : Cond.methodLink RX8 80 yX8_jarAt ∈ ab_T := ab_T_in (i := 335) (by decide +kernel) (by decide +kernel)
theorem tw_3 : Cond.selects RX8 yX8_jarAt yX8_jarAt ∈ ab_T := ab_T_in (i := 3) (by decide +kernel) (by decide +kernel)
theorem tw_337 : Cond.instanceMethod yX8_jarAt ∈ ab_T := ab_T_in (i := 337) (by decide +kernel) (by decide +kernel)
theorem cs_X8_80_9 : ab_cV RX8 80 9 Y_X8_jarAt 1 := ⟨pm_X8_jarAt, RX8, TX8, 9, rfl, Or.inl ⟨rfl, tw_335, tw_337, tw_3⟩⟩
theorem tw_342 : Cond.code yJx4a65c_get_915e3 cJx4a65c_get_915e3 2 (some (.object "java/lang/Object")) ∈ ab_T := ab_T_in (i := 342) (by decide +kernel) (by decide +kernel)
theorem pm_Jx4a65c_get_915e3 : ab_pm Y_Jx4a65c_get_915e3 1 := ⟨⟨by decide +kernel, by decide +kernel⟩, by decide +kernel, tw_342, tw_44⟩
theorem tw_339 : Cond.methodLink RX8 187 yJx4a65c_get_915e3 ∈ ab_T := ab_T_in (i := 339) (by decide +kernel) (by decide +kernel)
theorem tw_341 : Cond.selects RJx4a65c yJx4a65c_get_915e3 yJx4a65c_get_915e3 ∈ ab_T := ab_T_in (i := 341) (by decide +kernel) (by decide +kernel)
theorem tw_340 : Cond.instanceMethod yJx4a65c_get_915e3 ∈ ab_T := ab_T_in (i := 340) (by decide +kernel) (by decide +kernel)
theorem cs_X8_187_0 : ab_cV RX8 187 0 Y_Jx4a65c_get_915e3 1 := ⟨pm_Jx4a65c_get_915e3, RJx4a65c, TJx4a65c, 3, rfl, Or.inl ⟨rfl, tw_339, tw_340, tw_341⟩⟩
theorem tw_345 : Cond.code yJ15_checkIndex_7cf53 cJ15_checkIndex_7cf53 2 (some .int) ∈ ab_T := ab_T_in (i := 345) (by decide +kernel) (by decide +kernel)
theorem pm_J15_checkIndex_7cf53 : ab_pm Y_J15_checkIndex_7cf53 2 := ⟨⟨by decide +kernel, by decide +kernel⟩, by decide +kernel, tw_345, tw_55⟩
theorem tw_343 : Cond.methodLink RJx4a65c 118 yJ15_checkIndex_7cf53 ∈ ab_T := ab_T_in (i := 343) (by decide +kernel) (by decide +kernel)
theorem tw_344 : Cond.static yJ15_checkIndex_7cf53 ∈ ab_T := ab_T_in (i := 344) (by decide +kernel) (by decide +kernel)
theorem cs_Jx4a65c_118 : ab_cS RJx4a65c 118 Y_J15_checkIndex_7cf53 2 := ⟨pm_J15_checkIndex_7cf53, tw_343, tw_344⟩
theorem tw_348 : Cond.code yJ3_checkIndex_8e157 cJ3_checkIndex_8e157 3 (some .int) ∈ ab_T := ab_T_in (i := 348) (by decide +kernel) (by decide +kernel)
theorem pm_J3_checkIndex_8e157 : ab_pm Y_J3_checkIndex_8e157 3 := ⟨⟨by decide +kernel, by decide +kernel⟩, by decide +kernel, tw_348, tw_56⟩
theorem tw_346 : Cond.methodLink RJ15 105 yJ3_checkIndex_8e157 ∈ ab_T := ab_T_in (i := 346) (by decide +kernel) (by decide +kernel)
theorem tw_347 : Cond.static yJ3_checkIndex_8e157 ∈ ab_T := ab_T_in (i := 347) (by decide +kernel) (by decide +kernel)
theorem cs_J15_105 : ab_cS RJ15 105 Y_J3_checkIndex_8e157 3 := ⟨pm_J3_checkIndex_8e157, tw_346, tw_347⟩
theorem tw_352 : Cond.code yJx4a65c_elementData_915e3 cJx4a65c_elementData_915e3 2 (some (.object "java/lang/Object")) ∈ ab_T := ab_T_in (i := 352) (by decide +kernel) (by decide +kernel)
theorem pm_Jx4a65c_elementData_915e3 : ab_pm Y_Jx4a65c_elementData_915e3 1 := ⟨⟨by decide +kernel, by decide +kernel⟩, by decide +kernel, tw_352, tw_44⟩
theorem tw_349 : Cond.methodLink RJx4a65c 123 yJx4a65c_elementData_915e3 ∈ ab_T := ab_T_in (i := 349) (by decide +kernel) (by decide +kernel)
theorem tw_351 : Cond.selects RJx4a65c yJx4a65c_elementData_915e3 yJx4a65c_elementData_915e3 ∈ ab_T := ab_T_in (i := 351) (by decide +kernel) (by decide +kernel)
theorem tw_350 : Cond.instanceMethod yJx4a65c_elementData_915e3 ∈ ab_T := ab_T_in (i := 350) (by decide +kernel) (by decide +kernel)
theorem cs_Jx4a65c_123_0 : ab_cV RJx4a65c 123 0 Y_Jx4a65c_elementData_915e3 1 := ⟨pm_Jx4a65c_elementData_915e3, RJx4a65c, TJx4a65c, 3, rfl, Or.inl ⟨rfl, tw_349, tw_350, tw_351⟩⟩
theorem tw_356 : Cond.code yX8_man cX8_man 9 (some .int) ∈ ab_T := ab_T_in (i := 356) (by decide +kernel) (by decide +kernel)
theorem pm_X8_man : ab_pm Y_X8_man 4 := ⟨⟨by decide +kernel, by decide +kernel⟩, by decide +kernel, tw_356, tw_41⟩
theorem tw_353 : Cond.methodLink "WaterMenLaw" 28 yX8_man ∈ ab_T := ab_T_in (i := 353) (by decide +kernel) (by decide +kernel)
theorem tw_355 : Cond.selects RX8 yX8_man yX8_man ∈ ab_T := ab_T_in (i := 355) (by decide +kernel) (by decide +kernel)
theorem tw_354 : Cond.instanceMethod yX8_man ∈ ab_T := ab_T_in (i := 354) (by decide +kernel) (by decide +kernel)
theorem cs_L_28_9 : ab_cV "WaterMenLaw" 28 9 Y_X8_man 4 := ⟨pm_X8_man, RX8, TX8, 9, rfl, Or.inl ⟨rfl, tw_353, tw_354, tw_355⟩⟩
theorem tw_360 : Cond.code yX8_fountainAt cX8_fountainAt 2 (some (.object "WaterMen$Fountain")) ∈ ab_T := ab_T_in (i := 360) (by decide +kernel) (by decide +kernel)
theorem pm_X8_fountainAt : ab_pm Y_X8_fountainAt 1 := ⟨⟨by decide +kernel, by decide +kernel⟩, by decide +kernel, tw_360, tw_41⟩
theorem tw_357 : Cond.methodLink RX8 87 yX8_fountainAt ∈ ab_T := ab_T_in (i := 357) (by decide +kernel) (by decide +kernel)
theorem tw_4 : Cond.selects RX8 yX8_fountainAt yX8_fountainAt ∈ ab_T := ab_T_in (i := 4) (by decide +kernel) (by decide +kernel)
theorem tw_359 : Cond.instanceMethod yX8_fountainAt ∈ ab_T := ab_T_in (i := 359) (by decide +kernel) (by decide +kernel)
theorem cs_X8_87_9 : ab_cV RX8 87 9 Y_X8_fountainAt 1 := ⟨pm_X8_fountainAt, RX8, TX8, 9, rfl, Or.inl ⟨rfl, tw_357, tw_359, tw_4⟩⟩
theorem tw_363 : Cond.code yX8_newMan cX8_newMan 5 (some (.object "WaterMen$Man")) ∈ ab_T := ab_T_in (i := 363) (by decide +kernel) (by decide +kernel)
theorem pm_X8_newMan : ab_pm Y_X8_newMan 5 := ⟨⟨by decide +kernel, by decide +kernel⟩, by decide +kernel, tw_363, tw_41⟩
theorem tw_361 : Cond.methodLink RX8 91 yX8_newMan ∈ ab_T := ab_T_in (i := 361) (by decide +kernel) (by decide +kernel)
theorem tw_362 : Cond.static yX8_newMan ∈ ab_T := ab_T_in (i := 362) (by decide +kernel) (by decide +kernel)
theorem cs_X8_91 : ab_cS RX8 91 Y_X8_newMan 5 := ⟨pm_X8_newMan, tw_361, tw_362⟩
theorem tw_364 : Cond.classLink RX8 111 RX0 ∈ ab_T := ab_T_in (i := 364) (by decide +kernel) (by decide +kernel)
theorem tw_365 : Cond.instantiable RX0 13 ∈ ab_T := ab_T_in (i := 365) (by decide +kernel) (by decide +kernel)
theorem tw_368 : Cond.code yX0_init cX0_init 5 none ∈ ab_T := ab_T_in (i := 368) (by decide +kernel) (by decide +kernel)
theorem pm_X0_init : ab_pm Y_X0_init 4 := ⟨⟨by decide +kernel, by decide +kernel⟩, by decide +kernel, tw_368, tw_59⟩
theorem tw_366 : Cond.methodLink RX8 223 yX0_init ∈ ab_T := ab_T_in (i := 366) (by decide +kernel) (by decide +kernel)
theorem tw_367 : Cond.instanceMethod yX0_init ∈ ab_T := ab_T_in (i := 367) (by decide +kernel) (by decide +kernel)
theorem cs_X8_223 : ab_cI RX8 223 Y_X0_init 4 := ⟨pm_X0_init, tw_366, tw_367, rfl, rfl⟩
theorem tw_371 : Cond.code yX7_init cX7_init 5 none ∈ ab_T := ab_T_in (i := 371) (by decide +kernel) (by decide +kernel)
theorem pm_X7_init : ab_pm Y_X7_init 4 := ⟨⟨by decide +kernel, by decide +kernel⟩, by decide +kernel, tw_371, tw_58⟩
theorem tw_369 : Cond.methodLink RX0 3 yX7_init ∈ ab_T := ab_T_in (i := 369) (by decide +kernel) (by decide +kernel)
theorem tw_370 : Cond.instanceMethod yX7_init ∈ ab_T := ab_T_in (i := 370) (by decide +kernel) (by decide +kernel)
theorem cs_X0_3 : ab_cI RX0 3 Y_X7_init 4 := ⟨pm_X7_init, tw_369, tw_370, rfl, rfl⟩
theorem tw_374 : Cond.code yX5_init cX5_init 5 none ∈ ab_T := ab_T_in (i := 374) (by decide +kernel) (by decide +kernel)
theorem pm_X5_init : ab_pm Y_X5_init 4 := ⟨⟨by decide +kernel, by decide +kernel⟩, by decide +kernel, tw_374, tw_57⟩
theorem tw_372 : Cond.methodLink RX7 3 yX5_init ∈ ab_T := ab_T_in (i := 372) (by decide +kernel) (by decide +kernel)
theorem tw_373 : Cond.instanceMethod yX5_init ∈ ab_T := ab_T_in (i := 373) (by decide +kernel) (by decide +kernel)
theorem cs_X7_3 : ab_cI RX7 3 Y_X5_init 4 := ⟨pm_X5_init, tw_372, tw_373, rfl, rfl⟩
theorem tw_375 : Cond.methodLink RX5 3 objectInit ∈ ab_T := ab_T_in (i := 375) (by decide +kernel) (by decide +kernel)
theorem tw_433 : Cond.classLink RX8 226 RX7 ∈ ab_T := ab_T_in (i := 433) (by decide +kernel) (by decide +kernel)
theorem tw_434 : Cond.instantiable RX7 12 ∈ ab_T := ab_T_in (i := 434) (by decide +kernel) (by decide +kernel)
theorem tw_435 : Cond.methodLink RX8 228 yX7_init ∈ ab_T := ab_T_in (i := 435) (by decide +kernel) (by decide +kernel)
theorem cs_X8_228 : ab_cI RX8 228 Y_X7_init 4 := ⟨pm_X7_init, tw_435, tw_370, rfl, rfl⟩
theorem tw_449 : Cond.classLink RX8 96 RX5 ∈ ab_T := ab_T_in (i := 449) (by decide +kernel) (by decide +kernel)
theorem tw_450 : Cond.instantiable RX5 12 ∈ ab_T := ab_T_in (i := 450) (by decide +kernel) (by decide +kernel)
theorem tw_451 : Cond.methodLink RX8 229 yX5_init ∈ ab_T := ab_T_in (i := 451) (by decide +kernel) (by decide +kernel)
theorem cs_X8_229 : ab_cI RX8 229 Y_X5_init 4 := ⟨pm_X5_init, tw_451, tw_373, rfl, rfl⟩
theorem tw_471 : Cond.code yX7_canGoTo cX7_canGoTo 2 (some .boolean) ∈ ab_T := ab_T_in (i := 471) (by decide +kernel) (by decide +kernel)
theorem pm_X7_canGoTo : ab_pm Y_X7_canGoTo 1 := ⟨⟨by decide +kernel, by decide +kernel⟩, by decide +kernel, tw_471, tw_58⟩
theorem tw_465 : Cond.methodLink RX8 95 yX5_canGoTo ∈ ab_T := ab_T_in (i := 465) (by decide +kernel) (by decide +kernel)
theorem tw_469 : Cond.selects RX0 yX5_canGoTo yX7_canGoTo ∈ ab_T := ab_T_in (i := 469) (by decide +kernel) (by decide +kernel)
theorem tw_470 : Cond.instanceMethod yX7_canGoTo ∈ ab_T := ab_T_in (i := 470) (by decide +kernel) (by decide +kernel)
theorem tw_468 : Cond.sameMethod "WaterMen$Man" "WaterMen$Man" "canGoTo" "(LWaterMen$Jar;)Z" ∈ ab_T := ab_T_in (i := 468) (by decide +kernel) (by decide +kernel)
theorem tw_466 : Cond.instanceMethod yX5_canGoTo ∈ ab_T := ab_T_in (i := 466) (by decide +kernel) (by decide +kernel)
theorem tw_473 : Cond.code yX5_canGoTo cX5_canGoTo 2 (some .boolean) ∈ ab_T := ab_T_in (i := 473) (by decide +kernel) (by decide +kernel)
theorem cs_X8_95_1 : ab_cV RX8 95 1 Y_X7_canGoTo 1 := ⟨pm_X7_canGoTo, RX0, TX0, 13, rfl, Or.inr ⟨yX5_canGoTo, "WaterMen$Man", cX5_canGoTo, 2, (some .boolean), ⟨by decide +kernel, by decide +kernel⟩, by decide +kernel, tw_465, tw_468, tw_466, tw_473, tw_469, tw_470⟩⟩
theorem pm_X5_canGoTo : ab_pm Y_X5_canGoTo 1 := ⟨⟨by decide +kernel, by decide +kernel⟩, by decide +kernel, tw_473, tw_57⟩
theorem tw_467 : Cond.selects RX5 yX5_canGoTo yX5_canGoTo ∈ ab_T := ab_T_in (i := 467) (by decide +kernel) (by decide +kernel)
theorem cs_X8_95_6 : ab_cV RX8 95 6 Y_X5_canGoTo 1 := ⟨pm_X5_canGoTo, RX5, TX5, 12, rfl, Or.inl ⟨rfl, tw_465, tw_466, tw_467⟩⟩
theorem tw_472 : Cond.selects RX7 yX5_canGoTo yX7_canGoTo ∈ ab_T := ab_T_in (i := 472) (by decide +kernel) (by decide +kernel)
theorem cs_X8_95_8 : ab_cV RX8 95 8 Y_X7_canGoTo 1 := ⟨pm_X7_canGoTo, RX7, TX7, 12, rfl, Or.inr ⟨yX5_canGoTo, "WaterMen$Man", cX5_canGoTo, 2, (some .boolean), ⟨by decide +kernel, by decide +kernel⟩, by decide +kernel, tw_465, tw_468, tw_466, tw_473, tw_472, tw_470⟩⟩
theorem tw_480 : Cond.code yX5_joinRow cX5_joinRow 1 none ∈ ab_T := ab_T_in (i := 480) (by decide +kernel) (by decide +kernel)
theorem pm_X5_joinRow : ab_pm Y_X5_joinRow 0 := ⟨⟨by decide +kernel, by decide +kernel⟩, by decide +kernel, tw_480, tw_57⟩
theorem tw_474 : Cond.methodLink RX8 101 yX5_joinRow ∈ ab_T := ab_T_in (i := 474) (by decide +kernel) (by decide +kernel)
theorem tw_478 : Cond.selects RX0 yX5_joinRow yX5_joinRow ∈ ab_T := ab_T_in (i := 478) (by decide +kernel) (by decide +kernel)
theorem tw_475 : Cond.instanceMethod yX5_joinRow ∈ ab_T := ab_T_in (i := 475) (by decide +kernel) (by decide +kernel)
theorem tw_477 : Cond.sameMethod "WaterMen$Man" "WaterMen$Man" "joinRow" "()V" ∈ ab_T := ab_T_in (i := 477) (by decide +kernel) (by decide +kernel)
theorem cs_X8_101_1 : ab_cV RX8 101 1 Y_X5_joinRow 0 := ⟨pm_X5_joinRow, RX0, TX0, 13, rfl, Or.inr ⟨yX5_joinRow, "WaterMen$Man", cX5_joinRow, 1, none, ⟨by decide +kernel, by decide +kernel⟩, by decide +kernel, tw_474, tw_477, tw_475, tw_480, tw_478, tw_475⟩⟩
theorem tw_476 : Cond.selects RX5 yX5_joinRow yX5_joinRow ∈ ab_T := ab_T_in (i := 476) (by decide +kernel) (by decide +kernel)
theorem cs_X8_101_6 : ab_cV RX8 101 6 Y_X5_joinRow 0 := ⟨pm_X5_joinRow, RX5, TX5, 12, rfl, Or.inl ⟨rfl, tw_474, tw_475, tw_476⟩⟩
theorem tw_479 : Cond.selects RX7 yX5_joinRow yX5_joinRow ∈ ab_T := ab_T_in (i := 479) (by decide +kernel) (by decide +kernel)
theorem cs_X8_101_8 : ab_cV RX8 101 8 Y_X5_joinRow 0 := ⟨pm_X5_joinRow, RX7, TX7, 12, rfl, Or.inr ⟨yX5_joinRow, "WaterMen$Man", cX5_joinRow, 1, none, ⟨by decide +kernel, by decide +kernel⟩, by decide +kernel, tw_474, tw_477, tw_475, tw_480, tw_479, tw_475⟩⟩
theorem tw_481 : Cond.methodLink RX5 85 yJx4a65c_add_9ea2d ∈ ab_T := ab_T_in (i := 481) (by decide +kernel) (by decide +kernel)
theorem cs_X5_85_0 : ab_cV RX5 85 0 Y_Jx4a65c_add_9ea2d 1 := ⟨pm_Jx4a65c_add_9ea2d, RJx4a65c, TJx4a65c, 3, rfl, Or.inl ⟨rfl, tw_481, tw_234, tw_235⟩⟩
theorem tw_485 : Cond.code yX8_right cX8_right 5 (some .int) ∈ ab_T := ab_T_in (i := 485) (by decide +kernel) (by decide +kernel)
theorem pm_X8_right : ab_pm Y_X8_right 2 := ⟨⟨by decide +kernel, by decide +kernel⟩, by decide +kernel, tw_485, tw_41⟩
theorem tw_482 : Cond.methodLink "WaterMenLaw" 33 yX8_right ∈ ab_T := ab_T_in (i := 482) (by decide +kernel) (by decide +kernel)
theorem tw_484 : Cond.selects RX8 yX8_right yX8_right ∈ ab_T := ab_T_in (i := 484) (by decide +kernel) (by decide +kernel)
theorem tw_483 : Cond.instanceMethod yX8_right ∈ ab_T := ab_T_in (i := 483) (by decide +kernel) (by decide +kernel)
theorem cs_L_33_9 : ab_cV "WaterMenLaw" 33 9 Y_X8_right 2 := ⟨pm_X8_right, RX8, TX8, 9, rfl, Or.inl ⟨rfl, tw_482, tw_483, tw_484⟩⟩
theorem tw_489 : Cond.code yX8_manAt cX8_manAt 2 (some (.object "WaterMen$Man")) ∈ ab_T := ab_T_in (i := 489) (by decide +kernel) (by decide +kernel)
theorem pm_X8_manAt : ab_pm Y_X8_manAt 1 := ⟨⟨by decide +kernel, by decide +kernel⟩, by decide +kernel, tw_489, tw_41⟩
theorem tw_486 : Cond.methodLink RX8 104 yX8_manAt ∈ ab_T := ab_T_in (i := 486) (by decide +kernel) (by decide +kernel)
theorem tw_5 : Cond.selects RX8 yX8_manAt yX8_manAt ∈ ab_T := ab_T_in (i := 5) (by decide +kernel) (by decide +kernel)
theorem tw_488 : Cond.instanceMethod yX8_manAt ∈ ab_T := ab_T_in (i := 488) (by decide +kernel) (by decide +kernel)
theorem cs_X8_104_9 : ab_cV RX8 104 9 Y_X8_manAt 1 := ⟨pm_X8_manAt, RX8, TX8, 9, rfl, Or.inl ⟨rfl, tw_486, tw_488, tw_5⟩⟩
theorem tw_493 : Cond.code yX8_pace cX8_pace 6 (some .int) ∈ ab_T := ab_T_in (i := 493) (by decide +kernel) (by decide +kernel)
theorem pm_X8_pace : ab_pm Y_X8_pace 2 := ⟨⟨by decide +kernel, by decide +kernel⟩, by decide +kernel, tw_493, tw_41⟩
theorem tw_490 : Cond.methodLink "WaterMenLaw" 37 yX8_pace ∈ ab_T := ab_T_in (i := 490) (by decide +kernel) (by decide +kernel)
theorem tw_492 : Cond.selects RX8 yX8_pace yX8_pace ∈ ab_T := ab_T_in (i := 492) (by decide +kernel) (by decide +kernel)
theorem tw_491 : Cond.instanceMethod yX8_pace ∈ ab_T := ab_T_in (i := 491) (by decide +kernel) (by decide +kernel)
theorem cs_L_37_9 : ab_cV "WaterMenLaw" 37 9 Y_X8_pace 2 := ⟨pm_X8_pace, RX8, TX8, 9, rfl, Or.inl ⟨rfl, tw_490, tw_491, tw_492⟩⟩
theorem tw_497 : Cond.code yX8_moves cX8_moves 7 (some .int) ∈ ab_T := ab_T_in (i := 497) (by decide +kernel) (by decide +kernel)
theorem pm_X8_moves : ab_pm Y_X8_moves 3 := ⟨⟨by decide +kernel, by decide +kernel⟩, by decide +kernel, tw_497, tw_41⟩
theorem tw_494 : Cond.methodLink "WaterMenLaw" 41 yX8_moves ∈ ab_T := ab_T_in (i := 494) (by decide +kernel) (by decide +kernel)
theorem tw_496 : Cond.selects RX8 yX8_moves yX8_moves ∈ ab_T := ab_T_in (i := 496) (by decide +kernel) (by decide +kernel)
theorem tw_495 : Cond.instanceMethod yX8_moves ∈ ab_T := ab_T_in (i := 495) (by decide +kernel) (by decide +kernel)
theorem cs_L_41_9 : ab_cV "WaterMenLaw" 41 9 Y_X8_moves 3 := ⟨pm_X8_moves, RX8, TX8, 9, rfl, Or.inl ⟨rfl, tw_494, tw_495, tw_496⟩⟩
theorem tw_504 : Cond.code yX5_leaveRow cX5_leaveRow 3 none ∈ ab_T := ab_T_in (i := 504) (by decide +kernel) (by decide +kernel)
theorem pm_X5_leaveRow : ab_pm Y_X5_leaveRow 0 := ⟨⟨by decide +kernel, by decide +kernel⟩, by decide +kernel, tw_504, tw_57⟩
theorem tw_498 : Cond.methodLink RX8 119 yX5_leaveRow ∈ ab_T := ab_T_in (i := 498) (by decide +kernel) (by decide +kernel)
theorem tw_502 : Cond.selects RX0 yX5_leaveRow yX5_leaveRow ∈ ab_T := ab_T_in (i := 502) (by decide +kernel) (by decide +kernel)
theorem tw_499 : Cond.instanceMethod yX5_leaveRow ∈ ab_T := ab_T_in (i := 499) (by decide +kernel) (by decide +kernel)
theorem tw_501 : Cond.sameMethod "WaterMen$Man" "WaterMen$Man" "leaveRow" "()V" ∈ ab_T := ab_T_in (i := 501) (by decide +kernel) (by decide +kernel)
theorem cs_X8_119_1 : ab_cV RX8 119 1 Y_X5_leaveRow 0 := ⟨pm_X5_leaveRow, RX0, TX0, 13, rfl, Or.inr ⟨yX5_leaveRow, "WaterMen$Man", cX5_leaveRow, 3, none, ⟨by decide +kernel, by decide +kernel⟩, by decide +kernel, tw_498, tw_501, tw_499, tw_504, tw_502, tw_499⟩⟩
theorem tw_500 : Cond.selects RX5 yX5_leaveRow yX5_leaveRow ∈ ab_T := ab_T_in (i := 500) (by decide +kernel) (by decide +kernel)
theorem cs_X8_119_6 : ab_cV RX8 119 6 Y_X5_leaveRow 0 := ⟨pm_X5_leaveRow, RX5, TX5, 12, rfl, Or.inl ⟨rfl, tw_498, tw_499, tw_500⟩⟩
theorem tw_503 : Cond.selects RX7 yX5_leaveRow yX5_leaveRow ∈ ab_T := ab_T_in (i := 503) (by decide +kernel) (by decide +kernel)
theorem cs_X8_119_8 : ab_cV RX8 119 8 Y_X5_leaveRow 0 := ⟨pm_X5_leaveRow, RX7, TX7, 12, rfl, Or.inr ⟨yX5_leaveRow, "WaterMen$Man", cX5_leaveRow, 3, none, ⟨by decide +kernel, by decide +kernel⟩, by decide +kernel, tw_498, tw_501, tw_499, tw_504, tw_503, tw_499⟩⟩
theorem tw_505 : Cond.methodLink RX5 91 yJx4a65c_size_8abf5 ∈ ab_T := ab_T_in (i := 505) (by decide +kernel) (by decide +kernel)
theorem cs_X5_91_0 : ab_cV RX5 91 0 Y_Jx4a65c_size_8abf5 0 := ⟨pm_Jx4a65c_size_8abf5, RJx4a65c, TJx4a65c, 3, rfl, Or.inl ⟨rfl, tw_505, tw_196, tw_197⟩⟩
theorem tw_506 : Cond.methodLink RX5 95 yJx4a65c_get_915e3 ∈ ab_T := ab_T_in (i := 506) (by decide +kernel) (by decide +kernel)
theorem cs_X5_95_0 : ab_cV RX5 95 0 Y_Jx4a65c_get_915e3 1 := ⟨pm_Jx4a65c_get_915e3, RJx4a65c, TJx4a65c, 3, rfl, Or.inl ⟨rfl, tw_506, tw_340, tw_341⟩⟩
theorem tw_510 : Cond.code yJx4a65c_remove_915e3 cJx4a65c_remove_915e3 4 (some (.object "java/lang/Object")) ∈ ab_T := ab_T_in (i := 510) (by decide +kernel) (by decide +kernel)
theorem pm_Jx4a65c_remove_915e3 : ab_pm Y_Jx4a65c_remove_915e3 1 := ⟨⟨by decide +kernel, by decide +kernel⟩, by decide +kernel, tw_510, tw_44⟩
theorem tw_507 : Cond.methodLink RX5 99 yJx4a65c_remove_915e3 ∈ ab_T := ab_T_in (i := 507) (by decide +kernel) (by decide +kernel)
theorem tw_509 : Cond.selects RJx4a65c yJx4a65c_remove_915e3 yJx4a65c_remove_915e3 ∈ ab_T := ab_T_in (i := 509) (by decide +kernel) (by decide +kernel)
theorem tw_508 : Cond.instanceMethod yJx4a65c_remove_915e3 ∈ ab_T := ab_T_in (i := 508) (by decide +kernel) (by decide +kernel)
theorem cs_X5_99_0 : ab_cV RX5 99 0 Y_Jx4a65c_remove_915e3 1 := ⟨pm_Jx4a65c_remove_915e3, RJx4a65c, TJx4a65c, 3, rfl, Or.inl ⟨rfl, tw_507, tw_508, tw_509⟩⟩
theorem tw_514 : Cond.code yJx4a65c_fastRemove_b59b0 cJx4a65c_fastRemove_b59b0 4 none ∈ ab_T := ab_T_in (i := 514) (by decide +kernel) (by decide +kernel)
theorem pm_Jx4a65c_fastRemove_b59b0 : ab_pm Y_Jx4a65c_fastRemove_b59b0 2 := ⟨⟨by decide +kernel, by decide +kernel⟩, by decide +kernel, tw_514, tw_44⟩
theorem tw_511 : Cond.methodLink RJx4a65c 144 yJx4a65c_fastRemove_b59b0 ∈ ab_T := ab_T_in (i := 511) (by decide +kernel) (by decide +kernel)
theorem tw_6 : Cond.selects RJx4a65c yJx4a65c_fastRemove_b59b0 yJx4a65c_fastRemove_b59b0 ∈ ab_T := ab_T_in (i := 6) (by decide +kernel) (by decide +kernel)
theorem tw_513 : Cond.instanceMethod yJx4a65c_fastRemove_b59b0 ∈ ab_T := ab_T_in (i := 513) (by decide +kernel) (by decide +kernel)
theorem cs_Jx4a65c_144_0 : ab_cV RJx4a65c 144 0 Y_Jx4a65c_fastRemove_b59b0 2 := ⟨pm_Jx4a65c_fastRemove_b59b0, RJx4a65c, TJx4a65c, 3, rfl, Or.inl ⟨rfl, tw_511, tw_513, tw_6⟩⟩
theorem tw_519 : Cond.code yX8_open cX8_open 5 (some .int) ∈ ab_T := ab_T_in (i := 519) (by decide +kernel) (by decide +kernel)
theorem pm_X8_open : ab_pm Y_X8_open 2 := ⟨⟨by decide +kernel, by decide +kernel⟩, by decide +kernel, tw_519, tw_41⟩
theorem tw_516 : Cond.methodLink "WaterMenLaw" 46 yX8_open ∈ ab_T := ab_T_in (i := 516) (by decide +kernel) (by decide +kernel)
theorem tw_518 : Cond.selects RX8 yX8_open yX8_open ∈ ab_T := ab_T_in (i := 518) (by decide +kernel) (by decide +kernel)
theorem tw_517 : Cond.instanceMethod yX8_open ∈ ab_T := ab_T_in (i := 517) (by decide +kernel) (by decide +kernel)
theorem cs_L_46_9 : ab_cV "WaterMenLaw" 46 9 Y_X8_open 2 := ⟨pm_X8_open, RX8, TX8, 9, rfl, Or.inl ⟨rfl, tw_516, tw_517, tw_518⟩⟩
theorem tw_523 : Cond.code yX8_drought cX8_drought 3 (some .int) ∈ ab_T := ab_T_in (i := 523) (by decide +kernel) (by decide +kernel)
theorem pm_X8_drought : ab_pm Y_X8_drought 1 := ⟨⟨by decide +kernel, by decide +kernel⟩, by decide +kernel, tw_523, tw_41⟩
theorem tw_520 : Cond.methodLink "WaterMenLaw" 51 yX8_drought ∈ ab_T := ab_T_in (i := 520) (by decide +kernel) (by decide +kernel)
theorem tw_522 : Cond.selects RX8 yX8_drought yX8_drought ∈ ab_T := ab_T_in (i := 522) (by decide +kernel) (by decide +kernel)
theorem tw_521 : Cond.instanceMethod yX8_drought ∈ ab_T := ab_T_in (i := 521) (by decide +kernel) (by decide +kernel)
theorem cs_L_51_9 : ab_cV "WaterMenLaw" 51 9 Y_X8_drought 1 := ⟨pm_X8_drought, RX8, TX8, 9, rfl, Or.inl ⟨rfl, tw_520, tw_521, tw_522⟩⟩
theorem tw_527 : Cond.code yX8_type cX8_type 4 (some .int) ∈ ab_T := ab_T_in (i := 527) (by decide +kernel) (by decide +kernel)
theorem pm_X8_type : ab_pm Y_X8_type 2 := ⟨⟨by decide +kernel, by decide +kernel⟩, by decide +kernel, tw_527, tw_41⟩
theorem tw_524 : Cond.methodLink "WaterMenLaw" 57 yX8_type ∈ ab_T := ab_T_in (i := 524) (by decide +kernel) (by decide +kernel)
theorem tw_526 : Cond.selects RX8 yX8_type yX8_type ∈ ab_T := ab_T_in (i := 526) (by decide +kernel) (by decide +kernel)
theorem tw_525 : Cond.instanceMethod yX8_type ∈ ab_T := ab_T_in (i := 525) (by decide +kernel) (by decide +kernel)
theorem cs_L_57_9 : ab_cV "WaterMenLaw" 57 9 Y_X8_type 2 := ⟨pm_X8_type, RX8, TX8, 9, rfl, Or.inl ⟨rfl, tw_524, tw_525, tw_526⟩⟩
theorem tw_531 : Cond.code yX1_append cX1_append 5 (some .int) ∈ ab_T := ab_T_in (i := 531) (by decide +kernel) (by decide +kernel)
theorem pm_X1_append : ab_pm Y_X1_append 2 := ⟨⟨by decide +kernel, by decide +kernel⟩, by decide +kernel, tw_531, tw_45⟩
theorem tw_528 : Cond.methodLink RX8 134 yX1_append ∈ ab_T := ab_T_in (i := 528) (by decide +kernel) (by decide +kernel)
theorem tw_530 : Cond.selects RX1 yX1_append yX1_append ∈ ab_T := ab_T_in (i := 530) (by decide +kernel) (by decide +kernel)
theorem tw_529 : Cond.instanceMethod yX1_append ∈ ab_T := ab_T_in (i := 529) (by decide +kernel) (by decide +kernel)
theorem cs_X8_134_2 : ab_cV RX8 134 2 Y_X1_append 2 := ⟨pm_X1_append, RX1, TX1, 5, rfl, Or.inl ⟨rfl, tw_528, tw_529, tw_530⟩⟩
theorem cs_X1_34 : ab_cN RX1 34 Y_X8_outside 3 := ⟨pm_X8_outside, ⟨"WaterMen", ab_nest_in (i := 532) (by decide +kernel) rfl⟩, tw_189⟩
theorem tw_535 : Cond.code yX1_byteOf cX1_byteOf 3 (some .int) ∈ ab_T := ab_T_in (i := 535) (by decide +kernel) (by decide +kernel)
theorem pm_X1_byteOf : ab_pm Y_X1_byteOf 2 := ⟨⟨by decide +kernel, by decide +kernel⟩, by decide +kernel, tw_535, tw_45⟩
theorem tw_533 : Cond.methodLink RX1 38 yX1_byteOf ∈ ab_T := ab_T_in (i := 533) (by decide +kernel) (by decide +kernel)
theorem tw_534 : Cond.static yX1_byteOf ∈ ab_T := ab_T_in (i := 534) (by decide +kernel) (by decide +kernel)
theorem cs_X1_38 : ab_cS RX1 38 Y_X1_byteOf 2 := ⟨pm_X1_byteOf, tw_533, tw_534⟩
theorem tw_539 : Cond.code yX8_fares cX8_fares 1 (some .int) ∈ ab_T := ab_T_in (i := 539) (by decide +kernel) (by decide +kernel)
theorem pm_X8_fares : ab_pm Y_X8_fares 0 := ⟨⟨by decide +kernel, by decide +kernel⟩, by decide +kernel, tw_539, tw_41⟩
theorem tw_536 : Cond.methodLink "WaterMenLaw" 62 yX8_fares ∈ ab_T := ab_T_in (i := 536) (by decide +kernel) (by decide +kernel)
theorem tw_538 : Cond.selects RX8 yX8_fares yX8_fares ∈ ab_T := ab_T_in (i := 538) (by decide +kernel) (by decide +kernel)
theorem tw_537 : Cond.instanceMethod yX8_fares ∈ ab_T := ab_T_in (i := 537) (by decide +kernel) (by decide +kernel)
theorem cs_L_62_9 : ab_cV "WaterMenLaw" 62 9 Y_X8_fares 0 := ⟨pm_X8_fares, RX8, TX8, 9, rfl, Or.inl ⟨rfl, tw_536, tw_537, tw_538⟩⟩
theorem tw_543 : Cond.code yX1_takeTape cX1_takeTape 3 (some .int) ∈ ab_T := ab_T_in (i := 543) (by decide +kernel) (by decide +kernel)
theorem pm_X1_takeTape : ab_pm Y_X1_takeTape 0 := ⟨⟨by decide +kernel, by decide +kernel⟩, by decide +kernel, tw_543, tw_45⟩
theorem tw_540 : Cond.methodLink RX8 138 yX1_takeTape ∈ ab_T := ab_T_in (i := 540) (by decide +kernel) (by decide +kernel)
theorem tw_542 : Cond.selects RX1 yX1_takeTape yX1_takeTape ∈ ab_T := ab_T_in (i := 542) (by decide +kernel) (by decide +kernel)
theorem tw_541 : Cond.instanceMethod yX1_takeTape ∈ ab_T := ab_T_in (i := 541) (by decide +kernel) (by decide +kernel)
theorem cs_X8_138_2 : ab_cV RX8 138 2 Y_X1_takeTape 0 := ⟨pm_X1_takeTape, RX1, TX1, 5, rfl, Or.inl ⟨rfl, tw_540, tw_541, tw_542⟩⟩
theorem tw_547 : Cond.code yX1_readClauses cX1_readClauses 2 (some .int) ∈ ab_T := ab_T_in (i := 547) (by decide +kernel) (by decide +kernel)
theorem pm_X1_readClauses : ab_pm Y_X1_readClauses 0 := ⟨⟨by decide +kernel, by decide +kernel⟩, by decide +kernel, tw_547, tw_45⟩
theorem tw_544 : Cond.methodLink RX1 42 yX1_readClauses ∈ ab_T := ab_T_in (i := 544) (by decide +kernel) (by decide +kernel)
theorem tw_7 : Cond.selects RX1 yX1_readClauses yX1_readClauses ∈ ab_T := ab_T_in (i := 7) (by decide +kernel) (by decide +kernel)
theorem tw_546 : Cond.instanceMethod yX1_readClauses ∈ ab_T := ab_T_in (i := 546) (by decide +kernel) (by decide +kernel)
theorem cs_X1_42_2 : ab_cV RX1 42 2 Y_X1_readClauses 0 := ⟨pm_X1_readClauses, RX1, TX1, 5, rfl, Or.inl ⟨rfl, tw_544, tw_546, tw_7⟩⟩
theorem tw_551 : Cond.code yX1_readClause cX1_readClause 5 (some .boolean) ∈ ab_T := ab_T_in (i := 551) (by decide +kernel) (by decide +kernel)
theorem pm_X1_readClause : ab_pm Y_X1_readClause 0 := ⟨⟨by decide +kernel, by decide +kernel⟩, by decide +kernel, tw_551, tw_45⟩
theorem tw_548 : Cond.methodLink RX1 49 yX1_readClause ∈ ab_T := ab_T_in (i := 548) (by decide +kernel) (by decide +kernel)
theorem tw_8 : Cond.selects RX1 yX1_readClause yX1_readClause ∈ ab_T := ab_T_in (i := 8) (by decide +kernel) (by decide +kernel)
theorem tw_550 : Cond.instanceMethod yX1_readClause ∈ ab_T := ab_T_in (i := 550) (by decide +kernel) (by decide +kernel)
theorem cs_X1_49_2 : ab_cV RX1 49 2 Y_X1_readClause 0 := ⟨pm_X1_readClause, RX1, TX1, 5, rfl, Or.inl ⟨rfl, tw_548, tw_550, tw_8⟩⟩
theorem tw_555 : Cond.code yX1_readNumber cX1_readNumber 5 (some .int) ∈ ab_T := ab_T_in (i := 555) (by decide +kernel) (by decide +kernel)
theorem pm_X1_readNumber : ab_pm Y_X1_readNumber 2 := ⟨⟨by decide +kernel, by decide +kernel⟩, by decide +kernel, tw_555, tw_45⟩
theorem tw_552 : Cond.methodLink RX1 60 yX1_readNumber ∈ ab_T := ab_T_in (i := 552) (by decide +kernel) (by decide +kernel)
theorem tw_9 : Cond.selects RX1 yX1_readNumber yX1_readNumber ∈ ab_T := ab_T_in (i := 9) (by decide +kernel) (by decide +kernel)
theorem tw_554 : Cond.instanceMethod yX1_readNumber ∈ ab_T := ab_T_in (i := 554) (by decide +kernel) (by decide +kernel)
theorem cs_X1_60_2 : ab_cV RX1 60 2 Y_X1_readNumber 2 := ⟨pm_X1_readNumber, RX1, TX1, 5, rfl, Or.inl ⟨rfl, tw_552, tw_554, tw_9⟩⟩
theorem tw_559 : Cond.code yX1_skipBlanks cX1_skipBlanks 1 none ∈ ab_T := ab_T_in (i := 559) (by decide +kernel) (by decide +kernel)
theorem pm_X1_skipBlanks : ab_pm Y_X1_skipBlanks 0 := ⟨⟨by decide +kernel, by decide +kernel⟩, by decide +kernel, tw_559, tw_45⟩
theorem tw_556 : Cond.methodLink RX1 64 yX1_skipBlanks ∈ ab_T := ab_T_in (i := 556) (by decide +kernel) (by decide +kernel)
theorem tw_10 : Cond.selects RX1 yX1_skipBlanks yX1_skipBlanks ∈ ab_T := ab_T_in (i := 10) (by decide +kernel) (by decide +kernel)
theorem tw_558 : Cond.instanceMethod yX1_skipBlanks ∈ ab_T := ab_T_in (i := 558) (by decide +kernel) (by decide +kernel)
theorem cs_X1_64_2 : ab_cV RX1 64 2 Y_X1_skipBlanks 0 := ⟨pm_X1_skipBlanks, RX1, TX1, 5, rfl, Or.inl ⟨rfl, tw_556, tw_558, tw_10⟩⟩
theorem tw_560 : Cond.methodLink RX1 67 yJ9_min_7cf53 ∈ ab_T := ab_T_in (i := 560) (by decide +kernel) (by decide +kernel)
theorem cs_X1_67 : ab_cS RX1 67 Y_J9_min_7cf53 2 := ⟨pm_J9_min_7cf53, tw_560, tw_284⟩
theorem tw_564 : Cond.code yX1_readSign cX1_readSign 2 (some .boolean) ∈ ab_T := ab_T_in (i := 564) (by decide +kernel) (by decide +kernel)
theorem pm_X1_readSign : ab_pm Y_X1_readSign 1 := ⟨⟨by decide +kernel, by decide +kernel⟩, by decide +kernel, tw_564, tw_45⟩
theorem tw_561 : Cond.methodLink RX1 56 yX1_readSign ∈ ab_T := ab_T_in (i := 561) (by decide +kernel) (by decide +kernel)
theorem tw_11 : Cond.selects RX1 yX1_readSign yX1_readSign ∈ ab_T := ab_T_in (i := 11) (by decide +kernel) (by decide +kernel)
theorem tw_563 : Cond.instanceMethod yX1_readSign ∈ ab_T := ab_T_in (i := 563) (by decide +kernel) (by decide +kernel)
theorem cs_X1_56_2 : ab_cV RX1 56 2 Y_X1_readSign 1 := ⟨pm_X1_readSign, RX1, TX1, 5, rfl, Or.inl ⟨rfl, tw_561, tw_563, tw_11⟩⟩
theorem tw_568 : Cond.code yX1_isAtEnd cX1_isAtEnd 1 (some .boolean) ∈ ab_T := ab_T_in (i := 568) (by decide +kernel) (by decide +kernel)
theorem pm_X1_isAtEnd : ab_pm Y_X1_isAtEnd 0 := ⟨⟨by decide +kernel, by decide +kernel⟩, by decide +kernel, tw_568, tw_45⟩
theorem tw_565 : Cond.methodLink RX1 53 yX1_isAtEnd ∈ ab_T := ab_T_in (i := 565) (by decide +kernel) (by decide +kernel)
theorem tw_12 : Cond.selects RX1 yX1_isAtEnd yX1_isAtEnd ∈ ab_T := ab_T_in (i := 12) (by decide +kernel) (by decide +kernel)
theorem tw_567 : Cond.instanceMethod yX1_isAtEnd ∈ ab_T := ab_T_in (i := 567) (by decide +kernel) (by decide +kernel)
theorem cs_X1_53_2 : ab_cV RX1 53 2 Y_X1_isAtEnd 0 := ⟨pm_X1_isAtEnd, RX1, TX1, 5, rfl, Or.inl ⟨rfl, tw_565, tw_567, tw_12⟩⟩
theorem tw_572 : Cond.code yX1_useDraft cX1_useDraft 2 none ∈ ab_T := ab_T_in (i := 572) (by decide +kernel) (by decide +kernel)
theorem pm_X1_useDraft : ab_pm Y_X1_useDraft 0 := ⟨⟨by decide +kernel, by decide +kernel⟩, by decide +kernel, tw_572, tw_45⟩
theorem tw_569 : Cond.methodLink RX1 46 yX1_useDraft ∈ ab_T := ab_T_in (i := 569) (by decide +kernel) (by decide +kernel)
theorem tw_13 : Cond.selects RX1 yX1_useDraft yX1_useDraft ∈ ab_T := ab_T_in (i := 13) (by decide +kernel) (by decide +kernel)
theorem tw_571 : Cond.instanceMethod yX1_useDraft ∈ ab_T := ab_T_in (i := 571) (by decide +kernel) (by decide +kernel)
theorem cs_X1_46_2 : ab_cV RX1 46 2 Y_X1_useDraft 0 := ⟨pm_X1_useDraft, RX1, TX1, 5, rfl, Or.inl ⟨rfl, tw_569, tw_571, tw_13⟩⟩
theorem tw_576 : Cond.code yX8_fare cX8_fare 2 (some .int) ∈ ab_T := ab_T_in (i := 576) (by decide +kernel) (by decide +kernel)
theorem pm_X8_fare : ab_pm Y_X8_fare 1 := ⟨⟨by decide +kernel, by decide +kernel⟩, by decide +kernel, tw_576, tw_41⟩
theorem tw_573 : Cond.methodLink "WaterMenLaw" 67 yX8_fare ∈ ab_T := ab_T_in (i := 573) (by decide +kernel) (by decide +kernel)
theorem tw_575 : Cond.selects RX8 yX8_fare yX8_fare ∈ ab_T := ab_T_in (i := 575) (by decide +kernel) (by decide +kernel)
theorem tw_574 : Cond.instanceMethod yX8_fare ∈ ab_T := ab_T_in (i := 574) (by decide +kernel) (by decide +kernel)
theorem cs_L_67_9 : ab_cV "WaterMenLaw" 67 9 Y_X8_fare 1 := ⟨pm_X8_fare, RX8, TX8, 9, rfl, Or.inl ⟨rfl, tw_573, tw_574, tw_575⟩⟩
theorem tw_580 : Cond.code yX1_priceOf cX1_priceOf 2 (some .int) ∈ ab_T := ab_T_in (i := 580) (by decide +kernel) (by decide +kernel)
theorem pm_X1_priceOf : ab_pm Y_X1_priceOf 1 := ⟨⟨by decide +kernel, by decide +kernel⟩, by decide +kernel, tw_580, tw_45⟩
theorem tw_577 : Cond.methodLink RX8 141 yX1_priceOf ∈ ab_T := ab_T_in (i := 577) (by decide +kernel) (by decide +kernel)
theorem tw_579 : Cond.selects RX1 yX1_priceOf yX1_priceOf ∈ ab_T := ab_T_in (i := 579) (by decide +kernel) (by decide +kernel)
theorem tw_578 : Cond.instanceMethod yX1_priceOf ∈ ab_T := ab_T_in (i := 578) (by decide +kernel) (by decide +kernel)
theorem cs_X8_141_2 : ab_cV RX8 141 2 Y_X1_priceOf 1 := ⟨pm_X1_priceOf, RX1, TX1, 5, rfl, Or.inl ⟨rfl, tw_577, tw_578, tw_579⟩⟩
theorem tw_584 : Cond.code yX8_run cX8_run 3 (some .int) ∈ ab_T := ab_T_in (i := 584) (by decide +kernel) (by decide +kernel)
theorem pm_X8_run : ab_pm Y_X8_run 1 := ⟨⟨by decide +kernel, by decide +kernel⟩, by decide +kernel, tw_584, tw_41⟩
theorem tw_581 : Cond.methodLink "WaterMenLaw" 71 yX8_run ∈ ab_T := ab_T_in (i := 581) (by decide +kernel) (by decide +kernel)
theorem tw_583 : Cond.selects RX8 yX8_run yX8_run ∈ ab_T := ab_T_in (i := 583) (by decide +kernel) (by decide +kernel)
theorem tw_582 : Cond.instanceMethod yX8_run ∈ ab_T := ab_T_in (i := 582) (by decide +kernel) (by decide +kernel)
theorem cs_L_71_9 : ab_cV "WaterMenLaw" 71 9 Y_X8_run 1 := ⟨pm_X8_run, RX8, TX8, 9, rfl, Or.inl ⟨rfl, tw_581, tw_582, tw_583⟩⟩
theorem tw_588 : Cond.code yX8_passMinute cX8_passMinute 2 none ∈ ab_T := ab_T_in (i := 588) (by decide +kernel) (by decide +kernel)
theorem pm_X8_passMinute : ab_pm Y_X8_passMinute 0 := ⟨⟨by decide +kernel, by decide +kernel⟩, by decide +kernel, tw_588, tw_41⟩
theorem tw_585 : Cond.methodLink RX8 145 yX8_passMinute ∈ ab_T := ab_T_in (i := 585) (by decide +kernel) (by decide +kernel)
theorem tw_14 : Cond.selects RX8 yX8_passMinute yX8_passMinute ∈ ab_T := ab_T_in (i := 14) (by decide +kernel) (by decide +kernel)
theorem tw_587 : Cond.instanceMethod yX8_passMinute ∈ ab_T := ab_T_in (i := 587) (by decide +kernel) (by decide +kernel)
theorem cs_X8_145_9 : ab_cV RX8 145 9 Y_X8_passMinute 0 := ⟨pm_X8_passMinute, RX8, TX8, 9, rfl, Or.inl ⟨rfl, tw_585, tw_587, tw_14⟩⟩
theorem tw_592 : Cond.code yX8_letFlow cX8_letFlow 4 none ∈ ab_T := ab_T_in (i := 592) (by decide +kernel) (by decide +kernel)
theorem pm_X8_letFlow : ab_pm Y_X8_letFlow 1 := ⟨⟨by decide +kernel, by decide +kernel⟩, by decide +kernel, tw_592, tw_41⟩
theorem tw_589 : Cond.methodLink RX8 230 yX8_letFlow ∈ ab_T := ab_T_in (i := 589) (by decide +kernel) (by decide +kernel)
theorem tw_15 : Cond.selects RX8 yX8_letFlow yX8_letFlow ∈ ab_T := ab_T_in (i := 15) (by decide +kernel) (by decide +kernel)
theorem tw_591 : Cond.instanceMethod yX8_letFlow ∈ ab_T := ab_T_in (i := 591) (by decide +kernel) (by decide +kernel)
theorem cs_X8_230_9 : ab_cV RX8 230 9 Y_X8_letFlow 1 := ⟨pm_X8_letFlow, RX8, TX8, 9, rfl, Or.inl ⟨rfl, tw_589, tw_591, tw_15⟩⟩
theorem tw_593 : Cond.methodLink RX8 247 yJ9_max_7cf53 ∈ ab_T := ab_T_in (i := 593) (by decide +kernel) (by decide +kernel)
theorem cs_X8_247 : ab_cS RX8 247 Y_J9_max_7cf53 2 := ⟨pm_J9_max_7cf53, tw_593, tw_253⟩
theorem tw_597 : Cond.code yX8_fillNext cX8_fillNext 4 none ∈ ab_T := ab_T_in (i := 597) (by decide +kernel) (by decide +kernel)
theorem pm_X8_fillNext : ab_pm Y_X8_fillNext 1 := ⟨⟨by decide +kernel, by decide +kernel⟩, by decide +kernel, tw_597, tw_41⟩
theorem tw_594 : Cond.methodLink RX8 234 yX8_fillNext ∈ ab_T := ab_T_in (i := 594) (by decide +kernel) (by decide +kernel)
theorem tw_16 : Cond.selects RX8 yX8_fillNext yX8_fillNext ∈ ab_T := ab_T_in (i := 16) (by decide +kernel) (by decide +kernel)
theorem tw_596 : Cond.instanceMethod yX8_fillNext ∈ ab_T := ab_T_in (i := 596) (by decide +kernel) (by decide +kernel)
theorem cs_X8_234_9 : ab_cV RX8 234 9 Y_X8_fillNext 1 := ⟨pm_X8_fillNext, RX8, TX8, 9, rfl, Or.inl ⟨rfl, tw_594, tw_596, tw_16⟩⟩
theorem tw_601 : Cond.code yX2_nextToFill cX2_nextToFill 4 (some (.object "WaterMen$Man")) ∈ ab_T := ab_T_in (i := 601) (by decide +kernel) (by decide +kernel)
theorem pm_X2_nextToFill : ab_pm Y_X2_nextToFill 0 := ⟨⟨by decide +kernel, by decide +kernel⟩, by decide +kernel, tw_601, tw_50⟩
theorem tw_598 : Cond.methodLink RX8 252 yX2_nextToFill ∈ ab_T := ab_T_in (i := 598) (by decide +kernel) (by decide +kernel)
theorem tw_600 : Cond.selects RX2 yX2_nextToFill yX2_nextToFill ∈ ab_T := ab_T_in (i := 600) (by decide +kernel) (by decide +kernel)
theorem tw_599 : Cond.instanceMethod yX2_nextToFill ∈ ab_T := ab_T_in (i := 599) (by decide +kernel) (by decide +kernel)
theorem cs_X8_252_3 : ab_cV RX8 252 3 Y_X2_nextToFill 0 := ⟨pm_X2_nextToFill, RX2, TX2, 6, rfl, Or.inl ⟨rfl, tw_598, tw_599, tw_600⟩⟩
theorem tw_602 : Cond.methodLink RX2 33 yJx4a65c_size_8abf5 ∈ ab_T := ab_T_in (i := 602) (by decide +kernel) (by decide +kernel)
theorem cs_X2_33_0 : ab_cV RX2 33 0 Y_Jx4a65c_size_8abf5 0 := ⟨pm_Jx4a65c_size_8abf5, RJx4a65c, TJx4a65c, 3, rfl, Or.inl ⟨rfl, tw_602, tw_196, tw_197⟩⟩
theorem tw_603 : Cond.methodLink RX2 37 yJx4a65c_get_915e3 ∈ ab_T := ab_T_in (i := 603) (by decide +kernel) (by decide +kernel)
theorem cs_X2_37_0 : ab_cV RX2 37 0 Y_Jx4a65c_get_915e3 1 := ⟨pm_Jx4a65c_get_915e3, RJx4a65c, TJx4a65c, 3, rfl, Or.inl ⟨rfl, tw_603, tw_340, tw_341⟩⟩
theorem tw_604 : Cond.classLink RX2 41 RX5 ∈ ab_T := ab_T_in (i := 604) (by decide +kernel) (by decide +kernel)
theorem tw_605 : Cond.methodLink RX8 259 yJ9_min_7cf53 ∈ ab_T := ab_T_in (i := 605) (by decide +kernel) (by decide +kernel)
theorem cs_X8_259 : ab_cS RX8 259 Y_J9_min_7cf53 2 := ⟨pm_J9_min_7cf53, tw_605, tw_284⟩
theorem tw_612 : Cond.code yX5_goUp cX5_goUp 2 none ∈ ab_T := ab_T_in (i := 612) (by decide +kernel) (by decide +kernel)
theorem pm_X5_goUp : ab_pm Y_X5_goUp 1 := ⟨⟨by decide +kernel, by decide +kernel⟩, by decide +kernel, tw_612, tw_57⟩
theorem tw_606 : Cond.methodLink RX8 268 yX5_goUp ∈ ab_T := ab_T_in (i := 606) (by decide +kernel) (by decide +kernel)
theorem tw_610 : Cond.selects RX0 yX5_goUp yX5_goUp ∈ ab_T := ab_T_in (i := 610) (by decide +kernel) (by decide +kernel)
theorem tw_607 : Cond.instanceMethod yX5_goUp ∈ ab_T := ab_T_in (i := 607) (by decide +kernel) (by decide +kernel)
theorem tw_609 : Cond.sameMethod "WaterMen$Man" "WaterMen$Man" "goUp" "(I)V" ∈ ab_T := ab_T_in (i := 609) (by decide +kernel) (by decide +kernel)
theorem cs_X8_268_1 : ab_cV RX8 268 1 Y_X5_goUp 1 := ⟨pm_X5_goUp, RX0, TX0, 13, rfl, Or.inr ⟨yX5_goUp, "WaterMen$Man", cX5_goUp, 2, none, ⟨by decide +kernel, by decide +kernel⟩, by decide +kernel, tw_606, tw_609, tw_607, tw_612, tw_610, tw_607⟩⟩
theorem tw_608 : Cond.selects RX5 yX5_goUp yX5_goUp ∈ ab_T := ab_T_in (i := 608) (by decide +kernel) (by decide +kernel)
theorem cs_X8_268_6 : ab_cV RX8 268 6 Y_X5_goUp 1 := ⟨pm_X5_goUp, RX5, TX5, 12, rfl, Or.inl ⟨rfl, tw_606, tw_607, tw_608⟩⟩
theorem tw_611 : Cond.selects RX7 yX5_goUp yX5_goUp ∈ ab_T := ab_T_in (i := 611) (by decide +kernel) (by decide +kernel)
theorem cs_X8_268_8 : ab_cV RX8 268 8 Y_X5_goUp 1 := ⟨pm_X5_goUp, RX7, TX7, 12, rfl, Or.inr ⟨yX5_goUp, "WaterMen$Man", cX5_goUp, 2, none, ⟨by decide +kernel, by decide +kernel⟩, by decide +kernel, tw_606, tw_609, tw_607, tw_612, tw_611, tw_607⟩⟩
theorem tw_619 : Cond.code yX5_wayUp cX5_wayUp 2 (some .int) ∈ ab_T := ab_T_in (i := 619) (by decide +kernel) (by decide +kernel)
theorem pm_X5_wayUp : ab_pm Y_X5_wayUp 1 := ⟨⟨by decide +kernel, by decide +kernel⟩, by decide +kernel, tw_619, tw_57⟩
theorem tw_613 : Cond.methodLink RX5 74 yX5_wayUp ∈ ab_T := ab_T_in (i := 613) (by decide +kernel) (by decide +kernel)
theorem tw_617 : Cond.selects RX0 yX5_wayUp yX5_wayUp ∈ ab_T := ab_T_in (i := 617) (by decide +kernel) (by decide +kernel)
theorem tw_614 : Cond.instanceMethod yX5_wayUp ∈ ab_T := ab_T_in (i := 614) (by decide +kernel) (by decide +kernel)
theorem tw_616 : Cond.sameMethod "WaterMen$Man" "WaterMen$Man" "wayUp" "(LWaterMen$Jar;)I" ∈ ab_T := ab_T_in (i := 616) (by decide +kernel) (by decide +kernel)
theorem cs_X5_74_1 : ab_cV RX5 74 1 Y_X5_wayUp 1 := ⟨pm_X5_wayUp, RX0, TX0, 13, rfl, Or.inr ⟨yX5_wayUp, "WaterMen$Man", cX5_wayUp, 2, (some .int), ⟨by decide +kernel, by decide +kernel⟩, by decide +kernel, tw_613, tw_616, tw_614, tw_619, tw_617, tw_614⟩⟩
theorem tw_615 : Cond.selects RX5 yX5_wayUp yX5_wayUp ∈ ab_T := ab_T_in (i := 615) (by decide +kernel) (by decide +kernel)
theorem cs_X5_74_6 : ab_cV RX5 74 6 Y_X5_wayUp 1 := ⟨pm_X5_wayUp, RX5, TX5, 12, rfl, Or.inl ⟨rfl, tw_613, tw_614, tw_615⟩⟩
theorem tw_618 : Cond.selects RX7 yX5_wayUp yX5_wayUp ∈ ab_T := ab_T_in (i := 618) (by decide +kernel) (by decide +kernel)
theorem cs_X5_74_8 : ab_cV RX5 74 8 Y_X5_wayUp 1 := ⟨pm_X5_wayUp, RX7, TX7, 12, rfl, Or.inr ⟨yX5_wayUp, "WaterMen$Man", cX5_wayUp, 2, (some .int), ⟨by decide +kernel, by decide +kernel⟩, by decide +kernel, tw_613, tw_616, tw_614, tw_619, tw_618, tw_614⟩⟩
theorem tw_626 : Cond.code yX5_wayDown cX5_wayDown 2 (some .int) ∈ ab_T := ab_T_in (i := 626) (by decide +kernel) (by decide +kernel)
theorem pm_X5_wayDown : ab_pm Y_X5_wayDown 1 := ⟨⟨by decide +kernel, by decide +kernel⟩, by decide +kernel, tw_626, tw_57⟩
theorem tw_620 : Cond.methodLink RX5 55 yX5_wayDown ∈ ab_T := ab_T_in (i := 620) (by decide +kernel) (by decide +kernel)
theorem tw_624 : Cond.selects RX0 yX5_wayDown yX5_wayDown ∈ ab_T := ab_T_in (i := 624) (by decide +kernel) (by decide +kernel)
theorem tw_621 : Cond.instanceMethod yX5_wayDown ∈ ab_T := ab_T_in (i := 621) (by decide +kernel) (by decide +kernel)
theorem tw_623 : Cond.sameMethod "WaterMen$Man" "WaterMen$Man" "wayDown" "(LWaterMen$Jar;)I" ∈ ab_T := ab_T_in (i := 623) (by decide +kernel) (by decide +kernel)
theorem cs_X5_55_1 : ab_cV RX5 55 1 Y_X5_wayDown 1 := ⟨pm_X5_wayDown, RX0, TX0, 13, rfl, Or.inr ⟨yX5_wayDown, "WaterMen$Man", cX5_wayDown, 2, (some .int), ⟨by decide +kernel, by decide +kernel⟩, by decide +kernel, tw_620, tw_623, tw_621, tw_626, tw_624, tw_621⟩⟩
theorem tw_622 : Cond.selects RX5 yX5_wayDown yX5_wayDown ∈ ab_T := ab_T_in (i := 622) (by decide +kernel) (by decide +kernel)
theorem cs_X5_55_6 : ab_cV RX5 55 6 Y_X5_wayDown 1 := ⟨pm_X5_wayDown, RX5, TX5, 12, rfl, Or.inl ⟨rfl, tw_620, tw_621, tw_622⟩⟩
theorem tw_625 : Cond.selects RX7 yX5_wayDown yX5_wayDown ∈ ab_T := ab_T_in (i := 625) (by decide +kernel) (by decide +kernel)
theorem cs_X5_55_8 : ab_cV RX5 55 8 Y_X5_wayDown 1 := ⟨pm_X5_wayDown, RX7, TX7, 12, rfl, Or.inr ⟨yX5_wayDown, "WaterMen$Man", cX5_wayDown, 2, (some .int), ⟨by decide +kernel, by decide +kernel⟩, by decide +kernel, tw_620, tw_623, tw_621, tw_626, tw_625, tw_621⟩⟩
theorem tw_630 : Cond.code yX4_minutesFrom cX4_minutesFrom 3 (some .int) ∈ ab_T := ab_T_in (i := 630) (by decide +kernel) (by decide +kernel)
theorem pm_X4_minutesFrom : ab_pm Y_X4_minutesFrom 1 := ⟨⟨by decide +kernel, by decide +kernel⟩, by decide +kernel, tw_630, tw_54⟩
theorem tw_627 : Cond.methodLink RX5 63 yX4_minutesFrom ∈ ab_T := ab_T_in (i := 627) (by decide +kernel) (by decide +kernel)
theorem tw_629 : Cond.selects RX4 yX4_minutesFrom yX4_minutesFrom ∈ ab_T := ab_T_in (i := 629) (by decide +kernel) (by decide +kernel)
theorem tw_628 : Cond.instanceMethod yX4_minutesFrom ∈ ab_T := ab_T_in (i := 628) (by decide +kernel) (by decide +kernel)
theorem cs_X5_63_5 : ab_cV RX5 63 5 Y_X4_minutesFrom 1 := ⟨pm_X4_minutesFrom, RX4, TX4, 7, rfl, Or.inl ⟨rfl, tw_627, tw_628, tw_629⟩⟩
theorem tw_637 : Cond.code yX0_walkTime cX0_walkTime 2 (some .int) ∈ ab_T := ab_T_in (i := 637) (by decide +kernel) (by decide +kernel)
theorem pm_X0_walkTime : ab_pm Y_X0_walkTime 1 := ⟨⟨by decide +kernel, by decide +kernel⟩, by decide +kernel, tw_637, tw_59⟩
theorem tw_631 : Cond.methodLink RX5 67 yX5_walkTime ∈ ab_T := ab_T_in (i := 631) (by decide +kernel) (by decide +kernel)
theorem tw_635 : Cond.selects RX0 yX5_walkTime yX0_walkTime ∈ ab_T := ab_T_in (i := 635) (by decide +kernel) (by decide +kernel)
theorem tw_636 : Cond.instanceMethod yX0_walkTime ∈ ab_T := ab_T_in (i := 636) (by decide +kernel) (by decide +kernel)
theorem tw_634 : Cond.sameMethod "WaterMen$Man" "WaterMen$Man" "walkTime" "(I)I" ∈ ab_T := ab_T_in (i := 634) (by decide +kernel) (by decide +kernel)
theorem tw_632 : Cond.instanceMethod yX5_walkTime ∈ ab_T := ab_T_in (i := 632) (by decide +kernel) (by decide +kernel)
theorem tw_642 : Cond.code yX5_walkTime cX5_walkTime 2 (some .int) ∈ ab_T := ab_T_in (i := 642) (by decide +kernel) (by decide +kernel)
theorem cs_X5_67_1 : ab_cV RX5 67 1 Y_X0_walkTime 1 := ⟨pm_X0_walkTime, RX0, TX0, 13, rfl, Or.inr ⟨yX5_walkTime, "WaterMen$Man", cX5_walkTime, 2, (some .int), ⟨by decide +kernel, by decide +kernel⟩, by decide +kernel, tw_631, tw_634, tw_632, tw_642, tw_635, tw_636⟩⟩
theorem pm_X5_walkTime : ab_pm Y_X5_walkTime 1 := ⟨⟨by decide +kernel, by decide +kernel⟩, by decide +kernel, tw_642, tw_57⟩
theorem tw_633 : Cond.selects RX5 yX5_walkTime yX5_walkTime ∈ ab_T := ab_T_in (i := 633) (by decide +kernel) (by decide +kernel)
theorem cs_X5_67_6 : ab_cV RX5 67 6 Y_X5_walkTime 1 := ⟨pm_X5_walkTime, RX5, TX5, 12, rfl, Or.inl ⟨rfl, tw_631, tw_632, tw_633⟩⟩
theorem tw_641 : Cond.selects RX7 yX5_walkTime yX5_walkTime ∈ ab_T := ab_T_in (i := 641) (by decide +kernel) (by decide +kernel)
theorem cs_X5_67_8 : ab_cV RX5 67 8 Y_X5_walkTime 1 := ⟨pm_X5_walkTime, RX7, TX7, 12, rfl, Or.inr ⟨yX5_walkTime, "WaterMen$Man", cX5_walkTime, 2, (some .int), ⟨by decide +kernel, by decide +kernel⟩, by decide +kernel, tw_631, tw_634, tw_632, tw_642, tw_641, tw_632⟩⟩
theorem tw_640 : Cond.code yX8_cutUp cX8_cutUp 2 (some .int) ∈ ab_T := ab_T_in (i := 640) (by decide +kernel) (by decide +kernel)
theorem pm_X8_cutUp : ab_pm Y_X8_cutUp 2 := ⟨⟨by decide +kernel, by decide +kernel⟩, by decide +kernel, tw_640, tw_41⟩
theorem tw_639 : Cond.static yX8_cutUp ∈ ab_T := ab_T_in (i := 639) (by decide +kernel) (by decide +kernel)
theorem cs_X0_15 : ab_cN RX0 15 Y_X8_cutUp 2 := ⟨pm_X8_cutUp, ⟨"WaterMen", ab_nest_in (i := 638) (by decide +kernel) rfl⟩, tw_639⟩
theorem tw_649 : Cond.code yX0_climbTime cX0_climbTime 2 (some .int) ∈ ab_T := ab_T_in (i := 649) (by decide +kernel) (by decide +kernel)
theorem pm_X0_climbTime : ab_pm Y_X0_climbTime 1 := ⟨⟨by decide +kernel, by decide +kernel⟩, by decide +kernel, tw_649, tw_59⟩
theorem tw_643 : Cond.methodLink RX5 59 yX5_climbTime ∈ ab_T := ab_T_in (i := 643) (by decide +kernel) (by decide +kernel)
theorem tw_647 : Cond.selects RX0 yX5_climbTime yX0_climbTime ∈ ab_T := ab_T_in (i := 647) (by decide +kernel) (by decide +kernel)
theorem tw_648 : Cond.instanceMethod yX0_climbTime ∈ ab_T := ab_T_in (i := 648) (by decide +kernel) (by decide +kernel)
theorem tw_646 : Cond.sameMethod "WaterMen$Man" "WaterMen$Man" "climbTime" "(I)I" ∈ ab_T := ab_T_in (i := 646) (by decide +kernel) (by decide +kernel)
theorem tw_644 : Cond.instanceMethod yX5_climbTime ∈ ab_T := ab_T_in (i := 644) (by decide +kernel) (by decide +kernel)
theorem tw_654 : Cond.code yX5_climbTime cX5_climbTime 2 (some .int) ∈ ab_T := ab_T_in (i := 654) (by decide +kernel) (by decide +kernel)
theorem cs_X5_59_1 : ab_cV RX5 59 1 Y_X0_climbTime 1 := ⟨pm_X0_climbTime, RX0, TX0, 13, rfl, Or.inr ⟨yX5_climbTime, "WaterMen$Man", cX5_climbTime, 2, (some .int), ⟨by decide +kernel, by decide +kernel⟩, by decide +kernel, tw_643, tw_646, tw_644, tw_654, tw_647, tw_648⟩⟩
theorem pm_X5_climbTime : ab_pm Y_X5_climbTime 1 := ⟨⟨by decide +kernel, by decide +kernel⟩, by decide +kernel, tw_654, tw_57⟩
theorem tw_645 : Cond.selects RX5 yX5_climbTime yX5_climbTime ∈ ab_T := ab_T_in (i := 645) (by decide +kernel) (by decide +kernel)
theorem cs_X5_59_6 : ab_cV RX5 59 6 Y_X5_climbTime 1 := ⟨pm_X5_climbTime, RX5, TX5, 12, rfl, Or.inl ⟨rfl, tw_643, tw_644, tw_645⟩⟩
theorem tw_652 : Cond.code yX7_climbTime cX7_climbTime 2 (some .int) ∈ ab_T := ab_T_in (i := 652) (by decide +kernel) (by decide +kernel)
theorem pm_X7_climbTime : ab_pm Y_X7_climbTime 1 := ⟨⟨by decide +kernel, by decide +kernel⟩, by decide +kernel, tw_652, tw_58⟩
theorem tw_650 : Cond.selects RX7 yX5_climbTime yX7_climbTime ∈ ab_T := ab_T_in (i := 650) (by decide +kernel) (by decide +kernel)
theorem tw_651 : Cond.instanceMethod yX7_climbTime ∈ ab_T := ab_T_in (i := 651) (by decide +kernel) (by decide +kernel)
theorem cs_X5_59_8 : ab_cV RX5 59 8 Y_X7_climbTime 1 := ⟨pm_X7_climbTime, RX7, TX7, 12, rfl, Or.inr ⟨yX5_climbTime, "WaterMen$Man", cX5_climbTime, 2, (some .int), ⟨by decide +kernel, by decide +kernel⟩, by decide +kernel, tw_643, tw_646, tw_644, tw_654, tw_650, tw_651⟩⟩
theorem cs_X7_9 : ab_cN RX7 9 Y_X8_cutUp 2 := ⟨pm_X8_cutUp, ⟨"WaterMen", ab_nest_in (i := 653) (by decide +kernel) rfl⟩, tw_639⟩
theorem tw_658 : Cond.code yX8_walk cX8_walk 2 none ∈ ab_T := ab_T_in (i := 658) (by decide +kernel) (by decide +kernel)
theorem pm_X8_walk : ab_pm Y_X8_walk 1 := ⟨⟨by decide +kernel, by decide +kernel⟩, by decide +kernel, tw_658, tw_41⟩
theorem tw_655 : Cond.methodLink RX8 237 yX8_walk ∈ ab_T := ab_T_in (i := 655) (by decide +kernel) (by decide +kernel)
theorem tw_17 : Cond.selects RX8 yX8_walk yX8_walk ∈ ab_T := ab_T_in (i := 17) (by decide +kernel) (by decide +kernel)
theorem tw_657 : Cond.instanceMethod yX8_walk ∈ ab_T := ab_T_in (i := 657) (by decide +kernel) (by decide +kernel)
theorem cs_X8_237_9 : ab_cV RX8 237 9 Y_X8_walk 1 := ⟨pm_X8_walk, RX8, TX8, 9, rfl, Or.inl ⟨rfl, tw_655, tw_657, tw_17⟩⟩
theorem tw_662 : Cond.code yX8_pour cX8_pour 5 none ∈ ab_T := ab_T_in (i := 662) (by decide +kernel) (by decide +kernel)
theorem pm_X8_pour : ab_pm Y_X8_pour 1 := ⟨⟨by decide +kernel, by decide +kernel⟩, by decide +kernel, tw_662, tw_41⟩
theorem tw_659 : Cond.methodLink RX8 275 yX8_pour ∈ ab_T := ab_T_in (i := 659) (by decide +kernel) (by decide +kernel)
theorem tw_18 : Cond.selects RX8 yX8_pour yX8_pour ∈ ab_T := ab_T_in (i := 18) (by decide +kernel) (by decide +kernel)
theorem tw_661 : Cond.instanceMethod yX8_pour ∈ ab_T := ab_T_in (i := 661) (by decide +kernel) (by decide +kernel)
theorem cs_X8_275_9 : ab_cV RX8 275 9 Y_X8_pour 1 := ⟨pm_X8_pour, RX8, TX8, 9, rfl, Or.inl ⟨rfl, tw_659, tw_661, tw_18⟩⟩
theorem tw_666 : Cond.code yX6_keep cX6_keep 5 none ∈ ab_T := ab_T_in (i := 666) (by decide +kernel) (by decide +kernel)
theorem pm_X6_keep : ab_pm Y_X6_keep 3 := ⟨⟨by decide +kernel, by decide +kernel⟩, by decide +kernel, tw_666, tw_47⟩
theorem tw_663 : Cond.methodLink RX8 284 yX6_keep ∈ ab_T := ab_T_in (i := 663) (by decide +kernel) (by decide +kernel)
theorem tw_665 : Cond.selects RX6 yX6_keep yX6_keep ∈ ab_T := ab_T_in (i := 665) (by decide +kernel) (by decide +kernel)
theorem tw_664 : Cond.instanceMethod yX6_keep ∈ ab_T := ab_T_in (i := 664) (by decide +kernel) (by decide +kernel)
theorem cs_X8_284_7 : ab_cV RX8 284 7 Y_X6_keep 3 := ⟨pm_X6_keep, RX6, TX6, 3, rfl, Or.inl ⟨rfl, tw_663, tw_664, tw_665⟩⟩
theorem tw_667 : Cond.methodLink RX6 40 yJ9_min_7cf53 ∈ ab_T := ab_T_in (i := 667) (by decide +kernel) (by decide +kernel)
theorem cs_X6_40 : ab_cS RX6 40 Y_J9_min_7cf53 2 := ⟨pm_J9_min_7cf53, tw_667, tw_284⟩
theorem tw_674 : Cond.code yX5_goDown cX5_goDown 1 none ∈ ab_T := ab_T_in (i := 674) (by decide +kernel) (by decide +kernel)
theorem pm_X5_goDown : ab_pm Y_X5_goDown 0 := ⟨⟨by decide +kernel, by decide +kernel⟩, by decide +kernel, tw_674, tw_57⟩
theorem tw_668 : Cond.methodLink RX8 191 yX5_goDown ∈ ab_T := ab_T_in (i := 668) (by decide +kernel) (by decide +kernel)
theorem tw_672 : Cond.selects RX0 yX5_goDown yX5_goDown ∈ ab_T := ab_T_in (i := 672) (by decide +kernel) (by decide +kernel)
theorem tw_669 : Cond.instanceMethod yX5_goDown ∈ ab_T := ab_T_in (i := 669) (by decide +kernel) (by decide +kernel)
theorem tw_671 : Cond.sameMethod "WaterMen$Man" "WaterMen$Man" "goDown" "()V" ∈ ab_T := ab_T_in (i := 671) (by decide +kernel) (by decide +kernel)
theorem cs_X8_191_1 : ab_cV RX8 191 1 Y_X5_goDown 0 := ⟨pm_X5_goDown, RX0, TX0, 13, rfl, Or.inr ⟨yX5_goDown, "WaterMen$Man", cX5_goDown, 1, none, ⟨by decide +kernel, by decide +kernel⟩, by decide +kernel, tw_668, tw_671, tw_669, tw_674, tw_672, tw_669⟩⟩
theorem tw_670 : Cond.selects RX5 yX5_goDown yX5_goDown ∈ ab_T := ab_T_in (i := 670) (by decide +kernel) (by decide +kernel)
theorem cs_X8_191_6 : ab_cV RX8 191 6 Y_X5_goDown 0 := ⟨pm_X5_goDown, RX5, TX5, 12, rfl, Or.inl ⟨rfl, tw_668, tw_669, tw_670⟩⟩
theorem tw_673 : Cond.selects RX7 yX5_goDown yX5_goDown ∈ ab_T := ab_T_in (i := 673) (by decide +kernel) (by decide +kernel)
theorem cs_X8_191_8 : ab_cV RX8 191 8 Y_X5_goDown 0 := ⟨pm_X5_goDown, RX7, TX7, 12, rfl, Or.inr ⟨yX5_goDown, "WaterMen$Man", cX5_goDown, 1, none, ⟨by decide +kernel, by decide +kernel⟩, by decide +kernel, tw_668, tw_671, tw_669, tw_674, tw_673, tw_669⟩⟩
theorem tw_678 : Cond.code yX4_drinkOnce cX4_drinkOnce 2 (some .int) ∈ ab_T := ab_T_in (i := 678) (by decide +kernel) (by decide +kernel)
theorem pm_X4_drinkOnce : ab_pm Y_X4_drinkOnce 0 := ⟨⟨by decide +kernel, by decide +kernel⟩, by decide +kernel, tw_678, tw_54⟩
theorem tw_675 : Cond.methodLink RX8 241 yX4_drinkOnce ∈ ab_T := ab_T_in (i := 675) (by decide +kernel) (by decide +kernel)
theorem tw_677 : Cond.selects RX4 yX4_drinkOnce yX4_drinkOnce ∈ ab_T := ab_T_in (i := 677) (by decide +kernel) (by decide +kernel)
theorem tw_676 : Cond.instanceMethod yX4_drinkOnce ∈ ab_T := ab_T_in (i := 676) (by decide +kernel) (by decide +kernel)
theorem cs_X8_241_5 : ab_cV RX8 241 5 Y_X4_drinkOnce 0 := ⟨pm_X4_drinkOnce, RX4, TX4, 7, rfl, Or.inl ⟨rfl, tw_675, tw_676, tw_677⟩⟩
theorem tw_679 : Cond.methodLink RX4 35 yJ9_min_7cf53 ∈ ab_T := ab_T_in (i := 679) (by decide +kernel) (by decide +kernel)
theorem cs_X4_35 : ab_cS RX4 35 Y_J9_min_7cf53 2 := ⟨pm_J9_min_7cf53, tw_679, tw_284⟩
theorem tw_683 : Cond.code yX8_told cX8_told 4 (some .int) ∈ ab_T := ab_T_in (i := 683) (by decide +kernel) (by decide +kernel)
theorem pm_X8_told : ab_pm Y_X8_told 2 := ⟨⟨by decide +kernel, by decide +kernel⟩, by decide +kernel, tw_683, tw_41⟩
theorem tw_680 : Cond.methodLink "WaterMenLaw" 75 yX8_told ∈ ab_T := ab_T_in (i := 680) (by decide +kernel) (by decide +kernel)
theorem tw_682 : Cond.selects RX8 yX8_told yX8_told ∈ ab_T := ab_T_in (i := 682) (by decide +kernel) (by decide +kernel)
theorem tw_681 : Cond.instanceMethod yX8_told ∈ ab_T := ab_T_in (i := 681) (by decide +kernel) (by decide +kernel)
theorem cs_L_75_9 : ab_cV "WaterMenLaw" 75 9 Y_X8_told 2 := ⟨pm_X8_told, RX8, TX8, 9, rfl, Or.inl ⟨rfl, tw_680, tw_681, tw_682⟩⟩
theorem tw_687 : Cond.code yX2_countAhead cX2_countAhead 6 (some .int) ∈ ab_T := ab_T_in (i := 687) (by decide +kernel) (by decide +kernel)
theorem pm_X2_countAhead : ab_pm Y_X2_countAhead 1 := ⟨⟨by decide +kernel, by decide +kernel⟩, by decide +kernel, tw_687, tw_50⟩
theorem tw_684 : Cond.methodLink RX8 148 yX2_countAhead ∈ ab_T := ab_T_in (i := 684) (by decide +kernel) (by decide +kernel)
theorem tw_686 : Cond.selects RX2 yX2_countAhead yX2_countAhead ∈ ab_T := ab_T_in (i := 686) (by decide +kernel) (by decide +kernel)
theorem tw_685 : Cond.instanceMethod yX2_countAhead ∈ ab_T := ab_T_in (i := 685) (by decide +kernel) (by decide +kernel)
theorem cs_X8_148_3 : ab_cV RX8 148 3 Y_X2_countAhead 1 := ⟨pm_X2_countAhead, RX2, TX2, 6, rfl, Or.inl ⟨rfl, tw_684, tw_685, tw_686⟩⟩
theorem tw_688 : Cond.methodLink RX8 165 yX5_wayUp ∈ ab_T := ab_T_in (i := 688) (by decide +kernel) (by decide +kernel)
theorem cs_X8_165_1 : ab_cV RX8 165 1 Y_X5_wayUp 1 := ⟨pm_X5_wayUp, RX0, TX0, 13, rfl, Or.inr ⟨yX5_wayUp, "WaterMen$Man", cX5_wayUp, 2, (some .int), ⟨by decide +kernel, by decide +kernel⟩, by decide +kernel, tw_688, tw_616, tw_614, tw_619, tw_617, tw_614⟩⟩
theorem cs_X8_165_6 : ab_cV RX8 165 6 Y_X5_wayUp 1 := ⟨pm_X5_wayUp, RX5, TX5, 12, rfl, Or.inl ⟨rfl, tw_688, tw_614, tw_615⟩⟩
theorem cs_X8_165_8 : ab_cV RX8 165 8 Y_X5_wayUp 1 := ⟨pm_X5_wayUp, RX7, TX7, 12, rfl, Or.inr ⟨yX5_wayUp, "WaterMen$Man", cX5_wayUp, 2, (some .int), ⟨by decide +kernel, by decide +kernel⟩, by decide +kernel, tw_688, tw_616, tw_614, tw_619, tw_618, tw_614⟩⟩
theorem tw_689 : Cond.methodLink RX8 169 yX5_wayDown ∈ ab_T := ab_T_in (i := 689) (by decide +kernel) (by decide +kernel)
theorem cs_X8_169_1 : ab_cV RX8 169 1 Y_X5_wayDown 1 := ⟨pm_X5_wayDown, RX0, TX0, 13, rfl, Or.inr ⟨yX5_wayDown, "WaterMen$Man", cX5_wayDown, 2, (some .int), ⟨by decide +kernel, by decide +kernel⟩, by decide +kernel, tw_689, tw_623, tw_621, tw_626, tw_624, tw_621⟩⟩
theorem cs_X8_169_6 : ab_cV RX8 169 6 Y_X5_wayDown 1 := ⟨pm_X5_wayDown, RX5, TX5, 12, rfl, Or.inl ⟨rfl, tw_689, tw_621, tw_622⟩⟩
theorem cs_X8_169_8 : ab_cV RX8 169 8 Y_X5_wayDown 1 := ⟨pm_X5_wayDown, RX7, TX7, 12, rfl, Or.inr ⟨yX5_wayDown, "WaterMen$Man", cX5_wayDown, 2, (some .int), ⟨by decide +kernel, by decide +kernel⟩, by decide +kernel, tw_689, tw_623, tw_621, tw_626, tw_625, tw_621⟩⟩
theorem tw_696 : Cond.code yX0_kind cX0_kind 1 (some .int) ∈ ab_T := ab_T_in (i := 696) (by decide +kernel) (by decide +kernel)
theorem pm_X0_kind : ab_pm Y_X0_kind 0 := ⟨⟨by decide +kernel, by decide +kernel⟩, by decide +kernel, tw_696, tw_59⟩
theorem tw_690 : Cond.methodLink RX8 172 yX5_kind ∈ ab_T := ab_T_in (i := 690) (by decide +kernel) (by decide +kernel)
theorem tw_694 : Cond.selects RX0 yX5_kind yX0_kind ∈ ab_T := ab_T_in (i := 694) (by decide +kernel) (by decide +kernel)
theorem tw_695 : Cond.instanceMethod yX0_kind ∈ ab_T := ab_T_in (i := 695) (by decide +kernel) (by decide +kernel)
theorem tw_693 : Cond.sameMethod "WaterMen$Man" "WaterMen$Man" "kind" "()I" ∈ ab_T := ab_T_in (i := 693) (by decide +kernel) (by decide +kernel)
theorem tw_691 : Cond.instanceMethod yX5_kind ∈ ab_T := ab_T_in (i := 691) (by decide +kernel) (by decide +kernel)
theorem tw_700 : Cond.code yX5_kind cX5_kind 1 (some .int) ∈ ab_T := ab_T_in (i := 700) (by decide +kernel) (by decide +kernel)
theorem cs_X8_172_1 : ab_cV RX8 172 1 Y_X0_kind 0 := ⟨pm_X0_kind, RX0, TX0, 13, rfl, Or.inr ⟨yX5_kind, "WaterMen$Man", cX5_kind, 1, (some .int), ⟨by decide +kernel, by decide +kernel⟩, by decide +kernel, tw_690, tw_693, tw_691, tw_700, tw_694, tw_695⟩⟩
theorem pm_X5_kind : ab_pm Y_X5_kind 0 := ⟨⟨by decide +kernel, by decide +kernel⟩, by decide +kernel, tw_700, tw_57⟩
theorem tw_692 : Cond.selects RX5 yX5_kind yX5_kind ∈ ab_T := ab_T_in (i := 692) (by decide +kernel) (by decide +kernel)
theorem cs_X8_172_6 : ab_cV RX8 172 6 Y_X5_kind 0 := ⟨pm_X5_kind, RX5, TX5, 12, rfl, Or.inl ⟨rfl, tw_690, tw_691, tw_692⟩⟩
theorem tw_699 : Cond.code yX7_kind cX7_kind 1 (some .int) ∈ ab_T := ab_T_in (i := 699) (by decide +kernel) (by decide +kernel)
theorem pm_X7_kind : ab_pm Y_X7_kind 0 := ⟨⟨by decide +kernel, by decide +kernel⟩, by decide +kernel, tw_699, tw_58⟩
theorem tw_697 : Cond.selects RX7 yX5_kind yX7_kind ∈ ab_T := ab_T_in (i := 697) (by decide +kernel) (by decide +kernel)
theorem tw_698 : Cond.instanceMethod yX7_kind ∈ ab_T := ab_T_in (i := 698) (by decide +kernel) (by decide +kernel)
theorem cs_X8_172_8 : ab_cV RX8 172 8 Y_X7_kind 0 := ⟨pm_X7_kind, RX7, TX7, 12, rfl, Or.inr ⟨yX5_kind, "WaterMen$Man", cX5_kind, 1, (some .int), ⟨by decide +kernel, by decide +kernel⟩, by decide +kernel, tw_690, tw_693, tw_691, tw_700, tw_697, tw_698⟩⟩
theorem tw_704 : Cond.code yX8_water cX8_water 4 (some .int) ∈ ab_T := ab_T_in (i := 704) (by decide +kernel) (by decide +kernel)
theorem pm_X8_water : ab_pm Y_X8_water 2 := ⟨⟨by decide +kernel, by decide +kernel⟩, by decide +kernel, tw_704, tw_41⟩
theorem tw_701 : Cond.methodLink "WaterMenLaw" 79 yX8_water ∈ ab_T := ab_T_in (i := 701) (by decide +kernel) (by decide +kernel)
theorem tw_703 : Cond.selects RX8 yX8_water yX8_water ∈ ab_T := ab_T_in (i := 703) (by decide +kernel) (by decide +kernel)
theorem tw_702 : Cond.instanceMethod yX8_water ∈ ab_T := ab_T_in (i := 702) (by decide +kernel) (by decide +kernel)
theorem cs_L_79_9 : ab_cV "WaterMenLaw" 79 9 Y_X8_water 2 := ⟨pm_X8_water, RX8, TX8, 9, rfl, Or.inl ⟨rfl, tw_701, tw_702, tw_703⟩⟩
theorem tw_708 : Cond.code yX8_sum cX8_sum 2 (some .long) ∈ ab_T := ab_T_in (i := 708) (by decide +kernel) (by decide +kernel)
theorem pm_X8_sum : ab_pm Y_X8_sum 1 := ⟨⟨by decide +kernel, by decide +kernel⟩, by decide +kernel, tw_708, tw_41⟩
theorem tw_705 : Cond.methodLink "WaterMenLaw" 83 yX8_sum ∈ ab_T := ab_T_in (i := 705) (by decide +kernel) (by decide +kernel)
theorem tw_707 : Cond.selects RX8 yX8_sum yX8_sum ∈ ab_T := ab_T_in (i := 707) (by decide +kernel) (by decide +kernel)
theorem tw_706 : Cond.instanceMethod yX8_sum ∈ ab_T := ab_T_in (i := 706) (by decide +kernel) (by decide +kernel)
theorem cs_L_83_9 : ab_cV "WaterMenLaw" 83 9 Y_X8_sum 1 := ⟨pm_X8_sum, RX8, TX8, 9, rfl, Or.inl ⟨rfl, tw_705, tw_706, tw_707⟩⟩
theorem tw_709 : Cond.constantLong RX8 185 (-1) ∈ ab_T := ab_T_in (i := 709) (by decide +kernel) (by decide +kernel)
theorem tw_713 : Cond.code yX8_fire cX8_fire 7 (some .int) ∈ ab_T := ab_T_in (i := 713) (by decide +kernel) (by decide +kernel)
theorem pm_X8_fire : ab_pm Y_X8_fire 2 := ⟨⟨by decide +kernel, by decide +kernel⟩, by decide +kernel, tw_713, tw_41⟩
theorem tw_710 : Cond.methodLink "WaterMenLaw" 88 yX8_fire ∈ ab_T := ab_T_in (i := 710) (by decide +kernel) (by decide +kernel)
theorem tw_712 : Cond.selects RX8 yX8_fire yX8_fire ∈ ab_T := ab_T_in (i := 712) (by decide +kernel) (by decide +kernel)
theorem tw_711 : Cond.instanceMethod yX8_fire ∈ ab_T := ab_T_in (i := 711) (by decide +kernel) (by decide +kernel)
theorem cs_L_88_9 : ab_cV "WaterMenLaw" 88 9 Y_X8_fire 2 := ⟨pm_X8_fire, RX8, TX8, 9, rfl, Or.inl ⟨rfl, tw_710, tw_711, tw_712⟩⟩
theorem tw_717 : Cond.code yX8_poured cX8_poured 3 (some .int) ∈ ab_T := ab_T_in (i := 717) (by decide +kernel) (by decide +kernel)
theorem pm_X8_poured : ab_pm Y_X8_poured 2 := ⟨⟨by decide +kernel, by decide +kernel⟩, by decide +kernel, tw_717, tw_41⟩
theorem tw_714 : Cond.methodLink "WaterMenLaw" 92 yX8_poured ∈ ab_T := ab_T_in (i := 714) (by decide +kernel) (by decide +kernel)
theorem tw_716 : Cond.selects RX8 yX8_poured yX8_poured ∈ ab_T := ab_T_in (i := 716) (by decide +kernel) (by decide +kernel)
theorem tw_715 : Cond.instanceMethod yX8_poured ∈ ab_T := ab_T_in (i := 715) (by decide +kernel) (by decide +kernel)
theorem cs_L_92_9 : ab_cV "WaterMenLaw" 92 9 Y_X8_poured 2 := ⟨pm_X8_poured, RX8, TX8, 9, rfl, Or.inl ⟨rfl, tw_714, tw_715, tw_716⟩⟩
theorem tw_721 : Cond.code yX6_fact cX6_fact 4 (some .int) ∈ ab_T := ab_T_in (i := 721) (by decide +kernel) (by decide +kernel)
theorem pm_X6_fact : ab_pm Y_X6_fact 2 := ⟨⟨by decide +kernel, by decide +kernel⟩, by decide +kernel, tw_721, tw_47⟩
theorem tw_718 : Cond.methodLink RX8 197 yX6_fact ∈ ab_T := ab_T_in (i := 718) (by decide +kernel) (by decide +kernel)
theorem tw_720 : Cond.selects RX6 yX6_fact yX6_fact ∈ ab_T := ab_T_in (i := 720) (by decide +kernel) (by decide +kernel)
theorem tw_719 : Cond.instanceMethod yX6_fact ∈ ab_T := ab_T_in (i := 719) (by decide +kernel) (by decide +kernel)
theorem cs_X8_197_7 : ab_cV RX8 197 7 Y_X6_fact 2 := ⟨pm_X6_fact, RX6, TX6, 3, rfl, Or.inl ⟨rfl, tw_718, tw_719, tw_720⟩⟩
theorem tw_724 : Cond.code yJ9_floorMod_7cf53 cJ9_floorMod_7cf53 3 (some .int) ∈ ab_T := ab_T_in (i := 724) (by decide +kernel) (by decide +kernel)
theorem pm_J9_floorMod_7cf53 : ab_pm Y_J9_floorMod_7cf53 2 := ⟨⟨by decide +kernel, by decide +kernel⟩, by decide +kernel, tw_724, tw_52⟩
theorem tw_722 : Cond.methodLink RX6 46 yJ9_floorMod_7cf53 ∈ ab_T := ab_T_in (i := 722) (by decide +kernel) (by decide +kernel)
theorem tw_723 : Cond.static yJ9_floorMod_7cf53 ∈ ab_T := ab_T_in (i := 723) (by decide +kernel) (by decide +kernel)
theorem cs_X6_46 : ab_cS RX6 46 Y_J9_floorMod_7cf53 2 := ⟨pm_J9_floorMod_7cf53, tw_722, tw_723⟩
theorem tw_728 : Cond.code yX8_foul cX8_foul 3 (some .int) ∈ ab_T := ab_T_in (i := 728) (by decide +kernel) (by decide +kernel)
theorem pm_X8_foul : ab_pm Y_X8_foul 2 := ⟨⟨by decide +kernel, by decide +kernel⟩, by decide +kernel, tw_728, tw_41⟩
theorem tw_725 : Cond.methodLink "WaterMenLaw" 96 yX8_foul ∈ ab_T := ab_T_in (i := 725) (by decide +kernel) (by decide +kernel)
theorem tw_727 : Cond.selects RX8 yX8_foul yX8_foul ∈ ab_T := ab_T_in (i := 727) (by decide +kernel) (by decide +kernel)
theorem tw_726 : Cond.instanceMethod yX8_foul ∈ ab_T := ab_T_in (i := 726) (by decide +kernel) (by decide +kernel)
theorem cs_L_96_9 : ab_cV "WaterMenLaw" 96 9 Y_X8_foul 2 := ⟨pm_X8_foul, RX8, TX8, 9, rfl, Or.inl ⟨rfl, tw_725, tw_726, tw_727⟩⟩
theorem tw_732 : Cond.code yX6_jarsFouledBy cX6_jarsFouledBy 5 (some .int) ∈ ab_T := ab_T_in (i := 732) (by decide +kernel) (by decide +kernel)
theorem pm_X6_jarsFouledBy : ab_pm Y_X6_jarsFouledBy 2 := ⟨⟨by decide +kernel, by decide +kernel⟩, by decide +kernel, tw_732, tw_47⟩
theorem tw_729 : Cond.methodLink RX8 201 yX6_jarsFouledBy ∈ ab_T := ab_T_in (i := 729) (by decide +kernel) (by decide +kernel)
theorem tw_731 : Cond.selects RX6 yX6_jarsFouledBy yX6_jarsFouledBy ∈ ab_T := ab_T_in (i := 731) (by decide +kernel) (by decide +kernel)
theorem tw_730 : Cond.instanceMethod yX6_jarsFouledBy ∈ ab_T := ab_T_in (i := 730) (by decide +kernel) (by decide +kernel)
theorem cs_X8_201_7 : ab_cV RX8 201 7 Y_X6_jarsFouledBy 2 := ⟨pm_X6_jarsFouledBy, RX6, TX6, 3, rfl, Or.inl ⟨rfl, tw_729, tw_730, tw_731⟩⟩
theorem tw_733 : Cond.methodLink RX6 49 yX6_fact ∈ ab_T := ab_T_in (i := 733) (by decide +kernel) (by decide +kernel)
theorem cs_X6_49_7 : ab_cV RX6 49 7 Y_X6_fact 2 := ⟨pm_X6_fact, RX6, TX6, 3, rfl, Or.inl ⟨rfl, tw_733, tw_719, tw_720⟩⟩
theorem tw_737 : Cond.code yX8_give cX8_give 6 (some .int) ∈ ab_T := ab_T_in (i := 737) (by decide +kernel) (by decide +kernel)
theorem pm_X8_give : ab_pm Y_X8_give 3 := ⟨⟨by decide +kernel, by decide +kernel⟩, by decide +kernel, tw_737, tw_41⟩
theorem tw_734 : Cond.methodLink "WaterMenLaw" 100 yX8_give ∈ ab_T := ab_T_in (i := 734) (by decide +kernel) (by decide +kernel)
theorem tw_736 : Cond.selects RX8 yX8_give yX8_give ∈ ab_T := ab_T_in (i := 736) (by decide +kernel) (by decide +kernel)
theorem tw_735 : Cond.instanceMethod yX8_give ∈ ab_T := ab_T_in (i := 735) (by decide +kernel) (by decide +kernel)
theorem cs_L_100_9 : ab_cV "WaterMenLaw" 100 9 Y_X8_give 3 := ⟨pm_X8_give, RX8, TX8, 9, rfl, Or.inl ⟨rfl, tw_734, tw_735, tw_736⟩⟩
theorem tw_744 : Cond.code yX5_toilFor cX5_toilFor 2 (some .int) ∈ ab_T := ab_T_in (i := 744) (by decide +kernel) (by decide +kernel)
theorem pm_X5_toilFor : ab_pm Y_X5_toilFor 1 := ⟨⟨by decide +kernel, by decide +kernel⟩, by decide +kernel, tw_744, tw_57⟩
theorem tw_738 : Cond.methodLink RX8 204 yX5_toilFor ∈ ab_T := ab_T_in (i := 738) (by decide +kernel) (by decide +kernel)
theorem tw_742 : Cond.selects RX0 yX5_toilFor yX5_toilFor ∈ ab_T := ab_T_in (i := 742) (by decide +kernel) (by decide +kernel)
theorem tw_739 : Cond.instanceMethod yX5_toilFor ∈ ab_T := ab_T_in (i := 739) (by decide +kernel) (by decide +kernel)
theorem tw_741 : Cond.sameMethod "WaterMen$Man" "WaterMen$Man" "toilFor" "(LWaterMen$Jar;)I" ∈ ab_T := ab_T_in (i := 741) (by decide +kernel) (by decide +kernel)
theorem cs_X8_204_1 : ab_cV RX8 204 1 Y_X5_toilFor 1 := ⟨pm_X5_toilFor, RX0, TX0, 13, rfl, Or.inr ⟨yX5_toilFor, "WaterMen$Man", cX5_toilFor, 2, (some .int), ⟨by decide +kernel, by decide +kernel⟩, by decide +kernel, tw_738, tw_741, tw_739, tw_744, tw_742, tw_739⟩⟩
theorem tw_740 : Cond.selects RX5 yX5_toilFor yX5_toilFor ∈ ab_T := ab_T_in (i := 740) (by decide +kernel) (by decide +kernel)
theorem cs_X8_204_6 : ab_cV RX8 204 6 Y_X5_toilFor 1 := ⟨pm_X5_toilFor, RX5, TX5, 12, rfl, Or.inl ⟨rfl, tw_738, tw_739, tw_740⟩⟩
theorem tw_743 : Cond.selects RX7 yX5_toilFor yX5_toilFor ∈ ab_T := ab_T_in (i := 743) (by decide +kernel) (by decide +kernel)
theorem cs_X8_204_8 : ab_cV RX8 204 8 Y_X5_toilFor 1 := ⟨pm_X5_toilFor, RX7, TX7, 12, rfl, Or.inr ⟨yX5_toilFor, "WaterMen$Man", cX5_toilFor, 2, (some .int), ⟨by decide +kernel, by decide +kernel⟩, by decide +kernel, tw_738, tw_741, tw_739, tw_744, tw_743, tw_739⟩⟩
theorem tw_745 : Cond.methodLink RX5 70 yX5_canGoTo ∈ ab_T := ab_T_in (i := 745) (by decide +kernel) (by decide +kernel)
theorem cs_X5_70_1 : ab_cV RX5 70 1 Y_X7_canGoTo 1 := ⟨pm_X7_canGoTo, RX0, TX0, 13, rfl, Or.inr ⟨yX5_canGoTo, "WaterMen$Man", cX5_canGoTo, 2, (some .boolean), ⟨by decide +kernel, by decide +kernel⟩, by decide +kernel, tw_745, tw_468, tw_466, tw_473, tw_469, tw_470⟩⟩
theorem cs_X5_70_6 : ab_cV RX5 70 6 Y_X5_canGoTo 1 := ⟨pm_X5_canGoTo, RX5, TX5, 12, rfl, Or.inl ⟨rfl, tw_745, tw_466, tw_467⟩⟩
theorem cs_X5_70_8 : ab_cV RX5 70 8 Y_X7_canGoTo 1 := ⟨pm_X7_canGoTo, RX7, TX7, 12, rfl, Or.inr ⟨yX5_canGoTo, "WaterMen$Man", cX5_canGoTo, 2, (some .boolean), ⟨by decide +kernel, by decide +kernel⟩, by decide +kernel, tw_745, tw_468, tw_466, tw_473, tw_472, tw_470⟩⟩
theorem tw_749 : Cond.code yX3_setToil cX3_setToil 4 none ∈ ab_T := ab_T_in (i := 749) (by decide +kernel) (by decide +kernel)
theorem pm_X3_setToil : ab_pm Y_X3_setToil 3 := ⟨⟨by decide +kernel, by decide +kernel⟩, by decide +kernel, tw_749, tw_48⟩
theorem tw_746 : Cond.methodLink RX8 207 yX3_setToil ∈ ab_T := ab_T_in (i := 746) (by decide +kernel) (by decide +kernel)
theorem tw_748 : Cond.selects RX3 yX3_setToil yX3_setToil ∈ ab_T := ab_T_in (i := 748) (by decide +kernel) (by decide +kernel)
theorem tw_747 : Cond.instanceMethod yX3_setToil ∈ ab_T := ab_T_in (i := 747) (by decide +kernel) (by decide +kernel)
theorem cs_X8_207_4 : ab_cV RX8 207 4 Y_X3_setToil 3 := ⟨pm_X3_setToil, RX3, TX3, 3, rfl, Or.inl ⟨rfl, tw_746, tw_747, tw_748⟩⟩
theorem cs_X3_27 : ab_cN RX3 27 Y_X8_outside 3 := ⟨pm_X8_outside, ⟨"WaterMen", ab_nest_in (i := 750) (by decide +kernel) rfl⟩, tw_189⟩
theorem tw_754 : Cond.code yX3_findLeast cX3_findLeast 6 (some .int) ∈ ab_T := ab_T_in (i := 754) (by decide +kernel) (by decide +kernel)
theorem pm_X3_findLeast : ab_pm Y_X3_findLeast 1 := ⟨⟨by decide +kernel, by decide +kernel⟩, by decide +kernel, tw_754, tw_48⟩
theorem tw_751 : Cond.methodLink RX8 211 yX3_findLeast ∈ ab_T := ab_T_in (i := 751) (by decide +kernel) (by decide +kernel)
theorem tw_753 : Cond.selects RX3 yX3_findLeast yX3_findLeast ∈ ab_T := ab_T_in (i := 753) (by decide +kernel) (by decide +kernel)
theorem tw_752 : Cond.instanceMethod yX3_findLeast ∈ ab_T := ab_T_in (i := 752) (by decide +kernel) (by decide +kernel)
theorem cs_X8_211_4 : ab_cV RX8 211 4 Y_X3_findLeast 1 := ⟨pm_X3_findLeast, RX3, TX3, 3, rfl, Or.inl ⟨rfl, tw_751, tw_752, tw_753⟩⟩
theorem tw_758 : Cond.code yX3_toilWith cX3_toilWith 5 (some .int) ∈ ab_T := ab_T_in (i := 758) (by decide +kernel) (by decide +kernel)
theorem pm_X3_toilWith : ab_pm Y_X3_toilWith 2 := ⟨⟨by decide +kernel, by decide +kernel⟩, by decide +kernel, tw_758, tw_48⟩
theorem tw_755 : Cond.methodLink RX3 31 yX3_toilWith ∈ ab_T := ab_T_in (i := 755) (by decide +kernel) (by decide +kernel)
theorem tw_19 : Cond.selects RX3 yX3_toilWith yX3_toilWith ∈ ab_T := ab_T_in (i := 19) (by decide +kernel) (by decide +kernel)
theorem tw_757 : Cond.instanceMethod yX3_toilWith ∈ ab_T := ab_T_in (i := 757) (by decide +kernel) (by decide +kernel)
theorem cs_X3_31_4 : ab_cV RX3 31 4 Y_X3_toilWith 2 := ⟨pm_X3_toilWith, RX3, TX3, 3, rfl, Or.inl ⟨rfl, tw_755, tw_757, tw_19⟩⟩
theorem tw_761 : Cond.code yJ6_bitCount_0f7a4 cJ6_bitCount_0f7a4 1 (some .int) ∈ ab_T := ab_T_in (i := 761) (by decide +kernel) (by decide +kernel)
theorem pm_J6_bitCount_0f7a4 : ab_pm Y_J6_bitCount_0f7a4 1 := ⟨⟨by decide +kernel, by decide +kernel⟩, by decide +kernel, tw_761, tw_60⟩
theorem tw_759 : Cond.methodLink RX3 35 yJ6_bitCount_0f7a4 ∈ ab_T := ab_T_in (i := 759) (by decide +kernel) (by decide +kernel)
theorem tw_760 : Cond.static yJ6_bitCount_0f7a4 ∈ ab_T := ab_T_in (i := 760) (by decide +kernel) (by decide +kernel)
theorem cs_X3_35 : ab_cS RX3 35 Y_J6_bitCount_0f7a4 1 := ⟨pm_J6_bitCount_0f7a4, tw_759, tw_760⟩
theorem tw_762 : Cond.constant RJ6 265 (1431655765) ∈ ab_T := ab_T_in (i := 762) (by decide +kernel) (by decide +kernel)
theorem tw_763 : Cond.constant RJ6 266 (858993459) ∈ ab_T := ab_T_in (i := 763) (by decide +kernel) (by decide +kernel)
theorem tw_764 : Cond.constant RJ6 267 (252645135) ∈ ab_T := ab_T_in (i := 764) (by decide +kernel) (by decide +kernel)
theorem tw_768 : Cond.code yX3_settle cX3_settle 7 none ∈ ab_T := ab_T_in (i := 768) (by decide +kernel) (by decide +kernel)
theorem pm_X3_settle : ab_pm Y_X3_settle 3 := ⟨⟨by decide +kernel, by decide +kernel⟩, by decide +kernel, tw_768, tw_48⟩
theorem tw_765 : Cond.methodLink RX8 214 yX3_settle ∈ ab_T := ab_T_in (i := 765) (by decide +kernel) (by decide +kernel)
theorem tw_767 : Cond.selects RX3 yX3_settle yX3_settle ∈ ab_T := ab_T_in (i := 767) (by decide +kernel) (by decide +kernel)
theorem tw_766 : Cond.instanceMethod yX3_settle ∈ ab_T := ab_T_in (i := 766) (by decide +kernel) (by decide +kernel)
theorem cs_X8_214_4 : ab_cV RX8 214 4 Y_X3_settle 3 := ⟨pm_X3_settle, RX3, TX3, 3, rfl, Or.inl ⟨rfl, tw_765, tw_766, tw_767⟩⟩
theorem tw_772 : Cond.code yX3_firstBest cX3_firstBest 5 (some .int) ∈ ab_T := ab_T_in (i := 772) (by decide +kernel) (by decide +kernel)
theorem pm_X3_firstBest : ab_pm Y_X3_firstBest 2 := ⟨⟨by decide +kernel, by decide +kernel⟩, by decide +kernel, tw_772, tw_48⟩
theorem tw_769 : Cond.methodLink RX3 41 yX3_firstBest ∈ ab_T := ab_T_in (i := 769) (by decide +kernel) (by decide +kernel)
theorem tw_20 : Cond.selects RX3 yX3_firstBest yX3_firstBest ∈ ab_T := ab_T_in (i := 20) (by decide +kernel) (by decide +kernel)
theorem tw_771 : Cond.instanceMethod yX3_firstBest ∈ ab_T := ab_T_in (i := 771) (by decide +kernel) (by decide +kernel)
theorem cs_X3_41_4 : ab_cV RX3 41 4 Y_X3_firstBest 2 := ⟨pm_X3_firstBest, RX3, TX3, 3, rfl, Or.inl ⟨rfl, tw_769, tw_771, tw_20⟩⟩
theorem tw_776 : Cond.code yX8_given cX8_given 2 (some .int) ∈ ab_T := ab_T_in (i := 776) (by decide +kernel) (by decide +kernel)
theorem pm_X8_given : ab_pm Y_X8_given 1 := ⟨⟨by decide +kernel, by decide +kernel⟩, by decide +kernel, tw_776, tw_41⟩
theorem tw_773 : Cond.methodLink "WaterMenLaw" 104 yX8_given ∈ ab_T := ab_T_in (i := 773) (by decide +kernel) (by decide +kernel)
theorem tw_775 : Cond.selects RX8 yX8_given yX8_given ∈ ab_T := ab_T_in (i := 775) (by decide +kernel) (by decide +kernel)
theorem tw_774 : Cond.instanceMethod yX8_given ∈ ab_T := ab_T_in (i := 774) (by decide +kernel) (by decide +kernel)
theorem cs_L_104_9 : ab_cV "WaterMenLaw" 104 9 Y_X8_given 1 := ⟨pm_X8_given, RX8, TX8, 9, rfl, Or.inl ⟨rfl, tw_773, tw_774, tw_775⟩⟩
theorem tw_780 : Cond.code yX3_jarOf cX3_jarOf 2 (some .int) ∈ ab_T := ab_T_in (i := 780) (by decide +kernel) (by decide +kernel)
theorem pm_X3_jarOf : ab_pm Y_X3_jarOf 1 := ⟨⟨by decide +kernel, by decide +kernel⟩, by decide +kernel, tw_780, tw_48⟩
theorem tw_777 : Cond.methodLink RX8 217 yX3_jarOf ∈ ab_T := ab_T_in (i := 777) (by decide +kernel) (by decide +kernel)
theorem tw_779 : Cond.selects RX3 yX3_jarOf yX3_jarOf ∈ ab_T := ab_T_in (i := 779) (by decide +kernel) (by decide +kernel)
theorem tw_778 : Cond.instanceMethod yX3_jarOf ∈ ab_T := ab_T_in (i := 778) (by decide +kernel) (by decide +kernel)
theorem cs_X8_217_4 : ab_cV RX8 217 4 Y_X3_jarOf 1 := ⟨pm_X3_jarOf, RX3, TX3, 3, rfl, Or.inl ⟨rfl, tw_777, tw_778, tw_779⟩⟩
theorem tw_784 : Cond.code yX8_count cX8_count 2 (some .int) ∈ ab_T := ab_T_in (i := 784) (by decide +kernel) (by decide +kernel)
theorem pm_X8_count : ab_pm Y_X8_count 1 := ⟨⟨by decide +kernel, by decide +kernel⟩, by decide +kernel, tw_784, tw_41⟩
theorem tw_781 : Cond.methodLink "WaterMenLaw" 108 yX8_count ∈ ab_T := ab_T_in (i := 781) (by decide +kernel) (by decide +kernel)
theorem tw_783 : Cond.selects RX8 yX8_count yX8_count ∈ ab_T := ab_T_in (i := 783) (by decide +kernel) (by decide +kernel)
theorem tw_782 : Cond.instanceMethod yX8_count ∈ ab_T := ab_T_in (i := 782) (by decide +kernel) (by decide +kernel)
theorem cs_L_108_9 : ab_cV "WaterMenLaw" 108 9 Y_X8_count 1 := ⟨pm_X8_count, RX8, TX8, 9, rfl, Or.inl ⟨rfl, tw_781, tw_782, tw_783⟩⟩
theorem tw_788 : Cond.code yX8_countDoing cX8_countDoing 4 (some .int) ∈ ab_T := ab_T_in (i := 788) (by decide +kernel) (by decide +kernel)
theorem pm_X8_countDoing : ab_pm Y_X8_countDoing 1 := ⟨⟨by decide +kernel, by decide +kernel⟩, by decide +kernel, tw_788, tw_41⟩
theorem tw_785 : Cond.methodLink RX8 220 yX8_countDoing ∈ ab_T := ab_T_in (i := 785) (by decide +kernel) (by decide +kernel)
theorem tw_21 : Cond.selects RX8 yX8_countDoing yX8_countDoing ∈ ab_T := ab_T_in (i := 21) (by decide +kernel) (by decide +kernel)
theorem tw_787 : Cond.instanceMethod yX8_countDoing ∈ ab_T := ab_T_in (i := 787) (by decide +kernel) (by decide +kernel)
theorem cs_X8_220_9 : ab_cV RX8 220 9 Y_X8_countDoing 1 := ⟨pm_X8_countDoing, RX8, TX8, 9, rfl, Or.inl ⟨rfl, tw_785, tw_787, tw_21⟩⟩
theorem tw_789 : Cond.classLink "WaterMenLaw" 10 RX9 ∈ ab_T := ab_T_in (i := 789) (by decide +kernel) (by decide +kernel)
theorem tw_790 : Cond.instantiable RX9 41 ∈ ab_T := ab_T_in (i := 790) (by decide +kernel) (by decide +kernel)
theorem tw_793 : Cond.code yX9_init cX9_init 2 none ∈ ab_T := ab_T_in (i := 793) (by decide +kernel) (by decide +kernel)
theorem pm_X9_init : ab_pm Y_X9_init 0 := ⟨⟨by decide +kernel, by decide +kernel⟩, by decide +kernel, tw_793, tw_49⟩
theorem tw_791 : Cond.methodLink "WaterMenLaw" 12 yX9_init ∈ ab_T := ab_T_in (i := 791) (by decide +kernel) (by decide +kernel)
theorem tw_792 : Cond.instanceMethod yX9_init ∈ ab_T := ab_T_in (i := 792) (by decide +kernel) (by decide +kernel)
theorem cs_L_12 : ab_cI "WaterMenLaw" 12 Y_X9_init 0 := ⟨pm_X9_init, tw_791, tw_792, rfl, rfl⟩
theorem tw_794 : Cond.methodLink RX9 1 objectInit ∈ ab_T := ab_T_in (i := 794) (by decide +kernel) (by decide +kernel)
theorem tw_919 : Cond.arrayClass .boolean ∈ ab_T := ab_T_in (i := 919) (by decide +kernel) (by decide +kernel)
theorem tw_923 : Cond.code yX9_fountain cX9_fountain 2 (some .int) ∈ ab_T := ab_T_in (i := 923) (by decide +kernel) (by decide +kernel)
theorem pm_X9_fountain : ab_pm Y_X9_fountain 1 := ⟨⟨by decide +kernel, by decide +kernel⟩, by decide +kernel, tw_923, tw_49⟩
theorem tw_920 : Cond.methodLink "WaterMenLaw" 17 yX9_fountain ∈ ab_T := ab_T_in (i := 920) (by decide +kernel) (by decide +kernel)
theorem tw_922 : Cond.selects RX9 yX9_fountain yX9_fountain ∈ ab_T := ab_T_in (i := 922) (by decide +kernel) (by decide +kernel)
theorem tw_921 : Cond.instanceMethod yX9_fountain ∈ ab_T := ab_T_in (i := 921) (by decide +kernel) (by decide +kernel)
theorem cs_L_17_10 : ab_cV "WaterMenLaw" 17 10 Y_X9_fountain 1 := ⟨pm_X9_fountain, RX9, TX9, 41, rfl, Or.inl ⟨rfl, tw_920, tw_921, tw_922⟩⟩
theorem tw_926 : Cond.code yX9_in cX9_in 3 (some .boolean) ∈ ab_T := ab_T_in (i := 926) (by decide +kernel) (by decide +kernel)
theorem pm_X9_in : ab_pm Y_X9_in 3 := ⟨⟨by decide +kernel, by decide +kernel⟩, by decide +kernel, tw_926, tw_49⟩
theorem tw_924 : Cond.methodLink RX9 112 yX9_in ∈ ab_T := ab_T_in (i := 924) (by decide +kernel) (by decide +kernel)
theorem tw_925 : Cond.static yX9_in ∈ ab_T := ab_T_in (i := 925) (by decide +kernel) (by decide +kernel)
theorem cs_X9_112 : ab_cS RX9 112 Y_X9_in 3 := ⟨pm_X9_in, tw_924, tw_925⟩
theorem tw_930 : Cond.code yX9_jar cX9_jar 7 (some .int) ∈ ab_T := ab_T_in (i := 930) (by decide +kernel) (by decide +kernel)
theorem pm_X9_jar : ab_pm Y_X9_jar 6 := ⟨⟨by decide +kernel, by decide +kernel⟩, by decide +kernel, tw_930, tw_49⟩
theorem tw_927 : Cond.methodLink "WaterMenLaw" 22 yX9_jar ∈ ab_T := ab_T_in (i := 927) (by decide +kernel) (by decide +kernel)
theorem tw_929 : Cond.selects RX9 yX9_jar yX9_jar ∈ ab_T := ab_T_in (i := 929) (by decide +kernel) (by decide +kernel)
theorem tw_928 : Cond.instanceMethod yX9_jar ∈ ab_T := ab_T_in (i := 928) (by decide +kernel) (by decide +kernel)
theorem cs_L_22_10 : ab_cV "WaterMenLaw" 22 10 Y_X9_jar 6 := ⟨pm_X9_jar, RX9, TX9, 41, rfl, Or.inl ⟨rfl, tw_927, tw_928, tw_929⟩⟩
theorem tw_934 : Cond.code yX9_isMinutes cX9_isMinutes 3 (some .boolean) ∈ ab_T := ab_T_in (i := 934) (by decide +kernel) (by decide +kernel)
theorem pm_X9_isMinutes : ab_pm Y_X9_isMinutes 2 := ⟨⟨by decide +kernel, by decide +kernel⟩, by decide +kernel, tw_934, tw_49⟩
theorem tw_931 : Cond.methodLink RX9 122 yX9_isMinutes ∈ ab_T := ab_T_in (i := 931) (by decide +kernel) (by decide +kernel)
theorem tw_22 : Cond.selects RX9 yX9_isMinutes yX9_isMinutes ∈ ab_T := ab_T_in (i := 22) (by decide +kernel) (by decide +kernel)
theorem tw_933 : Cond.instanceMethod yX9_isMinutes ∈ ab_T := ab_T_in (i := 933) (by decide +kernel) (by decide +kernel)
theorem cs_X9_122_10 : ab_cV RX9 122 10 Y_X9_isMinutes 2 := ⟨pm_X9_isMinutes, RX9, TX9, 41, rfl, Or.inl ⟨rfl, tw_931, tw_933, tw_22⟩⟩
theorem tw_938 : Cond.code yX9_drinks cX9_drinks 4 (some .int) ∈ ab_T := ab_T_in (i := 938) (by decide +kernel) (by decide +kernel)
theorem pm_X9_drinks : ab_pm Y_X9_drinks 2 := ⟨⟨by decide +kernel, by decide +kernel⟩, by decide +kernel, tw_938, tw_49⟩
theorem tw_935 : Cond.methodLink "WaterMenLaw" 27 yX9_drinks ∈ ab_T := ab_T_in (i := 935) (by decide +kernel) (by decide +kernel)
theorem tw_937 : Cond.selects RX9 yX9_drinks yX9_drinks ∈ ab_T := ab_T_in (i := 937) (by decide +kernel) (by decide +kernel)
theorem tw_936 : Cond.instanceMethod yX9_drinks ∈ ab_T := ab_T_in (i := 936) (by decide +kernel) (by decide +kernel)
theorem cs_L_27_10 : ab_cV "WaterMenLaw" 27 10 Y_X9_drinks 2 := ⟨pm_X9_drinks, RX9, TX9, 41, rfl, Or.inl ⟨rfl, tw_935, tw_936, tw_937⟩⟩
theorem tw_942 : Cond.code yX9_isJar cX9_isJar 2 (some .boolean) ∈ ab_T := ab_T_in (i := 942) (by decide +kernel) (by decide +kernel)
theorem pm_X9_isJar : ab_pm Y_X9_isJar 1 := ⟨⟨by decide +kernel, by decide +kernel⟩, by decide +kernel, tw_942, tw_49⟩
theorem tw_939 : Cond.methodLink RX9 129 yX9_isJar ∈ ab_T := ab_T_in (i := 939) (by decide +kernel) (by decide +kernel)
theorem tw_23 : Cond.selects RX9 yX9_isJar yX9_isJar ∈ ab_T := ab_T_in (i := 23) (by decide +kernel) (by decide +kernel)
theorem tw_941 : Cond.instanceMethod yX9_isJar ∈ ab_T := ab_T_in (i := 941) (by decide +kernel) (by decide +kernel)
theorem cs_X9_129_10 : ab_cV RX9 129 10 Y_X9_isJar 1 := ⟨pm_X9_isJar, RX9, TX9, 41, rfl, Or.inl ⟨rfl, tw_939, tw_941, tw_23⟩⟩
theorem tw_946 : Cond.code yX9_man cX9_man 5 (some .int) ∈ ab_T := ab_T_in (i := 946) (by decide +kernel) (by decide +kernel)
theorem pm_X9_man : ab_pm Y_X9_man 4 := ⟨⟨by decide +kernel, by decide +kernel⟩, by decide +kernel, tw_946, tw_49⟩
theorem tw_943 : Cond.methodLink "WaterMenLaw" 32 yX9_man ∈ ab_T := ab_T_in (i := 943) (by decide +kernel) (by decide +kernel)
theorem tw_945 : Cond.selects RX9 yX9_man yX9_man ∈ ab_T := ab_T_in (i := 945) (by decide +kernel) (by decide +kernel)
theorem tw_944 : Cond.instanceMethod yX9_man ∈ ab_T := ab_T_in (i := 944) (by decide +kernel) (by decide +kernel)
theorem cs_L_32_10 : ab_cV "WaterMenLaw" 32 10 Y_X9_man 4 := ⟨pm_X9_man, RX9, TX9, 41, rfl, Or.inl ⟨rfl, tw_943, tw_944, tw_945⟩⟩
theorem tw_950 : Cond.code yX9_isFountain cX9_isFountain 2 (some .boolean) ∈ ab_T := ab_T_in (i := 950) (by decide +kernel) (by decide +kernel)
theorem pm_X9_isFountain : ab_pm Y_X9_isFountain 1 := ⟨⟨by decide +kernel, by decide +kernel⟩, by decide +kernel, tw_950, tw_49⟩
theorem tw_947 : Cond.methodLink RX9 136 yX9_isFountain ∈ ab_T := ab_T_in (i := 947) (by decide +kernel) (by decide +kernel)
theorem tw_24 : Cond.selects RX9 yX9_isFountain yX9_isFountain ∈ ab_T := ab_T_in (i := 24) (by decide +kernel) (by decide +kernel)
theorem tw_949 : Cond.instanceMethod yX9_isFountain ∈ ab_T := ab_T_in (i := 949) (by decide +kernel) (by decide +kernel)
theorem cs_X9_136_10 : ab_cV RX9 136 10 Y_X9_isFountain 1 := ⟨pm_X9_isFountain, RX9, TX9, 41, rfl, Or.inl ⟨rfl, tw_947, tw_949, tw_24⟩⟩
theorem tw_954 : Cond.code yX9_canGo cX9_canGo 3 (some .boolean) ∈ ab_T := ab_T_in (i := 954) (by decide +kernel) (by decide +kernel)
theorem pm_X9_canGo : ab_pm Y_X9_canGo 2 := ⟨⟨by decide +kernel, by decide +kernel⟩, by decide +kernel, tw_954, tw_49⟩
theorem tw_951 : Cond.methodLink RX9 139 yX9_canGo ∈ ab_T := ab_T_in (i := 951) (by decide +kernel) (by decide +kernel)
theorem tw_25 : Cond.selects RX9 yX9_canGo yX9_canGo ∈ ab_T := ab_T_in (i := 25) (by decide +kernel) (by decide +kernel)
theorem tw_953 : Cond.instanceMethod yX9_canGo ∈ ab_T := ab_T_in (i := 953) (by decide +kernel) (by decide +kernel)
theorem cs_X9_139_10 : ab_cV RX9 139 10 Y_X9_canGo 2 := ⟨pm_X9_canGo, RX9, TX9, 41, rfl, Or.inl ⟨rfl, tw_951, tw_953, tw_25⟩⟩
theorem tw_958 : Cond.code yX9_joinRow cX9_joinRow 2 none ∈ ab_T := ab_T_in (i := 958) (by decide +kernel) (by decide +kernel)
theorem pm_X9_joinRow : ab_pm Y_X9_joinRow 1 := ⟨⟨by decide +kernel, by decide +kernel⟩, by decide +kernel, tw_958, tw_49⟩
theorem tw_955 : Cond.methodLink RX9 142 yX9_joinRow ∈ ab_T := ab_T_in (i := 955) (by decide +kernel) (by decide +kernel)
theorem tw_26 : Cond.selects RX9 yX9_joinRow yX9_joinRow ∈ ab_T := ab_T_in (i := 26) (by decide +kernel) (by decide +kernel)
theorem tw_957 : Cond.instanceMethod yX9_joinRow ∈ ab_T := ab_T_in (i := 957) (by decide +kernel) (by decide +kernel)
theorem cs_X9_142_10 : ab_cV RX9 142 10 Y_X9_joinRow 1 := ⟨pm_X9_joinRow, RX9, TX9, 41, rfl, Or.inl ⟨rfl, tw_955, tw_957, tw_26⟩⟩
theorem tw_962 : Cond.code yX9_right cX9_right 4 (some .int) ∈ ab_T := ab_T_in (i := 962) (by decide +kernel) (by decide +kernel)
theorem pm_X9_right : ab_pm Y_X9_right 2 := ⟨⟨by decide +kernel, by decide +kernel⟩, by decide +kernel, tw_962, tw_49⟩
theorem tw_959 : Cond.methodLink "WaterMenLaw" 36 yX9_right ∈ ab_T := ab_T_in (i := 959) (by decide +kernel) (by decide +kernel)
theorem tw_961 : Cond.selects RX9 yX9_right yX9_right ∈ ab_T := ab_T_in (i := 961) (by decide +kernel) (by decide +kernel)
theorem tw_960 : Cond.instanceMethod yX9_right ∈ ab_T := ab_T_in (i := 960) (by decide +kernel) (by decide +kernel)
theorem cs_L_36_10 : ab_cV "WaterMenLaw" 36 10 Y_X9_right 2 := ⟨pm_X9_right, RX9, TX9, 41, rfl, Or.inl ⟨rfl, tw_959, tw_960, tw_961⟩⟩
theorem tw_966 : Cond.code yX9_isMan cX9_isMan 2 (some .boolean) ∈ ab_T := ab_T_in (i := 966) (by decide +kernel) (by decide +kernel)
theorem pm_X9_isMan : ab_pm Y_X9_isMan 1 := ⟨⟨by decide +kernel, by decide +kernel⟩, by decide +kernel, tw_966, tw_49⟩
theorem tw_963 : Cond.methodLink RX9 146 yX9_isMan ∈ ab_T := ab_T_in (i := 963) (by decide +kernel) (by decide +kernel)
theorem tw_27 : Cond.selects RX9 yX9_isMan yX9_isMan ∈ ab_T := ab_T_in (i := 27) (by decide +kernel) (by decide +kernel)
theorem tw_965 : Cond.instanceMethod yX9_isMan ∈ ab_T := ab_T_in (i := 965) (by decide +kernel) (by decide +kernel)
theorem cs_X9_146_10 : ab_cV RX9 146 10 Y_X9_isMan 1 := ⟨pm_X9_isMan, RX9, TX9, 41, rfl, Or.inl ⟨rfl, tw_963, tw_965, tw_27⟩⟩
theorem tw_970 : Cond.code yX9_pace cX9_pace 4 (some .int) ∈ ab_T := ab_T_in (i := 970) (by decide +kernel) (by decide +kernel)
theorem pm_X9_pace : ab_pm Y_X9_pace 2 := ⟨⟨by decide +kernel, by decide +kernel⟩, by decide +kernel, tw_970, tw_49⟩
theorem tw_967 : Cond.methodLink "WaterMenLaw" 40 yX9_pace ∈ ab_T := ab_T_in (i := 967) (by decide +kernel) (by decide +kernel)
theorem tw_969 : Cond.selects RX9 yX9_pace yX9_pace ∈ ab_T := ab_T_in (i := 969) (by decide +kernel) (by decide +kernel)
theorem tw_968 : Cond.instanceMethod yX9_pace ∈ ab_T := ab_T_in (i := 968) (by decide +kernel) (by decide +kernel)
theorem cs_L_40_10 : ab_cV "WaterMenLaw" 40 10 Y_X9_pace 2 := ⟨pm_X9_pace, RX9, TX9, 41, rfl, Or.inl ⟨rfl, tw_967, tw_968, tw_969⟩⟩
theorem tw_974 : Cond.code yX9_moves cX9_moves 4 (some .int) ∈ ab_T := ab_T_in (i := 974) (by decide +kernel) (by decide +kernel)
theorem pm_X9_moves : ab_pm Y_X9_moves 3 := ⟨⟨by decide +kernel, by decide +kernel⟩, by decide +kernel, tw_974, tw_49⟩
theorem tw_971 : Cond.methodLink "WaterMenLaw" 45 yX9_moves ∈ ab_T := ab_T_in (i := 971) (by decide +kernel) (by decide +kernel)
theorem tw_973 : Cond.selects RX9 yX9_moves yX9_moves ∈ ab_T := ab_T_in (i := 973) (by decide +kernel) (by decide +kernel)
theorem tw_972 : Cond.instanceMethod yX9_moves ∈ ab_T := ab_T_in (i := 972) (by decide +kernel) (by decide +kernel)
theorem cs_L_45_10 : ab_cV "WaterMenLaw" 45 10 Y_X9_moves 3 := ⟨pm_X9_moves, RX9, TX9, 41, rfl, Or.inl ⟨rfl, tw_971, tw_972, tw_973⟩⟩
theorem tw_978 : Cond.code yX9_open cX9_open 4 (some .int) ∈ ab_T := ab_T_in (i := 978) (by decide +kernel) (by decide +kernel)
theorem pm_X9_open : ab_pm Y_X9_open 2 := ⟨⟨by decide +kernel, by decide +kernel⟩, by decide +kernel, tw_978, tw_49⟩
theorem tw_975 : Cond.methodLink "WaterMenLaw" 50 yX9_open ∈ ab_T := ab_T_in (i := 975) (by decide +kernel) (by decide +kernel)
theorem tw_977 : Cond.selects RX9 yX9_open yX9_open ∈ ab_T := ab_T_in (i := 977) (by decide +kernel) (by decide +kernel)
theorem tw_976 : Cond.instanceMethod yX9_open ∈ ab_T := ab_T_in (i := 976) (by decide +kernel) (by decide +kernel)
theorem cs_L_50_10 : ab_cV "WaterMenLaw" 50 10 Y_X9_open 2 := ⟨pm_X9_open, RX9, TX9, 41, rfl, Or.inl ⟨rfl, tw_975, tw_976, tw_977⟩⟩
theorem tw_982 : Cond.code yX9_drought cX9_drought 3 (some .int) ∈ ab_T := ab_T_in (i := 982) (by decide +kernel) (by decide +kernel)
theorem pm_X9_drought : ab_pm Y_X9_drought 1 := ⟨⟨by decide +kernel, by decide +kernel⟩, by decide +kernel, tw_982, tw_49⟩
theorem tw_979 : Cond.methodLink "WaterMenLaw" 54 yX9_drought ∈ ab_T := ab_T_in (i := 979) (by decide +kernel) (by decide +kernel)
theorem tw_981 : Cond.selects RX9 yX9_drought yX9_drought ∈ ab_T := ab_T_in (i := 981) (by decide +kernel) (by decide +kernel)
theorem tw_980 : Cond.instanceMethod yX9_drought ∈ ab_T := ab_T_in (i := 980) (by decide +kernel) (by decide +kernel)
theorem cs_L_54_10 : ab_cV "WaterMenLaw" 54 10 Y_X9_drought 1 := ⟨pm_X9_drought, RX9, TX9, 41, rfl, Or.inl ⟨rfl, tw_979, tw_980, tw_981⟩⟩
theorem tw_986 : Cond.code yX9_type cX9_type 5 (some .int) ∈ ab_T := ab_T_in (i := 986) (by decide +kernel) (by decide +kernel)
theorem pm_X9_type : ab_pm Y_X9_type 2 := ⟨⟨by decide +kernel, by decide +kernel⟩, by decide +kernel, tw_986, tw_49⟩
theorem tw_983 : Cond.methodLink "WaterMenLaw" 61 yX9_type ∈ ab_T := ab_T_in (i := 983) (by decide +kernel) (by decide +kernel)
theorem tw_985 : Cond.selects RX9 yX9_type yX9_type ∈ ab_T := ab_T_in (i := 985) (by decide +kernel) (by decide +kernel)
theorem tw_984 : Cond.instanceMethod yX9_type ∈ ab_T := ab_T_in (i := 984) (by decide +kernel) (by decide +kernel)
theorem cs_L_61_10 : ab_cV "WaterMenLaw" 61 10 Y_X9_type 2 := ⟨pm_X9_type, RX9, TX9, 41, rfl, Or.inl ⟨rfl, tw_983, tw_984, tw_985⟩⟩
theorem tw_987 : Cond.constantLong RX9 149 (255) ∈ ab_T := ab_T_in (i := 987) (by decide +kernel) (by decide +kernel)
theorem tw_991 : Cond.code yX9_fares cX9_fares 3 (some .int) ∈ ab_T := ab_T_in (i := 991) (by decide +kernel) (by decide +kernel)
theorem pm_X9_fares : ab_pm Y_X9_fares 0 := ⟨⟨by decide +kernel, by decide +kernel⟩, by decide +kernel, tw_991, tw_49⟩
theorem tw_988 : Cond.methodLink "WaterMenLaw" 66 yX9_fares ∈ ab_T := ab_T_in (i := 988) (by decide +kernel) (by decide +kernel)
theorem tw_990 : Cond.selects RX9 yX9_fares yX9_fares ∈ ab_T := ab_T_in (i := 990) (by decide +kernel) (by decide +kernel)
theorem tw_989 : Cond.instanceMethod yX9_fares ∈ ab_T := ab_T_in (i := 989) (by decide +kernel) (by decide +kernel)
theorem cs_L_66_10 : ab_cV "WaterMenLaw" 66 10 Y_X9_fares 0 := ⟨pm_X9_fares, RX9, TX9, 41, rfl, Or.inl ⟨rfl, tw_988, tw_989, tw_990⟩⟩
theorem tw_995 : Cond.code yX9_readFares cX9_readFares 4 (some .int) ∈ ab_T := ab_T_in (i := 995) (by decide +kernel) (by decide +kernel)
theorem pm_X9_readFares : ab_pm Y_X9_readFares 0 := ⟨⟨by decide +kernel, by decide +kernel⟩, by decide +kernel, tw_995, tw_49⟩
theorem tw_992 : Cond.methodLink RX9 169 yX9_readFares ∈ ab_T := ab_T_in (i := 992) (by decide +kernel) (by decide +kernel)
theorem tw_28 : Cond.selects RX9 yX9_readFares yX9_readFares ∈ ab_T := ab_T_in (i := 28) (by decide +kernel) (by decide +kernel)
theorem tw_994 : Cond.instanceMethod yX9_readFares ∈ ab_T := ab_T_in (i := 994) (by decide +kernel) (by decide +kernel)
theorem cs_X9_169_10 : ab_cV RX9 169 10 Y_X9_readFares 0 := ⟨pm_X9_readFares, RX9, TX9, 41, rfl, Or.inl ⟨rfl, tw_992, tw_994, tw_28⟩⟩
theorem tw_999 : Cond.code yX9_readClause cX9_readClause 5 (some .boolean) ∈ ab_T := ab_T_in (i := 999) (by decide +kernel) (by decide +kernel)
theorem pm_X9_readClause : ab_pm Y_X9_readClause 0 := ⟨⟨by decide +kernel, by decide +kernel⟩, by decide +kernel, tw_999, tw_49⟩
theorem tw_996 : Cond.methodLink RX9 165 yX9_readClause ∈ ab_T := ab_T_in (i := 996) (by decide +kernel) (by decide +kernel)
theorem tw_29 : Cond.selects RX9 yX9_readClause yX9_readClause ∈ ab_T := ab_T_in (i := 29) (by decide +kernel) (by decide +kernel)
theorem tw_998 : Cond.instanceMethod yX9_readClause ∈ ab_T := ab_T_in (i := 998) (by decide +kernel) (by decide +kernel)
theorem cs_X9_165_10 : ab_cV RX9 165 10 Y_X9_readClause 0 := ⟨pm_X9_readClause, RX9, TX9, 41, rfl, Or.inl ⟨rfl, tw_996, tw_998, tw_29⟩⟩
theorem tw_1003 : Cond.code yX9_number cX9_number 6 (some .int) ∈ ab_T := ab_T_in (i := 1003) (by decide +kernel) (by decide +kernel)
theorem pm_X9_number : ab_pm Y_X9_number 2 := ⟨⟨by decide +kernel, by decide +kernel⟩, by decide +kernel, tw_1003, tw_49⟩
theorem tw_1000 : Cond.methodLink RX9 161 yX9_number ∈ ab_T := ab_T_in (i := 1000) (by decide +kernel) (by decide +kernel)
theorem tw_30 : Cond.selects RX9 yX9_number yX9_number ∈ ab_T := ab_T_in (i := 30) (by decide +kernel) (by decide +kernel)
theorem tw_1002 : Cond.instanceMethod yX9_number ∈ ab_T := ab_T_in (i := 1002) (by decide +kernel) (by decide +kernel)
theorem cs_X9_161_10 : ab_cV RX9 161 10 Y_X9_number 2 := ⟨pm_X9_number, RX9, TX9, 41, rfl, Or.inl ⟨rfl, tw_1000, tw_1002, tw_30⟩⟩
theorem tw_1007 : Cond.code yX9_next cX9_next 1 (some .int) ∈ ab_T := ab_T_in (i := 1007) (by decide +kernel) (by decide +kernel)
theorem pm_X9_next : ab_pm Y_X9_next 0 := ⟨⟨by decide +kernel, by decide +kernel⟩, by decide +kernel, tw_1007, tw_49⟩
theorem tw_1004 : Cond.methodLink RX9 157 yX9_next ∈ ab_T := ab_T_in (i := 1004) (by decide +kernel) (by decide +kernel)
theorem tw_31 : Cond.selects RX9 yX9_next yX9_next ∈ ab_T := ab_T_in (i := 31) (by decide +kernel) (by decide +kernel)
theorem tw_1006 : Cond.instanceMethod yX9_next ∈ ab_T := ab_T_in (i := 1006) (by decide +kernel) (by decide +kernel)
theorem cs_X9_157_10 : ab_cV RX9 157 10 Y_X9_next 0 := ⟨pm_X9_next, RX9, TX9, 41, rfl, Or.inl ⟨rfl, tw_1004, tw_1006, tw_31⟩⟩
theorem tw_1011 : Cond.code yX9_fare cX9_fare 2 (some .int) ∈ ab_T := ab_T_in (i := 1011) (by decide +kernel) (by decide +kernel)
theorem pm_X9_fare : ab_pm Y_X9_fare 1 := ⟨⟨by decide +kernel, by decide +kernel⟩, by decide +kernel, tw_1011, tw_49⟩
theorem tw_1008 : Cond.methodLink "WaterMenLaw" 70 yX9_fare ∈ ab_T := ab_T_in (i := 1008) (by decide +kernel) (by decide +kernel)
theorem tw_1010 : Cond.selects RX9 yX9_fare yX9_fare ∈ ab_T := ab_T_in (i := 1010) (by decide +kernel) (by decide +kernel)
theorem tw_1009 : Cond.instanceMethod yX9_fare ∈ ab_T := ab_T_in (i := 1009) (by decide +kernel) (by decide +kernel)
theorem cs_L_70_10 : ab_cV "WaterMenLaw" 70 10 Y_X9_fare 1 := ⟨pm_X9_fare, RX9, TX9, 41, rfl, Or.inl ⟨rfl, tw_1008, tw_1009, tw_1010⟩⟩
theorem tw_1015 : Cond.code yX9_run cX9_run 3 (some .int) ∈ ab_T := ab_T_in (i := 1015) (by decide +kernel) (by decide +kernel)
theorem pm_X9_run : ab_pm Y_X9_run 1 := ⟨⟨by decide +kernel, by decide +kernel⟩, by decide +kernel, tw_1015, tw_49⟩
theorem tw_1012 : Cond.methodLink "WaterMenLaw" 74 yX9_run ∈ ab_T := ab_T_in (i := 1012) (by decide +kernel) (by decide +kernel)
theorem tw_1014 : Cond.selects RX9 yX9_run yX9_run ∈ ab_T := ab_T_in (i := 1014) (by decide +kernel) (by decide +kernel)
theorem tw_1013 : Cond.instanceMethod yX9_run ∈ ab_T := ab_T_in (i := 1013) (by decide +kernel) (by decide +kernel)
theorem cs_L_74_10 : ab_cV "WaterMenLaw" 74 10 Y_X9_run 1 := ⟨pm_X9_run, RX9, TX9, 41, rfl, Or.inl ⟨rfl, tw_1012, tw_1013, tw_1014⟩⟩
theorem tw_1019 : Cond.code yX9_minute cX9_minute 3 none ∈ ab_T := ab_T_in (i := 1019) (by decide +kernel) (by decide +kernel)
theorem pm_X9_minute : ab_pm Y_X9_minute 0 := ⟨⟨by decide +kernel, by decide +kernel⟩, by decide +kernel, tw_1019, tw_49⟩
theorem tw_1016 : Cond.methodLink RX9 204 yX9_minute ∈ ab_T := ab_T_in (i := 1016) (by decide +kernel) (by decide +kernel)
theorem tw_32 : Cond.selects RX9 yX9_minute yX9_minute ∈ ab_T := ab_T_in (i := 32) (by decide +kernel) (by decide +kernel)
theorem tw_1018 : Cond.instanceMethod yX9_minute ∈ ab_T := ab_T_in (i := 1018) (by decide +kernel) (by decide +kernel)
theorem cs_X9_204_10 : ab_cV RX9 204 10 Y_X9_minute 0 := ⟨pm_X9_minute, RX9, TX9, 41, rfl, Or.inl ⟨rfl, tw_1016, tw_1018, tw_32⟩⟩
theorem tw_1023 : Cond.code yX9_flow cX9_flow 4 none ∈ ab_T := ab_T_in (i := 1023) (by decide +kernel) (by decide +kernel)
theorem pm_X9_flow : ab_pm Y_X9_flow 1 := ⟨⟨by decide +kernel, by decide +kernel⟩, by decide +kernel, tw_1023, tw_49⟩
theorem tw_1020 : Cond.methodLink RX9 195 yX9_flow ∈ ab_T := ab_T_in (i := 1020) (by decide +kernel) (by decide +kernel)
theorem tw_33 : Cond.selects RX9 yX9_flow yX9_flow ∈ ab_T := ab_T_in (i := 33) (by decide +kernel) (by decide +kernel)
theorem tw_1022 : Cond.instanceMethod yX9_flow ∈ ab_T := ab_T_in (i := 1022) (by decide +kernel) (by decide +kernel)
theorem cs_X9_195_10 : ab_cV RX9 195 10 Y_X9_flow 1 := ⟨pm_X9_flow, RX9, TX9, 41, rfl, Or.inl ⟨rfl, tw_1020, tw_1022, tw_33⟩⟩
theorem tw_1027 : Cond.code yX9_fill cX9_fill 5 none ∈ ab_T := ab_T_in (i := 1027) (by decide +kernel) (by decide +kernel)
theorem pm_X9_fill : ab_pm Y_X9_fill 1 := ⟨⟨by decide +kernel, by decide +kernel⟩, by decide +kernel, tw_1027, tw_49⟩
theorem tw_1024 : Cond.methodLink RX9 198 yX9_fill ∈ ab_T := ab_T_in (i := 1024) (by decide +kernel) (by decide +kernel)
theorem tw_34 : Cond.selects RX9 yX9_fill yX9_fill ∈ ab_T := ab_T_in (i := 34) (by decide +kernel) (by decide +kernel)
theorem tw_1026 : Cond.instanceMethod yX9_fill ∈ ab_T := ab_T_in (i := 1026) (by decide +kernel) (by decide +kernel)
theorem cs_X9_198_10 : ab_cV RX9 198 10 Y_X9_fill 1 := ⟨pm_X9_fill, RX9, TX9, 41, rfl, Or.inl ⟨rfl, tw_1024, tw_1026, tw_34⟩⟩
theorem tw_1031 : Cond.code yX9_isAhead cX9_isAhead 3 (some .boolean) ∈ ab_T := ab_T_in (i := 1031) (by decide +kernel) (by decide +kernel)
theorem pm_X9_isAhead : ab_pm Y_X9_isAhead 2 := ⟨⟨by decide +kernel, by decide +kernel⟩, by decide +kernel, tw_1031, tw_49⟩
theorem tw_1028 : Cond.methodLink RX9 172 yX9_isAhead ∈ ab_T := ab_T_in (i := 1028) (by decide +kernel) (by decide +kernel)
theorem tw_35 : Cond.selects RX9 yX9_isAhead yX9_isAhead ∈ ab_T := ab_T_in (i := 35) (by decide +kernel) (by decide +kernel)
theorem tw_1030 : Cond.instanceMethod yX9_isAhead ∈ ab_T := ab_T_in (i := 1030) (by decide +kernel) (by decide +kernel)
theorem cs_X9_172_10 : ab_cV RX9 172 10 Y_X9_isAhead 2 := ⟨pm_X9_isAhead, RX9, TX9, 41, rfl, Or.inl ⟨rfl, tw_1028, tw_1030, tw_35⟩⟩
theorem tw_1034 : Cond.code yX9_least cX9_least 2 (some .int) ∈ ab_T := ab_T_in (i := 1034) (by decide +kernel) (by decide +kernel)
theorem pm_X9_least : ab_pm Y_X9_least 2 := ⟨⟨by decide +kernel, by decide +kernel⟩, by decide +kernel, tw_1034, tw_49⟩
theorem tw_1032 : Cond.methodLink RX9 175 yX9_least ∈ ab_T := ab_T_in (i := 1032) (by decide +kernel) (by decide +kernel)
theorem tw_1033 : Cond.static yX9_least ∈ ab_T := ab_T_in (i := 1033) (by decide +kernel) (by decide +kernel)
theorem cs_X9_175 : ab_cS RX9 175 Y_X9_least 2 := ⟨pm_X9_least, tw_1032, tw_1033⟩
theorem tw_1038 : Cond.code yX9_wayOf cX9_wayOf 5 (some .int) ∈ ab_T := ab_T_in (i := 1038) (by decide +kernel) (by decide +kernel)
theorem pm_X9_wayOf : ab_pm Y_X9_wayOf 3 := ⟨⟨by decide +kernel, by decide +kernel⟩, by decide +kernel, tw_1038, tw_49⟩
theorem tw_1035 : Cond.methodLink RX9 181 yX9_wayOf ∈ ab_T := ab_T_in (i := 1035) (by decide +kernel) (by decide +kernel)
theorem tw_36 : Cond.selects RX9 yX9_wayOf yX9_wayOf ∈ ab_T := ab_T_in (i := 36) (by decide +kernel) (by decide +kernel)
theorem tw_1037 : Cond.instanceMethod yX9_wayOf ∈ ab_T := ab_T_in (i := 1037) (by decide +kernel) (by decide +kernel)
theorem cs_X9_181_10 : ab_cV RX9 181 10 Y_X9_wayOf 3 := ⟨pm_X9_wayOf, RX9, TX9, 41, rfl, Or.inl ⟨rfl, tw_1035, tw_1037, tw_36⟩⟩
theorem tw_1042 : Cond.code yX9_pour cX9_pour 4 none ∈ ab_T := ab_T_in (i := 1042) (by decide +kernel) (by decide +kernel)
theorem pm_X9_pour : ab_pm Y_X9_pour 1 := ⟨⟨by decide +kernel, by decide +kernel⟩, by decide +kernel, tw_1042, tw_49⟩
theorem tw_1039 : Cond.methodLink RX9 201 yX9_pour ∈ ab_T := ab_T_in (i := 1039) (by decide +kernel) (by decide +kernel)
theorem tw_37 : Cond.selects RX9 yX9_pour yX9_pour ∈ ab_T := ab_T_in (i := 37) (by decide +kernel) (by decide +kernel)
theorem tw_1041 : Cond.instanceMethod yX9_pour ∈ ab_T := ab_T_in (i := 1041) (by decide +kernel) (by decide +kernel)
theorem cs_X9_201_10 : ab_cV RX9 201 10 Y_X9_pour 1 := ⟨pm_X9_pour, RX9, TX9, 41, rfl, Or.inl ⟨rfl, tw_1039, tw_1041, tw_37⟩⟩
theorem tw_1046 : Cond.code yX9_keep cX9_keep 5 none ∈ ab_T := ab_T_in (i := 1046) (by decide +kernel) (by decide +kernel)
theorem pm_X9_keep : ab_pm Y_X9_keep 3 := ⟨⟨by decide +kernel, by decide +kernel⟩, by decide +kernel, tw_1046, tw_49⟩
theorem tw_1043 : Cond.methodLink RX9 188 yX9_keep ∈ ab_T := ab_T_in (i := 1043) (by decide +kernel) (by decide +kernel)
theorem tw_38 : Cond.selects RX9 yX9_keep yX9_keep ∈ ab_T := ab_T_in (i := 38) (by decide +kernel) (by decide +kernel)
theorem tw_1045 : Cond.instanceMethod yX9_keep ∈ ab_T := ab_T_in (i := 1045) (by decide +kernel) (by decide +kernel)
theorem cs_X9_188_10 : ab_cV RX9 188 10 Y_X9_keep 3 := ⟨pm_X9_keep, RX9, TX9, 41, rfl, Or.inl ⟨rfl, tw_1043, tw_1045, tw_38⟩⟩
theorem tw_1050 : Cond.code yX9_goDown cX9_goDown 2 none ∈ ab_T := ab_T_in (i := 1050) (by decide +kernel) (by decide +kernel)
theorem pm_X9_goDown : ab_pm Y_X9_goDown 1 := ⟨⟨by decide +kernel, by decide +kernel⟩, by decide +kernel, tw_1050, tw_49⟩
theorem tw_1047 : Cond.methodLink RX9 192 yX9_goDown ∈ ab_T := ab_T_in (i := 1047) (by decide +kernel) (by decide +kernel)
theorem tw_39 : Cond.selects RX9 yX9_goDown yX9_goDown ∈ ab_T := ab_T_in (i := 39) (by decide +kernel) (by decide +kernel)
theorem tw_1049 : Cond.instanceMethod yX9_goDown ∈ ab_T := ab_T_in (i := 1049) (by decide +kernel) (by decide +kernel)
theorem cs_X9_192_10 : ab_cV RX9 192 10 Y_X9_goDown 1 := ⟨pm_X9_goDown, RX9, TX9, 41, rfl, Or.inl ⟨rfl, tw_1047, tw_1049, tw_39⟩⟩
theorem tw_1054 : Cond.code yX9_told cX9_told 5 (some .int) ∈ ab_T := ab_T_in (i := 1054) (by decide +kernel) (by decide +kernel)
theorem pm_X9_told : ab_pm Y_X9_told 2 := ⟨⟨by decide +kernel, by decide +kernel⟩, by decide +kernel, tw_1054, tw_49⟩
theorem tw_1051 : Cond.methodLink "WaterMenLaw" 78 yX9_told ∈ ab_T := ab_T_in (i := 1051) (by decide +kernel) (by decide +kernel)
theorem tw_1053 : Cond.selects RX9 yX9_told yX9_told ∈ ab_T := ab_T_in (i := 1053) (by decide +kernel) (by decide +kernel)
theorem tw_1052 : Cond.instanceMethod yX9_told ∈ ab_T := ab_T_in (i := 1052) (by decide +kernel) (by decide +kernel)
theorem cs_L_78_10 : ab_cV "WaterMenLaw" 78 10 Y_X9_told 2 := ⟨pm_X9_told, RX9, TX9, 41, rfl, Or.inl ⟨rfl, tw_1051, tw_1052, tw_1053⟩⟩
theorem tw_1058 : Cond.code yX9_water cX9_water 3 (some .int) ∈ ab_T := ab_T_in (i := 1058) (by decide +kernel) (by decide +kernel)
theorem pm_X9_water : ab_pm Y_X9_water 2 := ⟨⟨by decide +kernel, by decide +kernel⟩, by decide +kernel, tw_1058, tw_49⟩
theorem tw_1055 : Cond.methodLink "WaterMenLaw" 82 yX9_water ∈ ab_T := ab_T_in (i := 1055) (by decide +kernel) (by decide +kernel)
theorem tw_1057 : Cond.selects RX9 yX9_water yX9_water ∈ ab_T := ab_T_in (i := 1057) (by decide +kernel) (by decide +kernel)
theorem tw_1056 : Cond.instanceMethod yX9_water ∈ ab_T := ab_T_in (i := 1056) (by decide +kernel) (by decide +kernel)
theorem cs_L_82_10 : ab_cV "WaterMenLaw" 82 10 Y_X9_water 2 := ⟨pm_X9_water, RX9, TX9, 41, rfl, Or.inl ⟨rfl, tw_1055, tw_1056, tw_1057⟩⟩
theorem tw_1062 : Cond.code yX9_sum cX9_sum 2 (some .long) ∈ ab_T := ab_T_in (i := 1062) (by decide +kernel) (by decide +kernel)
theorem pm_X9_sum : ab_pm Y_X9_sum 1 := ⟨⟨by decide +kernel, by decide +kernel⟩, by decide +kernel, tw_1062, tw_49⟩
theorem tw_1059 : Cond.methodLink "WaterMenLaw" 87 yX9_sum ∈ ab_T := ab_T_in (i := 1059) (by decide +kernel) (by decide +kernel)
theorem tw_1061 : Cond.selects RX9 yX9_sum yX9_sum ∈ ab_T := ab_T_in (i := 1061) (by decide +kernel) (by decide +kernel)
theorem tw_1060 : Cond.instanceMethod yX9_sum ∈ ab_T := ab_T_in (i := 1060) (by decide +kernel) (by decide +kernel)
theorem cs_L_87_10 : ab_cV "WaterMenLaw" 87 10 Y_X9_sum 1 := ⟨pm_X9_sum, RX9, TX9, 41, rfl, Or.inl ⟨rfl, tw_1059, tw_1060, tw_1061⟩⟩
theorem tw_1063 : Cond.constantLong RX9 207 (-1) ∈ ab_T := ab_T_in (i := 1063) (by decide +kernel) (by decide +kernel)
theorem tw_1067 : Cond.code yX9_fire cX9_fire 5 (some .int) ∈ ab_T := ab_T_in (i := 1067) (by decide +kernel) (by decide +kernel)
theorem pm_X9_fire : ab_pm Y_X9_fire 2 := ⟨⟨by decide +kernel, by decide +kernel⟩, by decide +kernel, tw_1067, tw_49⟩
theorem tw_1064 : Cond.methodLink "WaterMenLaw" 91 yX9_fire ∈ ab_T := ab_T_in (i := 1064) (by decide +kernel) (by decide +kernel)
theorem tw_1066 : Cond.selects RX9 yX9_fire yX9_fire ∈ ab_T := ab_T_in (i := 1066) (by decide +kernel) (by decide +kernel)
theorem tw_1065 : Cond.instanceMethod yX9_fire ∈ ab_T := ab_T_in (i := 1065) (by decide +kernel) (by decide +kernel)
theorem cs_L_91_10 : ab_cV "WaterMenLaw" 91 10 Y_X9_fire 2 := ⟨pm_X9_fire, RX9, TX9, 41, rfl, Or.inl ⟨rfl, tw_1064, tw_1065, tw_1066⟩⟩
theorem tw_1071 : Cond.code yX9_poured cX9_poured 3 (some .int) ∈ ab_T := ab_T_in (i := 1071) (by decide +kernel) (by decide +kernel)
theorem pm_X9_poured : ab_pm Y_X9_poured 2 := ⟨⟨by decide +kernel, by decide +kernel⟩, by decide +kernel, tw_1071, tw_49⟩
theorem tw_1068 : Cond.methodLink "WaterMenLaw" 95 yX9_poured ∈ ab_T := ab_T_in (i := 1068) (by decide +kernel) (by decide +kernel)
theorem tw_1070 : Cond.selects RX9 yX9_poured yX9_poured ∈ ab_T := ab_T_in (i := 1070) (by decide +kernel) (by decide +kernel)
theorem tw_1069 : Cond.instanceMethod yX9_poured ∈ ab_T := ab_T_in (i := 1069) (by decide +kernel) (by decide +kernel)
theorem cs_L_95_10 : ab_cV "WaterMenLaw" 95 10 Y_X9_poured 2 := ⟨pm_X9_poured, RX9, TX9, 41, rfl, Or.inl ⟨rfl, tw_1068, tw_1069, tw_1070⟩⟩
theorem tw_1075 : Cond.code yX9_foul cX9_foul 5 (some .int) ∈ ab_T := ab_T_in (i := 1075) (by decide +kernel) (by decide +kernel)
theorem pm_X9_foul : ab_pm Y_X9_foul 2 := ⟨⟨by decide +kernel, by decide +kernel⟩, by decide +kernel, tw_1075, tw_49⟩
theorem tw_1072 : Cond.methodLink "WaterMenLaw" 99 yX9_foul ∈ ab_T := ab_T_in (i := 1072) (by decide +kernel) (by decide +kernel)
theorem tw_1074 : Cond.selects RX9 yX9_foul yX9_foul ∈ ab_T := ab_T_in (i := 1074) (by decide +kernel) (by decide +kernel)
theorem tw_1073 : Cond.instanceMethod yX9_foul ∈ ab_T := ab_T_in (i := 1073) (by decide +kernel) (by decide +kernel)
theorem cs_L_99_10 : ab_cV "WaterMenLaw" 99 10 Y_X9_foul 2 := ⟨pm_X9_foul, RX9, TX9, 41, rfl, Or.inl ⟨rfl, tw_1072, tw_1073, tw_1074⟩⟩
theorem tw_1079 : Cond.code yX9_give cX9_give 10 (some .int) ∈ ab_T := ab_T_in (i := 1079) (by decide +kernel) (by decide +kernel)
theorem pm_X9_give : ab_pm Y_X9_give 3 := ⟨⟨by decide +kernel, by decide +kernel⟩, by decide +kernel, tw_1079, tw_49⟩
theorem tw_1076 : Cond.methodLink "WaterMenLaw" 103 yX9_give ∈ ab_T := ab_T_in (i := 1076) (by decide +kernel) (by decide +kernel)
theorem tw_1078 : Cond.selects RX9 yX9_give yX9_give ∈ ab_T := ab_T_in (i := 1078) (by decide +kernel) (by decide +kernel)
theorem tw_1077 : Cond.instanceMethod yX9_give ∈ ab_T := ab_T_in (i := 1077) (by decide +kernel) (by decide +kernel)
theorem cs_L_103_10 : ab_cV "WaterMenLaw" 103 10 Y_X9_give 3 := ⟨pm_X9_give, RX9, TX9, 41, rfl, Or.inl ⟨rfl, tw_1076, tw_1077, tw_1078⟩⟩
theorem tw_1082 : Cond.code yX9_ones cX9_ones 3 (some .int) ∈ ab_T := ab_T_in (i := 1082) (by decide +kernel) (by decide +kernel)
theorem pm_X9_ones : ab_pm Y_X9_ones 1 := ⟨⟨by decide +kernel, by decide +kernel⟩, by decide +kernel, tw_1082, tw_49⟩
theorem tw_1080 : Cond.methodLink RX9 209 yX9_ones ∈ ab_T := ab_T_in (i := 1080) (by decide +kernel) (by decide +kernel)
theorem tw_1081 : Cond.static yX9_ones ∈ ab_T := ab_T_in (i := 1081) (by decide +kernel) (by decide +kernel)
theorem cs_X9_209 : ab_cS RX9 209 Y_X9_ones 1 := ⟨pm_X9_ones, tw_1080, tw_1081⟩
theorem tw_1086 : Cond.code yX9_given cX9_given 2 (some .int) ∈ ab_T := ab_T_in (i := 1086) (by decide +kernel) (by decide +kernel)
theorem pm_X9_given : ab_pm Y_X9_given 1 := ⟨⟨by decide +kernel, by decide +kernel⟩, by decide +kernel, tw_1086, tw_49⟩
theorem tw_1083 : Cond.methodLink "WaterMenLaw" 107 yX9_given ∈ ab_T := ab_T_in (i := 1083) (by decide +kernel) (by decide +kernel)
theorem tw_1085 : Cond.selects RX9 yX9_given yX9_given ∈ ab_T := ab_T_in (i := 1085) (by decide +kernel) (by decide +kernel)
theorem tw_1084 : Cond.instanceMethod yX9_given ∈ ab_T := ab_T_in (i := 1084) (by decide +kernel) (by decide +kernel)
theorem cs_L_107_10 : ab_cV "WaterMenLaw" 107 10 Y_X9_given 1 := ⟨pm_X9_given, RX9, TX9, 41, rfl, Or.inl ⟨rfl, tw_1083, tw_1084, tw_1085⟩⟩
theorem tw_1090 : Cond.code yX9_count cX9_count 4 (some .int) ∈ ab_T := ab_T_in (i := 1090) (by decide +kernel) (by decide +kernel)
theorem pm_X9_count : ab_pm Y_X9_count 1 := ⟨⟨by decide +kernel, by decide +kernel⟩, by decide +kernel, tw_1090, tw_49⟩
theorem tw_1087 : Cond.methodLink "WaterMenLaw" 111 yX9_count ∈ ab_T := ab_T_in (i := 1087) (by decide +kernel) (by decide +kernel)
theorem tw_1089 : Cond.selects RX9 yX9_count yX9_count ∈ ab_T := ab_T_in (i := 1089) (by decide +kernel) (by decide +kernel)
theorem tw_1088 : Cond.instanceMethod yX9_count ∈ ab_T := ab_T_in (i := 1088) (by decide +kernel) (by decide +kernel)
theorem cs_L_111_10 : ab_cV "WaterMenLaw" 111 10 Y_X9_count 1 := ⟨pm_X9_count, RX9, TX9, 41, rfl, Or.inl ⟨rfl, tw_1087, tw_1088, tw_1089⟩⟩
theorem tw_1091 : Cond.constantLong "WaterMenLaw" 55 (4294967295) ∈ ab_T := ab_T_in (i := 1091) (by decide +kernel) (by decide +kernel)
theorem nc_1092 : Cond.castable RX0 RX5 ∈ ab_nest := ab_nest_in (i := 1092) (by decide +kernel) rfl
theorem nc_1093 : Cond.castable RX7 RX5 ∈ ab_nest := ab_nest_in (i := 1093) (by decide +kernel) rfl
theorem nc_1094 : Cond.castable RX8 "java/lang/Object" ∈ ab_nest := ab_nest_in (i := 1094) (by decide +kernel) rfl
theorem nc_1095 : Cond.castable RJx4a65c "java/lang/Object" ∈ ab_nest := ab_nest_in (i := 1095) (by decide +kernel) rfl
theorem nc_1096 : Cond.castable RX1 "java/lang/Object" ∈ ab_nest := ab_nest_in (i := 1096) (by decide +kernel) rfl
theorem nc_1097 : Cond.castable RX6 "java/lang/Object" ∈ ab_nest := ab_nest_in (i := 1097) (by decide +kernel) rfl
theorem nc_1098 : Cond.castable RX3 "java/lang/Object" ∈ ab_nest := ab_nest_in (i := 1098) (by decide +kernel) rfl
theorem nc_1099 : Cond.castable RX9 "java/lang/Object" ∈ ab_nest := ab_nest_in (i := 1099) (by decide +kernel) rfl
theorem nc_1100 : Cond.castable RX2 "java/lang/Object" ∈ ab_nest := ab_nest_in (i := 1100) (by decide +kernel) rfl
theorem nc_1101 : Cond.castable RX4 "java/lang/Object" ∈ ab_nest := ab_nest_in (i := 1101) (by decide +kernel) rfl
theorem nc_1102 : Cond.castable RX0 "java/lang/Object" ∈ ab_nest := ab_nest_in (i := 1102) (by decide +kernel) rfl
theorem nc_1103 : Cond.castable RX7 "java/lang/Object" ∈ ab_nest := ab_nest_in (i := 1103) (by decide +kernel) rfl
theorem nc_1104 : Cond.castable RX5 "java/lang/Object" ∈ ab_nest := ab_nest_in (i := 1104) (by decide +kernel) rfl
theorem nc_1108 : Cond.castable "[I" "java/lang/Object" ∈ ab_nest := ab_nest_in (i := 1108) (by decide +kernel) rfl
theorem nc_1109 : Cond.castable "[J" "java/lang/Object" ∈ ab_nest := ab_nest_in (i := 1109) (by decide +kernel) rfl
theorem nc_1110 : Cond.castable "[Ljava/lang/Object;" "java/lang/Object" ∈ ab_nest := ab_nest_in (i := 1110) (by decide +kernel) rfl
theorem nc_1111 : Cond.castable "[Z" "java/lang/Object" ∈ ab_nest := ab_nest_in (i := 1111) (by decide +kernel) rfl
theorem tw_286 : Cond.methodLink RJ7 150 arraycopyName ∈ ab_T := ab_T_in (i := 286) (by decide +kernel) (by decide +kernel)
theorem tw_515 : Cond.methodLink RJx4a65c 112 arraycopyName ∈ ab_T := ab_T_in (i := 515) (by decide +kernel) (by decide +kernel)
theorem tw_81 : Cond.fieldLink RJx4a65c 39 "java/util/ArrayList" "DEFAULTCAPACITY_EMPTY_ELEMENTDATA" "[Ljava/lang/Object;" ∈ ab_T := ab_T_in (i := 81) (by decide +kernel) (by decide +kernel)
theorem tw_68 : Cond.code objectInit ⟨#[0xb1]⟩ 1 none ∈ ab_T := ab_T_in (i := 68) (by decide +kernel) (by decide +kernel)
theorem tw_67 : Cond.instanceMethod objectInit ∈ ab_T := ab_T_in (i := 67) (by decide +kernel) (by decide +kernel)
end
