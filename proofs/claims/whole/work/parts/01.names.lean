-- ===== PART A: goes FIRST, ahead of the names: the tables' words, and 'selects' of the private methods out of them =====
/-- a private method of a class that the tables say can be made, by its rows of tables_1 -/
def lw_okq (q : MethodName × Nat) : Prop := (q.1.cls ≠ "java/lang/invoke/MethodHandle" ∧ q.1.cls ≠ "java/lang/invoke/VarHandle") ∧ Cond.instantiable q.1.cls q.2 ∈ tables_1 ∧ Cond.privateMethod q.1 ∈ tables_1 ∧ Cond.instanceMethod q.1 ∈ tables_1
theorem lw_p0 : lw_okq (⟨"ErrandLanes", "found", "(I)I"⟩, 13) := ⟨⟨by decide +kernel, by decide +kernel⟩, List.mem_of_getElem? (i := 18) (by decide +kernel), List.mem_of_getElem? (i := 246) (by decide +kernel), List.mem_of_getElem? (i := 247) (by decide +kernel)⟩
theorem lw_p1 : lw_okq (⟨"ErrandLanes", "foundNone", "(I)I"⟩, 13) := ⟨⟨by decide +kernel, by decide +kernel⟩, List.mem_of_getElem? (i := 18) (by decide +kernel), List.mem_of_getElem? (i := 255) (by decide +kernel), List.mem_of_getElem? (i := 256) (by decide +kernel)⟩
theorem lw_p2 : lw_okq (⟨"ErrandLanes", "trialBeginsBy", "(I)Z"⟩, 13) := ⟨⟨by decide +kernel, by decide +kernel⟩, List.mem_of_getElem? (i := 18) (by decide +kernel), List.mem_of_getElem? (i := 525) (by decide +kernel), List.mem_of_getElem? (i := 526) (by decide +kernel)⟩
theorem lw_p3 : lw_okq (⟨"ErrandLanes", "asked", "(III)I"⟩, 13) := ⟨⟨by decide +kernel, by decide +kernel⟩, List.mem_of_getElem? (i := 18) (by decide +kernel), List.mem_of_getElem? (i := 601) (by decide +kernel), List.mem_of_getElem? (i := 602) (by decide +kernel)⟩
theorem lw_p4 : lw_okq (⟨"ErrandLanes", "given", "(III)I"⟩, 13) := ⟨⟨by decide +kernel, by decide +kernel⟩, List.mem_of_getElem? (i := 18) (by decide +kernel), List.mem_of_getElem? (i := 612) (by decide +kernel), List.mem_of_getElem? (i := 613) (by decide +kernel)⟩
theorem lw_p5 : lw_okq (⟨"ErrandLanes", "rowsThere", "()I"⟩, 13) := ⟨⟨by decide +kernel, by decide +kernel⟩, List.mem_of_getElem? (i := 18) (by decide +kernel), List.mem_of_getElem? (i := 628) (by decide +kernel), List.mem_of_getElem? (i := 629) (by decide +kernel)⟩
theorem lw_p6 : lw_okq (⟨"ErrandLanesModel", "find", "(I)I"⟩, 21) := ⟨⟨by decide +kernel, by decide +kernel⟩, List.mem_of_getElem? (i := 636) (by decide +kernel), List.mem_of_getElem? (i := 720) (by decide +kernel), List.mem_of_getElem? (i := 721) (by decide +kernel)⟩
theorem lw_p7 : lw_okq (⟨"ErrandLanesModel", "give", "(I)I"⟩, 21) := ⟨⟨by decide +kernel, by decide +kernel⟩, List.mem_of_getElem? (i := 636) (by decide +kernel), List.mem_of_getElem? (i := 725) (by decide +kernel), List.mem_of_getElem? (i := 726) (by decide +kernel)⟩
theorem lw_p8 : lw_okq (⟨"ErrandLanesModel", "isSpan", "(III)Z"⟩, 21) := ⟨⟨by decide +kernel, by decide +kernel⟩, List.mem_of_getElem? (i := 636) (by decide +kernel), List.mem_of_getElem? (i := 737) (by decide +kernel), List.mem_of_getElem? (i := 738) (by decide +kernel)⟩
theorem lw_p9 : lw_okq (⟨"ErrandLanesModel", "readsAll", "()Z"⟩, 21) := ⟨⟨by decide +kernel, by decide +kernel⟩, List.mem_of_getElem? (i := 636) (by decide +kernel), List.mem_of_getElem? (i := 756) (by decide +kernel), List.mem_of_getElem? (i := 757) (by decide +kernel)⟩
theorem lw_p10 : lw_okq (⟨"ErrandLanesModel", "token", "()V"⟩, 21) := ⟨⟨by decide +kernel, by decide +kernel⟩, List.mem_of_getElem? (i := 636) (by decide +kernel), List.mem_of_getElem? (i := 760) (by decide +kernel), List.mem_of_getElem? (i := 761) (by decide +kernel)⟩
theorem lw_p11 : lw_okq (⟨"ErrandLanesModel", "readsPath", "()Z"⟩, 21) := ⟨⟨by decide +kernel, by decide +kernel⟩, List.mem_of_getElem? (i := 636) (by decide +kernel), List.mem_of_getElem? (i := 767) (by decide +kernel), List.mem_of_getElem? (i := 768) (by decide +kernel)⟩
theorem lw_p12 : lw_okq (⟨"ErrandLanesModel", "isWord", "(II)Z"⟩, 21) := ⟨⟨by decide +kernel, by decide +kernel⟩, List.mem_of_getElem? (i := 636) (by decide +kernel), List.mem_of_getElem? (i := 772) (by decide +kernel), List.mem_of_getElem? (i := 773) (by decide +kernel)⟩
theorem lw_p13 : lw_okq (⟨"ErrandLanesModel", "number", "(IIZ)I"⟩, 21) := ⟨⟨by decide +kernel, by decide +kernel⟩, List.mem_of_getElem? (i := 636) (by decide +kernel), List.mem_of_getElem? (i := 776) (by decide +kernel), List.mem_of_getElem? (i := 777) (by decide +kernel)⟩
theorem lw_p14 : lw_okq (⟨"ErrandLanesModel", "readsSign", "()Z"⟩, 21) := ⟨⟨by decide +kernel, by decide +kernel⟩, List.mem_of_getElem? (i := 636) (by decide +kernel), List.mem_of_getElem? (i := 780) (by decide +kernel), List.mem_of_getElem? (i := 781) (by decide +kernel)⟩
theorem lw_p15 : lw_okq (⟨"ErrandLanesModel", "isSign", "()Z"⟩, 21) := ⟨⟨by decide +kernel, by decide +kernel⟩, List.mem_of_getElem? (i := 636) (by decide +kernel), List.mem_of_getElem? (i := 784) (by decide +kernel), List.mem_of_getElem? (i := 785) (by decide +kernel)⟩
def lw_privs_1 : List (MethodName × Nat) := [(⟨"ErrandLanes", "found", "(I)I"⟩, 13), (⟨"ErrandLanes", "foundNone", "(I)I"⟩, 13), (⟨"ErrandLanes", "trialBeginsBy", "(I)Z"⟩, 13), (⟨"ErrandLanes", "asked", "(III)I"⟩, 13), (⟨"ErrandLanes", "given", "(III)I"⟩, 13), (⟨"ErrandLanes", "rowsThere", "()I"⟩, 13), (⟨"ErrandLanesModel", "find", "(I)I"⟩, 21), (⟨"ErrandLanesModel", "give", "(I)I"⟩, 21), (⟨"ErrandLanesModel", "isSpan", "(III)Z"⟩, 21), (⟨"ErrandLanesModel", "readsAll", "()Z"⟩, 21), (⟨"ErrandLanesModel", "token", "()V"⟩, 21), (⟨"ErrandLanesModel", "readsPath", "()Z"⟩, 21), (⟨"ErrandLanesModel", "isWord", "(II)Z"⟩, 21), (⟨"ErrandLanesModel", "number", "(IIZ)I"⟩, 21), (⟨"ErrandLanesModel", "readsSign", "()Z"⟩, 21), (⟨"ErrandLanesModel", "isSign", "()Z"⟩, 21)]
theorem lw_r1 : ∀ q ∈ lw_privs_1, lw_okq q := List.forall_mem_cons.mpr ⟨lw_p0, List.forall_mem_cons.mpr ⟨lw_p1, List.forall_mem_cons.mpr ⟨lw_p2, List.forall_mem_cons.mpr ⟨lw_p3, List.forall_mem_cons.mpr ⟨lw_p4, List.forall_mem_cons.mpr ⟨lw_p5, List.forall_mem_cons.mpr ⟨lw_p6, List.forall_mem_cons.mpr ⟨lw_p7, List.forall_mem_cons.mpr ⟨lw_p8, List.forall_mem_cons.mpr ⟨lw_p9, List.forall_mem_cons.mpr ⟨lw_p10, List.forall_mem_cons.mpr ⟨lw_p11, List.forall_mem_cons.mpr ⟨lw_p12, List.forall_mem_cons.mpr ⟨lw_p13, List.forall_mem_cons.mpr ⟨lw_p14, List.forall_mem_cons.mpr ⟨lw_p15, fun _ h => absurd h List.not_mem_nil⟩⟩⟩⟩⟩⟩⟩⟩⟩⟩⟩⟩⟩⟩⟩⟩
theorem lw_p16 : lw_okq (⟨"ErrandLanesModel", "readsPerson", "()Z"⟩, 21) := ⟨⟨by decide +kernel, by decide +kernel⟩, List.mem_of_getElem? (i := 636) (by decide +kernel), List.mem_of_getElem? (i := 788) (by decide +kernel), List.mem_of_getElem? (i := 789) (by decide +kernel)⟩
theorem lw_p17 : lw_okq (⟨"ErrandLanesModel", "sortOfWord", "()I"⟩, 21) := ⟨⟨by decide +kernel, by decide +kernel⟩, List.mem_of_getElem? (i := 636) (by decide +kernel), List.mem_of_getElem? (i := 793) (by decide +kernel), List.mem_of_getElem? (i := 794) (by decide +kernel)⟩
theorem lw_p18 : lw_okq (⟨"ErrandLanesModel", "spotHere", "()I"⟩, 21) := ⟨⟨by decide +kernel, by decide +kernel⟩, List.mem_of_getElem? (i := 636) (by decide +kernel), List.mem_of_getElem? (i := 799) (by decide +kernel), List.mem_of_getElem? (i := 800) (by decide +kernel)⟩
theorem lw_p19 : lw_okq (⟨"ErrandLanesModel", "isTaken", "(I)Z"⟩, 21) := ⟨⟨by decide +kernel, by decide +kernel⟩, List.mem_of_getElem? (i := 636) (by decide +kernel), List.mem_of_getElem? (i := 803) (by decide +kernel), List.mem_of_getElem? (i := 804) (by decide +kernel)⟩
theorem lw_p20 : lw_okq (⟨"ErrandLanesModel", "layDone", "(I)V"⟩, 21) := ⟨⟨by decide +kernel, by decide +kernel⟩, List.mem_of_getElem? (i := 636) (by decide +kernel), List.mem_of_getElem? (i := 808) (by decide +kernel), List.mem_of_getElem? (i := 809) (by decide +kernel)⟩
theorem lw_p21 : lw_okq (⟨"ErrandLanesModel", "keepPast", "()V"⟩, 21) := ⟨⟨by decide +kernel, by decide +kernel⟩, List.mem_of_getElem? (i := 636) (by decide +kernel), List.mem_of_getElem? (i := 822) (by decide +kernel), List.mem_of_getElem? (i := 823) (by decide +kernel)⟩
theorem lw_p22 : lw_okq (⟨"ErrandLanesModel", "half", "(I)V"⟩, 21) := ⟨⟨by decide +kernel, by decide +kernel⟩, List.mem_of_getElem? (i := 636) (by decide +kernel), List.mem_of_getElem? (i := 826) (by decide +kernel), List.mem_of_getElem? (i := 827) (by decide +kernel)⟩
theorem lw_p23 : lw_okq (⟨"ErrandLanesModel", "isCow", "(I)Z"⟩, 21) := ⟨⟨by decide +kernel, by decide +kernel⟩, List.mem_of_getElem? (i := 636) (by decide +kernel), List.mem_of_getElem? (i := 830) (by decide +kernel), List.mem_of_getElem? (i := 831) (by decide +kernel)⟩
theorem lw_p24 : lw_okq (⟨"ErrandLanesModel", "comes", "(II)V"⟩, 21) := ⟨⟨by decide +kernel, by decide +kernel⟩, List.mem_of_getElem? (i := 636) (by decide +kernel), List.mem_of_getElem? (i := 834) (by decide +kernel), List.mem_of_getElem? (i := 835) (by decide +kernel)⟩
theorem lw_p25 : lw_okq (⟨"ErrandLanesModel", "meet", "(III)V"⟩, 21) := ⟨⟨by decide +kernel, by decide +kernel⟩, List.mem_of_getElem? (i := 636) (by decide +kernel), List.mem_of_getElem? (i := 841) (by decide +kernel), List.mem_of_getElem? (i := 842) (by decide +kernel)⟩
theorem lw_p26 : lw_okq (⟨"ErrandLanesModel", "isPerson", "(I)Z"⟩, 21) := ⟨⟨by decide +kernel, by decide +kernel⟩, List.mem_of_getElem? (i := 636) (by decide +kernel), List.mem_of_getElem? (i := 853) (by decide +kernel), List.mem_of_getElem? (i := 854) (by decide +kernel)⟩
theorem lw_p27 : lw_okq (⟨"ErrandLanesModel", "factOf", "(III)I"⟩, 21) := ⟨⟨by decide +kernel, by decide +kernel⟩, List.mem_of_getElem? (i := 636) (by decide +kernel), List.mem_of_getElem? (i := 857) (by decide +kernel), List.mem_of_getElem? (i := 858) (by decide +kernel)⟩
theorem lw_p28 : lw_okq (⟨"ErrandLanesModel", "holderOf", "(II)I"⟩, 21) := ⟨⟨by decide +kernel, by decide +kernel⟩, List.mem_of_getElem? (i := 636) (by decide +kernel), List.mem_of_getElem? (i := 866) (by decide +kernel), List.mem_of_getElem? (i := 867) (by decide +kernel)⟩
theorem lw_p29 : lw_okq (⟨"ErrandLanesModel", "copy0", "(II)V"⟩, 21) := ⟨⟨by decide +kernel, by decide +kernel⟩, List.mem_of_getElem? (i := 636) (by decide +kernel), List.mem_of_getElem? (i := 878) (by decide +kernel), List.mem_of_getElem? (i := 879) (by decide +kernel)⟩
theorem lw_p30 : lw_okq (⟨"ErrandLanesModel", "secretOf", "(II)I"⟩, 21) := ⟨⟨by decide +kernel, by decide +kernel⟩, List.mem_of_getElem? (i := 636) (by decide +kernel), List.mem_of_getElem? (i := 890) (by decide +kernel), List.mem_of_getElem? (i := 891) (by decide +kernel)⟩
theorem lw_p31 : lw_okq (⟨"ErrandLanesModel", "isOut", "(I)Z"⟩, 21) := ⟨⟨by decide +kernel, by decide +kernel⟩, List.mem_of_getElem? (i := 636) (by decide +kernel), List.mem_of_getElem? (i := 898) (by decide +kernel), List.mem_of_getElem? (i := 899) (by decide +kernel)⟩
def lw_privs_2 : List (MethodName × Nat) := [(⟨"ErrandLanesModel", "readsPerson", "()Z"⟩, 21), (⟨"ErrandLanesModel", "sortOfWord", "()I"⟩, 21), (⟨"ErrandLanesModel", "spotHere", "()I"⟩, 21), (⟨"ErrandLanesModel", "isTaken", "(I)Z"⟩, 21), (⟨"ErrandLanesModel", "layDone", "(I)V"⟩, 21), (⟨"ErrandLanesModel", "keepPast", "()V"⟩, 21), (⟨"ErrandLanesModel", "half", "(I)V"⟩, 21), (⟨"ErrandLanesModel", "isCow", "(I)Z"⟩, 21), (⟨"ErrandLanesModel", "comes", "(II)V"⟩, 21), (⟨"ErrandLanesModel", "meet", "(III)V"⟩, 21), (⟨"ErrandLanesModel", "isPerson", "(I)Z"⟩, 21), (⟨"ErrandLanesModel", "factOf", "(III)I"⟩, 21), (⟨"ErrandLanesModel", "holderOf", "(II)I"⟩, 21), (⟨"ErrandLanesModel", "copy0", "(II)V"⟩, 21), (⟨"ErrandLanesModel", "secretOf", "(II)I"⟩, 21), (⟨"ErrandLanesModel", "isOut", "(I)Z"⟩, 21)]
theorem lw_r2 : ∀ q ∈ lw_privs_2, lw_okq q := List.forall_mem_cons.mpr ⟨lw_p16, List.forall_mem_cons.mpr ⟨lw_p17, List.forall_mem_cons.mpr ⟨lw_p18, List.forall_mem_cons.mpr ⟨lw_p19, List.forall_mem_cons.mpr ⟨lw_p20, List.forall_mem_cons.mpr ⟨lw_p21, List.forall_mem_cons.mpr ⟨lw_p22, List.forall_mem_cons.mpr ⟨lw_p23, List.forall_mem_cons.mpr ⟨lw_p24, List.forall_mem_cons.mpr ⟨lw_p25, List.forall_mem_cons.mpr ⟨lw_p26, List.forall_mem_cons.mpr ⟨lw_p27, List.forall_mem_cons.mpr ⟨lw_p28, List.forall_mem_cons.mpr ⟨lw_p29, List.forall_mem_cons.mpr ⟨lw_p30, List.forall_mem_cons.mpr ⟨lw_p31, fun _ h => absurd h List.not_mem_nil⟩⟩⟩⟩⟩⟩⟩⟩⟩⟩⟩⟩⟩⟩⟩⟩
theorem lw_p32 : lw_okq (⟨"ErrandLanesModel", "walkers", "()I"⟩, 21) := ⟨⟨by decide +kernel, by decide +kernel⟩, List.mem_of_getElem? (i := 636) (by decide +kernel), List.mem_of_getElem? (i := 902) (by decide +kernel), List.mem_of_getElem? (i := 903) (by decide +kernel)⟩
theorem lw_p33 : lw_okq (⟨"ErrandLanesModel", "setOut", "(I)V"⟩, 21) := ⟨⟨by decide +kernel, by decide +kernel⟩, List.mem_of_getElem? (i := 636) (by decide +kernel), List.mem_of_getElem? (i := 906) (by decide +kernel), List.mem_of_getElem? (i := 907) (by decide +kernel)⟩
theorem lw_p34 : lw_okq (⟨"ErrandLanesModel", "layNone", "()V"⟩, 21) := ⟨⟨by decide +kernel, by decide +kernel⟩, List.mem_of_getElem? (i := 636) (by decide +kernel), List.mem_of_getElem? (i := 914) (by decide +kernel), List.mem_of_getElem? (i := 915) (by decide +kernel)⟩
theorem lw_p35 : lw_okq (⟨"ErrandLanesModel", "layFit", "(ZI)V"⟩, 21) := ⟨⟨by decide +kernel, by decide +kernel⟩, List.mem_of_getElem? (i := 636) (by decide +kernel), List.mem_of_getElem? (i := 918) (by decide +kernel), List.mem_of_getElem? (i := 919) (by decide +kernel)⟩
theorem lw_p36 : lw_okq (⟨"ErrandLanesModel", "isAsTold", "(I)Z"⟩, 21) := ⟨⟨by decide +kernel, by decide +kernel⟩, List.mem_of_getElem? (i := 636) (by decide +kernel), List.mem_of_getElem? (i := 933) (by decide +kernel), List.mem_of_getElem? (i := 934) (by decide +kernel)⟩
theorem lw_p37 : lw_okq (⟨"ErrandLanesModel", "sizeOfFat", "(I)I"⟩, 21) := ⟨⟨by decide +kernel, by decide +kernel⟩, List.mem_of_getElem? (i := 636) (by decide +kernel), List.mem_of_getElem? (i := 961) (by decide +kernel), List.mem_of_getElem? (i := 962) (by decide +kernel)⟩
theorem lw_p38 : lw_okq (⟨"ErrandLanesModel", "fatBody", "(I)I"⟩, 21) := ⟨⟨by decide +kernel, by decide +kernel⟩, List.mem_of_getElem? (i := 636) (by decide +kernel), List.mem_of_getElem? (i := 965) (by decide +kernel), List.mem_of_getElem? (i := 966) (by decide +kernel)⟩
theorem lw_p39 : lw_okq (⟨"ErrandLanesModel", "leave", "(I)V"⟩, 21) := ⟨⟨by decide +kernel, by decide +kernel⟩, List.mem_of_getElem? (i := 636) (by decide +kernel), List.mem_of_getElem? (i := 969) (by decide +kernel), List.mem_of_getElem? (i := 970) (by decide +kernel)⟩
theorem lw_p40 : lw_okq (⟨"ErrandLanesModel", "spotBody", "(I)I"⟩, 21) := ⟨⟨by decide +kernel, by decide +kernel⟩, List.mem_of_getElem? (i := 636) (by decide +kernel), List.mem_of_getElem? (i := 973) (by decide +kernel), List.mem_of_getElem? (i := 974) (by decide +kernel)⟩
theorem lw_p41 : lw_okq (⟨"ErrandLanesModel", "markOfFat", "(I)I"⟩, 21) := ⟨⟨by decide +kernel, by decide +kernel⟩, List.mem_of_getElem? (i := 636) (by decide +kernel), List.mem_of_getElem? (i := 977) (by decide +kernel), List.mem_of_getElem? (i := 978) (by decide +kernel)⟩
theorem lw_p42 : lw_okq (⟨"ErrandLanesModel", "errandBody", "(I)I"⟩, 21) := ⟨⟨by decide +kernel, by decide +kernel⟩, List.mem_of_getElem? (i := 636) (by decide +kernel), List.mem_of_getElem? (i := 981) (by decide +kernel), List.mem_of_getElem? (i := 982) (by decide +kernel)⟩
theorem lw_p43 : lw_okq (⟨"ErrandLanesModel", "numberBody", "(I)I"⟩, 21) := ⟨⟨by decide +kernel, by decide +kernel⟩, List.mem_of_getElem? (i := 636) (by decide +kernel), List.mem_of_getElem? (i := 985) (by decide +kernel), List.mem_of_getElem? (i := 986) (by decide +kernel)⟩
theorem lw_p44 : lw_okq (⟨"ErrandLanesModel", "sizeOfMonk", "(I)I"⟩, 21) := ⟨⟨by decide +kernel, by decide +kernel⟩, List.mem_of_getElem? (i := 636) (by decide +kernel), List.mem_of_getElem? (i := 989) (by decide +kernel), List.mem_of_getElem? (i := 990) (by decide +kernel)⟩
theorem lw_p45 : lw_okq (⟨"ErrandLanesModel", "monkBody", "(I)I"⟩, 21) := ⟨⟨by decide +kernel, by decide +kernel⟩, List.mem_of_getElem? (i := 636) (by decide +kernel), List.mem_of_getElem? (i := 993) (by decide +kernel), List.mem_of_getElem? (i := 994) (by decide +kernel)⟩
theorem lw_p46 : lw_okq (⟨"ErrandLanesModel", "markOfMonk", "(I)I"⟩, 21) := ⟨⟨by decide +kernel, by decide +kernel⟩, List.mem_of_getElem? (i := 636) (by decide +kernel), List.mem_of_getElem? (i := 997) (by decide +kernel), List.mem_of_getElem? (i := 998) (by decide +kernel)⟩
def lw_privs_3 : List (MethodName × Nat) := [(⟨"ErrandLanesModel", "walkers", "()I"⟩, 21), (⟨"ErrandLanesModel", "setOut", "(I)V"⟩, 21), (⟨"ErrandLanesModel", "layNone", "()V"⟩, 21), (⟨"ErrandLanesModel", "layFit", "(ZI)V"⟩, 21), (⟨"ErrandLanesModel", "isAsTold", "(I)Z"⟩, 21), (⟨"ErrandLanesModel", "sizeOfFat", "(I)I"⟩, 21), (⟨"ErrandLanesModel", "fatBody", "(I)I"⟩, 21), (⟨"ErrandLanesModel", "leave", "(I)V"⟩, 21), (⟨"ErrandLanesModel", "spotBody", "(I)I"⟩, 21), (⟨"ErrandLanesModel", "markOfFat", "(I)I"⟩, 21), (⟨"ErrandLanesModel", "errandBody", "(I)I"⟩, 21), (⟨"ErrandLanesModel", "numberBody", "(I)I"⟩, 21), (⟨"ErrandLanesModel", "sizeOfMonk", "(I)I"⟩, 21), (⟨"ErrandLanesModel", "monkBody", "(I)I"⟩, 21), (⟨"ErrandLanesModel", "markOfMonk", "(I)I"⟩, 21)]
theorem lw_r3 : ∀ q ∈ lw_privs_3, lw_okq q := List.forall_mem_cons.mpr ⟨lw_p32, List.forall_mem_cons.mpr ⟨lw_p33, List.forall_mem_cons.mpr ⟨lw_p34, List.forall_mem_cons.mpr ⟨lw_p35, List.forall_mem_cons.mpr ⟨lw_p36, List.forall_mem_cons.mpr ⟨lw_p37, List.forall_mem_cons.mpr ⟨lw_p38, List.forall_mem_cons.mpr ⟨lw_p39, List.forall_mem_cons.mpr ⟨lw_p40, List.forall_mem_cons.mpr ⟨lw_p41, List.forall_mem_cons.mpr ⟨lw_p42, List.forall_mem_cons.mpr ⟨lw_p43, List.forall_mem_cons.mpr ⟨lw_p44, List.forall_mem_cons.mpr ⟨lw_p45, List.forall_mem_cons.mpr ⟨lw_p46, fun _ h => absurd h List.not_mem_nil⟩⟩⟩⟩⟩⟩⟩⟩⟩⟩⟩⟩⟩⟩⟩
def lw_privs : List (MethodName × Nat) := lw_privs_1 ++ (lw_privs_2 ++ (lw_privs_3))
def lw_tbl : List Cond := k2_sels lw_privs ++ tables_1
theorem lw_privs_ok : ∀ q ∈ lw_privs, lw_okq q := by
  show ∀ q ∈ lw_privs_1 ++ (lw_privs_2 ++ (lw_privs_3)), lw_okq q
  exact List.forall_mem_append.mpr ⟨lw_r1, List.forall_mem_append.mpr ⟨lw_r2, lw_r3⟩⟩
def RX0 : String := "ErrandLanes$Fits"
def TX0 : u_T := fun k => match k with
  | 0 => ("ErrandLanes$Fits", "many", "I", false)
  | _ => ("ErrandLanes$Fits", "least", "I", false)
def tyX0 : Nat → FieldType := fun k => match k with
  | 0 => .int
  | _ => .int
abbrev wsX00 : List Cond := u_ws RX0 TX0 2
theorem nmX0 : ∀ a, a < 2 → ∀ b, b < 2 → a ≠ b → (TX0 a).2.1 ≠ (TX0 b).2.1 := by decide +kernel
theorem tyX0_ok : ∀ k, k < 2 → parseFieldDescriptor (TX0 k).2.2.1 = some (tyX0 k) := by decide +kernel
abbrev cX0_init : ByteArray := prog_2_method_1_code
def yX0_init : MethodName := ⟨RX0, "<init>", "()V"⟩
abbrev cX0_clear : ByteArray := prog_2_method_2_code
def yX0_clear : MethodName := ⟨RX0, "clear", "()V"⟩
abbrev cX0_add : ByteArray := prog_2_method_3_code
def yX0_add : MethodName := ⟨RX0, "add", "(I)V"⟩
abbrev cX0_tell : ByteArray := prog_2_method_4_code
def yX0_tell : MethodName := ⟨RX0, "tell", "(I)I"⟩
def RX1 : String := "ErrandLanes$Past"
def TX1 : u_T := fun k => match k with
  | 0 => ("ErrandLanes$Past", "kept", "[LErrandLanes$Path;", true)
  | 1 => ("ErrandLanes$Past", "next", "I", false)
  | _ => ("ErrandLanes$Past", "length", "I", false)
def tyX1 : Nat → FieldType := fun k => match k with
  | 0 => .array (.object "ErrandLanes$Path")
  | 1 => .int
  | _ => .int
abbrev wsX10 : List Cond := u_ws RX1 TX1 3
theorem nmX1 : ∀ a, a < 3 → ∀ b, b < 3 → a ≠ b → (TX1 a).2.1 ≠ (TX1 b).2.1 := by decide +kernel
theorem tyX1_ok : ∀ k, k < 3 → parseFieldDescriptor (TX1 k).2.2.1 = some (tyX1 k) := by decide +kernel
abbrev cX1_init : ByteArray := prog_3_method_1_code
def yX1_init : MethodName := ⟨RX1, "<init>", "()V"⟩
abbrev cX1_clear : ByteArray := prog_3_method_2_code
def yX1_clear : MethodName := ⟨RX1, "clear", "()V"⟩
abbrev cX1_keep : ByteArray := prog_3_method_3_code
def yX1_keep : MethodName := ⟨RX1, "keep", "(LErrandLanes$Path;)V"⟩
abbrev cX1_giveBack : ByteArray := prog_3_method_4_code
def yX1_giveBack : MethodName := ⟨RX1, "giveBack", "(LErrandLanes$Path;)V"⟩
def RX2 : String := "ErrandLanes$Path"
def TX2 : u_T := fun k => match k with
  | 0 => ("ErrandLanes$Path", "kinds", "[I", true)
  | 1 => ("ErrandLanes$Path", "goals", "[I", true)
  | 2 => ("ErrandLanes$Path", "spots", "[I", true)
  | 3 => ("ErrandLanes$Path", "ways", "[I", true)
  | 4 => ("ErrandLanes$Path", "errands", "[I", true)
  | 5 => ("ErrandLanes$Path", "top", "I", false)
  | 6 => ("ErrandLanes$Path", "law", "I", false)
  | 7 => ("ErrandLanes$Path", "people", "I", false)
  | 8 => ("ErrandLanes$Path", "gone", "I", false)
  | _ => ("ErrandLanes$Path", "finished", "I", false)
def tyX2 : Nat → FieldType := fun k => match k with
  | 0 => .array .int
  | 1 => .array .int
  | 2 => .array .int
  | 3 => .array .int
  | 4 => .array .int
  | 5 => .int
  | 6 => .int
  | 7 => .int
  | 8 => .int
  | _ => .int
abbrev wsX20 : List Cond := u_ws RX2 TX2 10
theorem nmX2 : ∀ a, a < 10 → ∀ b, b < 10 → a ≠ b → (TX2 a).2.1 ≠ (TX2 b).2.1 := by decide +kernel
theorem tyX2_ok : ∀ k, k < 10 → parseFieldDescriptor (TX2 k).2.2.1 = some (tyX2 k) := by decide +kernel
abbrev cX2_init : ByteArray := prog_4_method_1_code
def yX2_init : MethodName := ⟨RX2, "<init>", "()V"⟩
abbrev cX2_begin : ByteArray := prog_4_method_2_code
def yX2_begin : MethodName := ⟨RX2, "begin", "(II)V"⟩
abbrev cX2_become : ByteArray := prog_4_method_3_code
def yX2_become : MethodName := ⟨RX2, "become", "(LErrandLanes$Path;)V"⟩
abbrev cX2_tellPerson : ByteArray := prog_4_method_4_code
def yX2_tellPerson : MethodName := ⟨RX2, "tellPerson", "(II)I"⟩
abbrev cX2_hasSomebodyAt : ByteArray := prog_4_method_5_code
def yX2_hasSomebodyAt : MethodName := ⟨RX2, "hasSomebodyAt", "(I)Z"⟩
abbrev cX2_holder : ByteArray := prog_4_method_6_code
def yX2_holder : MethodName := ⟨RX2, "holder", "(I)I"⟩
abbrev cX2_isCarriedAs : ByteArray := prog_4_method_7_code
def yX2_isCarriedAs : MethodName := ⟨RX2, "isCarriedAs", "(LErrandLanes$Row;)Z"⟩
abbrev cX2_sets : ByteArray := prog_4_method_8_code
def yX2_sets : MethodName := ⟨RX2, "sets", "()I"⟩
abbrev cX2_canSetOut : ByteArray := prog_4_method_9_code
def yX2_canSetOut : MethodName := ⟨RX2, "canSetOut", "(I)Z"⟩
abbrev cX2_setOut : ByteArray := prog_4_method_10_code
def yX2_setOut : MethodName := ⟨RX2, "setOut", "(I)V"⟩
abbrev cX2_goHalves : ByteArray := prog_4_method_11_code
def yX2_goHalves : MethodName := ⟨RX2, "goHalves", "(I)V"⟩
abbrev cX2_goHalf : ByteArray := prog_4_method_12_code
def yX2_goHalf : MethodName := ⟨RX2, "goHalf", "()V"⟩
abbrev cX2_walk : ByteArray := prog_4_method_13_code
def yX2_walk : MethodName := ⟨RX2, "walk", "(I)V"⟩
abbrev cX2_turn : ByteArray := prog_4_method_14_code
def yX2_turn : MethodName := ⟨RX2, "turn", "(I)V"⟩
abbrev cX2_doMeet : ByteArray := prog_4_method_15_code
def yX2_doMeet : MethodName := ⟨RX2, "doMeet", "(II)Z"⟩
abbrev cX2_meet : ByteArray := prog_4_method_16_code
def yX2_meet : MethodName := ⟨RX2, "meet", "(II)V"⟩
abbrev cX2_finish : ByteArray := prog_4_method_17_code
def yX2_finish : MethodName := ⟨RX2, "finish", "()V"⟩
abbrev cX2_halvesUntil : ByteArray := prog_4_method_18_code
def yX2_halvesUntil : MethodName := ⟨RX2, "halvesUntil", "(II)I"⟩
abbrev cX2_holdersAhead : ByteArray := prog_4_method_19_code
def yX2_holdersAhead : MethodName := ⟨RX2, "holdersAhead", "(II)I"⟩
def RX3 : String := "ErrandLanes$Reader"
def TX3 : u_T := fun k => match k with
  | 0 => ("ErrandLanes$Reader", "tape", "LErrandLanes$Tape;", true)
  | 1 => ("ErrandLanes$Reader", "at", "I", false)
  | 2 => ("ErrandLanes$Reader", "first", "I", false)
  | 3 => ("ErrandLanes$Reader", "type", "I", false)
  | 4 => ("ErrandLanes$Reader", "value", "I", false)
  | _ => ("ErrandLanes$Reader", "fault", "I", false)
def tyX3 : Nat → FieldType := fun k => match k with
  | 0 => .object "ErrandLanes$Tape"
  | 1 => .int
  | 2 => .int
  | 3 => .int
  | 4 => .int
  | _ => .int
abbrev wsX30 : List Cond := u_ws RX3 TX3 6
theorem nmX3 : ∀ a, a < 6 → ∀ b, b < 6 → a ≠ b → (TX3 a).2.1 ≠ (TX3 b).2.1 := by decide +kernel
theorem tyX3_ok : ∀ k, k < 6 → parseFieldDescriptor (TX3 k).2.2.1 = some (tyX3 k) := by decide +kernel
abbrev cX3_init : ByteArray := prog_5_method_1_code
def yX3_init : MethodName := ⟨RX3, "<init>", "()V"⟩
abbrev cX3_reads : ByteArray := prog_5_method_2_code
def yX3_reads : MethodName := ⟨RX3, "reads", "(LErrandLanes$Path;)Z"⟩
abbrev cX3_readsLane : ByteArray := prog_5_method_3_code
def yX3_readsLane : MethodName := ⟨RX3, "readsLane", "(LErrandLanes$Path;)Z"⟩
abbrev cX3_readsOne : ByteArray := prog_5_method_4_code
def yX3_readsOne : MethodName := ⟨RX3, "readsOne", "(LErrandLanes$Path;I)Z"⟩
abbrev cX3_readsSpot : ByteArray := prog_5_method_5_code
def yX3_readsSpot : MethodName := ⟨RX3, "readsSpot", "(I)Z"⟩
abbrev cX3_readsNumber : ByteArray := prog_5_method_6_code
def yX3_readsNumber : MethodName := ⟨RX3, "readsNumber", "(II)Z"⟩
abbrev cX3_readsSign : ByteArray := prog_5_method_7_code
def yX3_readsSign : MethodName := ⟨RX3, "readsSign", "()Z"⟩
abbrev cX3_kindTold : ByteArray := prog_5_method_8_code
def yX3_kindTold : MethodName := ⟨RX3, "kindTold", "()I"⟩
abbrev cX3_hasFault : ByteArray := prog_5_method_9_code
def yX3_hasFault : MethodName := ⟨RX3, "hasFault", "(I)Z"⟩
abbrev cX3_next : ByteArray := prog_5_method_10_code
def yX3_next : MethodName := ⟨RX3, "next", "()V"⟩
abbrev cX3_isWord : ByteArray := prog_5_method_11_code
def yX3_isWord : MethodName := ⟨RX3, "isWord", "(Ljava/lang/String;)Z"⟩
abbrev cX3_isBlank : ByteArray := prog_5_method_12_code
def yX3_isBlank : MethodName := ⟨RX3, "isBlank", "(C)Z"⟩
abbrev cX3_isLetter : ByteArray := prog_5_method_13_code
def yX3_isLetter : MethodName := ⟨RX3, "isLetter", "(C)Z"⟩
abbrev cX3_isFigure : ByteArray := prog_5_method_14_code
def yX3_isFigure : MethodName := ⟨RX3, "isFigure", "(C)Z"⟩
def RX4 : String := "ErrandLanes$Row"
def TX4 : u_T := fun k => match k with
  | 0 => ("ErrandLanes$Row", "items", "[I", true)
  | 1 => ("ErrandLanes$Row", "there", "Z", false)
  | 2 => ("ErrandLanes$Row", "lane", "I", false)
  | _ => ("ErrandLanes$Row", "length", "I", false)
def tyX4 : Nat → FieldType := fun k => match k with
  | 0 => .array .int
  | 1 => .boolean
  | 2 => .int
  | _ => .int
abbrev wsX40 : List Cond := u_ws RX4 TX4 4
theorem nmX4 : ∀ a, a < 4 → ∀ b, b < 4 → a ≠ b → (TX4 a).2.1 ≠ (TX4 b).2.1 := by decide +kernel
theorem tyX4_ok : ∀ k, k < 4 → parseFieldDescriptor (TX4 k).2.2.1 = some (tyX4 k) := by decide +kernel
abbrev cX4_init : ByteArray := prog_6_method_1_code
def yX4_init : MethodName := ⟨RX4, "<init>", "()V"⟩
abbrev cX4_begin : ByteArray := prog_6_method_2_code
def yX4_begin : MethodName := ⟨RX4, "begin", "(II)V"⟩
abbrev cX4_narrowed : ByteArray := prog_6_method_3_code
def yX4_narrowed : MethodName := ⟨RX4, "narrowed", "(I)I"⟩
abbrev cX4_hasRun : ByteArray := prog_6_method_4_code
def yX4_hasRun : MethodName := ⟨RX4, "hasRun", "(II)Z"⟩
abbrev cX4_isAllBelow : ByteArray := prog_6_method_5_code
def yX4_isAllBelow : MethodName := ⟨RX4, "isAllBelow", "(I)Z"⟩
def RX5 : String := "ErrandLanes$Tape"
def TX5 : u_T := fun k => match k with
  | 0 => ("ErrandLanes$Tape", "bytes", "[C", true)
  | _ => ("ErrandLanes$Tape", "length", "I", false)
def tyX5 : Nat → FieldType := fun k => match k with
  | 0 => .array .char
  | _ => .int
abbrev wsX50 : List Cond := u_ws RX5 TX5 2
theorem nmX5 : ∀ a, a < 2 → ∀ b, b < 2 → a ≠ b → (TX5 a).2.1 ≠ (TX5 b).2.1 := by decide +kernel
theorem tyX5_ok : ∀ k, k < 2 → parseFieldDescriptor (TX5 k).2.2.1 = some (tyX5 k) := by decide +kernel
abbrev cX5_init : ByteArray := prog_7_method_1_code
def yX5_init : MethodName := ⟨RX5, "<init>", "()V"⟩
abbrev cX5_append : ByteArray := prog_7_method_2_code
def yX5_append : MethodName := ⟨RX5, "append", "(C)V"⟩
def RX6 : String := "ErrandLanes$Trace"
def TX6 : u_T := fun k => match k with
  | 0 => ("ErrandLanes$Trace", "numbers", "[I", true)
  | _ => ("ErrandLanes$Trace", "length", "I", false)
def tyX6 : Nat → FieldType := fun k => match k with
  | 0 => .array .int
  | _ => .int
abbrev wsX60 : List Cond := u_ws RX6 TX6 2
theorem nmX6 : ∀ a, a < 2 → ∀ b, b < 2 → a ≠ b → (TX6 a).2.1 ≠ (TX6 b).2.1 := by decide +kernel
theorem tyX6_ok : ∀ k, k < 2 → parseFieldDescriptor (TX6 k).2.2.1 = some (tyX6 k) := by decide +kernel
abbrev cX6_init : ByteArray := prog_8_method_1_code
def yX6_init : MethodName := ⟨RX6, "<init>", "()V"⟩
abbrev cX6_leave : ByteArray := prog_8_method_2_code
def yX6_leave : MethodName := ⟨RX6, "leave", "(I)V"⟩
def RX7 : String := "ErrandLanes"
def TX7 : u_T := fun k => match k with
  | 0 => ("ErrandLanes", "rows", "[LErrandLanes$Row;", true)
  | 1 => ("ErrandLanes", "reader", "LErrandLanes$Reader;", true)
  | 2 => ("ErrandLanes", "now", "LErrandLanes$Path;", true)
  | 3 => ("ErrandLanes", "draft", "LErrandLanes$Path;", true)
  | 4 => ("ErrandLanes", "trial", "LErrandLanes$Path;", true)
  | 5 => ("ErrandLanes", "images", "[LErrandLanes$Path;", true)
  | 6 => ("ErrandLanes", "imaged", "[Z", true)
  | 7 => ("ErrandLanes", "past", "LErrandLanes$Past;", true)
  | 8 => ("ErrandLanes", "trace", "LErrandLanes$Trace;", true)
  | 9 => ("ErrandLanes", "fits", "LErrandLanes$Fits;", true)
  | 10 => ("ErrandLanes", "pathRead", "Z", false)
  | 11 => ("ErrandLanes", "latestFault", "I", false)
  | _ => ("ErrandLanes", "latestFinding", "I", false)
def tyX7 : Nat → FieldType := fun k => match k with
  | 0 => .array (.object "ErrandLanes$Row")
  | 1 => .object "ErrandLanes$Reader"
  | 2 => .object "ErrandLanes$Path"
  | 3 => .object "ErrandLanes$Path"
  | 4 => .object "ErrandLanes$Path"
  | 5 => .array (.object "ErrandLanes$Path")
  | 6 => .array .boolean
  | 7 => .object "ErrandLanes$Past"
  | 8 => .object "ErrandLanes$Trace"
  | 9 => .object "ErrandLanes$Fits"
  | 10 => .boolean
  | 11 => .int
  | _ => .int
abbrev wsX70 : List Cond := u_ws RX7 TX7 13
theorem nmX7 : ∀ a, a < 13 → ∀ b, b < 13 → a ≠ b → (TX7 a).2.1 ≠ (TX7 b).2.1 := by decide +kernel
theorem tyX7_ok : ∀ k, k < 13 → parseFieldDescriptor (TX7 k).2.2.1 = some (tyX7 k) := by decide +kernel
abbrev cX7_init : ByteArray := prog_1_method_1_code
def yX7_init : MethodName := ⟨RX7, "<init>", "()V"⟩
abbrev cX7_row : ByteArray := prog_1_method_2_code
def yX7_row : MethodName := ⟨RX7, "row", "(III)I"⟩
abbrev cX7_set : ByteArray := prog_1_method_3_code
def yX7_set : MethodName := ⟨RX7, "set", "(III)I"⟩
abbrev cX7_copy : ByteArray := prog_1_method_4_code
def yX7_copy : MethodName := ⟨RX7, "copy", "(IIIII)I"⟩
abbrev cX7_drop : ByteArray := prog_1_method_5_code
def yX7_drop : MethodName := ⟨RX7, "drop", "(I)I"⟩
abbrev cX7_feed : ByteArray := prog_1_method_6_code
def yX7_feed : MethodName := ⟨RX7, "feed", "(JI)I"⟩
abbrev cX7_path : ByteArray := prog_1_method_7_code
def yX7_path : MethodName := ⟨RX7, "path", "()I"⟩
abbrev cX7_fault : ByteArray := prog_1_method_8_code
def yX7_fault : MethodName := ⟨RX7, "fault", "()I"⟩
abbrev cX7_halves : ByteArray := prog_1_method_9_code
def yX7_halves : MethodName := ⟨RX7, "halves", "(I)I"⟩
abbrev cX7_undo : ByteArray := prog_1_method_10_code
def yX7_undo : MethodName := ⟨RX7, "undo", "()I"⟩
abbrev cX7_person : ByteArray := prog_1_method_11_code
def yX7_person : MethodName := ⟨RX7, "person", "(II)I"⟩
abbrev cX7_errand : ByteArray := prog_1_method_12_code
def yX7_errand : MethodName := ⟨RX7, "errand", "(II)I"⟩
abbrev cX7_ahead : ByteArray := prog_1_method_13_code
def yX7_ahead : MethodName := ⟨RX7, "ahead", "(III)I"⟩
abbrev cX7_done : ByteArray := prog_1_method_14_code
def yX7_done : MethodName := ⟨RX7, "done", "(II)I"⟩
abbrev cX7_secret : ByteArray := prog_1_method_15_code
def yX7_secret : MethodName := ⟨RX7, "secret", "(II)I"⟩
abbrev cX7_soon : ByteArray := prog_1_method_16_code
def yX7_soon : MethodName := ⟨RX7, "soon", "(I)I"⟩
abbrev cX7_clean : ByteArray := prog_1_method_17_code
def yX7_clean : MethodName := ⟨RX7, "clean", "(IIII)I"⟩
abbrev cX7_hands : ByteArray := prog_1_method_18_code
def yX7_hands : MethodName := ⟨RX7, "hands", "(III)I"⟩
abbrev cX7_began : ByteArray := prog_1_method_19_code
def yX7_began : MethodName := ⟨RX7, "began", "(III)I"⟩
abbrev cX7_image : ByteArray := prog_1_method_20_code
def yX7_image : MethodName := ⟨RX7, "image", "(I)I"⟩
abbrev cX7_restore : ByteArray := prog_1_method_21_code
def yX7_restore : MethodName := ⟨RX7, "restore", "(I)I"⟩
abbrev cX7_kind : ByteArray := prog_1_method_22_code
def yX7_kind : MethodName := ⟨RX7, "kind", "(I)I"⟩
abbrev cX7_as : ByteArray := prog_1_method_23_code
def yX7_as : MethodName := ⟨RX7, "as", "(II)I"⟩
abbrev cX7_ask : ByteArray := prog_1_method_24_code
def yX7_ask : MethodName := ⟨RX7, "ask", "(II)I"⟩
abbrev cX7_trace : ByteArray := prog_1_method_25_code
def yX7_trace : MethodName := ⟨RX7, "trace", "(I)I"⟩
abbrev cX7_count : ByteArray := prog_1_method_26_code
def yX7_count : MethodName := ⟨RX7, "count", "(I)I"⟩
abbrev cX7_status : ByteArray := prog_1_method_27_code
def yX7_status : MethodName := ⟨RX7, "status", "()I"⟩
abbrev cX7_isWithin : ByteArray := prog_1_method_28_code
def yX7_isWithin : MethodName := ⟨RX7, "isWithin", "(II)Z"⟩
abbrev cX7_isForetold : ByteArray := prog_1_method_29_code
def yX7_isForetold : MethodName := ⟨RX7, "isForetold", "(I)Z"⟩
abbrev cX7_found : ByteArray := prog_1_method_30_code
def yX7_found : MethodName := ⟨RX7, "found", "(I)I"⟩
abbrev cX7_foundNone : ByteArray := prog_1_method_31_code
def yX7_foundNone : MethodName := ⟨RX7, "foundNone", "(I)I"⟩
abbrev cX7_rowsThere : ByteArray := prog_1_method_32_code
def yX7_rowsThere : MethodName := ⟨RX7, "rowsThere", "()I"⟩
abbrev cX7_trialBeginsBy : ByteArray := prog_1_method_33_code
def yX7_trialBeginsBy : MethodName := ⟨RX7, "trialBeginsBy", "(I)Z"⟩
abbrev cX7_isOf : ByteArray := prog_1_method_34_code
def yX7_isOf : MethodName := ⟨RX7, "isOf", "(II)Z"⟩
abbrev cX7_nearestBody : ByteArray := prog_1_method_35_code
def yX7_nearestBody : MethodName := ⟨RX7, "nearestBody", "([II)I"⟩
abbrev cX7_asked : ByteArray := prog_1_method_36_code
def yX7_asked : MethodName := ⟨RX7, "asked", "(III)I"⟩
abbrev cX7_given : ByteArray := prog_1_method_37_code
def yX7_given : MethodName := ⟨RX7, "given", "(III)I"⟩
def RX8 : String := "ErrandLanesModel"
def TX8 : u_T := fun k => match k with
  | 0 => ("ErrandLanesModel", "row", "[I", true)
  | 1 => ("ErrandLanesModel", "pasts", "[I", true)
  | 2 => ("ErrandLanesModel", "pastMany", "I", false)
  | 3 => ("ErrandLanesModel", "tape", "[I", true)
  | 4 => ("ErrandLanesModel", "taped", "I", false)
  | 5 => ("ErrandLanesModel", "fault", "I", false)
  | 6 => ("ErrandLanesModel", "status", "I", false)
  | 7 => ("ErrandLanesModel", "lanes", "[I", true)
  | 8 => ("ErrandLanesModel", "sizes", "[I", true)
  | 9 => ("ErrandLanesModel", "items", "[I", true)
  | 10 => ("ErrandLanesModel", "traces", "[I", true)
  | 11 => ("ErrandLanesModel", "traceMany", "I", false)
  | 12 => ("ErrandLanesModel", "at", "I", false)
  | 13 => ("ErrandLanesModel", "place", "I", false)
  | 14 => ("ErrandLanesModel", "end", "I", false)
  | 15 => ("ErrandLanesModel", "readLast", "I", false)
  | 16 => ("ErrandLanesModel", "readLaw", "I", false)
  | 17 => ("ErrandLanesModel", "readPeople", "[I", true)
  | 18 => ("ErrandLanesModel", "readMany", "I", false)
  | 19 => ("ErrandLanesModel", "fitMany", "I", false)
  | _ => ("ErrandLanesModel", "firstFit", "I", false)
def tyX8 : Nat → FieldType := fun k => match k with
  | 0 => .array .int
  | 1 => .array .int
  | 2 => .int
  | 3 => .array .int
  | 4 => .int
  | 5 => .int
  | 6 => .int
  | 7 => .array .int
  | 8 => .array .int
  | 9 => .array .int
  | 10 => .array .int
  | 11 => .int
  | 12 => .int
  | 13 => .int
  | 14 => .int
  | 15 => .int
  | 16 => .int
  | 17 => .array .int
  | 18 => .int
  | 19 => .int
  | _ => .int
abbrev wsX80 : List Cond := u_ws RX8 TX8 21
theorem nmX8 : ∀ a, a < 21 → ∀ b, b < 21 → a ≠ b → (TX8 a).2.1 ≠ (TX8 b).2.1 := by decide +kernel
theorem tyX8_ok : ∀ k, k < 21 → parseFieldDescriptor (TX8 k).2.2.1 = some (tyX8 k) := by decide +kernel
abbrev cX8_init : ByteArray := prog_10_method_1_code
def yX8_init : MethodName := ⟨RX8, "<init>", "()V"⟩
abbrev cX8_in : ByteArray := prog_10_method_2_code
def yX8_in : MethodName := ⟨RX8, "in", "(JJJ)Z"⟩
abbrev cX8_has : ByteArray := prog_10_method_3_code
def yX8_has : MethodName := ⟨RX8, "has", "(II)Z"⟩
abbrev cX8_bits : ByteArray := prog_10_method_4_code
def yX8_bits : MethodName := ⟨RX8, "bits", "(I)I"⟩
abbrev cX8_find : ByteArray := prog_10_method_5_code
def yX8_find : MethodName := ⟨RX8, "find", "(I)I"⟩
abbrev cX8_give : ByteArray := prog_10_method_6_code
def yX8_give : MethodName := ⟨RX8, "give", "(I)I"⟩
abbrev cX8_isRow : ByteArray := prog_10_method_7_code
def yX8_isRow : MethodName := ⟨RX8, "isRow", "(I)Z"⟩
abbrev cX8_row : ByteArray := prog_10_method_8_code
def yX8_row : MethodName := ⟨RX8, "row", "(III)I"⟩
abbrev cX8_set : ByteArray := prog_10_method_9_code
def yX8_set : MethodName := ⟨RX8, "set", "(III)I"⟩
abbrev cX8_isSpan : ByteArray := prog_10_method_10_code
def yX8_isSpan : MethodName := ⟨RX8, "isSpan", "(III)Z"⟩
abbrev cX8_copy : ByteArray := prog_10_method_11_code
def yX8_copy : MethodName := ⟨RX8, "copy", "(IIIII)I"⟩
abbrev cX8_drop : ByteArray := prog_10_method_12_code
def yX8_drop : MethodName := ⟨RX8, "drop", "(I)I"⟩
abbrev cX8_feed : ByteArray := prog_10_method_13_code
def yX8_feed : MethodName := ⟨RX8, "feed", "(JI)I"⟩
abbrev cX8_sort : ByteArray := prog_10_method_14_code
def yX8_sort : MethodName := ⟨RX8, "sort", "(I)I"⟩
abbrev cX8_token : ByteArray := prog_10_method_15_code
def yX8_token : MethodName := ⟨RX8, "token", "()V"⟩
abbrev cX8_isWord : ByteArray := prog_10_method_16_code
def yX8_isWord : MethodName := ⟨RX8, "isWord", "(II)Z"⟩
abbrev cX8_sortOfWord : ByteArray := prog_10_method_17_code
def yX8_sortOfWord : MethodName := ⟨RX8, "sortOfWord", "()I"⟩
abbrev cX8_isSign : ByteArray := prog_10_method_18_code
def yX8_isSign : MethodName := ⟨RX8, "isSign", "()Z"⟩
abbrev cX8_number : ByteArray := prog_10_method_19_code
def yX8_number : MethodName := ⟨RX8, "number", "(IIZ)I"⟩
abbrev cX8_readsSign : ByteArray := prog_10_method_20_code
def yX8_readsSign : MethodName := ⟨RX8, "readsSign", "()Z"⟩
abbrev cX8_readsPath : ByteArray := prog_10_method_21_code
def yX8_readsPath : MethodName := ⟨RX8, "readsPath", "()Z"⟩
abbrev cX8_isTaken : ByteArray := prog_10_method_22_code
def yX8_isTaken : MethodName := ⟨RX8, "isTaken", "(I)Z"⟩
abbrev cX8_spotHere : ByteArray := prog_10_method_23_code
def yX8_spotHere : MethodName := ⟨RX8, "spotHere", "()I"⟩
abbrev cX8_readsPerson : ByteArray := prog_10_method_24_code
def yX8_readsPerson : MethodName := ⟨RX8, "readsPerson", "()Z"⟩
abbrev cX8_readsAll : ByteArray := prog_10_method_25_code
def yX8_readsAll : MethodName := ⟨RX8, "readsAll", "()Z"⟩
abbrev cX8_path : ByteArray := prog_10_method_26_code
def yX8_path : MethodName := ⟨RX8, "path", "()I"⟩
abbrev cX8_fault : ByteArray := prog_10_method_27_code
def yX8_fault : MethodName := ⟨RX8, "fault", "()I"⟩
abbrev cX8_isPerson : ByteArray := prog_10_method_28_code
def yX8_isPerson : MethodName := ⟨RX8, "isPerson", "(I)Z"⟩
abbrev cX8_isCow : ByteArray := prog_10_method_29_code
def yX8_isCow : MethodName := ⟨RX8, "isCow", "(I)Z"⟩
abbrev cX8_layDone : ByteArray := prog_10_method_30_code
def yX8_layDone : MethodName := ⟨RX8, "layDone", "(I)V"⟩
abbrev cX8_comes : ByteArray := prog_10_method_31_code
def yX8_comes : MethodName := ⟨RX8, "comes", "(II)V"⟩
abbrev cX8_meet : ByteArray := prog_10_method_32_code
def yX8_meet : MethodName := ⟨RX8, "meet", "(III)V"⟩
abbrev cX8_half : ByteArray := prog_10_method_33_code
def yX8_half : MethodName := ⟨RX8, "half", "(I)V"⟩
abbrev cX8_keepPast : ByteArray := prog_10_method_34_code
def yX8_keepPast : MethodName := ⟨RX8, "keepPast", "()V"⟩
abbrev cX8_halves : ByteArray := prog_10_method_35_code
def yX8_halves : MethodName := ⟨RX8, "halves", "(I)I"⟩
abbrev cX8_undo : ByteArray := prog_10_method_36_code
def yX8_undo : MethodName := ⟨RX8, "undo", "()I"⟩
abbrev cX8_factOf : ByteArray := prog_10_method_37_code
def yX8_factOf : MethodName := ⟨RX8, "factOf", "(III)I"⟩
abbrev cX8_person : ByteArray := prog_10_method_38_code
def yX8_person : MethodName := ⟨RX8, "person", "(II)I"⟩
abbrev cX8_holderOf : ByteArray := prog_10_method_39_code
def yX8_holderOf : MethodName := ⟨RX8, "holderOf", "(II)I"⟩
abbrev cX8_errand : ByteArray := prog_10_method_40_code
def yX8_errand : MethodName := ⟨RX8, "errand", "(II)I"⟩
abbrev cX8_copy0 : ByteArray := prog_10_method_41_code
def yX8_copy0 : MethodName := ⟨RX8, "copy0", "(II)V"⟩
abbrev cX8_isAhead : ByteArray := prog_10_method_42_code
def yX8_isAhead : MethodName := ⟨RX8, "isAhead", "(I)Z"⟩
abbrev cX8_ahead : ByteArray := prog_10_method_43_code
def yX8_ahead : MethodName := ⟨RX8, "ahead", "(III)I"⟩
abbrev cX8_done : ByteArray := prog_10_method_44_code
def yX8_done : MethodName := ⟨RX8, "done", "(II)I"⟩
abbrev cX8_secretOf : ByteArray := prog_10_method_45_code
def yX8_secretOf : MethodName := ⟨RX8, "secretOf", "(II)I"⟩
abbrev cX8_secret : ByteArray := prog_10_method_46_code
def yX8_secret : MethodName := ⟨RX8, "secret", "(II)I"⟩
abbrev cX8_walkers : ByteArray := prog_10_method_47_code
def yX8_walkers : MethodName := ⟨RX8, "walkers", "()I"⟩
abbrev cX8_setOut : ByteArray := prog_10_method_48_code
def yX8_setOut : MethodName := ⟨RX8, "setOut", "(I)V"⟩
abbrev cX8_isOut : ByteArray := prog_10_method_49_code
def yX8_isOut : MethodName := ⟨RX8, "isOut", "(I)Z"⟩
abbrev cX8_soon : ByteArray := prog_10_method_50_code
def yX8_soon : MethodName := ⟨RX8, "soon", "(I)I"⟩
abbrev cX8_layFit : ByteArray := prog_10_method_51_code
def yX8_layFit : MethodName := ⟨RX8, "layFit", "(ZI)V"⟩
abbrev cX8_layNone : ByteArray := prog_10_method_52_code
def yX8_layNone : MethodName := ⟨RX8, "layNone", "()V"⟩
abbrev cX8_clean : ByteArray := prog_10_method_53_code
def yX8_clean : MethodName := ⟨RX8, "clean", "(IIII)I"⟩
abbrev cX8_hands : ByteArray := prog_10_method_54_code
def yX8_hands : MethodName := ⟨RX8, "hands", "(III)I"⟩
abbrev cX8_isAsTold : ByteArray := prog_10_method_55_code
def yX8_isAsTold : MethodName := ⟨RX8, "isAsTold", "(I)Z"⟩
abbrev cX8_began : ByteArray := prog_10_method_56_code
def yX8_began : MethodName := ⟨RX8, "began", "(III)I"⟩
abbrev cX8_image : ByteArray := prog_10_method_57_code
def yX8_image : MethodName := ⟨RX8, "image", "(I)I"⟩
abbrev cX8_restore : ByteArray := prog_10_method_58_code
def yX8_restore : MethodName := ⟨RX8, "restore", "(I)I"⟩
abbrev cX8_kind : ByteArray := prog_10_method_59_code
def yX8_kind : MethodName := ⟨RX8, "kind", "(I)I"⟩
abbrev cX8_isKind : ByteArray := prog_10_method_60_code
def yX8_isKind : MethodName := ⟨RX8, "isKind", "(II)Z"⟩
abbrev cX8_as : ByteArray := prog_10_method_61_code
def yX8_as : MethodName := ⟨RX8, "as", "(II)I"⟩
abbrev cX8_leave : ByteArray := prog_10_method_62_code
def yX8_leave : MethodName := ⟨RX8, "leave", "(I)V"⟩
abbrev cX8_spotBody : ByteArray := prog_10_method_63_code
def yX8_spotBody : MethodName := ⟨RX8, "spotBody", "(I)I"⟩
abbrev cX8_numberBody : ByteArray := prog_10_method_64_code
def yX8_numberBody : MethodName := ⟨RX8, "numberBody", "(I)I"⟩
abbrev cX8_errandBody : ByteArray := prog_10_method_65_code
def yX8_errandBody : MethodName := ⟨RX8, "errandBody", "(I)I"⟩
abbrev cX8_markOfFat : ByteArray := prog_10_method_66_code
def yX8_markOfFat : MethodName := ⟨RX8, "markOfFat", "(I)I"⟩
abbrev cX8_fatBody : ByteArray := prog_10_method_67_code
def yX8_fatBody : MethodName := ⟨RX8, "fatBody", "(I)I"⟩
abbrev cX8_monkBody : ByteArray := prog_10_method_68_code
def yX8_monkBody : MethodName := ⟨RX8, "monkBody", "(I)I"⟩
abbrev cX8_sizeOfMonk : ByteArray := prog_10_method_69_code
def yX8_sizeOfMonk : MethodName := ⟨RX8, "sizeOfMonk", "(I)I"⟩
abbrev cX8_sizeOfFat : ByteArray := prog_10_method_70_code
def yX8_sizeOfFat : MethodName := ⟨RX8, "sizeOfFat", "(I)I"⟩
abbrev cX8_markOfMonk : ByteArray := prog_10_method_71_code
def yX8_markOfMonk : MethodName := ⟨RX8, "markOfMonk", "(I)I"⟩
abbrev cX8_ask : ByteArray := prog_10_method_72_code
def yX8_ask : MethodName := ⟨RX8, "ask", "(II)I"⟩
abbrev cX8_trace : ByteArray := prog_10_method_73_code
def yX8_trace : MethodName := ⟨RX8, "trace", "(I)I"⟩
abbrev cX8_count : ByteArray := prog_10_method_74_code
def yX8_count : MethodName := ⟨RX8, "count", "(I)I"⟩
abbrev cX8_status : ByteArray := prog_10_method_75_code
def yX8_status : MethodName := ⟨RX8, "status", "()I"⟩
def RJ6 : String := "java/lang/Integer"
def TJ6 : u_T := fun k => match k with
  | _ => ("", "", "", false)
def tyJ6 : Nat → FieldType := fun k => match k with
  | _ => .int
abbrev wsJ60 : List Cond := u_ws RJ6 TJ6 0
theorem nmJ6 : ∀ a, a < 0 → ∀ b, b < 0 → a ≠ b → (TJ6 a).2.1 ≠ (TJ6 b).2.1 := by decide +kernel
theorem tyJ6_ok : ∀ k, k < 0 → parseFieldDescriptor (TJ6 k).2.2.1 = some (tyJ6 k) := by decide +kernel
abbrev cJ6_bitCount_0f7a4 : ByteArray := prog_11_method_49_code
def yJ6_bitCount_0f7a4 : MethodName := ⟨RJ6, "bitCount", "(I)I"⟩
def RJ9 : String := "java/lang/Math"
def TJ9 : u_T := fun k => match k with
  | _ => ("", "", "", false)
def tyJ9 : Nat → FieldType := fun k => match k with
  | _ => .int
abbrev wsJ90 : List Cond := u_ws RJ9 TJ9 0
theorem nmJ9 : ∀ a, a < 0 → ∀ b, b < 0 → a ≠ b → (TJ9 a).2.1 ≠ (TJ9 b).2.1 := by decide +kernel
theorem tyJ9_ok : ∀ k, k < 0 → parseFieldDescriptor (TJ9 k).2.2.1 = some (tyJ9 k) := by decide +kernel
abbrev cJ9_min_7cf53 : ByteArray := prog_12_method_69_code
def yJ9_min_7cf53 : MethodName := ⟨RJ9, "min", "(II)I"⟩
def RJ0 : String := "java/lang/String"
def TJ0 : u_T := fun k => match k with
  | _ => ("", "", "", false)
def tyJ0 : Nat → FieldType := fun k => match k with
  | _ => .int
abbrev wsJ00 : List Cond := u_ws RJ0 TJ0 0
theorem nmJ0 : ∀ a, a < 0 → ∀ b, b < 0 → a ≠ b → (TJ0 a).2.1 ≠ (TJ0 b).2.1 := by decide +kernel
theorem tyJ0_ok : ∀ k, k < 0 → parseFieldDescriptor (TJ0 k).2.2.1 = some (tyJ0 k) := by decide +kernel
abbrev cJ0_length_8abf5 : ByteArray := prog_13_method_54_code
def yJ0_length_8abf5 : MethodName := ⟨RJ0, "length", "()I"⟩
abbrev cJ0_charAt_5068e : ByteArray := prog_13_method_56_code
def yJ0_charAt_5068e : MethodName := ⟨RJ0, "charAt", "(I)C"⟩
abbrev cJ0_coder_7d493 : ByteArray := prog_13_method_152_code
def yJ0_coder_7d493 : MethodName := ⟨RJ0, "coder", "()B"⟩
abbrev cJ0_isLatin1_aae02 : ByteArray := prog_13_method_154_code
def yJ0_isLatin1_aae02 : MethodName := ⟨RJ0, "isLatin1", "()Z"⟩
abbrev cJ0_checkIndex_df160 : ByteArray := prog_13_method_155_code
def yJ0_checkIndex_df160 : MethodName := ⟨RJ0, "checkIndex", "(II)V"⟩
def RJ1 : String := "java/lang/StringLatin1"
def TJ1 : u_T := fun k => match k with
  | _ => ("", "", "", false)
def tyJ1 : Nat → FieldType := fun k => match k with
  | _ => .int
abbrev wsJ10 : List Cond := u_ws RJ1 TJ1 0
theorem nmJ1 : ∀ a, a < 0 → ∀ b, b < 0 → a ≠ b → (TJ1 a).2.1 ≠ (TJ1 b).2.1 := by decide +kernel
theorem tyJ1_ok : ∀ k, k < 0 → parseFieldDescriptor (TJ1 k).2.2.1 = some (tyJ1 k) := by decide +kernel
abbrev cJ1_charAt_3b067 : ByteArray := prog_14_method_2_code
def yJ1_charAt_3b067 : MethodName := ⟨RJ1, "charAt", "([BI)C"⟩
def RJ2 : String := "java/lang/StringUTF16"
def TJ2 : u_T := fun k => match k with
  | _ => ("", "", "", false)
def tyJ2 : Nat → FieldType := fun k => match k with
  | _ => .int
abbrev wsJ20 : List Cond := u_ws RJ2 TJ2 0
theorem nmJ2 : ∀ a, a < 0 → ∀ b, b < 0 → a ≠ b → (TJ2 a).2.1 ≠ (TJ2 b).2.1 := by decide +kernel
theorem tyJ2_ok : ∀ k, k < 0 → parseFieldDescriptor (TJ2 k).2.2.1 = some (tyJ2 k) := by decide +kernel
abbrev cJ2_getChar_3b067 : ByteArray := prog_15_method_5_code
def yJ2_getChar_3b067 : MethodName := ⟨RJ2, "getChar", "([BI)C"⟩
abbrev cJ2_length_9d52b : ByteArray := prog_15_method_6_code
def yJ2_length_9d52b : MethodName := ⟨RJ2, "length", "([B)I"⟩
abbrev cJ2_charAt_3b067 : ByteArray := prog_15_method_83_code
def yJ2_charAt_3b067 : MethodName := ⟨RJ2, "charAt", "([BI)C"⟩
abbrev cJ2_checkIndex_2214a : ByteArray := prog_15_method_91_code
def yJ2_checkIndex_2214a : MethodName := ⟨RJ2, "checkIndex", "(I[B)V"⟩
def RJ10 : String := "java/lang/System"
def TJ10 : u_T := fun k => match k with
  | _ => ("", "", "", false)
def tyJ10 : Nat → FieldType := fun k => match k with
  | _ => .int
abbrev wsJ100 : List Cond := u_ws RJ10 TJ10 0
theorem nmJ10 : ∀ a, a < 0 → ∀ b, b < 0 → a ≠ b → (TJ10 a).2.1 ≠ (TJ10 b).2.1 := by decide +kernel
theorem tyJ10_ok : ∀ k, k < 0 → parseFieldDescriptor (TJ10 k).2.2.1 = some (tyJ10 k) := by decide +kernel
def RJ3 : String := "jdk/internal/util/Preconditions"
def TJ3 : u_T := fun k => match k with
  | _ => ("", "", "", false)
def tyJ3 : Nat → FieldType := fun k => match k with
  | _ => .int
abbrev wsJ30 : List Cond := u_ws RJ3 TJ3 0
theorem nmJ3 : ∀ a, a < 0 → ∀ b, b < 0 → a ≠ b → (TJ3 a).2.1 ≠ (TJ3 b).2.1 := by decide +kernel
theorem tyJ3_ok : ∀ k, k < 0 → parseFieldDescriptor (TJ3 k).2.2.1 = some (tyJ3 k) := by decide +kernel
abbrev cJ3_checkIndex_8e157 : ByteArray := prog_17_method_11_code
def yJ3_checkIndex_8e157 : MethodName := ⟨RJ3, "checkIndex", "(IILjava/util/function/BiFunction;)I"⟩
def RL : String := "ErrandLanesLaw"
abbrev cL_law : ByteArray := code
def yL_law : MethodName := ⟨RL, "law", "([I)Z"⟩
abbrev vwCl : List vw_C := [(RX0, TX0, 2), (RX1, TX1, 3), (RX2, TX2, 10), (RX3, TX3, 6), (RX4, TX4, 4), (RX5, TX5, 2), (RX6, TX6, 2), (RX7, TX7, 13), (RX8, TX8, 21)]
