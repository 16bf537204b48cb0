-- ===== PART A: goes FIRST, ahead of the names: the tables' words, and 'selects' of the private methods out of them =====
/-- a private method of a class that the tables say can be made, by its rows of tables_1 -/
def lw_okq (q : MethodName × Nat) : Prop := (q.1.cls ≠ "java/lang/invoke/MethodHandle" ∧ q.1.cls ≠ "java/lang/invoke/VarHandle") ∧ Cond.instantiable q.1.cls q.2 ∈ tables_1 ∧ Cond.privateMethod q.1 ∈ tables_1 ∧ Cond.instanceMethod q.1 ∈ tables_1
theorem lw_p0 : lw_okq (⟨"WalkGrounds", "rowOf", "(I)LWalkGrounds$Row;"⟩, 7) := ⟨⟨by decide +kernel, by decide +kernel⟩, List.mem_append_left _ (List.mem_of_getElem? (l := tables_1_1) (i := 12) rfl), List.mem_append_left _ (List.mem_of_getElem? (l := tables_1_1) (i := 153) rfl), List.mem_append_left _ (List.mem_of_getElem? (l := tables_1_1) (i := 154) rfl)⟩
theorem lw_p1 : lw_okq (⟨"WalkGrounds$Row", "hasCome", "(III)Z"⟩, 7) := ⟨⟨by decide +kernel, by decide +kernel⟩, List.mem_append_left _ (List.mem_of_getElem? (l := tables_1_1) (i := 21) rfl), List.mem_append_left _ (List.mem_of_getElem? (l := tables_1_1) (i := 198) rfl), List.mem_append_left _ (List.mem_of_getElem? (l := tables_1_1) (i := 199) rfl)⟩
theorem lw_p2 : lw_okq (⟨"WalkGrounds", "tallyFor", "(III)LWalkGrounds$Tally;"⟩, 7) := ⟨⟨by decide +kernel, by decide +kernel⟩, List.mem_append_left _ (List.mem_of_getElem? (l := tables_1_1) (i := 12) rfl), List.mem_append_right _ (List.mem_append_left _ (List.mem_of_getElem? (l := tables_1_2) (i := 94) rfl)), List.mem_append_right _ (List.mem_append_left _ (List.mem_of_getElem? (l := tables_1_2) (i := 95) rfl))⟩
theorem lw_p3 : lw_okq (⟨"WalkGrounds$Tally", "countLevel", "(I)V"⟩, 14) := ⟨⟨by decide +kernel, by decide +kernel⟩, List.mem_append_right _ (List.mem_append_left _ (List.mem_of_getElem? (l := tables_1_2) (i := 97) rfl)), List.mem_append_right _ (List.mem_append_left _ (List.mem_of_getElem? (l := tables_1_2) (i := 158) rfl)), List.mem_append_right _ (List.mem_append_left _ (List.mem_of_getElem? (l := tables_1_2) (i := 159) rfl))⟩
theorem lw_p4 : lw_okq (⟨"WalkGrounds$Tally", "cellOf", "(III)I"⟩, 14) := ⟨⟨by decide +kernel, by decide +kernel⟩, List.mem_append_right _ (List.mem_append_left _ (List.mem_of_getElem? (l := tables_1_2) (i := 97) rfl)), List.mem_append_right _ (List.mem_append_left _ (List.mem_of_getElem? (l := tables_1_2) (i := 162) rfl)), List.mem_append_right _ (List.mem_append_left _ (List.mem_of_getElem? (l := tables_1_2) (i := 163) rfl))⟩
theorem lw_p5 : lw_okq (⟨"WalkGrounds$Tally", "setTaken", "(IZ)V"⟩, 14) := ⟨⟨by decide +kernel, by decide +kernel⟩, List.mem_append_right _ (List.mem_append_left _ (List.mem_of_getElem? (l := tables_1_2) (i := 97) rfl)), List.mem_append_right _ (List.mem_append_left _ (List.mem_of_getElem? (l := tables_1_2) (i := 166) rfl)), List.mem_append_right _ (List.mem_append_left _ (List.mem_of_getElem? (l := tables_1_2) (i := 167) rfl))⟩
theorem lw_p6 : lw_okq (⟨"WalkGrounds$Tally", "isTaken", "(I)Z"⟩, 14) := ⟨⟨by decide +kernel, by decide +kernel⟩, List.mem_append_right _ (List.mem_append_left _ (List.mem_of_getElem? (l := tables_1_2) (i := 97) rfl)), List.mem_append_right _ (List.mem_append_left _ (List.mem_of_getElem? (l := tables_1_2) (i := 177) rfl)), List.mem_append_right _ (List.mem_append_left _ (List.mem_of_getElem? (l := tables_1_2) (i := 178) rfl))⟩
theorem lw_p7 : lw_okq (⟨"WalkGrounds$Tally", "score", "(IIII)V"⟩, 14) := ⟨⟨by decide +kernel, by decide +kernel⟩, List.mem_append_right _ (List.mem_append_left _ (List.mem_of_getElem? (l := tables_1_2) (i := 97) rfl)), List.mem_append_right _ (List.mem_append_left _ (List.mem_of_getElem? (l := tables_1_2) (i := 182) rfl)), List.mem_append_right _ (List.mem_append_left _ (List.mem_of_getElem? (l := tables_1_2) (i := 183) rfl))⟩
theorem lw_p8 : lw_okq (⟨"WalkGrounds$Turnings", "arriveAt", "(I)V"⟩, 7) := ⟨⟨by decide +kernel, by decide +kernel⟩, List.mem_append_right _ (List.mem_append_left _ (List.mem_of_getElem? (l := tables_1_2) (i := 227) rfl)), List.mem_append_right _ (List.mem_append_right _ (List.mem_append_left _ (List.mem_of_getElem? (l := tables_1_3) (i := 29) rfl))), List.mem_append_right _ (List.mem_append_right _ (List.mem_append_left _ (List.mem_of_getElem? (l := tables_1_3) (i := 30) rfl)))⟩
theorem lw_p9 : lw_okq (⟨"WalkGrounds$Turnings", "takeApart", "(I)V"⟩, 7) := ⟨⟨by decide +kernel, by decide +kernel⟩, List.mem_append_right _ (List.mem_append_left _ (List.mem_of_getElem? (l := tables_1_2) (i := 227) rfl)), List.mem_append_right _ (List.mem_append_right _ (List.mem_append_left _ (List.mem_of_getElem? (l := tables_1_3) (i := 33) rfl))), List.mem_append_right _ (List.mem_append_right _ (List.mem_append_left _ (List.mem_of_getElem? (l := tables_1_3) (i := 34) rfl)))⟩
theorem lw_p10 : lw_okq (⟨"WalkGrounds$Turnings", "numberTurned", "(II)I"⟩, 7) := ⟨⟨by decide +kernel, by decide +kernel⟩, List.mem_append_right _ (List.mem_append_left _ (List.mem_of_getElem? (l := tables_1_2) (i := 227) rfl)), List.mem_append_right _ (List.mem_append_right _ (List.mem_append_left _ (List.mem_of_getElem? (l := tables_1_3) (i := 39) rfl))), List.mem_append_right _ (List.mem_append_right _ (List.mem_append_left _ (List.mem_of_getElem? (l := tables_1_3) (i := 40) rfl)))⟩
theorem lw_p11 : lw_okq (⟨"WalkGrounds$Plane", "countWays", "()V"⟩, 9) := ⟨⟨by decide +kernel, by decide +kernel⟩, List.mem_append_left _ (List.mem_of_getElem? (l := tables_1_1) (i := 66) rfl), List.mem_append_right _ (List.mem_append_right _ (List.mem_append_left _ (List.mem_of_getElem? (l := tables_1_3) (i := 74) rfl))), List.mem_append_right _ (List.mem_append_right _ (List.mem_append_left _ (List.mem_of_getElem? (l := tables_1_3) (i := 75) rfl)))⟩
theorem lw_p12 : lw_okq (⟨"WalkGrounds$Plane", "score", "(IZ)V"⟩, 9) := ⟨⟨by decide +kernel, by decide +kernel⟩, List.mem_append_left _ (List.mem_of_getElem? (l := tables_1_1) (i := 66) rfl), List.mem_append_right _ (List.mem_append_right _ (List.mem_append_left _ (List.mem_of_getElem? (l := tables_1_3) (i := 85) rfl))), List.mem_append_right _ (List.mem_append_right _ (List.mem_append_left _ (List.mem_of_getElem? (l := tables_1_3) (i := 86) rfl)))⟩
theorem lw_p13 : lw_okq (⟨"WalkGroundsModel", "isWalk", "(I)Z"⟩, 34) := ⟨⟨by decide +kernel, by decide +kernel⟩, List.mem_append_right _ (List.mem_append_right _ (List.mem_append_left _ (List.mem_of_getElem? (l := tables_1_3) (i := 131) rfl))), List.mem_append_right _ (List.mem_append_right _ (List.mem_append_right _ (List.mem_of_getElem? (l := tables_1_4) (i := 12) rfl))), List.mem_append_right _ (List.mem_append_right _ (List.mem_append_right _ (List.mem_of_getElem? (l := tables_1_4) (i := 13) rfl)))⟩
theorem lw_p14 : lw_okq (⟨"WalkGroundsModel", "brings", "(I)V"⟩, 34) := ⟨⟨by decide +kernel, by decide +kernel⟩, List.mem_append_right _ (List.mem_append_right _ (List.mem_append_left _ (List.mem_of_getElem? (l := tables_1_3) (i := 131) rfl))), List.mem_append_right _ (List.mem_append_right _ (List.mem_append_right _ (List.mem_of_getElem? (l := tables_1_4) (i := 19) rfl))), List.mem_append_right _ (List.mem_append_right _ (List.mem_append_right _ (List.mem_of_getElem? (l := tables_1_4) (i := 20) rfl)))⟩
theorem lw_p15 : lw_okq (⟨"WalkGroundsModel", "becomes", "(I)I"⟩, 34) := ⟨⟨by decide +kernel, by decide +kernel⟩, List.mem_append_right _ (List.mem_append_right _ (List.mem_append_left _ (List.mem_of_getElem? (l := tables_1_3) (i := 131) rfl))), List.mem_append_right _ (List.mem_append_right _ (List.mem_append_right _ (List.mem_of_getElem? (l := tables_1_4) (i := 23) rfl))), List.mem_append_right _ (List.mem_append_right _ (List.mem_append_right _ (List.mem_of_getElem? (l := tables_1_4) (i := 24) rfl)))⟩
def lw_privs_1 : List (MethodName × Nat) := [(⟨"WalkGrounds", "rowOf", "(I)LWalkGrounds$Row;"⟩, 7), (⟨"WalkGrounds$Row", "hasCome", "(III)Z"⟩, 7), (⟨"WalkGrounds", "tallyFor", "(III)LWalkGrounds$Tally;"⟩, 7), (⟨"WalkGrounds$Tally", "countLevel", "(I)V"⟩, 14), (⟨"WalkGrounds$Tally", "cellOf", "(III)I"⟩, 14), (⟨"WalkGrounds$Tally", "setTaken", "(IZ)V"⟩, 14), (⟨"WalkGrounds$Tally", "isTaken", "(I)Z"⟩, 14), (⟨"WalkGrounds$Tally", "score", "(IIII)V"⟩, 14), (⟨"WalkGrounds$Turnings", "arriveAt", "(I)V"⟩, 7), (⟨"WalkGrounds$Turnings", "takeApart", "(I)V"⟩, 7), (⟨"WalkGrounds$Turnings", "numberTurned", "(II)I"⟩, 7), (⟨"WalkGrounds$Plane", "countWays", "()V"⟩, 9), (⟨"WalkGrounds$Plane", "score", "(IZ)V"⟩, 9), (⟨"WalkGroundsModel", "isWalk", "(I)Z"⟩, 34), (⟨"WalkGroundsModel", "brings", "(I)V"⟩, 34), (⟨"WalkGroundsModel", "becomes", "(I)I"⟩, 34)]
theorem lw_r1 : ∀ q ∈ lw_privs_1, lw_okq q := List.forall_mem_cons.mpr ⟨lw_p0, List.forall_mem_cons.mpr ⟨lw_p1, List.forall_mem_cons.mpr ⟨lw_p2, List.forall_mem_cons.mpr ⟨lw_p3, List.forall_mem_cons.mpr ⟨lw_p4, List.forall_mem_cons.mpr ⟨lw_p5, List.forall_mem_cons.mpr ⟨lw_p6, List.forall_mem_cons.mpr ⟨lw_p7, List.forall_mem_cons.mpr ⟨lw_p8, List.forall_mem_cons.mpr ⟨lw_p9, List.forall_mem_cons.mpr ⟨lw_p10, List.forall_mem_cons.mpr ⟨lw_p11, List.forall_mem_cons.mpr ⟨lw_p12, List.forall_mem_cons.mpr ⟨lw_p13, List.forall_mem_cons.mpr ⟨lw_p14, List.forall_mem_cons.mpr ⟨lw_p15, fun _ h => absurd h List.not_mem_nil⟩⟩⟩⟩⟩⟩⟩⟩⟩⟩⟩⟩⟩⟩⟩⟩
theorem lw_p16 : lw_okq (⟨"WalkGroundsModel", "goes", "(I)Z"⟩, 34) := ⟨⟨by decide +kernel, by decide +kernel⟩, List.mem_append_right _ (List.mem_append_right _ (List.mem_append_left _ (List.mem_of_getElem? (l := tables_1_3) (i := 131) rfl))), List.mem_append_right _ (List.mem_append_right _ (List.mem_append_right _ (List.mem_of_getElem? (l := tables_1_4) (i := 27) rfl))), List.mem_append_right _ (List.mem_append_right _ (List.mem_append_right _ (List.mem_of_getElem? (l := tables_1_4) (i := 28) rfl)))⟩
theorem lw_p17 : lw_okq (⟨"WalkGroundsModel", "keeps", "(I)V"⟩, 34) := ⟨⟨by decide +kernel, by decide +kernel⟩, List.mem_append_right _ (List.mem_append_right _ (List.mem_append_left _ (List.mem_of_getElem? (l := tables_1_3) (i := 131) rfl))), List.mem_append_right _ (List.mem_append_right _ (List.mem_append_right _ (List.mem_of_getElem? (l := tables_1_4) (i := 40) rfl))), List.mem_append_right _ (List.mem_append_right _ (List.mem_append_right _ (List.mem_of_getElem? (l := tables_1_4) (i := 41) rfl)))⟩
theorem lw_p18 : lw_okq (⟨"WalkGroundsModel", "isRing", "(I)Z"⟩, 34) := ⟨⟨by decide +kernel, by decide +kernel⟩, List.mem_append_right _ (List.mem_append_right _ (List.mem_append_left _ (List.mem_of_getElem? (l := tables_1_3) (i := 131) rfl))), List.mem_append_right _ (List.mem_append_right _ (List.mem_append_right _ (List.mem_of_getElem? (l := tables_1_4) (i := 87) rfl))), List.mem_append_right _ (List.mem_append_right _ (List.mem_append_right _ (List.mem_of_getElem? (l := tables_1_4) (i := 88) rfl)))⟩
theorem lw_p19 : lw_okq (⟨"WalkGroundsModel", "area", "()I"⟩, 34) := ⟨⟨by decide +kernel, by decide +kernel⟩, List.mem_append_right _ (List.mem_append_right _ (List.mem_append_left _ (List.mem_of_getElem? (l := tables_1_3) (i := 131) rfl))), List.mem_append_right _ (List.mem_append_right _ (List.mem_append_right _ (List.mem_of_getElem? (l := tables_1_4) (i := 91) rfl))), List.mem_append_right _ (List.mem_append_right _ (List.mem_append_right _ (List.mem_of_getElem? (l := tables_1_4) (i := 92) rfl)))⟩
theorem lw_p20 : lw_okq (⟨"WalkGroundsModel", "isBridge", "()Z"⟩, 34) := ⟨⟨by decide +kernel, by decide +kernel⟩, List.mem_append_right _ (List.mem_append_right _ (List.mem_append_left _ (List.mem_of_getElem? (l := tables_1_3) (i := 131) rfl))), List.mem_append_right _ (List.mem_append_right _ (List.mem_append_right _ (List.mem_of_getElem? (l := tables_1_4) (i := 95) rfl))), List.mem_append_right _ (List.mem_append_right _ (List.mem_append_right _ (List.mem_of_getElem? (l := tables_1_4) (i := 96) rfl)))⟩
theorem lw_p21 : lw_okq (⟨"WalkGroundsModel", "leadingOn", "(I)I"⟩, 34) := ⟨⟨by decide +kernel, by decide +kernel⟩, List.mem_append_right _ (List.mem_append_right _ (List.mem_append_left _ (List.mem_of_getElem? (l := tables_1_3) (i := 131) rfl))), List.mem_append_right _ (List.mem_append_right _ (List.mem_append_right _ (List.mem_of_getElem? (l := tables_1_4) (i := 99) rfl))), List.mem_append_right _ (List.mem_append_right _ (List.mem_append_right _ (List.mem_of_getElem? (l := tables_1_4) (i := 100) rfl)))⟩
theorem lw_p22 : lw_okq (⟨"WalkGroundsModel", "findForm", "(I)V"⟩, 34) := ⟨⟨by decide +kernel, by decide +kernel⟩, List.mem_append_right _ (List.mem_append_right _ (List.mem_append_left _ (List.mem_of_getElem? (l := tables_1_3) (i := 131) rfl))), List.mem_append_right _ (List.mem_append_right _ (List.mem_append_right _ (List.mem_of_getElem? (l := tables_1_4) (i := 107) rfl))), List.mem_append_right _ (List.mem_append_right _ (List.mem_append_right _ (List.mem_of_getElem? (l := tables_1_4) (i := 108) rfl)))⟩
theorem lw_p23 : lw_okq (⟨"WalkGroundsModel", "tried", "(IIZI)I"⟩, 34) := ⟨⟨by decide +kernel, by decide +kernel⟩, List.mem_append_right _ (List.mem_append_right _ (List.mem_append_left _ (List.mem_of_getElem? (l := tables_1_3) (i := 131) rfl))), List.mem_append_right _ (List.mem_append_right _ (List.mem_append_right _ (List.mem_of_getElem? (l := tables_1_4) (i := 111) rfl))), List.mem_append_right _ (List.mem_append_right _ (List.mem_append_right _ (List.mem_of_getElem? (l := tables_1_4) (i := 112) rfl)))⟩
theorem lw_p24 : lw_okq (⟨"WalkGroundsModel", "counts", "(II)V"⟩, 34) := ⟨⟨by decide +kernel, by decide +kernel⟩, List.mem_append_right _ (List.mem_append_right _ (List.mem_append_left _ (List.mem_of_getElem? (l := tables_1_3) (i := 131) rfl))), List.mem_append_right _ (List.mem_append_right _ (List.mem_append_right _ (List.mem_of_getElem? (l := tables_1_4) (i := 126) rfl))), List.mem_append_right _ (List.mem_append_right _ (List.mem_append_right _ (List.mem_of_getElem? (l := tables_1_4) (i := 127) rfl)))⟩
theorem lw_p25 : lw_okq (⟨"WalkGroundsModel", "forgets", "(I)V"⟩, 34) := ⟨⟨by decide +kernel, by decide +kernel⟩, List.mem_append_right _ (List.mem_append_right _ (List.mem_append_left _ (List.mem_of_getElem? (l := tables_1_3) (i := 131) rfl))), List.mem_append_right _ (List.mem_append_right _ (List.mem_append_right _ (List.mem_of_getElem? (l := tables_1_4) (i := 134) rfl))), List.mem_append_right _ (List.mem_append_right _ (List.mem_append_right _ (List.mem_of_getElem? (l := tables_1_4) (i := 135) rfl)))⟩
theorem lw_p26 : lw_okq (⟨"WalkGroundsModel", "rowOf", "(III)V"⟩, 34) := ⟨⟨by decide +kernel, by decide +kernel⟩, List.mem_append_right _ (List.mem_append_right _ (List.mem_append_left _ (List.mem_of_getElem? (l := tables_1_3) (i := 131) rfl))), List.mem_append_right _ (List.mem_append_right _ (List.mem_append_right _ (List.mem_of_getElem? (l := tables_1_4) (i := 159) rfl))), List.mem_append_right _ (List.mem_append_right _ (List.mem_append_right _ (List.mem_of_getElem? (l := tables_1_4) (i := 160) rfl)))⟩
theorem lw_p27 : lw_okq (⟨"WalkGroundsModel", "isForm", "(I)Z"⟩, 34) := ⟨⟨by decide +kernel, by decide +kernel⟩, List.mem_append_right _ (List.mem_append_right _ (List.mem_append_left _ (List.mem_of_getElem? (l := tables_1_3) (i := 131) rfl))), List.mem_append_right _ (List.mem_append_right _ (List.mem_append_right _ (List.mem_of_getElem? (l := tables_1_4) (i := 163) rfl))), List.mem_append_right _ (List.mem_append_right _ (List.mem_append_right _ (List.mem_of_getElem? (l := tables_1_4) (i := 164) rfl)))⟩
theorem lw_p28 : lw_okq (⟨"WalkGroundsModel", "meets", "(I)V"⟩, 34) := ⟨⟨by decide +kernel, by decide +kernel⟩, List.mem_append_right _ (List.mem_append_right _ (List.mem_append_left _ (List.mem_of_getElem? (l := tables_1_3) (i := 131) rfl))), List.mem_append_right _ (List.mem_append_right _ (List.mem_append_right _ (List.mem_of_getElem? (l := tables_1_4) (i := 171) rfl))), List.mem_append_right _ (List.mem_append_right _ (List.mem_append_right _ (List.mem_of_getElem? (l := tables_1_4) (i := 172) rfl)))⟩
theorem lw_p29 : lw_okq (⟨"WalkGroundsModel", "turnsAll", "(III)V"⟩, 34) := ⟨⟨by decide +kernel, by decide +kernel⟩, List.mem_append_right _ (List.mem_append_right _ (List.mem_append_left _ (List.mem_of_getElem? (l := tables_1_3) (i := 131) rfl))), List.mem_append_right _ (List.mem_append_right _ (List.mem_append_right _ (List.mem_of_getElem? (l := tables_1_4) (i := 175) rfl))), List.mem_append_right _ (List.mem_append_right _ (List.mem_append_right _ (List.mem_of_getElem? (l := tables_1_4) (i := 176) rfl)))⟩
theorem lw_p30 : lw_okq (⟨"WalkGroundsModel", "countWays", "()V"⟩, 34) := ⟨⟨by decide +kernel, by decide +kernel⟩, List.mem_append_right _ (List.mem_append_right _ (List.mem_append_left _ (List.mem_of_getElem? (l := tables_1_3) (i := 131) rfl))), List.mem_append_right _ (List.mem_append_right _ (List.mem_append_right _ (List.mem_of_getElem? (l := tables_1_4) (i := 191) rfl))), List.mem_append_right _ (List.mem_append_right _ (List.mem_append_right _ (List.mem_of_getElem? (l := tables_1_4) (i := 192) rfl)))⟩
theorem lw_p31 : lw_okq (⟨"WalkGroundsModel", "open", "()I"⟩, 34) := ⟨⟨by decide +kernel, by decide +kernel⟩, List.mem_append_right _ (List.mem_append_right _ (List.mem_append_left _ (List.mem_of_getElem? (l := tables_1_3) (i := 131) rfl))), List.mem_append_right _ (List.mem_append_right _ (List.mem_append_right _ (List.mem_of_getElem? (l := tables_1_4) (i := 195) rfl))), List.mem_append_right _ (List.mem_append_right _ (List.mem_append_right _ (List.mem_of_getElem? (l := tables_1_4) (i := 196) rfl)))⟩
def lw_privs_2 : List (MethodName × Nat) := [(⟨"WalkGroundsModel", "goes", "(I)Z"⟩, 34), (⟨"WalkGroundsModel", "keeps", "(I)V"⟩, 34), (⟨"WalkGroundsModel", "isRing", "(I)Z"⟩, 34), (⟨"WalkGroundsModel", "area", "()I"⟩, 34), (⟨"WalkGroundsModel", "isBridge", "()Z"⟩, 34), (⟨"WalkGroundsModel", "leadingOn", "(I)I"⟩, 34), (⟨"WalkGroundsModel", "findForm", "(I)V"⟩, 34), (⟨"WalkGroundsModel", "tried", "(IIZI)I"⟩, 34), (⟨"WalkGroundsModel", "counts", "(II)V"⟩, 34), (⟨"WalkGroundsModel", "forgets", "(I)V"⟩, 34), (⟨"WalkGroundsModel", "rowOf", "(III)V"⟩, 34), (⟨"WalkGroundsModel", "isForm", "(I)Z"⟩, 34), (⟨"WalkGroundsModel", "meets", "(I)V"⟩, 34), (⟨"WalkGroundsModel", "turnsAll", "(III)V"⟩, 34), (⟨"WalkGroundsModel", "countWays", "()V"⟩, 34), (⟨"WalkGroundsModel", "open", "()I"⟩, 34)]
theorem lw_r2 : ∀ q ∈ lw_privs_2, lw_okq q := List.forall_mem_cons.mpr ⟨lw_p16, List.forall_mem_cons.mpr ⟨lw_p17, List.forall_mem_cons.mpr ⟨lw_p18, List.forall_mem_cons.mpr ⟨lw_p19, List.forall_mem_cons.mpr ⟨lw_p20, List.forall_mem_cons.mpr ⟨lw_p21, List.forall_mem_cons.mpr ⟨lw_p22, List.forall_mem_cons.mpr ⟨lw_p23, List.forall_mem_cons.mpr ⟨lw_p24, List.forall_mem_cons.mpr ⟨lw_p25, List.forall_mem_cons.mpr ⟨lw_p26, List.forall_mem_cons.mpr ⟨lw_p27, List.forall_mem_cons.mpr ⟨lw_p28, List.forall_mem_cons.mpr ⟨lw_p29, List.forall_mem_cons.mpr ⟨lw_p30, List.forall_mem_cons.mpr ⟨lw_p31, fun _ h => absurd h List.not_mem_nil⟩⟩⟩⟩⟩⟩⟩⟩⟩⟩⟩⟩⟩⟩⟩⟩
theorem lw_p32 : lw_okq (⟨"WalkGroundsModel", "next", "(II)I"⟩, 34) := ⟨⟨by decide +kernel, by decide +kernel⟩, List.mem_append_right _ (List.mem_append_right _ (List.mem_append_left _ (List.mem_of_getElem? (l := tables_1_3) (i := 131) rfl))), List.mem_append_right _ (List.mem_append_right _ (List.mem_append_right _ (List.mem_of_getElem? (l := tables_1_4) (i := 199) rfl))), List.mem_append_right _ (List.mem_append_right _ (List.mem_append_right _ (List.mem_of_getElem? (l := tables_1_4) (i := 200) rfl)))⟩
def lw_privs_3 : List (MethodName × Nat) := [(⟨"WalkGroundsModel", "next", "(II)I"⟩, 34)]
theorem lw_r3 : ∀ q ∈ lw_privs_3, lw_okq q := List.forall_mem_cons.mpr ⟨lw_p32, fun _ h => absurd h List.not_mem_nil⟩
def lw_privs : List (MethodName × Nat) := lw_privs_1 ++ (lw_privs_2 ++ (lw_privs_3))
def lw_tbl : List Cond := k2_sels lw_privs ++ tables_1
theorem lw_privs_ok : ∀ q ∈ lw_privs, lw_okq q := by
  show ∀ q ∈ lw_privs_1 ++ (lw_privs_2 ++ (lw_privs_3)), lw_okq q
  exact List.forall_mem_append.mpr ⟨lw_r1, List.forall_mem_append.mpr ⟨lw_r2, lw_r3⟩⟩
/-! ===== BEGIN words of one list among another's, by their places ===== -/
theorem goodIn_r {big : List Cond} (ws : List Cond) (ps : List Nat) (hp : ws = ps.filterMap (fun i => big[i]?)) (h : ws.all goodWord = true) : GoodIn big ws := by
  intro w hw
  have h1 := List.all_eq_true.mp h w hw
  rw [hp] at hw
  obtain ⟨i, -, hi⟩ := List.mem_filterMap.mp hw
  have hm : w ∈ big := by first | exact List.mem_of_getElem? hi | exact List.getElem?_mem hi
  exact ⟨hm, good_of_word h1⟩
theorem goodIn_app {big a b : List Cond} (ha : GoodIn big a) (hb : GoodIn big b) : GoodIn big (a ++ b) := fun w h => (List.mem_append.mp h).elim (ha w) (hb w)
theorem goodIn_ca {big a b : List Cond} {c : Cond} (ha : GoodIn big (c :: a)) (hb : GoodIn big b) : GoodIn big (c :: (a ++ b)) := fun w h => (List.mem_cons.mp h).elim (fun e => ha w (List.mem_cons.mpr (Or.inl e))) (fun h => (List.mem_append.mp h).elim (fun h => ha w (List.mem_cons.mpr (Or.inr h))) (hb w))
theorem goodIn_sub {big ws : List Cond} (hm : ∀ w ∈ ws, w ∈ big) (h : ws.all goodWord = true) : GoodIn big ws := fun w hw => ⟨hm w hw, good_of_word (List.all_eq_true.mp h w hw)⟩
/-! ===== END ===== -/

/-! ===== BEGIN printed: names, fields, word lists, decode rows ===== -/
def RX0 : String := "WalkGrounds$Ground"
def TX0 : u_T := fun k => match k with
  | _ => ("", "", "", false)
def tyX0 : Nat → FieldType := fun k => match k with
  | _ => .int
abbrev wsX00 : List Cond := u_ws RX0 TX0 0
theorem nmX0 : ∀ a, a < 0 → ∀ b, b < 0 → a ≠ b → (TX0 a).2.1 ≠ (TX0 b).2.1 := by decide +kernel
theorem tyX0_ok : ∀ k, k < 0 → parseFieldDescriptor (TX0 k).2.2.1 = some (tyX0 k) := by decide +kernel
abbrev cX0_isGround : ByteArray := prog_2_method_2_code
def yX0_isGround : MethodName := ⟨RX0, "isGround", "(I)Z"⟩
abbrev cX0_directions : ByteArray := prog_2_method_3_code
def yX0_directions : MethodName := ⟨RX0, "directions", "(I)I"⟩
abbrev cX0_isDirection : ByteArray := prog_2_method_4_code
def yX0_isDirection : MethodName := ⟨RX0, "isDirection", "(II)Z"⟩
abbrev cX0_turns : ByteArray := prog_2_method_5_code
def yX0_turns : MethodName := ⟨RX0, "turns", "(I)I"⟩
abbrev cX0_isTurn : ByteArray := prog_2_method_6_code
def yX0_isTurn : MethodName := ⟨RX0, "isTurn", "(II)Z"⟩
abbrev cX0_shiftX : ByteArray := prog_2_method_7_code
def yX0_shiftX : MethodName := ⟨RX0, "shiftX", "(II)I"⟩
abbrev cX0_shiftY : ByteArray := prog_2_method_8_code
def yX0_shiftY : MethodName := ⟨RX0, "shiftY", "(IIII)I"⟩
abbrev cX0_shiftZ : ByteArray := prog_2_method_9_code
def yX0_shiftZ : MethodName := ⟨RX0, "shiftZ", "(II)I"⟩
abbrev cX0_isEven : ByteArray := prog_2_method_10_code
def yX0_isEven : MethodName := ⟨RX0, "isEven", "(II)Z"⟩
abbrev cX0_square : ByteArray := prog_2_method_11_code
def yX0_square : MethodName := ⟨RX0, "square", "(IIII)I"⟩
abbrev cX0_opposite : ByteArray := prog_2_method_12_code
def yX0_opposite : MethodName := ⟨RX0, "opposite", "(II)I"⟩
abbrev cX0_turned : ByteArray := prog_2_method_13_code
def yX0_turned : MethodName := ⟨RX0, "turned", "(III)I"⟩
abbrev cX0_turnedInCubes : ByteArray := prog_2_method_14_code
def yX0_turnedInCubes : MethodName := ⟨RX0, "turnedInCubes", "(II)I"⟩
abbrev cX0_isBesideBeginning : ByteArray := prog_2_method_15_code
def yX0_isBesideBeginning : MethodName := ⟨RX0, "isBesideBeginning", "(IIII)Z"⟩
def RX1 : String := "WalkGrounds$Likeness"
def TX1 : u_T := fun k => match k with
  | _ => ("", "", "", false)
def tyX1 : Nat → FieldType := fun k => match k with
  | _ => .int
abbrev wsX10 : List Cond := u_ws RX1 TX1 0
theorem nmX1 : ∀ a, a < 0 → ∀ b, b < 0 → a ≠ b → (TX1 a).2.1 ≠ (TX1 b).2.1 := by decide +kernel
theorem tyX1_ok : ∀ k, k < 0 → parseFieldDescriptor (TX1 k).2.2.1 = some (tyX1 k) := by decide +kernel
abbrev cX1_writeForm : ByteArray := prog_3_method_2_code
def yX1_writeForm : MethodName := ⟨RX1, "writeForm", "(LWalkGrounds$Row;[I)V"⟩
abbrev cX1_keepLesser : ByteArray := prog_3_method_3_code
def yX1_keepLesser : MethodName := ⟨RX1, "keepLesser", "(LWalkGrounds$Row;IZ[I)V"⟩
abbrev cX1_turnedStep : ByteArray := prog_3_method_4_code
def yX1_turnedStep : MethodName := ⟨RX1, "turnedStep", "(LWalkGrounds$Row;IZI)I"⟩
abbrev cX1_isBelow : ByteArray := prog_3_method_5_code
def yX1_isBelow : MethodName := ⟨RX1, "isBelow", "(LWalkGrounds$Row;IZ[I)Z"⟩
abbrev cX1_isOwnForm : ByteArray := prog_3_method_6_code
def yX1_isOwnForm : MethodName := ⟨RX1, "isOwnForm", "(LWalkGrounds$Row;)Z"⟩
abbrev cX1_countForms : ByteArray := prog_3_method_7_code
def yX1_countForms : MethodName := ⟨RX1, "countForms", "(LWalkGrounds$Row;II)I"⟩
def RX2 : String := "WalkGrounds$Plane"
def TX2 : u_T := fun k => match k with
  | 0 => ("WalkGrounds$Plane", "waysBySteps", "[I", true)
  | 1 => ("WalkGrounds$Plane", "w", "I", false)
  | 2 => ("WalkGrounds$Plane", "h", "I", false)
  | 3 => ("WalkGrounds$Plane", "open", "J", false)
  | 4 => ("WalkGrounds$Plane", "rowCount", "I", false)
  | 5 => ("WalkGrounds$Plane", "allWays", "I", false)
  | 6 => ("WalkGrounds$Plane", "fullWays", "I", false)
  | 7 => ("WalkGrounds$Plane", "isCountedNow", "Z", false)
  | _ => ("WalkGrounds$Plane", "spent", "Z", false)
def tyX2 : Nat → FieldType := fun k => match k with
  | 0 => .array .int
  | 1 => .int
  | 2 => .int
  | 3 => .long
  | 4 => .int
  | 5 => .int
  | 6 => .int
  | 7 => .boolean
  | _ => .boolean
abbrev wsX20 : List Cond := u_ws RX2 TX2 9
theorem nmX2 : ∀ a, a < 9 → ∀ b, b < 9 → a ≠ b → (TX2 a).2.1 ≠ (TX2 b).2.1 := by decide +kernel
theorem tyX2_ok : ∀ k, k < 9 → parseFieldDescriptor (TX2 k).2.2.1 = some (tyX2 k) := by decide +kernel
abbrev cX2_init : ByteArray := prog_4_method_1_code
def yX2_init : MethodName := ⟨RX2, "<init>", "()V"⟩
abbrev cX2_lay : ByteArray := prog_4_method_2_code
def yX2_lay : MethodName := ⟨RX2, "lay", "(II)V"⟩
abbrev cX2_numberOf : ByteArray := prog_4_method_3_code
def yX2_numberOf : MethodName := ⟨RX2, "numberOf", "(II)I"⟩
abbrev cX2_bitOf : ByteArray := prog_4_method_4_code
def yX2_bitOf : MethodName := ⟨RX2, "bitOf", "(II)J"⟩
abbrev cX2_isHole : ByteArray := prog_4_method_5_code
def yX2_isHole : MethodName := ⟨RX2, "isHole", "(II)Z"⟩
abbrev cX2_isCorner : ByteArray := prog_4_method_6_code
def yX2_isCorner : MethodName := ⟨RX2, "isCorner", "(II)Z"⟩
abbrev cX2_turnOver : ByteArray := prog_4_method_7_code
def yX2_turnOver : MethodName := ⟨RX2, "turnOver", "(II)V"⟩
abbrev cX2_holds : ByteArray := prog_4_method_8_code
def yX2_holds : MethodName := ⟨RX2, "holds", "()Z"⟩
abbrev cX2_countWays : ByteArray := prog_4_method_9_code
def yX2_countWays : MethodName := ⟨RX2, "countWays", "()V"⟩
abbrev cX2_extend : ByteArray := prog_4_method_10_code
def yX2_extend : MethodName := ⟨RX2, "extend", "(LWalkGrounds$Plane;IIJ)V"⟩
abbrev cX2_score : ByteArray := prog_4_method_11_code
def yX2_score : MethodName := ⟨RX2, "score", "(IZ)V"⟩
abbrev cX2_shortestSteps : ByteArray := prog_4_method_12_code
def yX2_shortestSteps : MethodName := ⟨RX2, "shortestSteps", "()I"⟩
abbrev cX2_digestOnto : ByteArray := prog_4_method_13_code
def yX2_digestOnto : MethodName := ⟨RX2, "digestOnto", "(J)J"⟩
def RX3 : String := "WalkGrounds$Row"
def TX3 : u_T := fun k => match k with
  | 0 => ("WalkGrounds$Row", "most", "I", true)
  | 1 => ("WalkGrounds$Row", "steps", "[I", true)
  | 2 => ("WalkGrounds$Row", "xs", "[I", true)
  | 3 => ("WalkGrounds$Row", "ys", "[I", true)
  | 4 => ("WalkGrounds$Row", "zs", "[I", true)
  | 5 => ("WalkGrounds$Row", "ground", "I", false)
  | _ => ("WalkGrounds$Row", "size", "I", false)
def tyX3 : Nat → FieldType := fun k => match k with
  | 0 => .int
  | 1 => .array .int
  | 2 => .array .int
  | 3 => .array .int
  | 4 => .array .int
  | 5 => .int
  | _ => .int
abbrev wsX30 : List Cond := u_ws RX3 TX3 7
theorem nmX3 : ∀ a, a < 7 → ∀ b, b < 7 → a ≠ b → (TX3 a).2.1 ≠ (TX3 b).2.1 := by decide +kernel
theorem tyX3_ok : ∀ k, k < 7 → parseFieldDescriptor (TX3 k).2.2.1 = some (tyX3 k) := by decide +kernel
abbrev cX3_init : ByteArray := prog_5_method_1_code
def yX3_init : MethodName := ⟨RX3, "<init>", "(I)V"⟩
abbrev cX3_begin : ByteArray := prog_5_method_2_code
def yX3_begin : MethodName := ⟨RX3, "begin", "(I)V"⟩
abbrev cX3_direction : ByteArray := prog_5_method_3_code
def yX3_direction : MethodName := ⟨RX3, "direction", "(I)I"⟩
abbrev cX3_endX : ByteArray := prog_5_method_4_code
def yX3_endX : MethodName := ⟨RX3, "endX", "()I"⟩
abbrev cX3_endY : ByteArray := prog_5_method_5_code
def yX3_endY : MethodName := ⟨RX3, "endY", "()I"⟩
abbrev cX3_endZ : ByteArray := prog_5_method_6_code
def yX3_endZ : MethodName := ⟨RX3, "endZ", "()I"⟩
abbrev cX3_hasCome : ByteArray := prog_5_method_7_code
def yX3_hasCome : MethodName := ⟨RX3, "hasCome", "(III)Z"⟩
abbrev cX3_leads : ByteArray := prog_5_method_8_code
def yX3_leads : MethodName := ⟨RX3, "leads", "(I)Z"⟩
abbrev cX3_lay : ByteArray := prog_5_method_9_code
def yX3_lay : MethodName := ⟨RX3, "lay", "(I)Z"⟩
abbrev cX3_drop : ByteArray := prog_5_method_10_code
def yX3_drop : MethodName := ⟨RX3, "drop", "(I)V"⟩
abbrev cX3_become : ByteArray := prog_5_method_11_code
def yX3_become : MethodName := ⟨RX3, "become", "(LWalkGrounds$Row;)V"⟩
abbrev cX3_isRing : ByteArray := prog_5_method_12_code
def yX3_isRing : MethodName := ⟨RX3, "isRing", "()Z"⟩
abbrev cX3_twiceArea : ByteArray := prog_5_method_13_code
def yX3_twiceArea : MethodName := ⟨RX3, "twiceArea", "()I"⟩
abbrev cX3_bends : ByteArray := prog_5_method_14_code
def yX3_bends : MethodName := ⟨RX3, "bends", "()I"⟩
abbrev cX3_isBridge : ByteArray := prog_5_method_15_code
def yX3_isBridge : MethodName := ⟨RX3, "isBridge", "()Z"⟩
abbrev cX3_leadsOn : ByteArray := prog_5_method_16_code
def yX3_leadsOn : MethodName := ⟨RX3, "leadsOn", "()I"⟩
abbrev cX3_digestOnto : ByteArray := prog_5_method_17_code
def yX3_digestOnto : MethodName := ⟨RX3, "digestOnto", "(J)J"⟩
def RX4 : String := "WalkGrounds$Tally"
def TX4 : u_T := fun k => match k with
  | 0 => ("WalkGrounds$Tally", "ground", "I", true)
  | 1 => ("WalkGrounds$Tally", "range", "I", true)
  | 2 => ("WalkGrounds$Tally", "side", "I", true)
  | 3 => ("WalkGrounds$Tally", "taken", "[Z", true)
  | 4 => ("WalkGrounds$Tally", "walkCounts", "[I", true)
  | 5 => ("WalkGrounds$Tally", "squareSums", "[J", true)
  | 6 => ("WalkGrounds$Tally", "ringCounts", "[I", true)
  | 7 => ("WalkGrounds$Tally", "bridgeCounts", "[I", true)
  | 8 => ("WalkGrounds$Tally", "formCounts", "[I", true)
  | 9 => ("WalkGrounds$Tally", "reachCounts", "[I", true)
  | 10 => ("WalkGrounds$Tally", "level", "I", false)
  | 11 => ("WalkGrounds$Tally", "counted", "I", false)
  | 12 => ("WalkGrounds$Tally", "together", "I", false)
  | _ => ("WalkGrounds$Tally", "spent", "Z", false)
def tyX4 : Nat → FieldType := fun k => match k with
  | 0 => .int
  | 1 => .int
  | 2 => .int
  | 3 => .array .boolean
  | 4 => .array .int
  | 5 => .array .long
  | 6 => .array .int
  | 7 => .array .int
  | 8 => .array .int
  | 9 => .array .int
  | 10 => .int
  | 11 => .int
  | 12 => .int
  | _ => .boolean
abbrev wsX40 : List Cond := u_ws RX4 TX4 14
theorem nmX4 : ∀ a, a < 14 → ∀ b, b < 14 → a ≠ b → (TX4 a).2.1 ≠ (TX4 b).2.1 := by decide +kernel
theorem tyX4_ok : ∀ k, k < 14 → parseFieldDescriptor (TX4 k).2.2.1 = some (tyX4 k) := by decide +kernel
abbrev cX4_init : ByteArray := prog_6_method_1_code
def yX4_init : MethodName := ⟨RX4, "<init>", "(I)V"⟩
abbrev cX4_holds : ByteArray := prog_6_method_2_code
def yX4_holds : MethodName := ⟨RX4, "holds", "(I)Z"⟩
abbrev cX4_countLevel : ByteArray := prog_6_method_3_code
def yX4_countLevel : MethodName := ⟨RX4, "countLevel", "(I)V"⟩
abbrev cX4_extend : ByteArray := prog_6_method_4_code
def yX4_extend : MethodName := ⟨RX4, "extend", "(LWalkGrounds$Tally;IIIII)V"⟩
abbrev cX4_score : ByteArray := prog_6_method_5_code
def yX4_score : MethodName := ⟨RX4, "score", "(IIII)V"⟩
abbrev cX4_cellOf : ByteArray := prog_6_method_6_code
def yX4_cellOf : MethodName := ⟨RX4, "cellOf", "(III)I"⟩
abbrev cX4_isTaken : ByteArray := prog_6_method_7_code
def yX4_isTaken : MethodName := ⟨RX4, "isTaken", "(I)Z"⟩
abbrev cX4_setTaken : ByteArray := prog_6_method_8_code
def yX4_setTaken : MethodName := ⟨RX4, "setTaken", "(IZ)V"⟩
def RX5 : String := "WalkGrounds$Turnings"
def TX5 : u_T := fun k => match k with
  | 0 => ("WalkGrounds$Turnings", "ground", "I", true)
  | 1 => ("WalkGrounds$Turnings", "steps", "I", true)
  | 2 => ("WalkGrounds$Turnings", "base", "I", true)
  | 3 => ("WalkGrounds$Turnings", "states", "[B", true)
  | 4 => ("WalkGrounds$Turnings", "queue", "[I", true)
  | 5 => ("WalkGrounds$Turnings", "digits", "[I", true)
  | _ => ("WalkGrounds$Turnings", "queued", "I", false)
def tyX5 : Nat → FieldType := fun k => match k with
  | 0 => .int
  | 1 => .int
  | 2 => .int
  | 3 => .array .byte
  | 4 => .array .int
  | 5 => .array .int
  | _ => .int
abbrev wsX50 : List Cond := u_ws RX5 TX5 7
theorem nmX5 : ∀ a, a < 7 → ∀ b, b < 7 → a ≠ b → (TX5 a).2.1 ≠ (TX5 b).2.1 := by decide +kernel
theorem tyX5_ok : ∀ k, k < 7 → parseFieldDescriptor (TX5 k).2.2.1 = some (tyX5 k) := by decide +kernel
abbrev cX5_init : ByteArray := prog_7_method_1_code
def yX5_init : MethodName := ⟨RX5, "<init>", "(III)V"⟩
abbrev cX5_countReached : ByteArray := prog_7_method_2_code
def yX5_countReached : MethodName := ⟨RX5, "countReached", "(LWalkGrounds$Row;)I"⟩
abbrev cX5_markWalks : ByteArray := prog_7_method_3_code
def yX5_markWalks : MethodName := ⟨RX5, "markWalks", "(LWalkGrounds$Turnings;LWalkGrounds$Row;II)V"⟩
abbrev cX5_arriveAt : ByteArray := prog_7_method_4_code
def yX5_arriveAt : MethodName := ⟨RX5, "arriveAt", "(I)V"⟩
abbrev cX5_takeApart : ByteArray := prog_7_method_5_code
def yX5_takeApart : MethodName := ⟨RX5, "takeApart", "(I)V"⟩
abbrev cX5_numberTurned : ByteArray := prog_7_method_6_code
def yX5_numberTurned : MethodName := ⟨RX5, "numberTurned", "(II)I"⟩
def RX6 : String := "WalkGrounds"
def TX6 : u_T := fun k => match k with
  | 0 => ("WalkGrounds", "made", "[LWalkGrounds$Row;", true)
  | 1 => ("WalkGrounds", "madeCount", "I", false)
  | 2 => ("WalkGrounds", "trial", "LWalkGrounds$Row;", true)
  | 3 => ("WalkGrounds", "ownForm", "[I", true)
  | 4 => ("WalkGrounds", "otherForm", "[I", true)
  | 5 => ("WalkGrounds", "tallies", "[LWalkGrounds$Tally;", true)
  | _ => ("WalkGrounds", "plane", "LWalkGrounds$Plane;", true)
def tyX6 : Nat → FieldType := fun k => match k with
  | 0 => .array (.object "WalkGrounds$Row")
  | 1 => .int
  | 2 => .object "WalkGrounds$Row"
  | 3 => .array .int
  | 4 => .array .int
  | 5 => .array (.object "WalkGrounds$Tally")
  | _ => .object "WalkGrounds$Plane"
abbrev wsX60 : List Cond := u_ws RX6 TX6 7
theorem nmX6 : ∀ a, a < 7 → ∀ b, b < 7 → a ≠ b → (TX6 a).2.1 ≠ (TX6 b).2.1 := by decide +kernel
theorem tyX6_ok : ∀ k, k < 7 → parseFieldDescriptor (TX6 k).2.2.1 = some (tyX6 k) := by decide +kernel
abbrev cX6_init : ByteArray := prog_1_method_1_code
def yX6_init : MethodName := ⟨RX6, "<init>", "()V"⟩
abbrev cX6_walk : ByteArray := prog_1_method_2_code
def yX6_walk : MethodName := ⟨RX6, "walk", "(I)I"⟩
abbrev cX6_step : ByteArray := prog_1_method_3_code
def yX6_step : MethodName := ⟨RX6, "step", "(II)I"⟩
abbrev cX6_back : ByteArray := prog_1_method_4_code
def yX6_back : MethodName := ⟨RX6, "back", "(II)I"⟩
abbrev cX6_pivot : ByteArray := prog_1_method_5_code
def yX6_pivot : MethodName := ⟨RX6, "pivot", "(III)I"⟩
abbrev cX6_join : ByteArray := prog_1_method_6_code
def yX6_join : MethodName := ⟨RX6, "join", "(II)I"⟩
abbrev cX6_turnBack : ByteArray := prog_1_method_7_code
def yX6_turnBack : MethodName := ⟨RX6, "turnBack", "(I)I"⟩
abbrev cX6_stepAt : ByteArray := prog_1_method_8_code
def yX6_stepAt : MethodName := ⟨RX6, "stepAt", "(II)I"⟩
abbrev cX6_place : ByteArray := prog_1_method_9_code
def yX6_place : MethodName := ⟨RX6, "place", "(III)I"⟩
abbrev cX6_about : ByteArray := prog_1_method_10_code
def yX6_about : MethodName := ⟨RX6, "about", "(II)I"⟩
abbrev cX6_form : ByteArray := prog_1_method_11_code
def yX6_form : MethodName := ⟨RX6, "form", "(II)I"⟩
abbrev cX6_alike : ByteArray := prog_1_method_12_code
def yX6_alike : MethodName := ⟨RX6, "alike", "(II)I"⟩
abbrev cX6_walks : ByteArray := prog_1_method_13_code
def yX6_walks : MethodName := ⟨RX6, "walks", "(II)I"⟩
abbrev cX6_squares : ByteArray := prog_1_method_14_code
def yX6_squares : MethodName := ⟨RX6, "squares", "(II)J"⟩
abbrev cX6_rings : ByteArray := prog_1_method_15_code
def yX6_rings : MethodName := ⟨RX6, "rings", "(II)I"⟩
abbrev cX6_bridges : ByteArray := prog_1_method_16_code
def yX6_bridges : MethodName := ⟨RX6, "bridges", "(II)I"⟩
abbrev cX6_forms : ByteArray := prog_1_method_17_code
def yX6_forms : MethodName := ⟨RX6, "forms", "(II)I"⟩
abbrev cX6_reach : ByteArray := prog_1_method_18_code
def yX6_reach : MethodName := ⟨RX6, "reach", "(II)I"⟩
abbrev cX6_board : ByteArray := prog_1_method_19_code
def yX6_board : MethodName := ⟨RX6, "board", "(II)I"⟩
abbrev cX6_hole : ByteArray := prog_1_method_20_code
def yX6_hole : MethodName := ⟨RX6, "hole", "(IIZ)I"⟩
abbrev cX6_ways : ByteArray := prog_1_method_21_code
def yX6_ways : MethodName := ⟨RX6, "ways", "(Z)I"⟩
abbrev cX6_waysOf : ByteArray := prog_1_method_22_code
def yX6_waysOf : MethodName := ⟨RX6, "waysOf", "(I)I"⟩
abbrev cX6_shortest : ByteArray := prog_1_method_23_code
def yX6_shortest : MethodName := ⟨RX6, "shortest", "()I"⟩
abbrev cX6_count : ByteArray := prog_1_method_24_code
def yX6_count : MethodName := ⟨RX6, "count", "(I)I"⟩
abbrev cX6_digest : ByteArray := prog_1_method_25_code
def yX6_digest : MethodName := ⟨RX6, "digest", "()J"⟩
abbrev cX6_rowOf : ByteArray := prog_1_method_26_code
def yX6_rowOf : MethodName := ⟨RX6, "rowOf", "(I)LWalkGrounds$Row;"⟩
abbrev cX6_tallyFor : ByteArray := prog_1_method_27_code
def yX6_tallyFor : MethodName := ⟨RX6, "tallyFor", "(III)LWalkGrounds$Tally;"⟩
abbrev cX6_cell : ByteArray := prog_1_method_28_code
def yX6_cell : MethodName := ⟨RX6, "cell", "([II)I"⟩
abbrev cX6_cell_ : ByteArray := prog_1_method_29_code
def yX6_cell_ : MethodName := ⟨RX6, "cell", "([JI)J"⟩
abbrev cX6_put : ByteArray := prog_1_method_30_code
def yX6_put : MethodName := ⟨RX6, "put", "([III)V"⟩
def RX7 : String := "WalkGroundsModel"
def TX7 : u_T := fun k => match k with
  | 0 => ("WalkGroundsModel", "walks", "I", false)
  | 1 => ("WalkGroundsModel", "ground", "[I", true)
  | 2 => ("WalkGroundsModel", "many", "[I", true)
  | 3 => ("WalkGroundsModel", "step", "[I", true)
  | 4 => ("WalkGroundsModel", "row", "[I", true)
  | 5 => ("WalkGroundsModel", "rowLong", "I", false)
  | 6 => ("WalkGroundsModel", "px", "[I", true)
  | 7 => ("WalkGroundsModel", "py", "[I", true)
  | 8 => ("WalkGroundsModel", "pz", "[I", true)
  | 9 => ("WalkGroundsModel", "form", "[I", true)
  | 10 => ("WalkGroundsModel", "other", "[I", true)
  | 11 => ("WalkGroundsModel", "isKnown", "[Z", true)
  | 12 => ("WalkGroundsModel", "counted", "[I", true)
  | 13 => ("WalkGroundsModel", "squared", "[J", true)
  | 14 => ("WalkGroundsModel", "ringed", "[I", true)
  | 15 => ("WalkGroundsModel", "bridged", "[I", true)
  | 16 => ("WalkGroundsModel", "seen", "[Z", true)
  | 17 => ("WalkGroundsModel", "highX", "[I", true)
  | 18 => ("WalkGroundsModel", "formed", "[I", true)
  | 19 => ("WalkGroundsModel", "reached", "[I", true)
  | 20 => ("WalkGroundsModel", "isMet", "[Z", true)
  | 21 => ("WalkGroundsModel", "queue", "[I", true)
  | 22 => ("WalkGroundsModel", "queued", "I", false)
  | 23 => ("WalkGroundsModel", "wide", "I", false)
  | 24 => ("WalkGroundsModel", "high", "I", false)
  | 25 => ("WalkGroundsModel", "isHole", "[Z", true)
  | 26 => ("WalkGroundsModel", "isCounted", "Z", false)
  | 27 => ("WalkGroundsModel", "isSpent", "Z", false)
  | 28 => ("WalkGroundsModel", "fullWays", "I", false)
  | 29 => ("WalkGroundsModel", "waysBy", "[I", true)
  | 30 => ("WalkGroundsModel", "isGone", "[Z", true)
  | 31 => ("WalkGroundsModel", "way", "[I", true)
  | 32 => ("WalkGroundsModel", "tryNow", "[I", true)
  | _ => ("WalkGroundsModel", "far", "[I", true)
def tyX7 : Nat → FieldType := fun k => match k with
  | 0 => .int
  | 1 => .array .int
  | 2 => .array .int
  | 3 => .array .int
  | 4 => .array .int
  | 5 => .int
  | 6 => .array .int
  | 7 => .array .int
  | 8 => .array .int
  | 9 => .array .int
  | 10 => .array .int
  | 11 => .array .boolean
  | 12 => .array .int
  | 13 => .array .long
  | 14 => .array .int
  | 15 => .array .int
  | 16 => .array .boolean
  | 17 => .array .int
  | 18 => .array .int
  | 19 => .array .int
  | 20 => .array .boolean
  | 21 => .array .int
  | 22 => .int
  | 23 => .int
  | 24 => .int
  | 25 => .array .boolean
  | 26 => .boolean
  | 27 => .boolean
  | 28 => .int
  | 29 => .array .int
  | 30 => .array .boolean
  | 31 => .array .int
  | 32 => .array .int
  | _ => .array .int
abbrev wsX70 : List Cond := u_ws RX7 TX7 34
theorem nmX7 : ∀ a, a < 34 → ∀ b, b < 34 → a ≠ b → (TX7 a).2.1 ≠ (TX7 b).2.1 := by decide +kernel
theorem tyX7_ok : ∀ k, k < 34 → parseFieldDescriptor (TX7 k).2.2.1 = some (tyX7 k) := by decide +kernel
abbrev cX7_init : ByteArray := prog_9_method_1_code
def yX7_init : MethodName := ⟨RX7, "<init>", "()V"⟩
abbrev cX7_in : ByteArray := prog_9_method_3_code
def yX7_in : MethodName := ⟨RX7, "in", "(III)Z"⟩
abbrev cX7_directions : ByteArray := prog_9_method_4_code
def yX7_directions : MethodName := ⟨RX7, "directions", "(I)I"⟩
abbrev cX7_turns : ByteArray := prog_9_method_5_code
def yX7_turns : MethodName := ⟨RX7, "turns", "(I)I"⟩
abbrev cX7_stepX : ByteArray := prog_9_method_6_code
def yX7_stepX : MethodName := ⟨RX7, "stepX", "(II)I"⟩
abbrev cX7_stepY : ByteArray := prog_9_method_7_code
def yX7_stepY : MethodName := ⟨RX7, "stepY", "(III)I"⟩
abbrev cX7_stepZ : ByteArray := prog_9_method_8_code
def yX7_stepZ : MethodName := ⟨RX7, "stepZ", "(II)I"⟩
abbrev cX7_square : ByteArray := prog_9_method_9_code
def yX7_square : MethodName := ⟨RX7, "square", "(IIII)I"⟩
abbrev cX7_axis : ByteArray := prog_9_method_10_code
def yX7_axis : MethodName := ⟨RX7, "axis", "(II)I"⟩
abbrev cX7_turned : ByteArray := prog_9_method_11_code
def yX7_turned : MethodName := ⟨RX7, "turned", "(III)I"⟩
abbrev cX7_opposite : ByteArray := prog_9_method_12_code
def yX7_opposite : MethodName := ⟨RX7, "opposite", "(II)I"⟩
abbrev cX7_isWalk : ByteArray := prog_9_method_13_code
def yX7_isWalk : MethodName := ⟨RX7, "isWalk", "(I)Z"⟩
abbrev cX7_walk : ByteArray := prog_9_method_14_code
def yX7_walk : MethodName := ⟨RX7, "walk", "(I)I"⟩
abbrev cX7_brings : ByteArray := prog_9_method_15_code
def yX7_brings : MethodName := ⟨RX7, "brings", "(I)V"⟩
abbrev cX7_goes : ByteArray := prog_9_method_16_code
def yX7_goes : MethodName := ⟨RX7, "goes", "(I)Z"⟩
abbrev cX7_keeps : ByteArray := prog_9_method_17_code
def yX7_keeps : MethodName := ⟨RX7, "keeps", "(I)V"⟩
abbrev cX7_becomes : ByteArray := prog_9_method_18_code
def yX7_becomes : MethodName := ⟨RX7, "becomes", "(I)I"⟩
abbrev cX7_step : ByteArray := prog_9_method_19_code
def yX7_step : MethodName := ⟨RX7, "step", "(II)I"⟩
abbrev cX7_back : ByteArray := prog_9_method_20_code
def yX7_back : MethodName := ⟨RX7, "back", "(II)I"⟩
abbrev cX7_pivot : ByteArray := prog_9_method_21_code
def yX7_pivot : MethodName := ⟨RX7, "pivot", "(III)I"⟩
abbrev cX7_join : ByteArray := prog_9_method_22_code
def yX7_join : MethodName := ⟨RX7, "join", "(II)I"⟩
abbrev cX7_turnBack : ByteArray := prog_9_method_23_code
def yX7_turnBack : MethodName := ⟨RX7, "turnBack", "(I)I"⟩
abbrev cX7_stepAt : ByteArray := prog_9_method_24_code
def yX7_stepAt : MethodName := ⟨RX7, "stepAt", "(II)I"⟩
abbrev cX7_place : ByteArray := prog_9_method_25_code
def yX7_place : MethodName := ⟨RX7, "place", "(III)I"⟩
abbrev cX7_isRing : ByteArray := prog_9_method_26_code
def yX7_isRing : MethodName := ⟨RX7, "isRing", "(I)Z"⟩
abbrev cX7_area : ByteArray := prog_9_method_27_code
def yX7_area : MethodName := ⟨RX7, "area", "()I"⟩
abbrev cX7_isBridge : ByteArray := prog_9_method_28_code
def yX7_isBridge : MethodName := ⟨RX7, "isBridge", "()Z"⟩
abbrev cX7_leadingOn : ByteArray := prog_9_method_29_code
def yX7_leadingOn : MethodName := ⟨RX7, "leadingOn", "(I)I"⟩
abbrev cX7_about : ByteArray := prog_9_method_30_code
def yX7_about : MethodName := ⟨RX7, "about", "(II)I"⟩
abbrev cX7_tried : ByteArray := prog_9_method_31_code
def yX7_tried : MethodName := ⟨RX7, "tried", "(IIZI)I"⟩
abbrev cX7_findForm : ByteArray := prog_9_method_32_code
def yX7_findForm : MethodName := ⟨RX7, "findForm", "(I)V"⟩
abbrev cX7_form : ByteArray := prog_9_method_33_code
def yX7_form : MethodName := ⟨RX7, "form", "(II)I"⟩
abbrev cX7_alike : ByteArray := prog_9_method_34_code
def yX7_alike : MethodName := ⟨RX7, "alike", "(II)I"⟩
abbrev cX7_spot : ByteArray := prog_9_method_35_code
def yX7_spot : MethodName := ⟨RX7, "spot", "(III)I"⟩
abbrev cX7_counts : ByteArray := prog_9_method_36_code
def yX7_counts : MethodName := ⟨RX7, "counts", "(II)V"⟩
abbrev cX7_forgets : ByteArray := prog_9_method_37_code
def yX7_forgets : MethodName := ⟨RX7, "forgets", "(I)V"⟩
abbrev cX7_isGround : ByteArray := prog_9_method_38_code
def yX7_isGround : MethodName := ⟨RX7, "isGround", "(I)Z"⟩
abbrev cX7_walks : ByteArray := prog_9_method_39_code
def yX7_walks : MethodName := ⟨RX7, "walks", "(II)I"⟩
abbrev cX7_squares : ByteArray := prog_9_method_40_code
def yX7_squares : MethodName := ⟨RX7, "squares", "(II)J"⟩
abbrev cX7_rings : ByteArray := prog_9_method_41_code
def yX7_rings : MethodName := ⟨RX7, "rings", "(II)I"⟩
abbrev cX7_bridges : ByteArray := prog_9_method_42_code
def yX7_bridges : MethodName := ⟨RX7, "bridges", "(II)I"⟩
abbrev cX7_isForm : ByteArray := prog_9_method_43_code
def yX7_isForm : MethodName := ⟨RX7, "isForm", "(I)Z"⟩
abbrev cX7_power : ByteArray := prog_9_method_44_code
def yX7_power : MethodName := ⟨RX7, "power", "(II)I"⟩
abbrev cX7_rowOf : ByteArray := prog_9_method_45_code
def yX7_rowOf : MethodName := ⟨RX7, "rowOf", "(III)V"⟩
abbrev cX7_forms : ByteArray := prog_9_method_46_code
def yX7_forms : MethodName := ⟨RX7, "forms", "(II)I"⟩
abbrev cX7_meets : ByteArray := prog_9_method_47_code
def yX7_meets : MethodName := ⟨RX7, "meets", "(I)V"⟩
abbrev cX7_turnsAll : ByteArray := prog_9_method_48_code
def yX7_turnsAll : MethodName := ⟨RX7, "turnsAll", "(III)V"⟩
abbrev cX7_reach : ByteArray := prog_9_method_49_code
def yX7_reach : MethodName := ⟨RX7, "reach", "(II)I"⟩
abbrev cX7_board : ByteArray := prog_9_method_50_code
def yX7_board : MethodName := ⟨RX7, "board", "(II)I"⟩
abbrev cX7_hole : ByteArray := prog_9_method_51_code
def yX7_hole : MethodName := ⟨RX7, "hole", "(IIZ)I"⟩
abbrev cX7_open : ByteArray := prog_9_method_52_code
def yX7_open : MethodName := ⟨RX7, "open", "()I"⟩
abbrev cX7_next : ByteArray := prog_9_method_53_code
def yX7_next : MethodName := ⟨RX7, "next", "(II)I"⟩
abbrev cX7_countWays : ByteArray := prog_9_method_54_code
def yX7_countWays : MethodName := ⟨RX7, "countWays", "()V"⟩
abbrev cX7_ways : ByteArray := prog_9_method_55_code
def yX7_ways : MethodName := ⟨RX7, "ways", "(Z)I"⟩
abbrev cX7_waysOf : ByteArray := prog_9_method_56_code
def yX7_waysOf : MethodName := ⟨RX7, "waysOf", "(I)I"⟩
abbrev cX7_shortest : ByteArray := prog_9_method_57_code
def yX7_shortest : MethodName := ⟨RX7, "shortest", "()I"⟩
abbrev cX7_count : ByteArray := prog_9_method_58_code
def yX7_count : MethodName := ⟨RX7, "count", "(I)I"⟩
abbrev cX7_digest : ByteArray := prog_9_method_59_code
def yX7_digest : MethodName := ⟨RX7, "digest", "()J"⟩
def RJ13 : String := "java/lang/Long"
def TJ13 : u_T := fun k => match k with
  | _ => ("", "", "", false)
def tyJ13 : Nat → FieldType := fun k => match k with
  | _ => .int
abbrev wsJ130 : List Cond := u_ws RJ13 TJ13 0
theorem nmJ13 : ∀ a, a < 0 → ∀ b, b < 0 → a ≠ b → (TJ13 a).2.1 ≠ (TJ13 b).2.1 := by decide +kernel
theorem tyJ13_ok : ∀ k, k < 0 → parseFieldDescriptor (TJ13 k).2.2.1 = some (tyJ13 k) := by decide +kernel
abbrev cJ13_bitCount_95d88 : ByteArray := prog_10_method_50_code
def yJ13_bitCount_95d88 : MethodName := ⟨RJ13, "bitCount", "(J)I"⟩
def RJ9 : String := "java/lang/Math"
def TJ9 : u_T := fun k => match k with
  | _ => ("", "", "", false)
def tyJ9 : Nat → FieldType := fun k => match k with
  | _ => .int
abbrev wsJ90 : List Cond := u_ws RJ9 TJ9 0
theorem nmJ9 : ∀ a, a < 0 → ∀ b, b < 0 → a ≠ b → (TJ9 a).2.1 ≠ (TJ9 b).2.1 := by decide +kernel
theorem tyJ9_ok : ∀ k, k < 0 → parseFieldDescriptor (TJ9 k).2.2.1 = some (tyJ9 k) := by decide +kernel
abbrev cJ9_abs_0f7a4 : ByteArray := prog_11_method_59_code
def yJ9_abs_0f7a4 : MethodName := ⟨RJ9, "abs", "(I)I"⟩
abbrev cJ9_max_7cf53 : ByteArray := prog_11_method_65_code
def yJ9_max_7cf53 : MethodName := ⟨RJ9, "max", "(II)I"⟩
abbrev cJ9_min_7cf53 : ByteArray := prog_11_method_69_code
def yJ9_min_7cf53 : MethodName := ⟨RJ9, "min", "(II)I"⟩
def RL : String := "WalkGroundsLaw"
abbrev cL_law : ByteArray := code
def yL_law : MethodName := ⟨RL, "law", "([I)Z"⟩
def jb (c : ByteArray) (i v : Nat) : Bool := if h : i < c.size then Nat.beq c[i].toNat v else false
theorem ju1 {c : ByteArray} {i v : Nat} (h : jb c i v = true) : (Reader.u1 : Decoder Nat) c i = .ok (v, i + 1) := by
  unfold jb at h
  split at h
  · rename_i hi
    have e := Nat.eq_of_beq_eq_true h
    unfold Reader.u1
    show (if h : i < c.size then (fun (_ : ByteArray) (_ : Nat) => (Except.ok (c[i].toNat, i + 1) : Except DecodeError (Nat × Nat))) else (throw (HasTruncated.truncated i) : Decoder Nat)) c i = _
    rw [dif_pos hi, e]
  · cases h
theorem ju2 {c : ByteArray} {i a b : Nat} (h : jb c i a = true) (h2 : jb c (i + 1) b = true) : (Reader.u2 : Decoder Nat) c i = .ok (a * 256 + b, i + 2) := by
  have h1 : (Reader.u1 : Decoder Nat) c i = .ok (a, i + 1) := ju1 h
  have h2 : (Reader.u1 : Decoder Nat) c (i + 1) = .ok (b, i + 2) := ju1 h2
  show Except.bind ((Reader.u1 : Decoder Nat) c i) _ = _
  rw [h1]
  show Except.bind ((Reader.u1 : Decoder Nat) c (i + 1)) _ = _
  rw [h2]
  rfl
theorem js1 {c : ByteArray} {i a : Nat} (h : jb c i a = true) : (Reader.s1 : Decoder Int) c i = .ok (Reader.signed 8 a, i + 1) := by
  have h1 : (Reader.u1 : Decoder Nat) c i = .ok (a, i + 1) := ju1 h
  show Except.map _ ((Reader.u1 : Decoder Nat) c i) = _
  rw [h1]
  rfl
theorem js2 {c : ByteArray} {i a b : Nat} (h : jb c i a = true) (h2 : jb c (i + 1) b = true) : (Reader.s2 : Decoder Int) c i = .ok (Reader.signed 16 (a * 256 + b), i + 2) := by
  have h1 : (Reader.u2 : Decoder Nat) c i = .ok (a * 256 + b, i + 2) := ju2 h h2
  show Except.map _ ((Reader.u2 : Decoder Nat) c i) = _
  rw [h1]
  rfl
theorem jal {a b : Bool} (h : (a && b) = true) : a = true := (Bool.and_eq_true_iff.mp h).1
theorem jar_ {a b : Bool} (h : (a && b) = true) : b = true := (Bool.and_eq_true_iff.mp h).2
def jb2 (c : ByteArray) (i v a : Nat) : Bool := jb c i v && jb c (i + 1) a
def jb3 (c : ByteArray) (i v a b : Nat) : Bool := jb c i v && (jb c (i + 1) a && jb c (i + 2) b)
def jwk : List UInt8 → List Nat → Bool
  | _, [] => true
  | [], _ :: _ => false
  | x :: xs, v :: vs => Nat.beq x.toNat v && jwk xs vs
theorem jwk_b {c : ByteArray} : ∀ (vs : List Nat) (p : Nat), jwk (c.data.toList.drop p) vs = true → ∀ (k v : Nat) (r : List Nat), vs.drop k = v :: r → jb c (p + k) v = true
  | [], p, _, k, v, r, e => by rw [List.drop_nil] at e; cases e
  | v0 :: vs, p, h, k, v, r, e => by
    have hp : p < c.data.toList.length := by
      by_cases q : p < c.data.toList.length
      · exact q
      · rw [List.drop_eq_nil_of_le (by omega)] at h
        cases h
    rw [List.drop_eq_getElem_cons hp] at h
    have h1 := jal h
    have h2 := jar_ h
    match k, e with
    | 0, e =>
      cases e
      unfold jb
      have hs : p < c.size := by
        show p < c.data.size
        rw [← Array.length_toList]
        exact hp
      rw [Nat.add_zero, dif_pos hs]
      have e2 : c[p] = c.data.toList[p] := by
        show c.data[p] = _
        rw [Array.getElem_toList]
      rw [e2]
      exact h1
    | k + 1, e =>
      have q := jwk_b vs (p + 1) h2 k v r e
      rw [show p + (k + 1) = p + 1 + k by omega]
      exact q
theorem jw1 {c : ByteArray} {p : Nat} {vs : List Nat} (h : jwk (c.data.toList.drop p) vs = true) (k : Nat) {v i : Nat} {r : List Nat} (e : vs.drop k = v :: r) (hi : p + k = i) : jb c i v = true := hi ▸ jwk_b vs p h k v r e
theorem jdrop1 {vs r : List Nat} {k v : Nat} (e : vs.drop k = v :: r) : vs.drop (k + 1) = r := by
  rw [← List.drop_drop, e]
  rfl
theorem jw2 {c : ByteArray} {p : Nat} {vs : List Nat} (h : jwk (c.data.toList.drop p) vs = true) (k : Nat) {v a i : Nat} {r : List Nat} (e : vs.drop k = v :: a :: r) (hi : p + k = i) : jb2 c i v a = true := by
  subst hi
  exact Bool.and_eq_true_iff.mpr ⟨jwk_b vs p h k v _ e, jwk_b vs p h (k + 1) a _ (jdrop1 e)⟩
theorem jw3 {c : ByteArray} {p : Nat} {vs : List Nat} (h : jwk (c.data.toList.drop p) vs = true) (k : Nat) {v a b i : Nat} {r : List Nat} (e : vs.drop k = v :: a :: b :: r) (hi : p + k = i) : jb3 c i v a b = true := by
  subst hi
  exact Bool.and_eq_true_iff.mpr ⟨jwk_b vs p h k v _ e, Bool.and_eq_true_iff.mpr ⟨jwk_b vs p h (k + 1) a _ (jdrop1 e), jwk_b vs p h (k + 2) b _ (jdrop1 (jdrop1 e))⟩⟩
theorem jo_1 {c : ByteArray} {i : Nat} (h : jb c i 1 = true) : decode c i = .ok (.aconst_null, 1) := by
  have h1 : (Reader.u1 : Decoder Nat) c i = .ok (1, i + 1) := ju1 h
  show Except.bind (Except.bind ((Reader.u1 : Decoder Nat) c i) _) _ = _
  rw [h1]
  show Except.ok (_, i + 1 - i) = _
  rw [Nat.add_sub_cancel_left]
theorem jo_2 {c : ByteArray} {i : Nat} (h : jb c i 2 = true) : decode c i = .ok (.iconst (-1), 1) := by
  have h1 : (Reader.u1 : Decoder Nat) c i = .ok (2, i + 1) := ju1 h
  show Except.bind (Except.bind ((Reader.u1 : Decoder Nat) c i) _) _ = _
  rw [h1]
  show Except.ok (_, i + 1 - i) = _
  rw [Nat.add_sub_cancel_left]
theorem jo_3 {c : ByteArray} {i : Nat} (h : jb c i 3 = true) : decode c i = .ok (.iconst 0, 1) := by
  have h1 : (Reader.u1 : Decoder Nat) c i = .ok (3, i + 1) := ju1 h
  show Except.bind (Except.bind ((Reader.u1 : Decoder Nat) c i) _) _ = _
  rw [h1]
  show Except.ok (_, i + 1 - i) = _
  rw [Nat.add_sub_cancel_left]
theorem jo_4 {c : ByteArray} {i : Nat} (h : jb c i 4 = true) : decode c i = .ok (.iconst 1, 1) := by
  have h1 : (Reader.u1 : Decoder Nat) c i = .ok (4, i + 1) := ju1 h
  show Except.bind (Except.bind ((Reader.u1 : Decoder Nat) c i) _) _ = _
  rw [h1]
  show Except.ok (_, i + 1 - i) = _
  rw [Nat.add_sub_cancel_left]
theorem jo_5 {c : ByteArray} {i : Nat} (h : jb c i 5 = true) : decode c i = .ok (.iconst 2, 1) := by
  have h1 : (Reader.u1 : Decoder Nat) c i = .ok (5, i + 1) := ju1 h
  show Except.bind (Except.bind ((Reader.u1 : Decoder Nat) c i) _) _ = _
  rw [h1]
  show Except.ok (_, i + 1 - i) = _
  rw [Nat.add_sub_cancel_left]
theorem jo_6 {c : ByteArray} {i : Nat} (h : jb c i 6 = true) : decode c i = .ok (.iconst 3, 1) := by
  have h1 : (Reader.u1 : Decoder Nat) c i = .ok (6, i + 1) := ju1 h
  show Except.bind (Except.bind ((Reader.u1 : Decoder Nat) c i) _) _ = _
  rw [h1]
  show Except.ok (_, i + 1 - i) = _
  rw [Nat.add_sub_cancel_left]
theorem jo_7 {c : ByteArray} {i : Nat} (h : jb c i 7 = true) : decode c i = .ok (.iconst 4, 1) := by
  have h1 : (Reader.u1 : Decoder Nat) c i = .ok (7, i + 1) := ju1 h
  show Except.bind (Except.bind ((Reader.u1 : Decoder Nat) c i) _) _ = _
  rw [h1]
  show Except.ok (_, i + 1 - i) = _
  rw [Nat.add_sub_cancel_left]
theorem jo_8 {c : ByteArray} {i : Nat} (h : jb c i 8 = true) : decode c i = .ok (.iconst 5, 1) := by
  have h1 : (Reader.u1 : Decoder Nat) c i = .ok (8, i + 1) := ju1 h
  show Except.bind (Except.bind ((Reader.u1 : Decoder Nat) c i) _) _ = _
  rw [h1]
  show Except.ok (_, i + 1 - i) = _
  rw [Nat.add_sub_cancel_left]
theorem jo_9 {c : ByteArray} {i : Nat} (h : jb c i 9 = true) : decode c i = .ok (.lconst 0, 1) := by
  have h1 : (Reader.u1 : Decoder Nat) c i = .ok (9, i + 1) := ju1 h
  show Except.bind (Except.bind ((Reader.u1 : Decoder Nat) c i) _) _ = _
  rw [h1]
  show Except.ok (_, i + 1 - i) = _
  rw [Nat.add_sub_cancel_left]
theorem jo_10 {c : ByteArray} {i : Nat} (h : jb c i 10 = true) : decode c i = .ok (.lconst 1, 1) := by
  have h1 : (Reader.u1 : Decoder Nat) c i = .ok (10, i + 1) := ju1 h
  show Except.bind (Except.bind ((Reader.u1 : Decoder Nat) c i) _) _ = _
  rw [h1]
  show Except.ok (_, i + 1 - i) = _
  rw [Nat.add_sub_cancel_left]
theorem jo_16 {c : ByteArray} {i a : Nat} {d : Int} (h : jb2 c i 16 a = true) (hd : Reader.signed 8 a = d) : decode c i = .ok (.bipush d, 2) := by
  subst hd
  have h1 : (Reader.u1 : Decoder Nat) c i = .ok (16, i + 1) := ju1 (jal h)
  have h2 : (Reader.s1 : Decoder Int) c (i + 1) = .ok (Reader.signed 8 a, i + 2) := js1 (jar_ h)
  show Except.bind (Except.bind ((Reader.u1 : Decoder Nat) c i) _) _ = _
  rw [h1]
  show Except.bind (Except.bind ((Reader.s1 : Decoder Int) c (i + 1)) _) _ = _
  rw [h2]
  show Except.ok (_, i + 2 - i) = _
  rw [Nat.add_sub_cancel_left]
theorem jo_17 {c : ByteArray} {i a b : Nat} {d : Int} (h : jb3 c i 17 a b = true) (hd : Reader.signed 16 (a * 256 + b) = d) : decode c i = .ok (.sipush d, 3) := by
  subst hd
  have h1 : (Reader.u1 : Decoder Nat) c i = .ok (17, i + 1) := ju1 (jal h)
  have h2 : (Reader.s2 : Decoder Int) c (i + 1) = .ok (Reader.signed 16 (a * 256 + b), i + 3) := js2 (jal (jar_ h)) (jar_ (jar_ h))
  show Except.bind (Except.bind ((Reader.u1 : Decoder Nat) c i) _) _ = _
  rw [h1]
  show Except.bind (Except.bind ((Reader.s2 : Decoder Int) c (i + 1)) _) _ = _
  rw [h2]
  show Except.ok (_, i + 3 - i) = _
  rw [Nat.add_sub_cancel_left]
theorem jo_18 {c : ByteArray} {i a : Nat} (h : jb2 c i 18 a = true) : decode c i = .ok (.ldc a, 2) := by
  have h1 : (Reader.u1 : Decoder Nat) c i = .ok (18, i + 1) := ju1 (jal h)
  have h2 : (Reader.u1 : Decoder Nat) c (i + 1) = .ok (a, i + 2) := ju1 (jar_ h)
  show Except.bind (Except.bind ((Reader.u1 : Decoder Nat) c i) _) _ = _
  rw [h1]
  show Except.bind (Except.bind ((Reader.u1 : Decoder Nat) c (i + 1)) _) _ = _
  rw [h2]
  show Except.ok (_, i + 2 - i) = _
  rw [Nat.add_sub_cancel_left]
theorem jo_20 {c : ByteArray} {i a b n : Nat} (h : jb3 c i 20 a b = true) (hd : a * 256 + b = n) : decode c i = .ok (.ldc2_w n, 3) := by
  subst hd
  have h1 : (Reader.u1 : Decoder Nat) c i = .ok (20, i + 1) := ju1 (jal h)
  have h2 : (Reader.u2 : Decoder Nat) c (i + 1) = .ok (a * 256 + b, i + 3) := ju2 (jal (jar_ h)) (jar_ (jar_ h))
  show Except.bind (Except.bind ((Reader.u1 : Decoder Nat) c i) _) _ = _
  rw [h1]
  show Except.bind (Except.bind ((Reader.u2 : Decoder Nat) c (i + 1)) _) _ = _
  rw [h2]
  show Except.ok (_, i + 3 - i) = _
  rw [Nat.add_sub_cancel_left]
theorem jo_21 {c : ByteArray} {i a : Nat} (h : jb2 c i 21 a = true) : decode c i = .ok (.iload a, 2) := by
  have h1 : (Reader.u1 : Decoder Nat) c i = .ok (21, i + 1) := ju1 (jal h)
  have h2 : (Reader.u1 : Decoder Nat) c (i + 1) = .ok (a, i + 2) := ju1 (jar_ h)
  show Except.bind (Except.bind ((Reader.u1 : Decoder Nat) c i) _) _ = _
  rw [h1]
  show Except.bind (Except.bind ((Reader.u1 : Decoder Nat) c (i + 1)) _) _ = _
  rw [h2]
  show Except.ok (_, i + 2 - i) = _
  rw [Nat.add_sub_cancel_left]
theorem jo_22 {c : ByteArray} {i a : Nat} (h : jb2 c i 22 a = true) : decode c i = .ok (.lload a, 2) := by
  have h1 : (Reader.u1 : Decoder Nat) c i = .ok (22, i + 1) := ju1 (jal h)
  have h2 : (Reader.u1 : Decoder Nat) c (i + 1) = .ok (a, i + 2) := ju1 (jar_ h)
  show Except.bind (Except.bind ((Reader.u1 : Decoder Nat) c i) _) _ = _
  rw [h1]
  show Except.bind (Except.bind ((Reader.u1 : Decoder Nat) c (i + 1)) _) _ = _
  rw [h2]
  show Except.ok (_, i + 2 - i) = _
  rw [Nat.add_sub_cancel_left]
theorem jo_25 {c : ByteArray} {i a : Nat} (h : jb2 c i 25 a = true) : decode c i = .ok (.aload a, 2) := by
  have h1 : (Reader.u1 : Decoder Nat) c i = .ok (25, i + 1) := ju1 (jal h)
  have h2 : (Reader.u1 : Decoder Nat) c (i + 1) = .ok (a, i + 2) := ju1 (jar_ h)
  show Except.bind (Except.bind ((Reader.u1 : Decoder Nat) c i) _) _ = _
  rw [h1]
  show Except.bind (Except.bind ((Reader.u1 : Decoder Nat) c (i + 1)) _) _ = _
  rw [h2]
  show Except.ok (_, i + 2 - i) = _
  rw [Nat.add_sub_cancel_left]
theorem jo_26 {c : ByteArray} {i : Nat} (h : jb c i 26 = true) : decode c i = .ok (.iload_n 0, 1) := by
  have h1 : (Reader.u1 : Decoder Nat) c i = .ok (26, i + 1) := ju1 h
  show Except.bind (Except.bind ((Reader.u1 : Decoder Nat) c i) _) _ = _
  rw [h1]
  show Except.ok (_, i + 1 - i) = _
  rw [Nat.add_sub_cancel_left]
theorem jo_27 {c : ByteArray} {i : Nat} (h : jb c i 27 = true) : decode c i = .ok (.iload_n 1, 1) := by
  have h1 : (Reader.u1 : Decoder Nat) c i = .ok (27, i + 1) := ju1 h
  show Except.bind (Except.bind ((Reader.u1 : Decoder Nat) c i) _) _ = _
  rw [h1]
  show Except.ok (_, i + 1 - i) = _
  rw [Nat.add_sub_cancel_left]
theorem jo_28 {c : ByteArray} {i : Nat} (h : jb c i 28 = true) : decode c i = .ok (.iload_n 2, 1) := by
  have h1 : (Reader.u1 : Decoder Nat) c i = .ok (28, i + 1) := ju1 h
  show Except.bind (Except.bind ((Reader.u1 : Decoder Nat) c i) _) _ = _
  rw [h1]
  show Except.ok (_, i + 1 - i) = _
  rw [Nat.add_sub_cancel_left]
theorem jo_29 {c : ByteArray} {i : Nat} (h : jb c i 29 = true) : decode c i = .ok (.iload_n 3, 1) := by
  have h1 : (Reader.u1 : Decoder Nat) c i = .ok (29, i + 1) := ju1 h
  show Except.bind (Except.bind ((Reader.u1 : Decoder Nat) c i) _) _ = _
  rw [h1]
  show Except.ok (_, i + 1 - i) = _
  rw [Nat.add_sub_cancel_left]
theorem jo_30 {c : ByteArray} {i : Nat} (h : jb c i 30 = true) : decode c i = .ok (.lload_n 0, 1) := by
  have h1 : (Reader.u1 : Decoder Nat) c i = .ok (30, i + 1) := ju1 h
  show Except.bind (Except.bind ((Reader.u1 : Decoder Nat) c i) _) _ = _
  rw [h1]
  show Except.ok (_, i + 1 - i) = _
  rw [Nat.add_sub_cancel_left]
theorem jo_31 {c : ByteArray} {i : Nat} (h : jb c i 31 = true) : decode c i = .ok (.lload_n 1, 1) := by
  have h1 : (Reader.u1 : Decoder Nat) c i = .ok (31, i + 1) := ju1 h
  show Except.bind (Except.bind ((Reader.u1 : Decoder Nat) c i) _) _ = _
  rw [h1]
  show Except.ok (_, i + 1 - i) = _
  rw [Nat.add_sub_cancel_left]
theorem jo_33 {c : ByteArray} {i : Nat} (h : jb c i 33 = true) : decode c i = .ok (.lload_n 3, 1) := by
  have h1 : (Reader.u1 : Decoder Nat) c i = .ok (33, i + 1) := ju1 h
  show Except.bind (Except.bind ((Reader.u1 : Decoder Nat) c i) _) _ = _
  rw [h1]
  show Except.ok (_, i + 1 - i) = _
  rw [Nat.add_sub_cancel_left]
theorem jo_42 {c : ByteArray} {i : Nat} (h : jb c i 42 = true) : decode c i = .ok (.aload_n 0, 1) := by
  have h1 : (Reader.u1 : Decoder Nat) c i = .ok (42, i + 1) := ju1 h
  show Except.bind (Except.bind ((Reader.u1 : Decoder Nat) c i) _) _ = _
  rw [h1]
  show Except.ok (_, i + 1 - i) = _
  rw [Nat.add_sub_cancel_left]
theorem jo_43 {c : ByteArray} {i : Nat} (h : jb c i 43 = true) : decode c i = .ok (.aload_n 1, 1) := by
  have h1 : (Reader.u1 : Decoder Nat) c i = .ok (43, i + 1) := ju1 h
  show Except.bind (Except.bind ((Reader.u1 : Decoder Nat) c i) _) _ = _
  rw [h1]
  show Except.ok (_, i + 1 - i) = _
  rw [Nat.add_sub_cancel_left]
theorem jo_44 {c : ByteArray} {i : Nat} (h : jb c i 44 = true) : decode c i = .ok (.aload_n 2, 1) := by
  have h1 : (Reader.u1 : Decoder Nat) c i = .ok (44, i + 1) := ju1 h
  show Except.bind (Except.bind ((Reader.u1 : Decoder Nat) c i) _) _ = _
  rw [h1]
  show Except.ok (_, i + 1 - i) = _
  rw [Nat.add_sub_cancel_left]
theorem jo_45 {c : ByteArray} {i : Nat} (h : jb c i 45 = true) : decode c i = .ok (.aload_n 3, 1) := by
  have h1 : (Reader.u1 : Decoder Nat) c i = .ok (45, i + 1) := ju1 h
  show Except.bind (Except.bind ((Reader.u1 : Decoder Nat) c i) _) _ = _
  rw [h1]
  show Except.ok (_, i + 1 - i) = _
  rw [Nat.add_sub_cancel_left]
theorem jo_46 {c : ByteArray} {i : Nat} (h : jb c i 46 = true) : decode c i = .ok (.iaload, 1) := by
  have h1 : (Reader.u1 : Decoder Nat) c i = .ok (46, i + 1) := ju1 h
  show Except.bind (Except.bind ((Reader.u1 : Decoder Nat) c i) _) _ = _
  rw [h1]
  show Except.ok (_, i + 1 - i) = _
  rw [Nat.add_sub_cancel_left]
theorem jo_47 {c : ByteArray} {i : Nat} (h : jb c i 47 = true) : decode c i = .ok (.laload, 1) := by
  have h1 : (Reader.u1 : Decoder Nat) c i = .ok (47, i + 1) := ju1 h
  show Except.bind (Except.bind ((Reader.u1 : Decoder Nat) c i) _) _ = _
  rw [h1]
  show Except.ok (_, i + 1 - i) = _
  rw [Nat.add_sub_cancel_left]
theorem jo_50 {c : ByteArray} {i : Nat} (h : jb c i 50 = true) : decode c i = .ok (.aaload, 1) := by
  have h1 : (Reader.u1 : Decoder Nat) c i = .ok (50, i + 1) := ju1 h
  show Except.bind (Except.bind ((Reader.u1 : Decoder Nat) c i) _) _ = _
  rw [h1]
  show Except.ok (_, i + 1 - i) = _
  rw [Nat.add_sub_cancel_left]
theorem jo_51 {c : ByteArray} {i : Nat} (h : jb c i 51 = true) : decode c i = .ok (.baload, 1) := by
  have h1 : (Reader.u1 : Decoder Nat) c i = .ok (51, i + 1) := ju1 h
  show Except.bind (Except.bind ((Reader.u1 : Decoder Nat) c i) _) _ = _
  rw [h1]
  show Except.ok (_, i + 1 - i) = _
  rw [Nat.add_sub_cancel_left]
theorem jo_54 {c : ByteArray} {i a : Nat} (h : jb2 c i 54 a = true) : decode c i = .ok (.istore a, 2) := by
  have h1 : (Reader.u1 : Decoder Nat) c i = .ok (54, i + 1) := ju1 (jal h)
  have h2 : (Reader.u1 : Decoder Nat) c (i + 1) = .ok (a, i + 2) := ju1 (jar_ h)
  show Except.bind (Except.bind ((Reader.u1 : Decoder Nat) c i) _) _ = _
  rw [h1]
  show Except.bind (Except.bind ((Reader.u1 : Decoder Nat) c (i + 1)) _) _ = _
  rw [h2]
  show Except.ok (_, i + 2 - i) = _
  rw [Nat.add_sub_cancel_left]
theorem jo_55 {c : ByteArray} {i a : Nat} (h : jb2 c i 55 a = true) : decode c i = .ok (.lstore a, 2) := by
  have h1 : (Reader.u1 : Decoder Nat) c i = .ok (55, i + 1) := ju1 (jal h)
  have h2 : (Reader.u1 : Decoder Nat) c (i + 1) = .ok (a, i + 2) := ju1 (jar_ h)
  show Except.bind (Except.bind ((Reader.u1 : Decoder Nat) c i) _) _ = _
  rw [h1]
  show Except.bind (Except.bind ((Reader.u1 : Decoder Nat) c (i + 1)) _) _ = _
  rw [h2]
  show Except.ok (_, i + 2 - i) = _
  rw [Nat.add_sub_cancel_left]
theorem jo_58 {c : ByteArray} {i a : Nat} (h : jb2 c i 58 a = true) : decode c i = .ok (.astore a, 2) := by
  have h1 : (Reader.u1 : Decoder Nat) c i = .ok (58, i + 1) := ju1 (jal h)
  have h2 : (Reader.u1 : Decoder Nat) c (i + 1) = .ok (a, i + 2) := ju1 (jar_ h)
  show Except.bind (Except.bind ((Reader.u1 : Decoder Nat) c i) _) _ = _
  rw [h1]
  show Except.bind (Except.bind ((Reader.u1 : Decoder Nat) c (i + 1)) _) _ = _
  rw [h2]
  show Except.ok (_, i + 2 - i) = _
  rw [Nat.add_sub_cancel_left]
theorem jo_60 {c : ByteArray} {i : Nat} (h : jb c i 60 = true) : decode c i = .ok (.istore_n 1, 1) := by
  have h1 : (Reader.u1 : Decoder Nat) c i = .ok (60, i + 1) := ju1 h
  show Except.bind (Except.bind ((Reader.u1 : Decoder Nat) c i) _) _ = _
  rw [h1]
  show Except.ok (_, i + 1 - i) = _
  rw [Nat.add_sub_cancel_left]
theorem jo_61 {c : ByteArray} {i : Nat} (h : jb c i 61 = true) : decode c i = .ok (.istore_n 2, 1) := by
  have h1 : (Reader.u1 : Decoder Nat) c i = .ok (61, i + 1) := ju1 h
  show Except.bind (Except.bind ((Reader.u1 : Decoder Nat) c i) _) _ = _
  rw [h1]
  show Except.ok (_, i + 1 - i) = _
  rw [Nat.add_sub_cancel_left]
theorem jo_62 {c : ByteArray} {i : Nat} (h : jb c i 62 = true) : decode c i = .ok (.istore_n 3, 1) := by
  have h1 : (Reader.u1 : Decoder Nat) c i = .ok (62, i + 1) := ju1 h
  show Except.bind (Except.bind ((Reader.u1 : Decoder Nat) c i) _) _ = _
  rw [h1]
  show Except.ok (_, i + 1 - i) = _
  rw [Nat.add_sub_cancel_left]
theorem jo_63 {c : ByteArray} {i : Nat} (h : jb c i 63 = true) : decode c i = .ok (.lstore_n 0, 1) := by
  have h1 : (Reader.u1 : Decoder Nat) c i = .ok (63, i + 1) := ju1 h
  show Except.bind (Except.bind ((Reader.u1 : Decoder Nat) c i) _) _ = _
  rw [h1]
  show Except.ok (_, i + 1 - i) = _
  rw [Nat.add_sub_cancel_left]
theorem jo_64 {c : ByteArray} {i : Nat} (h : jb c i 64 = true) : decode c i = .ok (.lstore_n 1, 1) := by
  have h1 : (Reader.u1 : Decoder Nat) c i = .ok (64, i + 1) := ju1 h
  show Except.bind (Except.bind ((Reader.u1 : Decoder Nat) c i) _) _ = _
  rw [h1]
  show Except.ok (_, i + 1 - i) = _
  rw [Nat.add_sub_cancel_left]
theorem jo_66 {c : ByteArray} {i : Nat} (h : jb c i 66 = true) : decode c i = .ok (.lstore_n 3, 1) := by
  have h1 : (Reader.u1 : Decoder Nat) c i = .ok (66, i + 1) := ju1 h
  show Except.bind (Except.bind ((Reader.u1 : Decoder Nat) c i) _) _ = _
  rw [h1]
  show Except.ok (_, i + 1 - i) = _
  rw [Nat.add_sub_cancel_left]
theorem jo_76 {c : ByteArray} {i : Nat} (h : jb c i 76 = true) : decode c i = .ok (.astore_n 1, 1) := by
  have h1 : (Reader.u1 : Decoder Nat) c i = .ok (76, i + 1) := ju1 h
  show Except.bind (Except.bind ((Reader.u1 : Decoder Nat) c i) _) _ = _
  rw [h1]
  show Except.ok (_, i + 1 - i) = _
  rw [Nat.add_sub_cancel_left]
theorem jo_77 {c : ByteArray} {i : Nat} (h : jb c i 77 = true) : decode c i = .ok (.astore_n 2, 1) := by
  have h1 : (Reader.u1 : Decoder Nat) c i = .ok (77, i + 1) := ju1 h
  show Except.bind (Except.bind ((Reader.u1 : Decoder Nat) c i) _) _ = _
  rw [h1]
  show Except.ok (_, i + 1 - i) = _
  rw [Nat.add_sub_cancel_left]
theorem jo_78 {c : ByteArray} {i : Nat} (h : jb c i 78 = true) : decode c i = .ok (.astore_n 3, 1) := by
  have h1 : (Reader.u1 : Decoder Nat) c i = .ok (78, i + 1) := ju1 h
  show Except.bind (Except.bind ((Reader.u1 : Decoder Nat) c i) _) _ = _
  rw [h1]
  show Except.ok (_, i + 1 - i) = _
  rw [Nat.add_sub_cancel_left]
theorem jo_79 {c : ByteArray} {i : Nat} (h : jb c i 79 = true) : decode c i = .ok (.iastore, 1) := by
  have h1 : (Reader.u1 : Decoder Nat) c i = .ok (79, i + 1) := ju1 h
  show Except.bind (Except.bind ((Reader.u1 : Decoder Nat) c i) _) _ = _
  rw [h1]
  show Except.ok (_, i + 1 - i) = _
  rw [Nat.add_sub_cancel_left]
theorem jo_80 {c : ByteArray} {i : Nat} (h : jb c i 80 = true) : decode c i = .ok (.lastore, 1) := by
  have h1 : (Reader.u1 : Decoder Nat) c i = .ok (80, i + 1) := ju1 h
  show Except.bind (Except.bind ((Reader.u1 : Decoder Nat) c i) _) _ = _
  rw [h1]
  show Except.ok (_, i + 1 - i) = _
  rw [Nat.add_sub_cancel_left]
theorem jo_83 {c : ByteArray} {i : Nat} (h : jb c i 83 = true) : decode c i = .ok (.aastore, 1) := by
  have h1 : (Reader.u1 : Decoder Nat) c i = .ok (83, i + 1) := ju1 h
  show Except.bind (Except.bind ((Reader.u1 : Decoder Nat) c i) _) _ = _
  rw [h1]
  show Except.ok (_, i + 1 - i) = _
  rw [Nat.add_sub_cancel_left]
theorem jo_84 {c : ByteArray} {i : Nat} (h : jb c i 84 = true) : decode c i = .ok (.bastore, 1) := by
  have h1 : (Reader.u1 : Decoder Nat) c i = .ok (84, i + 1) := ju1 h
  show Except.bind (Except.bind ((Reader.u1 : Decoder Nat) c i) _) _ = _
  rw [h1]
  show Except.ok (_, i + 1 - i) = _
  rw [Nat.add_sub_cancel_left]
theorem jo_87 {c : ByteArray} {i : Nat} (h : jb c i 87 = true) : decode c i = .ok (.pop, 1) := by
  have h1 : (Reader.u1 : Decoder Nat) c i = .ok (87, i + 1) := ju1 h
  show Except.bind (Except.bind ((Reader.u1 : Decoder Nat) c i) _) _ = _
  rw [h1]
  show Except.ok (_, i + 1 - i) = _
  rw [Nat.add_sub_cancel_left]
theorem jo_88 {c : ByteArray} {i : Nat} (h : jb c i 88 = true) : decode c i = .ok (.pop2, 1) := by
  have h1 : (Reader.u1 : Decoder Nat) c i = .ok (88, i + 1) := ju1 h
  show Except.bind (Except.bind ((Reader.u1 : Decoder Nat) c i) _) _ = _
  rw [h1]
  show Except.ok (_, i + 1 - i) = _
  rw [Nat.add_sub_cancel_left]
theorem jo_89 {c : ByteArray} {i : Nat} (h : jb c i 89 = true) : decode c i = .ok (.dup, 1) := by
  have h1 : (Reader.u1 : Decoder Nat) c i = .ok (89, i + 1) := ju1 h
  show Except.bind (Except.bind ((Reader.u1 : Decoder Nat) c i) _) _ = _
  rw [h1]
  show Except.ok (_, i + 1 - i) = _
  rw [Nat.add_sub_cancel_left]
theorem jo_92 {c : ByteArray} {i : Nat} (h : jb c i 92 = true) : decode c i = .ok (.dup2, 1) := by
  have h1 : (Reader.u1 : Decoder Nat) c i = .ok (92, i + 1) := ju1 h
  show Except.bind (Except.bind ((Reader.u1 : Decoder Nat) c i) _) _ = _
  rw [h1]
  show Except.ok (_, i + 1 - i) = _
  rw [Nat.add_sub_cancel_left]
theorem jo_96 {c : ByteArray} {i : Nat} (h : jb c i 96 = true) : decode c i = .ok (.iadd, 1) := by
  have h1 : (Reader.u1 : Decoder Nat) c i = .ok (96, i + 1) := ju1 h
  show Except.bind (Except.bind ((Reader.u1 : Decoder Nat) c i) _) _ = _
  rw [h1]
  show Except.ok (_, i + 1 - i) = _
  rw [Nat.add_sub_cancel_left]
theorem jo_97 {c : ByteArray} {i : Nat} (h : jb c i 97 = true) : decode c i = .ok (.ladd, 1) := by
  have h1 : (Reader.u1 : Decoder Nat) c i = .ok (97, i + 1) := ju1 h
  show Except.bind (Except.bind ((Reader.u1 : Decoder Nat) c i) _) _ = _
  rw [h1]
  show Except.ok (_, i + 1 - i) = _
  rw [Nat.add_sub_cancel_left]
theorem jo_100 {c : ByteArray} {i : Nat} (h : jb c i 100 = true) : decode c i = .ok (.isub, 1) := by
  have h1 : (Reader.u1 : Decoder Nat) c i = .ok (100, i + 1) := ju1 h
  show Except.bind (Except.bind ((Reader.u1 : Decoder Nat) c i) _) _ = _
  rw [h1]
  show Except.ok (_, i + 1 - i) = _
  rw [Nat.add_sub_cancel_left]
theorem jo_101 {c : ByteArray} {i : Nat} (h : jb c i 101 = true) : decode c i = .ok (.lsub, 1) := by
  have h1 : (Reader.u1 : Decoder Nat) c i = .ok (101, i + 1) := ju1 h
  show Except.bind (Except.bind ((Reader.u1 : Decoder Nat) c i) _) _ = _
  rw [h1]
  show Except.ok (_, i + 1 - i) = _
  rw [Nat.add_sub_cancel_left]
theorem jo_104 {c : ByteArray} {i : Nat} (h : jb c i 104 = true) : decode c i = .ok (.imul, 1) := by
  have h1 : (Reader.u1 : Decoder Nat) c i = .ok (104, i + 1) := ju1 h
  show Except.bind (Except.bind ((Reader.u1 : Decoder Nat) c i) _) _ = _
  rw [h1]
  show Except.ok (_, i + 1 - i) = _
  rw [Nat.add_sub_cancel_left]
theorem jo_105 {c : ByteArray} {i : Nat} (h : jb c i 105 = true) : decode c i = .ok (.lmul, 1) := by
  have h1 : (Reader.u1 : Decoder Nat) c i = .ok (105, i + 1) := ju1 h
  show Except.bind (Except.bind ((Reader.u1 : Decoder Nat) c i) _) _ = _
  rw [h1]
  show Except.ok (_, i + 1 - i) = _
  rw [Nat.add_sub_cancel_left]
theorem jo_108 {c : ByteArray} {i : Nat} (h : jb c i 108 = true) : decode c i = .ok (.idiv, 1) := by
  have h1 : (Reader.u1 : Decoder Nat) c i = .ok (108, i + 1) := ju1 h
  show Except.bind (Except.bind ((Reader.u1 : Decoder Nat) c i) _) _ = _
  rw [h1]
  show Except.ok (_, i + 1 - i) = _
  rw [Nat.add_sub_cancel_left]
theorem jo_112 {c : ByteArray} {i : Nat} (h : jb c i 112 = true) : decode c i = .ok (.irem, 1) := by
  have h1 : (Reader.u1 : Decoder Nat) c i = .ok (112, i + 1) := ju1 h
  show Except.bind (Except.bind ((Reader.u1 : Decoder Nat) c i) _) _ = _
  rw [h1]
  show Except.ok (_, i + 1 - i) = _
  rw [Nat.add_sub_cancel_left]
theorem jo_116 {c : ByteArray} {i : Nat} (h : jb c i 116 = true) : decode c i = .ok (.ineg, 1) := by
  have h1 : (Reader.u1 : Decoder Nat) c i = .ok (116, i + 1) := ju1 h
  show Except.bind (Except.bind ((Reader.u1 : Decoder Nat) c i) _) _ = _
  rw [h1]
  show Except.ok (_, i + 1 - i) = _
  rw [Nat.add_sub_cancel_left]
theorem jo_121 {c : ByteArray} {i : Nat} (h : jb c i 121 = true) : decode c i = .ok (.lshl, 1) := by
  have h1 : (Reader.u1 : Decoder Nat) c i = .ok (121, i + 1) := ju1 h
  show Except.bind (Except.bind ((Reader.u1 : Decoder Nat) c i) _) _ = _
  rw [h1]
  show Except.ok (_, i + 1 - i) = _
  rw [Nat.add_sub_cancel_left]
theorem jo_122 {c : ByteArray} {i : Nat} (h : jb c i 122 = true) : decode c i = .ok (.ishr, 1) := by
  have h1 : (Reader.u1 : Decoder Nat) c i = .ok (122, i + 1) := ju1 h
  show Except.bind (Except.bind ((Reader.u1 : Decoder Nat) c i) _) _ = _
  rw [h1]
  show Except.ok (_, i + 1 - i) = _
  rw [Nat.add_sub_cancel_left]
theorem jo_125 {c : ByteArray} {i : Nat} (h : jb c i 125 = true) : decode c i = .ok (.lushr, 1) := by
  have h1 : (Reader.u1 : Decoder Nat) c i = .ok (125, i + 1) := ju1 h
  show Except.bind (Except.bind ((Reader.u1 : Decoder Nat) c i) _) _ = _
  rw [h1]
  show Except.ok (_, i + 1 - i) = _
  rw [Nat.add_sub_cancel_left]
theorem jo_126 {c : ByteArray} {i : Nat} (h : jb c i 126 = true) : decode c i = .ok (.iand, 1) := by
  have h1 : (Reader.u1 : Decoder Nat) c i = .ok (126, i + 1) := ju1 h
  show Except.bind (Except.bind ((Reader.u1 : Decoder Nat) c i) _) _ = _
  rw [h1]
  show Except.ok (_, i + 1 - i) = _
  rw [Nat.add_sub_cancel_left]
theorem jo_127 {c : ByteArray} {i : Nat} (h : jb c i 127 = true) : decode c i = .ok (.land, 1) := by
  have h1 : (Reader.u1 : Decoder Nat) c i = .ok (127, i + 1) := ju1 h
  show Except.bind (Except.bind ((Reader.u1 : Decoder Nat) c i) _) _ = _
  rw [h1]
  show Except.ok (_, i + 1 - i) = _
  rw [Nat.add_sub_cancel_left]
theorem jo_129 {c : ByteArray} {i : Nat} (h : jb c i 129 = true) : decode c i = .ok (.lor, 1) := by
  have h1 : (Reader.u1 : Decoder Nat) c i = .ok (129, i + 1) := ju1 h
  show Except.bind (Except.bind ((Reader.u1 : Decoder Nat) c i) _) _ = _
  rw [h1]
  show Except.ok (_, i + 1 - i) = _
  rw [Nat.add_sub_cancel_left]
theorem jo_131 {c : ByteArray} {i : Nat} (h : jb c i 131 = true) : decode c i = .ok (.lxor, 1) := by
  have h1 : (Reader.u1 : Decoder Nat) c i = .ok (131, i + 1) := ju1 h
  show Except.bind (Except.bind ((Reader.u1 : Decoder Nat) c i) _) _ = _
  rw [h1]
  show Except.ok (_, i + 1 - i) = _
  rw [Nat.add_sub_cancel_left]
theorem jo_132 {c : ByteArray} {i a b : Nat} {d : Int} (h : jb3 c i 132 a b = true) (hd : Reader.signed 8 b = d) : decode c i = .ok (.iinc a d, 3) := by
  subst hd
  have h1 : (Reader.u1 : Decoder Nat) c i = .ok (132, i + 1) := ju1 (jal h)
  have h2 : (Reader.u1 : Decoder Nat) c (i + 1) = .ok (a, i + 2) := ju1 (jal (jar_ h))
  have h3 : (Reader.s1 : Decoder Int) c (i + 2) = .ok (Reader.signed 8 b, i + 3) := js1 (jar_ (jar_ h))
  show Except.bind (Except.bind ((Reader.u1 : Decoder Nat) c i) _) _ = _
  rw [h1]
  show Except.bind (Except.bind ((Reader.u1 : Decoder Nat) c (i + 1)) _) _ = _
  rw [h2]
  show Except.bind (Except.bind ((Reader.s1 : Decoder Int) c (i + 2)) _) _ = _
  rw [h3]
  show Except.ok (_, i + 3 - i) = _
  rw [Nat.add_sub_cancel_left]
theorem jo_133 {c : ByteArray} {i : Nat} (h : jb c i 133 = true) : decode c i = .ok (.i2l, 1) := by
  have h1 : (Reader.u1 : Decoder Nat) c i = .ok (133, i + 1) := ju1 h
  show Except.bind (Except.bind ((Reader.u1 : Decoder Nat) c i) _) _ = _
  rw [h1]
  show Except.ok (_, i + 1 - i) = _
  rw [Nat.add_sub_cancel_left]
theorem jo_136 {c : ByteArray} {i : Nat} (h : jb c i 136 = true) : decode c i = .ok (.l2i, 1) := by
  have h1 : (Reader.u1 : Decoder Nat) c i = .ok (136, i + 1) := ju1 h
  show Except.bind (Except.bind ((Reader.u1 : Decoder Nat) c i) _) _ = _
  rw [h1]
  show Except.ok (_, i + 1 - i) = _
  rw [Nat.add_sub_cancel_left]
theorem jo_148 {c : ByteArray} {i : Nat} (h : jb c i 148 = true) : decode c i = .ok (.lcmp, 1) := by
  have h1 : (Reader.u1 : Decoder Nat) c i = .ok (148, i + 1) := ju1 h
  show Except.bind (Except.bind ((Reader.u1 : Decoder Nat) c i) _) _ = _
  rw [h1]
  show Except.ok (_, i + 1 - i) = _
  rw [Nat.add_sub_cancel_left]
theorem jo_153 {c : ByteArray} {i a b : Nat} {d : Int} (h : jb3 c i 153 a b = true) (hd : Reader.signed 16 (a * 256 + b) = d) : decode c i = .ok (.ifCond .eq d, 3) := by
  subst hd
  have h1 : (Reader.u1 : Decoder Nat) c i = .ok (153, i + 1) := ju1 (jal h)
  have h2 : (Reader.s2 : Decoder Int) c (i + 1) = .ok (Reader.signed 16 (a * 256 + b), i + 3) := js2 (jal (jar_ h)) (jar_ (jar_ h))
  show Except.bind (Except.bind ((Reader.u1 : Decoder Nat) c i) _) _ = _
  rw [h1]
  show Except.bind (Except.bind ((Reader.s2 : Decoder Int) c (i + 1)) _) _ = _
  rw [h2]
  show Except.ok (_, i + 3 - i) = _
  rw [Nat.add_sub_cancel_left]
theorem jo_154 {c : ByteArray} {i a b : Nat} {d : Int} (h : jb3 c i 154 a b = true) (hd : Reader.signed 16 (a * 256 + b) = d) : decode c i = .ok (.ifCond .ne d, 3) := by
  subst hd
  have h1 : (Reader.u1 : Decoder Nat) c i = .ok (154, i + 1) := ju1 (jal h)
  have h2 : (Reader.s2 : Decoder Int) c (i + 1) = .ok (Reader.signed 16 (a * 256 + b), i + 3) := js2 (jal (jar_ h)) (jar_ (jar_ h))
  show Except.bind (Except.bind ((Reader.u1 : Decoder Nat) c i) _) _ = _
  rw [h1]
  show Except.bind (Except.bind ((Reader.s2 : Decoder Int) c (i + 1)) _) _ = _
  rw [h2]
  show Except.ok (_, i + 3 - i) = _
  rw [Nat.add_sub_cancel_left]
theorem jo_155 {c : ByteArray} {i a b : Nat} {d : Int} (h : jb3 c i 155 a b = true) (hd : Reader.signed 16 (a * 256 + b) = d) : decode c i = .ok (.ifCond .lt d, 3) := by
  subst hd
  have h1 : (Reader.u1 : Decoder Nat) c i = .ok (155, i + 1) := ju1 (jal h)
  have h2 : (Reader.s2 : Decoder Int) c (i + 1) = .ok (Reader.signed 16 (a * 256 + b), i + 3) := js2 (jal (jar_ h)) (jar_ (jar_ h))
  show Except.bind (Except.bind ((Reader.u1 : Decoder Nat) c i) _) _ = _
  rw [h1]
  show Except.bind (Except.bind ((Reader.s2 : Decoder Int) c (i + 1)) _) _ = _
  rw [h2]
  show Except.ok (_, i + 3 - i) = _
  rw [Nat.add_sub_cancel_left]
theorem jo_156 {c : ByteArray} {i a b : Nat} {d : Int} (h : jb3 c i 156 a b = true) (hd : Reader.signed 16 (a * 256 + b) = d) : decode c i = .ok (.ifCond .ge d, 3) := by
  subst hd
  have h1 : (Reader.u1 : Decoder Nat) c i = .ok (156, i + 1) := ju1 (jal h)
  have h2 : (Reader.s2 : Decoder Int) c (i + 1) = .ok (Reader.signed 16 (a * 256 + b), i + 3) := js2 (jal (jar_ h)) (jar_ (jar_ h))
  show Except.bind (Except.bind ((Reader.u1 : Decoder Nat) c i) _) _ = _
  rw [h1]
  show Except.bind (Except.bind ((Reader.s2 : Decoder Int) c (i + 1)) _) _ = _
  rw [h2]
  show Except.ok (_, i + 3 - i) = _
  rw [Nat.add_sub_cancel_left]
theorem jo_157 {c : ByteArray} {i a b : Nat} {d : Int} (h : jb3 c i 157 a b = true) (hd : Reader.signed 16 (a * 256 + b) = d) : decode c i = .ok (.ifCond .gt d, 3) := by
  subst hd
  have h1 : (Reader.u1 : Decoder Nat) c i = .ok (157, i + 1) := ju1 (jal h)
  have h2 : (Reader.s2 : Decoder Int) c (i + 1) = .ok (Reader.signed 16 (a * 256 + b), i + 3) := js2 (jal (jar_ h)) (jar_ (jar_ h))
  show Except.bind (Except.bind ((Reader.u1 : Decoder Nat) c i) _) _ = _
  rw [h1]
  show Except.bind (Except.bind ((Reader.s2 : Decoder Int) c (i + 1)) _) _ = _
  rw [h2]
  show Except.ok (_, i + 3 - i) = _
  rw [Nat.add_sub_cancel_left]
theorem jo_158 {c : ByteArray} {i a b : Nat} {d : Int} (h : jb3 c i 158 a b = true) (hd : Reader.signed 16 (a * 256 + b) = d) : decode c i = .ok (.ifCond .le d, 3) := by
  subst hd
  have h1 : (Reader.u1 : Decoder Nat) c i = .ok (158, i + 1) := ju1 (jal h)
  have h2 : (Reader.s2 : Decoder Int) c (i + 1) = .ok (Reader.signed 16 (a * 256 + b), i + 3) := js2 (jal (jar_ h)) (jar_ (jar_ h))
  show Except.bind (Except.bind ((Reader.u1 : Decoder Nat) c i) _) _ = _
  rw [h1]
  show Except.bind (Except.bind ((Reader.s2 : Decoder Int) c (i + 1)) _) _ = _
  rw [h2]
  show Except.ok (_, i + 3 - i) = _
  rw [Nat.add_sub_cancel_left]
theorem jo_159 {c : ByteArray} {i a b : Nat} {d : Int} (h : jb3 c i 159 a b = true) (hd : Reader.signed 16 (a * 256 + b) = d) : decode c i = .ok (.if_icmp .eq d, 3) := by
  subst hd
  have h1 : (Reader.u1 : Decoder Nat) c i = .ok (159, i + 1) := ju1 (jal h)
  have h2 : (Reader.s2 : Decoder Int) c (i + 1) = .ok (Reader.signed 16 (a * 256 + b), i + 3) := js2 (jal (jar_ h)) (jar_ (jar_ h))
  show Except.bind (Except.bind ((Reader.u1 : Decoder Nat) c i) _) _ = _
  rw [h1]
  show Except.bind (Except.bind ((Reader.s2 : Decoder Int) c (i + 1)) _) _ = _
  rw [h2]
  show Except.ok (_, i + 3 - i) = _
  rw [Nat.add_sub_cancel_left]
theorem jo_160 {c : ByteArray} {i a b : Nat} {d : Int} (h : jb3 c i 160 a b = true) (hd : Reader.signed 16 (a * 256 + b) = d) : decode c i = .ok (.if_icmp .ne d, 3) := by
  subst hd
  have h1 : (Reader.u1 : Decoder Nat) c i = .ok (160, i + 1) := ju1 (jal h)
  have h2 : (Reader.s2 : Decoder Int) c (i + 1) = .ok (Reader.signed 16 (a * 256 + b), i + 3) := js2 (jal (jar_ h)) (jar_ (jar_ h))
  show Except.bind (Except.bind ((Reader.u1 : Decoder Nat) c i) _) _ = _
  rw [h1]
  show Except.bind (Except.bind ((Reader.s2 : Decoder Int) c (i + 1)) _) _ = _
  rw [h2]
  show Except.ok (_, i + 3 - i) = _
  rw [Nat.add_sub_cancel_left]
theorem jo_161 {c : ByteArray} {i a b : Nat} {d : Int} (h : jb3 c i 161 a b = true) (hd : Reader.signed 16 (a * 256 + b) = d) : decode c i = .ok (.if_icmp .lt d, 3) := by
  subst hd
  have h1 : (Reader.u1 : Decoder Nat) c i = .ok (161, i + 1) := ju1 (jal h)
  have h2 : (Reader.s2 : Decoder Int) c (i + 1) = .ok (Reader.signed 16 (a * 256 + b), i + 3) := js2 (jal (jar_ h)) (jar_ (jar_ h))
  show Except.bind (Except.bind ((Reader.u1 : Decoder Nat) c i) _) _ = _
  rw [h1]
  show Except.bind (Except.bind ((Reader.s2 : Decoder Int) c (i + 1)) _) _ = _
  rw [h2]
  show Except.ok (_, i + 3 - i) = _
  rw [Nat.add_sub_cancel_left]
theorem jo_162 {c : ByteArray} {i a b : Nat} {d : Int} (h : jb3 c i 162 a b = true) (hd : Reader.signed 16 (a * 256 + b) = d) : decode c i = .ok (.if_icmp .ge d, 3) := by
  subst hd
  have h1 : (Reader.u1 : Decoder Nat) c i = .ok (162, i + 1) := ju1 (jal h)
  have h2 : (Reader.s2 : Decoder Int) c (i + 1) = .ok (Reader.signed 16 (a * 256 + b), i + 3) := js2 (jal (jar_ h)) (jar_ (jar_ h))
  show Except.bind (Except.bind ((Reader.u1 : Decoder Nat) c i) _) _ = _
  rw [h1]
  show Except.bind (Except.bind ((Reader.s2 : Decoder Int) c (i + 1)) _) _ = _
  rw [h2]
  show Except.ok (_, i + 3 - i) = _
  rw [Nat.add_sub_cancel_left]
theorem jo_163 {c : ByteArray} {i a b : Nat} {d : Int} (h : jb3 c i 163 a b = true) (hd : Reader.signed 16 (a * 256 + b) = d) : decode c i = .ok (.if_icmp .gt d, 3) := by
  subst hd
  have h1 : (Reader.u1 : Decoder Nat) c i = .ok (163, i + 1) := ju1 (jal h)
  have h2 : (Reader.s2 : Decoder Int) c (i + 1) = .ok (Reader.signed 16 (a * 256 + b), i + 3) := js2 (jal (jar_ h)) (jar_ (jar_ h))
  show Except.bind (Except.bind ((Reader.u1 : Decoder Nat) c i) _) _ = _
  rw [h1]
  show Except.bind (Except.bind ((Reader.s2 : Decoder Int) c (i + 1)) _) _ = _
  rw [h2]
  show Except.ok (_, i + 3 - i) = _
  rw [Nat.add_sub_cancel_left]
theorem jo_164 {c : ByteArray} {i a b : Nat} {d : Int} (h : jb3 c i 164 a b = true) (hd : Reader.signed 16 (a * 256 + b) = d) : decode c i = .ok (.if_icmp .le d, 3) := by
  subst hd
  have h1 : (Reader.u1 : Decoder Nat) c i = .ok (164, i + 1) := ju1 (jal h)
  have h2 : (Reader.s2 : Decoder Int) c (i + 1) = .ok (Reader.signed 16 (a * 256 + b), i + 3) := js2 (jal (jar_ h)) (jar_ (jar_ h))
  show Except.bind (Except.bind ((Reader.u1 : Decoder Nat) c i) _) _ = _
  rw [h1]
  show Except.bind (Except.bind ((Reader.s2 : Decoder Int) c (i + 1)) _) _ = _
  rw [h2]
  show Except.ok (_, i + 3 - i) = _
  rw [Nat.add_sub_cancel_left]
theorem jo_167 {c : ByteArray} {i a b : Nat} {d : Int} (h : jb3 c i 167 a b = true) (hd : Reader.signed 16 (a * 256 + b) = d) : decode c i = .ok (.goto d, 3) := by
  subst hd
  have h1 : (Reader.u1 : Decoder Nat) c i = .ok (167, i + 1) := ju1 (jal h)
  have h2 : (Reader.s2 : Decoder Int) c (i + 1) = .ok (Reader.signed 16 (a * 256 + b), i + 3) := js2 (jal (jar_ h)) (jar_ (jar_ h))
  show Except.bind (Except.bind ((Reader.u1 : Decoder Nat) c i) _) _ = _
  rw [h1]
  show Except.bind (Except.bind ((Reader.s2 : Decoder Int) c (i + 1)) _) _ = _
  rw [h2]
  show Except.ok (_, i + 3 - i) = _
  rw [Nat.add_sub_cancel_left]
theorem jo_172 {c : ByteArray} {i : Nat} (h : jb c i 172 = true) : decode c i = .ok (.ireturn, 1) := by
  have h1 : (Reader.u1 : Decoder Nat) c i = .ok (172, i + 1) := ju1 h
  show Except.bind (Except.bind ((Reader.u1 : Decoder Nat) c i) _) _ = _
  rw [h1]
  show Except.ok (_, i + 1 - i) = _
  rw [Nat.add_sub_cancel_left]
theorem jo_173 {c : ByteArray} {i : Nat} (h : jb c i 173 = true) : decode c i = .ok (.lreturn, 1) := by
  have h1 : (Reader.u1 : Decoder Nat) c i = .ok (173, i + 1) := ju1 h
  show Except.bind (Except.bind ((Reader.u1 : Decoder Nat) c i) _) _ = _
  rw [h1]
  show Except.ok (_, i + 1 - i) = _
  rw [Nat.add_sub_cancel_left]
theorem jo_176 {c : ByteArray} {i : Nat} (h : jb c i 176 = true) : decode c i = .ok (.areturn, 1) := by
  have h1 : (Reader.u1 : Decoder Nat) c i = .ok (176, i + 1) := ju1 h
  show Except.bind (Except.bind ((Reader.u1 : Decoder Nat) c i) _) _ = _
  rw [h1]
  show Except.ok (_, i + 1 - i) = _
  rw [Nat.add_sub_cancel_left]
theorem jo_177 {c : ByteArray} {i : Nat} (h : jb c i 177 = true) : decode c i = .ok (.return_, 1) := by
  have h1 : (Reader.u1 : Decoder Nat) c i = .ok (177, i + 1) := ju1 h
  show Except.bind (Except.bind ((Reader.u1 : Decoder Nat) c i) _) _ = _
  rw [h1]
  show Except.ok (_, i + 1 - i) = _
  rw [Nat.add_sub_cancel_left]
theorem jo_178 {c : ByteArray} {i a b n : Nat} (h : jb3 c i 178 a b = true) (hd : a * 256 + b = n) : decode c i = .ok (.getstatic n, 3) := by
  subst hd
  have h1 : (Reader.u1 : Decoder Nat) c i = .ok (178, i + 1) := ju1 (jal h)
  have h2 : (Reader.u2 : Decoder Nat) c (i + 1) = .ok (a * 256 + b, i + 3) := ju2 (jal (jar_ h)) (jar_ (jar_ h))
  show Except.bind (Except.bind ((Reader.u1 : Decoder Nat) c i) _) _ = _
  rw [h1]
  show Except.bind (Except.bind ((Reader.u2 : Decoder Nat) c (i + 1)) _) _ = _
  rw [h2]
  show Except.ok (_, i + 3 - i) = _
  rw [Nat.add_sub_cancel_left]
theorem jo_180 {c : ByteArray} {i a b n : Nat} (h : jb3 c i 180 a b = true) (hd : a * 256 + b = n) : decode c i = .ok (.getfield n, 3) := by
  subst hd
  have h1 : (Reader.u1 : Decoder Nat) c i = .ok (180, i + 1) := ju1 (jal h)
  have h2 : (Reader.u2 : Decoder Nat) c (i + 1) = .ok (a * 256 + b, i + 3) := ju2 (jal (jar_ h)) (jar_ (jar_ h))
  show Except.bind (Except.bind ((Reader.u1 : Decoder Nat) c i) _) _ = _
  rw [h1]
  show Except.bind (Except.bind ((Reader.u2 : Decoder Nat) c (i + 1)) _) _ = _
  rw [h2]
  show Except.ok (_, i + 3 - i) = _
  rw [Nat.add_sub_cancel_left]
theorem jo_181 {c : ByteArray} {i a b n : Nat} (h : jb3 c i 181 a b = true) (hd : a * 256 + b = n) : decode c i = .ok (.putfield n, 3) := by
  subst hd
  have h1 : (Reader.u1 : Decoder Nat) c i = .ok (181, i + 1) := ju1 (jal h)
  have h2 : (Reader.u2 : Decoder Nat) c (i + 1) = .ok (a * 256 + b, i + 3) := ju2 (jal (jar_ h)) (jar_ (jar_ h))
  show Except.bind (Except.bind ((Reader.u1 : Decoder Nat) c i) _) _ = _
  rw [h1]
  show Except.bind (Except.bind ((Reader.u2 : Decoder Nat) c (i + 1)) _) _ = _
  rw [h2]
  show Except.ok (_, i + 3 - i) = _
  rw [Nat.add_sub_cancel_left]
theorem jo_182 {c : ByteArray} {i a b n : Nat} (h : jb3 c i 182 a b = true) (hd : a * 256 + b = n) : decode c i = .ok (.invokevirtual n, 3) := by
  subst hd
  have h1 : (Reader.u1 : Decoder Nat) c i = .ok (182, i + 1) := ju1 (jal h)
  have h2 : (Reader.u2 : Decoder Nat) c (i + 1) = .ok (a * 256 + b, i + 3) := ju2 (jal (jar_ h)) (jar_ (jar_ h))
  show Except.bind (Except.bind ((Reader.u1 : Decoder Nat) c i) _) _ = _
  rw [h1]
  show Except.bind (Except.bind ((Reader.u2 : Decoder Nat) c (i + 1)) _) _ = _
  rw [h2]
  show Except.ok (_, i + 3 - i) = _
  rw [Nat.add_sub_cancel_left]
theorem jo_183 {c : ByteArray} {i a b n : Nat} (h : jb3 c i 183 a b = true) (hd : a * 256 + b = n) : decode c i = .ok (.invokespecial n, 3) := by
  subst hd
  have h1 : (Reader.u1 : Decoder Nat) c i = .ok (183, i + 1) := ju1 (jal h)
  have h2 : (Reader.u2 : Decoder Nat) c (i + 1) = .ok (a * 256 + b, i + 3) := ju2 (jal (jar_ h)) (jar_ (jar_ h))
  show Except.bind (Except.bind ((Reader.u1 : Decoder Nat) c i) _) _ = _
  rw [h1]
  show Except.bind (Except.bind ((Reader.u2 : Decoder Nat) c (i + 1)) _) _ = _
  rw [h2]
  show Except.ok (_, i + 3 - i) = _
  rw [Nat.add_sub_cancel_left]
theorem jo_184 {c : ByteArray} {i a b n : Nat} (h : jb3 c i 184 a b = true) (hd : a * 256 + b = n) : decode c i = .ok (.invokestatic n, 3) := by
  subst hd
  have h1 : (Reader.u1 : Decoder Nat) c i = .ok (184, i + 1) := ju1 (jal h)
  have h2 : (Reader.u2 : Decoder Nat) c (i + 1) = .ok (a * 256 + b, i + 3) := ju2 (jal (jar_ h)) (jar_ (jar_ h))
  show Except.bind (Except.bind ((Reader.u1 : Decoder Nat) c i) _) _ = _
  rw [h1]
  show Except.bind (Except.bind ((Reader.u2 : Decoder Nat) c (i + 1)) _) _ = _
  rw [h2]
  show Except.ok (_, i + 3 - i) = _
  rw [Nat.add_sub_cancel_left]
theorem jo_187 {c : ByteArray} {i a b n : Nat} (h : jb3 c i 187 a b = true) (hd : a * 256 + b = n) : decode c i = .ok (.new n, 3) := by
  subst hd
  have h1 : (Reader.u1 : Decoder Nat) c i = .ok (187, i + 1) := ju1 (jal h)
  have h2 : (Reader.u2 : Decoder Nat) c (i + 1) = .ok (a * 256 + b, i + 3) := ju2 (jal (jar_ h)) (jar_ (jar_ h))
  show Except.bind (Except.bind ((Reader.u1 : Decoder Nat) c i) _) _ = _
  rw [h1]
  show Except.bind (Except.bind ((Reader.u2 : Decoder Nat) c (i + 1)) _) _ = _
  rw [h2]
  show Except.ok (_, i + 3 - i) = _
  rw [Nat.add_sub_cancel_left]
theorem jo_189 {c : ByteArray} {i a b n : Nat} (h : jb3 c i 189 a b = true) (hd : a * 256 + b = n) : decode c i = .ok (.anewarray n, 3) := by
  subst hd
  have h1 : (Reader.u1 : Decoder Nat) c i = .ok (189, i + 1) := ju1 (jal h)
  have h2 : (Reader.u2 : Decoder Nat) c (i + 1) = .ok (a * 256 + b, i + 3) := ju2 (jal (jar_ h)) (jar_ (jar_ h))
  show Except.bind (Except.bind ((Reader.u1 : Decoder Nat) c i) _) _ = _
  rw [h1]
  show Except.bind (Except.bind ((Reader.u2 : Decoder Nat) c (i + 1)) _) _ = _
  rw [h2]
  show Except.ok (_, i + 3 - i) = _
  rw [Nat.add_sub_cancel_left]
theorem jo_190 {c : ByteArray} {i : Nat} (h : jb c i 190 = true) : decode c i = .ok (.arraylength, 1) := by
  have h1 : (Reader.u1 : Decoder Nat) c i = .ok (190, i + 1) := ju1 h
  show Except.bind (Except.bind ((Reader.u1 : Decoder Nat) c i) _) _ = _
  rw [h1]
  show Except.ok (_, i + 1 - i) = _
  rw [Nat.add_sub_cancel_left]
theorem jo_198 {c : ByteArray} {i a b : Nat} {d : Int} (h : jb3 c i 198 a b = true) (hd : Reader.signed 16 (a * 256 + b) = d) : decode c i = .ok (.ifnull d, 3) := by
  subst hd
  have h1 : (Reader.u1 : Decoder Nat) c i = .ok (198, i + 1) := ju1 (jal h)
  have h2 : (Reader.s2 : Decoder Int) c (i + 1) = .ok (Reader.signed 16 (a * 256 + b), i + 3) := js2 (jal (jar_ h)) (jar_ (jar_ h))
  show Except.bind (Except.bind ((Reader.u1 : Decoder Nat) c i) _) _ = _
  rw [h1]
  show Except.bind (Except.bind ((Reader.s2 : Decoder Int) c (i + 1)) _) _ = _
  rw [h2]
  show Except.ok (_, i + 3 - i) = _
  rw [Nat.add_sub_cancel_left]
theorem jo_199 {c : ByteArray} {i a b : Nat} {d : Int} (h : jb3 c i 199 a b = true) (hd : Reader.signed 16 (a * 256 + b) = d) : decode c i = .ok (.ifnonnull d, 3) := by
  subst hd
  have h1 : (Reader.u1 : Decoder Nat) c i = .ok (199, i + 1) := ju1 (jal h)
  have h2 : (Reader.s2 : Decoder Int) c (i + 1) = .ok (Reader.signed 16 (a * 256 + b), i + 3) := js2 (jal (jar_ h)) (jar_ (jar_ h))
  show Except.bind (Except.bind ((Reader.u1 : Decoder Nat) c i) _) _ = _
  rw [h1]
  show Except.bind (Except.bind ((Reader.s2 : Decoder Int) c (i + 1)) _) _ = _
  rw [h2]
  show Except.ok (_, i + 3 - i) = _
  rw [Nat.add_sub_cancel_left]
theorem dX0_turns_1 : decode cX0_turns 1 = .ok (.tableswitch 40 0 3 #[31, 34, 40, 37], 31) := by decide +kernel
theorem dX2_init_7 : decode cX2_init 7 = .ok (.newarray .int, 2) := by decide +kernel
theorem dX3_init_33 : decode cX3_init 33 = .ok (.newarray .int, 2) := by decide +kernel
theorem dX3_init_45 : decode cX3_init 45 = .ok (.newarray .int, 2) := by decide +kernel
theorem dX3_init_57 : decode cX3_init 57 = .ok (.newarray .int, 2) := by decide +kernel
theorem dX3_init_69 : decode cX3_init 69 = .ok (.newarray .int, 2) := by decide +kernel
theorem dX4_init_7 : decode cX4_init 7 = .ok (.newarray .int, 2) := by decide +kernel
theorem dX4_init_15 : decode cX4_init 15 = .ok (.newarray .long, 2) := by decide +kernel
theorem dX4_init_23 : decode cX4_init 23 = .ok (.newarray .int, 2) := by decide +kernel
theorem dX4_init_31 : decode cX4_init 31 = .ok (.newarray .int, 2) := by decide +kernel
theorem dX4_init_39 : decode cX4_init 39 = .ok (.newarray .int, 2) := by decide +kernel
theorem dX4_init_47 : decode cX4_init 47 = .ok (.newarray .int, 2) := by decide +kernel
theorem dX4_init_137 : decode cX4_init 137 = .ok (.newarray .boolean, 2) := by decide +kernel
theorem dX5_init_7 : decode cX5_init 7 = .ok (.newarray .int, 2) := by decide +kernel
theorem dX5_init_60 : decode cX5_init 60 = .ok (.newarray .byte, 2) := by decide +kernel
theorem dX5_init_68 : decode cX5_init 68 = .ok (.newarray .int, 2) := by decide +kernel
theorem dX6_init_34 : decode cX6_init 34 = .ok (.newarray .int, 2) := by decide +kernel
theorem dX6_init_42 : decode cX6_init 42 = .ok (.newarray .int, 2) := by decide +kernel
theorem dX6_place_30 : decode cX6_place 30 = .ok (.tableswitch 56 0 2 #[26, 36, 46], 26) := by decide +kernel
theorem dX6_about_14 : decode cX6_about 14 = .ok (.tableswitch 136 0 7 #[46, 51, 56, 76, 89, 113, 118, 131], 46) := by decide +kernel
theorem dX6_count_1 : decode cX6_count 1 = .ok (.tableswitch 63 0 3 #[31, 36, 47, 55], 31) := by decide +kernel
theorem dX7_init_7 : decode cX7_init 7 = .ok (.newarray .int, 2) := by decide +kernel
theorem dX7_init_15 : decode cX7_init 15 = .ok (.newarray .int, 2) := by decide +kernel
theorem dX7_init_24 : decode cX7_init 24 = .ok (.newarray .int, 2) := by decide +kernel
theorem dX7_init_32 : decode cX7_init 32 = .ok (.newarray .int, 2) := by decide +kernel
theorem dX7_init_40 : decode cX7_init 40 = .ok (.newarray .int, 2) := by decide +kernel
theorem dX7_init_48 : decode cX7_init 48 = .ok (.newarray .int, 2) := by decide +kernel
theorem dX7_init_56 : decode cX7_init 56 = .ok (.newarray .int, 2) := by decide +kernel
theorem dX7_init_64 : decode cX7_init 64 = .ok (.newarray .int, 2) := by decide +kernel
theorem dX7_init_72 : decode cX7_init 72 = .ok (.newarray .int, 2) := by decide +kernel
theorem dX7_init_80 : decode cX7_init 80 = .ok (.newarray .boolean, 2) := by decide +kernel
theorem dX7_init_88 : decode cX7_init 88 = .ok (.newarray .int, 2) := by decide +kernel
theorem dX7_init_96 : decode cX7_init 96 = .ok (.newarray .long, 2) := by decide +kernel
theorem dX7_init_104 : decode cX7_init 104 = .ok (.newarray .int, 2) := by decide +kernel
theorem dX7_init_112 : decode cX7_init 112 = .ok (.newarray .int, 2) := by decide +kernel
theorem dX7_init_120 : decode cX7_init 120 = .ok (.newarray .boolean, 2) := by decide +kernel
theorem dX7_init_128 : decode cX7_init 128 = .ok (.newarray .int, 2) := by decide +kernel
theorem dX7_init_136 : decode cX7_init 136 = .ok (.newarray .int, 2) := by decide +kernel
theorem dX7_init_144 : decode cX7_init 144 = .ok (.newarray .int, 2) := by decide +kernel
theorem dX7_init_153 : decode cX7_init 153 = .ok (.newarray .boolean, 2) := by decide +kernel
theorem dX7_init_162 : decode cX7_init 162 = .ok (.newarray .int, 2) := by decide +kernel
theorem dX7_init_180 : decode cX7_init 180 = .ok (.newarray .boolean, 2) := by decide +kernel
theorem dX7_init_188 : decode cX7_init 188 = .ok (.newarray .int, 2) := by decide +kernel
theorem dX7_init_196 : decode cX7_init 196 = .ok (.newarray .boolean, 2) := by decide +kernel
theorem dX7_init_204 : decode cX7_init 204 = .ok (.newarray .int, 2) := by decide +kernel
theorem dX7_init_212 : decode cX7_init 212 = .ok (.newarray .int, 2) := by decide +kernel
theorem dX7_init_220 : decode cX7_init 220 = .ok (.newarray .int, 2) := by decide +kernel
theorem dX7_stepX_1 : decode cX7_stepX 1 = .ok (.tableswitch 94 0 2 #[27, 46, 75], 27) := by decide +kernel
theorem dX7_stepY_1 : decode cX7_stepY 1 = .ok (.tableswitch 98 0 2 #[27, 47, 77], 27) := by decide +kernel
theorem dX7_about_43 : decode cX7_about 43 = .ok (.tableswitch 179 0 6 #[41, 43, 48, 80, 94, 116, 166], 41) := by decide +kernel
theorem dL_law_32 : decode cL_law 32 = .ok (.tableswitch 876 0 23 #[112, 135, 168, 201, 244, 277, 300, 333, 376, 409, 442, 475, 508, 541, 574, 607, 640, 673, 706, 765, 804, 827, 840, 863], 112) := by decide +kernel
theorem jdcX0_isGround_0 : jwk (cX0_isGround.data.toList.drop 0) [26, 155, 0, 12, 26, 7, 162, 0, 7, 4, 167, 0, 4, 3, 172] = true := by decide +kernel
theorem dX0_isGround_0 : decode cX0_isGround 0 = .ok (.iload_n 0, 1) := jo_26 (jw1 jdcX0_isGround_0 0 rfl rfl)
theorem dX0_isGround_1 : decode cX0_isGround 1 = .ok (.ifCond .lt 12, 3) := jo_155 (a := 0) (b := 12) (jw3 jdcX0_isGround_0 1 rfl rfl) rfl
theorem dX0_isGround_4 : decode cX0_isGround 4 = .ok (.iload_n 0, 1) := jo_26 (jw1 jdcX0_isGround_0 4 rfl rfl)
theorem dX0_isGround_5 : decode cX0_isGround 5 = .ok (.iconst 4, 1) := jo_7 (jw1 jdcX0_isGround_0 5 rfl rfl)
theorem dX0_isGround_6 : decode cX0_isGround 6 = .ok (.if_icmp .ge 7, 3) := jo_162 (a := 0) (b := 7) (jw3 jdcX0_isGround_0 6 rfl rfl) rfl
theorem dX0_isGround_9 : decode cX0_isGround 9 = .ok (.iconst 1, 1) := jo_4 (jw1 jdcX0_isGround_0 9 rfl rfl)
theorem dX0_isGround_10 : decode cX0_isGround 10 = .ok (.goto 4, 3) := jo_167 (a := 0) (b := 4) (jw3 jdcX0_isGround_0 10 rfl rfl) rfl
theorem dX0_isGround_13 : decode cX0_isGround 13 = .ok (.iconst 0, 1) := jo_3 (jw1 jdcX0_isGround_0 13 rfl rfl)
theorem dX0_isGround_14 : decode cX0_isGround 14 = .ok (.ireturn, 1) := jo_172 (jw1 jdcX0_isGround_0 14 rfl rfl)
theorem jdcX0_directions_0 : jwk (cX0_directions.data.toList.drop 0) [26, 154, 0, 7, 7, 167, 0, 14, 26, 5, 160, 0, 7, 6, 167, 0, 5, 16, 6, 172] = true := by decide +kernel
theorem dX0_directions_0 : decode cX0_directions 0 = .ok (.iload_n 0, 1) := jo_26 (jw1 jdcX0_directions_0 0 rfl rfl)
theorem dX0_directions_1 : decode cX0_directions 1 = .ok (.ifCond .ne 7, 3) := jo_154 (a := 0) (b := 7) (jw3 jdcX0_directions_0 1 rfl rfl) rfl
theorem dX0_directions_4 : decode cX0_directions 4 = .ok (.iconst 4, 1) := jo_7 (jw1 jdcX0_directions_0 4 rfl rfl)
theorem dX0_directions_5 : decode cX0_directions 5 = .ok (.goto 14, 3) := jo_167 (a := 0) (b := 14) (jw3 jdcX0_directions_0 5 rfl rfl) rfl
theorem dX0_directions_8 : decode cX0_directions 8 = .ok (.iload_n 0, 1) := jo_26 (jw1 jdcX0_directions_0 8 rfl rfl)
theorem dX0_directions_9 : decode cX0_directions 9 = .ok (.iconst 2, 1) := jo_5 (jw1 jdcX0_directions_0 9 rfl rfl)
theorem dX0_directions_10 : decode cX0_directions 10 = .ok (.if_icmp .ne 7, 3) := jo_160 (a := 0) (b := 7) (jw3 jdcX0_directions_0 10 rfl rfl) rfl
theorem dX0_directions_13 : decode cX0_directions 13 = .ok (.iconst 3, 1) := jo_6 (jw1 jdcX0_directions_0 13 rfl rfl)
theorem dX0_directions_14 : decode cX0_directions 14 = .ok (.goto 5, 3) := jo_167 (a := 0) (b := 5) (jw3 jdcX0_directions_0 14 rfl rfl) rfl
theorem dX0_directions_17 : decode cX0_directions 17 = .ok (.bipush 6, 2) := jo_16 (a := 6) (jw2 jdcX0_directions_0 17 rfl rfl) rfl
theorem dX0_directions_19 : decode cX0_directions 19 = .ok (.ireturn, 1) := jo_172 (jw1 jdcX0_directions_0 19 rfl rfl)
theorem jdcX0_isDirection_0 : jwk (cX0_isDirection.data.toList.drop 0) [27, 155, 0, 15, 27, 26, 184, 0, 9, 162, 0, 7, 4, 167, 0, 4, 3, 172] = true := by decide +kernel
theorem dX0_isDirection_0 : decode cX0_isDirection 0 = .ok (.iload_n 1, 1) := jo_27 (jw1 jdcX0_isDirection_0 0 rfl rfl)
theorem dX0_isDirection_1 : decode cX0_isDirection 1 = .ok (.ifCond .lt 15, 3) := jo_155 (a := 0) (b := 15) (jw3 jdcX0_isDirection_0 1 rfl rfl) rfl
theorem dX0_isDirection_4 : decode cX0_isDirection 4 = .ok (.iload_n 1, 1) := jo_27 (jw1 jdcX0_isDirection_0 4 rfl rfl)
theorem dX0_isDirection_5 : decode cX0_isDirection 5 = .ok (.iload_n 0, 1) := jo_26 (jw1 jdcX0_isDirection_0 5 rfl rfl)
theorem dX0_isDirection_6 : decode cX0_isDirection 6 = .ok (.invokestatic 9, 3) := jo_184 (a := 0) (b := 9) (jw3 jdcX0_isDirection_0 6 rfl rfl) rfl
theorem dX0_isDirection_9 : decode cX0_isDirection 9 = .ok (.if_icmp .ge 7, 3) := jo_162 (a := 0) (b := 7) (jw3 jdcX0_isDirection_0 9 rfl rfl) rfl
theorem dX0_isDirection_12 : decode cX0_isDirection 12 = .ok (.iconst 1, 1) := jo_4 (jw1 jdcX0_isDirection_0 12 rfl rfl)
theorem dX0_isDirection_13 : decode cX0_isDirection 13 = .ok (.goto 4, 3) := jo_167 (a := 0) (b := 4) (jw3 jdcX0_isDirection_0 13 rfl rfl) rfl
theorem dX0_isDirection_16 : decode cX0_isDirection 16 = .ok (.iconst 0, 1) := jo_3 (jw1 jdcX0_isDirection_0 16 rfl rfl)
theorem dX0_isDirection_17 : decode cX0_isDirection 17 = .ok (.ireturn, 1) := jo_172 (jw1 jdcX0_isDirection_0 17 rfl rfl)
theorem jdcX0_turns_0 : jwk (cX0_turns.data.toList.drop 0) [26, 170, 0, 0, 0, 0, 0, 40, 0, 0, 0, 0, 0, 0, 0, 3, 0, 0, 0, 31, 0, 0, 0, 34, 0, 0, 0, 40, 0, 0, 0, 37, 16, 8, 172, 16, 12, 172, 16, 48, 172, 3, 172] = true := by decide +kernel
theorem dX0_turns_0 : decode cX0_turns 0 = .ok (.iload_n 0, 1) := jo_26 (jw1 jdcX0_turns_0 0 rfl rfl)
theorem dX0_turns_32 : decode cX0_turns 32 = .ok (.bipush 8, 2) := jo_16 (a := 8) (jw2 jdcX0_turns_0 32 rfl rfl) rfl
theorem dX0_turns_34 : decode cX0_turns 34 = .ok (.ireturn, 1) := jo_172 (jw1 jdcX0_turns_0 34 rfl rfl)
theorem dX0_turns_35 : decode cX0_turns 35 = .ok (.bipush 12, 2) := jo_16 (a := 12) (jw2 jdcX0_turns_0 35 rfl rfl) rfl
theorem dX0_turns_37 : decode cX0_turns 37 = .ok (.ireturn, 1) := jo_172 (jw1 jdcX0_turns_0 37 rfl rfl)
theorem dX0_turns_38 : decode cX0_turns 38 = .ok (.bipush 48, 2) := jo_16 (a := 48) (jw2 jdcX0_turns_0 38 rfl rfl) rfl
theorem dX0_turns_40 : decode cX0_turns 40 = .ok (.ireturn, 1) := jo_172 (jw1 jdcX0_turns_0 40 rfl rfl)
theorem dX0_turns_41 : decode cX0_turns 41 = .ok (.iconst 0, 1) := jo_3 (jw1 jdcX0_turns_0 41 rfl rfl)
theorem dX0_turns_42 : decode cX0_turns 42 = .ok (.ireturn, 1) := jo_172 (jw1 jdcX0_turns_0 42 rfl rfl)
theorem jdcX0_isTurn_0 : jwk (cX0_isTurn.data.toList.drop 0) [27, 155, 0, 15, 27, 26, 184, 0, 15, 162, 0, 7, 4, 167, 0, 4, 3, 172] = true := by decide +kernel
theorem dX0_isTurn_0 : decode cX0_isTurn 0 = .ok (.iload_n 1, 1) := jo_27 (jw1 jdcX0_isTurn_0 0 rfl rfl)
theorem dX0_isTurn_1 : decode cX0_isTurn 1 = .ok (.ifCond .lt 15, 3) := jo_155 (a := 0) (b := 15) (jw3 jdcX0_isTurn_0 1 rfl rfl) rfl
theorem dX0_isTurn_4 : decode cX0_isTurn 4 = .ok (.iload_n 1, 1) := jo_27 (jw1 jdcX0_isTurn_0 4 rfl rfl)
theorem dX0_isTurn_5 : decode cX0_isTurn 5 = .ok (.iload_n 0, 1) := jo_26 (jw1 jdcX0_isTurn_0 5 rfl rfl)
theorem dX0_isTurn_6 : decode cX0_isTurn 6 = .ok (.invokestatic 15, 3) := jo_184 (a := 0) (b := 15) (jw3 jdcX0_isTurn_0 6 rfl rfl) rfl
theorem dX0_isTurn_9 : decode cX0_isTurn 9 = .ok (.if_icmp .ge 7, 3) := jo_162 (a := 0) (b := 7) (jw3 jdcX0_isTurn_0 9 rfl rfl) rfl
theorem dX0_isTurn_12 : decode cX0_isTurn 12 = .ok (.iconst 1, 1) := jo_4 (jw1 jdcX0_isTurn_0 12 rfl rfl)
theorem dX0_isTurn_13 : decode cX0_isTurn 13 = .ok (.goto 4, 3) := jo_167 (a := 0) (b := 4) (jw3 jdcX0_isTurn_0 13 rfl rfl) rfl
theorem dX0_isTurn_16 : decode cX0_isTurn 16 = .ok (.iconst 0, 1) := jo_3 (jw1 jdcX0_isTurn_0 16 rfl rfl)
theorem dX0_isTurn_17 : decode cX0_isTurn 17 = .ok (.ireturn, 1) := jo_172 (jw1 jdcX0_isTurn_0 17 rfl rfl)
theorem jdcX0_shiftX_0 : jwk (cX0_shiftX.data.toList.drop 0) [16, 6, 26, 104, 27, 96, 61, 28, 155, 0, 19, 28, 178, 0, 18, 190, 162, 0, 11, 178, 0, 18, 28, 46, 167, 0, 4] = true := by decide +kernel
theorem dX0_shiftX_0 : decode cX0_shiftX 0 = .ok (.bipush 6, 2) := jo_16 (a := 6) (jw2 jdcX0_shiftX_0 0 rfl rfl) rfl
theorem dX0_shiftX_2 : decode cX0_shiftX 2 = .ok (.iload_n 0, 1) := jo_26 (jw1 jdcX0_shiftX_0 2 rfl rfl)
theorem dX0_shiftX_3 : decode cX0_shiftX 3 = .ok (.imul, 1) := jo_104 (jw1 jdcX0_shiftX_0 3 rfl rfl)
theorem dX0_shiftX_4 : decode cX0_shiftX 4 = .ok (.iload_n 1, 1) := jo_27 (jw1 jdcX0_shiftX_0 4 rfl rfl)
theorem dX0_shiftX_5 : decode cX0_shiftX 5 = .ok (.iadd, 1) := jo_96 (jw1 jdcX0_shiftX_0 5 rfl rfl)
theorem dX0_shiftX_6 : decode cX0_shiftX 6 = .ok (.istore_n 2, 1) := jo_61 (jw1 jdcX0_shiftX_0 6 rfl rfl)
theorem dX0_shiftX_7 : decode cX0_shiftX 7 = .ok (.iload_n 2, 1) := jo_28 (jw1 jdcX0_shiftX_0 7 rfl rfl)
theorem dX0_shiftX_8 : decode cX0_shiftX 8 = .ok (.ifCond .lt 19, 3) := jo_155 (a := 0) (b := 19) (jw3 jdcX0_shiftX_0 8 rfl rfl) rfl
theorem dX0_shiftX_11 : decode cX0_shiftX 11 = .ok (.iload_n 2, 1) := jo_28 (jw1 jdcX0_shiftX_0 11 rfl rfl)
theorem dX0_shiftX_12 : decode cX0_shiftX 12 = .ok (.getstatic 18, 3) := jo_178 (a := 0) (b := 18) (jw3 jdcX0_shiftX_0 12 rfl rfl) rfl
theorem dX0_shiftX_15 : decode cX0_shiftX 15 = .ok (.arraylength, 1) := jo_190 (jw1 jdcX0_shiftX_0 15 rfl rfl)
theorem dX0_shiftX_16 : decode cX0_shiftX 16 = .ok (.if_icmp .ge 11, 3) := jo_162 (a := 0) (b := 11) (jw3 jdcX0_shiftX_0 16 rfl rfl) rfl
theorem dX0_shiftX_19 : decode cX0_shiftX 19 = .ok (.getstatic 18, 3) := jo_178 (a := 0) (b := 18) (jw3 jdcX0_shiftX_0 19 rfl rfl) rfl
theorem dX0_shiftX_22 : decode cX0_shiftX 22 = .ok (.iload_n 2, 1) := jo_28 (jw1 jdcX0_shiftX_0 22 rfl rfl)
theorem dX0_shiftX_23 : decode cX0_shiftX 23 = .ok (.iaload, 1) := jo_46 (jw1 jdcX0_shiftX_0 23 rfl rfl)
theorem dX0_shiftX_24 : decode cX0_shiftX 24 = .ok (.goto 4, 3) := jo_167 (a := 0) (b := 4) (jw3 jdcX0_shiftX_0 24 rfl rfl) rfl
theorem jdcX0_shiftX_16 : jwk (cX0_shiftX.data.toList.drop 27) [3, 172] = true := by decide +kernel
theorem dX0_shiftX_27 : decode cX0_shiftX 27 = .ok (.iconst 0, 1) := jo_3 (jw1 jdcX0_shiftX_16 0 rfl rfl)
theorem dX0_shiftX_28 : decode cX0_shiftX 28 = .ok (.ireturn, 1) := jo_172 (jw1 jdcX0_shiftX_16 1 rfl rfl)
theorem jdcX0_shiftY_0 : jwk (cX0_shiftY.data.toList.drop 0) [26, 5, 160, 0, 22, 27, 5, 160, 0, 17, 28, 29, 184, 0, 22, 153, 0, 7, 4, 167, 0, 4, 2, 172, 16, 6, 26] = true := by decide +kernel
theorem dX0_shiftY_0 : decode cX0_shiftY 0 = .ok (.iload_n 0, 1) := jo_26 (jw1 jdcX0_shiftY_0 0 rfl rfl)
theorem dX0_shiftY_1 : decode cX0_shiftY 1 = .ok (.iconst 2, 1) := jo_5 (jw1 jdcX0_shiftY_0 1 rfl rfl)
theorem dX0_shiftY_2 : decode cX0_shiftY 2 = .ok (.if_icmp .ne 22, 3) := jo_160 (a := 0) (b := 22) (jw3 jdcX0_shiftY_0 2 rfl rfl) rfl
theorem dX0_shiftY_5 : decode cX0_shiftY 5 = .ok (.iload_n 1, 1) := jo_27 (jw1 jdcX0_shiftY_0 5 rfl rfl)
theorem dX0_shiftY_6 : decode cX0_shiftY 6 = .ok (.iconst 2, 1) := jo_5 (jw1 jdcX0_shiftY_0 6 rfl rfl)
theorem dX0_shiftY_7 : decode cX0_shiftY 7 = .ok (.if_icmp .ne 17, 3) := jo_160 (a := 0) (b := 17) (jw3 jdcX0_shiftY_0 7 rfl rfl) rfl
theorem dX0_shiftY_10 : decode cX0_shiftY 10 = .ok (.iload_n 2, 1) := jo_28 (jw1 jdcX0_shiftY_0 10 rfl rfl)
theorem dX0_shiftY_11 : decode cX0_shiftY 11 = .ok (.iload_n 3, 1) := jo_29 (jw1 jdcX0_shiftY_0 11 rfl rfl)
theorem dX0_shiftY_12 : decode cX0_shiftY 12 = .ok (.invokestatic 22, 3) := jo_184 (a := 0) (b := 22) (jw3 jdcX0_shiftY_0 12 rfl rfl) rfl
theorem dX0_shiftY_15 : decode cX0_shiftY 15 = .ok (.ifCond .eq 7, 3) := jo_153 (a := 0) (b := 7) (jw3 jdcX0_shiftY_0 15 rfl rfl) rfl
theorem dX0_shiftY_18 : decode cX0_shiftY 18 = .ok (.iconst 1, 1) := jo_4 (jw1 jdcX0_shiftY_0 18 rfl rfl)
theorem dX0_shiftY_19 : decode cX0_shiftY 19 = .ok (.goto 4, 3) := jo_167 (a := 0) (b := 4) (jw3 jdcX0_shiftY_0 19 rfl rfl) rfl
theorem dX0_shiftY_22 : decode cX0_shiftY 22 = .ok (.iconst (-1), 1) := jo_2 (jw1 jdcX0_shiftY_0 22 rfl rfl)
theorem dX0_shiftY_23 : decode cX0_shiftY 23 = .ok (.ireturn, 1) := jo_172 (jw1 jdcX0_shiftY_0 23 rfl rfl)
theorem dX0_shiftY_24 : decode cX0_shiftY 24 = .ok (.bipush 6, 2) := jo_16 (a := 6) (jw2 jdcX0_shiftY_0 24 rfl rfl) rfl
theorem dX0_shiftY_26 : decode cX0_shiftY 26 = .ok (.iload_n 0, 1) := jo_26 (jw1 jdcX0_shiftY_0 26 rfl rfl)
theorem jdcX0_shiftY_16 : jwk (cX0_shiftY.data.toList.drop 27) [104, 27, 96, 54, 4, 21, 4, 155, 0, 21, 21, 4, 178, 0, 26, 190, 162, 0, 12, 178, 0, 26, 21, 4, 46, 167, 0, 4, 3, 172] = true := by decide +kernel
theorem dX0_shiftY_27 : decode cX0_shiftY 27 = .ok (.imul, 1) := jo_104 (jw1 jdcX0_shiftY_16 0 rfl rfl)
theorem dX0_shiftY_28 : decode cX0_shiftY 28 = .ok (.iload_n 1, 1) := jo_27 (jw1 jdcX0_shiftY_16 1 rfl rfl)
theorem dX0_shiftY_29 : decode cX0_shiftY 29 = .ok (.iadd, 1) := jo_96 (jw1 jdcX0_shiftY_16 2 rfl rfl)
theorem dX0_shiftY_30 : decode cX0_shiftY 30 = .ok (.istore 4, 2) := jo_54 (jw2 jdcX0_shiftY_16 3 rfl rfl)
theorem dX0_shiftY_32 : decode cX0_shiftY 32 = .ok (.iload 4, 2) := jo_21 (jw2 jdcX0_shiftY_16 5 rfl rfl)
theorem dX0_shiftY_34 : decode cX0_shiftY 34 = .ok (.ifCond .lt 21, 3) := jo_155 (a := 0) (b := 21) (jw3 jdcX0_shiftY_16 7 rfl rfl) rfl
theorem dX0_shiftY_37 : decode cX0_shiftY 37 = .ok (.iload 4, 2) := jo_21 (jw2 jdcX0_shiftY_16 10 rfl rfl)
theorem dX0_shiftY_39 : decode cX0_shiftY 39 = .ok (.getstatic 26, 3) := jo_178 (a := 0) (b := 26) (jw3 jdcX0_shiftY_16 12 rfl rfl) rfl
theorem dX0_shiftY_42 : decode cX0_shiftY 42 = .ok (.arraylength, 1) := jo_190 (jw1 jdcX0_shiftY_16 15 rfl rfl)
theorem dX0_shiftY_43 : decode cX0_shiftY 43 = .ok (.if_icmp .ge 12, 3) := jo_162 (a := 0) (b := 12) (jw3 jdcX0_shiftY_16 16 rfl rfl) rfl
theorem dX0_shiftY_46 : decode cX0_shiftY 46 = .ok (.getstatic 26, 3) := jo_178 (a := 0) (b := 26) (jw3 jdcX0_shiftY_16 19 rfl rfl) rfl
theorem dX0_shiftY_49 : decode cX0_shiftY 49 = .ok (.iload 4, 2) := jo_21 (jw2 jdcX0_shiftY_16 22 rfl rfl)
theorem dX0_shiftY_51 : decode cX0_shiftY 51 = .ok (.iaload, 1) := jo_46 (jw1 jdcX0_shiftY_16 24 rfl rfl)
theorem dX0_shiftY_52 : decode cX0_shiftY 52 = .ok (.goto 4, 3) := jo_167 (a := 0) (b := 4) (jw3 jdcX0_shiftY_16 25 rfl rfl) rfl
theorem dX0_shiftY_55 : decode cX0_shiftY 55 = .ok (.iconst 0, 1) := jo_3 (jw1 jdcX0_shiftY_16 28 rfl rfl)
theorem dX0_shiftY_56 : decode cX0_shiftY 56 = .ok (.ireturn, 1) := jo_172 (jw1 jdcX0_shiftY_16 29 rfl rfl)
theorem jdcX0_shiftZ_0 : jwk (cX0_shiftZ.data.toList.drop 0) [26, 6, 159, 0, 5, 3, 172, 27, 5, 160, 0, 7, 4, 167, 0, 13, 27, 8, 160, 0, 7, 2, 167, 0, 4, 3] = true := by decide +kernel
theorem dX0_shiftZ_0 : decode cX0_shiftZ 0 = .ok (.iload_n 0, 1) := jo_26 (jw1 jdcX0_shiftZ_0 0 rfl rfl)
theorem dX0_shiftZ_1 : decode cX0_shiftZ 1 = .ok (.iconst 3, 1) := jo_6 (jw1 jdcX0_shiftZ_0 1 rfl rfl)
theorem dX0_shiftZ_2 : decode cX0_shiftZ 2 = .ok (.if_icmp .eq 5, 3) := jo_159 (a := 0) (b := 5) (jw3 jdcX0_shiftZ_0 2 rfl rfl) rfl
theorem dX0_shiftZ_5 : decode cX0_shiftZ 5 = .ok (.iconst 0, 1) := jo_3 (jw1 jdcX0_shiftZ_0 5 rfl rfl)
theorem dX0_shiftZ_6 : decode cX0_shiftZ 6 = .ok (.ireturn, 1) := jo_172 (jw1 jdcX0_shiftZ_0 6 rfl rfl)
theorem dX0_shiftZ_7 : decode cX0_shiftZ 7 = .ok (.iload_n 1, 1) := jo_27 (jw1 jdcX0_shiftZ_0 7 rfl rfl)
theorem dX0_shiftZ_8 : decode cX0_shiftZ 8 = .ok (.iconst 2, 1) := jo_5 (jw1 jdcX0_shiftZ_0 8 rfl rfl)
theorem dX0_shiftZ_9 : decode cX0_shiftZ 9 = .ok (.if_icmp .ne 7, 3) := jo_160 (a := 0) (b := 7) (jw3 jdcX0_shiftZ_0 9 rfl rfl) rfl
theorem dX0_shiftZ_12 : decode cX0_shiftZ 12 = .ok (.iconst 1, 1) := jo_4 (jw1 jdcX0_shiftZ_0 12 rfl rfl)
theorem dX0_shiftZ_13 : decode cX0_shiftZ 13 = .ok (.goto 13, 3) := jo_167 (a := 0) (b := 13) (jw3 jdcX0_shiftZ_0 13 rfl rfl) rfl
theorem dX0_shiftZ_16 : decode cX0_shiftZ 16 = .ok (.iload_n 1, 1) := jo_27 (jw1 jdcX0_shiftZ_0 16 rfl rfl)
theorem dX0_shiftZ_17 : decode cX0_shiftZ 17 = .ok (.iconst 5, 1) := jo_8 (jw1 jdcX0_shiftZ_0 17 rfl rfl)
theorem dX0_shiftZ_18 : decode cX0_shiftZ 18 = .ok (.if_icmp .ne 7, 3) := jo_160 (a := 0) (b := 7) (jw3 jdcX0_shiftZ_0 18 rfl rfl) rfl
theorem dX0_shiftZ_21 : decode cX0_shiftZ 21 = .ok (.iconst (-1), 1) := jo_2 (jw1 jdcX0_shiftZ_0 21 rfl rfl)
theorem dX0_shiftZ_22 : decode cX0_shiftZ 22 = .ok (.goto 4, 3) := jo_167 (a := 0) (b := 4) (jw3 jdcX0_shiftZ_0 22 rfl rfl) rfl
theorem dX0_shiftZ_25 : decode cX0_shiftZ 25 = .ok (.iconst 0, 1) := jo_3 (jw1 jdcX0_shiftZ_0 25 rfl rfl)
theorem jdcX0_shiftZ_16 : jwk (cX0_shiftZ.data.toList.drop 26) [172] = true := by decide +kernel
theorem dX0_shiftZ_26 : decode cX0_shiftZ 26 = .ok (.ireturn, 1) := jo_172 (jw1 jdcX0_shiftZ_16 0 rfl rfl)
theorem jdcX0_isEven_0 : jwk (cX0_isEven.data.toList.drop 0) [26, 27, 96, 4, 126, 154, 0, 7, 4, 167, 0, 4, 3, 172] = true := by decide +kernel
theorem dX0_isEven_0 : decode cX0_isEven 0 = .ok (.iload_n 0, 1) := jo_26 (jw1 jdcX0_isEven_0 0 rfl rfl)
theorem dX0_isEven_1 : decode cX0_isEven 1 = .ok (.iload_n 1, 1) := jo_27 (jw1 jdcX0_isEven_0 1 rfl rfl)
theorem dX0_isEven_2 : decode cX0_isEven 2 = .ok (.iadd, 1) := jo_96 (jw1 jdcX0_isEven_0 2 rfl rfl)
theorem dX0_isEven_3 : decode cX0_isEven 3 = .ok (.iconst 1, 1) := jo_4 (jw1 jdcX0_isEven_0 3 rfl rfl)
theorem dX0_isEven_4 : decode cX0_isEven 4 = .ok (.iand, 1) := jo_126 (jw1 jdcX0_isEven_0 4 rfl rfl)
theorem dX0_isEven_5 : decode cX0_isEven 5 = .ok (.ifCond .ne 7, 3) := jo_154 (a := 0) (b := 7) (jw3 jdcX0_isEven_0 5 rfl rfl) rfl
theorem dX0_isEven_8 : decode cX0_isEven 8 = .ok (.iconst 1, 1) := jo_4 (jw1 jdcX0_isEven_0 8 rfl rfl)
theorem dX0_isEven_9 : decode cX0_isEven 9 = .ok (.goto 4, 3) := jo_167 (a := 0) (b := 4) (jw3 jdcX0_isEven_0 9 rfl rfl) rfl
theorem dX0_isEven_12 : decode cX0_isEven 12 = .ok (.iconst 0, 1) := jo_3 (jw1 jdcX0_isEven_0 12 rfl rfl)
theorem dX0_isEven_13 : decode cX0_isEven 13 = .ok (.ireturn, 1) := jo_172 (jw1 jdcX0_isEven_0 13 rfl rfl)
theorem jdcX0_square_0 : jwk (cX0_square.data.toList.drop 0) [27, 27, 104, 28, 28, 104, 96, 29, 29, 104, 96, 54, 4, 26, 4, 160, 0, 12, 21, 4] = true := by decide +kernel
theorem dX0_square_0 : decode cX0_square 0 = .ok (.iload_n 1, 1) := jo_27 (jw1 jdcX0_square_0 0 rfl rfl)
theorem dX0_square_1 : decode cX0_square 1 = .ok (.iload_n 1, 1) := jo_27 (jw1 jdcX0_square_0 1 rfl rfl)
theorem dX0_square_2 : decode cX0_square 2 = .ok (.imul, 1) := jo_104 (jw1 jdcX0_square_0 2 rfl rfl)
theorem dX0_square_3 : decode cX0_square 3 = .ok (.iload_n 2, 1) := jo_28 (jw1 jdcX0_square_0 3 rfl rfl)
theorem dX0_square_4 : decode cX0_square 4 = .ok (.iload_n 2, 1) := jo_28 (jw1 jdcX0_square_0 4 rfl rfl)
theorem dX0_square_5 : decode cX0_square 5 = .ok (.imul, 1) := jo_104 (jw1 jdcX0_square_0 5 rfl rfl)
theorem dX0_square_6 : decode cX0_square 6 = .ok (.iadd, 1) := jo_96 (jw1 jdcX0_square_0 6 rfl rfl)
theorem dX0_square_7 : decode cX0_square 7 = .ok (.iload_n 3, 1) := jo_29 (jw1 jdcX0_square_0 7 rfl rfl)
theorem dX0_square_8 : decode cX0_square 8 = .ok (.iload_n 3, 1) := jo_29 (jw1 jdcX0_square_0 8 rfl rfl)
theorem dX0_square_9 : decode cX0_square 9 = .ok (.imul, 1) := jo_104 (jw1 jdcX0_square_0 9 rfl rfl)
theorem dX0_square_10 : decode cX0_square 10 = .ok (.iadd, 1) := jo_96 (jw1 jdcX0_square_0 10 rfl rfl)
theorem dX0_square_11 : decode cX0_square 11 = .ok (.istore 4, 2) := jo_54 (jw2 jdcX0_square_0 11 rfl rfl)
theorem dX0_square_13 : decode cX0_square 13 = .ok (.iload_n 0, 1) := jo_26 (jw1 jdcX0_square_0 13 rfl rfl)
theorem dX0_square_14 : decode cX0_square 14 = .ok (.iconst 1, 1) := jo_4 (jw1 jdcX0_square_0 14 rfl rfl)
theorem dX0_square_15 : decode cX0_square 15 = .ok (.if_icmp .ne 12, 3) := jo_160 (a := 0) (b := 12) (jw3 jdcX0_square_0 15 rfl rfl) rfl
theorem dX0_square_18 : decode cX0_square 18 = .ok (.iload 4, 2) := jo_21 (jw2 jdcX0_square_0 18 rfl rfl)
theorem jdcX0_square_16 : jwk (cX0_square.data.toList.drop 20) [27, 28, 104, 96, 167, 0, 5, 21, 4, 172] = true := by decide +kernel
theorem dX0_square_20 : decode cX0_square 20 = .ok (.iload_n 1, 1) := jo_27 (jw1 jdcX0_square_16 0 rfl rfl)
theorem dX0_square_21 : decode cX0_square 21 = .ok (.iload_n 2, 1) := jo_28 (jw1 jdcX0_square_16 1 rfl rfl)
theorem dX0_square_22 : decode cX0_square 22 = .ok (.imul, 1) := jo_104 (jw1 jdcX0_square_16 2 rfl rfl)
theorem dX0_square_23 : decode cX0_square 23 = .ok (.iadd, 1) := jo_96 (jw1 jdcX0_square_16 3 rfl rfl)
theorem dX0_square_24 : decode cX0_square 24 = .ok (.goto 5, 3) := jo_167 (a := 0) (b := 5) (jw3 jdcX0_square_16 4 rfl rfl) rfl
theorem dX0_square_27 : decode cX0_square 27 = .ok (.iload 4, 2) := jo_21 (jw2 jdcX0_square_16 7 rfl rfl)
theorem dX0_square_29 : decode cX0_square 29 = .ok (.ireturn, 1) := jo_172 (jw1 jdcX0_square_16 9 rfl rfl)
theorem jdcX0_opposite_0 : jwk (cX0_opposite.data.toList.drop 0) [26, 5, 160, 0, 16, 27, 5, 160, 0, 7, 5, 167, 0, 6, 4, 27, 100, 172, 26, 184, 0, 9, 5, 108] = true := by decide +kernel
theorem dX0_opposite_0 : decode cX0_opposite 0 = .ok (.iload_n 0, 1) := jo_26 (jw1 jdcX0_opposite_0 0 rfl rfl)
theorem dX0_opposite_1 : decode cX0_opposite 1 = .ok (.iconst 2, 1) := jo_5 (jw1 jdcX0_opposite_0 1 rfl rfl)
theorem dX0_opposite_2 : decode cX0_opposite 2 = .ok (.if_icmp .ne 16, 3) := jo_160 (a := 0) (b := 16) (jw3 jdcX0_opposite_0 2 rfl rfl) rfl
theorem dX0_opposite_5 : decode cX0_opposite 5 = .ok (.iload_n 1, 1) := jo_27 (jw1 jdcX0_opposite_0 5 rfl rfl)
theorem dX0_opposite_6 : decode cX0_opposite 6 = .ok (.iconst 2, 1) := jo_5 (jw1 jdcX0_opposite_0 6 rfl rfl)
theorem dX0_opposite_7 : decode cX0_opposite 7 = .ok (.if_icmp .ne 7, 3) := jo_160 (a := 0) (b := 7) (jw3 jdcX0_opposite_0 7 rfl rfl) rfl
theorem dX0_opposite_10 : decode cX0_opposite 10 = .ok (.iconst 2, 1) := jo_5 (jw1 jdcX0_opposite_0 10 rfl rfl)
theorem dX0_opposite_11 : decode cX0_opposite 11 = .ok (.goto 6, 3) := jo_167 (a := 0) (b := 6) (jw3 jdcX0_opposite_0 11 rfl rfl) rfl
theorem dX0_opposite_14 : decode cX0_opposite 14 = .ok (.iconst 1, 1) := jo_4 (jw1 jdcX0_opposite_0 14 rfl rfl)
theorem dX0_opposite_15 : decode cX0_opposite 15 = .ok (.iload_n 1, 1) := jo_27 (jw1 jdcX0_opposite_0 15 rfl rfl)
theorem dX0_opposite_16 : decode cX0_opposite 16 = .ok (.isub, 1) := jo_100 (jw1 jdcX0_opposite_0 16 rfl rfl)
theorem dX0_opposite_17 : decode cX0_opposite 17 = .ok (.ireturn, 1) := jo_172 (jw1 jdcX0_opposite_0 17 rfl rfl)
theorem dX0_opposite_18 : decode cX0_opposite 18 = .ok (.iload_n 0, 1) := jo_26 (jw1 jdcX0_opposite_0 18 rfl rfl)
theorem dX0_opposite_19 : decode cX0_opposite 19 = .ok (.invokestatic 9, 3) := jo_184 (a := 0) (b := 9) (jw3 jdcX0_opposite_0 19 rfl rfl) rfl
theorem dX0_opposite_22 : decode cX0_opposite 22 = .ok (.iconst 2, 1) := jo_5 (jw1 jdcX0_opposite_0 22 rfl rfl)
theorem dX0_opposite_23 : decode cX0_opposite 23 = .ok (.idiv, 1) := jo_108 (jw1 jdcX0_opposite_0 23 rfl rfl)
theorem jdcX0_opposite_16 : jwk (cX0_opposite.data.toList.drop 24) [61, 27, 28, 162, 0, 9, 27, 28, 96, 167, 0, 6, 27, 28, 100, 172] = true := by decide +kernel
theorem dX0_opposite_24 : decode cX0_opposite 24 = .ok (.istore_n 2, 1) := jo_61 (jw1 jdcX0_opposite_16 0 rfl rfl)
theorem dX0_opposite_25 : decode cX0_opposite 25 = .ok (.iload_n 1, 1) := jo_27 (jw1 jdcX0_opposite_16 1 rfl rfl)
theorem dX0_opposite_26 : decode cX0_opposite 26 = .ok (.iload_n 2, 1) := jo_28 (jw1 jdcX0_opposite_16 2 rfl rfl)
theorem dX0_opposite_27 : decode cX0_opposite 27 = .ok (.if_icmp .ge 9, 3) := jo_162 (a := 0) (b := 9) (jw3 jdcX0_opposite_16 3 rfl rfl) rfl
theorem dX0_opposite_30 : decode cX0_opposite 30 = .ok (.iload_n 1, 1) := jo_27 (jw1 jdcX0_opposite_16 6 rfl rfl)
theorem dX0_opposite_31 : decode cX0_opposite 31 = .ok (.iload_n 2, 1) := jo_28 (jw1 jdcX0_opposite_16 7 rfl rfl)
theorem dX0_opposite_32 : decode cX0_opposite 32 = .ok (.iadd, 1) := jo_96 (jw1 jdcX0_opposite_16 8 rfl rfl)
theorem dX0_opposite_33 : decode cX0_opposite 33 = .ok (.goto 6, 3) := jo_167 (a := 0) (b := 6) (jw3 jdcX0_opposite_16 9 rfl rfl) rfl
theorem dX0_opposite_36 : decode cX0_opposite 36 = .ok (.iload_n 1, 1) := jo_27 (jw1 jdcX0_opposite_16 12 rfl rfl)
theorem dX0_opposite_37 : decode cX0_opposite 37 = .ok (.iload_n 2, 1) := jo_28 (jw1 jdcX0_opposite_16 13 rfl rfl)
theorem dX0_opposite_38 : decode cX0_opposite 38 = .ok (.isub, 1) := jo_100 (jw1 jdcX0_opposite_16 14 rfl rfl)
theorem dX0_opposite_39 : decode cX0_opposite 39 = .ok (.ireturn, 1) := jo_172 (jw1 jdcX0_opposite_16 15 rfl rfl)
theorem jdcX0_turned_0 : jwk (cX0_turned.data.toList.drop 0) [26, 5, 160, 0, 5, 28, 172, 26, 6, 160, 0, 9, 27, 28, 184, 0, 29, 172, 26, 184, 0, 9, 62, 27] = true := by decide +kernel
theorem dX0_turned_0 : decode cX0_turned 0 = .ok (.iload_n 0, 1) := jo_26 (jw1 jdcX0_turned_0 0 rfl rfl)
theorem dX0_turned_1 : decode cX0_turned 1 = .ok (.iconst 2, 1) := jo_5 (jw1 jdcX0_turned_0 1 rfl rfl)
theorem dX0_turned_2 : decode cX0_turned 2 = .ok (.if_icmp .ne 5, 3) := jo_160 (a := 0) (b := 5) (jw3 jdcX0_turned_0 2 rfl rfl) rfl
theorem dX0_turned_5 : decode cX0_turned 5 = .ok (.iload_n 2, 1) := jo_28 (jw1 jdcX0_turned_0 5 rfl rfl)
theorem dX0_turned_6 : decode cX0_turned 6 = .ok (.ireturn, 1) := jo_172 (jw1 jdcX0_turned_0 6 rfl rfl)
theorem dX0_turned_7 : decode cX0_turned 7 = .ok (.iload_n 0, 1) := jo_26 (jw1 jdcX0_turned_0 7 rfl rfl)
theorem dX0_turned_8 : decode cX0_turned 8 = .ok (.iconst 3, 1) := jo_6 (jw1 jdcX0_turned_0 8 rfl rfl)
theorem dX0_turned_9 : decode cX0_turned 9 = .ok (.if_icmp .ne 9, 3) := jo_160 (a := 0) (b := 9) (jw3 jdcX0_turned_0 9 rfl rfl) rfl
theorem dX0_turned_12 : decode cX0_turned 12 = .ok (.iload_n 1, 1) := jo_27 (jw1 jdcX0_turned_0 12 rfl rfl)
theorem dX0_turned_13 : decode cX0_turned 13 = .ok (.iload_n 2, 1) := jo_28 (jw1 jdcX0_turned_0 13 rfl rfl)
theorem dX0_turned_14 : decode cX0_turned 14 = .ok (.invokestatic 29, 3) := jo_184 (a := 0) (b := 29) (jw3 jdcX0_turned_0 14 rfl rfl) rfl
theorem dX0_turned_17 : decode cX0_turned 17 = .ok (.ireturn, 1) := jo_172 (jw1 jdcX0_turned_0 17 rfl rfl)
theorem dX0_turned_18 : decode cX0_turned 18 = .ok (.iload_n 0, 1) := jo_26 (jw1 jdcX0_turned_0 18 rfl rfl)
theorem dX0_turned_19 : decode cX0_turned 19 = .ok (.invokestatic 9, 3) := jo_184 (a := 0) (b := 9) (jw3 jdcX0_turned_0 19 rfl rfl) rfl
theorem dX0_turned_22 : decode cX0_turned 22 = .ok (.istore_n 3, 1) := jo_62 (jw1 jdcX0_turned_0 22 rfl rfl)
theorem dX0_turned_23 : decode cX0_turned 23 = .ok (.iload_n 1, 1) := jo_27 (jw1 jdcX0_turned_0 23 rfl rfl)
theorem jdcX0_turned_16 : jwk (cX0_turned.data.toList.drop 24) [29, 162, 0, 9, 28, 27, 96, 167, 0, 6, 27, 28, 100, 54, 4, 21, 4, 29, 161, 0, 10, 21, 4, 29, 100] = true := by decide +kernel
theorem dX0_turned_24 : decode cX0_turned 24 = .ok (.iload_n 3, 1) := jo_29 (jw1 jdcX0_turned_16 0 rfl rfl)
theorem dX0_turned_25 : decode cX0_turned 25 = .ok (.if_icmp .ge 9, 3) := jo_162 (a := 0) (b := 9) (jw3 jdcX0_turned_16 1 rfl rfl) rfl
theorem dX0_turned_28 : decode cX0_turned 28 = .ok (.iload_n 2, 1) := jo_28 (jw1 jdcX0_turned_16 4 rfl rfl)
theorem dX0_turned_29 : decode cX0_turned 29 = .ok (.iload_n 1, 1) := jo_27 (jw1 jdcX0_turned_16 5 rfl rfl)
theorem dX0_turned_30 : decode cX0_turned 30 = .ok (.iadd, 1) := jo_96 (jw1 jdcX0_turned_16 6 rfl rfl)
theorem dX0_turned_31 : decode cX0_turned 31 = .ok (.goto 6, 3) := jo_167 (a := 0) (b := 6) (jw3 jdcX0_turned_16 7 rfl rfl) rfl
theorem dX0_turned_34 : decode cX0_turned 34 = .ok (.iload_n 1, 1) := jo_27 (jw1 jdcX0_turned_16 10 rfl rfl)
theorem dX0_turned_35 : decode cX0_turned 35 = .ok (.iload_n 2, 1) := jo_28 (jw1 jdcX0_turned_16 11 rfl rfl)
theorem dX0_turned_36 : decode cX0_turned 36 = .ok (.isub, 1) := jo_100 (jw1 jdcX0_turned_16 12 rfl rfl)
theorem dX0_turned_37 : decode cX0_turned 37 = .ok (.istore 4, 2) := jo_54 (jw2 jdcX0_turned_16 13 rfl rfl)
theorem dX0_turned_39 : decode cX0_turned 39 = .ok (.iload 4, 2) := jo_21 (jw2 jdcX0_turned_16 15 rfl rfl)
theorem dX0_turned_41 : decode cX0_turned 41 = .ok (.iload_n 3, 1) := jo_29 (jw1 jdcX0_turned_16 17 rfl rfl)
theorem dX0_turned_42 : decode cX0_turned 42 = .ok (.if_icmp .lt 10, 3) := jo_161 (a := 0) (b := 10) (jw3 jdcX0_turned_16 18 rfl rfl) rfl
theorem dX0_turned_45 : decode cX0_turned 45 = .ok (.iload 4, 2) := jo_21 (jw2 jdcX0_turned_16 21 rfl rfl)
theorem dX0_turned_47 : decode cX0_turned 47 = .ok (.iload_n 3, 1) := jo_29 (jw1 jdcX0_turned_16 23 rfl rfl)
theorem dX0_turned_48 : decode cX0_turned 48 = .ok (.isub, 1) := jo_100 (jw1 jdcX0_turned_16 24 rfl rfl)
theorem jdcX0_turned_32 : jwk (cX0_turned.data.toList.drop 49) [167, 0, 5, 21, 4, 172] = true := by decide +kernel
theorem dX0_turned_49 : decode cX0_turned 49 = .ok (.goto 5, 3) := jo_167 (a := 0) (b := 5) (jw3 jdcX0_turned_32 0 rfl rfl) rfl
theorem dX0_turned_52 : decode cX0_turned 52 = .ok (.iload 4, 2) := jo_21 (jw2 jdcX0_turned_32 3 rfl rfl)
theorem dX0_turned_54 : decode cX0_turned 54 = .ok (.ireturn, 1) := jo_172 (jw1 jdcX0_turned_32 5 rfl rfl)
theorem jdcX0_turnedInCubes_0 : jwk (cX0_turnedInCubes.data.toList.drop 0) [27, 6, 162, 0, 7, 27, 167, 0, 6, 27, 6, 100, 61, 27, 6, 161, 0, 7, 4, 167, 0, 4, 3, 62] = true := by decide +kernel
theorem dX0_turnedInCubes_0 : decode cX0_turnedInCubes 0 = .ok (.iload_n 1, 1) := jo_27 (jw1 jdcX0_turnedInCubes_0 0 rfl rfl)
theorem dX0_turnedInCubes_1 : decode cX0_turnedInCubes 1 = .ok (.iconst 3, 1) := jo_6 (jw1 jdcX0_turnedInCubes_0 1 rfl rfl)
theorem dX0_turnedInCubes_2 : decode cX0_turnedInCubes 2 = .ok (.if_icmp .ge 7, 3) := jo_162 (a := 0) (b := 7) (jw3 jdcX0_turnedInCubes_0 2 rfl rfl) rfl
theorem dX0_turnedInCubes_5 : decode cX0_turnedInCubes 5 = .ok (.iload_n 1, 1) := jo_27 (jw1 jdcX0_turnedInCubes_0 5 rfl rfl)
theorem dX0_turnedInCubes_6 : decode cX0_turnedInCubes 6 = .ok (.goto 6, 3) := jo_167 (a := 0) (b := 6) (jw3 jdcX0_turnedInCubes_0 6 rfl rfl) rfl
theorem dX0_turnedInCubes_9 : decode cX0_turnedInCubes 9 = .ok (.iload_n 1, 1) := jo_27 (jw1 jdcX0_turnedInCubes_0 9 rfl rfl)
theorem dX0_turnedInCubes_10 : decode cX0_turnedInCubes 10 = .ok (.iconst 3, 1) := jo_6 (jw1 jdcX0_turnedInCubes_0 10 rfl rfl)
theorem dX0_turnedInCubes_11 : decode cX0_turnedInCubes 11 = .ok (.isub, 1) := jo_100 (jw1 jdcX0_turnedInCubes_0 11 rfl rfl)
theorem dX0_turnedInCubes_12 : decode cX0_turnedInCubes 12 = .ok (.istore_n 2, 1) := jo_61 (jw1 jdcX0_turnedInCubes_0 12 rfl rfl)
theorem dX0_turnedInCubes_13 : decode cX0_turnedInCubes 13 = .ok (.iload_n 1, 1) := jo_27 (jw1 jdcX0_turnedInCubes_0 13 rfl rfl)
theorem dX0_turnedInCubes_14 : decode cX0_turnedInCubes 14 = .ok (.iconst 3, 1) := jo_6 (jw1 jdcX0_turnedInCubes_0 14 rfl rfl)
theorem dX0_turnedInCubes_15 : decode cX0_turnedInCubes 15 = .ok (.if_icmp .lt 7, 3) := jo_161 (a := 0) (b := 7) (jw3 jdcX0_turnedInCubes_0 15 rfl rfl) rfl
theorem dX0_turnedInCubes_18 : decode cX0_turnedInCubes 18 = .ok (.iconst 1, 1) := jo_4 (jw1 jdcX0_turnedInCubes_0 18 rfl rfl)
theorem dX0_turnedInCubes_19 : decode cX0_turnedInCubes 19 = .ok (.goto 4, 3) := jo_167 (a := 0) (b := 4) (jw3 jdcX0_turnedInCubes_0 19 rfl rfl) rfl
theorem dX0_turnedInCubes_22 : decode cX0_turnedInCubes 22 = .ok (.iconst 0, 1) := jo_3 (jw1 jdcX0_turnedInCubes_0 22 rfl rfl)
theorem dX0_turnedInCubes_23 : decode cX0_turnedInCubes 23 = .ok (.istore_n 3, 1) := jo_62 (jw1 jdcX0_turnedInCubes_0 23 rfl rfl)
theorem jdcX0_turnedInCubes_16 : jwk (cX0_turnedInCubes.data.toList.drop 24) [26, 16, 7, 126, 28, 122, 4, 126, 4, 160, 0, 7, 4, 167, 0, 4, 3, 54, 4, 6, 26, 6] = true := by decide +kernel
theorem dX0_turnedInCubes_24 : decode cX0_turnedInCubes 24 = .ok (.iload_n 0, 1) := jo_26 (jw1 jdcX0_turnedInCubes_16 0 rfl rfl)
theorem dX0_turnedInCubes_25 : decode cX0_turnedInCubes 25 = .ok (.bipush 7, 2) := jo_16 (a := 7) (jw2 jdcX0_turnedInCubes_16 1 rfl rfl) rfl
theorem dX0_turnedInCubes_27 : decode cX0_turnedInCubes 27 = .ok (.iand, 1) := jo_126 (jw1 jdcX0_turnedInCubes_16 3 rfl rfl)
theorem dX0_turnedInCubes_28 : decode cX0_turnedInCubes 28 = .ok (.iload_n 2, 1) := jo_28 (jw1 jdcX0_turnedInCubes_16 4 rfl rfl)
theorem dX0_turnedInCubes_29 : decode cX0_turnedInCubes 29 = .ok (.ishr, 1) := jo_122 (jw1 jdcX0_turnedInCubes_16 5 rfl rfl)
theorem dX0_turnedInCubes_30 : decode cX0_turnedInCubes 30 = .ok (.iconst 1, 1) := jo_4 (jw1 jdcX0_turnedInCubes_16 6 rfl rfl)
theorem dX0_turnedInCubes_31 : decode cX0_turnedInCubes 31 = .ok (.iand, 1) := jo_126 (jw1 jdcX0_turnedInCubes_16 7 rfl rfl)
theorem dX0_turnedInCubes_32 : decode cX0_turnedInCubes 32 = .ok (.iconst 1, 1) := jo_4 (jw1 jdcX0_turnedInCubes_16 8 rfl rfl)
theorem dX0_turnedInCubes_33 : decode cX0_turnedInCubes 33 = .ok (.if_icmp .ne 7, 3) := jo_160 (a := 0) (b := 7) (jw3 jdcX0_turnedInCubes_16 9 rfl rfl) rfl
theorem dX0_turnedInCubes_36 : decode cX0_turnedInCubes 36 = .ok (.iconst 1, 1) := jo_4 (jw1 jdcX0_turnedInCubes_16 12 rfl rfl)
theorem dX0_turnedInCubes_37 : decode cX0_turnedInCubes 37 = .ok (.goto 4, 3) := jo_167 (a := 0) (b := 4) (jw3 jdcX0_turnedInCubes_16 13 rfl rfl) rfl
theorem dX0_turnedInCubes_40 : decode cX0_turnedInCubes 40 = .ok (.iconst 0, 1) := jo_3 (jw1 jdcX0_turnedInCubes_16 16 rfl rfl)
theorem dX0_turnedInCubes_41 : decode cX0_turnedInCubes 41 = .ok (.istore 4, 2) := jo_54 (jw2 jdcX0_turnedInCubes_16 17 rfl rfl)
theorem dX0_turnedInCubes_43 : decode cX0_turnedInCubes 43 = .ok (.iconst 3, 1) := jo_6 (jw1 jdcX0_turnedInCubes_16 19 rfl rfl)
theorem dX0_turnedInCubes_44 : decode cX0_turnedInCubes 44 = .ok (.iload_n 0, 1) := jo_26 (jw1 jdcX0_turnedInCubes_16 20 rfl rfl)
theorem dX0_turnedInCubes_45 : decode cX0_turnedInCubes 45 = .ok (.iconst 3, 1) := jo_6 (jw1 jdcX0_turnedInCubes_16 21 rfl rfl)
theorem jdcX0_turnedInCubes_32 : jwk (cX0_turnedInCubes.data.toList.drop 46) [122, 104, 28, 96, 54, 5, 21, 5, 155, 0, 21, 21, 5, 178, 0, 33, 190, 162, 0, 12, 178, 0, 33, 21, 5, 46, 167, 0, 4, 28] = true := by decide +kernel
theorem dX0_turnedInCubes_46 : decode cX0_turnedInCubes 46 = .ok (.ishr, 1) := jo_122 (jw1 jdcX0_turnedInCubes_32 0 rfl rfl)
theorem dX0_turnedInCubes_47 : decode cX0_turnedInCubes 47 = .ok (.imul, 1) := jo_104 (jw1 jdcX0_turnedInCubes_32 1 rfl rfl)
theorem dX0_turnedInCubes_48 : decode cX0_turnedInCubes 48 = .ok (.iload_n 2, 1) := jo_28 (jw1 jdcX0_turnedInCubes_32 2 rfl rfl)
theorem dX0_turnedInCubes_49 : decode cX0_turnedInCubes 49 = .ok (.iadd, 1) := jo_96 (jw1 jdcX0_turnedInCubes_32 3 rfl rfl)
theorem dX0_turnedInCubes_50 : decode cX0_turnedInCubes 50 = .ok (.istore 5, 2) := jo_54 (jw2 jdcX0_turnedInCubes_32 4 rfl rfl)
theorem dX0_turnedInCubes_52 : decode cX0_turnedInCubes 52 = .ok (.iload 5, 2) := jo_21 (jw2 jdcX0_turnedInCubes_32 6 rfl rfl)
theorem dX0_turnedInCubes_54 : decode cX0_turnedInCubes 54 = .ok (.ifCond .lt 21, 3) := jo_155 (a := 0) (b := 21) (jw3 jdcX0_turnedInCubes_32 8 rfl rfl) rfl
theorem dX0_turnedInCubes_57 : decode cX0_turnedInCubes 57 = .ok (.iload 5, 2) := jo_21 (jw2 jdcX0_turnedInCubes_32 11 rfl rfl)
theorem dX0_turnedInCubes_59 : decode cX0_turnedInCubes 59 = .ok (.getstatic 33, 3) := jo_178 (a := 0) (b := 33) (jw3 jdcX0_turnedInCubes_32 13 rfl rfl) rfl
theorem dX0_turnedInCubes_62 : decode cX0_turnedInCubes 62 = .ok (.arraylength, 1) := jo_190 (jw1 jdcX0_turnedInCubes_32 16 rfl rfl)
theorem dX0_turnedInCubes_63 : decode cX0_turnedInCubes 63 = .ok (.if_icmp .ge 12, 3) := jo_162 (a := 0) (b := 12) (jw3 jdcX0_turnedInCubes_32 17 rfl rfl) rfl
theorem dX0_turnedInCubes_66 : decode cX0_turnedInCubes 66 = .ok (.getstatic 33, 3) := jo_178 (a := 0) (b := 33) (jw3 jdcX0_turnedInCubes_32 20 rfl rfl) rfl
theorem dX0_turnedInCubes_69 : decode cX0_turnedInCubes 69 = .ok (.iload 5, 2) := jo_21 (jw2 jdcX0_turnedInCubes_32 23 rfl rfl)
theorem dX0_turnedInCubes_71 : decode cX0_turnedInCubes 71 = .ok (.iaload, 1) := jo_46 (jw1 jdcX0_turnedInCubes_32 25 rfl rfl)
theorem dX0_turnedInCubes_72 : decode cX0_turnedInCubes 72 = .ok (.goto 4, 3) := jo_167 (a := 0) (b := 4) (jw3 jdcX0_turnedInCubes_32 26 rfl rfl) rfl
theorem dX0_turnedInCubes_75 : decode cX0_turnedInCubes 75 = .ok (.iload_n 2, 1) := jo_28 (jw1 jdcX0_turnedInCubes_32 29 rfl rfl)
theorem jdcX0_turnedInCubes_48 : jwk (cX0_turnedInCubes.data.toList.drop 76) [54, 6, 29, 21, 4, 160, 0, 8, 21, 6, 167, 0, 7, 21, 6, 6, 96, 172] = true := by decide +kernel
theorem dX0_turnedInCubes_76 : decode cX0_turnedInCubes 76 = .ok (.istore 6, 2) := jo_54 (jw2 jdcX0_turnedInCubes_48 0 rfl rfl)
theorem dX0_turnedInCubes_78 : decode cX0_turnedInCubes 78 = .ok (.iload_n 3, 1) := jo_29 (jw1 jdcX0_turnedInCubes_48 2 rfl rfl)
theorem dX0_turnedInCubes_79 : decode cX0_turnedInCubes 79 = .ok (.iload 4, 2) := jo_21 (jw2 jdcX0_turnedInCubes_48 3 rfl rfl)
theorem dX0_turnedInCubes_81 : decode cX0_turnedInCubes 81 = .ok (.if_icmp .ne 8, 3) := jo_160 (a := 0) (b := 8) (jw3 jdcX0_turnedInCubes_48 5 rfl rfl) rfl
theorem dX0_turnedInCubes_84 : decode cX0_turnedInCubes 84 = .ok (.iload 6, 2) := jo_21 (jw2 jdcX0_turnedInCubes_48 8 rfl rfl)
theorem dX0_turnedInCubes_86 : decode cX0_turnedInCubes 86 = .ok (.goto 7, 3) := jo_167 (a := 0) (b := 7) (jw3 jdcX0_turnedInCubes_48 10 rfl rfl) rfl
theorem dX0_turnedInCubes_89 : decode cX0_turnedInCubes 89 = .ok (.iload 6, 2) := jo_21 (jw2 jdcX0_turnedInCubes_48 13 rfl rfl)
theorem dX0_turnedInCubes_91 : decode cX0_turnedInCubes 91 = .ok (.iconst 3, 1) := jo_6 (jw1 jdcX0_turnedInCubes_48 15 rfl rfl)
theorem dX0_turnedInCubes_92 : decode cX0_turnedInCubes 92 = .ok (.iadd, 1) := jo_96 (jw1 jdcX0_turnedInCubes_48 16 rfl rfl)
theorem dX0_turnedInCubes_93 : decode cX0_turnedInCubes 93 = .ok (.ireturn, 1) := jo_172 (jw1 jdcX0_turnedInCubes_48 17 rfl rfl)
theorem jdcX0_isBesideBeginning_0 : jwk (cX0_isBesideBeginning.data.toList.drop 0) [26, 27, 28, 29, 184, 0, 36, 4, 160, 0, 16, 26, 5, 160, 0, 7, 28, 155, 0, 7, 4, 167, 0, 4, 3, 172] = true := by decide +kernel
theorem dX0_isBesideBeginning_0 : decode cX0_isBesideBeginning 0 = .ok (.iload_n 0, 1) := jo_26 (jw1 jdcX0_isBesideBeginning_0 0 rfl rfl)
theorem dX0_isBesideBeginning_1 : decode cX0_isBesideBeginning 1 = .ok (.iload_n 1, 1) := jo_27 (jw1 jdcX0_isBesideBeginning_0 1 rfl rfl)
theorem dX0_isBesideBeginning_2 : decode cX0_isBesideBeginning 2 = .ok (.iload_n 2, 1) := jo_28 (jw1 jdcX0_isBesideBeginning_0 2 rfl rfl)
theorem dX0_isBesideBeginning_3 : decode cX0_isBesideBeginning 3 = .ok (.iload_n 3, 1) := jo_29 (jw1 jdcX0_isBesideBeginning_0 3 rfl rfl)
theorem dX0_isBesideBeginning_4 : decode cX0_isBesideBeginning 4 = .ok (.invokestatic 36, 3) := jo_184 (a := 0) (b := 36) (jw3 jdcX0_isBesideBeginning_0 4 rfl rfl) rfl
theorem dX0_isBesideBeginning_7 : decode cX0_isBesideBeginning 7 = .ok (.iconst 1, 1) := jo_4 (jw1 jdcX0_isBesideBeginning_0 7 rfl rfl)
theorem dX0_isBesideBeginning_8 : decode cX0_isBesideBeginning 8 = .ok (.if_icmp .ne 16, 3) := jo_160 (a := 0) (b := 16) (jw3 jdcX0_isBesideBeginning_0 8 rfl rfl) rfl
theorem dX0_isBesideBeginning_11 : decode cX0_isBesideBeginning 11 = .ok (.iload_n 0, 1) := jo_26 (jw1 jdcX0_isBesideBeginning_0 11 rfl rfl)
theorem dX0_isBesideBeginning_12 : decode cX0_isBesideBeginning 12 = .ok (.iconst 2, 1) := jo_5 (jw1 jdcX0_isBesideBeginning_0 12 rfl rfl)
theorem dX0_isBesideBeginning_13 : decode cX0_isBesideBeginning 13 = .ok (.if_icmp .ne 7, 3) := jo_160 (a := 0) (b := 7) (jw3 jdcX0_isBesideBeginning_0 13 rfl rfl) rfl
theorem dX0_isBesideBeginning_16 : decode cX0_isBesideBeginning 16 = .ok (.iload_n 2, 1) := jo_28 (jw1 jdcX0_isBesideBeginning_0 16 rfl rfl)
theorem dX0_isBesideBeginning_17 : decode cX0_isBesideBeginning 17 = .ok (.ifCond .lt 7, 3) := jo_155 (a := 0) (b := 7) (jw3 jdcX0_isBesideBeginning_0 17 rfl rfl) rfl
theorem dX0_isBesideBeginning_20 : decode cX0_isBesideBeginning 20 = .ok (.iconst 1, 1) := jo_4 (jw1 jdcX0_isBesideBeginning_0 20 rfl rfl)
theorem dX0_isBesideBeginning_21 : decode cX0_isBesideBeginning 21 = .ok (.goto 4, 3) := jo_167 (a := 0) (b := 4) (jw3 jdcX0_isBesideBeginning_0 21 rfl rfl) rfl
theorem dX0_isBesideBeginning_24 : decode cX0_isBesideBeginning 24 = .ok (.iconst 0, 1) := jo_3 (jw1 jdcX0_isBesideBeginning_0 24 rfl rfl)
theorem dX0_isBesideBeginning_25 : decode cX0_isBesideBeginning 25 = .ok (.ireturn, 1) := jo_172 (jw1 jdcX0_isBesideBeginning_0 25 rfl rfl)
theorem jdcX1_writeForm_0 : jwk (cX1_writeForm.data.toList.drop 0) [3, 61, 28, 42, 180, 0, 9, 162, 0, 19, 43, 28, 42, 28, 182, 0, 15, 184, 0, 19, 132, 2, 1, 167, 255, 235, 3, 61] = true := by decide +kernel
theorem dX1_writeForm_0 : decode cX1_writeForm 0 = .ok (.iconst 0, 1) := jo_3 (jw1 jdcX1_writeForm_0 0 rfl rfl)
theorem dX1_writeForm_1 : decode cX1_writeForm 1 = .ok (.istore_n 2, 1) := jo_61 (jw1 jdcX1_writeForm_0 1 rfl rfl)
theorem dX1_writeForm_2 : decode cX1_writeForm 2 = .ok (.iload_n 2, 1) := jo_28 (jw1 jdcX1_writeForm_0 2 rfl rfl)
theorem dX1_writeForm_3 : decode cX1_writeForm 3 = .ok (.aload_n 0, 1) := jo_42 (jw1 jdcX1_writeForm_0 3 rfl rfl)
theorem dX1_writeForm_4 : decode cX1_writeForm 4 = .ok (.getfield 9, 3) := jo_180 (a := 0) (b := 9) (jw3 jdcX1_writeForm_0 4 rfl rfl) rfl
theorem dX1_writeForm_7 : decode cX1_writeForm 7 = .ok (.if_icmp .ge 19, 3) := jo_162 (a := 0) (b := 19) (jw3 jdcX1_writeForm_0 7 rfl rfl) rfl
theorem dX1_writeForm_10 : decode cX1_writeForm 10 = .ok (.aload_n 1, 1) := jo_43 (jw1 jdcX1_writeForm_0 10 rfl rfl)
theorem dX1_writeForm_11 : decode cX1_writeForm 11 = .ok (.iload_n 2, 1) := jo_28 (jw1 jdcX1_writeForm_0 11 rfl rfl)
theorem dX1_writeForm_12 : decode cX1_writeForm 12 = .ok (.aload_n 0, 1) := jo_42 (jw1 jdcX1_writeForm_0 12 rfl rfl)
theorem dX1_writeForm_13 : decode cX1_writeForm 13 = .ok (.iload_n 2, 1) := jo_28 (jw1 jdcX1_writeForm_0 13 rfl rfl)
theorem dX1_writeForm_14 : decode cX1_writeForm 14 = .ok (.invokevirtual 15, 3) := jo_182 (a := 0) (b := 15) (jw3 jdcX1_writeForm_0 14 rfl rfl) rfl
theorem dX1_writeForm_17 : decode cX1_writeForm 17 = .ok (.invokestatic 19, 3) := jo_184 (a := 0) (b := 19) (jw3 jdcX1_writeForm_0 17 rfl rfl) rfl
theorem dX1_writeForm_20 : decode cX1_writeForm 20 = .ok (.iinc 2 1, 3) := jo_132 (a := 2) (b := 1) (jw3 jdcX1_writeForm_0 20 rfl rfl) rfl
theorem dX1_writeForm_23 : decode cX1_writeForm 23 = .ok (.goto (-21), 3) := jo_167 (a := 255) (b := 235) (jw3 jdcX1_writeForm_0 23 rfl rfl) rfl
theorem dX1_writeForm_26 : decode cX1_writeForm 26 = .ok (.iconst 0, 1) := jo_3 (jw1 jdcX1_writeForm_0 26 rfl rfl)
theorem dX1_writeForm_27 : decode cX1_writeForm 27 = .ok (.istore_n 2, 1) := jo_61 (jw1 jdcX1_writeForm_0 27 rfl rfl)
theorem jdcX1_writeForm_16 : jwk (cX1_writeForm.data.toList.drop 28) [28, 42, 180, 0, 23, 184, 0, 26, 162, 0, 23, 42, 28, 3, 43, 184, 0, 31, 42, 28, 4, 43, 184, 0, 31, 132, 2, 1] = true := by decide +kernel
theorem dX1_writeForm_28 : decode cX1_writeForm 28 = .ok (.iload_n 2, 1) := jo_28 (jw1 jdcX1_writeForm_16 0 rfl rfl)
theorem dX1_writeForm_29 : decode cX1_writeForm 29 = .ok (.aload_n 0, 1) := jo_42 (jw1 jdcX1_writeForm_16 1 rfl rfl)
theorem dX1_writeForm_30 : decode cX1_writeForm 30 = .ok (.getfield 23, 3) := jo_180 (a := 0) (b := 23) (jw3 jdcX1_writeForm_16 2 rfl rfl) rfl
theorem dX1_writeForm_33 : decode cX1_writeForm 33 = .ok (.invokestatic 26, 3) := jo_184 (a := 0) (b := 26) (jw3 jdcX1_writeForm_16 5 rfl rfl) rfl
theorem dX1_writeForm_36 : decode cX1_writeForm 36 = .ok (.if_icmp .ge 23, 3) := jo_162 (a := 0) (b := 23) (jw3 jdcX1_writeForm_16 8 rfl rfl) rfl
theorem dX1_writeForm_39 : decode cX1_writeForm 39 = .ok (.aload_n 0, 1) := jo_42 (jw1 jdcX1_writeForm_16 11 rfl rfl)
theorem dX1_writeForm_40 : decode cX1_writeForm 40 = .ok (.iload_n 2, 1) := jo_28 (jw1 jdcX1_writeForm_16 12 rfl rfl)
theorem dX1_writeForm_41 : decode cX1_writeForm 41 = .ok (.iconst 0, 1) := jo_3 (jw1 jdcX1_writeForm_16 13 rfl rfl)
theorem dX1_writeForm_42 : decode cX1_writeForm 42 = .ok (.aload_n 1, 1) := jo_43 (jw1 jdcX1_writeForm_16 14 rfl rfl)
theorem dX1_writeForm_43 : decode cX1_writeForm 43 = .ok (.invokestatic 31, 3) := jo_184 (a := 0) (b := 31) (jw3 jdcX1_writeForm_16 15 rfl rfl) rfl
theorem dX1_writeForm_46 : decode cX1_writeForm 46 = .ok (.aload_n 0, 1) := jo_42 (jw1 jdcX1_writeForm_16 18 rfl rfl)
theorem dX1_writeForm_47 : decode cX1_writeForm 47 = .ok (.iload_n 2, 1) := jo_28 (jw1 jdcX1_writeForm_16 19 rfl rfl)
theorem dX1_writeForm_48 : decode cX1_writeForm 48 = .ok (.iconst 1, 1) := jo_4 (jw1 jdcX1_writeForm_16 20 rfl rfl)
theorem dX1_writeForm_49 : decode cX1_writeForm 49 = .ok (.aload_n 1, 1) := jo_43 (jw1 jdcX1_writeForm_16 21 rfl rfl)
theorem dX1_writeForm_50 : decode cX1_writeForm 50 = .ok (.invokestatic 31, 3) := jo_184 (a := 0) (b := 31) (jw3 jdcX1_writeForm_16 22 rfl rfl) rfl
theorem dX1_writeForm_53 : decode cX1_writeForm 53 = .ok (.iinc 2 1, 3) := jo_132 (a := 2) (b := 1) (jw3 jdcX1_writeForm_16 25 rfl rfl) rfl
theorem jdcX1_writeForm_32 : jwk (cX1_writeForm.data.toList.drop 56) [167, 255, 228, 177] = true := by decide +kernel
theorem dX1_writeForm_56 : decode cX1_writeForm 56 = .ok (.goto (-28), 3) := jo_167 (a := 255) (b := 228) (jw3 jdcX1_writeForm_32 0 rfl rfl) rfl
theorem dX1_writeForm_59 : decode cX1_writeForm 59 = .ok (.return_, 1) := jo_177 (jw1 jdcX1_writeForm_32 3 rfl rfl)
theorem jdcX1_keepLesser_0 : jwk (cX1_keepLesser.data.toList.drop 0) [42, 27, 28, 45, 184, 0, 37, 154, 0, 4, 177, 3, 54, 4, 21, 4, 42, 180, 0, 9, 162, 0, 23, 45, 21, 4, 42] = true := by decide +kernel
theorem dX1_keepLesser_0 : decode cX1_keepLesser 0 = .ok (.aload_n 0, 1) := jo_42 (jw1 jdcX1_keepLesser_0 0 rfl rfl)
theorem dX1_keepLesser_1 : decode cX1_keepLesser 1 = .ok (.iload_n 1, 1) := jo_27 (jw1 jdcX1_keepLesser_0 1 rfl rfl)
theorem dX1_keepLesser_2 : decode cX1_keepLesser 2 = .ok (.iload_n 2, 1) := jo_28 (jw1 jdcX1_keepLesser_0 2 rfl rfl)
theorem dX1_keepLesser_3 : decode cX1_keepLesser 3 = .ok (.aload_n 3, 1) := jo_45 (jw1 jdcX1_keepLesser_0 3 rfl rfl)
theorem dX1_keepLesser_4 : decode cX1_keepLesser 4 = .ok (.invokestatic 37, 3) := jo_184 (a := 0) (b := 37) (jw3 jdcX1_keepLesser_0 4 rfl rfl) rfl
theorem dX1_keepLesser_7 : decode cX1_keepLesser 7 = .ok (.ifCond .ne 4, 3) := jo_154 (a := 0) (b := 4) (jw3 jdcX1_keepLesser_0 7 rfl rfl) rfl
theorem dX1_keepLesser_10 : decode cX1_keepLesser 10 = .ok (.return_, 1) := jo_177 (jw1 jdcX1_keepLesser_0 10 rfl rfl)
theorem dX1_keepLesser_11 : decode cX1_keepLesser 11 = .ok (.iconst 0, 1) := jo_3 (jw1 jdcX1_keepLesser_0 11 rfl rfl)
theorem dX1_keepLesser_12 : decode cX1_keepLesser 12 = .ok (.istore 4, 2) := jo_54 (jw2 jdcX1_keepLesser_0 12 rfl rfl)
theorem dX1_keepLesser_14 : decode cX1_keepLesser 14 = .ok (.iload 4, 2) := jo_21 (jw2 jdcX1_keepLesser_0 14 rfl rfl)
theorem dX1_keepLesser_16 : decode cX1_keepLesser 16 = .ok (.aload_n 0, 1) := jo_42 (jw1 jdcX1_keepLesser_0 16 rfl rfl)
theorem dX1_keepLesser_17 : decode cX1_keepLesser 17 = .ok (.getfield 9, 3) := jo_180 (a := 0) (b := 9) (jw3 jdcX1_keepLesser_0 17 rfl rfl) rfl
theorem dX1_keepLesser_20 : decode cX1_keepLesser 20 = .ok (.if_icmp .ge 23, 3) := jo_162 (a := 0) (b := 23) (jw3 jdcX1_keepLesser_0 20 rfl rfl) rfl
theorem dX1_keepLesser_23 : decode cX1_keepLesser 23 = .ok (.aload_n 3, 1) := jo_45 (jw1 jdcX1_keepLesser_0 23 rfl rfl)
theorem dX1_keepLesser_24 : decode cX1_keepLesser 24 = .ok (.iload 4, 2) := jo_21 (jw2 jdcX1_keepLesser_0 24 rfl rfl)
theorem dX1_keepLesser_26 : decode cX1_keepLesser 26 = .ok (.aload_n 0, 1) := jo_42 (jw1 jdcX1_keepLesser_0 26 rfl rfl)
theorem jdcX1_keepLesser_16 : jwk (cX1_keepLesser.data.toList.drop 27) [27, 28, 21, 4, 184, 0, 41, 184, 0, 19, 132, 4, 1, 167, 255, 230, 177] = true := by decide +kernel
theorem dX1_keepLesser_27 : decode cX1_keepLesser 27 = .ok (.iload_n 1, 1) := jo_27 (jw1 jdcX1_keepLesser_16 0 rfl rfl)
theorem dX1_keepLesser_28 : decode cX1_keepLesser 28 = .ok (.iload_n 2, 1) := jo_28 (jw1 jdcX1_keepLesser_16 1 rfl rfl)
theorem dX1_keepLesser_29 : decode cX1_keepLesser 29 = .ok (.iload 4, 2) := jo_21 (jw2 jdcX1_keepLesser_16 2 rfl rfl)
theorem dX1_keepLesser_31 : decode cX1_keepLesser 31 = .ok (.invokestatic 41, 3) := jo_184 (a := 0) (b := 41) (jw3 jdcX1_keepLesser_16 4 rfl rfl) rfl
theorem dX1_keepLesser_34 : decode cX1_keepLesser 34 = .ok (.invokestatic 19, 3) := jo_184 (a := 0) (b := 19) (jw3 jdcX1_keepLesser_16 7 rfl rfl) rfl
theorem dX1_keepLesser_37 : decode cX1_keepLesser 37 = .ok (.iinc 4 1, 3) := jo_132 (a := 4) (b := 1) (jw3 jdcX1_keepLesser_16 10 rfl rfl) rfl
theorem dX1_keepLesser_40 : decode cX1_keepLesser 40 = .ok (.goto (-26), 3) := jo_167 (a := 255) (b := 230) (jw3 jdcX1_keepLesser_16 13 rfl rfl) rfl
theorem dX1_keepLesser_43 : decode cX1_keepLesser 43 = .ok (.return_, 1) := jo_177 (jw1 jdcX1_keepLesser_16 16 rfl rfl)
theorem jdcX1_turnedStep_0 : jwk (cX1_turnedStep.data.toList.drop 0) [28, 153, 0, 25, 42, 180, 0, 23, 42, 42, 180, 0, 9, 4, 100, 29, 100, 182, 0, 15, 184, 0, 45, 167, 0, 8, 42, 29] = true := by decide +kernel
theorem dX1_turnedStep_0 : decode cX1_turnedStep 0 = .ok (.iload_n 2, 1) := jo_28 (jw1 jdcX1_turnedStep_0 0 rfl rfl)
theorem dX1_turnedStep_1 : decode cX1_turnedStep 1 = .ok (.ifCond .eq 25, 3) := jo_153 (a := 0) (b := 25) (jw3 jdcX1_turnedStep_0 1 rfl rfl) rfl
theorem dX1_turnedStep_4 : decode cX1_turnedStep 4 = .ok (.aload_n 0, 1) := jo_42 (jw1 jdcX1_turnedStep_0 4 rfl rfl)
theorem dX1_turnedStep_5 : decode cX1_turnedStep 5 = .ok (.getfield 23, 3) := jo_180 (a := 0) (b := 23) (jw3 jdcX1_turnedStep_0 5 rfl rfl) rfl
theorem dX1_turnedStep_8 : decode cX1_turnedStep 8 = .ok (.aload_n 0, 1) := jo_42 (jw1 jdcX1_turnedStep_0 8 rfl rfl)
theorem dX1_turnedStep_9 : decode cX1_turnedStep 9 = .ok (.aload_n 0, 1) := jo_42 (jw1 jdcX1_turnedStep_0 9 rfl rfl)
theorem dX1_turnedStep_10 : decode cX1_turnedStep 10 = .ok (.getfield 9, 3) := jo_180 (a := 0) (b := 9) (jw3 jdcX1_turnedStep_0 10 rfl rfl) rfl
theorem dX1_turnedStep_13 : decode cX1_turnedStep 13 = .ok (.iconst 1, 1) := jo_4 (jw1 jdcX1_turnedStep_0 13 rfl rfl)
theorem dX1_turnedStep_14 : decode cX1_turnedStep 14 = .ok (.isub, 1) := jo_100 (jw1 jdcX1_turnedStep_0 14 rfl rfl)
theorem dX1_turnedStep_15 : decode cX1_turnedStep 15 = .ok (.iload_n 3, 1) := jo_29 (jw1 jdcX1_turnedStep_0 15 rfl rfl)
theorem dX1_turnedStep_16 : decode cX1_turnedStep 16 = .ok (.isub, 1) := jo_100 (jw1 jdcX1_turnedStep_0 16 rfl rfl)
theorem dX1_turnedStep_17 : decode cX1_turnedStep 17 = .ok (.invokevirtual 15, 3) := jo_182 (a := 0) (b := 15) (jw3 jdcX1_turnedStep_0 17 rfl rfl) rfl
theorem dX1_turnedStep_20 : decode cX1_turnedStep 20 = .ok (.invokestatic 45, 3) := jo_184 (a := 0) (b := 45) (jw3 jdcX1_turnedStep_0 20 rfl rfl) rfl
theorem dX1_turnedStep_23 : decode cX1_turnedStep 23 = .ok (.goto 8, 3) := jo_167 (a := 0) (b := 8) (jw3 jdcX1_turnedStep_0 23 rfl rfl) rfl
theorem dX1_turnedStep_26 : decode cX1_turnedStep 26 = .ok (.aload_n 0, 1) := jo_42 (jw1 jdcX1_turnedStep_0 26 rfl rfl)
theorem dX1_turnedStep_27 : decode cX1_turnedStep 27 = .ok (.iload_n 3, 1) := jo_29 (jw1 jdcX1_turnedStep_0 27 rfl rfl)
theorem jdcX1_turnedStep_16 : jwk (cX1_turnedStep.data.toList.drop 28) [182, 0, 15, 54, 4, 42, 180, 0, 23, 27, 21, 4, 184, 0, 49, 172] = true := by decide +kernel
theorem dX1_turnedStep_28 : decode cX1_turnedStep 28 = .ok (.invokevirtual 15, 3) := jo_182 (a := 0) (b := 15) (jw3 jdcX1_turnedStep_16 0 rfl rfl) rfl
theorem dX1_turnedStep_31 : decode cX1_turnedStep 31 = .ok (.istore 4, 2) := jo_54 (jw2 jdcX1_turnedStep_16 3 rfl rfl)
theorem dX1_turnedStep_33 : decode cX1_turnedStep 33 = .ok (.aload_n 0, 1) := jo_42 (jw1 jdcX1_turnedStep_16 5 rfl rfl)
theorem dX1_turnedStep_34 : decode cX1_turnedStep 34 = .ok (.getfield 23, 3) := jo_180 (a := 0) (b := 23) (jw3 jdcX1_turnedStep_16 6 rfl rfl) rfl
theorem dX1_turnedStep_37 : decode cX1_turnedStep 37 = .ok (.iload_n 1, 1) := jo_27 (jw1 jdcX1_turnedStep_16 9 rfl rfl)
theorem dX1_turnedStep_38 : decode cX1_turnedStep 38 = .ok (.iload 4, 2) := jo_21 (jw2 jdcX1_turnedStep_16 10 rfl rfl)
theorem dX1_turnedStep_40 : decode cX1_turnedStep 40 = .ok (.invokestatic 49, 3) := jo_184 (a := 0) (b := 49) (jw3 jdcX1_turnedStep_16 12 rfl rfl) rfl
theorem dX1_turnedStep_43 : decode cX1_turnedStep 43 = .ok (.ireturn, 1) := jo_172 (jw1 jdcX1_turnedStep_16 15 rfl rfl)
theorem jdcX1_isBelow_0 : jwk (cX1_isBelow.data.toList.drop 0) [3, 54, 4, 21, 4, 42, 180, 0, 9, 162, 0, 42, 42, 27, 28, 21, 4, 184, 0, 41, 45, 21, 4, 184, 0, 53, 100, 54, 5] = true := by decide +kernel
theorem dX1_isBelow_0 : decode cX1_isBelow 0 = .ok (.iconst 0, 1) := jo_3 (jw1 jdcX1_isBelow_0 0 rfl rfl)
theorem dX1_isBelow_1 : decode cX1_isBelow 1 = .ok (.istore 4, 2) := jo_54 (jw2 jdcX1_isBelow_0 1 rfl rfl)
theorem dX1_isBelow_3 : decode cX1_isBelow 3 = .ok (.iload 4, 2) := jo_21 (jw2 jdcX1_isBelow_0 3 rfl rfl)
theorem dX1_isBelow_5 : decode cX1_isBelow 5 = .ok (.aload_n 0, 1) := jo_42 (jw1 jdcX1_isBelow_0 5 rfl rfl)
theorem dX1_isBelow_6 : decode cX1_isBelow 6 = .ok (.getfield 9, 3) := jo_180 (a := 0) (b := 9) (jw3 jdcX1_isBelow_0 6 rfl rfl) rfl
theorem dX1_isBelow_9 : decode cX1_isBelow 9 = .ok (.if_icmp .ge 42, 3) := jo_162 (a := 0) (b := 42) (jw3 jdcX1_isBelow_0 9 rfl rfl) rfl
theorem dX1_isBelow_12 : decode cX1_isBelow 12 = .ok (.aload_n 0, 1) := jo_42 (jw1 jdcX1_isBelow_0 12 rfl rfl)
theorem dX1_isBelow_13 : decode cX1_isBelow 13 = .ok (.iload_n 1, 1) := jo_27 (jw1 jdcX1_isBelow_0 13 rfl rfl)
theorem dX1_isBelow_14 : decode cX1_isBelow 14 = .ok (.iload_n 2, 1) := jo_28 (jw1 jdcX1_isBelow_0 14 rfl rfl)
theorem dX1_isBelow_15 : decode cX1_isBelow 15 = .ok (.iload 4, 2) := jo_21 (jw2 jdcX1_isBelow_0 15 rfl rfl)
theorem dX1_isBelow_17 : decode cX1_isBelow 17 = .ok (.invokestatic 41, 3) := jo_184 (a := 0) (b := 41) (jw3 jdcX1_isBelow_0 17 rfl rfl) rfl
theorem dX1_isBelow_20 : decode cX1_isBelow 20 = .ok (.aload_n 3, 1) := jo_45 (jw1 jdcX1_isBelow_0 20 rfl rfl)
theorem dX1_isBelow_21 : decode cX1_isBelow 21 = .ok (.iload 4, 2) := jo_21 (jw2 jdcX1_isBelow_0 21 rfl rfl)
theorem dX1_isBelow_23 : decode cX1_isBelow 23 = .ok (.invokestatic 53, 3) := jo_184 (a := 0) (b := 53) (jw3 jdcX1_isBelow_0 23 rfl rfl) rfl
theorem dX1_isBelow_26 : decode cX1_isBelow 26 = .ok (.isub, 1) := jo_100 (jw1 jdcX1_isBelow_0 26 rfl rfl)
theorem dX1_isBelow_27 : decode cX1_isBelow 27 = .ok (.istore 5, 2) := jo_54 (jw2 jdcX1_isBelow_0 27 rfl rfl)
theorem jdcX1_isBelow_16 : jwk (cX1_isBelow.data.toList.drop 29) [21, 5, 153, 0, 14, 21, 5, 156, 0, 7, 4, 167, 0, 4, 3, 172, 132, 4, 1, 167, 255, 211, 3, 172] = true := by decide +kernel
theorem dX1_isBelow_29 : decode cX1_isBelow 29 = .ok (.iload 5, 2) := jo_21 (jw2 jdcX1_isBelow_16 0 rfl rfl)
theorem dX1_isBelow_31 : decode cX1_isBelow 31 = .ok (.ifCond .eq 14, 3) := jo_153 (a := 0) (b := 14) (jw3 jdcX1_isBelow_16 2 rfl rfl) rfl
theorem dX1_isBelow_34 : decode cX1_isBelow 34 = .ok (.iload 5, 2) := jo_21 (jw2 jdcX1_isBelow_16 5 rfl rfl)
theorem dX1_isBelow_36 : decode cX1_isBelow 36 = .ok (.ifCond .ge 7, 3) := jo_156 (a := 0) (b := 7) (jw3 jdcX1_isBelow_16 7 rfl rfl) rfl
theorem dX1_isBelow_39 : decode cX1_isBelow 39 = .ok (.iconst 1, 1) := jo_4 (jw1 jdcX1_isBelow_16 10 rfl rfl)
theorem dX1_isBelow_40 : decode cX1_isBelow 40 = .ok (.goto 4, 3) := jo_167 (a := 0) (b := 4) (jw3 jdcX1_isBelow_16 11 rfl rfl) rfl
theorem dX1_isBelow_43 : decode cX1_isBelow 43 = .ok (.iconst 0, 1) := jo_3 (jw1 jdcX1_isBelow_16 14 rfl rfl)
theorem dX1_isBelow_44 : decode cX1_isBelow 44 = .ok (.ireturn, 1) := jo_172 (jw1 jdcX1_isBelow_16 15 rfl rfl)
theorem dX1_isBelow_45 : decode cX1_isBelow 45 = .ok (.iinc 4 1, 3) := jo_132 (a := 4) (b := 1) (jw3 jdcX1_isBelow_16 16 rfl rfl) rfl
theorem dX1_isBelow_48 : decode cX1_isBelow 48 = .ok (.goto (-45), 3) := jo_167 (a := 255) (b := 211) (jw3 jdcX1_isBelow_16 19 rfl rfl) rfl
theorem dX1_isBelow_51 : decode cX1_isBelow 51 = .ok (.iconst 0, 1) := jo_3 (jw1 jdcX1_isBelow_16 22 rfl rfl)
theorem dX1_isBelow_52 : decode cX1_isBelow 52 = .ok (.ireturn, 1) := jo_172 (jw1 jdcX1_isBelow_16 23 rfl rfl)
theorem jdcX1_isOwnForm_0 : jwk (cX1_isOwnForm.data.toList.drop 0) [3, 60, 27, 42, 180, 0, 23, 184, 0, 26, 162, 0, 37, 42, 27, 3, 42, 180, 0, 57, 184, 0, 37, 154, 0, 16, 42, 27] = true := by decide +kernel
theorem dX1_isOwnForm_0 : decode cX1_isOwnForm 0 = .ok (.iconst 0, 1) := jo_3 (jw1 jdcX1_isOwnForm_0 0 rfl rfl)
theorem dX1_isOwnForm_1 : decode cX1_isOwnForm 1 = .ok (.istore_n 1, 1) := jo_60 (jw1 jdcX1_isOwnForm_0 1 rfl rfl)
theorem dX1_isOwnForm_2 : decode cX1_isOwnForm 2 = .ok (.iload_n 1, 1) := jo_27 (jw1 jdcX1_isOwnForm_0 2 rfl rfl)
theorem dX1_isOwnForm_3 : decode cX1_isOwnForm 3 = .ok (.aload_n 0, 1) := jo_42 (jw1 jdcX1_isOwnForm_0 3 rfl rfl)
theorem dX1_isOwnForm_4 : decode cX1_isOwnForm 4 = .ok (.getfield 23, 3) := jo_180 (a := 0) (b := 23) (jw3 jdcX1_isOwnForm_0 4 rfl rfl) rfl
theorem dX1_isOwnForm_7 : decode cX1_isOwnForm 7 = .ok (.invokestatic 26, 3) := jo_184 (a := 0) (b := 26) (jw3 jdcX1_isOwnForm_0 7 rfl rfl) rfl
theorem dX1_isOwnForm_10 : decode cX1_isOwnForm 10 = .ok (.if_icmp .ge 37, 3) := jo_162 (a := 0) (b := 37) (jw3 jdcX1_isOwnForm_0 10 rfl rfl) rfl
theorem dX1_isOwnForm_13 : decode cX1_isOwnForm 13 = .ok (.aload_n 0, 1) := jo_42 (jw1 jdcX1_isOwnForm_0 13 rfl rfl)
theorem dX1_isOwnForm_14 : decode cX1_isOwnForm 14 = .ok (.iload_n 1, 1) := jo_27 (jw1 jdcX1_isOwnForm_0 14 rfl rfl)
theorem dX1_isOwnForm_15 : decode cX1_isOwnForm 15 = .ok (.iconst 0, 1) := jo_3 (jw1 jdcX1_isOwnForm_0 15 rfl rfl)
theorem dX1_isOwnForm_16 : decode cX1_isOwnForm 16 = .ok (.aload_n 0, 1) := jo_42 (jw1 jdcX1_isOwnForm_0 16 rfl rfl)
theorem dX1_isOwnForm_17 : decode cX1_isOwnForm 17 = .ok (.getfield 57, 3) := jo_180 (a := 0) (b := 57) (jw3 jdcX1_isOwnForm_0 17 rfl rfl) rfl
theorem dX1_isOwnForm_20 : decode cX1_isOwnForm 20 = .ok (.invokestatic 37, 3) := jo_184 (a := 0) (b := 37) (jw3 jdcX1_isOwnForm_0 20 rfl rfl) rfl
theorem dX1_isOwnForm_23 : decode cX1_isOwnForm 23 = .ok (.ifCond .ne 16, 3) := jo_154 (a := 0) (b := 16) (jw3 jdcX1_isOwnForm_0 23 rfl rfl) rfl
theorem dX1_isOwnForm_26 : decode cX1_isOwnForm 26 = .ok (.aload_n 0, 1) := jo_42 (jw1 jdcX1_isOwnForm_0 26 rfl rfl)
theorem dX1_isOwnForm_27 : decode cX1_isOwnForm 27 = .ok (.iload_n 1, 1) := jo_27 (jw1 jdcX1_isOwnForm_0 27 rfl rfl)
theorem jdcX1_isOwnForm_16 : jwk (cX1_isOwnForm.data.toList.drop 28) [4, 42, 180, 0, 57, 184, 0, 37, 153, 0, 5, 3, 172, 132, 1, 1, 167, 255, 214, 4, 172] = true := by decide +kernel
theorem dX1_isOwnForm_28 : decode cX1_isOwnForm 28 = .ok (.iconst 1, 1) := jo_4 (jw1 jdcX1_isOwnForm_16 0 rfl rfl)
theorem dX1_isOwnForm_29 : decode cX1_isOwnForm 29 = .ok (.aload_n 0, 1) := jo_42 (jw1 jdcX1_isOwnForm_16 1 rfl rfl)
theorem dX1_isOwnForm_30 : decode cX1_isOwnForm 30 = .ok (.getfield 57, 3) := jo_180 (a := 0) (b := 57) (jw3 jdcX1_isOwnForm_16 2 rfl rfl) rfl
theorem dX1_isOwnForm_33 : decode cX1_isOwnForm 33 = .ok (.invokestatic 37, 3) := jo_184 (a := 0) (b := 37) (jw3 jdcX1_isOwnForm_16 5 rfl rfl) rfl
theorem dX1_isOwnForm_36 : decode cX1_isOwnForm 36 = .ok (.ifCond .eq 5, 3) := jo_153 (a := 0) (b := 5) (jw3 jdcX1_isOwnForm_16 8 rfl rfl) rfl
theorem dX1_isOwnForm_39 : decode cX1_isOwnForm 39 = .ok (.iconst 0, 1) := jo_3 (jw1 jdcX1_isOwnForm_16 11 rfl rfl)
theorem dX1_isOwnForm_40 : decode cX1_isOwnForm 40 = .ok (.ireturn, 1) := jo_172 (jw1 jdcX1_isOwnForm_16 12 rfl rfl)
theorem dX1_isOwnForm_41 : decode cX1_isOwnForm 41 = .ok (.iinc 1 1, 3) := jo_132 (a := 1) (b := 1) (jw3 jdcX1_isOwnForm_16 13 rfl rfl) rfl
theorem dX1_isOwnForm_44 : decode cX1_isOwnForm 44 = .ok (.goto (-42), 3) := jo_167 (a := 255) (b := 214) (jw3 jdcX1_isOwnForm_16 16 rfl rfl) rfl
theorem dX1_isOwnForm_47 : decode cX1_isOwnForm 47 = .ok (.iconst 1, 1) := jo_4 (jw1 jdcX1_isOwnForm_16 19 rfl rfl)
theorem dX1_isOwnForm_48 : decode cX1_isOwnForm 48 = .ok (.ireturn, 1) := jo_172 (jw1 jdcX1_isOwnForm_16 20 rfl rfl)
theorem jdcX1_countForms_0 : jwk (cX1_countForms.data.toList.drop 0) [28, 27, 162, 0, 9, 28, 16, 7, 161, 0, 16, 42, 184, 0, 61, 153, 0, 7, 4, 167, 0, 4, 3, 172, 3, 62, 3] = true := by decide +kernel
theorem dX1_countForms_0 : decode cX1_countForms 0 = .ok (.iload_n 2, 1) := jo_28 (jw1 jdcX1_countForms_0 0 rfl rfl)
theorem dX1_countForms_1 : decode cX1_countForms 1 = .ok (.iload_n 1, 1) := jo_27 (jw1 jdcX1_countForms_0 1 rfl rfl)
theorem dX1_countForms_2 : decode cX1_countForms 2 = .ok (.if_icmp .ge 9, 3) := jo_162 (a := 0) (b := 9) (jw3 jdcX1_countForms_0 2 rfl rfl) rfl
theorem dX1_countForms_5 : decode cX1_countForms 5 = .ok (.iload_n 2, 1) := jo_28 (jw1 jdcX1_countForms_0 5 rfl rfl)
theorem dX1_countForms_6 : decode cX1_countForms 6 = .ok (.bipush 7, 2) := jo_16 (a := 7) (jw2 jdcX1_countForms_0 6 rfl rfl) rfl
theorem dX1_countForms_8 : decode cX1_countForms 8 = .ok (.if_icmp .lt 16, 3) := jo_161 (a := 0) (b := 16) (jw3 jdcX1_countForms_0 8 rfl rfl) rfl
theorem dX1_countForms_11 : decode cX1_countForms 11 = .ok (.aload_n 0, 1) := jo_42 (jw1 jdcX1_countForms_0 11 rfl rfl)
theorem dX1_countForms_12 : decode cX1_countForms 12 = .ok (.invokestatic 61, 3) := jo_184 (a := 0) (b := 61) (jw3 jdcX1_countForms_0 12 rfl rfl) rfl
theorem dX1_countForms_15 : decode cX1_countForms 15 = .ok (.ifCond .eq 7, 3) := jo_153 (a := 0) (b := 7) (jw3 jdcX1_countForms_0 15 rfl rfl) rfl
theorem dX1_countForms_18 : decode cX1_countForms 18 = .ok (.iconst 1, 1) := jo_4 (jw1 jdcX1_countForms_0 18 rfl rfl)
theorem dX1_countForms_19 : decode cX1_countForms 19 = .ok (.goto 4, 3) := jo_167 (a := 0) (b := 4) (jw3 jdcX1_countForms_0 19 rfl rfl) rfl
theorem dX1_countForms_22 : decode cX1_countForms 22 = .ok (.iconst 0, 1) := jo_3 (jw1 jdcX1_countForms_0 22 rfl rfl)
theorem dX1_countForms_23 : decode cX1_countForms 23 = .ok (.ireturn, 1) := jo_172 (jw1 jdcX1_countForms_0 23 rfl rfl)
theorem dX1_countForms_24 : decode cX1_countForms 24 = .ok (.iconst 0, 1) := jo_3 (jw1 jdcX1_countForms_0 24 rfl rfl)
theorem dX1_countForms_25 : decode cX1_countForms 25 = .ok (.istore_n 3, 1) := jo_62 (jw1 jdcX1_countForms_0 25 rfl rfl)
theorem dX1_countForms_26 : decode cX1_countForms 26 = .ok (.iconst 0, 1) := jo_3 (jw1 jdcX1_countForms_0 26 rfl rfl)
theorem jdcX1_countForms_16 : jwk (cX1_countForms.data.toList.drop 27) [54, 4, 21, 4, 42, 180, 0, 23, 184, 0, 65, 162, 0, 34, 42, 21, 4, 182, 0, 68, 153, 0, 19, 29, 42, 27, 28, 4, 96] = true := by decide +kernel
theorem dX1_countForms_27 : decode cX1_countForms 27 = .ok (.istore 4, 2) := jo_54 (jw2 jdcX1_countForms_16 0 rfl rfl)
theorem dX1_countForms_29 : decode cX1_countForms 29 = .ok (.iload 4, 2) := jo_21 (jw2 jdcX1_countForms_16 2 rfl rfl)
theorem dX1_countForms_31 : decode cX1_countForms 31 = .ok (.aload_n 0, 1) := jo_42 (jw1 jdcX1_countForms_16 4 rfl rfl)
theorem dX1_countForms_32 : decode cX1_countForms 32 = .ok (.getfield 23, 3) := jo_180 (a := 0) (b := 23) (jw3 jdcX1_countForms_16 5 rfl rfl) rfl
theorem dX1_countForms_35 : decode cX1_countForms 35 = .ok (.invokestatic 65, 3) := jo_184 (a := 0) (b := 65) (jw3 jdcX1_countForms_16 8 rfl rfl) rfl
theorem dX1_countForms_38 : decode cX1_countForms 38 = .ok (.if_icmp .ge 34, 3) := jo_162 (a := 0) (b := 34) (jw3 jdcX1_countForms_16 11 rfl rfl) rfl
theorem dX1_countForms_41 : decode cX1_countForms 41 = .ok (.aload_n 0, 1) := jo_42 (jw1 jdcX1_countForms_16 14 rfl rfl)
theorem dX1_countForms_42 : decode cX1_countForms 42 = .ok (.iload 4, 2) := jo_21 (jw2 jdcX1_countForms_16 15 rfl rfl)
theorem dX1_countForms_44 : decode cX1_countForms 44 = .ok (.invokevirtual 68, 3) := jo_182 (a := 0) (b := 68) (jw3 jdcX1_countForms_16 17 rfl rfl) rfl
theorem dX1_countForms_47 : decode cX1_countForms 47 = .ok (.ifCond .eq 19, 3) := jo_153 (a := 0) (b := 19) (jw3 jdcX1_countForms_16 20 rfl rfl) rfl
theorem dX1_countForms_50 : decode cX1_countForms 50 = .ok (.iload_n 3, 1) := jo_29 (jw1 jdcX1_countForms_16 23 rfl rfl)
theorem dX1_countForms_51 : decode cX1_countForms 51 = .ok (.aload_n 0, 1) := jo_42 (jw1 jdcX1_countForms_16 24 rfl rfl)
theorem dX1_countForms_52 : decode cX1_countForms 52 = .ok (.iload_n 1, 1) := jo_27 (jw1 jdcX1_countForms_16 25 rfl rfl)
theorem dX1_countForms_53 : decode cX1_countForms 53 = .ok (.iload_n 2, 1) := jo_28 (jw1 jdcX1_countForms_16 26 rfl rfl)
theorem dX1_countForms_54 : decode cX1_countForms 54 = .ok (.iconst 1, 1) := jo_4 (jw1 jdcX1_countForms_16 27 rfl rfl)
theorem dX1_countForms_55 : decode cX1_countForms 55 = .ok (.iadd, 1) := jo_96 (jw1 jdcX1_countForms_16 28 rfl rfl)
theorem jdcX1_countForms_32 : jwk (cX1_countForms.data.toList.drop 56) [184, 0, 72, 96, 62, 42, 4, 182, 0, 76, 132, 4, 1, 167, 255, 216, 29, 172] = true := by decide +kernel
theorem dX1_countForms_56 : decode cX1_countForms 56 = .ok (.invokestatic 72, 3) := jo_184 (a := 0) (b := 72) (jw3 jdcX1_countForms_32 0 rfl rfl) rfl
theorem dX1_countForms_59 : decode cX1_countForms 59 = .ok (.iadd, 1) := jo_96 (jw1 jdcX1_countForms_32 3 rfl rfl)
theorem dX1_countForms_60 : decode cX1_countForms 60 = .ok (.istore_n 3, 1) := jo_62 (jw1 jdcX1_countForms_32 4 rfl rfl)
theorem dX1_countForms_61 : decode cX1_countForms 61 = .ok (.aload_n 0, 1) := jo_42 (jw1 jdcX1_countForms_32 5 rfl rfl)
theorem dX1_countForms_62 : decode cX1_countForms 62 = .ok (.iconst 1, 1) := jo_4 (jw1 jdcX1_countForms_32 6 rfl rfl)
theorem dX1_countForms_63 : decode cX1_countForms 63 = .ok (.invokevirtual 76, 3) := jo_182 (a := 0) (b := 76) (jw3 jdcX1_countForms_32 7 rfl rfl) rfl
theorem dX1_countForms_66 : decode cX1_countForms 66 = .ok (.iinc 4 1, 3) := jo_132 (a := 4) (b := 1) (jw3 jdcX1_countForms_32 10 rfl rfl) rfl
theorem dX1_countForms_69 : decode cX1_countForms 69 = .ok (.goto (-40), 3) := jo_167 (a := 255) (b := 216) (jw3 jdcX1_countForms_32 13 rfl rfl) rfl
theorem dX1_countForms_72 : decode cX1_countForms 72 = .ok (.iload_n 3, 1) := jo_29 (jw1 jdcX1_countForms_32 16 rfl rfl)
theorem dX1_countForms_73 : decode cX1_countForms 73 = .ok (.ireturn, 1) := jo_172 (jw1 jdcX1_countForms_32 17 rfl rfl)
theorem jdcX2_init_0 : jwk (cX2_init.data.toList.drop 0) [42, 183, 0, 5, 42, 16, 36, 188, 10, 181, 0, 11, 42, 5, 181, 0, 15, 42, 5, 181, 0, 19, 42, 9, 181, 0, 22, 42, 3] = true := by decide +kernel
theorem dX2_init_0 : decode cX2_init 0 = .ok (.aload_n 0, 1) := jo_42 (jw1 jdcX2_init_0 0 rfl rfl)
theorem dX2_init_1 : decode cX2_init 1 = .ok (.invokespecial 5, 3) := jo_183 (a := 0) (b := 5) (jw3 jdcX2_init_0 1 rfl rfl) rfl
theorem dX2_init_4 : decode cX2_init 4 = .ok (.aload_n 0, 1) := jo_42 (jw1 jdcX2_init_0 4 rfl rfl)
theorem dX2_init_5 : decode cX2_init 5 = .ok (.bipush 36, 2) := jo_16 (a := 36) (jw2 jdcX2_init_0 5 rfl rfl) rfl
theorem dX2_init_9 : decode cX2_init 9 = .ok (.putfield 11, 3) := jo_181 (a := 0) (b := 11) (jw3 jdcX2_init_0 9 rfl rfl) rfl
theorem dX2_init_12 : decode cX2_init 12 = .ok (.aload_n 0, 1) := jo_42 (jw1 jdcX2_init_0 12 rfl rfl)
theorem dX2_init_13 : decode cX2_init 13 = .ok (.iconst 2, 1) := jo_5 (jw1 jdcX2_init_0 13 rfl rfl)
theorem dX2_init_14 : decode cX2_init 14 = .ok (.putfield 15, 3) := jo_181 (a := 0) (b := 15) (jw3 jdcX2_init_0 14 rfl rfl) rfl
theorem dX2_init_17 : decode cX2_init 17 = .ok (.aload_n 0, 1) := jo_42 (jw1 jdcX2_init_0 17 rfl rfl)
theorem dX2_init_18 : decode cX2_init 18 = .ok (.iconst 2, 1) := jo_5 (jw1 jdcX2_init_0 18 rfl rfl)
theorem dX2_init_19 : decode cX2_init 19 = .ok (.putfield 19, 3) := jo_181 (a := 0) (b := 19) (jw3 jdcX2_init_0 19 rfl rfl) rfl
theorem dX2_init_22 : decode cX2_init 22 = .ok (.aload_n 0, 1) := jo_42 (jw1 jdcX2_init_0 22 rfl rfl)
theorem dX2_init_23 : decode cX2_init 23 = .ok (.lconst 0, 1) := jo_9 (jw1 jdcX2_init_0 23 rfl rfl)
theorem dX2_init_24 : decode cX2_init 24 = .ok (.putfield 22, 3) := jo_181 (a := 0) (b := 22) (jw3 jdcX2_init_0 24 rfl rfl) rfl
theorem dX2_init_27 : decode cX2_init 27 = .ok (.aload_n 0, 1) := jo_42 (jw1 jdcX2_init_0 27 rfl rfl)
theorem dX2_init_28 : decode cX2_init 28 = .ok (.iconst 0, 1) := jo_3 (jw1 jdcX2_init_0 28 rfl rfl)
theorem jdcX2_init_16 : jwk (cX2_init.data.toList.drop 29) [181, 0, 26, 42, 3, 181, 0, 29, 42, 3, 181, 0, 32, 42, 3, 181, 0, 35, 42, 3, 181, 0, 39, 42, 5, 5] = true := by decide +kernel
theorem dX2_init_29 : decode cX2_init 29 = .ok (.putfield 26, 3) := jo_181 (a := 0) (b := 26) (jw3 jdcX2_init_16 0 rfl rfl) rfl
theorem dX2_init_32 : decode cX2_init 32 = .ok (.aload_n 0, 1) := jo_42 (jw1 jdcX2_init_16 3 rfl rfl)
theorem dX2_init_33 : decode cX2_init 33 = .ok (.iconst 0, 1) := jo_3 (jw1 jdcX2_init_16 4 rfl rfl)
theorem dX2_init_34 : decode cX2_init 34 = .ok (.putfield 29, 3) := jo_181 (a := 0) (b := 29) (jw3 jdcX2_init_16 5 rfl rfl) rfl
theorem dX2_init_37 : decode cX2_init 37 = .ok (.aload_n 0, 1) := jo_42 (jw1 jdcX2_init_16 8 rfl rfl)
theorem dX2_init_38 : decode cX2_init 38 = .ok (.iconst 0, 1) := jo_3 (jw1 jdcX2_init_16 9 rfl rfl)
theorem dX2_init_39 : decode cX2_init 39 = .ok (.putfield 32, 3) := jo_181 (a := 0) (b := 32) (jw3 jdcX2_init_16 10 rfl rfl) rfl
theorem dX2_init_42 : decode cX2_init 42 = .ok (.aload_n 0, 1) := jo_42 (jw1 jdcX2_init_16 13 rfl rfl)
theorem dX2_init_43 : decode cX2_init 43 = .ok (.iconst 0, 1) := jo_3 (jw1 jdcX2_init_16 14 rfl rfl)
theorem dX2_init_44 : decode cX2_init 44 = .ok (.putfield 35, 3) := jo_181 (a := 0) (b := 35) (jw3 jdcX2_init_16 15 rfl rfl) rfl
theorem dX2_init_47 : decode cX2_init 47 = .ok (.aload_n 0, 1) := jo_42 (jw1 jdcX2_init_16 18 rfl rfl)
theorem dX2_init_48 : decode cX2_init 48 = .ok (.iconst 0, 1) := jo_3 (jw1 jdcX2_init_16 19 rfl rfl)
theorem dX2_init_49 : decode cX2_init 49 = .ok (.putfield 39, 3) := jo_181 (a := 0) (b := 39) (jw3 jdcX2_init_16 20 rfl rfl) rfl
theorem dX2_init_52 : decode cX2_init 52 = .ok (.aload_n 0, 1) := jo_42 (jw1 jdcX2_init_16 23 rfl rfl)
theorem dX2_init_53 : decode cX2_init 53 = .ok (.iconst 2, 1) := jo_5 (jw1 jdcX2_init_16 24 rfl rfl)
theorem dX2_init_54 : decode cX2_init 54 = .ok (.iconst 2, 1) := jo_5 (jw1 jdcX2_init_16 25 rfl rfl)
theorem jdcX2_init_32 : jwk (cX2_init.data.toList.drop 55) [182, 0, 42, 177] = true := by decide +kernel
theorem dX2_init_55 : decode cX2_init 55 = .ok (.invokevirtual 42, 3) := jo_182 (a := 0) (b := 42) (jw3 jdcX2_init_32 0 rfl rfl) rfl
theorem dX2_init_58 : decode cX2_init 58 = .ok (.return_, 1) := jo_177 (jw1 jdcX2_init_32 3 rfl rfl)
theorem jdcX2_lay_0 : jwk (cX2_lay.data.toList.drop 0) [42, 27, 181, 0, 15, 42, 28, 181, 0, 19, 42, 9, 181, 0, 22, 3, 62, 29, 42, 180, 0, 19, 162, 0, 42, 3] = true := by decide +kernel
theorem dX2_lay_0 : decode cX2_lay 0 = .ok (.aload_n 0, 1) := jo_42 (jw1 jdcX2_lay_0 0 rfl rfl)
theorem dX2_lay_1 : decode cX2_lay 1 = .ok (.iload_n 1, 1) := jo_27 (jw1 jdcX2_lay_0 1 rfl rfl)
theorem dX2_lay_2 : decode cX2_lay 2 = .ok (.putfield 15, 3) := jo_181 (a := 0) (b := 15) (jw3 jdcX2_lay_0 2 rfl rfl) rfl
theorem dX2_lay_5 : decode cX2_lay 5 = .ok (.aload_n 0, 1) := jo_42 (jw1 jdcX2_lay_0 5 rfl rfl)
theorem dX2_lay_6 : decode cX2_lay 6 = .ok (.iload_n 2, 1) := jo_28 (jw1 jdcX2_lay_0 6 rfl rfl)
theorem dX2_lay_7 : decode cX2_lay 7 = .ok (.putfield 19, 3) := jo_181 (a := 0) (b := 19) (jw3 jdcX2_lay_0 7 rfl rfl) rfl
theorem dX2_lay_10 : decode cX2_lay 10 = .ok (.aload_n 0, 1) := jo_42 (jw1 jdcX2_lay_0 10 rfl rfl)
theorem dX2_lay_11 : decode cX2_lay 11 = .ok (.lconst 0, 1) := jo_9 (jw1 jdcX2_lay_0 11 rfl rfl)
theorem dX2_lay_12 : decode cX2_lay 12 = .ok (.putfield 22, 3) := jo_181 (a := 0) (b := 22) (jw3 jdcX2_lay_0 12 rfl rfl) rfl
theorem dX2_lay_15 : decode cX2_lay 15 = .ok (.iconst 0, 1) := jo_3 (jw1 jdcX2_lay_0 15 rfl rfl)
theorem dX2_lay_16 : decode cX2_lay 16 = .ok (.istore_n 3, 1) := jo_62 (jw1 jdcX2_lay_0 16 rfl rfl)
theorem dX2_lay_17 : decode cX2_lay 17 = .ok (.iload_n 3, 1) := jo_29 (jw1 jdcX2_lay_0 17 rfl rfl)
theorem dX2_lay_18 : decode cX2_lay 18 = .ok (.aload_n 0, 1) := jo_42 (jw1 jdcX2_lay_0 18 rfl rfl)
theorem dX2_lay_19 : decode cX2_lay 19 = .ok (.getfield 19, 3) := jo_180 (a := 0) (b := 19) (jw3 jdcX2_lay_0 19 rfl rfl) rfl
theorem dX2_lay_22 : decode cX2_lay 22 = .ok (.if_icmp .ge 42, 3) := jo_162 (a := 0) (b := 42) (jw3 jdcX2_lay_0 22 rfl rfl) rfl
theorem dX2_lay_25 : decode cX2_lay 25 = .ok (.iconst 0, 1) := jo_3 (jw1 jdcX2_lay_0 25 rfl rfl)
theorem jdcX2_lay_16 : jwk (cX2_lay.data.toList.drop 26) [54, 4, 21, 4, 42, 180, 0, 15, 162, 0, 24, 42, 89, 180, 0, 22, 21, 4, 29, 184, 0, 46, 129, 181, 0, 22, 132, 4, 1, 167, 255, 229, 132, 3, 1] = true := by decide +kernel
theorem dX2_lay_26 : decode cX2_lay 26 = .ok (.istore 4, 2) := jo_54 (jw2 jdcX2_lay_16 0 rfl rfl)
theorem dX2_lay_28 : decode cX2_lay 28 = .ok (.iload 4, 2) := jo_21 (jw2 jdcX2_lay_16 2 rfl rfl)
theorem dX2_lay_30 : decode cX2_lay 30 = .ok (.aload_n 0, 1) := jo_42 (jw1 jdcX2_lay_16 4 rfl rfl)
theorem dX2_lay_31 : decode cX2_lay 31 = .ok (.getfield 15, 3) := jo_180 (a := 0) (b := 15) (jw3 jdcX2_lay_16 5 rfl rfl) rfl
theorem dX2_lay_34 : decode cX2_lay 34 = .ok (.if_icmp .ge 24, 3) := jo_162 (a := 0) (b := 24) (jw3 jdcX2_lay_16 8 rfl rfl) rfl
theorem dX2_lay_37 : decode cX2_lay 37 = .ok (.aload_n 0, 1) := jo_42 (jw1 jdcX2_lay_16 11 rfl rfl)
theorem dX2_lay_38 : decode cX2_lay 38 = .ok (.dup, 1) := jo_89 (jw1 jdcX2_lay_16 12 rfl rfl)
theorem dX2_lay_39 : decode cX2_lay 39 = .ok (.getfield 22, 3) := jo_180 (a := 0) (b := 22) (jw3 jdcX2_lay_16 13 rfl rfl) rfl
theorem dX2_lay_42 : decode cX2_lay 42 = .ok (.iload 4, 2) := jo_21 (jw2 jdcX2_lay_16 16 rfl rfl)
theorem dX2_lay_44 : decode cX2_lay 44 = .ok (.iload_n 3, 1) := jo_29 (jw1 jdcX2_lay_16 18 rfl rfl)
theorem dX2_lay_45 : decode cX2_lay 45 = .ok (.invokestatic 46, 3) := jo_184 (a := 0) (b := 46) (jw3 jdcX2_lay_16 19 rfl rfl) rfl
theorem dX2_lay_48 : decode cX2_lay 48 = .ok (.lor, 1) := jo_129 (jw1 jdcX2_lay_16 22 rfl rfl)
theorem dX2_lay_49 : decode cX2_lay 49 = .ok (.putfield 22, 3) := jo_181 (a := 0) (b := 22) (jw3 jdcX2_lay_16 23 rfl rfl) rfl
theorem dX2_lay_52 : decode cX2_lay 52 = .ok (.iinc 4 1, 3) := jo_132 (a := 4) (b := 1) (jw3 jdcX2_lay_16 26 rfl rfl) rfl
theorem dX2_lay_55 : decode cX2_lay 55 = .ok (.goto (-27), 3) := jo_167 (a := 255) (b := 229) (jw3 jdcX2_lay_16 29 rfl rfl) rfl
theorem dX2_lay_58 : decode cX2_lay 58 = .ok (.iinc 3 1, 3) := jo_132 (a := 3) (b := 1) (jw3 jdcX2_lay_16 32 rfl rfl) rfl
theorem jdcX2_lay_32 : jwk (cX2_lay.data.toList.drop 61) [167, 255, 212, 42, 3, 181, 0, 35, 177] = true := by decide +kernel
theorem dX2_lay_61 : decode cX2_lay 61 = .ok (.goto (-44), 3) := jo_167 (a := 255) (b := 212) (jw3 jdcX2_lay_32 0 rfl rfl) rfl
theorem dX2_lay_64 : decode cX2_lay 64 = .ok (.aload_n 0, 1) := jo_42 (jw1 jdcX2_lay_32 3 rfl rfl)
theorem dX2_lay_65 : decode cX2_lay 65 = .ok (.iconst 0, 1) := jo_3 (jw1 jdcX2_lay_32 4 rfl rfl)
theorem dX2_lay_66 : decode cX2_lay 66 = .ok (.putfield 35, 3) := jo_181 (a := 0) (b := 35) (jw3 jdcX2_lay_32 5 rfl rfl) rfl
theorem dX2_lay_69 : decode cX2_lay 69 = .ok (.return_, 1) := jo_177 (jw1 jdcX2_lay_32 8 rfl rfl)
theorem jdcX2_numberOf_0 : jwk (cX2_numberOf.data.toList.drop 0) [16, 9, 26, 96, 16, 8, 27, 104, 96, 172] = true := by decide +kernel
theorem dX2_numberOf_0 : decode cX2_numberOf 0 = .ok (.bipush 9, 2) := jo_16 (a := 9) (jw2 jdcX2_numberOf_0 0 rfl rfl) rfl
theorem dX2_numberOf_2 : decode cX2_numberOf 2 = .ok (.iload_n 0, 1) := jo_26 (jw1 jdcX2_numberOf_0 2 rfl rfl)
theorem dX2_numberOf_3 : decode cX2_numberOf 3 = .ok (.iadd, 1) := jo_96 (jw1 jdcX2_numberOf_0 3 rfl rfl)
theorem dX2_numberOf_4 : decode cX2_numberOf 4 = .ok (.bipush 8, 2) := jo_16 (a := 8) (jw2 jdcX2_numberOf_0 4 rfl rfl) rfl
theorem dX2_numberOf_6 : decode cX2_numberOf 6 = .ok (.iload_n 1, 1) := jo_27 (jw1 jdcX2_numberOf_0 6 rfl rfl)
theorem dX2_numberOf_7 : decode cX2_numberOf 7 = .ok (.imul, 1) := jo_104 (jw1 jdcX2_numberOf_0 7 rfl rfl)
theorem dX2_numberOf_8 : decode cX2_numberOf 8 = .ok (.iadd, 1) := jo_96 (jw1 jdcX2_numberOf_0 8 rfl rfl)
theorem dX2_numberOf_9 : decode cX2_numberOf 9 = .ok (.ireturn, 1) := jo_172 (jw1 jdcX2_numberOf_0 9 rfl rfl)
theorem jdcX2_bitOf_0 : jwk (cX2_bitOf.data.toList.drop 0) [10, 26, 27, 184, 0, 50, 121, 173] = true := by decide +kernel
theorem dX2_bitOf_0 : decode cX2_bitOf 0 = .ok (.lconst 1, 1) := jo_10 (jw1 jdcX2_bitOf_0 0 rfl rfl)
theorem dX2_bitOf_1 : decode cX2_bitOf 1 = .ok (.iload_n 0, 1) := jo_26 (jw1 jdcX2_bitOf_0 1 rfl rfl)
theorem dX2_bitOf_2 : decode cX2_bitOf 2 = .ok (.iload_n 1, 1) := jo_27 (jw1 jdcX2_bitOf_0 2 rfl rfl)
theorem dX2_bitOf_3 : decode cX2_bitOf 3 = .ok (.invokestatic 50, 3) := jo_184 (a := 0) (b := 50) (jw3 jdcX2_bitOf_0 3 rfl rfl) rfl
theorem dX2_bitOf_6 : decode cX2_bitOf 6 = .ok (.lshl, 1) := jo_121 (jw1 jdcX2_bitOf_0 6 rfl rfl)
theorem dX2_bitOf_7 : decode cX2_bitOf 7 = .ok (.lreturn, 1) := jo_173 (jw1 jdcX2_bitOf_0 7 rfl rfl)
theorem jdcX2_isHole_0 : jwk (cX2_isHole.data.toList.drop 0) [42, 180, 0, 22, 27, 28, 184, 0, 46, 127, 9, 148, 154, 0, 7, 4, 167, 0, 4, 3, 172] = true := by decide +kernel
theorem dX2_isHole_0 : decode cX2_isHole 0 = .ok (.aload_n 0, 1) := jo_42 (jw1 jdcX2_isHole_0 0 rfl rfl)
theorem dX2_isHole_1 : decode cX2_isHole 1 = .ok (.getfield 22, 3) := jo_180 (a := 0) (b := 22) (jw3 jdcX2_isHole_0 1 rfl rfl) rfl
theorem dX2_isHole_4 : decode cX2_isHole 4 = .ok (.iload_n 1, 1) := jo_27 (jw1 jdcX2_isHole_0 4 rfl rfl)
theorem dX2_isHole_5 : decode cX2_isHole 5 = .ok (.iload_n 2, 1) := jo_28 (jw1 jdcX2_isHole_0 5 rfl rfl)
theorem dX2_isHole_6 : decode cX2_isHole 6 = .ok (.invokestatic 46, 3) := jo_184 (a := 0) (b := 46) (jw3 jdcX2_isHole_0 6 rfl rfl) rfl
theorem dX2_isHole_9 : decode cX2_isHole 9 = .ok (.land, 1) := jo_127 (jw1 jdcX2_isHole_0 9 rfl rfl)
theorem dX2_isHole_10 : decode cX2_isHole 10 = .ok (.lconst 0, 1) := jo_9 (jw1 jdcX2_isHole_0 10 rfl rfl)
theorem dX2_isHole_11 : decode cX2_isHole 11 = .ok (.lcmp, 1) := jo_148 (jw1 jdcX2_isHole_0 11 rfl rfl)
theorem dX2_isHole_12 : decode cX2_isHole 12 = .ok (.ifCond .ne 7, 3) := jo_154 (a := 0) (b := 7) (jw3 jdcX2_isHole_0 12 rfl rfl) rfl
theorem dX2_isHole_15 : decode cX2_isHole 15 = .ok (.iconst 1, 1) := jo_4 (jw1 jdcX2_isHole_0 15 rfl rfl)
theorem dX2_isHole_16 : decode cX2_isHole 16 = .ok (.goto 4, 3) := jo_167 (a := 0) (b := 4) (jw3 jdcX2_isHole_0 16 rfl rfl) rfl
theorem dX2_isHole_19 : decode cX2_isHole 19 = .ok (.iconst 0, 1) := jo_3 (jw1 jdcX2_isHole_0 19 rfl rfl)
theorem dX2_isHole_20 : decode cX2_isHole 20 = .ok (.ireturn, 1) := jo_172 (jw1 jdcX2_isHole_0 20 rfl rfl)
theorem jdcX2_isCorner_0 : jwk (cX2_isCorner.data.toList.drop 0) [27, 154, 0, 7, 28, 153, 0, 23, 27, 42, 180, 0, 15, 4, 100, 160, 0, 17, 28, 42, 180, 0, 19, 4, 100, 160, 0, 7] = true := by decide +kernel
theorem dX2_isCorner_0 : decode cX2_isCorner 0 = .ok (.iload_n 1, 1) := jo_27 (jw1 jdcX2_isCorner_0 0 rfl rfl)
theorem dX2_isCorner_1 : decode cX2_isCorner 1 = .ok (.ifCond .ne 7, 3) := jo_154 (a := 0) (b := 7) (jw3 jdcX2_isCorner_0 1 rfl rfl) rfl
theorem dX2_isCorner_4 : decode cX2_isCorner 4 = .ok (.iload_n 2, 1) := jo_28 (jw1 jdcX2_isCorner_0 4 rfl rfl)
theorem dX2_isCorner_5 : decode cX2_isCorner 5 = .ok (.ifCond .eq 23, 3) := jo_153 (a := 0) (b := 23) (jw3 jdcX2_isCorner_0 5 rfl rfl) rfl
theorem dX2_isCorner_8 : decode cX2_isCorner 8 = .ok (.iload_n 1, 1) := jo_27 (jw1 jdcX2_isCorner_0 8 rfl rfl)
theorem dX2_isCorner_9 : decode cX2_isCorner 9 = .ok (.aload_n 0, 1) := jo_42 (jw1 jdcX2_isCorner_0 9 rfl rfl)
theorem dX2_isCorner_10 : decode cX2_isCorner 10 = .ok (.getfield 15, 3) := jo_180 (a := 0) (b := 15) (jw3 jdcX2_isCorner_0 10 rfl rfl) rfl
theorem dX2_isCorner_13 : decode cX2_isCorner 13 = .ok (.iconst 1, 1) := jo_4 (jw1 jdcX2_isCorner_0 13 rfl rfl)
theorem dX2_isCorner_14 : decode cX2_isCorner 14 = .ok (.isub, 1) := jo_100 (jw1 jdcX2_isCorner_0 14 rfl rfl)
theorem dX2_isCorner_15 : decode cX2_isCorner 15 = .ok (.if_icmp .ne 17, 3) := jo_160 (a := 0) (b := 17) (jw3 jdcX2_isCorner_0 15 rfl rfl) rfl
theorem dX2_isCorner_18 : decode cX2_isCorner 18 = .ok (.iload_n 2, 1) := jo_28 (jw1 jdcX2_isCorner_0 18 rfl rfl)
theorem dX2_isCorner_19 : decode cX2_isCorner 19 = .ok (.aload_n 0, 1) := jo_42 (jw1 jdcX2_isCorner_0 19 rfl rfl)
theorem dX2_isCorner_20 : decode cX2_isCorner 20 = .ok (.getfield 19, 3) := jo_180 (a := 0) (b := 19) (jw3 jdcX2_isCorner_0 20 rfl rfl) rfl
theorem dX2_isCorner_23 : decode cX2_isCorner 23 = .ok (.iconst 1, 1) := jo_4 (jw1 jdcX2_isCorner_0 23 rfl rfl)
theorem dX2_isCorner_24 : decode cX2_isCorner 24 = .ok (.isub, 1) := jo_100 (jw1 jdcX2_isCorner_0 24 rfl rfl)
theorem dX2_isCorner_25 : decode cX2_isCorner 25 = .ok (.if_icmp .ne 7, 3) := jo_160 (a := 0) (b := 7) (jw3 jdcX2_isCorner_0 25 rfl rfl) rfl
theorem jdcX2_isCorner_16 : jwk (cX2_isCorner.data.toList.drop 28) [4, 167, 0, 4, 3, 172] = true := by decide +kernel
theorem dX2_isCorner_28 : decode cX2_isCorner 28 = .ok (.iconst 1, 1) := jo_4 (jw1 jdcX2_isCorner_16 0 rfl rfl)
theorem dX2_isCorner_29 : decode cX2_isCorner 29 = .ok (.goto 4, 3) := jo_167 (a := 0) (b := 4) (jw3 jdcX2_isCorner_16 1 rfl rfl) rfl
theorem dX2_isCorner_32 : decode cX2_isCorner 32 = .ok (.iconst 0, 1) := jo_3 (jw1 jdcX2_isCorner_16 4 rfl rfl)
theorem dX2_isCorner_33 : decode cX2_isCorner 33 = .ok (.ireturn, 1) := jo_172 (jw1 jdcX2_isCorner_16 5 rfl rfl)
theorem jdcX2_turnOver_0 : jwk (cX2_turnOver.data.toList.drop 0) [42, 89, 180, 0, 22, 27, 28, 184, 0, 46, 131, 181, 0, 22, 42, 3, 181, 0, 35, 177] = true := by decide +kernel
theorem dX2_turnOver_0 : decode cX2_turnOver 0 = .ok (.aload_n 0, 1) := jo_42 (jw1 jdcX2_turnOver_0 0 rfl rfl)
theorem dX2_turnOver_1 : decode cX2_turnOver 1 = .ok (.dup, 1) := jo_89 (jw1 jdcX2_turnOver_0 1 rfl rfl)
theorem dX2_turnOver_2 : decode cX2_turnOver 2 = .ok (.getfield 22, 3) := jo_180 (a := 0) (b := 22) (jw3 jdcX2_turnOver_0 2 rfl rfl) rfl
theorem dX2_turnOver_5 : decode cX2_turnOver 5 = .ok (.iload_n 1, 1) := jo_27 (jw1 jdcX2_turnOver_0 5 rfl rfl)
theorem dX2_turnOver_6 : decode cX2_turnOver 6 = .ok (.iload_n 2, 1) := jo_28 (jw1 jdcX2_turnOver_0 6 rfl rfl)
theorem dX2_turnOver_7 : decode cX2_turnOver 7 = .ok (.invokestatic 46, 3) := jo_184 (a := 0) (b := 46) (jw3 jdcX2_turnOver_0 7 rfl rfl) rfl
theorem dX2_turnOver_10 : decode cX2_turnOver 10 = .ok (.lxor, 1) := jo_131 (jw1 jdcX2_turnOver_0 10 rfl rfl)
theorem dX2_turnOver_11 : decode cX2_turnOver 11 = .ok (.putfield 22, 3) := jo_181 (a := 0) (b := 22) (jw3 jdcX2_turnOver_0 11 rfl rfl) rfl
theorem dX2_turnOver_14 : decode cX2_turnOver 14 = .ok (.aload_n 0, 1) := jo_42 (jw1 jdcX2_turnOver_0 14 rfl rfl)
theorem dX2_turnOver_15 : decode cX2_turnOver 15 = .ok (.iconst 0, 1) := jo_3 (jw1 jdcX2_turnOver_0 15 rfl rfl)
theorem dX2_turnOver_16 : decode cX2_turnOver 16 = .ok (.putfield 35, 3) := jo_181 (a := 0) (b := 35) (jw3 jdcX2_turnOver_0 16 rfl rfl) rfl
theorem dX2_turnOver_19 : decode cX2_turnOver 19 = .ok (.return_, 1) := jo_177 (jw1 jdcX2_turnOver_0 19 rfl rfl)
theorem jdcX2_holds_0 : jwk (cX2_holds.data.toList.drop 0) [42, 180, 0, 35, 154, 0, 12, 42, 182, 0, 54, 42, 4, 181, 0, 35, 42, 180, 0, 39, 154, 0, 7, 4, 167, 0, 4, 3, 172] = true := by decide +kernel
theorem dX2_holds_0 : decode cX2_holds 0 = .ok (.aload_n 0, 1) := jo_42 (jw1 jdcX2_holds_0 0 rfl rfl)
theorem dX2_holds_1 : decode cX2_holds 1 = .ok (.getfield 35, 3) := jo_180 (a := 0) (b := 35) (jw3 jdcX2_holds_0 1 rfl rfl) rfl
theorem dX2_holds_4 : decode cX2_holds 4 = .ok (.ifCond .ne 12, 3) := jo_154 (a := 0) (b := 12) (jw3 jdcX2_holds_0 4 rfl rfl) rfl
theorem dX2_holds_7 : decode cX2_holds 7 = .ok (.aload_n 0, 1) := jo_42 (jw1 jdcX2_holds_0 7 rfl rfl)
theorem dX2_holds_8 : decode cX2_holds 8 = .ok (.invokevirtual 54, 3) := jo_182 (a := 0) (b := 54) (jw3 jdcX2_holds_0 8 rfl rfl) rfl
theorem dX2_holds_11 : decode cX2_holds 11 = .ok (.aload_n 0, 1) := jo_42 (jw1 jdcX2_holds_0 11 rfl rfl)
theorem dX2_holds_12 : decode cX2_holds 12 = .ok (.iconst 1, 1) := jo_4 (jw1 jdcX2_holds_0 12 rfl rfl)
theorem dX2_holds_13 : decode cX2_holds 13 = .ok (.putfield 35, 3) := jo_181 (a := 0) (b := 35) (jw3 jdcX2_holds_0 13 rfl rfl) rfl
theorem dX2_holds_16 : decode cX2_holds 16 = .ok (.aload_n 0, 1) := jo_42 (jw1 jdcX2_holds_0 16 rfl rfl)
theorem dX2_holds_17 : decode cX2_holds 17 = .ok (.getfield 39, 3) := jo_180 (a := 0) (b := 39) (jw3 jdcX2_holds_0 17 rfl rfl) rfl
theorem dX2_holds_20 : decode cX2_holds 20 = .ok (.ifCond .ne 7, 3) := jo_154 (a := 0) (b := 7) (jw3 jdcX2_holds_0 20 rfl rfl) rfl
theorem dX2_holds_23 : decode cX2_holds 23 = .ok (.iconst 1, 1) := jo_4 (jw1 jdcX2_holds_0 23 rfl rfl)
theorem dX2_holds_24 : decode cX2_holds 24 = .ok (.goto 4, 3) := jo_167 (a := 0) (b := 4) (jw3 jdcX2_holds_0 24 rfl rfl) rfl
theorem dX2_holds_27 : decode cX2_holds 27 = .ok (.iconst 0, 1) := jo_3 (jw1 jdcX2_holds_0 27 rfl rfl)
theorem dX2_holds_28 : decode cX2_holds 28 = .ok (.ireturn, 1) := jo_172 (jw1 jdcX2_holds_0 28 rfl rfl)
theorem jdcX2_countWays_0 : jwk (cX2_countWays.data.toList.drop 0) [42, 3, 181, 0, 26, 42, 3, 181, 0, 29, 42, 3, 181, 0, 32, 42, 3, 181, 0, 39, 3, 60, 27, 42] = true := by decide +kernel
theorem dX2_countWays_0 : decode cX2_countWays 0 = .ok (.aload_n 0, 1) := jo_42 (jw1 jdcX2_countWays_0 0 rfl rfl)
theorem dX2_countWays_1 : decode cX2_countWays 1 = .ok (.iconst 0, 1) := jo_3 (jw1 jdcX2_countWays_0 1 rfl rfl)
theorem dX2_countWays_2 : decode cX2_countWays 2 = .ok (.putfield 26, 3) := jo_181 (a := 0) (b := 26) (jw3 jdcX2_countWays_0 2 rfl rfl) rfl
theorem dX2_countWays_5 : decode cX2_countWays 5 = .ok (.aload_n 0, 1) := jo_42 (jw1 jdcX2_countWays_0 5 rfl rfl)
theorem dX2_countWays_6 : decode cX2_countWays 6 = .ok (.iconst 0, 1) := jo_3 (jw1 jdcX2_countWays_0 6 rfl rfl)
theorem dX2_countWays_7 : decode cX2_countWays 7 = .ok (.putfield 29, 3) := jo_181 (a := 0) (b := 29) (jw3 jdcX2_countWays_0 7 rfl rfl) rfl
theorem dX2_countWays_10 : decode cX2_countWays 10 = .ok (.aload_n 0, 1) := jo_42 (jw1 jdcX2_countWays_0 10 rfl rfl)
theorem dX2_countWays_11 : decode cX2_countWays 11 = .ok (.iconst 0, 1) := jo_3 (jw1 jdcX2_countWays_0 11 rfl rfl)
theorem dX2_countWays_12 : decode cX2_countWays 12 = .ok (.putfield 32, 3) := jo_181 (a := 0) (b := 32) (jw3 jdcX2_countWays_0 12 rfl rfl) rfl
theorem dX2_countWays_15 : decode cX2_countWays 15 = .ok (.aload_n 0, 1) := jo_42 (jw1 jdcX2_countWays_0 15 rfl rfl)
theorem dX2_countWays_16 : decode cX2_countWays 16 = .ok (.iconst 0, 1) := jo_3 (jw1 jdcX2_countWays_0 16 rfl rfl)
theorem dX2_countWays_17 : decode cX2_countWays 17 = .ok (.putfield 39, 3) := jo_181 (a := 0) (b := 39) (jw3 jdcX2_countWays_0 17 rfl rfl) rfl
theorem dX2_countWays_20 : decode cX2_countWays 20 = .ok (.iconst 0, 1) := jo_3 (jw1 jdcX2_countWays_0 20 rfl rfl)
theorem dX2_countWays_21 : decode cX2_countWays 21 = .ok (.istore_n 1, 1) := jo_60 (jw1 jdcX2_countWays_0 21 rfl rfl)
theorem dX2_countWays_22 : decode cX2_countWays 22 = .ok (.iload_n 1, 1) := jo_27 (jw1 jdcX2_countWays_0 22 rfl rfl)
theorem dX2_countWays_23 : decode cX2_countWays 23 = .ok (.aload_n 0, 1) := jo_42 (jw1 jdcX2_countWays_0 23 rfl rfl)
theorem jdcX2_countWays_16 : jwk (cX2_countWays.data.toList.drop 24) [180, 0, 11, 190, 162, 0, 16, 42, 180, 0, 11, 27, 3, 79, 132, 1, 1, 167, 255, 237, 42, 3, 16, 9, 42, 180, 0, 22, 3] = true := by decide +kernel
theorem dX2_countWays_24 : decode cX2_countWays 24 = .ok (.getfield 11, 3) := jo_180 (a := 0) (b := 11) (jw3 jdcX2_countWays_16 0 rfl rfl) rfl
theorem dX2_countWays_27 : decode cX2_countWays 27 = .ok (.arraylength, 1) := jo_190 (jw1 jdcX2_countWays_16 3 rfl rfl)
theorem dX2_countWays_28 : decode cX2_countWays 28 = .ok (.if_icmp .ge 16, 3) := jo_162 (a := 0) (b := 16) (jw3 jdcX2_countWays_16 4 rfl rfl) rfl
theorem dX2_countWays_31 : decode cX2_countWays 31 = .ok (.aload_n 0, 1) := jo_42 (jw1 jdcX2_countWays_16 7 rfl rfl)
theorem dX2_countWays_32 : decode cX2_countWays 32 = .ok (.getfield 11, 3) := jo_180 (a := 0) (b := 11) (jw3 jdcX2_countWays_16 8 rfl rfl) rfl
theorem dX2_countWays_35 : decode cX2_countWays 35 = .ok (.iload_n 1, 1) := jo_27 (jw1 jdcX2_countWays_16 11 rfl rfl)
theorem dX2_countWays_36 : decode cX2_countWays 36 = .ok (.iconst 0, 1) := jo_3 (jw1 jdcX2_countWays_16 12 rfl rfl)
theorem dX2_countWays_37 : decode cX2_countWays 37 = .ok (.iastore, 1) := jo_79 (jw1 jdcX2_countWays_16 13 rfl rfl)
theorem dX2_countWays_38 : decode cX2_countWays 38 = .ok (.iinc 1 1, 3) := jo_132 (a := 1) (b := 1) (jw3 jdcX2_countWays_16 14 rfl rfl) rfl
theorem dX2_countWays_41 : decode cX2_countWays 41 = .ok (.goto (-19), 3) := jo_167 (a := 255) (b := 237) (jw3 jdcX2_countWays_16 17 rfl rfl) rfl
theorem dX2_countWays_44 : decode cX2_countWays 44 = .ok (.aload_n 0, 1) := jo_42 (jw1 jdcX2_countWays_16 20 rfl rfl)
theorem dX2_countWays_45 : decode cX2_countWays 45 = .ok (.iconst 0, 1) := jo_3 (jw1 jdcX2_countWays_16 21 rfl rfl)
theorem dX2_countWays_46 : decode cX2_countWays 46 = .ok (.bipush 9, 2) := jo_16 (a := 9) (jw2 jdcX2_countWays_16 22 rfl rfl) rfl
theorem dX2_countWays_48 : decode cX2_countWays 48 = .ok (.aload_n 0, 1) := jo_42 (jw1 jdcX2_countWays_16 24 rfl rfl)
theorem dX2_countWays_49 : decode cX2_countWays 49 = .ok (.getfield 22, 3) := jo_180 (a := 0) (b := 22) (jw3 jdcX2_countWays_16 25 rfl rfl) rfl
theorem dX2_countWays_52 : decode cX2_countWays 52 = .ok (.iconst 0, 1) := jo_3 (jw1 jdcX2_countWays_16 28 rfl rfl)
theorem jdcX2_countWays_32 : jwk (cX2_countWays.data.toList.drop 53) [3, 184, 0, 46, 20, 0, 57, 131, 127, 184, 0, 59, 177] = true := by decide +kernel
theorem dX2_countWays_53 : decode cX2_countWays 53 = .ok (.iconst 0, 1) := jo_3 (jw1 jdcX2_countWays_32 0 rfl rfl)
theorem dX2_countWays_54 : decode cX2_countWays 54 = .ok (.invokestatic 46, 3) := jo_184 (a := 0) (b := 46) (jw3 jdcX2_countWays_32 1 rfl rfl) rfl
theorem dX2_countWays_57 : decode cX2_countWays 57 = .ok (.ldc2_w 57, 3) := jo_20 (a := 0) (b := 57) (jw3 jdcX2_countWays_32 4 rfl rfl) rfl
theorem dX2_countWays_60 : decode cX2_countWays 60 = .ok (.lxor, 1) := jo_131 (jw1 jdcX2_countWays_32 7 rfl rfl)
theorem dX2_countWays_61 : decode cX2_countWays 61 = .ok (.land, 1) := jo_127 (jw1 jdcX2_countWays_32 8 rfl rfl)
theorem dX2_countWays_62 : decode cX2_countWays 62 = .ok (.invokestatic 59, 3) := jo_184 (a := 0) (b := 59) (jw3 jdcX2_countWays_32 9 rfl rfl) rfl
theorem dX2_countWays_65 : decode cX2_countWays 65 = .ok (.return_, 1) := jo_177 (jw1 jdcX2_countWays_32 12 rfl rfl)
theorem jdcX2_extend_0 : jwk (cX2_extend.data.toList.drop 0) [27, 16, 36, 161, 0, 4, 177, 42, 180, 0, 15, 4, 100, 42, 180, 0, 19, 4, 100, 184, 0, 50, 54, 5, 178, 0, 63, 58, 6] = true := by decide +kernel
theorem dX2_extend_0 : decode cX2_extend 0 = .ok (.iload_n 1, 1) := jo_27 (jw1 jdcX2_extend_0 0 rfl rfl)
theorem dX2_extend_1 : decode cX2_extend 1 = .ok (.bipush 36, 2) := jo_16 (a := 36) (jw2 jdcX2_extend_0 1 rfl rfl) rfl
theorem dX2_extend_3 : decode cX2_extend 3 = .ok (.if_icmp .lt 4, 3) := jo_161 (a := 0) (b := 4) (jw3 jdcX2_extend_0 3 rfl rfl) rfl
theorem dX2_extend_6 : decode cX2_extend 6 = .ok (.return_, 1) := jo_177 (jw1 jdcX2_extend_0 6 rfl rfl)
theorem dX2_extend_7 : decode cX2_extend 7 = .ok (.aload_n 0, 1) := jo_42 (jw1 jdcX2_extend_0 7 rfl rfl)
theorem dX2_extend_8 : decode cX2_extend 8 = .ok (.getfield 15, 3) := jo_180 (a := 0) (b := 15) (jw3 jdcX2_extend_0 8 rfl rfl) rfl
theorem dX2_extend_11 : decode cX2_extend 11 = .ok (.iconst 1, 1) := jo_4 (jw1 jdcX2_extend_0 11 rfl rfl)
theorem dX2_extend_12 : decode cX2_extend 12 = .ok (.isub, 1) := jo_100 (jw1 jdcX2_extend_0 12 rfl rfl)
theorem dX2_extend_13 : decode cX2_extend 13 = .ok (.aload_n 0, 1) := jo_42 (jw1 jdcX2_extend_0 13 rfl rfl)
theorem dX2_extend_14 : decode cX2_extend 14 = .ok (.getfield 19, 3) := jo_180 (a := 0) (b := 19) (jw3 jdcX2_extend_0 14 rfl rfl) rfl
theorem dX2_extend_17 : decode cX2_extend 17 = .ok (.iconst 1, 1) := jo_4 (jw1 jdcX2_extend_0 17 rfl rfl)
theorem dX2_extend_18 : decode cX2_extend 18 = .ok (.isub, 1) := jo_100 (jw1 jdcX2_extend_0 18 rfl rfl)
theorem dX2_extend_19 : decode cX2_extend 19 = .ok (.invokestatic 50, 3) := jo_184 (a := 0) (b := 50) (jw3 jdcX2_extend_0 19 rfl rfl) rfl
theorem dX2_extend_22 : decode cX2_extend 22 = .ok (.istore 5, 2) := jo_54 (jw2 jdcX2_extend_0 22 rfl rfl)
theorem dX2_extend_24 : decode cX2_extend 24 = .ok (.getstatic 63, 3) := jo_178 (a := 0) (b := 63) (jw3 jdcX2_extend_0 24 rfl rfl) rfl
theorem dX2_extend_27 : decode cX2_extend 27 = .ok (.astore 6, 2) := jo_58 (jw2 jdcX2_extend_0 27 rfl rfl)
theorem jdcX2_extend_16 : jwk (cX2_extend.data.toList.drop 29) [25, 6, 190, 54, 7, 3, 54, 8, 21, 8, 21, 7, 162, 0, 124, 25, 6, 21, 8, 46, 54, 9, 28, 21, 9, 96, 54, 10] = true := by decide +kernel
theorem dX2_extend_29 : decode cX2_extend 29 = .ok (.aload 6, 2) := jo_25 (jw2 jdcX2_extend_16 0 rfl rfl)
theorem dX2_extend_31 : decode cX2_extend 31 = .ok (.arraylength, 1) := jo_190 (jw1 jdcX2_extend_16 2 rfl rfl)
theorem dX2_extend_32 : decode cX2_extend 32 = .ok (.istore 7, 2) := jo_54 (jw2 jdcX2_extend_16 3 rfl rfl)
theorem dX2_extend_34 : decode cX2_extend 34 = .ok (.iconst 0, 1) := jo_3 (jw1 jdcX2_extend_16 5 rfl rfl)
theorem dX2_extend_35 : decode cX2_extend 35 = .ok (.istore 8, 2) := jo_54 (jw2 jdcX2_extend_16 6 rfl rfl)
theorem dX2_extend_37 : decode cX2_extend 37 = .ok (.iload 8, 2) := jo_21 (jw2 jdcX2_extend_16 8 rfl rfl)
theorem dX2_extend_39 : decode cX2_extend 39 = .ok (.iload 7, 2) := jo_21 (jw2 jdcX2_extend_16 10 rfl rfl)
theorem dX2_extend_41 : decode cX2_extend 41 = .ok (.if_icmp .ge 124, 3) := jo_162 (a := 0) (b := 124) (jw3 jdcX2_extend_16 12 rfl rfl) rfl
theorem dX2_extend_44 : decode cX2_extend 44 = .ok (.aload 6, 2) := jo_25 (jw2 jdcX2_extend_16 15 rfl rfl)
theorem dX2_extend_46 : decode cX2_extend 46 = .ok (.iload 8, 2) := jo_21 (jw2 jdcX2_extend_16 17 rfl rfl)
theorem dX2_extend_48 : decode cX2_extend 48 = .ok (.iaload, 1) := jo_46 (jw1 jdcX2_extend_16 19 rfl rfl)
theorem dX2_extend_49 : decode cX2_extend 49 = .ok (.istore 9, 2) := jo_54 (jw2 jdcX2_extend_16 20 rfl rfl)
theorem dX2_extend_51 : decode cX2_extend 51 = .ok (.iload_n 2, 1) := jo_28 (jw1 jdcX2_extend_16 22 rfl rfl)
theorem dX2_extend_52 : decode cX2_extend 52 = .ok (.iload 9, 2) := jo_21 (jw2 jdcX2_extend_16 23 rfl rfl)
theorem dX2_extend_54 : decode cX2_extend 54 = .ok (.iadd, 1) := jo_96 (jw1 jdcX2_extend_16 25 rfl rfl)
theorem dX2_extend_55 : decode cX2_extend 55 = .ok (.istore 10, 2) := jo_54 (jw2 jdcX2_extend_16 26 rfl rfl)
theorem jdcX2_extend_32 : jwk (cX2_extend.data.toList.drop 57) [10, 21, 10, 121, 55, 11, 33, 22, 11, 127, 9, 148, 153, 0, 90, 42, 180, 0, 39, 153, 0, 6, 167, 0, 80, 42, 89] = true := by decide +kernel
theorem dX2_extend_57 : decode cX2_extend 57 = .ok (.lconst 1, 1) := jo_10 (jw1 jdcX2_extend_32 0 rfl rfl)
theorem dX2_extend_58 : decode cX2_extend 58 = .ok (.iload 10, 2) := jo_21 (jw2 jdcX2_extend_32 1 rfl rfl)
theorem dX2_extend_60 : decode cX2_extend 60 = .ok (.lshl, 1) := jo_121 (jw1 jdcX2_extend_32 3 rfl rfl)
theorem dX2_extend_61 : decode cX2_extend 61 = .ok (.lstore 11, 2) := jo_55 (jw2 jdcX2_extend_32 4 rfl rfl)
theorem dX2_extend_63 : decode cX2_extend 63 = .ok (.lload_n 3, 1) := jo_33 (jw1 jdcX2_extend_32 6 rfl rfl)
theorem dX2_extend_64 : decode cX2_extend 64 = .ok (.lload 11, 2) := jo_22 (jw2 jdcX2_extend_32 7 rfl rfl)
theorem dX2_extend_66 : decode cX2_extend 66 = .ok (.land, 1) := jo_127 (jw1 jdcX2_extend_32 9 rfl rfl)
theorem dX2_extend_67 : decode cX2_extend 67 = .ok (.lconst 0, 1) := jo_9 (jw1 jdcX2_extend_32 10 rfl rfl)
theorem dX2_extend_68 : decode cX2_extend 68 = .ok (.lcmp, 1) := jo_148 (jw1 jdcX2_extend_32 11 rfl rfl)
theorem dX2_extend_69 : decode cX2_extend 69 = .ok (.ifCond .eq 90, 3) := jo_153 (a := 0) (b := 90) (jw3 jdcX2_extend_32 12 rfl rfl) rfl
theorem dX2_extend_72 : decode cX2_extend 72 = .ok (.aload_n 0, 1) := jo_42 (jw1 jdcX2_extend_32 15 rfl rfl)
theorem dX2_extend_73 : decode cX2_extend 73 = .ok (.getfield 39, 3) := jo_180 (a := 0) (b := 39) (jw3 jdcX2_extend_32 16 rfl rfl) rfl
theorem dX2_extend_76 : decode cX2_extend 76 = .ok (.ifCond .eq 6, 3) := jo_153 (a := 0) (b := 6) (jw3 jdcX2_extend_32 19 rfl rfl) rfl
theorem dX2_extend_79 : decode cX2_extend 79 = .ok (.goto 80, 3) := jo_167 (a := 0) (b := 80) (jw3 jdcX2_extend_32 22 rfl rfl) rfl
theorem dX2_extend_82 : decode cX2_extend 82 = .ok (.aload_n 0, 1) := jo_42 (jw1 jdcX2_extend_32 25 rfl rfl)
theorem dX2_extend_83 : decode cX2_extend 83 = .ok (.dup, 1) := jo_89 (jw1 jdcX2_extend_32 26 rfl rfl)
theorem jdcX2_extend_48 : jwk (cX2_extend.data.toList.drop 84) [180, 0, 26, 4, 96, 181, 0, 26, 42, 42, 180, 0, 26, 18, 66, 164, 0, 7, 4, 167, 0, 4, 3, 181, 0, 39, 21, 10, 21, 5, 160, 0, 28] = true := by decide +kernel
theorem dX2_extend_84 : decode cX2_extend 84 = .ok (.getfield 26, 3) := jo_180 (a := 0) (b := 26) (jw3 jdcX2_extend_48 0 rfl rfl) rfl
theorem dX2_extend_87 : decode cX2_extend 87 = .ok (.iconst 1, 1) := jo_4 (jw1 jdcX2_extend_48 3 rfl rfl)
theorem dX2_extend_88 : decode cX2_extend 88 = .ok (.iadd, 1) := jo_96 (jw1 jdcX2_extend_48 4 rfl rfl)
theorem dX2_extend_89 : decode cX2_extend 89 = .ok (.putfield 26, 3) := jo_181 (a := 0) (b := 26) (jw3 jdcX2_extend_48 5 rfl rfl) rfl
theorem dX2_extend_92 : decode cX2_extend 92 = .ok (.aload_n 0, 1) := jo_42 (jw1 jdcX2_extend_48 8 rfl rfl)
theorem dX2_extend_93 : decode cX2_extend 93 = .ok (.aload_n 0, 1) := jo_42 (jw1 jdcX2_extend_48 9 rfl rfl)
theorem dX2_extend_94 : decode cX2_extend 94 = .ok (.getfield 26, 3) := jo_180 (a := 0) (b := 26) (jw3 jdcX2_extend_48 10 rfl rfl) rfl
theorem dX2_extend_97 : decode cX2_extend 97 = .ok (.ldc 66, 2) := jo_18 (jw2 jdcX2_extend_48 13 rfl rfl)
theorem dX2_extend_99 : decode cX2_extend 99 = .ok (.if_icmp .le 7, 3) := jo_164 (a := 0) (b := 7) (jw3 jdcX2_extend_48 15 rfl rfl) rfl
theorem dX2_extend_102 : decode cX2_extend 102 = .ok (.iconst 1, 1) := jo_4 (jw1 jdcX2_extend_48 18 rfl rfl)
theorem dX2_extend_103 : decode cX2_extend 103 = .ok (.goto 4, 3) := jo_167 (a := 0) (b := 4) (jw3 jdcX2_extend_48 19 rfl rfl) rfl
theorem dX2_extend_106 : decode cX2_extend 106 = .ok (.iconst 0, 1) := jo_3 (jw1 jdcX2_extend_48 22 rfl rfl)
theorem dX2_extend_107 : decode cX2_extend 107 = .ok (.putfield 39, 3) := jo_181 (a := 0) (b := 39) (jw3 jdcX2_extend_48 23 rfl rfl) rfl
theorem dX2_extend_110 : decode cX2_extend 110 = .ok (.iload 10, 2) := jo_21 (jw2 jdcX2_extend_48 26 rfl rfl)
theorem dX2_extend_112 : decode cX2_extend 112 = .ok (.iload 5, 2) := jo_21 (jw2 jdcX2_extend_48 28 rfl rfl)
theorem dX2_extend_114 : decode cX2_extend 114 = .ok (.if_icmp .ne 28, 3) := jo_160 (a := 0) (b := 28) (jw3 jdcX2_extend_48 30 rfl rfl) rfl
theorem jdcX2_extend_64 : jwk (cX2_extend.data.toList.drop 117) [42, 27, 4, 96, 33, 22, 11, 20, 0, 57, 131, 127, 9, 148, 154, 0, 7, 4, 167, 0, 4, 3, 182, 0, 67] = true := by decide +kernel
theorem dX2_extend_117 : decode cX2_extend 117 = .ok (.aload_n 0, 1) := jo_42 (jw1 jdcX2_extend_64 0 rfl rfl)
theorem dX2_extend_118 : decode cX2_extend 118 = .ok (.iload_n 1, 1) := jo_27 (jw1 jdcX2_extend_64 1 rfl rfl)
theorem dX2_extend_119 : decode cX2_extend 119 = .ok (.iconst 1, 1) := jo_4 (jw1 jdcX2_extend_64 2 rfl rfl)
theorem dX2_extend_120 : decode cX2_extend 120 = .ok (.iadd, 1) := jo_96 (jw1 jdcX2_extend_64 3 rfl rfl)
theorem dX2_extend_121 : decode cX2_extend 121 = .ok (.lload_n 3, 1) := jo_33 (jw1 jdcX2_extend_64 4 rfl rfl)
theorem dX2_extend_122 : decode cX2_extend 122 = .ok (.lload 11, 2) := jo_22 (jw2 jdcX2_extend_64 5 rfl rfl)
theorem dX2_extend_124 : decode cX2_extend 124 = .ok (.ldc2_w 57, 3) := jo_20 (a := 0) (b := 57) (jw3 jdcX2_extend_64 7 rfl rfl) rfl
theorem dX2_extend_127 : decode cX2_extend 127 = .ok (.lxor, 1) := jo_131 (jw1 jdcX2_extend_64 10 rfl rfl)
theorem dX2_extend_128 : decode cX2_extend 128 = .ok (.land, 1) := jo_127 (jw1 jdcX2_extend_64 11 rfl rfl)
theorem dX2_extend_129 : decode cX2_extend 129 = .ok (.lconst 0, 1) := jo_9 (jw1 jdcX2_extend_64 12 rfl rfl)
theorem dX2_extend_130 : decode cX2_extend 130 = .ok (.lcmp, 1) := jo_148 (jw1 jdcX2_extend_64 13 rfl rfl)
theorem dX2_extend_131 : decode cX2_extend 131 = .ok (.ifCond .ne 7, 3) := jo_154 (a := 0) (b := 7) (jw3 jdcX2_extend_64 14 rfl rfl) rfl
theorem dX2_extend_134 : decode cX2_extend 134 = .ok (.iconst 1, 1) := jo_4 (jw1 jdcX2_extend_64 17 rfl rfl)
theorem dX2_extend_135 : decode cX2_extend 135 = .ok (.goto 4, 3) := jo_167 (a := 0) (b := 4) (jw3 jdcX2_extend_64 18 rfl rfl) rfl
theorem dX2_extend_138 : decode cX2_extend 138 = .ok (.iconst 0, 1) := jo_3 (jw1 jdcX2_extend_64 21 rfl rfl)
theorem dX2_extend_139 : decode cX2_extend 139 = .ok (.invokevirtual 67, 3) := jo_182 (a := 0) (b := 67) (jw3 jdcX2_extend_64 22 rfl rfl) rfl
theorem jdcX2_extend_80 : jwk (cX2_extend.data.toList.drop 142) [42, 27, 4, 96, 21, 10, 33, 22, 11, 20, 0, 57, 131, 127, 184, 0, 59, 132, 8, 1, 167, 255, 131, 177] = true := by decide +kernel
theorem dX2_extend_142 : decode cX2_extend 142 = .ok (.aload_n 0, 1) := jo_42 (jw1 jdcX2_extend_80 0 rfl rfl)
theorem dX2_extend_143 : decode cX2_extend 143 = .ok (.iload_n 1, 1) := jo_27 (jw1 jdcX2_extend_80 1 rfl rfl)
theorem dX2_extend_144 : decode cX2_extend 144 = .ok (.iconst 1, 1) := jo_4 (jw1 jdcX2_extend_80 2 rfl rfl)
theorem dX2_extend_145 : decode cX2_extend 145 = .ok (.iadd, 1) := jo_96 (jw1 jdcX2_extend_80 3 rfl rfl)
theorem dX2_extend_146 : decode cX2_extend 146 = .ok (.iload 10, 2) := jo_21 (jw2 jdcX2_extend_80 4 rfl rfl)
theorem dX2_extend_148 : decode cX2_extend 148 = .ok (.lload_n 3, 1) := jo_33 (jw1 jdcX2_extend_80 6 rfl rfl)
theorem dX2_extend_149 : decode cX2_extend 149 = .ok (.lload 11, 2) := jo_22 (jw2 jdcX2_extend_80 7 rfl rfl)
theorem dX2_extend_151 : decode cX2_extend 151 = .ok (.ldc2_w 57, 3) := jo_20 (a := 0) (b := 57) (jw3 jdcX2_extend_80 9 rfl rfl) rfl
theorem dX2_extend_154 : decode cX2_extend 154 = .ok (.lxor, 1) := jo_131 (jw1 jdcX2_extend_80 12 rfl rfl)
theorem dX2_extend_155 : decode cX2_extend 155 = .ok (.land, 1) := jo_127 (jw1 jdcX2_extend_80 13 rfl rfl)
theorem dX2_extend_156 : decode cX2_extend 156 = .ok (.invokestatic 59, 3) := jo_184 (a := 0) (b := 59) (jw3 jdcX2_extend_80 14 rfl rfl) rfl
theorem dX2_extend_159 : decode cX2_extend 159 = .ok (.iinc 8 1, 3) := jo_132 (a := 8) (b := 1) (jw3 jdcX2_extend_80 17 rfl rfl) rfl
theorem dX2_extend_162 : decode cX2_extend 162 = .ok (.goto (-125), 3) := jo_167 (a := 255) (b := 131) (jw3 jdcX2_extend_80 20 rfl rfl) rfl
theorem dX2_extend_165 : decode cX2_extend 165 = .ok (.return_, 1) := jo_177 (jw1 jdcX2_extend_80 23 rfl rfl)
theorem jdcX2_score_0 : jwk (cX2_score.data.toList.drop 0) [42, 89, 180, 0, 29, 4, 96, 181, 0, 29, 28, 153, 0, 13, 42, 89, 180, 0, 32, 4, 96, 181, 0, 32, 42, 180, 0, 11] = true := by decide +kernel
theorem dX2_score_0 : decode cX2_score 0 = .ok (.aload_n 0, 1) := jo_42 (jw1 jdcX2_score_0 0 rfl rfl)
theorem dX2_score_1 : decode cX2_score 1 = .ok (.dup, 1) := jo_89 (jw1 jdcX2_score_0 1 rfl rfl)
theorem dX2_score_2 : decode cX2_score 2 = .ok (.getfield 29, 3) := jo_180 (a := 0) (b := 29) (jw3 jdcX2_score_0 2 rfl rfl) rfl
theorem dX2_score_5 : decode cX2_score 5 = .ok (.iconst 1, 1) := jo_4 (jw1 jdcX2_score_0 5 rfl rfl)
theorem dX2_score_6 : decode cX2_score 6 = .ok (.iadd, 1) := jo_96 (jw1 jdcX2_score_0 6 rfl rfl)
theorem dX2_score_7 : decode cX2_score 7 = .ok (.putfield 29, 3) := jo_181 (a := 0) (b := 29) (jw3 jdcX2_score_0 7 rfl rfl) rfl
theorem dX2_score_10 : decode cX2_score 10 = .ok (.iload_n 2, 1) := jo_28 (jw1 jdcX2_score_0 10 rfl rfl)
theorem dX2_score_11 : decode cX2_score 11 = .ok (.ifCond .eq 13, 3) := jo_153 (a := 0) (b := 13) (jw3 jdcX2_score_0 11 rfl rfl) rfl
theorem dX2_score_14 : decode cX2_score 14 = .ok (.aload_n 0, 1) := jo_42 (jw1 jdcX2_score_0 14 rfl rfl)
theorem dX2_score_15 : decode cX2_score 15 = .ok (.dup, 1) := jo_89 (jw1 jdcX2_score_0 15 rfl rfl)
theorem dX2_score_16 : decode cX2_score 16 = .ok (.getfield 32, 3) := jo_180 (a := 0) (b := 32) (jw3 jdcX2_score_0 16 rfl rfl) rfl
theorem dX2_score_19 : decode cX2_score 19 = .ok (.iconst 1, 1) := jo_4 (jw1 jdcX2_score_0 19 rfl rfl)
theorem dX2_score_20 : decode cX2_score 20 = .ok (.iadd, 1) := jo_96 (jw1 jdcX2_score_0 20 rfl rfl)
theorem dX2_score_21 : decode cX2_score 21 = .ok (.putfield 32, 3) := jo_181 (a := 0) (b := 32) (jw3 jdcX2_score_0 21 rfl rfl) rfl
theorem dX2_score_24 : decode cX2_score 24 = .ok (.aload_n 0, 1) := jo_42 (jw1 jdcX2_score_0 24 rfl rfl)
theorem dX2_score_25 : decode cX2_score 25 = .ok (.getfield 11, 3) := jo_180 (a := 0) (b := 11) (jw3 jdcX2_score_0 25 rfl rfl) rfl
theorem jdcX2_score_16 : jwk (cX2_score.data.toList.drop 28) [27, 42, 180, 0, 11, 27, 184, 0, 71, 4, 96, 184, 0, 75, 177] = true := by decide +kernel
theorem dX2_score_28 : decode cX2_score 28 = .ok (.iload_n 1, 1) := jo_27 (jw1 jdcX2_score_16 0 rfl rfl)
theorem dX2_score_29 : decode cX2_score 29 = .ok (.aload_n 0, 1) := jo_42 (jw1 jdcX2_score_16 1 rfl rfl)
theorem dX2_score_30 : decode cX2_score 30 = .ok (.getfield 11, 3) := jo_180 (a := 0) (b := 11) (jw3 jdcX2_score_16 2 rfl rfl) rfl
theorem dX2_score_33 : decode cX2_score 33 = .ok (.iload_n 1, 1) := jo_27 (jw1 jdcX2_score_16 5 rfl rfl)
theorem dX2_score_34 : decode cX2_score 34 = .ok (.invokestatic 71, 3) := jo_184 (a := 0) (b := 71) (jw3 jdcX2_score_16 6 rfl rfl) rfl
theorem dX2_score_37 : decode cX2_score 37 = .ok (.iconst 1, 1) := jo_4 (jw1 jdcX2_score_16 9 rfl rfl)
theorem dX2_score_38 : decode cX2_score 38 = .ok (.iadd, 1) := jo_96 (jw1 jdcX2_score_16 10 rfl rfl)
theorem dX2_score_39 : decode cX2_score 39 = .ok (.invokestatic 75, 3) := jo_184 (a := 0) (b := 75) (jw3 jdcX2_score_16 11 rfl rfl) rfl
theorem dX2_score_42 : decode cX2_score 42 = .ok (.return_, 1) := jo_177 (jw1 jdcX2_score_16 14 rfl rfl)
theorem jdcX2_shortestSteps_0 : jwk (cX2_shortestSteps.data.toList.drop 0) [42, 180, 0, 15, 4, 100, 42, 180, 0, 19, 4, 100, 184, 0, 46, 64, 3, 3, 184, 0, 46, 66, 3, 54, 5] = true := by decide +kernel
theorem dX2_shortestSteps_0 : decode cX2_shortestSteps 0 = .ok (.aload_n 0, 1) := jo_42 (jw1 jdcX2_shortestSteps_0 0 rfl rfl)
theorem dX2_shortestSteps_1 : decode cX2_shortestSteps 1 = .ok (.getfield 15, 3) := jo_180 (a := 0) (b := 15) (jw3 jdcX2_shortestSteps_0 1 rfl rfl) rfl
theorem dX2_shortestSteps_4 : decode cX2_shortestSteps 4 = .ok (.iconst 1, 1) := jo_4 (jw1 jdcX2_shortestSteps_0 4 rfl rfl)
theorem dX2_shortestSteps_5 : decode cX2_shortestSteps 5 = .ok (.isub, 1) := jo_100 (jw1 jdcX2_shortestSteps_0 5 rfl rfl)
theorem dX2_shortestSteps_6 : decode cX2_shortestSteps 6 = .ok (.aload_n 0, 1) := jo_42 (jw1 jdcX2_shortestSteps_0 6 rfl rfl)
theorem dX2_shortestSteps_7 : decode cX2_shortestSteps 7 = .ok (.getfield 19, 3) := jo_180 (a := 0) (b := 19) (jw3 jdcX2_shortestSteps_0 7 rfl rfl) rfl
theorem dX2_shortestSteps_10 : decode cX2_shortestSteps 10 = .ok (.iconst 1, 1) := jo_4 (jw1 jdcX2_shortestSteps_0 10 rfl rfl)
theorem dX2_shortestSteps_11 : decode cX2_shortestSteps 11 = .ok (.isub, 1) := jo_100 (jw1 jdcX2_shortestSteps_0 11 rfl rfl)
theorem dX2_shortestSteps_12 : decode cX2_shortestSteps 12 = .ok (.invokestatic 46, 3) := jo_184 (a := 0) (b := 46) (jw3 jdcX2_shortestSteps_0 12 rfl rfl) rfl
theorem dX2_shortestSteps_15 : decode cX2_shortestSteps 15 = .ok (.lstore_n 1, 1) := jo_64 (jw1 jdcX2_shortestSteps_0 15 rfl rfl)
theorem dX2_shortestSteps_16 : decode cX2_shortestSteps 16 = .ok (.iconst 0, 1) := jo_3 (jw1 jdcX2_shortestSteps_0 16 rfl rfl)
theorem dX2_shortestSteps_17 : decode cX2_shortestSteps 17 = .ok (.iconst 0, 1) := jo_3 (jw1 jdcX2_shortestSteps_0 17 rfl rfl)
theorem dX2_shortestSteps_18 : decode cX2_shortestSteps 18 = .ok (.invokestatic 46, 3) := jo_184 (a := 0) (b := 46) (jw3 jdcX2_shortestSteps_0 18 rfl rfl) rfl
theorem dX2_shortestSteps_21 : decode cX2_shortestSteps 21 = .ok (.lstore_n 3, 1) := jo_66 (jw1 jdcX2_shortestSteps_0 21 rfl rfl)
theorem dX2_shortestSteps_22 : decode cX2_shortestSteps 22 = .ok (.iconst 0, 1) := jo_3 (jw1 jdcX2_shortestSteps_0 22 rfl rfl)
theorem dX2_shortestSteps_23 : decode cX2_shortestSteps 23 = .ok (.istore 5, 2) := jo_54 (jw2 jdcX2_shortestSteps_0 23 rfl rfl)
theorem jdcX2_shortestSteps_16 : jwk (cX2_shortestSteps.data.toList.drop 25) [21, 5, 16, 36, 162, 0, 49, 33, 31, 127, 9, 148, 153, 0, 6, 21, 5, 172, 33, 4, 121, 33, 4] = true := by decide +kernel
theorem dX2_shortestSteps_25 : decode cX2_shortestSteps 25 = .ok (.iload 5, 2) := jo_21 (jw2 jdcX2_shortestSteps_16 0 rfl rfl)
theorem dX2_shortestSteps_27 : decode cX2_shortestSteps 27 = .ok (.bipush 36, 2) := jo_16 (a := 36) (jw2 jdcX2_shortestSteps_16 2 rfl rfl) rfl
theorem dX2_shortestSteps_29 : decode cX2_shortestSteps 29 = .ok (.if_icmp .ge 49, 3) := jo_162 (a := 0) (b := 49) (jw3 jdcX2_shortestSteps_16 4 rfl rfl) rfl
theorem dX2_shortestSteps_32 : decode cX2_shortestSteps 32 = .ok (.lload_n 3, 1) := jo_33 (jw1 jdcX2_shortestSteps_16 7 rfl rfl)
theorem dX2_shortestSteps_33 : decode cX2_shortestSteps 33 = .ok (.lload_n 1, 1) := jo_31 (jw1 jdcX2_shortestSteps_16 8 rfl rfl)
theorem dX2_shortestSteps_34 : decode cX2_shortestSteps 34 = .ok (.land, 1) := jo_127 (jw1 jdcX2_shortestSteps_16 9 rfl rfl)
theorem dX2_shortestSteps_35 : decode cX2_shortestSteps 35 = .ok (.lconst 0, 1) := jo_9 (jw1 jdcX2_shortestSteps_16 10 rfl rfl)
theorem dX2_shortestSteps_36 : decode cX2_shortestSteps 36 = .ok (.lcmp, 1) := jo_148 (jw1 jdcX2_shortestSteps_16 11 rfl rfl)
theorem dX2_shortestSteps_37 : decode cX2_shortestSteps 37 = .ok (.ifCond .eq 6, 3) := jo_153 (a := 0) (b := 6) (jw3 jdcX2_shortestSteps_16 12 rfl rfl) rfl
theorem dX2_shortestSteps_40 : decode cX2_shortestSteps 40 = .ok (.iload 5, 2) := jo_21 (jw2 jdcX2_shortestSteps_16 15 rfl rfl)
theorem dX2_shortestSteps_42 : decode cX2_shortestSteps 42 = .ok (.ireturn, 1) := jo_172 (jw1 jdcX2_shortestSteps_16 17 rfl rfl)
theorem dX2_shortestSteps_43 : decode cX2_shortestSteps 43 = .ok (.lload_n 3, 1) := jo_33 (jw1 jdcX2_shortestSteps_16 18 rfl rfl)
theorem dX2_shortestSteps_44 : decode cX2_shortestSteps 44 = .ok (.iconst 1, 1) := jo_4 (jw1 jdcX2_shortestSteps_16 19 rfl rfl)
theorem dX2_shortestSteps_45 : decode cX2_shortestSteps 45 = .ok (.lshl, 1) := jo_121 (jw1 jdcX2_shortestSteps_16 20 rfl rfl)
theorem dX2_shortestSteps_46 : decode cX2_shortestSteps 46 = .ok (.lload_n 3, 1) := jo_33 (jw1 jdcX2_shortestSteps_16 21 rfl rfl)
theorem dX2_shortestSteps_47 : decode cX2_shortestSteps 47 = .ok (.iconst 1, 1) := jo_4 (jw1 jdcX2_shortestSteps_16 22 rfl rfl)
theorem jdcX2_shortestSteps_32 : jwk (cX2_shortestSteps.data.toList.drop 48) [125, 129, 33, 16, 8, 121, 129, 33, 16, 8, 125, 129, 55, 6, 33, 22, 6, 42, 180, 0, 22, 127] = true := by decide +kernel
theorem dX2_shortestSteps_48 : decode cX2_shortestSteps 48 = .ok (.lushr, 1) := jo_125 (jw1 jdcX2_shortestSteps_32 0 rfl rfl)
theorem dX2_shortestSteps_49 : decode cX2_shortestSteps 49 = .ok (.lor, 1) := jo_129 (jw1 jdcX2_shortestSteps_32 1 rfl rfl)
theorem dX2_shortestSteps_50 : decode cX2_shortestSteps 50 = .ok (.lload_n 3, 1) := jo_33 (jw1 jdcX2_shortestSteps_32 2 rfl rfl)
theorem dX2_shortestSteps_51 : decode cX2_shortestSteps 51 = .ok (.bipush 8, 2) := jo_16 (a := 8) (jw2 jdcX2_shortestSteps_32 3 rfl rfl) rfl
theorem dX2_shortestSteps_53 : decode cX2_shortestSteps 53 = .ok (.lshl, 1) := jo_121 (jw1 jdcX2_shortestSteps_32 5 rfl rfl)
theorem dX2_shortestSteps_54 : decode cX2_shortestSteps 54 = .ok (.lor, 1) := jo_129 (jw1 jdcX2_shortestSteps_32 6 rfl rfl)
theorem dX2_shortestSteps_55 : decode cX2_shortestSteps 55 = .ok (.lload_n 3, 1) := jo_33 (jw1 jdcX2_shortestSteps_32 7 rfl rfl)
theorem dX2_shortestSteps_56 : decode cX2_shortestSteps 56 = .ok (.bipush 8, 2) := jo_16 (a := 8) (jw2 jdcX2_shortestSteps_32 8 rfl rfl) rfl
theorem dX2_shortestSteps_58 : decode cX2_shortestSteps 58 = .ok (.lushr, 1) := jo_125 (jw1 jdcX2_shortestSteps_32 10 rfl rfl)
theorem dX2_shortestSteps_59 : decode cX2_shortestSteps 59 = .ok (.lor, 1) := jo_129 (jw1 jdcX2_shortestSteps_32 11 rfl rfl)
theorem dX2_shortestSteps_60 : decode cX2_shortestSteps 60 = .ok (.lstore 6, 2) := jo_55 (jw2 jdcX2_shortestSteps_32 12 rfl rfl)
theorem dX2_shortestSteps_62 : decode cX2_shortestSteps 62 = .ok (.lload_n 3, 1) := jo_33 (jw1 jdcX2_shortestSteps_32 14 rfl rfl)
theorem dX2_shortestSteps_63 : decode cX2_shortestSteps 63 = .ok (.lload 6, 2) := jo_22 (jw2 jdcX2_shortestSteps_32 15 rfl rfl)
theorem dX2_shortestSteps_65 : decode cX2_shortestSteps 65 = .ok (.aload_n 0, 1) := jo_42 (jw1 jdcX2_shortestSteps_32 17 rfl rfl)
theorem dX2_shortestSteps_66 : decode cX2_shortestSteps 66 = .ok (.getfield 22, 3) := jo_180 (a := 0) (b := 22) (jw3 jdcX2_shortestSteps_32 18 rfl rfl) rfl
theorem dX2_shortestSteps_69 : decode cX2_shortestSteps 69 = .ok (.land, 1) := jo_127 (jw1 jdcX2_shortestSteps_32 21 rfl rfl)
theorem jdcX2_shortestSteps_48 : jwk (cX2_shortestSteps.data.toList.drop 70) [129, 66, 132, 5, 1, 167, 255, 206, 2, 172] = true := by decide +kernel
theorem dX2_shortestSteps_70 : decode cX2_shortestSteps 70 = .ok (.lor, 1) := jo_129 (jw1 jdcX2_shortestSteps_48 0 rfl rfl)
theorem dX2_shortestSteps_71 : decode cX2_shortestSteps 71 = .ok (.lstore_n 3, 1) := jo_66 (jw1 jdcX2_shortestSteps_48 1 rfl rfl)
theorem dX2_shortestSteps_72 : decode cX2_shortestSteps 72 = .ok (.iinc 5 1, 3) := jo_132 (a := 5) (b := 1) (jw3 jdcX2_shortestSteps_48 2 rfl rfl) rfl
theorem dX2_shortestSteps_75 : decode cX2_shortestSteps 75 = .ok (.goto (-50), 3) := jo_167 (a := 255) (b := 206) (jw3 jdcX2_shortestSteps_48 5 rfl rfl) rfl
theorem dX2_shortestSteps_78 : decode cX2_shortestSteps 78 = .ok (.iconst (-1), 1) := jo_2 (jw1 jdcX2_shortestSteps_48 8 rfl rfl)
theorem dX2_shortestSteps_79 : decode cX2_shortestSteps 79 = .ok (.ireturn, 1) := jo_172 (jw1 jdcX2_shortestSteps_48 9 rfl rfl)
theorem jdcX2_digestOnto_0 : jwk (cX2_digestOnto.data.toList.drop 0) [31, 66, 3, 54, 5, 21, 5, 42, 180, 0, 19, 162, 0, 56, 3, 54, 6, 21, 6, 42, 180, 0, 15, 162, 0, 38, 42, 21, 6] = true := by decide +kernel
theorem dX2_digestOnto_0 : decode cX2_digestOnto 0 = .ok (.lload_n 1, 1) := jo_31 (jw1 jdcX2_digestOnto_0 0 rfl rfl)
theorem dX2_digestOnto_1 : decode cX2_digestOnto 1 = .ok (.lstore_n 3, 1) := jo_66 (jw1 jdcX2_digestOnto_0 1 rfl rfl)
theorem dX2_digestOnto_2 : decode cX2_digestOnto 2 = .ok (.iconst 0, 1) := jo_3 (jw1 jdcX2_digestOnto_0 2 rfl rfl)
theorem dX2_digestOnto_3 : decode cX2_digestOnto 3 = .ok (.istore 5, 2) := jo_54 (jw2 jdcX2_digestOnto_0 3 rfl rfl)
theorem dX2_digestOnto_5 : decode cX2_digestOnto 5 = .ok (.iload 5, 2) := jo_21 (jw2 jdcX2_digestOnto_0 5 rfl rfl)
theorem dX2_digestOnto_7 : decode cX2_digestOnto 7 = .ok (.aload_n 0, 1) := jo_42 (jw1 jdcX2_digestOnto_0 7 rfl rfl)
theorem dX2_digestOnto_8 : decode cX2_digestOnto 8 = .ok (.getfield 19, 3) := jo_180 (a := 0) (b := 19) (jw3 jdcX2_digestOnto_0 8 rfl rfl) rfl
theorem dX2_digestOnto_11 : decode cX2_digestOnto 11 = .ok (.if_icmp .ge 56, 3) := jo_162 (a := 0) (b := 56) (jw3 jdcX2_digestOnto_0 11 rfl rfl) rfl
theorem dX2_digestOnto_14 : decode cX2_digestOnto 14 = .ok (.iconst 0, 1) := jo_3 (jw1 jdcX2_digestOnto_0 14 rfl rfl)
theorem dX2_digestOnto_15 : decode cX2_digestOnto 15 = .ok (.istore 6, 2) := jo_54 (jw2 jdcX2_digestOnto_0 15 rfl rfl)
theorem dX2_digestOnto_17 : decode cX2_digestOnto 17 = .ok (.iload 6, 2) := jo_21 (jw2 jdcX2_digestOnto_0 17 rfl rfl)
theorem dX2_digestOnto_19 : decode cX2_digestOnto 19 = .ok (.aload_n 0, 1) := jo_42 (jw1 jdcX2_digestOnto_0 19 rfl rfl)
theorem dX2_digestOnto_20 : decode cX2_digestOnto 20 = .ok (.getfield 15, 3) := jo_180 (a := 0) (b := 15) (jw3 jdcX2_digestOnto_0 20 rfl rfl) rfl
theorem dX2_digestOnto_23 : decode cX2_digestOnto 23 = .ok (.if_icmp .ge 38, 3) := jo_162 (a := 0) (b := 38) (jw3 jdcX2_digestOnto_0 23 rfl rfl) rfl
theorem dX2_digestOnto_26 : decode cX2_digestOnto 26 = .ok (.aload_n 0, 1) := jo_42 (jw1 jdcX2_digestOnto_0 26 rfl rfl)
theorem dX2_digestOnto_27 : decode cX2_digestOnto 27 = .ok (.iload 6, 2) := jo_21 (jw2 jdcX2_digestOnto_0 27 rfl rfl)
theorem jdcX2_digestOnto_16 : jwk (cX2_digestOnto.data.toList.drop 29) [21, 5, 182, 0, 79, 153, 0, 21, 20, 0, 83, 33, 105, 21, 6, 42, 180, 0, 15, 21, 5, 104, 96, 133, 97, 66, 132, 6, 1] = true := by decide +kernel
theorem dX2_digestOnto_29 : decode cX2_digestOnto 29 = .ok (.iload 5, 2) := jo_21 (jw2 jdcX2_digestOnto_16 0 rfl rfl)
theorem dX2_digestOnto_31 : decode cX2_digestOnto 31 = .ok (.invokevirtual 79, 3) := jo_182 (a := 0) (b := 79) (jw3 jdcX2_digestOnto_16 2 rfl rfl) rfl
theorem dX2_digestOnto_34 : decode cX2_digestOnto 34 = .ok (.ifCond .eq 21, 3) := jo_153 (a := 0) (b := 21) (jw3 jdcX2_digestOnto_16 5 rfl rfl) rfl
theorem dX2_digestOnto_37 : decode cX2_digestOnto 37 = .ok (.ldc2_w 83, 3) := jo_20 (a := 0) (b := 83) (jw3 jdcX2_digestOnto_16 8 rfl rfl) rfl
theorem dX2_digestOnto_40 : decode cX2_digestOnto 40 = .ok (.lload_n 3, 1) := jo_33 (jw1 jdcX2_digestOnto_16 11 rfl rfl)
theorem dX2_digestOnto_41 : decode cX2_digestOnto 41 = .ok (.lmul, 1) := jo_105 (jw1 jdcX2_digestOnto_16 12 rfl rfl)
theorem dX2_digestOnto_42 : decode cX2_digestOnto 42 = .ok (.iload 6, 2) := jo_21 (jw2 jdcX2_digestOnto_16 13 rfl rfl)
theorem dX2_digestOnto_44 : decode cX2_digestOnto 44 = .ok (.aload_n 0, 1) := jo_42 (jw1 jdcX2_digestOnto_16 15 rfl rfl)
theorem dX2_digestOnto_45 : decode cX2_digestOnto 45 = .ok (.getfield 15, 3) := jo_180 (a := 0) (b := 15) (jw3 jdcX2_digestOnto_16 16 rfl rfl) rfl
theorem dX2_digestOnto_48 : decode cX2_digestOnto 48 = .ok (.iload 5, 2) := jo_21 (jw2 jdcX2_digestOnto_16 19 rfl rfl)
theorem dX2_digestOnto_50 : decode cX2_digestOnto 50 = .ok (.imul, 1) := jo_104 (jw1 jdcX2_digestOnto_16 21 rfl rfl)
theorem dX2_digestOnto_51 : decode cX2_digestOnto 51 = .ok (.iadd, 1) := jo_96 (jw1 jdcX2_digestOnto_16 22 rfl rfl)
theorem dX2_digestOnto_52 : decode cX2_digestOnto 52 = .ok (.i2l, 1) := jo_133 (jw1 jdcX2_digestOnto_16 23 rfl rfl)
theorem dX2_digestOnto_53 : decode cX2_digestOnto 53 = .ok (.ladd, 1) := jo_97 (jw1 jdcX2_digestOnto_16 24 rfl rfl)
theorem dX2_digestOnto_54 : decode cX2_digestOnto 54 = .ok (.lstore_n 3, 1) := jo_66 (jw1 jdcX2_digestOnto_16 25 rfl rfl)
theorem dX2_digestOnto_55 : decode cX2_digestOnto 55 = .ok (.iinc 6 1, 3) := jo_132 (a := 6) (b := 1) (jw3 jdcX2_digestOnto_16 26 rfl rfl) rfl
theorem jdcX2_digestOnto_32 : jwk (cX2_digestOnto.data.toList.drop 58) [167, 255, 215, 132, 5, 1, 167, 255, 197, 33, 173] = true := by decide +kernel
theorem dX2_digestOnto_58 : decode cX2_digestOnto 58 = .ok (.goto (-41), 3) := jo_167 (a := 255) (b := 215) (jw3 jdcX2_digestOnto_32 0 rfl rfl) rfl
theorem dX2_digestOnto_61 : decode cX2_digestOnto 61 = .ok (.iinc 5 1, 3) := jo_132 (a := 5) (b := 1) (jw3 jdcX2_digestOnto_32 3 rfl rfl) rfl
theorem dX2_digestOnto_64 : decode cX2_digestOnto 64 = .ok (.goto (-59), 3) := jo_167 (a := 255) (b := 197) (jw3 jdcX2_digestOnto_32 6 rfl rfl) rfl
theorem dX2_digestOnto_67 : decode cX2_digestOnto 67 = .ok (.lload_n 3, 1) := jo_33 (jw1 jdcX2_digestOnto_32 9 rfl rfl)
theorem dX2_digestOnto_68 : decode cX2_digestOnto 68 = .ok (.lreturn, 1) := jo_173 (jw1 jdcX2_digestOnto_32 10 rfl rfl)
theorem jdcX3_init_0 : jwk (cX3_init.data.toList.drop 0) [42, 183, 0, 3, 42, 3, 181, 0, 9, 42, 3, 181, 0, 15, 42, 3, 27, 16, 120, 184, 0, 18, 184, 0, 24, 181, 0, 27, 42] = true := by decide +kernel
theorem dX3_init_0 : decode cX3_init 0 = .ok (.aload_n 0, 1) := jo_42 (jw1 jdcX3_init_0 0 rfl rfl)
theorem dX3_init_1 : decode cX3_init 1 = .ok (.invokespecial 3, 3) := jo_183 (a := 0) (b := 3) (jw3 jdcX3_init_0 1 rfl rfl) rfl
theorem dX3_init_4 : decode cX3_init 4 = .ok (.aload_n 0, 1) := jo_42 (jw1 jdcX3_init_0 4 rfl rfl)
theorem dX3_init_5 : decode cX3_init 5 = .ok (.iconst 0, 1) := jo_3 (jw1 jdcX3_init_0 5 rfl rfl)
theorem dX3_init_6 : decode cX3_init 6 = .ok (.putfield 9, 3) := jo_181 (a := 0) (b := 9) (jw3 jdcX3_init_0 6 rfl rfl) rfl
theorem dX3_init_9 : decode cX3_init 9 = .ok (.aload_n 0, 1) := jo_42 (jw1 jdcX3_init_0 9 rfl rfl)
theorem dX3_init_10 : decode cX3_init 10 = .ok (.iconst 0, 1) := jo_3 (jw1 jdcX3_init_0 10 rfl rfl)
theorem dX3_init_11 : decode cX3_init 11 = .ok (.putfield 15, 3) := jo_181 (a := 0) (b := 15) (jw3 jdcX3_init_0 11 rfl rfl) rfl
theorem dX3_init_14 : decode cX3_init 14 = .ok (.aload_n 0, 1) := jo_42 (jw1 jdcX3_init_0 14 rfl rfl)
theorem dX3_init_15 : decode cX3_init 15 = .ok (.iconst 0, 1) := jo_3 (jw1 jdcX3_init_0 15 rfl rfl)
theorem dX3_init_16 : decode cX3_init 16 = .ok (.iload_n 1, 1) := jo_27 (jw1 jdcX3_init_0 16 rfl rfl)
theorem dX3_init_17 : decode cX3_init 17 = .ok (.bipush 120, 2) := jo_16 (a := 120) (jw2 jdcX3_init_0 17 rfl rfl) rfl
theorem dX3_init_19 : decode cX3_init 19 = .ok (.invokestatic 18, 3) := jo_184 (a := 0) (b := 18) (jw3 jdcX3_init_0 19 rfl rfl) rfl
theorem dX3_init_22 : decode cX3_init 22 = .ok (.invokestatic 24, 3) := jo_184 (a := 0) (b := 24) (jw3 jdcX3_init_0 22 rfl rfl) rfl
theorem dX3_init_25 : decode cX3_init 25 = .ok (.putfield 27, 3) := jo_181 (a := 0) (b := 27) (jw3 jdcX3_init_0 25 rfl rfl) rfl
theorem dX3_init_28 : decode cX3_init 28 = .ok (.aload_n 0, 1) := jo_42 (jw1 jdcX3_init_0 28 rfl rfl)
theorem jdcX3_init_16 : jwk (cX3_init.data.toList.drop 29) [42, 180, 0, 27, 188, 10, 181, 0, 30, 42, 42, 180, 0, 27, 4, 96, 188, 10, 181, 0, 34, 42, 42, 180, 0, 27, 4, 96, 188, 10, 181, 0, 37, 42] = true := by decide +kernel
theorem dX3_init_29 : decode cX3_init 29 = .ok (.aload_n 0, 1) := jo_42 (jw1 jdcX3_init_16 0 rfl rfl)
theorem dX3_init_30 : decode cX3_init 30 = .ok (.getfield 27, 3) := jo_180 (a := 0) (b := 27) (jw3 jdcX3_init_16 1 rfl rfl) rfl
theorem dX3_init_35 : decode cX3_init 35 = .ok (.putfield 30, 3) := jo_181 (a := 0) (b := 30) (jw3 jdcX3_init_16 6 rfl rfl) rfl
theorem dX3_init_38 : decode cX3_init 38 = .ok (.aload_n 0, 1) := jo_42 (jw1 jdcX3_init_16 9 rfl rfl)
theorem dX3_init_39 : decode cX3_init 39 = .ok (.aload_n 0, 1) := jo_42 (jw1 jdcX3_init_16 10 rfl rfl)
theorem dX3_init_40 : decode cX3_init 40 = .ok (.getfield 27, 3) := jo_180 (a := 0) (b := 27) (jw3 jdcX3_init_16 11 rfl rfl) rfl
theorem dX3_init_43 : decode cX3_init 43 = .ok (.iconst 1, 1) := jo_4 (jw1 jdcX3_init_16 14 rfl rfl)
theorem dX3_init_44 : decode cX3_init 44 = .ok (.iadd, 1) := jo_96 (jw1 jdcX3_init_16 15 rfl rfl)
theorem dX3_init_47 : decode cX3_init 47 = .ok (.putfield 34, 3) := jo_181 (a := 0) (b := 34) (jw3 jdcX3_init_16 18 rfl rfl) rfl
theorem dX3_init_50 : decode cX3_init 50 = .ok (.aload_n 0, 1) := jo_42 (jw1 jdcX3_init_16 21 rfl rfl)
theorem dX3_init_51 : decode cX3_init 51 = .ok (.aload_n 0, 1) := jo_42 (jw1 jdcX3_init_16 22 rfl rfl)
theorem dX3_init_52 : decode cX3_init 52 = .ok (.getfield 27, 3) := jo_180 (a := 0) (b := 27) (jw3 jdcX3_init_16 23 rfl rfl) rfl
theorem dX3_init_55 : decode cX3_init 55 = .ok (.iconst 1, 1) := jo_4 (jw1 jdcX3_init_16 26 rfl rfl)
theorem dX3_init_56 : decode cX3_init 56 = .ok (.iadd, 1) := jo_96 (jw1 jdcX3_init_16 27 rfl rfl)
theorem dX3_init_59 : decode cX3_init 59 = .ok (.putfield 37, 3) := jo_181 (a := 0) (b := 37) (jw3 jdcX3_init_16 30 rfl rfl) rfl
theorem dX3_init_62 : decode cX3_init 62 = .ok (.aload_n 0, 1) := jo_42 (jw1 jdcX3_init_16 33 rfl rfl)
theorem jdcX3_init_32 : jwk (cX3_init.data.toList.drop 63) [42, 180, 0, 27, 4, 96, 188, 10, 181, 0, 40, 177] = true := by decide +kernel
theorem dX3_init_63 : decode cX3_init 63 = .ok (.aload_n 0, 1) := jo_42 (jw1 jdcX3_init_32 0 rfl rfl)
theorem dX3_init_64 : decode cX3_init 64 = .ok (.getfield 27, 3) := jo_180 (a := 0) (b := 27) (jw3 jdcX3_init_32 1 rfl rfl) rfl
theorem dX3_init_67 : decode cX3_init 67 = .ok (.iconst 1, 1) := jo_4 (jw1 jdcX3_init_32 4 rfl rfl)
theorem dX3_init_68 : decode cX3_init 68 = .ok (.iadd, 1) := jo_96 (jw1 jdcX3_init_32 5 rfl rfl)
theorem dX3_init_71 : decode cX3_init 71 = .ok (.putfield 40, 3) := jo_181 (a := 0) (b := 40) (jw3 jdcX3_init_32 8 rfl rfl) rfl
theorem dX3_init_74 : decode cX3_init 74 = .ok (.return_, 1) := jo_177 (jw1 jdcX3_init_32 11 rfl rfl)
theorem jdcX3_begin_0 : jwk (cX3_begin.data.toList.drop 0) [42, 27, 181, 0, 9, 42, 3, 181, 0, 15, 177] = true := by decide +kernel
theorem dX3_begin_0 : decode cX3_begin 0 = .ok (.aload_n 0, 1) := jo_42 (jw1 jdcX3_begin_0 0 rfl rfl)
theorem dX3_begin_1 : decode cX3_begin 1 = .ok (.iload_n 1, 1) := jo_27 (jw1 jdcX3_begin_0 1 rfl rfl)
theorem dX3_begin_2 : decode cX3_begin 2 = .ok (.putfield 9, 3) := jo_181 (a := 0) (b := 9) (jw3 jdcX3_begin_0 2 rfl rfl) rfl
theorem dX3_begin_5 : decode cX3_begin 5 = .ok (.aload_n 0, 1) := jo_42 (jw1 jdcX3_begin_0 5 rfl rfl)
theorem dX3_begin_6 : decode cX3_begin 6 = .ok (.iconst 0, 1) := jo_3 (jw1 jdcX3_begin_0 6 rfl rfl)
theorem dX3_begin_7 : decode cX3_begin 7 = .ok (.putfield 15, 3) := jo_181 (a := 0) (b := 15) (jw3 jdcX3_begin_0 7 rfl rfl) rfl
theorem dX3_begin_10 : decode cX3_begin 10 = .ok (.return_, 1) := jo_177 (jw1 jdcX3_begin_0 10 rfl rfl)
theorem jdcX3_direction_0 : jwk (cX3_direction.data.toList.drop 0) [42, 180, 0, 30, 27, 184, 0, 43, 172] = true := by decide +kernel
theorem dX3_direction_0 : decode cX3_direction 0 = .ok (.aload_n 0, 1) := jo_42 (jw1 jdcX3_direction_0 0 rfl rfl)
theorem dX3_direction_1 : decode cX3_direction 1 = .ok (.getfield 30, 3) := jo_180 (a := 0) (b := 30) (jw3 jdcX3_direction_0 1 rfl rfl) rfl
theorem dX3_direction_4 : decode cX3_direction 4 = .ok (.iload_n 1, 1) := jo_27 (jw1 jdcX3_direction_0 4 rfl rfl)
theorem dX3_direction_5 : decode cX3_direction 5 = .ok (.invokestatic 43, 3) := jo_184 (a := 0) (b := 43) (jw3 jdcX3_direction_0 5 rfl rfl) rfl
theorem dX3_direction_8 : decode cX3_direction 8 = .ok (.ireturn, 1) := jo_172 (jw1 jdcX3_direction_0 8 rfl rfl)
theorem jdcX3_endX_0 : jwk (cX3_endX.data.toList.drop 0) [42, 180, 0, 34, 42, 180, 0, 15, 184, 0, 43, 172] = true := by decide +kernel
theorem dX3_endX_0 : decode cX3_endX 0 = .ok (.aload_n 0, 1) := jo_42 (jw1 jdcX3_endX_0 0 rfl rfl)
theorem dX3_endX_1 : decode cX3_endX 1 = .ok (.getfield 34, 3) := jo_180 (a := 0) (b := 34) (jw3 jdcX3_endX_0 1 rfl rfl) rfl
theorem dX3_endX_4 : decode cX3_endX 4 = .ok (.aload_n 0, 1) := jo_42 (jw1 jdcX3_endX_0 4 rfl rfl)
theorem dX3_endX_5 : decode cX3_endX 5 = .ok (.getfield 15, 3) := jo_180 (a := 0) (b := 15) (jw3 jdcX3_endX_0 5 rfl rfl) rfl
theorem dX3_endX_8 : decode cX3_endX 8 = .ok (.invokestatic 43, 3) := jo_184 (a := 0) (b := 43) (jw3 jdcX3_endX_0 8 rfl rfl) rfl
theorem dX3_endX_11 : decode cX3_endX 11 = .ok (.ireturn, 1) := jo_172 (jw1 jdcX3_endX_0 11 rfl rfl)
theorem jdcX3_endY_0 : jwk (cX3_endY.data.toList.drop 0) [42, 180, 0, 37, 42, 180, 0, 15, 184, 0, 43, 172] = true := by decide +kernel
theorem dX3_endY_0 : decode cX3_endY 0 = .ok (.aload_n 0, 1) := jo_42 (jw1 jdcX3_endY_0 0 rfl rfl)
theorem dX3_endY_1 : decode cX3_endY 1 = .ok (.getfield 37, 3) := jo_180 (a := 0) (b := 37) (jw3 jdcX3_endY_0 1 rfl rfl) rfl
theorem dX3_endY_4 : decode cX3_endY 4 = .ok (.aload_n 0, 1) := jo_42 (jw1 jdcX3_endY_0 4 rfl rfl)
theorem dX3_endY_5 : decode cX3_endY 5 = .ok (.getfield 15, 3) := jo_180 (a := 0) (b := 15) (jw3 jdcX3_endY_0 5 rfl rfl) rfl
theorem dX3_endY_8 : decode cX3_endY 8 = .ok (.invokestatic 43, 3) := jo_184 (a := 0) (b := 43) (jw3 jdcX3_endY_0 8 rfl rfl) rfl
theorem dX3_endY_11 : decode cX3_endY 11 = .ok (.ireturn, 1) := jo_172 (jw1 jdcX3_endY_0 11 rfl rfl)
theorem jdcX3_endZ_0 : jwk (cX3_endZ.data.toList.drop 0) [42, 180, 0, 40, 42, 180, 0, 15, 184, 0, 43, 172] = true := by decide +kernel
theorem dX3_endZ_0 : decode cX3_endZ 0 = .ok (.aload_n 0, 1) := jo_42 (jw1 jdcX3_endZ_0 0 rfl rfl)
theorem dX3_endZ_1 : decode cX3_endZ 1 = .ok (.getfield 40, 3) := jo_180 (a := 0) (b := 40) (jw3 jdcX3_endZ_0 1 rfl rfl) rfl
theorem dX3_endZ_4 : decode cX3_endZ 4 = .ok (.aload_n 0, 1) := jo_42 (jw1 jdcX3_endZ_0 4 rfl rfl)
theorem dX3_endZ_5 : decode cX3_endZ 5 = .ok (.getfield 15, 3) := jo_180 (a := 0) (b := 15) (jw3 jdcX3_endZ_0 5 rfl rfl) rfl
theorem dX3_endZ_8 : decode cX3_endZ 8 = .ok (.invokestatic 43, 3) := jo_184 (a := 0) (b := 43) (jw3 jdcX3_endZ_0 8 rfl rfl) rfl
theorem dX3_endZ_11 : decode cX3_endZ 11 = .ok (.ireturn, 1) := jo_172 (jw1 jdcX3_endZ_0 11 rfl rfl)
theorem jdcX3_hasCome_0 : jwk (cX3_hasCome.data.toList.drop 0) [42, 180, 0, 15, 54, 4, 21, 4, 155, 0, 50, 42, 180, 0, 34, 21, 4, 184, 0, 43, 27, 160, 0, 31, 42, 180, 0, 37, 21, 4, 184, 0, 43, 28] = true := by decide +kernel
theorem dX3_hasCome_0 : decode cX3_hasCome 0 = .ok (.aload_n 0, 1) := jo_42 (jw1 jdcX3_hasCome_0 0 rfl rfl)
theorem dX3_hasCome_1 : decode cX3_hasCome 1 = .ok (.getfield 15, 3) := jo_180 (a := 0) (b := 15) (jw3 jdcX3_hasCome_0 1 rfl rfl) rfl
theorem dX3_hasCome_4 : decode cX3_hasCome 4 = .ok (.istore 4, 2) := jo_54 (jw2 jdcX3_hasCome_0 4 rfl rfl)
theorem dX3_hasCome_6 : decode cX3_hasCome 6 = .ok (.iload 4, 2) := jo_21 (jw2 jdcX3_hasCome_0 6 rfl rfl)
theorem dX3_hasCome_8 : decode cX3_hasCome 8 = .ok (.ifCond .lt 50, 3) := jo_155 (a := 0) (b := 50) (jw3 jdcX3_hasCome_0 8 rfl rfl) rfl
theorem dX3_hasCome_11 : decode cX3_hasCome 11 = .ok (.aload_n 0, 1) := jo_42 (jw1 jdcX3_hasCome_0 11 rfl rfl)
theorem dX3_hasCome_12 : decode cX3_hasCome 12 = .ok (.getfield 34, 3) := jo_180 (a := 0) (b := 34) (jw3 jdcX3_hasCome_0 12 rfl rfl) rfl
theorem dX3_hasCome_15 : decode cX3_hasCome 15 = .ok (.iload 4, 2) := jo_21 (jw2 jdcX3_hasCome_0 15 rfl rfl)
theorem dX3_hasCome_17 : decode cX3_hasCome 17 = .ok (.invokestatic 43, 3) := jo_184 (a := 0) (b := 43) (jw3 jdcX3_hasCome_0 17 rfl rfl) rfl
theorem dX3_hasCome_20 : decode cX3_hasCome 20 = .ok (.iload_n 1, 1) := jo_27 (jw1 jdcX3_hasCome_0 20 rfl rfl)
theorem dX3_hasCome_21 : decode cX3_hasCome 21 = .ok (.if_icmp .ne 31, 3) := jo_160 (a := 0) (b := 31) (jw3 jdcX3_hasCome_0 21 rfl rfl) rfl
theorem dX3_hasCome_24 : decode cX3_hasCome 24 = .ok (.aload_n 0, 1) := jo_42 (jw1 jdcX3_hasCome_0 24 rfl rfl)
theorem dX3_hasCome_25 : decode cX3_hasCome 25 = .ok (.getfield 37, 3) := jo_180 (a := 0) (b := 37) (jw3 jdcX3_hasCome_0 25 rfl rfl) rfl
theorem dX3_hasCome_28 : decode cX3_hasCome 28 = .ok (.iload 4, 2) := jo_21 (jw2 jdcX3_hasCome_0 28 rfl rfl)
theorem dX3_hasCome_30 : decode cX3_hasCome 30 = .ok (.invokestatic 43, 3) := jo_184 (a := 0) (b := 43) (jw3 jdcX3_hasCome_0 30 rfl rfl) rfl
theorem dX3_hasCome_33 : decode cX3_hasCome 33 = .ok (.iload_n 2, 1) := jo_28 (jw1 jdcX3_hasCome_0 33 rfl rfl)
theorem jdcX3_hasCome_16 : jwk (cX3_hasCome.data.toList.drop 34) [160, 0, 18, 42, 180, 0, 40, 21, 4, 184, 0, 43, 29, 160, 0, 5, 4, 172, 132, 4, 255, 167, 255, 207, 3, 172] = true := by decide +kernel
theorem dX3_hasCome_34 : decode cX3_hasCome 34 = .ok (.if_icmp .ne 18, 3) := jo_160 (a := 0) (b := 18) (jw3 jdcX3_hasCome_16 0 rfl rfl) rfl
theorem dX3_hasCome_37 : decode cX3_hasCome 37 = .ok (.aload_n 0, 1) := jo_42 (jw1 jdcX3_hasCome_16 3 rfl rfl)
theorem dX3_hasCome_38 : decode cX3_hasCome 38 = .ok (.getfield 40, 3) := jo_180 (a := 0) (b := 40) (jw3 jdcX3_hasCome_16 4 rfl rfl) rfl
theorem dX3_hasCome_41 : decode cX3_hasCome 41 = .ok (.iload 4, 2) := jo_21 (jw2 jdcX3_hasCome_16 7 rfl rfl)
theorem dX3_hasCome_43 : decode cX3_hasCome 43 = .ok (.invokestatic 43, 3) := jo_184 (a := 0) (b := 43) (jw3 jdcX3_hasCome_16 9 rfl rfl) rfl
theorem dX3_hasCome_46 : decode cX3_hasCome 46 = .ok (.iload_n 3, 1) := jo_29 (jw1 jdcX3_hasCome_16 12 rfl rfl)
theorem dX3_hasCome_47 : decode cX3_hasCome 47 = .ok (.if_icmp .ne 5, 3) := jo_160 (a := 0) (b := 5) (jw3 jdcX3_hasCome_16 13 rfl rfl) rfl
theorem dX3_hasCome_50 : decode cX3_hasCome 50 = .ok (.iconst 1, 1) := jo_4 (jw1 jdcX3_hasCome_16 16 rfl rfl)
theorem dX3_hasCome_51 : decode cX3_hasCome 51 = .ok (.ireturn, 1) := jo_172 (jw1 jdcX3_hasCome_16 17 rfl rfl)
theorem dX3_hasCome_52 : decode cX3_hasCome 52 = .ok (.iinc 4 (-1), 3) := jo_132 (a := 4) (b := 255) (jw3 jdcX3_hasCome_16 18 rfl rfl) rfl
theorem dX3_hasCome_55 : decode cX3_hasCome 55 = .ok (.goto (-49), 3) := jo_167 (a := 255) (b := 207) (jw3 jdcX3_hasCome_16 21 rfl rfl) rfl
theorem dX3_hasCome_58 : decode cX3_hasCome 58 = .ok (.iconst 0, 1) := jo_3 (jw1 jdcX3_hasCome_16 24 rfl rfl)
theorem dX3_hasCome_59 : decode cX3_hasCome 59 = .ok (.ireturn, 1) := jo_172 (jw1 jdcX3_hasCome_16 25 rfl rfl)
theorem jdcX3_leads_0 : jwk (cX3_leads.data.toList.drop 0) [42, 42, 182, 0, 47, 42, 180, 0, 9, 27, 184, 0, 51, 96, 42, 182, 0, 56, 42, 180, 0, 9, 27, 42, 182, 0, 47, 42] = true := by decide +kernel
theorem dX3_leads_0 : decode cX3_leads 0 = .ok (.aload_n 0, 1) := jo_42 (jw1 jdcX3_leads_0 0 rfl rfl)
theorem dX3_leads_1 : decode cX3_leads 1 = .ok (.aload_n 0, 1) := jo_42 (jw1 jdcX3_leads_0 1 rfl rfl)
theorem dX3_leads_2 : decode cX3_leads 2 = .ok (.invokevirtual 47, 3) := jo_182 (a := 0) (b := 47) (jw3 jdcX3_leads_0 2 rfl rfl) rfl
theorem dX3_leads_5 : decode cX3_leads 5 = .ok (.aload_n 0, 1) := jo_42 (jw1 jdcX3_leads_0 5 rfl rfl)
theorem dX3_leads_6 : decode cX3_leads 6 = .ok (.getfield 9, 3) := jo_180 (a := 0) (b := 9) (jw3 jdcX3_leads_0 6 rfl rfl) rfl
theorem dX3_leads_9 : decode cX3_leads 9 = .ok (.iload_n 1, 1) := jo_27 (jw1 jdcX3_leads_0 9 rfl rfl)
theorem dX3_leads_10 : decode cX3_leads 10 = .ok (.invokestatic 51, 3) := jo_184 (a := 0) (b := 51) (jw3 jdcX3_leads_0 10 rfl rfl) rfl
theorem dX3_leads_13 : decode cX3_leads 13 = .ok (.iadd, 1) := jo_96 (jw1 jdcX3_leads_0 13 rfl rfl)
theorem dX3_leads_14 : decode cX3_leads 14 = .ok (.aload_n 0, 1) := jo_42 (jw1 jdcX3_leads_0 14 rfl rfl)
theorem dX3_leads_15 : decode cX3_leads 15 = .ok (.invokevirtual 56, 3) := jo_182 (a := 0) (b := 56) (jw3 jdcX3_leads_0 15 rfl rfl) rfl
theorem dX3_leads_18 : decode cX3_leads 18 = .ok (.aload_n 0, 1) := jo_42 (jw1 jdcX3_leads_0 18 rfl rfl)
theorem dX3_leads_19 : decode cX3_leads 19 = .ok (.getfield 9, 3) := jo_180 (a := 0) (b := 9) (jw3 jdcX3_leads_0 19 rfl rfl) rfl
theorem dX3_leads_22 : decode cX3_leads 22 = .ok (.iload_n 1, 1) := jo_27 (jw1 jdcX3_leads_0 22 rfl rfl)
theorem dX3_leads_23 : decode cX3_leads 23 = .ok (.aload_n 0, 1) := jo_42 (jw1 jdcX3_leads_0 23 rfl rfl)
theorem dX3_leads_24 : decode cX3_leads 24 = .ok (.invokevirtual 47, 3) := jo_182 (a := 0) (b := 47) (jw3 jdcX3_leads_0 24 rfl rfl) rfl
theorem dX3_leads_27 : decode cX3_leads 27 = .ok (.aload_n 0, 1) := jo_42 (jw1 jdcX3_leads_0 27 rfl rfl)
theorem jdcX3_leads_16 : jwk (cX3_leads.data.toList.drop 28) [182, 0, 56, 184, 0, 59, 96, 42, 182, 0, 63, 42, 180, 0, 9, 27, 184, 0, 66, 96, 182, 0, 69, 154, 0, 7, 4, 167, 0, 4, 3, 172] = true := by decide +kernel
theorem dX3_leads_28 : decode cX3_leads 28 = .ok (.invokevirtual 56, 3) := jo_182 (a := 0) (b := 56) (jw3 jdcX3_leads_16 0 rfl rfl) rfl
theorem dX3_leads_31 : decode cX3_leads 31 = .ok (.invokestatic 59, 3) := jo_184 (a := 0) (b := 59) (jw3 jdcX3_leads_16 3 rfl rfl) rfl
theorem dX3_leads_34 : decode cX3_leads 34 = .ok (.iadd, 1) := jo_96 (jw1 jdcX3_leads_16 6 rfl rfl)
theorem dX3_leads_35 : decode cX3_leads 35 = .ok (.aload_n 0, 1) := jo_42 (jw1 jdcX3_leads_16 7 rfl rfl)
theorem dX3_leads_36 : decode cX3_leads 36 = .ok (.invokevirtual 63, 3) := jo_182 (a := 0) (b := 63) (jw3 jdcX3_leads_16 8 rfl rfl) rfl
theorem dX3_leads_39 : decode cX3_leads 39 = .ok (.aload_n 0, 1) := jo_42 (jw1 jdcX3_leads_16 11 rfl rfl)
theorem dX3_leads_40 : decode cX3_leads 40 = .ok (.getfield 9, 3) := jo_180 (a := 0) (b := 9) (jw3 jdcX3_leads_16 12 rfl rfl) rfl
theorem dX3_leads_43 : decode cX3_leads 43 = .ok (.iload_n 1, 1) := jo_27 (jw1 jdcX3_leads_16 15 rfl rfl)
theorem dX3_leads_44 : decode cX3_leads 44 = .ok (.invokestatic 66, 3) := jo_184 (a := 0) (b := 66) (jw3 jdcX3_leads_16 16 rfl rfl) rfl
theorem dX3_leads_47 : decode cX3_leads 47 = .ok (.iadd, 1) := jo_96 (jw1 jdcX3_leads_16 19 rfl rfl)
theorem dX3_leads_48 : decode cX3_leads 48 = .ok (.invokevirtual 69, 3) := jo_182 (a := 0) (b := 69) (jw3 jdcX3_leads_16 20 rfl rfl) rfl
theorem dX3_leads_51 : decode cX3_leads 51 = .ok (.ifCond .ne 7, 3) := jo_154 (a := 0) (b := 7) (jw3 jdcX3_leads_16 23 rfl rfl) rfl
theorem dX3_leads_54 : decode cX3_leads 54 = .ok (.iconst 1, 1) := jo_4 (jw1 jdcX3_leads_16 26 rfl rfl)
theorem dX3_leads_55 : decode cX3_leads 55 = .ok (.goto 4, 3) := jo_167 (a := 0) (b := 4) (jw3 jdcX3_leads_16 27 rfl rfl) rfl
theorem dX3_leads_58 : decode cX3_leads 58 = .ok (.iconst 0, 1) := jo_3 (jw1 jdcX3_leads_16 30 rfl rfl)
theorem dX3_leads_59 : decode cX3_leads 59 = .ok (.ireturn, 1) := jo_172 (jw1 jdcX3_leads_16 31 rfl rfl)
theorem jdcX3_lay_0 : jwk (cX3_lay.data.toList.drop 0) [42, 180, 0, 15, 42, 180, 0, 27, 162, 0, 11, 42, 27, 182, 0, 73, 154, 0, 5, 3, 172, 42, 182, 0, 47, 42, 180, 0, 9, 27] = true := by decide +kernel
theorem dX3_lay_0 : decode cX3_lay 0 = .ok (.aload_n 0, 1) := jo_42 (jw1 jdcX3_lay_0 0 rfl rfl)
theorem dX3_lay_1 : decode cX3_lay 1 = .ok (.getfield 15, 3) := jo_180 (a := 0) (b := 15) (jw3 jdcX3_lay_0 1 rfl rfl) rfl
theorem dX3_lay_4 : decode cX3_lay 4 = .ok (.aload_n 0, 1) := jo_42 (jw1 jdcX3_lay_0 4 rfl rfl)
theorem dX3_lay_5 : decode cX3_lay 5 = .ok (.getfield 27, 3) := jo_180 (a := 0) (b := 27) (jw3 jdcX3_lay_0 5 rfl rfl) rfl
theorem dX3_lay_8 : decode cX3_lay 8 = .ok (.if_icmp .ge 11, 3) := jo_162 (a := 0) (b := 11) (jw3 jdcX3_lay_0 8 rfl rfl) rfl
theorem dX3_lay_11 : decode cX3_lay 11 = .ok (.aload_n 0, 1) := jo_42 (jw1 jdcX3_lay_0 11 rfl rfl)
theorem dX3_lay_12 : decode cX3_lay 12 = .ok (.iload_n 1, 1) := jo_27 (jw1 jdcX3_lay_0 12 rfl rfl)
theorem dX3_lay_13 : decode cX3_lay 13 = .ok (.invokevirtual 73, 3) := jo_182 (a := 0) (b := 73) (jw3 jdcX3_lay_0 13 rfl rfl) rfl
theorem dX3_lay_16 : decode cX3_lay 16 = .ok (.ifCond .ne 5, 3) := jo_154 (a := 0) (b := 5) (jw3 jdcX3_lay_0 16 rfl rfl) rfl
theorem dX3_lay_19 : decode cX3_lay 19 = .ok (.iconst 0, 1) := jo_3 (jw1 jdcX3_lay_0 19 rfl rfl)
theorem dX3_lay_20 : decode cX3_lay 20 = .ok (.ireturn, 1) := jo_172 (jw1 jdcX3_lay_0 20 rfl rfl)
theorem dX3_lay_21 : decode cX3_lay 21 = .ok (.aload_n 0, 1) := jo_42 (jw1 jdcX3_lay_0 21 rfl rfl)
theorem dX3_lay_22 : decode cX3_lay 22 = .ok (.invokevirtual 47, 3) := jo_182 (a := 0) (b := 47) (jw3 jdcX3_lay_0 22 rfl rfl) rfl
theorem dX3_lay_25 : decode cX3_lay 25 = .ok (.aload_n 0, 1) := jo_42 (jw1 jdcX3_lay_0 25 rfl rfl)
theorem dX3_lay_26 : decode cX3_lay 26 = .ok (.getfield 9, 3) := jo_180 (a := 0) (b := 9) (jw3 jdcX3_lay_0 26 rfl rfl) rfl
theorem dX3_lay_29 : decode cX3_lay 29 = .ok (.iload_n 1, 1) := jo_27 (jw1 jdcX3_lay_0 29 rfl rfl)
theorem jdcX3_lay_16 : jwk (cX3_lay.data.toList.drop 30) [184, 0, 51, 96, 61, 42, 182, 0, 56, 42, 180, 0, 9, 27, 42, 182, 0, 47, 42, 182, 0, 56, 184, 0, 59, 96, 62, 42] = true := by decide +kernel
theorem dX3_lay_30 : decode cX3_lay 30 = .ok (.invokestatic 51, 3) := jo_184 (a := 0) (b := 51) (jw3 jdcX3_lay_16 0 rfl rfl) rfl
theorem dX3_lay_33 : decode cX3_lay 33 = .ok (.iadd, 1) := jo_96 (jw1 jdcX3_lay_16 3 rfl rfl)
theorem dX3_lay_34 : decode cX3_lay 34 = .ok (.istore_n 2, 1) := jo_61 (jw1 jdcX3_lay_16 4 rfl rfl)
theorem dX3_lay_35 : decode cX3_lay 35 = .ok (.aload_n 0, 1) := jo_42 (jw1 jdcX3_lay_16 5 rfl rfl)
theorem dX3_lay_36 : decode cX3_lay 36 = .ok (.invokevirtual 56, 3) := jo_182 (a := 0) (b := 56) (jw3 jdcX3_lay_16 6 rfl rfl) rfl
theorem dX3_lay_39 : decode cX3_lay 39 = .ok (.aload_n 0, 1) := jo_42 (jw1 jdcX3_lay_16 9 rfl rfl)
theorem dX3_lay_40 : decode cX3_lay 40 = .ok (.getfield 9, 3) := jo_180 (a := 0) (b := 9) (jw3 jdcX3_lay_16 10 rfl rfl) rfl
theorem dX3_lay_43 : decode cX3_lay 43 = .ok (.iload_n 1, 1) := jo_27 (jw1 jdcX3_lay_16 13 rfl rfl)
theorem dX3_lay_44 : decode cX3_lay 44 = .ok (.aload_n 0, 1) := jo_42 (jw1 jdcX3_lay_16 14 rfl rfl)
theorem dX3_lay_45 : decode cX3_lay 45 = .ok (.invokevirtual 47, 3) := jo_182 (a := 0) (b := 47) (jw3 jdcX3_lay_16 15 rfl rfl) rfl
theorem dX3_lay_48 : decode cX3_lay 48 = .ok (.aload_n 0, 1) := jo_42 (jw1 jdcX3_lay_16 18 rfl rfl)
theorem dX3_lay_49 : decode cX3_lay 49 = .ok (.invokevirtual 56, 3) := jo_182 (a := 0) (b := 56) (jw3 jdcX3_lay_16 19 rfl rfl) rfl
theorem dX3_lay_52 : decode cX3_lay 52 = .ok (.invokestatic 59, 3) := jo_184 (a := 0) (b := 59) (jw3 jdcX3_lay_16 22 rfl rfl) rfl
theorem dX3_lay_55 : decode cX3_lay 55 = .ok (.iadd, 1) := jo_96 (jw1 jdcX3_lay_16 25 rfl rfl)
theorem dX3_lay_56 : decode cX3_lay 56 = .ok (.istore_n 3, 1) := jo_62 (jw1 jdcX3_lay_16 26 rfl rfl)
theorem dX3_lay_57 : decode cX3_lay 57 = .ok (.aload_n 0, 1) := jo_42 (jw1 jdcX3_lay_16 27 rfl rfl)
theorem jdcX3_lay_32 : jwk (cX3_lay.data.toList.drop 58) [182, 0, 63, 42, 180, 0, 9, 27, 184, 0, 66, 96, 54, 4, 42, 180, 0, 30, 42, 180, 0, 15, 27, 184, 0, 77, 42, 89, 180, 0, 15] = true := by decide +kernel
theorem dX3_lay_58 : decode cX3_lay 58 = .ok (.invokevirtual 63, 3) := jo_182 (a := 0) (b := 63) (jw3 jdcX3_lay_32 0 rfl rfl) rfl
theorem dX3_lay_61 : decode cX3_lay 61 = .ok (.aload_n 0, 1) := jo_42 (jw1 jdcX3_lay_32 3 rfl rfl)
theorem dX3_lay_62 : decode cX3_lay 62 = .ok (.getfield 9, 3) := jo_180 (a := 0) (b := 9) (jw3 jdcX3_lay_32 4 rfl rfl) rfl
theorem dX3_lay_65 : decode cX3_lay 65 = .ok (.iload_n 1, 1) := jo_27 (jw1 jdcX3_lay_32 7 rfl rfl)
theorem dX3_lay_66 : decode cX3_lay 66 = .ok (.invokestatic 66, 3) := jo_184 (a := 0) (b := 66) (jw3 jdcX3_lay_32 8 rfl rfl) rfl
theorem dX3_lay_69 : decode cX3_lay 69 = .ok (.iadd, 1) := jo_96 (jw1 jdcX3_lay_32 11 rfl rfl)
theorem dX3_lay_70 : decode cX3_lay 70 = .ok (.istore 4, 2) := jo_54 (jw2 jdcX3_lay_32 12 rfl rfl)
theorem dX3_lay_72 : decode cX3_lay 72 = .ok (.aload_n 0, 1) := jo_42 (jw1 jdcX3_lay_32 14 rfl rfl)
theorem dX3_lay_73 : decode cX3_lay 73 = .ok (.getfield 30, 3) := jo_180 (a := 0) (b := 30) (jw3 jdcX3_lay_32 15 rfl rfl) rfl
theorem dX3_lay_76 : decode cX3_lay 76 = .ok (.aload_n 0, 1) := jo_42 (jw1 jdcX3_lay_32 18 rfl rfl)
theorem dX3_lay_77 : decode cX3_lay 77 = .ok (.getfield 15, 3) := jo_180 (a := 0) (b := 15) (jw3 jdcX3_lay_32 19 rfl rfl) rfl
theorem dX3_lay_80 : decode cX3_lay 80 = .ok (.iload_n 1, 1) := jo_27 (jw1 jdcX3_lay_32 22 rfl rfl)
theorem dX3_lay_81 : decode cX3_lay 81 = .ok (.invokestatic 77, 3) := jo_184 (a := 0) (b := 77) (jw3 jdcX3_lay_32 23 rfl rfl) rfl
theorem dX3_lay_84 : decode cX3_lay 84 = .ok (.aload_n 0, 1) := jo_42 (jw1 jdcX3_lay_32 26 rfl rfl)
theorem dX3_lay_85 : decode cX3_lay 85 = .ok (.dup, 1) := jo_89 (jw1 jdcX3_lay_32 27 rfl rfl)
theorem dX3_lay_86 : decode cX3_lay 86 = .ok (.getfield 15, 3) := jo_180 (a := 0) (b := 15) (jw3 jdcX3_lay_32 28 rfl rfl) rfl
theorem jdcX3_lay_48 : jwk (cX3_lay.data.toList.drop 89) [4, 96, 181, 0, 15, 42, 180, 0, 34, 42, 180, 0, 15, 28, 184, 0, 77, 42, 180, 0, 37, 42, 180, 0, 15, 29, 184, 0, 77, 42] = true := by decide +kernel
theorem dX3_lay_89 : decode cX3_lay 89 = .ok (.iconst 1, 1) := jo_4 (jw1 jdcX3_lay_48 0 rfl rfl)
theorem dX3_lay_90 : decode cX3_lay 90 = .ok (.iadd, 1) := jo_96 (jw1 jdcX3_lay_48 1 rfl rfl)
theorem dX3_lay_91 : decode cX3_lay 91 = .ok (.putfield 15, 3) := jo_181 (a := 0) (b := 15) (jw3 jdcX3_lay_48 2 rfl rfl) rfl
theorem dX3_lay_94 : decode cX3_lay 94 = .ok (.aload_n 0, 1) := jo_42 (jw1 jdcX3_lay_48 5 rfl rfl)
theorem dX3_lay_95 : decode cX3_lay 95 = .ok (.getfield 34, 3) := jo_180 (a := 0) (b := 34) (jw3 jdcX3_lay_48 6 rfl rfl) rfl
theorem dX3_lay_98 : decode cX3_lay 98 = .ok (.aload_n 0, 1) := jo_42 (jw1 jdcX3_lay_48 9 rfl rfl)
theorem dX3_lay_99 : decode cX3_lay 99 = .ok (.getfield 15, 3) := jo_180 (a := 0) (b := 15) (jw3 jdcX3_lay_48 10 rfl rfl) rfl
theorem dX3_lay_102 : decode cX3_lay 102 = .ok (.iload_n 2, 1) := jo_28 (jw1 jdcX3_lay_48 13 rfl rfl)
theorem dX3_lay_103 : decode cX3_lay 103 = .ok (.invokestatic 77, 3) := jo_184 (a := 0) (b := 77) (jw3 jdcX3_lay_48 14 rfl rfl) rfl
theorem dX3_lay_106 : decode cX3_lay 106 = .ok (.aload_n 0, 1) := jo_42 (jw1 jdcX3_lay_48 17 rfl rfl)
theorem dX3_lay_107 : decode cX3_lay 107 = .ok (.getfield 37, 3) := jo_180 (a := 0) (b := 37) (jw3 jdcX3_lay_48 18 rfl rfl) rfl
theorem dX3_lay_110 : decode cX3_lay 110 = .ok (.aload_n 0, 1) := jo_42 (jw1 jdcX3_lay_48 21 rfl rfl)
theorem dX3_lay_111 : decode cX3_lay 111 = .ok (.getfield 15, 3) := jo_180 (a := 0) (b := 15) (jw3 jdcX3_lay_48 22 rfl rfl) rfl
theorem dX3_lay_114 : decode cX3_lay 114 = .ok (.iload_n 3, 1) := jo_29 (jw1 jdcX3_lay_48 25 rfl rfl)
theorem dX3_lay_115 : decode cX3_lay 115 = .ok (.invokestatic 77, 3) := jo_184 (a := 0) (b := 77) (jw3 jdcX3_lay_48 26 rfl rfl) rfl
theorem dX3_lay_118 : decode cX3_lay 118 = .ok (.aload_n 0, 1) := jo_42 (jw1 jdcX3_lay_48 29 rfl rfl)
theorem jdcX3_lay_64 : jwk (cX3_lay.data.toList.drop 119) [180, 0, 40, 42, 180, 0, 15, 21, 4, 184, 0, 77, 4, 172] = true := by decide +kernel
theorem dX3_lay_119 : decode cX3_lay 119 = .ok (.getfield 40, 3) := jo_180 (a := 0) (b := 40) (jw3 jdcX3_lay_64 0 rfl rfl) rfl
theorem dX3_lay_122 : decode cX3_lay 122 = .ok (.aload_n 0, 1) := jo_42 (jw1 jdcX3_lay_64 3 rfl rfl)
theorem dX3_lay_123 : decode cX3_lay 123 = .ok (.getfield 15, 3) := jo_180 (a := 0) (b := 15) (jw3 jdcX3_lay_64 4 rfl rfl) rfl
theorem dX3_lay_126 : decode cX3_lay 126 = .ok (.iload 4, 2) := jo_21 (jw2 jdcX3_lay_64 7 rfl rfl)
theorem dX3_lay_128 : decode cX3_lay 128 = .ok (.invokestatic 77, 3) := jo_184 (a := 0) (b := 77) (jw3 jdcX3_lay_64 9 rfl rfl) rfl
theorem dX3_lay_131 : decode cX3_lay 131 = .ok (.iconst 1, 1) := jo_4 (jw1 jdcX3_lay_64 12 rfl rfl)
theorem dX3_lay_132 : decode cX3_lay 132 = .ok (.ireturn, 1) := jo_172 (jw1 jdcX3_lay_64 13 rfl rfl)
theorem jdcX3_drop_0 : jwk (cX3_drop.data.toList.drop 0) [42, 3, 42, 180, 0, 15, 3, 27, 184, 0, 24, 100, 184, 0, 24, 181, 0, 15, 177] = true := by decide +kernel
theorem dX3_drop_0 : decode cX3_drop 0 = .ok (.aload_n 0, 1) := jo_42 (jw1 jdcX3_drop_0 0 rfl rfl)
theorem dX3_drop_1 : decode cX3_drop 1 = .ok (.iconst 0, 1) := jo_3 (jw1 jdcX3_drop_0 1 rfl rfl)
theorem dX3_drop_2 : decode cX3_drop 2 = .ok (.aload_n 0, 1) := jo_42 (jw1 jdcX3_drop_0 2 rfl rfl)
theorem dX3_drop_3 : decode cX3_drop 3 = .ok (.getfield 15, 3) := jo_180 (a := 0) (b := 15) (jw3 jdcX3_drop_0 3 rfl rfl) rfl
theorem dX3_drop_6 : decode cX3_drop 6 = .ok (.iconst 0, 1) := jo_3 (jw1 jdcX3_drop_0 6 rfl rfl)
theorem dX3_drop_7 : decode cX3_drop 7 = .ok (.iload_n 1, 1) := jo_27 (jw1 jdcX3_drop_0 7 rfl rfl)
theorem dX3_drop_8 : decode cX3_drop 8 = .ok (.invokestatic 24, 3) := jo_184 (a := 0) (b := 24) (jw3 jdcX3_drop_0 8 rfl rfl) rfl
theorem dX3_drop_11 : decode cX3_drop 11 = .ok (.isub, 1) := jo_100 (jw1 jdcX3_drop_0 11 rfl rfl)
theorem dX3_drop_12 : decode cX3_drop 12 = .ok (.invokestatic 24, 3) := jo_184 (a := 0) (b := 24) (jw3 jdcX3_drop_0 12 rfl rfl) rfl
theorem dX3_drop_15 : decode cX3_drop 15 = .ok (.putfield 15, 3) := jo_181 (a := 0) (b := 15) (jw3 jdcX3_drop_0 15 rfl rfl) rfl
theorem dX3_drop_18 : decode cX3_drop 18 = .ok (.return_, 1) := jo_177 (jw1 jdcX3_drop_0 18 rfl rfl)
theorem jdcX3_become_0 : jwk (cX3_become.data.toList.drop 0) [43, 198, 0, 14, 43, 180, 0, 15, 42, 180, 0, 27, 164, 0, 4, 177, 42, 43, 180, 0, 9, 181, 0, 9, 42, 43, 180, 0, 15, 181, 0, 15] = true := by decide +kernel
theorem dX3_become_0 : decode cX3_become 0 = .ok (.aload_n 1, 1) := jo_43 (jw1 jdcX3_become_0 0 rfl rfl)
theorem dX3_become_1 : decode cX3_become 1 = .ok (.ifnull 14, 3) := jo_198 (a := 0) (b := 14) (jw3 jdcX3_become_0 1 rfl rfl) rfl
theorem dX3_become_4 : decode cX3_become 4 = .ok (.aload_n 1, 1) := jo_43 (jw1 jdcX3_become_0 4 rfl rfl)
theorem dX3_become_5 : decode cX3_become 5 = .ok (.getfield 15, 3) := jo_180 (a := 0) (b := 15) (jw3 jdcX3_become_0 5 rfl rfl) rfl
theorem dX3_become_8 : decode cX3_become 8 = .ok (.aload_n 0, 1) := jo_42 (jw1 jdcX3_become_0 8 rfl rfl)
theorem dX3_become_9 : decode cX3_become 9 = .ok (.getfield 27, 3) := jo_180 (a := 0) (b := 27) (jw3 jdcX3_become_0 9 rfl rfl) rfl
theorem dX3_become_12 : decode cX3_become 12 = .ok (.if_icmp .le 4, 3) := jo_164 (a := 0) (b := 4) (jw3 jdcX3_become_0 12 rfl rfl) rfl
theorem dX3_become_15 : decode cX3_become 15 = .ok (.return_, 1) := jo_177 (jw1 jdcX3_become_0 15 rfl rfl)
theorem dX3_become_16 : decode cX3_become 16 = .ok (.aload_n 0, 1) := jo_42 (jw1 jdcX3_become_0 16 rfl rfl)
theorem dX3_become_17 : decode cX3_become 17 = .ok (.aload_n 1, 1) := jo_43 (jw1 jdcX3_become_0 17 rfl rfl)
theorem dX3_become_18 : decode cX3_become 18 = .ok (.getfield 9, 3) := jo_180 (a := 0) (b := 9) (jw3 jdcX3_become_0 18 rfl rfl) rfl
theorem dX3_become_21 : decode cX3_become 21 = .ok (.putfield 9, 3) := jo_181 (a := 0) (b := 9) (jw3 jdcX3_become_0 21 rfl rfl) rfl
theorem dX3_become_24 : decode cX3_become 24 = .ok (.aload_n 0, 1) := jo_42 (jw1 jdcX3_become_0 24 rfl rfl)
theorem dX3_become_25 : decode cX3_become 25 = .ok (.aload_n 1, 1) := jo_43 (jw1 jdcX3_become_0 25 rfl rfl)
theorem dX3_become_26 : decode cX3_become 26 = .ok (.getfield 15, 3) := jo_180 (a := 0) (b := 15) (jw3 jdcX3_become_0 26 rfl rfl) rfl
theorem dX3_become_29 : decode cX3_become 29 = .ok (.putfield 15, 3) := jo_181 (a := 0) (b := 15) (jw3 jdcX3_become_0 29 rfl rfl) rfl
theorem jdcX3_become_16 : jwk (cX3_become.data.toList.drop 32) [3, 61, 28, 42, 180, 0, 15, 163, 0, 73, 42, 180, 0, 30, 28, 43, 180, 0, 30, 28, 184, 0, 43, 184, 0, 77, 42, 180, 0, 34] = true := by decide +kernel
theorem dX3_become_32 : decode cX3_become 32 = .ok (.iconst 0, 1) := jo_3 (jw1 jdcX3_become_16 0 rfl rfl)
theorem dX3_become_33 : decode cX3_become 33 = .ok (.istore_n 2, 1) := jo_61 (jw1 jdcX3_become_16 1 rfl rfl)
theorem dX3_become_34 : decode cX3_become 34 = .ok (.iload_n 2, 1) := jo_28 (jw1 jdcX3_become_16 2 rfl rfl)
theorem dX3_become_35 : decode cX3_become 35 = .ok (.aload_n 0, 1) := jo_42 (jw1 jdcX3_become_16 3 rfl rfl)
theorem dX3_become_36 : decode cX3_become 36 = .ok (.getfield 15, 3) := jo_180 (a := 0) (b := 15) (jw3 jdcX3_become_16 4 rfl rfl) rfl
theorem dX3_become_39 : decode cX3_become 39 = .ok (.if_icmp .gt 73, 3) := jo_163 (a := 0) (b := 73) (jw3 jdcX3_become_16 7 rfl rfl) rfl
theorem dX3_become_42 : decode cX3_become 42 = .ok (.aload_n 0, 1) := jo_42 (jw1 jdcX3_become_16 10 rfl rfl)
theorem dX3_become_43 : decode cX3_become 43 = .ok (.getfield 30, 3) := jo_180 (a := 0) (b := 30) (jw3 jdcX3_become_16 11 rfl rfl) rfl
theorem dX3_become_46 : decode cX3_become 46 = .ok (.iload_n 2, 1) := jo_28 (jw1 jdcX3_become_16 14 rfl rfl)
theorem dX3_become_47 : decode cX3_become 47 = .ok (.aload_n 1, 1) := jo_43 (jw1 jdcX3_become_16 15 rfl rfl)
theorem dX3_become_48 : decode cX3_become 48 = .ok (.getfield 30, 3) := jo_180 (a := 0) (b := 30) (jw3 jdcX3_become_16 16 rfl rfl) rfl
theorem dX3_become_51 : decode cX3_become 51 = .ok (.iload_n 2, 1) := jo_28 (jw1 jdcX3_become_16 19 rfl rfl)
theorem dX3_become_52 : decode cX3_become 52 = .ok (.invokestatic 43, 3) := jo_184 (a := 0) (b := 43) (jw3 jdcX3_become_16 20 rfl rfl) rfl
theorem dX3_become_55 : decode cX3_become 55 = .ok (.invokestatic 77, 3) := jo_184 (a := 0) (b := 77) (jw3 jdcX3_become_16 23 rfl rfl) rfl
theorem dX3_become_58 : decode cX3_become 58 = .ok (.aload_n 0, 1) := jo_42 (jw1 jdcX3_become_16 26 rfl rfl)
theorem dX3_become_59 : decode cX3_become 59 = .ok (.getfield 34, 3) := jo_180 (a := 0) (b := 34) (jw3 jdcX3_become_16 27 rfl rfl) rfl
theorem jdcX3_become_32 : jwk (cX3_become.data.toList.drop 62) [28, 43, 180, 0, 34, 28, 184, 0, 43, 184, 0, 77, 42, 180, 0, 37, 28, 43, 180, 0, 37, 28, 184, 0, 43, 184, 0, 77, 42, 180, 0, 40] = true := by decide +kernel
theorem dX3_become_62 : decode cX3_become 62 = .ok (.iload_n 2, 1) := jo_28 (jw1 jdcX3_become_32 0 rfl rfl)
theorem dX3_become_63 : decode cX3_become 63 = .ok (.aload_n 1, 1) := jo_43 (jw1 jdcX3_become_32 1 rfl rfl)
theorem dX3_become_64 : decode cX3_become 64 = .ok (.getfield 34, 3) := jo_180 (a := 0) (b := 34) (jw3 jdcX3_become_32 2 rfl rfl) rfl
theorem dX3_become_67 : decode cX3_become 67 = .ok (.iload_n 2, 1) := jo_28 (jw1 jdcX3_become_32 5 rfl rfl)
theorem dX3_become_68 : decode cX3_become 68 = .ok (.invokestatic 43, 3) := jo_184 (a := 0) (b := 43) (jw3 jdcX3_become_32 6 rfl rfl) rfl
theorem dX3_become_71 : decode cX3_become 71 = .ok (.invokestatic 77, 3) := jo_184 (a := 0) (b := 77) (jw3 jdcX3_become_32 9 rfl rfl) rfl
theorem dX3_become_74 : decode cX3_become 74 = .ok (.aload_n 0, 1) := jo_42 (jw1 jdcX3_become_32 12 rfl rfl)
theorem dX3_become_75 : decode cX3_become 75 = .ok (.getfield 37, 3) := jo_180 (a := 0) (b := 37) (jw3 jdcX3_become_32 13 rfl rfl) rfl
theorem dX3_become_78 : decode cX3_become 78 = .ok (.iload_n 2, 1) := jo_28 (jw1 jdcX3_become_32 16 rfl rfl)
theorem dX3_become_79 : decode cX3_become 79 = .ok (.aload_n 1, 1) := jo_43 (jw1 jdcX3_become_32 17 rfl rfl)
theorem dX3_become_80 : decode cX3_become 80 = .ok (.getfield 37, 3) := jo_180 (a := 0) (b := 37) (jw3 jdcX3_become_32 18 rfl rfl) rfl
theorem dX3_become_83 : decode cX3_become 83 = .ok (.iload_n 2, 1) := jo_28 (jw1 jdcX3_become_32 21 rfl rfl)
theorem dX3_become_84 : decode cX3_become 84 = .ok (.invokestatic 43, 3) := jo_184 (a := 0) (b := 43) (jw3 jdcX3_become_32 22 rfl rfl) rfl
theorem dX3_become_87 : decode cX3_become 87 = .ok (.invokestatic 77, 3) := jo_184 (a := 0) (b := 77) (jw3 jdcX3_become_32 25 rfl rfl) rfl
theorem dX3_become_90 : decode cX3_become 90 = .ok (.aload_n 0, 1) := jo_42 (jw1 jdcX3_become_32 28 rfl rfl)
theorem dX3_become_91 : decode cX3_become 91 = .ok (.getfield 40, 3) := jo_180 (a := 0) (b := 40) (jw3 jdcX3_become_32 29 rfl rfl) rfl
theorem jdcX3_become_48 : jwk (cX3_become.data.toList.drop 94) [28, 43, 180, 0, 40, 28, 184, 0, 43, 184, 0, 77, 132, 2, 1, 167, 255, 181, 177] = true := by decide +kernel
theorem dX3_become_94 : decode cX3_become 94 = .ok (.iload_n 2, 1) := jo_28 (jw1 jdcX3_become_48 0 rfl rfl)
theorem dX3_become_95 : decode cX3_become 95 = .ok (.aload_n 1, 1) := jo_43 (jw1 jdcX3_become_48 1 rfl rfl)
theorem dX3_become_96 : decode cX3_become 96 = .ok (.getfield 40, 3) := jo_180 (a := 0) (b := 40) (jw3 jdcX3_become_48 2 rfl rfl) rfl
theorem dX3_become_99 : decode cX3_become 99 = .ok (.iload_n 2, 1) := jo_28 (jw1 jdcX3_become_48 5 rfl rfl)
theorem dX3_become_100 : decode cX3_become 100 = .ok (.invokestatic 43, 3) := jo_184 (a := 0) (b := 43) (jw3 jdcX3_become_48 6 rfl rfl) rfl
theorem dX3_become_103 : decode cX3_become 103 = .ok (.invokestatic 77, 3) := jo_184 (a := 0) (b := 77) (jw3 jdcX3_become_48 9 rfl rfl) rfl
theorem dX3_become_106 : decode cX3_become 106 = .ok (.iinc 2 1, 3) := jo_132 (a := 2) (b := 1) (jw3 jdcX3_become_48 12 rfl rfl) rfl
theorem dX3_become_109 : decode cX3_become 109 = .ok (.goto (-75), 3) := jo_167 (a := 255) (b := 181) (jw3 jdcX3_become_48 15 rfl rfl) rfl
theorem dX3_become_112 : decode cX3_become 112 = .ok (.return_, 1) := jo_177 (jw1 jdcX3_become_48 18 rfl rfl)
theorem jdcX3_isRing_0 : jwk (cX3_isRing.data.toList.drop 0) [42, 180, 0, 15, 5, 161, 0, 29, 42, 180, 0, 9, 42, 182, 0, 47, 42, 182, 0, 56, 42, 182, 0, 63, 184, 0, 81, 153, 0, 7, 4, 167, 0, 4] = true := by decide +kernel
theorem dX3_isRing_0 : decode cX3_isRing 0 = .ok (.aload_n 0, 1) := jo_42 (jw1 jdcX3_isRing_0 0 rfl rfl)
theorem dX3_isRing_1 : decode cX3_isRing 1 = .ok (.getfield 15, 3) := jo_180 (a := 0) (b := 15) (jw3 jdcX3_isRing_0 1 rfl rfl) rfl
theorem dX3_isRing_4 : decode cX3_isRing 4 = .ok (.iconst 2, 1) := jo_5 (jw1 jdcX3_isRing_0 4 rfl rfl)
theorem dX3_isRing_5 : decode cX3_isRing 5 = .ok (.if_icmp .lt 29, 3) := jo_161 (a := 0) (b := 29) (jw3 jdcX3_isRing_0 5 rfl rfl) rfl
theorem dX3_isRing_8 : decode cX3_isRing 8 = .ok (.aload_n 0, 1) := jo_42 (jw1 jdcX3_isRing_0 8 rfl rfl)
theorem dX3_isRing_9 : decode cX3_isRing 9 = .ok (.getfield 9, 3) := jo_180 (a := 0) (b := 9) (jw3 jdcX3_isRing_0 9 rfl rfl) rfl
theorem dX3_isRing_12 : decode cX3_isRing 12 = .ok (.aload_n 0, 1) := jo_42 (jw1 jdcX3_isRing_0 12 rfl rfl)
theorem dX3_isRing_13 : decode cX3_isRing 13 = .ok (.invokevirtual 47, 3) := jo_182 (a := 0) (b := 47) (jw3 jdcX3_isRing_0 13 rfl rfl) rfl
theorem dX3_isRing_16 : decode cX3_isRing 16 = .ok (.aload_n 0, 1) := jo_42 (jw1 jdcX3_isRing_0 16 rfl rfl)
theorem dX3_isRing_17 : decode cX3_isRing 17 = .ok (.invokevirtual 56, 3) := jo_182 (a := 0) (b := 56) (jw3 jdcX3_isRing_0 17 rfl rfl) rfl
theorem dX3_isRing_20 : decode cX3_isRing 20 = .ok (.aload_n 0, 1) := jo_42 (jw1 jdcX3_isRing_0 20 rfl rfl)
theorem dX3_isRing_21 : decode cX3_isRing 21 = .ok (.invokevirtual 63, 3) := jo_182 (a := 0) (b := 63) (jw3 jdcX3_isRing_0 21 rfl rfl) rfl
theorem dX3_isRing_24 : decode cX3_isRing 24 = .ok (.invokestatic 81, 3) := jo_184 (a := 0) (b := 81) (jw3 jdcX3_isRing_0 24 rfl rfl) rfl
theorem dX3_isRing_27 : decode cX3_isRing 27 = .ok (.ifCond .eq 7, 3) := jo_153 (a := 0) (b := 7) (jw3 jdcX3_isRing_0 27 rfl rfl) rfl
theorem dX3_isRing_30 : decode cX3_isRing 30 = .ok (.iconst 1, 1) := jo_4 (jw1 jdcX3_isRing_0 30 rfl rfl)
theorem dX3_isRing_31 : decode cX3_isRing 31 = .ok (.goto 4, 3) := jo_167 (a := 0) (b := 4) (jw3 jdcX3_isRing_0 31 rfl rfl) rfl
theorem jdcX3_isRing_16 : jwk (cX3_isRing.data.toList.drop 34) [3, 172] = true := by decide +kernel
theorem dX3_isRing_34 : decode cX3_isRing 34 = .ok (.iconst 0, 1) := jo_3 (jw1 jdcX3_isRing_16 0 rfl rfl)
theorem dX3_isRing_35 : decode cX3_isRing 35 = .ok (.ireturn, 1) := jo_172 (jw1 jdcX3_isRing_16 1 rfl rfl)
theorem jdcX3_twiceArea_0 : jwk (cX3_twiceArea.data.toList.drop 0) [3, 60, 3, 61, 28, 42, 180, 0, 15, 162, 0, 51, 27, 42, 180, 0, 34, 28, 184, 0, 43, 42, 180, 0, 37, 28] = true := by decide +kernel
theorem dX3_twiceArea_0 : decode cX3_twiceArea 0 = .ok (.iconst 0, 1) := jo_3 (jw1 jdcX3_twiceArea_0 0 rfl rfl)
theorem dX3_twiceArea_1 : decode cX3_twiceArea 1 = .ok (.istore_n 1, 1) := jo_60 (jw1 jdcX3_twiceArea_0 1 rfl rfl)
theorem dX3_twiceArea_2 : decode cX3_twiceArea 2 = .ok (.iconst 0, 1) := jo_3 (jw1 jdcX3_twiceArea_0 2 rfl rfl)
theorem dX3_twiceArea_3 : decode cX3_twiceArea 3 = .ok (.istore_n 2, 1) := jo_61 (jw1 jdcX3_twiceArea_0 3 rfl rfl)
theorem dX3_twiceArea_4 : decode cX3_twiceArea 4 = .ok (.iload_n 2, 1) := jo_28 (jw1 jdcX3_twiceArea_0 4 rfl rfl)
theorem dX3_twiceArea_5 : decode cX3_twiceArea 5 = .ok (.aload_n 0, 1) := jo_42 (jw1 jdcX3_twiceArea_0 5 rfl rfl)
theorem dX3_twiceArea_6 : decode cX3_twiceArea 6 = .ok (.getfield 15, 3) := jo_180 (a := 0) (b := 15) (jw3 jdcX3_twiceArea_0 6 rfl rfl) rfl
theorem dX3_twiceArea_9 : decode cX3_twiceArea 9 = .ok (.if_icmp .ge 51, 3) := jo_162 (a := 0) (b := 51) (jw3 jdcX3_twiceArea_0 9 rfl rfl) rfl
theorem dX3_twiceArea_12 : decode cX3_twiceArea 12 = .ok (.iload_n 1, 1) := jo_27 (jw1 jdcX3_twiceArea_0 12 rfl rfl)
theorem dX3_twiceArea_13 : decode cX3_twiceArea 13 = .ok (.aload_n 0, 1) := jo_42 (jw1 jdcX3_twiceArea_0 13 rfl rfl)
theorem dX3_twiceArea_14 : decode cX3_twiceArea 14 = .ok (.getfield 34, 3) := jo_180 (a := 0) (b := 34) (jw3 jdcX3_twiceArea_0 14 rfl rfl) rfl
theorem dX3_twiceArea_17 : decode cX3_twiceArea 17 = .ok (.iload_n 2, 1) := jo_28 (jw1 jdcX3_twiceArea_0 17 rfl rfl)
theorem dX3_twiceArea_18 : decode cX3_twiceArea 18 = .ok (.invokestatic 43, 3) := jo_184 (a := 0) (b := 43) (jw3 jdcX3_twiceArea_0 18 rfl rfl) rfl
theorem dX3_twiceArea_21 : decode cX3_twiceArea 21 = .ok (.aload_n 0, 1) := jo_42 (jw1 jdcX3_twiceArea_0 21 rfl rfl)
theorem dX3_twiceArea_22 : decode cX3_twiceArea 22 = .ok (.getfield 37, 3) := jo_180 (a := 0) (b := 37) (jw3 jdcX3_twiceArea_0 22 rfl rfl) rfl
theorem dX3_twiceArea_25 : decode cX3_twiceArea 25 = .ok (.iload_n 2, 1) := jo_28 (jw1 jdcX3_twiceArea_0 25 rfl rfl)
theorem jdcX3_twiceArea_16 : jwk (cX3_twiceArea.data.toList.drop 26) [4, 96, 184, 0, 43, 104, 42, 180, 0, 34, 28, 4, 96, 184, 0, 43, 42, 180, 0, 37, 28, 184, 0, 43, 104, 100] = true := by decide +kernel
theorem dX3_twiceArea_26 : decode cX3_twiceArea 26 = .ok (.iconst 1, 1) := jo_4 (jw1 jdcX3_twiceArea_16 0 rfl rfl)
theorem dX3_twiceArea_27 : decode cX3_twiceArea 27 = .ok (.iadd, 1) := jo_96 (jw1 jdcX3_twiceArea_16 1 rfl rfl)
theorem dX3_twiceArea_28 : decode cX3_twiceArea 28 = .ok (.invokestatic 43, 3) := jo_184 (a := 0) (b := 43) (jw3 jdcX3_twiceArea_16 2 rfl rfl) rfl
theorem dX3_twiceArea_31 : decode cX3_twiceArea 31 = .ok (.imul, 1) := jo_104 (jw1 jdcX3_twiceArea_16 5 rfl rfl)
theorem dX3_twiceArea_32 : decode cX3_twiceArea 32 = .ok (.aload_n 0, 1) := jo_42 (jw1 jdcX3_twiceArea_16 6 rfl rfl)
theorem dX3_twiceArea_33 : decode cX3_twiceArea 33 = .ok (.getfield 34, 3) := jo_180 (a := 0) (b := 34) (jw3 jdcX3_twiceArea_16 7 rfl rfl) rfl
theorem dX3_twiceArea_36 : decode cX3_twiceArea 36 = .ok (.iload_n 2, 1) := jo_28 (jw1 jdcX3_twiceArea_16 10 rfl rfl)
theorem dX3_twiceArea_37 : decode cX3_twiceArea 37 = .ok (.iconst 1, 1) := jo_4 (jw1 jdcX3_twiceArea_16 11 rfl rfl)
theorem dX3_twiceArea_38 : decode cX3_twiceArea 38 = .ok (.iadd, 1) := jo_96 (jw1 jdcX3_twiceArea_16 12 rfl rfl)
theorem dX3_twiceArea_39 : decode cX3_twiceArea 39 = .ok (.invokestatic 43, 3) := jo_184 (a := 0) (b := 43) (jw3 jdcX3_twiceArea_16 13 rfl rfl) rfl
theorem dX3_twiceArea_42 : decode cX3_twiceArea 42 = .ok (.aload_n 0, 1) := jo_42 (jw1 jdcX3_twiceArea_16 16 rfl rfl)
theorem dX3_twiceArea_43 : decode cX3_twiceArea 43 = .ok (.getfield 37, 3) := jo_180 (a := 0) (b := 37) (jw3 jdcX3_twiceArea_16 17 rfl rfl) rfl
theorem dX3_twiceArea_46 : decode cX3_twiceArea 46 = .ok (.iload_n 2, 1) := jo_28 (jw1 jdcX3_twiceArea_16 20 rfl rfl)
theorem dX3_twiceArea_47 : decode cX3_twiceArea 47 = .ok (.invokestatic 43, 3) := jo_184 (a := 0) (b := 43) (jw3 jdcX3_twiceArea_16 21 rfl rfl) rfl
theorem dX3_twiceArea_50 : decode cX3_twiceArea 50 = .ok (.imul, 1) := jo_104 (jw1 jdcX3_twiceArea_16 24 rfl rfl)
theorem dX3_twiceArea_51 : decode cX3_twiceArea 51 = .ok (.isub, 1) := jo_100 (jw1 jdcX3_twiceArea_16 25 rfl rfl)
theorem jdcX3_twiceArea_32 : jwk (cX3_twiceArea.data.toList.drop 52) [96, 60, 132, 2, 1, 167, 255, 203, 27, 184, 0, 85, 172] = true := by decide +kernel
theorem dX3_twiceArea_52 : decode cX3_twiceArea 52 = .ok (.iadd, 1) := jo_96 (jw1 jdcX3_twiceArea_32 0 rfl rfl)
theorem dX3_twiceArea_53 : decode cX3_twiceArea 53 = .ok (.istore_n 1, 1) := jo_60 (jw1 jdcX3_twiceArea_32 1 rfl rfl)
theorem dX3_twiceArea_54 : decode cX3_twiceArea 54 = .ok (.iinc 2 1, 3) := jo_132 (a := 2) (b := 1) (jw3 jdcX3_twiceArea_32 2 rfl rfl) rfl
theorem dX3_twiceArea_57 : decode cX3_twiceArea 57 = .ok (.goto (-53), 3) := jo_167 (a := 255) (b := 203) (jw3 jdcX3_twiceArea_32 5 rfl rfl) rfl
theorem dX3_twiceArea_60 : decode cX3_twiceArea 60 = .ok (.iload_n 1, 1) := jo_27 (jw1 jdcX3_twiceArea_32 8 rfl rfl)
theorem dX3_twiceArea_61 : decode cX3_twiceArea 61 = .ok (.invokestatic 85, 3) := jo_184 (a := 0) (b := 85) (jw3 jdcX3_twiceArea_32 9 rfl rfl) rfl
theorem dX3_twiceArea_64 : decode cX3_twiceArea 64 = .ok (.ireturn, 1) := jo_172 (jw1 jdcX3_twiceArea_32 12 rfl rfl)
theorem jdcX3_bends_0 : jwk (cX3_bends.data.toList.drop 0) [3, 60, 4, 61, 28, 42, 180, 0, 15, 162, 0, 27, 42, 28, 182, 0, 89, 42, 28, 4, 100, 182, 0, 89] = true := by decide +kernel
theorem dX3_bends_0 : decode cX3_bends 0 = .ok (.iconst 0, 1) := jo_3 (jw1 jdcX3_bends_0 0 rfl rfl)
theorem dX3_bends_1 : decode cX3_bends 1 = .ok (.istore_n 1, 1) := jo_60 (jw1 jdcX3_bends_0 1 rfl rfl)
theorem dX3_bends_2 : decode cX3_bends 2 = .ok (.iconst 1, 1) := jo_4 (jw1 jdcX3_bends_0 2 rfl rfl)
theorem dX3_bends_3 : decode cX3_bends 3 = .ok (.istore_n 2, 1) := jo_61 (jw1 jdcX3_bends_0 3 rfl rfl)
theorem dX3_bends_4 : decode cX3_bends 4 = .ok (.iload_n 2, 1) := jo_28 (jw1 jdcX3_bends_0 4 rfl rfl)
theorem dX3_bends_5 : decode cX3_bends 5 = .ok (.aload_n 0, 1) := jo_42 (jw1 jdcX3_bends_0 5 rfl rfl)
theorem dX3_bends_6 : decode cX3_bends 6 = .ok (.getfield 15, 3) := jo_180 (a := 0) (b := 15) (jw3 jdcX3_bends_0 6 rfl rfl) rfl
theorem dX3_bends_9 : decode cX3_bends 9 = .ok (.if_icmp .ge 27, 3) := jo_162 (a := 0) (b := 27) (jw3 jdcX3_bends_0 9 rfl rfl) rfl
theorem dX3_bends_12 : decode cX3_bends 12 = .ok (.aload_n 0, 1) := jo_42 (jw1 jdcX3_bends_0 12 rfl rfl)
theorem dX3_bends_13 : decode cX3_bends 13 = .ok (.iload_n 2, 1) := jo_28 (jw1 jdcX3_bends_0 13 rfl rfl)
theorem dX3_bends_14 : decode cX3_bends 14 = .ok (.invokevirtual 89, 3) := jo_182 (a := 0) (b := 89) (jw3 jdcX3_bends_0 14 rfl rfl) rfl
theorem dX3_bends_17 : decode cX3_bends 17 = .ok (.aload_n 0, 1) := jo_42 (jw1 jdcX3_bends_0 17 rfl rfl)
theorem dX3_bends_18 : decode cX3_bends 18 = .ok (.iload_n 2, 1) := jo_28 (jw1 jdcX3_bends_0 18 rfl rfl)
theorem dX3_bends_19 : decode cX3_bends 19 = .ok (.iconst 1, 1) := jo_4 (jw1 jdcX3_bends_0 19 rfl rfl)
theorem dX3_bends_20 : decode cX3_bends 20 = .ok (.isub, 1) := jo_100 (jw1 jdcX3_bends_0 20 rfl rfl)
theorem dX3_bends_21 : decode cX3_bends 21 = .ok (.invokevirtual 89, 3) := jo_182 (a := 0) (b := 89) (jw3 jdcX3_bends_0 21 rfl rfl) rfl
theorem jdcX3_bends_16 : jwk (cX3_bends.data.toList.drop 24) [159, 0, 6, 132, 1, 1, 132, 2, 1, 167, 255, 227, 27, 172] = true := by decide +kernel
theorem dX3_bends_24 : decode cX3_bends 24 = .ok (.if_icmp .eq 6, 3) := jo_159 (a := 0) (b := 6) (jw3 jdcX3_bends_16 0 rfl rfl) rfl
theorem dX3_bends_27 : decode cX3_bends 27 = .ok (.iinc 1 1, 3) := jo_132 (a := 1) (b := 1) (jw3 jdcX3_bends_16 3 rfl rfl) rfl
theorem dX3_bends_30 : decode cX3_bends 30 = .ok (.iinc 2 1, 3) := jo_132 (a := 2) (b := 1) (jw3 jdcX3_bends_16 6 rfl rfl) rfl
theorem dX3_bends_33 : decode cX3_bends 33 = .ok (.goto (-29), 3) := jo_167 (a := 255) (b := 227) (jw3 jdcX3_bends_16 9 rfl rfl) rfl
theorem dX3_bends_36 : decode cX3_bends 36 = .ok (.iload_n 1, 1) := jo_27 (jw1 jdcX3_bends_16 12 rfl rfl)
theorem dX3_bends_37 : decode cX3_bends 37 = .ok (.ireturn, 1) := jo_172 (jw1 jdcX3_bends_16 13 rfl rfl)
theorem jdcX3_isBridge_0 : jwk (cX3_isBridge.data.toList.drop 0) [4, 60, 27, 42, 180, 0, 15, 163, 0, 37, 42, 180, 0, 34, 27, 184, 0, 43, 158, 0, 18, 42, 180, 0, 34, 27, 184, 0, 43, 42] = true := by decide +kernel
theorem dX3_isBridge_0 : decode cX3_isBridge 0 = .ok (.iconst 1, 1) := jo_4 (jw1 jdcX3_isBridge_0 0 rfl rfl)
theorem dX3_isBridge_1 : decode cX3_isBridge 1 = .ok (.istore_n 1, 1) := jo_60 (jw1 jdcX3_isBridge_0 1 rfl rfl)
theorem dX3_isBridge_2 : decode cX3_isBridge 2 = .ok (.iload_n 1, 1) := jo_27 (jw1 jdcX3_isBridge_0 2 rfl rfl)
theorem dX3_isBridge_3 : decode cX3_isBridge 3 = .ok (.aload_n 0, 1) := jo_42 (jw1 jdcX3_isBridge_0 3 rfl rfl)
theorem dX3_isBridge_4 : decode cX3_isBridge 4 = .ok (.getfield 15, 3) := jo_180 (a := 0) (b := 15) (jw3 jdcX3_isBridge_0 4 rfl rfl) rfl
theorem dX3_isBridge_7 : decode cX3_isBridge 7 = .ok (.if_icmp .gt 37, 3) := jo_163 (a := 0) (b := 37) (jw3 jdcX3_isBridge_0 7 rfl rfl) rfl
theorem dX3_isBridge_10 : decode cX3_isBridge 10 = .ok (.aload_n 0, 1) := jo_42 (jw1 jdcX3_isBridge_0 10 rfl rfl)
theorem dX3_isBridge_11 : decode cX3_isBridge 11 = .ok (.getfield 34, 3) := jo_180 (a := 0) (b := 34) (jw3 jdcX3_isBridge_0 11 rfl rfl) rfl
theorem dX3_isBridge_14 : decode cX3_isBridge 14 = .ok (.iload_n 1, 1) := jo_27 (jw1 jdcX3_isBridge_0 14 rfl rfl)
theorem dX3_isBridge_15 : decode cX3_isBridge 15 = .ok (.invokestatic 43, 3) := jo_184 (a := 0) (b := 43) (jw3 jdcX3_isBridge_0 15 rfl rfl) rfl
theorem dX3_isBridge_18 : decode cX3_isBridge 18 = .ok (.ifCond .le 18, 3) := jo_158 (a := 0) (b := 18) (jw3 jdcX3_isBridge_0 18 rfl rfl) rfl
theorem dX3_isBridge_21 : decode cX3_isBridge 21 = .ok (.aload_n 0, 1) := jo_42 (jw1 jdcX3_isBridge_0 21 rfl rfl)
theorem dX3_isBridge_22 : decode cX3_isBridge 22 = .ok (.getfield 34, 3) := jo_180 (a := 0) (b := 34) (jw3 jdcX3_isBridge_0 22 rfl rfl) rfl
theorem dX3_isBridge_25 : decode cX3_isBridge 25 = .ok (.iload_n 1, 1) := jo_27 (jw1 jdcX3_isBridge_0 25 rfl rfl)
theorem dX3_isBridge_26 : decode cX3_isBridge 26 = .ok (.invokestatic 43, 3) := jo_184 (a := 0) (b := 43) (jw3 jdcX3_isBridge_0 26 rfl rfl) rfl
theorem dX3_isBridge_29 : decode cX3_isBridge 29 = .ok (.aload_n 0, 1) := jo_42 (jw1 jdcX3_isBridge_0 29 rfl rfl)
theorem jdcX3_isBridge_16 : jwk (cX3_isBridge.data.toList.drop 30) [182, 0, 47, 164, 0, 5, 3, 172, 132, 1, 1, 167, 255, 217, 4, 172] = true := by decide +kernel
theorem dX3_isBridge_30 : decode cX3_isBridge 30 = .ok (.invokevirtual 47, 3) := jo_182 (a := 0) (b := 47) (jw3 jdcX3_isBridge_16 0 rfl rfl) rfl
theorem dX3_isBridge_33 : decode cX3_isBridge 33 = .ok (.if_icmp .le 5, 3) := jo_164 (a := 0) (b := 5) (jw3 jdcX3_isBridge_16 3 rfl rfl) rfl
theorem dX3_isBridge_36 : decode cX3_isBridge 36 = .ok (.iconst 0, 1) := jo_3 (jw1 jdcX3_isBridge_16 6 rfl rfl)
theorem dX3_isBridge_37 : decode cX3_isBridge 37 = .ok (.ireturn, 1) := jo_172 (jw1 jdcX3_isBridge_16 7 rfl rfl)
theorem dX3_isBridge_38 : decode cX3_isBridge 38 = .ok (.iinc 1 1, 3) := jo_132 (a := 1) (b := 1) (jw3 jdcX3_isBridge_16 8 rfl rfl) rfl
theorem dX3_isBridge_41 : decode cX3_isBridge 41 = .ok (.goto (-39), 3) := jo_167 (a := 255) (b := 217) (jw3 jdcX3_isBridge_16 11 rfl rfl) rfl
theorem dX3_isBridge_44 : decode cX3_isBridge 44 = .ok (.iconst 1, 1) := jo_4 (jw1 jdcX3_isBridge_16 14 rfl rfl)
theorem dX3_isBridge_45 : decode cX3_isBridge 45 = .ok (.ireturn, 1) := jo_172 (jw1 jdcX3_isBridge_16 15 rfl rfl)
theorem jdcX3_leadsOn_0 : jwk (cX3_leadsOn.data.toList.drop 0) [3, 60, 3, 61, 28, 42, 180, 0, 9, 184, 0, 92, 162, 0, 20, 42, 28, 182, 0, 73, 153, 0, 6, 132, 1, 1, 132, 2, 1, 167, 255, 231] = true := by decide +kernel
theorem dX3_leadsOn_0 : decode cX3_leadsOn 0 = .ok (.iconst 0, 1) := jo_3 (jw1 jdcX3_leadsOn_0 0 rfl rfl)
theorem dX3_leadsOn_1 : decode cX3_leadsOn 1 = .ok (.istore_n 1, 1) := jo_60 (jw1 jdcX3_leadsOn_0 1 rfl rfl)
theorem dX3_leadsOn_2 : decode cX3_leadsOn 2 = .ok (.iconst 0, 1) := jo_3 (jw1 jdcX3_leadsOn_0 2 rfl rfl)
theorem dX3_leadsOn_3 : decode cX3_leadsOn 3 = .ok (.istore_n 2, 1) := jo_61 (jw1 jdcX3_leadsOn_0 3 rfl rfl)
theorem dX3_leadsOn_4 : decode cX3_leadsOn 4 = .ok (.iload_n 2, 1) := jo_28 (jw1 jdcX3_leadsOn_0 4 rfl rfl)
theorem dX3_leadsOn_5 : decode cX3_leadsOn 5 = .ok (.aload_n 0, 1) := jo_42 (jw1 jdcX3_leadsOn_0 5 rfl rfl)
theorem dX3_leadsOn_6 : decode cX3_leadsOn 6 = .ok (.getfield 9, 3) := jo_180 (a := 0) (b := 9) (jw3 jdcX3_leadsOn_0 6 rfl rfl) rfl
theorem dX3_leadsOn_9 : decode cX3_leadsOn 9 = .ok (.invokestatic 92, 3) := jo_184 (a := 0) (b := 92) (jw3 jdcX3_leadsOn_0 9 rfl rfl) rfl
theorem dX3_leadsOn_12 : decode cX3_leadsOn 12 = .ok (.if_icmp .ge 20, 3) := jo_162 (a := 0) (b := 20) (jw3 jdcX3_leadsOn_0 12 rfl rfl) rfl
theorem dX3_leadsOn_15 : decode cX3_leadsOn 15 = .ok (.aload_n 0, 1) := jo_42 (jw1 jdcX3_leadsOn_0 15 rfl rfl)
theorem dX3_leadsOn_16 : decode cX3_leadsOn 16 = .ok (.iload_n 2, 1) := jo_28 (jw1 jdcX3_leadsOn_0 16 rfl rfl)
theorem dX3_leadsOn_17 : decode cX3_leadsOn 17 = .ok (.invokevirtual 73, 3) := jo_182 (a := 0) (b := 73) (jw3 jdcX3_leadsOn_0 17 rfl rfl) rfl
theorem dX3_leadsOn_20 : decode cX3_leadsOn 20 = .ok (.ifCond .eq 6, 3) := jo_153 (a := 0) (b := 6) (jw3 jdcX3_leadsOn_0 20 rfl rfl) rfl
theorem dX3_leadsOn_23 : decode cX3_leadsOn 23 = .ok (.iinc 1 1, 3) := jo_132 (a := 1) (b := 1) (jw3 jdcX3_leadsOn_0 23 rfl rfl) rfl
theorem dX3_leadsOn_26 : decode cX3_leadsOn 26 = .ok (.iinc 2 1, 3) := jo_132 (a := 2) (b := 1) (jw3 jdcX3_leadsOn_0 26 rfl rfl) rfl
theorem dX3_leadsOn_29 : decode cX3_leadsOn 29 = .ok (.goto (-25), 3) := jo_167 (a := 255) (b := 231) (jw3 jdcX3_leadsOn_0 29 rfl rfl) rfl
theorem jdcX3_leadsOn_16 : jwk (cX3_leadsOn.data.toList.drop 32) [27, 172] = true := by decide +kernel
theorem dX3_leadsOn_32 : decode cX3_leadsOn 32 = .ok (.iload_n 1, 1) := jo_27 (jw1 jdcX3_leadsOn_16 0 rfl rfl)
theorem dX3_leadsOn_33 : decode cX3_leadsOn 33 = .ok (.ireturn, 1) := jo_172 (jw1 jdcX3_leadsOn_16 1 rfl rfl)
theorem jdcX3_digestOnto_0 : jwk (cX3_digestOnto.data.toList.drop 0) [20, 0, 95, 31, 105, 42, 180, 0, 9, 133, 97, 66, 3, 54, 5, 21, 5, 42, 180, 0, 15, 162, 0, 23, 20, 0, 95, 33] = true := by decide +kernel
theorem dX3_digestOnto_0 : decode cX3_digestOnto 0 = .ok (.ldc2_w 95, 3) := jo_20 (a := 0) (b := 95) (jw3 jdcX3_digestOnto_0 0 rfl rfl) rfl
theorem dX3_digestOnto_3 : decode cX3_digestOnto 3 = .ok (.lload_n 1, 1) := jo_31 (jw1 jdcX3_digestOnto_0 3 rfl rfl)
theorem dX3_digestOnto_4 : decode cX3_digestOnto 4 = .ok (.lmul, 1) := jo_105 (jw1 jdcX3_digestOnto_0 4 rfl rfl)
theorem dX3_digestOnto_5 : decode cX3_digestOnto 5 = .ok (.aload_n 0, 1) := jo_42 (jw1 jdcX3_digestOnto_0 5 rfl rfl)
theorem dX3_digestOnto_6 : decode cX3_digestOnto 6 = .ok (.getfield 9, 3) := jo_180 (a := 0) (b := 9) (jw3 jdcX3_digestOnto_0 6 rfl rfl) rfl
theorem dX3_digestOnto_9 : decode cX3_digestOnto 9 = .ok (.i2l, 1) := jo_133 (jw1 jdcX3_digestOnto_0 9 rfl rfl)
theorem dX3_digestOnto_10 : decode cX3_digestOnto 10 = .ok (.ladd, 1) := jo_97 (jw1 jdcX3_digestOnto_0 10 rfl rfl)
theorem dX3_digestOnto_11 : decode cX3_digestOnto 11 = .ok (.lstore_n 3, 1) := jo_66 (jw1 jdcX3_digestOnto_0 11 rfl rfl)
theorem dX3_digestOnto_12 : decode cX3_digestOnto 12 = .ok (.iconst 0, 1) := jo_3 (jw1 jdcX3_digestOnto_0 12 rfl rfl)
theorem dX3_digestOnto_13 : decode cX3_digestOnto 13 = .ok (.istore 5, 2) := jo_54 (jw2 jdcX3_digestOnto_0 13 rfl rfl)
theorem dX3_digestOnto_15 : decode cX3_digestOnto 15 = .ok (.iload 5, 2) := jo_21 (jw2 jdcX3_digestOnto_0 15 rfl rfl)
theorem dX3_digestOnto_17 : decode cX3_digestOnto 17 = .ok (.aload_n 0, 1) := jo_42 (jw1 jdcX3_digestOnto_0 17 rfl rfl)
theorem dX3_digestOnto_18 : decode cX3_digestOnto 18 = .ok (.getfield 15, 3) := jo_180 (a := 0) (b := 15) (jw3 jdcX3_digestOnto_0 18 rfl rfl) rfl
theorem dX3_digestOnto_21 : decode cX3_digestOnto 21 = .ok (.if_icmp .ge 23, 3) := jo_162 (a := 0) (b := 23) (jw3 jdcX3_digestOnto_0 21 rfl rfl) rfl
theorem dX3_digestOnto_24 : decode cX3_digestOnto 24 = .ok (.ldc2_w 95, 3) := jo_20 (a := 0) (b := 95) (jw3 jdcX3_digestOnto_0 24 rfl rfl) rfl
theorem dX3_digestOnto_27 : decode cX3_digestOnto 27 = .ok (.lload_n 3, 1) := jo_33 (jw1 jdcX3_digestOnto_0 27 rfl rfl)
theorem jdcX3_digestOnto_16 : jwk (cX3_digestOnto.data.toList.drop 28) [105, 42, 21, 5, 182, 0, 89, 133, 97, 66, 132, 5, 1, 167, 255, 230, 33, 173] = true := by decide +kernel
theorem dX3_digestOnto_28 : decode cX3_digestOnto 28 = .ok (.lmul, 1) := jo_105 (jw1 jdcX3_digestOnto_16 0 rfl rfl)
theorem dX3_digestOnto_29 : decode cX3_digestOnto 29 = .ok (.aload_n 0, 1) := jo_42 (jw1 jdcX3_digestOnto_16 1 rfl rfl)
theorem dX3_digestOnto_30 : decode cX3_digestOnto 30 = .ok (.iload 5, 2) := jo_21 (jw2 jdcX3_digestOnto_16 2 rfl rfl)
theorem dX3_digestOnto_32 : decode cX3_digestOnto 32 = .ok (.invokevirtual 89, 3) := jo_182 (a := 0) (b := 89) (jw3 jdcX3_digestOnto_16 4 rfl rfl) rfl
theorem dX3_digestOnto_35 : decode cX3_digestOnto 35 = .ok (.i2l, 1) := jo_133 (jw1 jdcX3_digestOnto_16 7 rfl rfl)
theorem dX3_digestOnto_36 : decode cX3_digestOnto 36 = .ok (.ladd, 1) := jo_97 (jw1 jdcX3_digestOnto_16 8 rfl rfl)
theorem dX3_digestOnto_37 : decode cX3_digestOnto 37 = .ok (.lstore_n 3, 1) := jo_66 (jw1 jdcX3_digestOnto_16 9 rfl rfl)
theorem dX3_digestOnto_38 : decode cX3_digestOnto 38 = .ok (.iinc 5 1, 3) := jo_132 (a := 5) (b := 1) (jw3 jdcX3_digestOnto_16 10 rfl rfl) rfl
theorem dX3_digestOnto_41 : decode cX3_digestOnto 41 = .ok (.goto (-26), 3) := jo_167 (a := 255) (b := 230) (jw3 jdcX3_digestOnto_16 13 rfl rfl) rfl
theorem dX3_digestOnto_44 : decode cX3_digestOnto 44 = .ok (.lload_n 3, 1) := jo_33 (jw1 jdcX3_digestOnto_16 16 rfl rfl)
theorem dX3_digestOnto_45 : decode cX3_digestOnto 45 = .ok (.lreturn, 1) := jo_173 (jw1 jdcX3_digestOnto_16 17 rfl rfl)
theorem jdcX4_init_0 : jwk (cX4_init.data.toList.drop 0) [42, 183, 0, 3, 42, 16, 21, 188, 10, 181, 0, 9, 42, 16, 21, 188, 11, 181, 0, 15, 42, 16, 21, 188, 10, 181, 0, 19, 42, 16, 21, 188, 10, 181, 0, 22, 42, 16, 8] = true := by decide +kernel
theorem dX4_init_0 : decode cX4_init 0 = .ok (.aload_n 0, 1) := jo_42 (jw1 jdcX4_init_0 0 rfl rfl)
theorem dX4_init_1 : decode cX4_init 1 = .ok (.invokespecial 3, 3) := jo_183 (a := 0) (b := 3) (jw3 jdcX4_init_0 1 rfl rfl) rfl
theorem dX4_init_4 : decode cX4_init 4 = .ok (.aload_n 0, 1) := jo_42 (jw1 jdcX4_init_0 4 rfl rfl)
theorem dX4_init_5 : decode cX4_init 5 = .ok (.bipush 21, 2) := jo_16 (a := 21) (jw2 jdcX4_init_0 5 rfl rfl) rfl
theorem dX4_init_9 : decode cX4_init 9 = .ok (.putfield 9, 3) := jo_181 (a := 0) (b := 9) (jw3 jdcX4_init_0 9 rfl rfl) rfl
theorem dX4_init_12 : decode cX4_init 12 = .ok (.aload_n 0, 1) := jo_42 (jw1 jdcX4_init_0 12 rfl rfl)
theorem dX4_init_13 : decode cX4_init 13 = .ok (.bipush 21, 2) := jo_16 (a := 21) (jw2 jdcX4_init_0 13 rfl rfl) rfl
theorem dX4_init_17 : decode cX4_init 17 = .ok (.putfield 15, 3) := jo_181 (a := 0) (b := 15) (jw3 jdcX4_init_0 17 rfl rfl) rfl
theorem dX4_init_20 : decode cX4_init 20 = .ok (.aload_n 0, 1) := jo_42 (jw1 jdcX4_init_0 20 rfl rfl)
theorem dX4_init_21 : decode cX4_init 21 = .ok (.bipush 21, 2) := jo_16 (a := 21) (jw2 jdcX4_init_0 21 rfl rfl) rfl
theorem dX4_init_25 : decode cX4_init 25 = .ok (.putfield 19, 3) := jo_181 (a := 0) (b := 19) (jw3 jdcX4_init_0 25 rfl rfl) rfl
theorem dX4_init_28 : decode cX4_init 28 = .ok (.aload_n 0, 1) := jo_42 (jw1 jdcX4_init_0 28 rfl rfl)
theorem dX4_init_29 : decode cX4_init 29 = .ok (.bipush 21, 2) := jo_16 (a := 21) (jw2 jdcX4_init_0 29 rfl rfl) rfl
theorem dX4_init_33 : decode cX4_init 33 = .ok (.putfield 22, 3) := jo_181 (a := 0) (b := 22) (jw3 jdcX4_init_0 33 rfl rfl) rfl
theorem dX4_init_36 : decode cX4_init 36 = .ok (.aload_n 0, 1) := jo_42 (jw1 jdcX4_init_0 36 rfl rfl)
theorem dX4_init_37 : decode cX4_init 37 = .ok (.bipush 8, 2) := jo_16 (a := 8) (jw2 jdcX4_init_0 37 rfl rfl) rfl
theorem jdcX4_init_16 : jwk (cX4_init.data.toList.drop 41) [181, 0, 25, 42, 16, 7, 188, 10, 181, 0, 28, 42, 3, 181, 0, 31, 42, 3, 181, 0, 35, 42, 3, 181, 0, 38, 42, 3, 181, 0, 41] = true := by decide +kernel
theorem dX4_init_41 : decode cX4_init 41 = .ok (.putfield 25, 3) := jo_181 (a := 0) (b := 25) (jw3 jdcX4_init_16 0 rfl rfl) rfl
theorem dX4_init_44 : decode cX4_init 44 = .ok (.aload_n 0, 1) := jo_42 (jw1 jdcX4_init_16 3 rfl rfl)
theorem dX4_init_45 : decode cX4_init 45 = .ok (.bipush 7, 2) := jo_16 (a := 7) (jw2 jdcX4_init_16 4 rfl rfl) rfl
theorem dX4_init_49 : decode cX4_init 49 = .ok (.putfield 28, 3) := jo_181 (a := 0) (b := 28) (jw3 jdcX4_init_16 8 rfl rfl) rfl
theorem dX4_init_52 : decode cX4_init 52 = .ok (.aload_n 0, 1) := jo_42 (jw1 jdcX4_init_16 11 rfl rfl)
theorem dX4_init_53 : decode cX4_init 53 = .ok (.iconst 0, 1) := jo_3 (jw1 jdcX4_init_16 12 rfl rfl)
theorem dX4_init_54 : decode cX4_init 54 = .ok (.putfield 31, 3) := jo_181 (a := 0) (b := 31) (jw3 jdcX4_init_16 13 rfl rfl) rfl
theorem dX4_init_57 : decode cX4_init 57 = .ok (.aload_n 0, 1) := jo_42 (jw1 jdcX4_init_16 16 rfl rfl)
theorem dX4_init_58 : decode cX4_init 58 = .ok (.iconst 0, 1) := jo_3 (jw1 jdcX4_init_16 17 rfl rfl)
theorem dX4_init_59 : decode cX4_init 59 = .ok (.putfield 35, 3) := jo_181 (a := 0) (b := 35) (jw3 jdcX4_init_16 18 rfl rfl) rfl
theorem dX4_init_62 : decode cX4_init 62 = .ok (.aload_n 0, 1) := jo_42 (jw1 jdcX4_init_16 21 rfl rfl)
theorem dX4_init_63 : decode cX4_init 63 = .ok (.iconst 0, 1) := jo_3 (jw1 jdcX4_init_16 22 rfl rfl)
theorem dX4_init_64 : decode cX4_init 64 = .ok (.putfield 38, 3) := jo_181 (a := 0) (b := 38) (jw3 jdcX4_init_16 23 rfl rfl) rfl
theorem dX4_init_67 : decode cX4_init 67 = .ok (.aload_n 0, 1) := jo_42 (jw1 jdcX4_init_16 26 rfl rfl)
theorem dX4_init_68 : decode cX4_init 68 = .ok (.iconst 0, 1) := jo_3 (jw1 jdcX4_init_16 27 rfl rfl)
theorem dX4_init_69 : decode cX4_init 69 = .ok (.putfield 41, 3) := jo_181 (a := 0) (b := 41) (jw3 jdcX4_init_16 28 rfl rfl) rfl
theorem jdcX4_init_32 : jwk (cX4_init.data.toList.drop 72) [42, 27, 181, 0, 45, 42, 27, 6, 160, 0, 8, 16, 12, 167, 0, 5, 16, 20, 181, 0, 48, 42, 5, 42, 180, 0, 48, 104] = true := by decide +kernel
theorem dX4_init_72 : decode cX4_init 72 = .ok (.aload_n 0, 1) := jo_42 (jw1 jdcX4_init_32 0 rfl rfl)
theorem dX4_init_73 : decode cX4_init 73 = .ok (.iload_n 1, 1) := jo_27 (jw1 jdcX4_init_32 1 rfl rfl)
theorem dX4_init_74 : decode cX4_init 74 = .ok (.putfield 45, 3) := jo_181 (a := 0) (b := 45) (jw3 jdcX4_init_32 2 rfl rfl) rfl
theorem dX4_init_77 : decode cX4_init 77 = .ok (.aload_n 0, 1) := jo_42 (jw1 jdcX4_init_32 5 rfl rfl)
theorem dX4_init_78 : decode cX4_init 78 = .ok (.iload_n 1, 1) := jo_27 (jw1 jdcX4_init_32 6 rfl rfl)
theorem dX4_init_79 : decode cX4_init 79 = .ok (.iconst 3, 1) := jo_6 (jw1 jdcX4_init_32 7 rfl rfl)
theorem dX4_init_80 : decode cX4_init 80 = .ok (.if_icmp .ne 8, 3) := jo_160 (a := 0) (b := 8) (jw3 jdcX4_init_32 8 rfl rfl) rfl
theorem dX4_init_83 : decode cX4_init 83 = .ok (.bipush 12, 2) := jo_16 (a := 12) (jw2 jdcX4_init_32 11 rfl rfl) rfl
theorem dX4_init_85 : decode cX4_init 85 = .ok (.goto 5, 3) := jo_167 (a := 0) (b := 5) (jw3 jdcX4_init_32 13 rfl rfl) rfl
theorem dX4_init_88 : decode cX4_init 88 = .ok (.bipush 20, 2) := jo_16 (a := 20) (jw2 jdcX4_init_32 16 rfl rfl) rfl
theorem dX4_init_90 : decode cX4_init 90 = .ok (.putfield 48, 3) := jo_181 (a := 0) (b := 48) (jw3 jdcX4_init_32 18 rfl rfl) rfl
theorem dX4_init_93 : decode cX4_init 93 = .ok (.aload_n 0, 1) := jo_42 (jw1 jdcX4_init_32 21 rfl rfl)
theorem dX4_init_94 : decode cX4_init 94 = .ok (.iconst 2, 1) := jo_5 (jw1 jdcX4_init_32 22 rfl rfl)
theorem dX4_init_95 : decode cX4_init 95 = .ok (.aload_n 0, 1) := jo_42 (jw1 jdcX4_init_32 23 rfl rfl)
theorem dX4_init_96 : decode cX4_init 96 = .ok (.getfield 48, 3) := jo_180 (a := 0) (b := 48) (jw3 jdcX4_init_32 24 rfl rfl) rfl
theorem dX4_init_99 : decode cX4_init 99 = .ok (.imul, 1) := jo_104 (jw1 jdcX4_init_32 27 rfl rfl)
theorem jdcX4_init_48 : jwk (cX4_init.data.toList.drop 100) [4, 96, 181, 0, 51, 42, 27, 6, 160, 0, 20, 42, 180, 0, 51, 42, 180, 0, 51, 104, 42, 180, 0, 51, 104, 167, 0, 12] = true := by decide +kernel
theorem dX4_init_100 : decode cX4_init 100 = .ok (.iconst 1, 1) := jo_4 (jw1 jdcX4_init_48 0 rfl rfl)
theorem dX4_init_101 : decode cX4_init 101 = .ok (.iadd, 1) := jo_96 (jw1 jdcX4_init_48 1 rfl rfl)
theorem dX4_init_102 : decode cX4_init 102 = .ok (.putfield 51, 3) := jo_181 (a := 0) (b := 51) (jw3 jdcX4_init_48 2 rfl rfl) rfl
theorem dX4_init_105 : decode cX4_init 105 = .ok (.aload_n 0, 1) := jo_42 (jw1 jdcX4_init_48 5 rfl rfl)
theorem dX4_init_106 : decode cX4_init 106 = .ok (.iload_n 1, 1) := jo_27 (jw1 jdcX4_init_48 6 rfl rfl)
theorem dX4_init_107 : decode cX4_init 107 = .ok (.iconst 3, 1) := jo_6 (jw1 jdcX4_init_48 7 rfl rfl)
theorem dX4_init_108 : decode cX4_init 108 = .ok (.if_icmp .ne 20, 3) := jo_160 (a := 0) (b := 20) (jw3 jdcX4_init_48 8 rfl rfl) rfl
theorem dX4_init_111 : decode cX4_init 111 = .ok (.aload_n 0, 1) := jo_42 (jw1 jdcX4_init_48 11 rfl rfl)
theorem dX4_init_112 : decode cX4_init 112 = .ok (.getfield 51, 3) := jo_180 (a := 0) (b := 51) (jw3 jdcX4_init_48 12 rfl rfl) rfl
theorem dX4_init_115 : decode cX4_init 115 = .ok (.aload_n 0, 1) := jo_42 (jw1 jdcX4_init_48 15 rfl rfl)
theorem dX4_init_116 : decode cX4_init 116 = .ok (.getfield 51, 3) := jo_180 (a := 0) (b := 51) (jw3 jdcX4_init_48 16 rfl rfl) rfl
theorem dX4_init_119 : decode cX4_init 119 = .ok (.imul, 1) := jo_104 (jw1 jdcX4_init_48 19 rfl rfl)
theorem dX4_init_120 : decode cX4_init 120 = .ok (.aload_n 0, 1) := jo_42 (jw1 jdcX4_init_48 20 rfl rfl)
theorem dX4_init_121 : decode cX4_init 121 = .ok (.getfield 51, 3) := jo_180 (a := 0) (b := 51) (jw3 jdcX4_init_48 21 rfl rfl) rfl
theorem dX4_init_124 : decode cX4_init 124 = .ok (.imul, 1) := jo_104 (jw1 jdcX4_init_48 24 rfl rfl)
theorem dX4_init_125 : decode cX4_init 125 = .ok (.goto 12, 3) := jo_167 (a := 0) (b := 12) (jw3 jdcX4_init_48 25 rfl rfl) rfl
theorem jdcX4_init_64 : jwk (cX4_init.data.toList.drop 128) [42, 180, 0, 51, 42, 180, 0, 51, 104, 188, 4, 181, 0, 54, 3, 61, 28, 42, 180, 0, 9, 190, 162, 0, 24, 42, 180, 0, 9, 28] = true := by decide +kernel
theorem dX4_init_128 : decode cX4_init 128 = .ok (.aload_n 0, 1) := jo_42 (jw1 jdcX4_init_64 0 rfl rfl)
theorem dX4_init_129 : decode cX4_init 129 = .ok (.getfield 51, 3) := jo_180 (a := 0) (b := 51) (jw3 jdcX4_init_64 1 rfl rfl) rfl
theorem dX4_init_132 : decode cX4_init 132 = .ok (.aload_n 0, 1) := jo_42 (jw1 jdcX4_init_64 4 rfl rfl)
theorem dX4_init_133 : decode cX4_init 133 = .ok (.getfield 51, 3) := jo_180 (a := 0) (b := 51) (jw3 jdcX4_init_64 5 rfl rfl) rfl
theorem dX4_init_136 : decode cX4_init 136 = .ok (.imul, 1) := jo_104 (jw1 jdcX4_init_64 8 rfl rfl)
theorem dX4_init_139 : decode cX4_init 139 = .ok (.putfield 54, 3) := jo_181 (a := 0) (b := 54) (jw3 jdcX4_init_64 11 rfl rfl) rfl
theorem dX4_init_142 : decode cX4_init 142 = .ok (.iconst 0, 1) := jo_3 (jw1 jdcX4_init_64 14 rfl rfl)
theorem dX4_init_143 : decode cX4_init 143 = .ok (.istore_n 2, 1) := jo_61 (jw1 jdcX4_init_64 15 rfl rfl)
theorem dX4_init_144 : decode cX4_init 144 = .ok (.iload_n 2, 1) := jo_28 (jw1 jdcX4_init_64 16 rfl rfl)
theorem dX4_init_145 : decode cX4_init 145 = .ok (.aload_n 0, 1) := jo_42 (jw1 jdcX4_init_64 17 rfl rfl)
theorem dX4_init_146 : decode cX4_init 146 = .ok (.getfield 9, 3) := jo_180 (a := 0) (b := 9) (jw3 jdcX4_init_64 18 rfl rfl) rfl
theorem dX4_init_149 : decode cX4_init 149 = .ok (.arraylength, 1) := jo_190 (jw1 jdcX4_init_64 21 rfl rfl)
theorem dX4_init_150 : decode cX4_init 150 = .ok (.if_icmp .ge 24, 3) := jo_162 (a := 0) (b := 24) (jw3 jdcX4_init_64 22 rfl rfl) rfl
theorem dX4_init_153 : decode cX4_init 153 = .ok (.aload_n 0, 1) := jo_42 (jw1 jdcX4_init_64 25 rfl rfl)
theorem dX4_init_154 : decode cX4_init 154 = .ok (.getfield 9, 3) := jo_180 (a := 0) (b := 9) (jw3 jdcX4_init_64 26 rfl rfl) rfl
theorem dX4_init_157 : decode cX4_init 157 = .ok (.iload_n 2, 1) := jo_28 (jw1 jdcX4_init_64 29 rfl rfl)
theorem jdcX4_init_80 : jwk (cX4_init.data.toList.drop 158) [28, 154, 0, 7, 4, 167, 0, 4, 3, 79, 132, 2, 1, 167, 255, 229, 3, 61, 28, 42, 180, 0, 25, 190, 162, 0, 16, 42] = true := by decide +kernel
theorem dX4_init_158 : decode cX4_init 158 = .ok (.iload_n 2, 1) := jo_28 (jw1 jdcX4_init_80 0 rfl rfl)
theorem dX4_init_159 : decode cX4_init 159 = .ok (.ifCond .ne 7, 3) := jo_154 (a := 0) (b := 7) (jw3 jdcX4_init_80 1 rfl rfl) rfl
theorem dX4_init_162 : decode cX4_init 162 = .ok (.iconst 1, 1) := jo_4 (jw1 jdcX4_init_80 4 rfl rfl)
theorem dX4_init_163 : decode cX4_init 163 = .ok (.goto 4, 3) := jo_167 (a := 0) (b := 4) (jw3 jdcX4_init_80 5 rfl rfl) rfl
theorem dX4_init_166 : decode cX4_init 166 = .ok (.iconst 0, 1) := jo_3 (jw1 jdcX4_init_80 8 rfl rfl)
theorem dX4_init_167 : decode cX4_init 167 = .ok (.iastore, 1) := jo_79 (jw1 jdcX4_init_80 9 rfl rfl)
theorem dX4_init_168 : decode cX4_init 168 = .ok (.iinc 2 1, 3) := jo_132 (a := 2) (b := 1) (jw3 jdcX4_init_80 10 rfl rfl) rfl
theorem dX4_init_171 : decode cX4_init 171 = .ok (.goto (-27), 3) := jo_167 (a := 255) (b := 229) (jw3 jdcX4_init_80 13 rfl rfl) rfl
theorem dX4_init_174 : decode cX4_init 174 = .ok (.iconst 0, 1) := jo_3 (jw1 jdcX4_init_80 16 rfl rfl)
theorem dX4_init_175 : decode cX4_init 175 = .ok (.istore_n 2, 1) := jo_61 (jw1 jdcX4_init_80 17 rfl rfl)
theorem dX4_init_176 : decode cX4_init 176 = .ok (.iload_n 2, 1) := jo_28 (jw1 jdcX4_init_80 18 rfl rfl)
theorem dX4_init_177 : decode cX4_init 177 = .ok (.aload_n 0, 1) := jo_42 (jw1 jdcX4_init_80 19 rfl rfl)
theorem dX4_init_178 : decode cX4_init 178 = .ok (.getfield 25, 3) := jo_180 (a := 0) (b := 25) (jw3 jdcX4_init_80 20 rfl rfl) rfl
theorem dX4_init_181 : decode cX4_init 181 = .ok (.arraylength, 1) := jo_190 (jw1 jdcX4_init_80 23 rfl rfl)
theorem dX4_init_182 : decode cX4_init 182 = .ok (.if_icmp .ge 16, 3) := jo_162 (a := 0) (b := 16) (jw3 jdcX4_init_80 24 rfl rfl) rfl
theorem dX4_init_185 : decode cX4_init 185 = .ok (.aload_n 0, 1) := jo_42 (jw1 jdcX4_init_80 27 rfl rfl)
theorem jdcX4_init_96 : jwk (cX4_init.data.toList.drop 186) [180, 0, 25, 28, 2, 79, 132, 2, 1, 167, 255, 237, 3, 61, 28, 42, 180, 0, 28, 190, 162, 0, 16, 42, 180, 0, 28, 28] = true := by decide +kernel
theorem dX4_init_186 : decode cX4_init 186 = .ok (.getfield 25, 3) := jo_180 (a := 0) (b := 25) (jw3 jdcX4_init_96 0 rfl rfl) rfl
theorem dX4_init_189 : decode cX4_init 189 = .ok (.iload_n 2, 1) := jo_28 (jw1 jdcX4_init_96 3 rfl rfl)
theorem dX4_init_190 : decode cX4_init 190 = .ok (.iconst (-1), 1) := jo_2 (jw1 jdcX4_init_96 4 rfl rfl)
theorem dX4_init_191 : decode cX4_init 191 = .ok (.iastore, 1) := jo_79 (jw1 jdcX4_init_96 5 rfl rfl)
theorem dX4_init_192 : decode cX4_init 192 = .ok (.iinc 2 1, 3) := jo_132 (a := 2) (b := 1) (jw3 jdcX4_init_96 6 rfl rfl) rfl
theorem dX4_init_195 : decode cX4_init 195 = .ok (.goto (-19), 3) := jo_167 (a := 255) (b := 237) (jw3 jdcX4_init_96 9 rfl rfl) rfl
theorem dX4_init_198 : decode cX4_init 198 = .ok (.iconst 0, 1) := jo_3 (jw1 jdcX4_init_96 12 rfl rfl)
theorem dX4_init_199 : decode cX4_init 199 = .ok (.istore_n 2, 1) := jo_61 (jw1 jdcX4_init_96 13 rfl rfl)
theorem dX4_init_200 : decode cX4_init 200 = .ok (.iload_n 2, 1) := jo_28 (jw1 jdcX4_init_96 14 rfl rfl)
theorem dX4_init_201 : decode cX4_init 201 = .ok (.aload_n 0, 1) := jo_42 (jw1 jdcX4_init_96 15 rfl rfl)
theorem dX4_init_202 : decode cX4_init 202 = .ok (.getfield 28, 3) := jo_180 (a := 0) (b := 28) (jw3 jdcX4_init_96 16 rfl rfl) rfl
theorem dX4_init_205 : decode cX4_init 205 = .ok (.arraylength, 1) := jo_190 (jw1 jdcX4_init_96 19 rfl rfl)
theorem dX4_init_206 : decode cX4_init 206 = .ok (.if_icmp .ge 16, 3) := jo_162 (a := 0) (b := 16) (jw3 jdcX4_init_96 20 rfl rfl) rfl
theorem dX4_init_209 : decode cX4_init 209 = .ok (.aload_n 0, 1) := jo_42 (jw1 jdcX4_init_96 23 rfl rfl)
theorem dX4_init_210 : decode cX4_init 210 = .ok (.getfield 28, 3) := jo_180 (a := 0) (b := 28) (jw3 jdcX4_init_96 24 rfl rfl) rfl
theorem dX4_init_213 : decode cX4_init 213 = .ok (.iload_n 2, 1) := jo_28 (jw1 jdcX4_init_96 27 rfl rfl)
theorem jdcX4_init_112 : jwk (cX4_init.data.toList.drop 214) [2, 79, 132, 2, 1, 167, 255, 237, 177] = true := by decide +kernel
theorem dX4_init_214 : decode cX4_init 214 = .ok (.iconst (-1), 1) := jo_2 (jw1 jdcX4_init_112 0 rfl rfl)
theorem dX4_init_215 : decode cX4_init 215 = .ok (.iastore, 1) := jo_79 (jw1 jdcX4_init_112 1 rfl rfl)
theorem dX4_init_216 : decode cX4_init 216 = .ok (.iinc 2 1, 3) := jo_132 (a := 2) (b := 1) (jw3 jdcX4_init_112 2 rfl rfl) rfl
theorem dX4_init_219 : decode cX4_init 219 = .ok (.goto (-19), 3) := jo_167 (a := 255) (b := 237) (jw3 jdcX4_init_112 5 rfl rfl) rfl
theorem dX4_init_222 : decode cX4_init 222 = .ok (.return_, 1) := jo_177 (jw1 jdcX4_init_112 8 rfl rfl)
theorem jdcX4_holds_0 : jwk (cX4_holds.data.toList.drop 0) [42, 180, 0, 35, 4, 96, 61, 28, 27, 163, 0, 29, 28, 42, 180, 0, 48, 163, 0, 21, 42, 180, 0, 41, 154, 0, 14, 42] = true := by decide +kernel
theorem dX4_holds_0 : decode cX4_holds 0 = .ok (.aload_n 0, 1) := jo_42 (jw1 jdcX4_holds_0 0 rfl rfl)
theorem dX4_holds_1 : decode cX4_holds 1 = .ok (.getfield 35, 3) := jo_180 (a := 0) (b := 35) (jw3 jdcX4_holds_0 1 rfl rfl) rfl
theorem dX4_holds_4 : decode cX4_holds 4 = .ok (.iconst 1, 1) := jo_4 (jw1 jdcX4_holds_0 4 rfl rfl)
theorem dX4_holds_5 : decode cX4_holds 5 = .ok (.iadd, 1) := jo_96 (jw1 jdcX4_holds_0 5 rfl rfl)
theorem dX4_holds_6 : decode cX4_holds 6 = .ok (.istore_n 2, 1) := jo_61 (jw1 jdcX4_holds_0 6 rfl rfl)
theorem dX4_holds_7 : decode cX4_holds 7 = .ok (.iload_n 2, 1) := jo_28 (jw1 jdcX4_holds_0 7 rfl rfl)
theorem dX4_holds_8 : decode cX4_holds 8 = .ok (.iload_n 1, 1) := jo_27 (jw1 jdcX4_holds_0 8 rfl rfl)
theorem dX4_holds_9 : decode cX4_holds 9 = .ok (.if_icmp .gt 29, 3) := jo_163 (a := 0) (b := 29) (jw3 jdcX4_holds_0 9 rfl rfl) rfl
theorem dX4_holds_12 : decode cX4_holds 12 = .ok (.iload_n 2, 1) := jo_28 (jw1 jdcX4_holds_0 12 rfl rfl)
theorem dX4_holds_13 : decode cX4_holds 13 = .ok (.aload_n 0, 1) := jo_42 (jw1 jdcX4_holds_0 13 rfl rfl)
theorem dX4_holds_14 : decode cX4_holds 14 = .ok (.getfield 48, 3) := jo_180 (a := 0) (b := 48) (jw3 jdcX4_holds_0 14 rfl rfl) rfl
theorem dX4_holds_17 : decode cX4_holds 17 = .ok (.if_icmp .gt 21, 3) := jo_163 (a := 0) (b := 21) (jw3 jdcX4_holds_0 17 rfl rfl) rfl
theorem dX4_holds_20 : decode cX4_holds 20 = .ok (.aload_n 0, 1) := jo_42 (jw1 jdcX4_holds_0 20 rfl rfl)
theorem dX4_holds_21 : decode cX4_holds 21 = .ok (.getfield 41, 3) := jo_180 (a := 0) (b := 41) (jw3 jdcX4_holds_0 21 rfl rfl) rfl
theorem dX4_holds_24 : decode cX4_holds 24 = .ok (.ifCond .ne 14, 3) := jo_154 (a := 0) (b := 14) (jw3 jdcX4_holds_0 24 rfl rfl) rfl
theorem dX4_holds_27 : decode cX4_holds 27 = .ok (.aload_n 0, 1) := jo_42 (jw1 jdcX4_holds_0 27 rfl rfl)
theorem jdcX4_holds_16 : jwk (cX4_holds.data.toList.drop 28) [28, 182, 0, 58, 132, 2, 1, 167, 255, 228, 27, 42, 180, 0, 35, 163, 0, 7, 4, 167, 0, 4, 3, 172] = true := by decide +kernel
theorem dX4_holds_28 : decode cX4_holds 28 = .ok (.iload_n 2, 1) := jo_28 (jw1 jdcX4_holds_16 0 rfl rfl)
theorem dX4_holds_29 : decode cX4_holds 29 = .ok (.invokevirtual 58, 3) := jo_182 (a := 0) (b := 58) (jw3 jdcX4_holds_16 1 rfl rfl) rfl
theorem dX4_holds_32 : decode cX4_holds 32 = .ok (.iinc 2 1, 3) := jo_132 (a := 2) (b := 1) (jw3 jdcX4_holds_16 4 rfl rfl) rfl
theorem dX4_holds_35 : decode cX4_holds 35 = .ok (.goto (-28), 3) := jo_167 (a := 255) (b := 228) (jw3 jdcX4_holds_16 7 rfl rfl) rfl
theorem dX4_holds_38 : decode cX4_holds 38 = .ok (.iload_n 1, 1) := jo_27 (jw1 jdcX4_holds_16 10 rfl rfl)
theorem dX4_holds_39 : decode cX4_holds 39 = .ok (.aload_n 0, 1) := jo_42 (jw1 jdcX4_holds_16 11 rfl rfl)
theorem dX4_holds_40 : decode cX4_holds 40 = .ok (.getfield 35, 3) := jo_180 (a := 0) (b := 35) (jw3 jdcX4_holds_16 12 rfl rfl) rfl
theorem dX4_holds_43 : decode cX4_holds 43 = .ok (.if_icmp .gt 7, 3) := jo_163 (a := 0) (b := 7) (jw3 jdcX4_holds_16 15 rfl rfl) rfl
theorem dX4_holds_46 : decode cX4_holds 46 = .ok (.iconst 1, 1) := jo_4 (jw1 jdcX4_holds_16 18 rfl rfl)
theorem dX4_holds_47 : decode cX4_holds 47 = .ok (.goto 4, 3) := jo_167 (a := 0) (b := 4) (jw3 jdcX4_holds_16 19 rfl rfl) rfl
theorem dX4_holds_50 : decode cX4_holds 50 = .ok (.iconst 0, 1) := jo_3 (jw1 jdcX4_holds_16 22 rfl rfl)
theorem dX4_holds_51 : decode cX4_holds 51 = .ok (.ireturn, 1) := jo_172 (jw1 jdcX4_holds_16 23 rfl rfl)
theorem jdcX4_countLevel_0 : jwk (cX4_countLevel.data.toList.drop 0) [42, 27, 181, 0, 31, 42, 3, 3, 3, 182, 0, 62, 61, 42, 28, 4, 182, 0, 66, 42, 3, 3] = true := by decide +kernel
theorem dX4_countLevel_0 : decode cX4_countLevel 0 = .ok (.aload_n 0, 1) := jo_42 (jw1 jdcX4_countLevel_0 0 rfl rfl)
theorem dX4_countLevel_1 : decode cX4_countLevel 1 = .ok (.iload_n 1, 1) := jo_27 (jw1 jdcX4_countLevel_0 1 rfl rfl)
theorem dX4_countLevel_2 : decode cX4_countLevel 2 = .ok (.putfield 31, 3) := jo_181 (a := 0) (b := 31) (jw3 jdcX4_countLevel_0 2 rfl rfl) rfl
theorem dX4_countLevel_5 : decode cX4_countLevel 5 = .ok (.aload_n 0, 1) := jo_42 (jw1 jdcX4_countLevel_0 5 rfl rfl)
theorem dX4_countLevel_6 : decode cX4_countLevel 6 = .ok (.iconst 0, 1) := jo_3 (jw1 jdcX4_countLevel_0 6 rfl rfl)
theorem dX4_countLevel_7 : decode cX4_countLevel 7 = .ok (.iconst 0, 1) := jo_3 (jw1 jdcX4_countLevel_0 7 rfl rfl)
theorem dX4_countLevel_8 : decode cX4_countLevel 8 = .ok (.iconst 0, 1) := jo_3 (jw1 jdcX4_countLevel_0 8 rfl rfl)
theorem dX4_countLevel_9 : decode cX4_countLevel 9 = .ok (.invokevirtual 62, 3) := jo_182 (a := 0) (b := 62) (jw3 jdcX4_countLevel_0 9 rfl rfl) rfl
theorem dX4_countLevel_12 : decode cX4_countLevel 12 = .ok (.istore_n 2, 1) := jo_61 (jw1 jdcX4_countLevel_0 12 rfl rfl)
theorem dX4_countLevel_13 : decode cX4_countLevel 13 = .ok (.aload_n 0, 1) := jo_42 (jw1 jdcX4_countLevel_0 13 rfl rfl)
theorem dX4_countLevel_14 : decode cX4_countLevel 14 = .ok (.iload_n 2, 1) := jo_28 (jw1 jdcX4_countLevel_0 14 rfl rfl)
theorem dX4_countLevel_15 : decode cX4_countLevel 15 = .ok (.iconst 1, 1) := jo_4 (jw1 jdcX4_countLevel_0 15 rfl rfl)
theorem dX4_countLevel_16 : decode cX4_countLevel 16 = .ok (.invokevirtual 66, 3) := jo_182 (a := 0) (b := 66) (jw3 jdcX4_countLevel_0 16 rfl rfl) rfl
theorem dX4_countLevel_19 : decode cX4_countLevel 19 = .ok (.aload_n 0, 1) := jo_42 (jw1 jdcX4_countLevel_0 19 rfl rfl)
theorem dX4_countLevel_20 : decode cX4_countLevel 20 = .ok (.iconst 0, 1) := jo_3 (jw1 jdcX4_countLevel_0 20 rfl rfl)
theorem dX4_countLevel_21 : decode cX4_countLevel 21 = .ok (.iconst 0, 1) := jo_3 (jw1 jdcX4_countLevel_0 21 rfl rfl)
theorem jdcX4_countLevel_16 : jwk (cX4_countLevel.data.toList.drop 22) [3, 3, 3, 184, 0, 70, 42, 28, 3, 182, 0, 66, 42, 180, 0, 41, 154, 0, 25, 42, 27, 181, 0, 35, 42, 89] = true := by decide +kernel
theorem dX4_countLevel_22 : decode cX4_countLevel 22 = .ok (.iconst 0, 1) := jo_3 (jw1 jdcX4_countLevel_16 0 rfl rfl)
theorem dX4_countLevel_23 : decode cX4_countLevel 23 = .ok (.iconst 0, 1) := jo_3 (jw1 jdcX4_countLevel_16 1 rfl rfl)
theorem dX4_countLevel_24 : decode cX4_countLevel 24 = .ok (.iconst 0, 1) := jo_3 (jw1 jdcX4_countLevel_16 2 rfl rfl)
theorem dX4_countLevel_25 : decode cX4_countLevel 25 = .ok (.invokestatic 70, 3) := jo_184 (a := 0) (b := 70) (jw3 jdcX4_countLevel_16 3 rfl rfl) rfl
theorem dX4_countLevel_28 : decode cX4_countLevel 28 = .ok (.aload_n 0, 1) := jo_42 (jw1 jdcX4_countLevel_16 6 rfl rfl)
theorem dX4_countLevel_29 : decode cX4_countLevel 29 = .ok (.iload_n 2, 1) := jo_28 (jw1 jdcX4_countLevel_16 7 rfl rfl)
theorem dX4_countLevel_30 : decode cX4_countLevel 30 = .ok (.iconst 0, 1) := jo_3 (jw1 jdcX4_countLevel_16 8 rfl rfl)
theorem dX4_countLevel_31 : decode cX4_countLevel 31 = .ok (.invokevirtual 66, 3) := jo_182 (a := 0) (b := 66) (jw3 jdcX4_countLevel_16 9 rfl rfl) rfl
theorem dX4_countLevel_34 : decode cX4_countLevel 34 = .ok (.aload_n 0, 1) := jo_42 (jw1 jdcX4_countLevel_16 12 rfl rfl)
theorem dX4_countLevel_35 : decode cX4_countLevel 35 = .ok (.getfield 41, 3) := jo_180 (a := 0) (b := 41) (jw3 jdcX4_countLevel_16 13 rfl rfl) rfl
theorem dX4_countLevel_38 : decode cX4_countLevel 38 = .ok (.ifCond .ne 25, 3) := jo_154 (a := 0) (b := 25) (jw3 jdcX4_countLevel_16 16 rfl rfl) rfl
theorem dX4_countLevel_41 : decode cX4_countLevel 41 = .ok (.aload_n 0, 1) := jo_42 (jw1 jdcX4_countLevel_16 19 rfl rfl)
theorem dX4_countLevel_42 : decode cX4_countLevel 42 = .ok (.iload_n 1, 1) := jo_27 (jw1 jdcX4_countLevel_16 20 rfl rfl)
theorem dX4_countLevel_43 : decode cX4_countLevel 43 = .ok (.putfield 35, 3) := jo_181 (a := 0) (b := 35) (jw3 jdcX4_countLevel_16 21 rfl rfl) rfl
theorem dX4_countLevel_46 : decode cX4_countLevel 46 = .ok (.aload_n 0, 1) := jo_42 (jw1 jdcX4_countLevel_16 24 rfl rfl)
theorem dX4_countLevel_47 : decode cX4_countLevel 47 = .ok (.dup, 1) := jo_89 (jw1 jdcX4_countLevel_16 25 rfl rfl)
theorem jdcX4_countLevel_32 : jwk (cX4_countLevel.data.toList.drop 48) [180, 0, 38, 42, 180, 0, 9, 27, 184, 0, 74, 96, 181, 0, 38, 177] = true := by decide +kernel
theorem dX4_countLevel_48 : decode cX4_countLevel 48 = .ok (.getfield 38, 3) := jo_180 (a := 0) (b := 38) (jw3 jdcX4_countLevel_32 0 rfl rfl) rfl
theorem dX4_countLevel_51 : decode cX4_countLevel 51 = .ok (.aload_n 0, 1) := jo_42 (jw1 jdcX4_countLevel_32 3 rfl rfl)
theorem dX4_countLevel_52 : decode cX4_countLevel 52 = .ok (.getfield 9, 3) := jo_180 (a := 0) (b := 9) (jw3 jdcX4_countLevel_32 4 rfl rfl) rfl
theorem dX4_countLevel_55 : decode cX4_countLevel 55 = .ok (.iload_n 1, 1) := jo_27 (jw1 jdcX4_countLevel_32 7 rfl rfl)
theorem dX4_countLevel_56 : decode cX4_countLevel 56 = .ok (.invokestatic 74, 3) := jo_184 (a := 0) (b := 74) (jw3 jdcX4_countLevel_32 8 rfl rfl) rfl
theorem dX4_countLevel_59 : decode cX4_countLevel 59 = .ok (.iadd, 1) := jo_96 (jw1 jdcX4_countLevel_32 11 rfl rfl)
theorem dX4_countLevel_60 : decode cX4_countLevel 60 = .ok (.putfield 38, 3) := jo_181 (a := 0) (b := 38) (jw3 jdcX4_countLevel_32 12 rfl rfl) rfl
theorem dX4_countLevel_63 : decode cX4_countLevel 63 = .ok (.return_, 1) := jo_177 (jw1 jdcX4_countLevel_32 15 rfl rfl)
theorem jdcX4_extend_0 : jwk (cX4_extend.data.toList.drop 0) [42, 180, 0, 45, 54, 6, 21, 6, 184, 0, 78, 54, 7, 3, 54, 8, 21, 8, 21, 7, 162, 0, 150, 42, 180, 0, 41, 154, 0, 143, 28, 21, 6] = true := by decide +kernel
theorem dX4_extend_0 : decode cX4_extend 0 = .ok (.aload_n 0, 1) := jo_42 (jw1 jdcX4_extend_0 0 rfl rfl)
theorem dX4_extend_1 : decode cX4_extend 1 = .ok (.getfield 45, 3) := jo_180 (a := 0) (b := 45) (jw3 jdcX4_extend_0 1 rfl rfl) rfl
theorem dX4_extend_4 : decode cX4_extend 4 = .ok (.istore 6, 2) := jo_54 (jw2 jdcX4_extend_0 4 rfl rfl)
theorem dX4_extend_6 : decode cX4_extend 6 = .ok (.iload 6, 2) := jo_21 (jw2 jdcX4_extend_0 6 rfl rfl)
theorem dX4_extend_8 : decode cX4_extend 8 = .ok (.invokestatic 78, 3) := jo_184 (a := 0) (b := 78) (jw3 jdcX4_extend_0 8 rfl rfl) rfl
theorem dX4_extend_11 : decode cX4_extend 11 = .ok (.istore 7, 2) := jo_54 (jw2 jdcX4_extend_0 11 rfl rfl)
theorem dX4_extend_13 : decode cX4_extend 13 = .ok (.iconst 0, 1) := jo_3 (jw1 jdcX4_extend_0 13 rfl rfl)
theorem dX4_extend_14 : decode cX4_extend 14 = .ok (.istore 8, 2) := jo_54 (jw2 jdcX4_extend_0 14 rfl rfl)
theorem dX4_extend_16 : decode cX4_extend 16 = .ok (.iload 8, 2) := jo_21 (jw2 jdcX4_extend_0 16 rfl rfl)
theorem dX4_extend_18 : decode cX4_extend 18 = .ok (.iload 7, 2) := jo_21 (jw2 jdcX4_extend_0 18 rfl rfl)
theorem dX4_extend_20 : decode cX4_extend 20 = .ok (.if_icmp .ge 150, 3) := jo_162 (a := 0) (b := 150) (jw3 jdcX4_extend_0 20 rfl rfl) rfl
theorem dX4_extend_23 : decode cX4_extend 23 = .ok (.aload_n 0, 1) := jo_42 (jw1 jdcX4_extend_0 23 rfl rfl)
theorem dX4_extend_24 : decode cX4_extend 24 = .ok (.getfield 41, 3) := jo_180 (a := 0) (b := 41) (jw3 jdcX4_extend_0 24 rfl rfl) rfl
theorem dX4_extend_27 : decode cX4_extend 27 = .ok (.ifCond .ne 143, 3) := jo_154 (a := 0) (b := 143) (jw3 jdcX4_extend_0 27 rfl rfl) rfl
theorem dX4_extend_30 : decode cX4_extend 30 = .ok (.iload_n 2, 1) := jo_28 (jw1 jdcX4_extend_0 30 rfl rfl)
theorem dX4_extend_31 : decode cX4_extend 31 = .ok (.iload 6, 2) := jo_21 (jw2 jdcX4_extend_0 31 rfl rfl)
theorem jdcX4_extend_16 : jwk (cX4_extend.data.toList.drop 33) [21, 8, 184, 0, 84, 96, 54, 9, 29, 21, 6, 21, 8, 28, 29, 184, 0, 88, 96, 54, 10, 21, 4, 21, 6, 21, 8, 184, 0, 92] = true := by decide +kernel
theorem dX4_extend_33 : decode cX4_extend 33 = .ok (.iload 8, 2) := jo_21 (jw2 jdcX4_extend_16 0 rfl rfl)
theorem dX4_extend_35 : decode cX4_extend 35 = .ok (.invokestatic 84, 3) := jo_184 (a := 0) (b := 84) (jw3 jdcX4_extend_16 2 rfl rfl) rfl
theorem dX4_extend_38 : decode cX4_extend 38 = .ok (.iadd, 1) := jo_96 (jw1 jdcX4_extend_16 5 rfl rfl)
theorem dX4_extend_39 : decode cX4_extend 39 = .ok (.istore 9, 2) := jo_54 (jw2 jdcX4_extend_16 6 rfl rfl)
theorem dX4_extend_41 : decode cX4_extend 41 = .ok (.iload_n 3, 1) := jo_29 (jw1 jdcX4_extend_16 8 rfl rfl)
theorem dX4_extend_42 : decode cX4_extend 42 = .ok (.iload 6, 2) := jo_21 (jw2 jdcX4_extend_16 9 rfl rfl)
theorem dX4_extend_44 : decode cX4_extend 44 = .ok (.iload 8, 2) := jo_21 (jw2 jdcX4_extend_16 11 rfl rfl)
theorem dX4_extend_46 : decode cX4_extend 46 = .ok (.iload_n 2, 1) := jo_28 (jw1 jdcX4_extend_16 13 rfl rfl)
theorem dX4_extend_47 : decode cX4_extend 47 = .ok (.iload_n 3, 1) := jo_29 (jw1 jdcX4_extend_16 14 rfl rfl)
theorem dX4_extend_48 : decode cX4_extend 48 = .ok (.invokestatic 88, 3) := jo_184 (a := 0) (b := 88) (jw3 jdcX4_extend_16 15 rfl rfl) rfl
theorem dX4_extend_51 : decode cX4_extend 51 = .ok (.iadd, 1) := jo_96 (jw1 jdcX4_extend_16 18 rfl rfl)
theorem dX4_extend_52 : decode cX4_extend 52 = .ok (.istore 10, 2) := jo_54 (jw2 jdcX4_extend_16 19 rfl rfl)
theorem dX4_extend_54 : decode cX4_extend 54 = .ok (.iload 4, 2) := jo_21 (jw2 jdcX4_extend_16 21 rfl rfl)
theorem dX4_extend_56 : decode cX4_extend 56 = .ok (.iload 6, 2) := jo_21 (jw2 jdcX4_extend_16 23 rfl rfl)
theorem dX4_extend_58 : decode cX4_extend 58 = .ok (.iload 8, 2) := jo_21 (jw2 jdcX4_extend_16 25 rfl rfl)
theorem dX4_extend_60 : decode cX4_extend 60 = .ok (.invokestatic 92, 3) := jo_184 (a := 0) (b := 92) (jw3 jdcX4_extend_16 27 rfl rfl) rfl
theorem jdcX4_extend_32 : jwk (cX4_extend.data.toList.drop 63) [96, 54, 11, 42, 21, 9, 21, 10, 21, 11, 182, 0, 62, 54, 12, 42, 21, 12, 182, 0, 95, 153, 0, 6, 167, 0, 77, 21, 9, 157, 0, 9, 17, 3, 232] = true := by decide +kernel
theorem dX4_extend_63 : decode cX4_extend 63 = .ok (.iadd, 1) := jo_96 (jw1 jdcX4_extend_32 0 rfl rfl)
theorem dX4_extend_64 : decode cX4_extend 64 = .ok (.istore 11, 2) := jo_54 (jw2 jdcX4_extend_32 1 rfl rfl)
theorem dX4_extend_66 : decode cX4_extend 66 = .ok (.aload_n 0, 1) := jo_42 (jw1 jdcX4_extend_32 3 rfl rfl)
theorem dX4_extend_67 : decode cX4_extend 67 = .ok (.iload 9, 2) := jo_21 (jw2 jdcX4_extend_32 4 rfl rfl)
theorem dX4_extend_69 : decode cX4_extend 69 = .ok (.iload 10, 2) := jo_21 (jw2 jdcX4_extend_32 6 rfl rfl)
theorem dX4_extend_71 : decode cX4_extend 71 = .ok (.iload 11, 2) := jo_21 (jw2 jdcX4_extend_32 8 rfl rfl)
theorem dX4_extend_73 : decode cX4_extend 73 = .ok (.invokevirtual 62, 3) := jo_182 (a := 0) (b := 62) (jw3 jdcX4_extend_32 10 rfl rfl) rfl
theorem dX4_extend_76 : decode cX4_extend 76 = .ok (.istore 12, 2) := jo_54 (jw2 jdcX4_extend_32 13 rfl rfl)
theorem dX4_extend_78 : decode cX4_extend 78 = .ok (.aload_n 0, 1) := jo_42 (jw1 jdcX4_extend_32 15 rfl rfl)
theorem dX4_extend_79 : decode cX4_extend 79 = .ok (.iload 12, 2) := jo_21 (jw2 jdcX4_extend_32 16 rfl rfl)
theorem dX4_extend_81 : decode cX4_extend 81 = .ok (.invokevirtual 95, 3) := jo_182 (a := 0) (b := 95) (jw3 jdcX4_extend_32 18 rfl rfl) rfl
theorem dX4_extend_84 : decode cX4_extend 84 = .ok (.ifCond .eq 6, 3) := jo_153 (a := 0) (b := 6) (jw3 jdcX4_extend_32 21 rfl rfl) rfl
theorem dX4_extend_87 : decode cX4_extend 87 = .ok (.goto 77, 3) := jo_167 (a := 0) (b := 77) (jw3 jdcX4_extend_32 24 rfl rfl) rfl
theorem dX4_extend_90 : decode cX4_extend 90 = .ok (.iload 9, 2) := jo_21 (jw2 jdcX4_extend_32 27 rfl rfl)
theorem dX4_extend_92 : decode cX4_extend 92 = .ok (.ifCond .gt 9, 3) := jo_157 (a := 0) (b := 9) (jw3 jdcX4_extend_32 29 rfl rfl) rfl
theorem dX4_extend_95 : decode cX4_extend 95 = .ok (.sipush 1000, 3) := jo_17 (a := 3) (b := 232) (jw3 jdcX4_extend_32 32 rfl rfl) rfl
theorem jdcX4_extend_48 : jwk (cX4_extend.data.toList.drop 98) [167, 0, 10, 21, 5, 21, 9, 184, 0, 99, 54, 13, 27, 4, 96, 42, 180, 0, 31, 161, 0, 18, 42, 21, 9, 21, 10, 21, 11, 21, 13] = true := by decide +kernel
theorem dX4_extend_98 : decode cX4_extend 98 = .ok (.goto 10, 3) := jo_167 (a := 0) (b := 10) (jw3 jdcX4_extend_48 0 rfl rfl) rfl
theorem dX4_extend_101 : decode cX4_extend 101 = .ok (.iload 5, 2) := jo_21 (jw2 jdcX4_extend_48 3 rfl rfl)
theorem dX4_extend_103 : decode cX4_extend 103 = .ok (.iload 9, 2) := jo_21 (jw2 jdcX4_extend_48 5 rfl rfl)
theorem dX4_extend_105 : decode cX4_extend 105 = .ok (.invokestatic 99, 3) := jo_184 (a := 0) (b := 99) (jw3 jdcX4_extend_48 7 rfl rfl) rfl
theorem dX4_extend_108 : decode cX4_extend 108 = .ok (.istore 13, 2) := jo_54 (jw2 jdcX4_extend_48 10 rfl rfl)
theorem dX4_extend_110 : decode cX4_extend 110 = .ok (.iload_n 1, 1) := jo_27 (jw1 jdcX4_extend_48 12 rfl rfl)
theorem dX4_extend_111 : decode cX4_extend 111 = .ok (.iconst 1, 1) := jo_4 (jw1 jdcX4_extend_48 13 rfl rfl)
theorem dX4_extend_112 : decode cX4_extend 112 = .ok (.iadd, 1) := jo_96 (jw1 jdcX4_extend_48 14 rfl rfl)
theorem dX4_extend_113 : decode cX4_extend 113 = .ok (.aload_n 0, 1) := jo_42 (jw1 jdcX4_extend_48 15 rfl rfl)
theorem dX4_extend_114 : decode cX4_extend 114 = .ok (.getfield 31, 3) := jo_180 (a := 0) (b := 31) (jw3 jdcX4_extend_48 16 rfl rfl) rfl
theorem dX4_extend_117 : decode cX4_extend 117 = .ok (.if_icmp .lt 18, 3) := jo_161 (a := 0) (b := 18) (jw3 jdcX4_extend_48 19 rfl rfl) rfl
theorem dX4_extend_120 : decode cX4_extend 120 = .ok (.aload_n 0, 1) := jo_42 (jw1 jdcX4_extend_48 22 rfl rfl)
theorem dX4_extend_121 : decode cX4_extend 121 = .ok (.iload 9, 2) := jo_21 (jw2 jdcX4_extend_48 23 rfl rfl)
theorem dX4_extend_123 : decode cX4_extend 123 = .ok (.iload 10, 2) := jo_21 (jw2 jdcX4_extend_48 25 rfl rfl)
theorem dX4_extend_125 : decode cX4_extend 125 = .ok (.iload 11, 2) := jo_21 (jw2 jdcX4_extend_48 27 rfl rfl)
theorem dX4_extend_127 : decode cX4_extend 127 = .ok (.iload 13, 2) := jo_21 (jw2 jdcX4_extend_48 29 rfl rfl)
theorem jdcX4_extend_64 : jwk (cX4_extend.data.toList.drop 129) [182, 0, 104, 167, 0, 32, 42, 21, 12, 4, 182, 0, 66, 42, 27, 4, 96, 21, 9, 21, 10, 21, 11, 21, 13, 184, 0, 70, 42] = true := by decide +kernel
theorem dX4_extend_129 : decode cX4_extend 129 = .ok (.invokevirtual 104, 3) := jo_182 (a := 0) (b := 104) (jw3 jdcX4_extend_64 0 rfl rfl) rfl
theorem dX4_extend_132 : decode cX4_extend 132 = .ok (.goto 32, 3) := jo_167 (a := 0) (b := 32) (jw3 jdcX4_extend_64 3 rfl rfl) rfl
theorem dX4_extend_135 : decode cX4_extend 135 = .ok (.aload_n 0, 1) := jo_42 (jw1 jdcX4_extend_64 6 rfl rfl)
theorem dX4_extend_136 : decode cX4_extend 136 = .ok (.iload 12, 2) := jo_21 (jw2 jdcX4_extend_64 7 rfl rfl)
theorem dX4_extend_138 : decode cX4_extend 138 = .ok (.iconst 1, 1) := jo_4 (jw1 jdcX4_extend_64 9 rfl rfl)
theorem dX4_extend_139 : decode cX4_extend 139 = .ok (.invokevirtual 66, 3) := jo_182 (a := 0) (b := 66) (jw3 jdcX4_extend_64 10 rfl rfl) rfl
theorem dX4_extend_142 : decode cX4_extend 142 = .ok (.aload_n 0, 1) := jo_42 (jw1 jdcX4_extend_64 13 rfl rfl)
theorem dX4_extend_143 : decode cX4_extend 143 = .ok (.iload_n 1, 1) := jo_27 (jw1 jdcX4_extend_64 14 rfl rfl)
theorem dX4_extend_144 : decode cX4_extend 144 = .ok (.iconst 1, 1) := jo_4 (jw1 jdcX4_extend_64 15 rfl rfl)
theorem dX4_extend_145 : decode cX4_extend 145 = .ok (.iadd, 1) := jo_96 (jw1 jdcX4_extend_64 16 rfl rfl)
theorem dX4_extend_146 : decode cX4_extend 146 = .ok (.iload 9, 2) := jo_21 (jw2 jdcX4_extend_64 17 rfl rfl)
theorem dX4_extend_148 : decode cX4_extend 148 = .ok (.iload 10, 2) := jo_21 (jw2 jdcX4_extend_64 19 rfl rfl)
theorem dX4_extend_150 : decode cX4_extend 150 = .ok (.iload 11, 2) := jo_21 (jw2 jdcX4_extend_64 21 rfl rfl)
theorem dX4_extend_152 : decode cX4_extend 152 = .ok (.iload 13, 2) := jo_21 (jw2 jdcX4_extend_64 23 rfl rfl)
theorem dX4_extend_154 : decode cX4_extend 154 = .ok (.invokestatic 70, 3) := jo_184 (a := 0) (b := 70) (jw3 jdcX4_extend_64 25 rfl rfl) rfl
theorem dX4_extend_157 : decode cX4_extend 157 = .ok (.aload_n 0, 1) := jo_42 (jw1 jdcX4_extend_64 28 rfl rfl)
theorem jdcX4_extend_80 : jwk (cX4_extend.data.toList.drop 158) [21, 12, 3, 182, 0, 66, 132, 8, 1, 167, 255, 105, 177] = true := by decide +kernel
theorem dX4_extend_158 : decode cX4_extend 158 = .ok (.iload 12, 2) := jo_21 (jw2 jdcX4_extend_80 0 rfl rfl)
theorem dX4_extend_160 : decode cX4_extend 160 = .ok (.iconst 0, 1) := jo_3 (jw1 jdcX4_extend_80 2 rfl rfl)
theorem dX4_extend_161 : decode cX4_extend 161 = .ok (.invokevirtual 66, 3) := jo_182 (a := 0) (b := 66) (jw3 jdcX4_extend_80 3 rfl rfl) rfl
theorem dX4_extend_164 : decode cX4_extend 164 = .ok (.iinc 8 1, 3) := jo_132 (a := 8) (b := 1) (jw3 jdcX4_extend_80 6 rfl rfl) rfl
theorem dX4_extend_167 : decode cX4_extend 167 = .ok (.goto (-151), 3) := jo_167 (a := 255) (b := 105) (jw3 jdcX4_extend_80 9 rfl rfl) rfl
theorem dX4_extend_170 : decode cX4_extend 170 = .ok (.return_, 1) := jo_177 (jw1 jdcX4_extend_80 12 rfl rfl)
theorem jdcX4_score_0 : jwk (cX4_score.data.toList.drop 0) [42, 180, 0, 31, 155, 0, 51, 42, 180, 0, 31, 42, 180, 0, 9, 190, 162, 0, 39, 42, 180, 0, 31, 42, 180, 0, 15, 190, 162, 0, 27, 42] = true := by decide +kernel
theorem dX4_score_0 : decode cX4_score 0 = .ok (.aload_n 0, 1) := jo_42 (jw1 jdcX4_score_0 0 rfl rfl)
theorem dX4_score_1 : decode cX4_score 1 = .ok (.getfield 31, 3) := jo_180 (a := 0) (b := 31) (jw3 jdcX4_score_0 1 rfl rfl) rfl
theorem dX4_score_4 : decode cX4_score 4 = .ok (.ifCond .lt 51, 3) := jo_155 (a := 0) (b := 51) (jw3 jdcX4_score_0 4 rfl rfl) rfl
theorem dX4_score_7 : decode cX4_score 7 = .ok (.aload_n 0, 1) := jo_42 (jw1 jdcX4_score_0 7 rfl rfl)
theorem dX4_score_8 : decode cX4_score 8 = .ok (.getfield 31, 3) := jo_180 (a := 0) (b := 31) (jw3 jdcX4_score_0 8 rfl rfl) rfl
theorem dX4_score_11 : decode cX4_score 11 = .ok (.aload_n 0, 1) := jo_42 (jw1 jdcX4_score_0 11 rfl rfl)
theorem dX4_score_12 : decode cX4_score 12 = .ok (.getfield 9, 3) := jo_180 (a := 0) (b := 9) (jw3 jdcX4_score_0 12 rfl rfl) rfl
theorem dX4_score_15 : decode cX4_score 15 = .ok (.arraylength, 1) := jo_190 (jw1 jdcX4_score_0 15 rfl rfl)
theorem dX4_score_16 : decode cX4_score 16 = .ok (.if_icmp .ge 39, 3) := jo_162 (a := 0) (b := 39) (jw3 jdcX4_score_0 16 rfl rfl) rfl
theorem dX4_score_19 : decode cX4_score 19 = .ok (.aload_n 0, 1) := jo_42 (jw1 jdcX4_score_0 19 rfl rfl)
theorem dX4_score_20 : decode cX4_score 20 = .ok (.getfield 31, 3) := jo_180 (a := 0) (b := 31) (jw3 jdcX4_score_0 20 rfl rfl) rfl
theorem dX4_score_23 : decode cX4_score 23 = .ok (.aload_n 0, 1) := jo_42 (jw1 jdcX4_score_0 23 rfl rfl)
theorem dX4_score_24 : decode cX4_score 24 = .ok (.getfield 15, 3) := jo_180 (a := 0) (b := 15) (jw3 jdcX4_score_0 24 rfl rfl) rfl
theorem dX4_score_27 : decode cX4_score 27 = .ok (.arraylength, 1) := jo_190 (jw1 jdcX4_score_0 27 rfl rfl)
theorem dX4_score_28 : decode cX4_score 28 = .ok (.if_icmp .ge 27, 3) := jo_162 (a := 0) (b := 27) (jw3 jdcX4_score_0 28 rfl rfl) rfl
theorem dX4_score_31 : decode cX4_score 31 = .ok (.aload_n 0, 1) := jo_42 (jw1 jdcX4_score_0 31 rfl rfl)
theorem jdcX4_score_16 : jwk (cX4_score.data.toList.drop 32) [180, 0, 31, 42, 180, 0, 19, 190, 162, 0, 15, 42, 180, 0, 31, 42, 180, 0, 22, 190, 161, 0, 4, 177, 42, 180, 0, 9, 42, 180, 0, 31] = true := by decide +kernel
theorem dX4_score_32 : decode cX4_score 32 = .ok (.getfield 31, 3) := jo_180 (a := 0) (b := 31) (jw3 jdcX4_score_16 0 rfl rfl) rfl
theorem dX4_score_35 : decode cX4_score 35 = .ok (.aload_n 0, 1) := jo_42 (jw1 jdcX4_score_16 3 rfl rfl)
theorem dX4_score_36 : decode cX4_score 36 = .ok (.getfield 19, 3) := jo_180 (a := 0) (b := 19) (jw3 jdcX4_score_16 4 rfl rfl) rfl
theorem dX4_score_39 : decode cX4_score 39 = .ok (.arraylength, 1) := jo_190 (jw1 jdcX4_score_16 7 rfl rfl)
theorem dX4_score_40 : decode cX4_score 40 = .ok (.if_icmp .ge 15, 3) := jo_162 (a := 0) (b := 15) (jw3 jdcX4_score_16 8 rfl rfl) rfl
theorem dX4_score_43 : decode cX4_score 43 = .ok (.aload_n 0, 1) := jo_42 (jw1 jdcX4_score_16 11 rfl rfl)
theorem dX4_score_44 : decode cX4_score 44 = .ok (.getfield 31, 3) := jo_180 (a := 0) (b := 31) (jw3 jdcX4_score_16 12 rfl rfl) rfl
theorem dX4_score_47 : decode cX4_score 47 = .ok (.aload_n 0, 1) := jo_42 (jw1 jdcX4_score_16 15 rfl rfl)
theorem dX4_score_48 : decode cX4_score 48 = .ok (.getfield 22, 3) := jo_180 (a := 0) (b := 22) (jw3 jdcX4_score_16 16 rfl rfl) rfl
theorem dX4_score_51 : decode cX4_score 51 = .ok (.arraylength, 1) := jo_190 (jw1 jdcX4_score_16 19 rfl rfl)
theorem dX4_score_52 : decode cX4_score 52 = .ok (.if_icmp .lt 4, 3) := jo_161 (a := 0) (b := 4) (jw3 jdcX4_score_16 20 rfl rfl) rfl
theorem dX4_score_55 : decode cX4_score 55 = .ok (.return_, 1) := jo_177 (jw1 jdcX4_score_16 23 rfl rfl)
theorem dX4_score_56 : decode cX4_score 56 = .ok (.aload_n 0, 1) := jo_42 (jw1 jdcX4_score_16 24 rfl rfl)
theorem dX4_score_57 : decode cX4_score 57 = .ok (.getfield 9, 3) := jo_180 (a := 0) (b := 9) (jw3 jdcX4_score_16 25 rfl rfl) rfl
theorem dX4_score_60 : decode cX4_score 60 = .ok (.aload_n 0, 1) := jo_42 (jw1 jdcX4_score_16 28 rfl rfl)
theorem dX4_score_61 : decode cX4_score 61 = .ok (.getfield 31, 3) := jo_180 (a := 0) (b := 31) (jw3 jdcX4_score_16 29 rfl rfl) rfl
theorem jdcX4_score_32 : jwk (cX4_score.data.toList.drop 64) [92, 46, 4, 96, 79, 42, 180, 0, 15, 42, 180, 0, 31, 92, 47, 42, 180, 0, 45, 27, 28, 29] = true := by decide +kernel
theorem dX4_score_64 : decode cX4_score 64 = .ok (.dup2, 1) := jo_92 (jw1 jdcX4_score_32 0 rfl rfl)
theorem dX4_score_65 : decode cX4_score 65 = .ok (.iaload, 1) := jo_46 (jw1 jdcX4_score_32 1 rfl rfl)
theorem dX4_score_66 : decode cX4_score 66 = .ok (.iconst 1, 1) := jo_4 (jw1 jdcX4_score_32 2 rfl rfl)
theorem dX4_score_67 : decode cX4_score 67 = .ok (.iadd, 1) := jo_96 (jw1 jdcX4_score_32 3 rfl rfl)
theorem dX4_score_68 : decode cX4_score 68 = .ok (.iastore, 1) := jo_79 (jw1 jdcX4_score_32 4 rfl rfl)
theorem dX4_score_69 : decode cX4_score 69 = .ok (.aload_n 0, 1) := jo_42 (jw1 jdcX4_score_32 5 rfl rfl)
theorem dX4_score_70 : decode cX4_score 70 = .ok (.getfield 15, 3) := jo_180 (a := 0) (b := 15) (jw3 jdcX4_score_32 6 rfl rfl) rfl
theorem dX4_score_73 : decode cX4_score 73 = .ok (.aload_n 0, 1) := jo_42 (jw1 jdcX4_score_32 9 rfl rfl)
theorem dX4_score_74 : decode cX4_score 74 = .ok (.getfield 31, 3) := jo_180 (a := 0) (b := 31) (jw3 jdcX4_score_32 10 rfl rfl) rfl
theorem dX4_score_77 : decode cX4_score 77 = .ok (.dup2, 1) := jo_92 (jw1 jdcX4_score_32 13 rfl rfl)
theorem dX4_score_78 : decode cX4_score 78 = .ok (.laload, 1) := jo_47 (jw1 jdcX4_score_32 14 rfl rfl)
theorem dX4_score_79 : decode cX4_score 79 = .ok (.aload_n 0, 1) := jo_42 (jw1 jdcX4_score_32 15 rfl rfl)
theorem dX4_score_80 : decode cX4_score 80 = .ok (.getfield 45, 3) := jo_180 (a := 0) (b := 45) (jw3 jdcX4_score_32 16 rfl rfl) rfl
theorem dX4_score_83 : decode cX4_score 83 = .ok (.iload_n 1, 1) := jo_27 (jw1 jdcX4_score_32 19 rfl rfl)
theorem dX4_score_84 : decode cX4_score 84 = .ok (.iload_n 2, 1) := jo_28 (jw1 jdcX4_score_32 20 rfl rfl)
theorem dX4_score_85 : decode cX4_score 85 = .ok (.iload_n 3, 1) := jo_29 (jw1 jdcX4_score_32 21 rfl rfl)
theorem jdcX4_score_48 : jwk (cX4_score.data.toList.drop 86) [184, 0, 108, 133, 97, 80, 42, 180, 0, 45, 27, 28, 29, 184, 0, 111, 153, 0, 16, 42, 180, 0, 19, 42, 180, 0, 31, 92] = true := by decide +kernel
theorem dX4_score_86 : decode cX4_score 86 = .ok (.invokestatic 108, 3) := jo_184 (a := 0) (b := 108) (jw3 jdcX4_score_48 0 rfl rfl) rfl
theorem dX4_score_89 : decode cX4_score 89 = .ok (.i2l, 1) := jo_133 (jw1 jdcX4_score_48 3 rfl rfl)
theorem dX4_score_90 : decode cX4_score 90 = .ok (.ladd, 1) := jo_97 (jw1 jdcX4_score_48 4 rfl rfl)
theorem dX4_score_91 : decode cX4_score 91 = .ok (.lastore, 1) := jo_80 (jw1 jdcX4_score_48 5 rfl rfl)
theorem dX4_score_92 : decode cX4_score 92 = .ok (.aload_n 0, 1) := jo_42 (jw1 jdcX4_score_48 6 rfl rfl)
theorem dX4_score_93 : decode cX4_score 93 = .ok (.getfield 45, 3) := jo_180 (a := 0) (b := 45) (jw3 jdcX4_score_48 7 rfl rfl) rfl
theorem dX4_score_96 : decode cX4_score 96 = .ok (.iload_n 1, 1) := jo_27 (jw1 jdcX4_score_48 10 rfl rfl)
theorem dX4_score_97 : decode cX4_score 97 = .ok (.iload_n 2, 1) := jo_28 (jw1 jdcX4_score_48 11 rfl rfl)
theorem dX4_score_98 : decode cX4_score 98 = .ok (.iload_n 3, 1) := jo_29 (jw1 jdcX4_score_48 12 rfl rfl)
theorem dX4_score_99 : decode cX4_score 99 = .ok (.invokestatic 111, 3) := jo_184 (a := 0) (b := 111) (jw3 jdcX4_score_48 13 rfl rfl) rfl
theorem dX4_score_102 : decode cX4_score 102 = .ok (.ifCond .eq 16, 3) := jo_153 (a := 0) (b := 16) (jw3 jdcX4_score_48 16 rfl rfl) rfl
theorem dX4_score_105 : decode cX4_score 105 = .ok (.aload_n 0, 1) := jo_42 (jw1 jdcX4_score_48 19 rfl rfl)
theorem dX4_score_106 : decode cX4_score 106 = .ok (.getfield 19, 3) := jo_180 (a := 0) (b := 19) (jw3 jdcX4_score_48 20 rfl rfl) rfl
theorem dX4_score_109 : decode cX4_score 109 = .ok (.aload_n 0, 1) := jo_42 (jw1 jdcX4_score_48 23 rfl rfl)
theorem dX4_score_110 : decode cX4_score 110 = .ok (.getfield 31, 3) := jo_180 (a := 0) (b := 31) (jw3 jdcX4_score_48 24 rfl rfl) rfl
theorem dX4_score_113 : decode cX4_score 113 = .ok (.dup2, 1) := jo_92 (jw1 jdcX4_score_48 27 rfl rfl)
theorem jdcX4_score_64 : jwk (cX4_score.data.toList.drop 114) [46, 4, 96, 79, 21, 4, 27, 160, 0, 16, 42, 180, 0, 22, 42, 180, 0, 31, 92, 46, 4, 96, 79] = true := by decide +kernel
theorem dX4_score_114 : decode cX4_score 114 = .ok (.iaload, 1) := jo_46 (jw1 jdcX4_score_64 0 rfl rfl)
theorem dX4_score_115 : decode cX4_score 115 = .ok (.iconst 1, 1) := jo_4 (jw1 jdcX4_score_64 1 rfl rfl)
theorem dX4_score_116 : decode cX4_score 116 = .ok (.iadd, 1) := jo_96 (jw1 jdcX4_score_64 2 rfl rfl)
theorem dX4_score_117 : decode cX4_score 117 = .ok (.iastore, 1) := jo_79 (jw1 jdcX4_score_64 3 rfl rfl)
theorem dX4_score_118 : decode cX4_score 118 = .ok (.iload 4, 2) := jo_21 (jw2 jdcX4_score_64 4 rfl rfl)
theorem dX4_score_120 : decode cX4_score 120 = .ok (.iload_n 1, 1) := jo_27 (jw1 jdcX4_score_64 6 rfl rfl)
theorem dX4_score_121 : decode cX4_score 121 = .ok (.if_icmp .ne 16, 3) := jo_160 (a := 0) (b := 16) (jw3 jdcX4_score_64 7 rfl rfl) rfl
theorem dX4_score_124 : decode cX4_score 124 = .ok (.aload_n 0, 1) := jo_42 (jw1 jdcX4_score_64 10 rfl rfl)
theorem dX4_score_125 : decode cX4_score 125 = .ok (.getfield 22, 3) := jo_180 (a := 0) (b := 22) (jw3 jdcX4_score_64 11 rfl rfl) rfl
theorem dX4_score_128 : decode cX4_score 128 = .ok (.aload_n 0, 1) := jo_42 (jw1 jdcX4_score_64 14 rfl rfl)
theorem dX4_score_129 : decode cX4_score 129 = .ok (.getfield 31, 3) := jo_180 (a := 0) (b := 31) (jw3 jdcX4_score_64 15 rfl rfl) rfl
theorem dX4_score_132 : decode cX4_score 132 = .ok (.dup2, 1) := jo_92 (jw1 jdcX4_score_64 18 rfl rfl)
theorem dX4_score_133 : decode cX4_score 133 = .ok (.iaload, 1) := jo_46 (jw1 jdcX4_score_64 19 rfl rfl)
theorem dX4_score_134 : decode cX4_score 134 = .ok (.iconst 1, 1) := jo_4 (jw1 jdcX4_score_64 20 rfl rfl)
theorem dX4_score_135 : decode cX4_score 135 = .ok (.iadd, 1) := jo_96 (jw1 jdcX4_score_64 21 rfl rfl)
theorem dX4_score_136 : decode cX4_score 136 = .ok (.iastore, 1) := jo_79 (jw1 jdcX4_score_64 22 rfl rfl)
theorem jdcX4_score_80 : jwk (cX4_score.data.toList.drop 137) [42, 42, 180, 0, 38, 42, 180, 0, 9, 42, 180, 0, 31, 46, 96, 18, 115, 164, 0, 7, 4, 167, 0, 4, 3, 181, 0, 41, 177] = true := by decide +kernel
theorem dX4_score_137 : decode cX4_score 137 = .ok (.aload_n 0, 1) := jo_42 (jw1 jdcX4_score_80 0 rfl rfl)
theorem dX4_score_138 : decode cX4_score 138 = .ok (.aload_n 0, 1) := jo_42 (jw1 jdcX4_score_80 1 rfl rfl)
theorem dX4_score_139 : decode cX4_score 139 = .ok (.getfield 38, 3) := jo_180 (a := 0) (b := 38) (jw3 jdcX4_score_80 2 rfl rfl) rfl
theorem dX4_score_142 : decode cX4_score 142 = .ok (.aload_n 0, 1) := jo_42 (jw1 jdcX4_score_80 5 rfl rfl)
theorem dX4_score_143 : decode cX4_score 143 = .ok (.getfield 9, 3) := jo_180 (a := 0) (b := 9) (jw3 jdcX4_score_80 6 rfl rfl) rfl
theorem dX4_score_146 : decode cX4_score 146 = .ok (.aload_n 0, 1) := jo_42 (jw1 jdcX4_score_80 9 rfl rfl)
theorem dX4_score_147 : decode cX4_score 147 = .ok (.getfield 31, 3) := jo_180 (a := 0) (b := 31) (jw3 jdcX4_score_80 10 rfl rfl) rfl
theorem dX4_score_150 : decode cX4_score 150 = .ok (.iaload, 1) := jo_46 (jw1 jdcX4_score_80 13 rfl rfl)
theorem dX4_score_151 : decode cX4_score 151 = .ok (.iadd, 1) := jo_96 (jw1 jdcX4_score_80 14 rfl rfl)
theorem dX4_score_152 : decode cX4_score 152 = .ok (.ldc 115, 2) := jo_18 (jw2 jdcX4_score_80 15 rfl rfl)
theorem dX4_score_154 : decode cX4_score 154 = .ok (.if_icmp .le 7, 3) := jo_164 (a := 0) (b := 7) (jw3 jdcX4_score_80 17 rfl rfl) rfl
theorem dX4_score_157 : decode cX4_score 157 = .ok (.iconst 1, 1) := jo_4 (jw1 jdcX4_score_80 20 rfl rfl)
theorem dX4_score_158 : decode cX4_score 158 = .ok (.goto 4, 3) := jo_167 (a := 0) (b := 4) (jw3 jdcX4_score_80 21 rfl rfl) rfl
theorem dX4_score_161 : decode cX4_score 161 = .ok (.iconst 0, 1) := jo_3 (jw1 jdcX4_score_80 24 rfl rfl)
theorem dX4_score_162 : decode cX4_score 162 = .ok (.putfield 41, 3) := jo_181 (a := 0) (b := 41) (jw3 jdcX4_score_80 25 rfl rfl) rfl
theorem dX4_score_165 : decode cX4_score 165 = .ok (.return_, 1) := jo_177 (jw1 jdcX4_score_80 28 rfl rfl)
theorem jdcX4_cellOf_0 : jwk (cX4_cellOf.data.toList.drop 0) [27, 42, 180, 0, 48, 96, 42, 180, 0, 51, 28, 42, 180, 0, 48, 96, 104, 96, 54, 4, 42, 180, 0, 45, 6] = true := by decide +kernel
theorem dX4_cellOf_0 : decode cX4_cellOf 0 = .ok (.iload_n 1, 1) := jo_27 (jw1 jdcX4_cellOf_0 0 rfl rfl)
theorem dX4_cellOf_1 : decode cX4_cellOf 1 = .ok (.aload_n 0, 1) := jo_42 (jw1 jdcX4_cellOf_0 1 rfl rfl)
theorem dX4_cellOf_2 : decode cX4_cellOf 2 = .ok (.getfield 48, 3) := jo_180 (a := 0) (b := 48) (jw3 jdcX4_cellOf_0 2 rfl rfl) rfl
theorem dX4_cellOf_5 : decode cX4_cellOf 5 = .ok (.iadd, 1) := jo_96 (jw1 jdcX4_cellOf_0 5 rfl rfl)
theorem dX4_cellOf_6 : decode cX4_cellOf 6 = .ok (.aload_n 0, 1) := jo_42 (jw1 jdcX4_cellOf_0 6 rfl rfl)
theorem dX4_cellOf_7 : decode cX4_cellOf 7 = .ok (.getfield 51, 3) := jo_180 (a := 0) (b := 51) (jw3 jdcX4_cellOf_0 7 rfl rfl) rfl
theorem dX4_cellOf_10 : decode cX4_cellOf 10 = .ok (.iload_n 2, 1) := jo_28 (jw1 jdcX4_cellOf_0 10 rfl rfl)
theorem dX4_cellOf_11 : decode cX4_cellOf 11 = .ok (.aload_n 0, 1) := jo_42 (jw1 jdcX4_cellOf_0 11 rfl rfl)
theorem dX4_cellOf_12 : decode cX4_cellOf 12 = .ok (.getfield 48, 3) := jo_180 (a := 0) (b := 48) (jw3 jdcX4_cellOf_0 12 rfl rfl) rfl
theorem dX4_cellOf_15 : decode cX4_cellOf 15 = .ok (.iadd, 1) := jo_96 (jw1 jdcX4_cellOf_0 15 rfl rfl)
theorem dX4_cellOf_16 : decode cX4_cellOf 16 = .ok (.imul, 1) := jo_104 (jw1 jdcX4_cellOf_0 16 rfl rfl)
theorem dX4_cellOf_17 : decode cX4_cellOf 17 = .ok (.iadd, 1) := jo_96 (jw1 jdcX4_cellOf_0 17 rfl rfl)
theorem dX4_cellOf_18 : decode cX4_cellOf 18 = .ok (.istore 4, 2) := jo_54 (jw2 jdcX4_cellOf_0 18 rfl rfl)
theorem dX4_cellOf_20 : decode cX4_cellOf 20 = .ok (.aload_n 0, 1) := jo_42 (jw1 jdcX4_cellOf_0 20 rfl rfl)
theorem dX4_cellOf_21 : decode cX4_cellOf 21 = .ok (.getfield 45, 3) := jo_180 (a := 0) (b := 45) (jw3 jdcX4_cellOf_0 21 rfl rfl) rfl
theorem dX4_cellOf_24 : decode cX4_cellOf 24 = .ok (.iconst 3, 1) := jo_6 (jw1 jdcX4_cellOf_0 24 rfl rfl)
theorem jdcX4_cellOf_16 : jwk (cX4_cellOf.data.toList.drop 25) [160, 0, 25, 21, 4, 42, 180, 0, 51, 42, 180, 0, 51, 104, 29, 42, 180, 0, 48, 96, 104, 96, 167, 0, 5, 21, 4, 172] = true := by decide +kernel
theorem dX4_cellOf_25 : decode cX4_cellOf 25 = .ok (.if_icmp .ne 25, 3) := jo_160 (a := 0) (b := 25) (jw3 jdcX4_cellOf_16 0 rfl rfl) rfl
theorem dX4_cellOf_28 : decode cX4_cellOf 28 = .ok (.iload 4, 2) := jo_21 (jw2 jdcX4_cellOf_16 3 rfl rfl)
theorem dX4_cellOf_30 : decode cX4_cellOf 30 = .ok (.aload_n 0, 1) := jo_42 (jw1 jdcX4_cellOf_16 5 rfl rfl)
theorem dX4_cellOf_31 : decode cX4_cellOf 31 = .ok (.getfield 51, 3) := jo_180 (a := 0) (b := 51) (jw3 jdcX4_cellOf_16 6 rfl rfl) rfl
theorem dX4_cellOf_34 : decode cX4_cellOf 34 = .ok (.aload_n 0, 1) := jo_42 (jw1 jdcX4_cellOf_16 9 rfl rfl)
theorem dX4_cellOf_35 : decode cX4_cellOf 35 = .ok (.getfield 51, 3) := jo_180 (a := 0) (b := 51) (jw3 jdcX4_cellOf_16 10 rfl rfl) rfl
theorem dX4_cellOf_38 : decode cX4_cellOf 38 = .ok (.imul, 1) := jo_104 (jw1 jdcX4_cellOf_16 13 rfl rfl)
theorem dX4_cellOf_39 : decode cX4_cellOf 39 = .ok (.iload_n 3, 1) := jo_29 (jw1 jdcX4_cellOf_16 14 rfl rfl)
theorem dX4_cellOf_40 : decode cX4_cellOf 40 = .ok (.aload_n 0, 1) := jo_42 (jw1 jdcX4_cellOf_16 15 rfl rfl)
theorem dX4_cellOf_41 : decode cX4_cellOf 41 = .ok (.getfield 48, 3) := jo_180 (a := 0) (b := 48) (jw3 jdcX4_cellOf_16 16 rfl rfl) rfl
theorem dX4_cellOf_44 : decode cX4_cellOf 44 = .ok (.iadd, 1) := jo_96 (jw1 jdcX4_cellOf_16 19 rfl rfl)
theorem dX4_cellOf_45 : decode cX4_cellOf 45 = .ok (.imul, 1) := jo_104 (jw1 jdcX4_cellOf_16 20 rfl rfl)
theorem dX4_cellOf_46 : decode cX4_cellOf 46 = .ok (.iadd, 1) := jo_96 (jw1 jdcX4_cellOf_16 21 rfl rfl)
theorem dX4_cellOf_47 : decode cX4_cellOf 47 = .ok (.goto 5, 3) := jo_167 (a := 0) (b := 5) (jw3 jdcX4_cellOf_16 22 rfl rfl) rfl
theorem dX4_cellOf_50 : decode cX4_cellOf 50 = .ok (.iload 4, 2) := jo_21 (jw2 jdcX4_cellOf_16 25 rfl rfl)
theorem dX4_cellOf_52 : decode cX4_cellOf 52 = .ok (.ireturn, 1) := jo_172 (jw1 jdcX4_cellOf_16 27 rfl rfl)
theorem jdcX4_isTaken_0 : jwk (cX4_isTaken.data.toList.drop 0) [27, 155, 0, 21, 27, 42, 180, 0, 54, 190, 162, 0, 12, 42, 180, 0, 54, 27, 51, 153, 0, 7, 4, 167, 0, 4, 3, 172] = true := by decide +kernel
theorem dX4_isTaken_0 : decode cX4_isTaken 0 = .ok (.iload_n 1, 1) := jo_27 (jw1 jdcX4_isTaken_0 0 rfl rfl)
theorem dX4_isTaken_1 : decode cX4_isTaken 1 = .ok (.ifCond .lt 21, 3) := jo_155 (a := 0) (b := 21) (jw3 jdcX4_isTaken_0 1 rfl rfl) rfl
theorem dX4_isTaken_4 : decode cX4_isTaken 4 = .ok (.iload_n 1, 1) := jo_27 (jw1 jdcX4_isTaken_0 4 rfl rfl)
theorem dX4_isTaken_5 : decode cX4_isTaken 5 = .ok (.aload_n 0, 1) := jo_42 (jw1 jdcX4_isTaken_0 5 rfl rfl)
theorem dX4_isTaken_6 : decode cX4_isTaken 6 = .ok (.getfield 54, 3) := jo_180 (a := 0) (b := 54) (jw3 jdcX4_isTaken_0 6 rfl rfl) rfl
theorem dX4_isTaken_9 : decode cX4_isTaken 9 = .ok (.arraylength, 1) := jo_190 (jw1 jdcX4_isTaken_0 9 rfl rfl)
theorem dX4_isTaken_10 : decode cX4_isTaken 10 = .ok (.if_icmp .ge 12, 3) := jo_162 (a := 0) (b := 12) (jw3 jdcX4_isTaken_0 10 rfl rfl) rfl
theorem dX4_isTaken_13 : decode cX4_isTaken 13 = .ok (.aload_n 0, 1) := jo_42 (jw1 jdcX4_isTaken_0 13 rfl rfl)
theorem dX4_isTaken_14 : decode cX4_isTaken 14 = .ok (.getfield 54, 3) := jo_180 (a := 0) (b := 54) (jw3 jdcX4_isTaken_0 14 rfl rfl) rfl
theorem dX4_isTaken_17 : decode cX4_isTaken 17 = .ok (.iload_n 1, 1) := jo_27 (jw1 jdcX4_isTaken_0 17 rfl rfl)
theorem dX4_isTaken_18 : decode cX4_isTaken 18 = .ok (.baload, 1) := jo_51 (jw1 jdcX4_isTaken_0 18 rfl rfl)
theorem dX4_isTaken_19 : decode cX4_isTaken 19 = .ok (.ifCond .eq 7, 3) := jo_153 (a := 0) (b := 7) (jw3 jdcX4_isTaken_0 19 rfl rfl) rfl
theorem dX4_isTaken_22 : decode cX4_isTaken 22 = .ok (.iconst 1, 1) := jo_4 (jw1 jdcX4_isTaken_0 22 rfl rfl)
theorem dX4_isTaken_23 : decode cX4_isTaken 23 = .ok (.goto 4, 3) := jo_167 (a := 0) (b := 4) (jw3 jdcX4_isTaken_0 23 rfl rfl) rfl
theorem dX4_isTaken_26 : decode cX4_isTaken 26 = .ok (.iconst 0, 1) := jo_3 (jw1 jdcX4_isTaken_0 26 rfl rfl)
theorem dX4_isTaken_27 : decode cX4_isTaken 27 = .ok (.ireturn, 1) := jo_172 (jw1 jdcX4_isTaken_0 27 rfl rfl)
theorem jdcX4_setTaken_0 : jwk (cX4_setTaken.data.toList.drop 0) [27, 155, 0, 19, 27, 42, 180, 0, 54, 190, 162, 0, 10, 42, 180, 0, 54, 27, 28, 84, 177] = true := by decide +kernel
theorem dX4_setTaken_0 : decode cX4_setTaken 0 = .ok (.iload_n 1, 1) := jo_27 (jw1 jdcX4_setTaken_0 0 rfl rfl)
theorem dX4_setTaken_1 : decode cX4_setTaken 1 = .ok (.ifCond .lt 19, 3) := jo_155 (a := 0) (b := 19) (jw3 jdcX4_setTaken_0 1 rfl rfl) rfl
theorem dX4_setTaken_4 : decode cX4_setTaken 4 = .ok (.iload_n 1, 1) := jo_27 (jw1 jdcX4_setTaken_0 4 rfl rfl)
theorem dX4_setTaken_5 : decode cX4_setTaken 5 = .ok (.aload_n 0, 1) := jo_42 (jw1 jdcX4_setTaken_0 5 rfl rfl)
theorem dX4_setTaken_6 : decode cX4_setTaken 6 = .ok (.getfield 54, 3) := jo_180 (a := 0) (b := 54) (jw3 jdcX4_setTaken_0 6 rfl rfl) rfl
theorem dX4_setTaken_9 : decode cX4_setTaken 9 = .ok (.arraylength, 1) := jo_190 (jw1 jdcX4_setTaken_0 9 rfl rfl)
theorem dX4_setTaken_10 : decode cX4_setTaken 10 = .ok (.if_icmp .ge 10, 3) := jo_162 (a := 0) (b := 10) (jw3 jdcX4_setTaken_0 10 rfl rfl) rfl
theorem dX4_setTaken_13 : decode cX4_setTaken 13 = .ok (.aload_n 0, 1) := jo_42 (jw1 jdcX4_setTaken_0 13 rfl rfl)
theorem dX4_setTaken_14 : decode cX4_setTaken 14 = .ok (.getfield 54, 3) := jo_180 (a := 0) (b := 54) (jw3 jdcX4_setTaken_0 14 rfl rfl) rfl
theorem dX4_setTaken_17 : decode cX4_setTaken 17 = .ok (.iload_n 1, 1) := jo_27 (jw1 jdcX4_setTaken_0 17 rfl rfl)
theorem dX4_setTaken_18 : decode cX4_setTaken 18 = .ok (.iload_n 2, 1) := jo_28 (jw1 jdcX4_setTaken_0 18 rfl rfl)
theorem dX4_setTaken_19 : decode cX4_setTaken 19 = .ok (.bastore, 1) := jo_84 (jw1 jdcX4_setTaken_0 19 rfl rfl)
theorem dX4_setTaken_20 : decode cX4_setTaken 20 = .ok (.return_, 1) := jo_177 (jw1 jdcX4_setTaken_0 20 rfl rfl)
theorem jdcX5_init_0 : jwk (cX5_init.data.toList.drop 0) [42, 183, 0, 3, 42, 16, 6, 188, 10, 181, 0, 9, 42, 3, 181, 0, 15, 42, 27, 181, 0, 19, 42, 3, 28, 16, 6, 184, 0, 22] = true := by decide +kernel
theorem dX5_init_0 : decode cX5_init 0 = .ok (.aload_n 0, 1) := jo_42 (jw1 jdcX5_init_0 0 rfl rfl)
theorem dX5_init_1 : decode cX5_init 1 = .ok (.invokespecial 3, 3) := jo_183 (a := 0) (b := 3) (jw3 jdcX5_init_0 1 rfl rfl) rfl
theorem dX5_init_4 : decode cX5_init 4 = .ok (.aload_n 0, 1) := jo_42 (jw1 jdcX5_init_0 4 rfl rfl)
theorem dX5_init_5 : decode cX5_init 5 = .ok (.bipush 6, 2) := jo_16 (a := 6) (jw2 jdcX5_init_0 5 rfl rfl) rfl
theorem dX5_init_9 : decode cX5_init 9 = .ok (.putfield 9, 3) := jo_181 (a := 0) (b := 9) (jw3 jdcX5_init_0 9 rfl rfl) rfl
theorem dX5_init_12 : decode cX5_init 12 = .ok (.aload_n 0, 1) := jo_42 (jw1 jdcX5_init_0 12 rfl rfl)
theorem dX5_init_13 : decode cX5_init 13 = .ok (.iconst 0, 1) := jo_3 (jw1 jdcX5_init_0 13 rfl rfl)
theorem dX5_init_14 : decode cX5_init 14 = .ok (.putfield 15, 3) := jo_181 (a := 0) (b := 15) (jw3 jdcX5_init_0 14 rfl rfl) rfl
theorem dX5_init_17 : decode cX5_init 17 = .ok (.aload_n 0, 1) := jo_42 (jw1 jdcX5_init_0 17 rfl rfl)
theorem dX5_init_18 : decode cX5_init 18 = .ok (.iload_n 1, 1) := jo_27 (jw1 jdcX5_init_0 18 rfl rfl)
theorem dX5_init_19 : decode cX5_init 19 = .ok (.putfield 19, 3) := jo_181 (a := 0) (b := 19) (jw3 jdcX5_init_0 19 rfl rfl) rfl
theorem dX5_init_22 : decode cX5_init 22 = .ok (.aload_n 0, 1) := jo_42 (jw1 jdcX5_init_0 22 rfl rfl)
theorem dX5_init_23 : decode cX5_init 23 = .ok (.iconst 0, 1) := jo_3 (jw1 jdcX5_init_0 23 rfl rfl)
theorem dX5_init_24 : decode cX5_init 24 = .ok (.iload_n 2, 1) := jo_28 (jw1 jdcX5_init_0 24 rfl rfl)
theorem dX5_init_25 : decode cX5_init 25 = .ok (.bipush 6, 2) := jo_16 (a := 6) (jw2 jdcX5_init_0 25 rfl rfl) rfl
theorem dX5_init_27 : decode cX5_init 27 = .ok (.invokestatic 22, 3) := jo_184 (a := 0) (b := 22) (jw3 jdcX5_init_0 27 rfl rfl) rfl
theorem jdcX5_init_16 : jwk (cX5_init.data.toList.drop 30) [184, 0, 28, 181, 0, 31, 42, 27, 184, 0, 34, 181, 0, 40, 3, 29, 17, 39, 16, 184, 0, 22, 184, 0, 28, 54, 4, 42, 21, 4, 188, 8, 181, 0, 43, 42] = true := by decide +kernel
theorem dX5_init_30 : decode cX5_init 30 = .ok (.invokestatic 28, 3) := jo_184 (a := 0) (b := 28) (jw3 jdcX5_init_16 0 rfl rfl) rfl
theorem dX5_init_33 : decode cX5_init 33 = .ok (.putfield 31, 3) := jo_181 (a := 0) (b := 31) (jw3 jdcX5_init_16 3 rfl rfl) rfl
theorem dX5_init_36 : decode cX5_init 36 = .ok (.aload_n 0, 1) := jo_42 (jw1 jdcX5_init_16 6 rfl rfl)
theorem dX5_init_37 : decode cX5_init 37 = .ok (.iload_n 1, 1) := jo_27 (jw1 jdcX5_init_16 7 rfl rfl)
theorem dX5_init_38 : decode cX5_init 38 = .ok (.invokestatic 34, 3) := jo_184 (a := 0) (b := 34) (jw3 jdcX5_init_16 8 rfl rfl) rfl
theorem dX5_init_41 : decode cX5_init 41 = .ok (.putfield 40, 3) := jo_181 (a := 0) (b := 40) (jw3 jdcX5_init_16 11 rfl rfl) rfl
theorem dX5_init_44 : decode cX5_init 44 = .ok (.iconst 0, 1) := jo_3 (jw1 jdcX5_init_16 14 rfl rfl)
theorem dX5_init_45 : decode cX5_init 45 = .ok (.iload_n 3, 1) := jo_29 (jw1 jdcX5_init_16 15 rfl rfl)
theorem dX5_init_46 : decode cX5_init 46 = .ok (.sipush 10000, 3) := jo_17 (a := 39) (b := 16) (jw3 jdcX5_init_16 16 rfl rfl) rfl
theorem dX5_init_49 : decode cX5_init 49 = .ok (.invokestatic 22, 3) := jo_184 (a := 0) (b := 22) (jw3 jdcX5_init_16 19 rfl rfl) rfl
theorem dX5_init_52 : decode cX5_init 52 = .ok (.invokestatic 28, 3) := jo_184 (a := 0) (b := 28) (jw3 jdcX5_init_16 22 rfl rfl) rfl
theorem dX5_init_55 : decode cX5_init 55 = .ok (.istore 4, 2) := jo_54 (jw2 jdcX5_init_16 25 rfl rfl)
theorem dX5_init_57 : decode cX5_init 57 = .ok (.aload_n 0, 1) := jo_42 (jw1 jdcX5_init_16 27 rfl rfl)
theorem dX5_init_58 : decode cX5_init 58 = .ok (.iload 4, 2) := jo_21 (jw2 jdcX5_init_16 28 rfl rfl)
theorem dX5_init_62 : decode cX5_init 62 = .ok (.putfield 43, 3) := jo_181 (a := 0) (b := 43) (jw3 jdcX5_init_16 32 rfl rfl) rfl
theorem dX5_init_65 : decode cX5_init 65 = .ok (.aload_n 0, 1) := jo_42 (jw1 jdcX5_init_16 35 rfl rfl)
theorem jdcX5_init_32 : jwk (cX5_init.data.toList.drop 66) [21, 4, 188, 10, 181, 0, 47, 177] = true := by decide +kernel
theorem dX5_init_66 : decode cX5_init 66 = .ok (.iload 4, 2) := jo_21 (jw2 jdcX5_init_32 0 rfl rfl)
theorem dX5_init_70 : decode cX5_init 70 = .ok (.putfield 47, 3) := jo_181 (a := 0) (b := 47) (jw3 jdcX5_init_32 4 rfl rfl) rfl
theorem dX5_init_73 : decode cX5_init 73 = .ok (.return_, 1) := jo_177 (jw1 jdcX5_init_32 7 rfl rfl)
theorem jdcX5_countReached_0 : jwk (cX5_countReached.data.toList.drop 0) [43, 42, 180, 0, 19, 182, 0, 50, 42, 43, 3, 3, 184, 0, 56, 42, 3, 182, 0, 60, 3, 61, 28, 42] = true := by decide +kernel
theorem dX5_countReached_0 : decode cX5_countReached 0 = .ok (.aload_n 1, 1) := jo_43 (jw1 jdcX5_countReached_0 0 rfl rfl)
theorem dX5_countReached_1 : decode cX5_countReached 1 = .ok (.aload_n 0, 1) := jo_42 (jw1 jdcX5_countReached_0 1 rfl rfl)
theorem dX5_countReached_2 : decode cX5_countReached 2 = .ok (.getfield 19, 3) := jo_180 (a := 0) (b := 19) (jw3 jdcX5_countReached_0 2 rfl rfl) rfl
theorem dX5_countReached_5 : decode cX5_countReached 5 = .ok (.invokevirtual 50, 3) := jo_182 (a := 0) (b := 50) (jw3 jdcX5_countReached_0 5 rfl rfl) rfl
theorem dX5_countReached_8 : decode cX5_countReached 8 = .ok (.aload_n 0, 1) := jo_42 (jw1 jdcX5_countReached_0 8 rfl rfl)
theorem dX5_countReached_9 : decode cX5_countReached 9 = .ok (.aload_n 1, 1) := jo_43 (jw1 jdcX5_countReached_0 9 rfl rfl)
theorem dX5_countReached_10 : decode cX5_countReached 10 = .ok (.iconst 0, 1) := jo_3 (jw1 jdcX5_countReached_0 10 rfl rfl)
theorem dX5_countReached_11 : decode cX5_countReached 11 = .ok (.iconst 0, 1) := jo_3 (jw1 jdcX5_countReached_0 11 rfl rfl)
theorem dX5_countReached_12 : decode cX5_countReached 12 = .ok (.invokestatic 56, 3) := jo_184 (a := 0) (b := 56) (jw3 jdcX5_countReached_0 12 rfl rfl) rfl
theorem dX5_countReached_15 : decode cX5_countReached 15 = .ok (.aload_n 0, 1) := jo_42 (jw1 jdcX5_countReached_0 15 rfl rfl)
theorem dX5_countReached_16 : decode cX5_countReached 16 = .ok (.iconst 0, 1) := jo_3 (jw1 jdcX5_countReached_0 16 rfl rfl)
theorem dX5_countReached_17 : decode cX5_countReached 17 = .ok (.invokevirtual 60, 3) := jo_182 (a := 0) (b := 60) (jw3 jdcX5_countReached_0 17 rfl rfl) rfl
theorem dX5_countReached_20 : decode cX5_countReached 20 = .ok (.iconst 0, 1) := jo_3 (jw1 jdcX5_countReached_0 20 rfl rfl)
theorem dX5_countReached_21 : decode cX5_countReached 21 = .ok (.istore_n 2, 1) := jo_61 (jw1 jdcX5_countReached_0 21 rfl rfl)
theorem dX5_countReached_22 : decode cX5_countReached 22 = .ok (.iload_n 2, 1) := jo_28 (jw1 jdcX5_countReached_0 22 rfl rfl)
theorem dX5_countReached_23 : decode cX5_countReached 23 = .ok (.aload_n 0, 1) := jo_42 (jw1 jdcX5_countReached_0 23 rfl rfl)
theorem jdcX5_countReached_16 : jwk (cX5_countReached.data.toList.drop 24) [180, 0, 15, 162, 0, 76, 28, 42, 180, 0, 47, 190, 162, 0, 67, 42, 42, 180, 0, 47, 28, 46, 182, 0, 63, 3, 62, 29] = true := by decide +kernel
theorem dX5_countReached_24 : decode cX5_countReached 24 = .ok (.getfield 15, 3) := jo_180 (a := 0) (b := 15) (jw3 jdcX5_countReached_16 0 rfl rfl) rfl
theorem dX5_countReached_27 : decode cX5_countReached 27 = .ok (.if_icmp .ge 76, 3) := jo_162 (a := 0) (b := 76) (jw3 jdcX5_countReached_16 3 rfl rfl) rfl
theorem dX5_countReached_30 : decode cX5_countReached 30 = .ok (.iload_n 2, 1) := jo_28 (jw1 jdcX5_countReached_16 6 rfl rfl)
theorem dX5_countReached_31 : decode cX5_countReached 31 = .ok (.aload_n 0, 1) := jo_42 (jw1 jdcX5_countReached_16 7 rfl rfl)
theorem dX5_countReached_32 : decode cX5_countReached 32 = .ok (.getfield 47, 3) := jo_180 (a := 0) (b := 47) (jw3 jdcX5_countReached_16 8 rfl rfl) rfl
theorem dX5_countReached_35 : decode cX5_countReached 35 = .ok (.arraylength, 1) := jo_190 (jw1 jdcX5_countReached_16 11 rfl rfl)
theorem dX5_countReached_36 : decode cX5_countReached 36 = .ok (.if_icmp .ge 67, 3) := jo_162 (a := 0) (b := 67) (jw3 jdcX5_countReached_16 12 rfl rfl) rfl
theorem dX5_countReached_39 : decode cX5_countReached 39 = .ok (.aload_n 0, 1) := jo_42 (jw1 jdcX5_countReached_16 15 rfl rfl)
theorem dX5_countReached_40 : decode cX5_countReached 40 = .ok (.aload_n 0, 1) := jo_42 (jw1 jdcX5_countReached_16 16 rfl rfl)
theorem dX5_countReached_41 : decode cX5_countReached 41 = .ok (.getfield 47, 3) := jo_180 (a := 0) (b := 47) (jw3 jdcX5_countReached_16 17 rfl rfl) rfl
theorem dX5_countReached_44 : decode cX5_countReached 44 = .ok (.iload_n 2, 1) := jo_28 (jw1 jdcX5_countReached_16 20 rfl rfl)
theorem dX5_countReached_45 : decode cX5_countReached 45 = .ok (.iaload, 1) := jo_46 (jw1 jdcX5_countReached_16 21 rfl rfl)
theorem dX5_countReached_46 : decode cX5_countReached 46 = .ok (.invokevirtual 63, 3) := jo_182 (a := 0) (b := 63) (jw3 jdcX5_countReached_16 22 rfl rfl) rfl
theorem dX5_countReached_49 : decode cX5_countReached 49 = .ok (.iconst 0, 1) := jo_3 (jw1 jdcX5_countReached_16 25 rfl rfl)
theorem dX5_countReached_50 : decode cX5_countReached 50 = .ok (.istore_n 3, 1) := jo_62 (jw1 jdcX5_countReached_16 26 rfl rfl)
theorem dX5_countReached_51 : decode cX5_countReached 51 = .ok (.iload_n 3, 1) := jo_29 (jw1 jdcX5_countReached_16 27 rfl rfl)
theorem jdcX5_countReached_32 : jwk (cX5_countReached.data.toList.drop 52) [42, 180, 0, 31, 162, 0, 41, 3, 54, 4, 21, 4, 42, 180, 0, 19, 184, 0, 66, 162, 0, 20, 42, 42, 29, 21, 4, 182, 0, 69, 182, 0, 60] = true := by decide +kernel
theorem dX5_countReached_52 : decode cX5_countReached 52 = .ok (.aload_n 0, 1) := jo_42 (jw1 jdcX5_countReached_32 0 rfl rfl)
theorem dX5_countReached_53 : decode cX5_countReached 53 = .ok (.getfield 31, 3) := jo_180 (a := 0) (b := 31) (jw3 jdcX5_countReached_32 1 rfl rfl) rfl
theorem dX5_countReached_56 : decode cX5_countReached 56 = .ok (.if_icmp .ge 41, 3) := jo_162 (a := 0) (b := 41) (jw3 jdcX5_countReached_32 4 rfl rfl) rfl
theorem dX5_countReached_59 : decode cX5_countReached 59 = .ok (.iconst 0, 1) := jo_3 (jw1 jdcX5_countReached_32 7 rfl rfl)
theorem dX5_countReached_60 : decode cX5_countReached 60 = .ok (.istore 4, 2) := jo_54 (jw2 jdcX5_countReached_32 8 rfl rfl)
theorem dX5_countReached_62 : decode cX5_countReached 62 = .ok (.iload 4, 2) := jo_21 (jw2 jdcX5_countReached_32 10 rfl rfl)
theorem dX5_countReached_64 : decode cX5_countReached 64 = .ok (.aload_n 0, 1) := jo_42 (jw1 jdcX5_countReached_32 12 rfl rfl)
theorem dX5_countReached_65 : decode cX5_countReached 65 = .ok (.getfield 19, 3) := jo_180 (a := 0) (b := 19) (jw3 jdcX5_countReached_32 13 rfl rfl) rfl
theorem dX5_countReached_68 : decode cX5_countReached 68 = .ok (.invokestatic 66, 3) := jo_184 (a := 0) (b := 66) (jw3 jdcX5_countReached_32 16 rfl rfl) rfl
theorem dX5_countReached_71 : decode cX5_countReached 71 = .ok (.if_icmp .ge 20, 3) := jo_162 (a := 0) (b := 20) (jw3 jdcX5_countReached_32 19 rfl rfl) rfl
theorem dX5_countReached_74 : decode cX5_countReached 74 = .ok (.aload_n 0, 1) := jo_42 (jw1 jdcX5_countReached_32 22 rfl rfl)
theorem dX5_countReached_75 : decode cX5_countReached 75 = .ok (.aload_n 0, 1) := jo_42 (jw1 jdcX5_countReached_32 23 rfl rfl)
theorem dX5_countReached_76 : decode cX5_countReached 76 = .ok (.iload_n 3, 1) := jo_29 (jw1 jdcX5_countReached_32 24 rfl rfl)
theorem dX5_countReached_77 : decode cX5_countReached 77 = .ok (.iload 4, 2) := jo_21 (jw2 jdcX5_countReached_32 25 rfl rfl)
theorem dX5_countReached_79 : decode cX5_countReached 79 = .ok (.invokevirtual 69, 3) := jo_182 (a := 0) (b := 69) (jw3 jdcX5_countReached_32 27 rfl rfl) rfl
theorem dX5_countReached_82 : decode cX5_countReached 82 = .ok (.invokevirtual 60, 3) := jo_182 (a := 0) (b := 60) (jw3 jdcX5_countReached_32 30 rfl rfl) rfl
theorem jdcX5_countReached_48 : jwk (cX5_countReached.data.toList.drop 85) [132, 4, 1, 167, 255, 230, 132, 3, 1, 167, 255, 213, 132, 2, 1, 167, 255, 178, 42, 180, 0, 15, 172] = true := by decide +kernel
theorem dX5_countReached_85 : decode cX5_countReached 85 = .ok (.iinc 4 1, 3) := jo_132 (a := 4) (b := 1) (jw3 jdcX5_countReached_48 0 rfl rfl) rfl
theorem dX5_countReached_88 : decode cX5_countReached 88 = .ok (.goto (-26), 3) := jo_167 (a := 255) (b := 230) (jw3 jdcX5_countReached_48 3 rfl rfl) rfl
theorem dX5_countReached_91 : decode cX5_countReached 91 = .ok (.iinc 3 1, 3) := jo_132 (a := 3) (b := 1) (jw3 jdcX5_countReached_48 6 rfl rfl) rfl
theorem dX5_countReached_94 : decode cX5_countReached 94 = .ok (.goto (-43), 3) := jo_167 (a := 255) (b := 213) (jw3 jdcX5_countReached_48 9 rfl rfl) rfl
theorem dX5_countReached_97 : decode cX5_countReached 97 = .ok (.iinc 2 1, 3) := jo_132 (a := 2) (b := 1) (jw3 jdcX5_countReached_48 12 rfl rfl) rfl
theorem dX5_countReached_100 : decode cX5_countReached 100 = .ok (.goto (-78), 3) := jo_167 (a := 255) (b := 178) (jw3 jdcX5_countReached_48 15 rfl rfl) rfl
theorem dX5_countReached_103 : decode cX5_countReached 103 = .ok (.aload_n 0, 1) := jo_42 (jw1 jdcX5_countReached_48 18 rfl rfl)
theorem dX5_countReached_104 : decode cX5_countReached 104 = .ok (.getfield 15, 3) := jo_180 (a := 0) (b := 15) (jw3 jdcX5_countReached_48 19 rfl rfl) rfl
theorem dX5_countReached_107 : decode cX5_countReached 107 = .ok (.ireturn, 1) := jo_172 (jw1 jdcX5_countReached_48 22 rfl rfl)
theorem jdcX5_markWalks_0 : jwk (cX5_markWalks.data.toList.drop 0) [28, 42, 180, 0, 31, 162, 0, 9, 28, 16, 6, 161, 0, 24, 29, 155, 0, 19, 29, 42, 180, 0, 43, 190, 162, 0, 10, 42, 180, 0, 43] = true := by decide +kernel
theorem dX5_markWalks_0 : decode cX5_markWalks 0 = .ok (.iload_n 2, 1) := jo_28 (jw1 jdcX5_markWalks_0 0 rfl rfl)
theorem dX5_markWalks_1 : decode cX5_markWalks 1 = .ok (.aload_n 0, 1) := jo_42 (jw1 jdcX5_markWalks_0 1 rfl rfl)
theorem dX5_markWalks_2 : decode cX5_markWalks 2 = .ok (.getfield 31, 3) := jo_180 (a := 0) (b := 31) (jw3 jdcX5_markWalks_0 2 rfl rfl) rfl
theorem dX5_markWalks_5 : decode cX5_markWalks 5 = .ok (.if_icmp .ge 9, 3) := jo_162 (a := 0) (b := 9) (jw3 jdcX5_markWalks_0 5 rfl rfl) rfl
theorem dX5_markWalks_8 : decode cX5_markWalks 8 = .ok (.iload_n 2, 1) := jo_28 (jw1 jdcX5_markWalks_0 8 rfl rfl)
theorem dX5_markWalks_9 : decode cX5_markWalks 9 = .ok (.bipush 6, 2) := jo_16 (a := 6) (jw2 jdcX5_markWalks_0 9 rfl rfl) rfl
theorem dX5_markWalks_11 : decode cX5_markWalks 11 = .ok (.if_icmp .lt 24, 3) := jo_161 (a := 0) (b := 24) (jw3 jdcX5_markWalks_0 11 rfl rfl) rfl
theorem dX5_markWalks_14 : decode cX5_markWalks 14 = .ok (.iload_n 3, 1) := jo_29 (jw1 jdcX5_markWalks_0 14 rfl rfl)
theorem dX5_markWalks_15 : decode cX5_markWalks 15 = .ok (.ifCond .lt 19, 3) := jo_155 (a := 0) (b := 19) (jw3 jdcX5_markWalks_0 15 rfl rfl) rfl
theorem dX5_markWalks_18 : decode cX5_markWalks 18 = .ok (.iload_n 3, 1) := jo_29 (jw1 jdcX5_markWalks_0 18 rfl rfl)
theorem dX5_markWalks_19 : decode cX5_markWalks 19 = .ok (.aload_n 0, 1) := jo_42 (jw1 jdcX5_markWalks_0 19 rfl rfl)
theorem dX5_markWalks_20 : decode cX5_markWalks 20 = .ok (.getfield 43, 3) := jo_180 (a := 0) (b := 43) (jw3 jdcX5_markWalks_0 20 rfl rfl) rfl
theorem dX5_markWalks_23 : decode cX5_markWalks 23 = .ok (.arraylength, 1) := jo_190 (jw1 jdcX5_markWalks_0 23 rfl rfl)
theorem dX5_markWalks_24 : decode cX5_markWalks 24 = .ok (.if_icmp .ge 10, 3) := jo_162 (a := 0) (b := 10) (jw3 jdcX5_markWalks_0 24 rfl rfl) rfl
theorem dX5_markWalks_27 : decode cX5_markWalks 27 = .ok (.aload_n 0, 1) := jo_42 (jw1 jdcX5_markWalks_0 27 rfl rfl)
theorem dX5_markWalks_28 : decode cX5_markWalks 28 = .ok (.getfield 43, 3) := jo_180 (a := 0) (b := 43) (jw3 jdcX5_markWalks_0 28 rfl rfl) rfl
theorem jdcX5_markWalks_16 : jwk (cX5_markWalks.data.toList.drop 31) [29, 4, 84, 177, 3, 54, 4, 21, 4, 42, 180, 0, 40, 162, 0, 40, 43, 21, 4, 182, 0, 72, 153, 0, 25, 42, 43] = true := by decide +kernel
theorem dX5_markWalks_31 : decode cX5_markWalks 31 = .ok (.iload_n 3, 1) := jo_29 (jw1 jdcX5_markWalks_16 0 rfl rfl)
theorem dX5_markWalks_32 : decode cX5_markWalks 32 = .ok (.iconst 1, 1) := jo_4 (jw1 jdcX5_markWalks_16 1 rfl rfl)
theorem dX5_markWalks_33 : decode cX5_markWalks 33 = .ok (.bastore, 1) := jo_84 (jw1 jdcX5_markWalks_16 2 rfl rfl)
theorem dX5_markWalks_34 : decode cX5_markWalks 34 = .ok (.return_, 1) := jo_177 (jw1 jdcX5_markWalks_16 3 rfl rfl)
theorem dX5_markWalks_35 : decode cX5_markWalks 35 = .ok (.iconst 0, 1) := jo_3 (jw1 jdcX5_markWalks_16 4 rfl rfl)
theorem dX5_markWalks_36 : decode cX5_markWalks 36 = .ok (.istore 4, 2) := jo_54 (jw2 jdcX5_markWalks_16 5 rfl rfl)
theorem dX5_markWalks_38 : decode cX5_markWalks 38 = .ok (.iload 4, 2) := jo_21 (jw2 jdcX5_markWalks_16 7 rfl rfl)
theorem dX5_markWalks_40 : decode cX5_markWalks 40 = .ok (.aload_n 0, 1) := jo_42 (jw1 jdcX5_markWalks_16 9 rfl rfl)
theorem dX5_markWalks_41 : decode cX5_markWalks 41 = .ok (.getfield 40, 3) := jo_180 (a := 0) (b := 40) (jw3 jdcX5_markWalks_16 10 rfl rfl) rfl
theorem dX5_markWalks_44 : decode cX5_markWalks 44 = .ok (.if_icmp .ge 40, 3) := jo_162 (a := 0) (b := 40) (jw3 jdcX5_markWalks_16 13 rfl rfl) rfl
theorem dX5_markWalks_47 : decode cX5_markWalks 47 = .ok (.aload_n 1, 1) := jo_43 (jw1 jdcX5_markWalks_16 16 rfl rfl)
theorem dX5_markWalks_48 : decode cX5_markWalks 48 = .ok (.iload 4, 2) := jo_21 (jw2 jdcX5_markWalks_16 17 rfl rfl)
theorem dX5_markWalks_50 : decode cX5_markWalks 50 = .ok (.invokevirtual 72, 3) := jo_182 (a := 0) (b := 72) (jw3 jdcX5_markWalks_16 19 rfl rfl) rfl
theorem dX5_markWalks_53 : decode cX5_markWalks 53 = .ok (.ifCond .eq 25, 3) := jo_153 (a := 0) (b := 25) (jw3 jdcX5_markWalks_16 22 rfl rfl) rfl
theorem dX5_markWalks_56 : decode cX5_markWalks 56 = .ok (.aload_n 0, 1) := jo_42 (jw1 jdcX5_markWalks_16 25 rfl rfl)
theorem dX5_markWalks_57 : decode cX5_markWalks 57 = .ok (.aload_n 1, 1) := jo_43 (jw1 jdcX5_markWalks_16 26 rfl rfl)
theorem jdcX5_markWalks_32 : jwk (cX5_markWalks.data.toList.drop 58) [28, 4, 96, 29, 42, 180, 0, 40, 104, 21, 4, 96, 184, 0, 56, 43, 4, 182, 0, 76, 132, 4, 1, 167, 255, 213, 177] = true := by decide +kernel
theorem dX5_markWalks_58 : decode cX5_markWalks 58 = .ok (.iload_n 2, 1) := jo_28 (jw1 jdcX5_markWalks_32 0 rfl rfl)
theorem dX5_markWalks_59 : decode cX5_markWalks 59 = .ok (.iconst 1, 1) := jo_4 (jw1 jdcX5_markWalks_32 1 rfl rfl)
theorem dX5_markWalks_60 : decode cX5_markWalks 60 = .ok (.iadd, 1) := jo_96 (jw1 jdcX5_markWalks_32 2 rfl rfl)
theorem dX5_markWalks_61 : decode cX5_markWalks 61 = .ok (.iload_n 3, 1) := jo_29 (jw1 jdcX5_markWalks_32 3 rfl rfl)
theorem dX5_markWalks_62 : decode cX5_markWalks 62 = .ok (.aload_n 0, 1) := jo_42 (jw1 jdcX5_markWalks_32 4 rfl rfl)
theorem dX5_markWalks_63 : decode cX5_markWalks 63 = .ok (.getfield 40, 3) := jo_180 (a := 0) (b := 40) (jw3 jdcX5_markWalks_32 5 rfl rfl) rfl
theorem dX5_markWalks_66 : decode cX5_markWalks 66 = .ok (.imul, 1) := jo_104 (jw1 jdcX5_markWalks_32 8 rfl rfl)
theorem dX5_markWalks_67 : decode cX5_markWalks 67 = .ok (.iload 4, 2) := jo_21 (jw2 jdcX5_markWalks_32 9 rfl rfl)
theorem dX5_markWalks_69 : decode cX5_markWalks 69 = .ok (.iadd, 1) := jo_96 (jw1 jdcX5_markWalks_32 11 rfl rfl)
theorem dX5_markWalks_70 : decode cX5_markWalks 70 = .ok (.invokestatic 56, 3) := jo_184 (a := 0) (b := 56) (jw3 jdcX5_markWalks_32 12 rfl rfl) rfl
theorem dX5_markWalks_73 : decode cX5_markWalks 73 = .ok (.aload_n 1, 1) := jo_43 (jw1 jdcX5_markWalks_32 15 rfl rfl)
theorem dX5_markWalks_74 : decode cX5_markWalks 74 = .ok (.iconst 1, 1) := jo_4 (jw1 jdcX5_markWalks_32 16 rfl rfl)
theorem dX5_markWalks_75 : decode cX5_markWalks 75 = .ok (.invokevirtual 76, 3) := jo_182 (a := 0) (b := 76) (jw3 jdcX5_markWalks_32 17 rfl rfl) rfl
theorem dX5_markWalks_78 : decode cX5_markWalks 78 = .ok (.iinc 4 1, 3) := jo_132 (a := 4) (b := 1) (jw3 jdcX5_markWalks_32 20 rfl rfl) rfl
theorem dX5_markWalks_81 : decode cX5_markWalks 81 = .ok (.goto (-43), 3) := jo_167 (a := 255) (b := 213) (jw3 jdcX5_markWalks_32 23 rfl rfl) rfl
theorem dX5_markWalks_84 : decode cX5_markWalks 84 = .ok (.return_, 1) := jo_177 (jw1 jdcX5_markWalks_32 26 rfl rfl)
theorem jdcX5_arriveAt_0 : jwk (cX5_arriveAt.data.toList.drop 0) [27, 155, 0, 41, 27, 42, 180, 0, 43, 190, 162, 0, 32, 42, 180, 0, 43, 27, 51, 4, 160, 0, 22, 42, 180, 0, 15, 155, 0, 15] = true := by decide +kernel
theorem dX5_arriveAt_0 : decode cX5_arriveAt 0 = .ok (.iload_n 1, 1) := jo_27 (jw1 jdcX5_arriveAt_0 0 rfl rfl)
theorem dX5_arriveAt_1 : decode cX5_arriveAt 1 = .ok (.ifCond .lt 41, 3) := jo_155 (a := 0) (b := 41) (jw3 jdcX5_arriveAt_0 1 rfl rfl) rfl
theorem dX5_arriveAt_4 : decode cX5_arriveAt 4 = .ok (.iload_n 1, 1) := jo_27 (jw1 jdcX5_arriveAt_0 4 rfl rfl)
theorem dX5_arriveAt_5 : decode cX5_arriveAt 5 = .ok (.aload_n 0, 1) := jo_42 (jw1 jdcX5_arriveAt_0 5 rfl rfl)
theorem dX5_arriveAt_6 : decode cX5_arriveAt 6 = .ok (.getfield 43, 3) := jo_180 (a := 0) (b := 43) (jw3 jdcX5_arriveAt_0 6 rfl rfl) rfl
theorem dX5_arriveAt_9 : decode cX5_arriveAt 9 = .ok (.arraylength, 1) := jo_190 (jw1 jdcX5_arriveAt_0 9 rfl rfl)
theorem dX5_arriveAt_10 : decode cX5_arriveAt 10 = .ok (.if_icmp .ge 32, 3) := jo_162 (a := 0) (b := 32) (jw3 jdcX5_arriveAt_0 10 rfl rfl) rfl
theorem dX5_arriveAt_13 : decode cX5_arriveAt 13 = .ok (.aload_n 0, 1) := jo_42 (jw1 jdcX5_arriveAt_0 13 rfl rfl)
theorem dX5_arriveAt_14 : decode cX5_arriveAt 14 = .ok (.getfield 43, 3) := jo_180 (a := 0) (b := 43) (jw3 jdcX5_arriveAt_0 14 rfl rfl) rfl
theorem dX5_arriveAt_17 : decode cX5_arriveAt 17 = .ok (.iload_n 1, 1) := jo_27 (jw1 jdcX5_arriveAt_0 17 rfl rfl)
theorem dX5_arriveAt_18 : decode cX5_arriveAt 18 = .ok (.baload, 1) := jo_51 (jw1 jdcX5_arriveAt_0 18 rfl rfl)
theorem dX5_arriveAt_19 : decode cX5_arriveAt 19 = .ok (.iconst 1, 1) := jo_4 (jw1 jdcX5_arriveAt_0 19 rfl rfl)
theorem dX5_arriveAt_20 : decode cX5_arriveAt 20 = .ok (.if_icmp .ne 22, 3) := jo_160 (a := 0) (b := 22) (jw3 jdcX5_arriveAt_0 20 rfl rfl) rfl
theorem dX5_arriveAt_23 : decode cX5_arriveAt 23 = .ok (.aload_n 0, 1) := jo_42 (jw1 jdcX5_arriveAt_0 23 rfl rfl)
theorem dX5_arriveAt_24 : decode cX5_arriveAt 24 = .ok (.getfield 15, 3) := jo_180 (a := 0) (b := 15) (jw3 jdcX5_arriveAt_0 24 rfl rfl) rfl
theorem dX5_arriveAt_27 : decode cX5_arriveAt 27 = .ok (.ifCond .lt 15, 3) := jo_155 (a := 0) (b := 15) (jw3 jdcX5_arriveAt_0 27 rfl rfl) rfl
theorem jdcX5_arriveAt_16 : jwk (cX5_arriveAt.data.toList.drop 30) [42, 180, 0, 15, 42, 180, 0, 47, 190, 161, 0, 4, 177, 42, 180, 0, 43, 27, 5, 84, 42, 180, 0, 47, 42, 180, 0, 15] = true := by decide +kernel
theorem dX5_arriveAt_30 : decode cX5_arriveAt 30 = .ok (.aload_n 0, 1) := jo_42 (jw1 jdcX5_arriveAt_16 0 rfl rfl)
theorem dX5_arriveAt_31 : decode cX5_arriveAt 31 = .ok (.getfield 15, 3) := jo_180 (a := 0) (b := 15) (jw3 jdcX5_arriveAt_16 1 rfl rfl) rfl
theorem dX5_arriveAt_34 : decode cX5_arriveAt 34 = .ok (.aload_n 0, 1) := jo_42 (jw1 jdcX5_arriveAt_16 4 rfl rfl)
theorem dX5_arriveAt_35 : decode cX5_arriveAt 35 = .ok (.getfield 47, 3) := jo_180 (a := 0) (b := 47) (jw3 jdcX5_arriveAt_16 5 rfl rfl) rfl
theorem dX5_arriveAt_38 : decode cX5_arriveAt 38 = .ok (.arraylength, 1) := jo_190 (jw1 jdcX5_arriveAt_16 8 rfl rfl)
theorem dX5_arriveAt_39 : decode cX5_arriveAt 39 = .ok (.if_icmp .lt 4, 3) := jo_161 (a := 0) (b := 4) (jw3 jdcX5_arriveAt_16 9 rfl rfl) rfl
theorem dX5_arriveAt_42 : decode cX5_arriveAt 42 = .ok (.return_, 1) := jo_177 (jw1 jdcX5_arriveAt_16 12 rfl rfl)
theorem dX5_arriveAt_43 : decode cX5_arriveAt 43 = .ok (.aload_n 0, 1) := jo_42 (jw1 jdcX5_arriveAt_16 13 rfl rfl)
theorem dX5_arriveAt_44 : decode cX5_arriveAt 44 = .ok (.getfield 43, 3) := jo_180 (a := 0) (b := 43) (jw3 jdcX5_arriveAt_16 14 rfl rfl) rfl
theorem dX5_arriveAt_47 : decode cX5_arriveAt 47 = .ok (.iload_n 1, 1) := jo_27 (jw1 jdcX5_arriveAt_16 17 rfl rfl)
theorem dX5_arriveAt_48 : decode cX5_arriveAt 48 = .ok (.iconst 2, 1) := jo_5 (jw1 jdcX5_arriveAt_16 18 rfl rfl)
theorem dX5_arriveAt_49 : decode cX5_arriveAt 49 = .ok (.bastore, 1) := jo_84 (jw1 jdcX5_arriveAt_16 19 rfl rfl)
theorem dX5_arriveAt_50 : decode cX5_arriveAt 50 = .ok (.aload_n 0, 1) := jo_42 (jw1 jdcX5_arriveAt_16 20 rfl rfl)
theorem dX5_arriveAt_51 : decode cX5_arriveAt 51 = .ok (.getfield 47, 3) := jo_180 (a := 0) (b := 47) (jw3 jdcX5_arriveAt_16 21 rfl rfl) rfl
theorem dX5_arriveAt_54 : decode cX5_arriveAt 54 = .ok (.aload_n 0, 1) := jo_42 (jw1 jdcX5_arriveAt_16 24 rfl rfl)
theorem dX5_arriveAt_55 : decode cX5_arriveAt 55 = .ok (.getfield 15, 3) := jo_180 (a := 0) (b := 15) (jw3 jdcX5_arriveAt_16 25 rfl rfl) rfl
theorem jdcX5_arriveAt_32 : jwk (cX5_arriveAt.data.toList.drop 58) [27, 79, 42, 89, 180, 0, 15, 4, 96, 181, 0, 15, 177] = true := by decide +kernel
theorem dX5_arriveAt_58 : decode cX5_arriveAt 58 = .ok (.iload_n 1, 1) := jo_27 (jw1 jdcX5_arriveAt_32 0 rfl rfl)
theorem dX5_arriveAt_59 : decode cX5_arriveAt 59 = .ok (.iastore, 1) := jo_79 (jw1 jdcX5_arriveAt_32 1 rfl rfl)
theorem dX5_arriveAt_60 : decode cX5_arriveAt 60 = .ok (.aload_n 0, 1) := jo_42 (jw1 jdcX5_arriveAt_32 2 rfl rfl)
theorem dX5_arriveAt_61 : decode cX5_arriveAt 61 = .ok (.dup, 1) := jo_89 (jw1 jdcX5_arriveAt_32 3 rfl rfl)
theorem dX5_arriveAt_62 : decode cX5_arriveAt 62 = .ok (.getfield 15, 3) := jo_180 (a := 0) (b := 15) (jw3 jdcX5_arriveAt_32 4 rfl rfl) rfl
theorem dX5_arriveAt_65 : decode cX5_arriveAt 65 = .ok (.iconst 1, 1) := jo_4 (jw1 jdcX5_arriveAt_32 7 rfl rfl)
theorem dX5_arriveAt_66 : decode cX5_arriveAt 66 = .ok (.iadd, 1) := jo_96 (jw1 jdcX5_arriveAt_32 8 rfl rfl)
theorem dX5_arriveAt_67 : decode cX5_arriveAt 67 = .ok (.putfield 15, 3) := jo_181 (a := 0) (b := 15) (jw3 jdcX5_arriveAt_32 9 rfl rfl) rfl
theorem dX5_arriveAt_70 : decode cX5_arriveAt 70 = .ok (.return_, 1) := jo_177 (jw1 jdcX5_arriveAt_32 12 rfl rfl)
theorem jdcX5_takeApart_0 : jwk (cX5_takeApart.data.toList.drop 0) [42, 180, 0, 40, 4, 162, 0, 4, 177, 27, 61, 42, 180, 0, 31, 4, 100, 62, 29, 155, 0, 30, 42, 180, 0, 9] = true := by decide +kernel
theorem dX5_takeApart_0 : decode cX5_takeApart 0 = .ok (.aload_n 0, 1) := jo_42 (jw1 jdcX5_takeApart_0 0 rfl rfl)
theorem dX5_takeApart_1 : decode cX5_takeApart 1 = .ok (.getfield 40, 3) := jo_180 (a := 0) (b := 40) (jw3 jdcX5_takeApart_0 1 rfl rfl) rfl
theorem dX5_takeApart_4 : decode cX5_takeApart 4 = .ok (.iconst 1, 1) := jo_4 (jw1 jdcX5_takeApart_0 4 rfl rfl)
theorem dX5_takeApart_5 : decode cX5_takeApart 5 = .ok (.if_icmp .ge 4, 3) := jo_162 (a := 0) (b := 4) (jw3 jdcX5_takeApart_0 5 rfl rfl) rfl
theorem dX5_takeApart_8 : decode cX5_takeApart 8 = .ok (.return_, 1) := jo_177 (jw1 jdcX5_takeApart_0 8 rfl rfl)
theorem dX5_takeApart_9 : decode cX5_takeApart 9 = .ok (.iload_n 1, 1) := jo_27 (jw1 jdcX5_takeApart_0 9 rfl rfl)
theorem dX5_takeApart_10 : decode cX5_takeApart 10 = .ok (.istore_n 2, 1) := jo_61 (jw1 jdcX5_takeApart_0 10 rfl rfl)
theorem dX5_takeApart_11 : decode cX5_takeApart 11 = .ok (.aload_n 0, 1) := jo_42 (jw1 jdcX5_takeApart_0 11 rfl rfl)
theorem dX5_takeApart_12 : decode cX5_takeApart 12 = .ok (.getfield 31, 3) := jo_180 (a := 0) (b := 31) (jw3 jdcX5_takeApart_0 12 rfl rfl) rfl
theorem dX5_takeApart_15 : decode cX5_takeApart 15 = .ok (.iconst 1, 1) := jo_4 (jw1 jdcX5_takeApart_0 15 rfl rfl)
theorem dX5_takeApart_16 : decode cX5_takeApart 16 = .ok (.isub, 1) := jo_100 (jw1 jdcX5_takeApart_0 16 rfl rfl)
theorem dX5_takeApart_17 : decode cX5_takeApart 17 = .ok (.istore_n 3, 1) := jo_62 (jw1 jdcX5_takeApart_0 17 rfl rfl)
theorem dX5_takeApart_18 : decode cX5_takeApart 18 = .ok (.iload_n 3, 1) := jo_29 (jw1 jdcX5_takeApart_0 18 rfl rfl)
theorem dX5_takeApart_19 : decode cX5_takeApart 19 = .ok (.ifCond .lt 30, 3) := jo_155 (a := 0) (b := 30) (jw3 jdcX5_takeApart_0 19 rfl rfl) rfl
theorem dX5_takeApart_22 : decode cX5_takeApart 22 = .ok (.aload_n 0, 1) := jo_42 (jw1 jdcX5_takeApart_0 22 rfl rfl)
theorem dX5_takeApart_23 : decode cX5_takeApart 23 = .ok (.getfield 9, 3) := jo_180 (a := 0) (b := 9) (jw3 jdcX5_takeApart_0 23 rfl rfl) rfl
theorem jdcX5_takeApart_16 : jwk (cX5_takeApart.data.toList.drop 26) [29, 28, 42, 180, 0, 40, 112, 184, 0, 79, 28, 42, 180, 0, 40, 108, 61, 132, 3, 255, 167, 255, 228, 177] = true := by decide +kernel
theorem dX5_takeApart_26 : decode cX5_takeApart 26 = .ok (.iload_n 3, 1) := jo_29 (jw1 jdcX5_takeApart_16 0 rfl rfl)
theorem dX5_takeApart_27 : decode cX5_takeApart 27 = .ok (.iload_n 2, 1) := jo_28 (jw1 jdcX5_takeApart_16 1 rfl rfl)
theorem dX5_takeApart_28 : decode cX5_takeApart 28 = .ok (.aload_n 0, 1) := jo_42 (jw1 jdcX5_takeApart_16 2 rfl rfl)
theorem dX5_takeApart_29 : decode cX5_takeApart 29 = .ok (.getfield 40, 3) := jo_180 (a := 0) (b := 40) (jw3 jdcX5_takeApart_16 3 rfl rfl) rfl
theorem dX5_takeApart_32 : decode cX5_takeApart 32 = .ok (.irem, 1) := jo_112 (jw1 jdcX5_takeApart_16 6 rfl rfl)
theorem dX5_takeApart_33 : decode cX5_takeApart 33 = .ok (.invokestatic 79, 3) := jo_184 (a := 0) (b := 79) (jw3 jdcX5_takeApart_16 7 rfl rfl) rfl
theorem dX5_takeApart_36 : decode cX5_takeApart 36 = .ok (.iload_n 2, 1) := jo_28 (jw1 jdcX5_takeApart_16 10 rfl rfl)
theorem dX5_takeApart_37 : decode cX5_takeApart 37 = .ok (.aload_n 0, 1) := jo_42 (jw1 jdcX5_takeApart_16 11 rfl rfl)
theorem dX5_takeApart_38 : decode cX5_takeApart 38 = .ok (.getfield 40, 3) := jo_180 (a := 0) (b := 40) (jw3 jdcX5_takeApart_16 12 rfl rfl) rfl
theorem dX5_takeApart_41 : decode cX5_takeApart 41 = .ok (.idiv, 1) := jo_108 (jw1 jdcX5_takeApart_16 15 rfl rfl)
theorem dX5_takeApart_42 : decode cX5_takeApart 42 = .ok (.istore_n 2, 1) := jo_61 (jw1 jdcX5_takeApart_16 16 rfl rfl)
theorem dX5_takeApart_43 : decode cX5_takeApart 43 = .ok (.iinc 3 (-1), 3) := jo_132 (a := 3) (b := 255) (jw3 jdcX5_takeApart_16 17 rfl rfl) rfl
theorem dX5_takeApart_46 : decode cX5_takeApart 46 = .ok (.goto (-28), 3) := jo_167 (a := 255) (b := 228) (jw3 jdcX5_takeApart_16 20 rfl rfl) rfl
theorem dX5_takeApart_49 : decode cX5_takeApart 49 = .ok (.return_, 1) := jo_177 (jw1 jdcX5_takeApart_16 23 rfl rfl)
theorem jdcX5_numberTurned_0 : jwk (cX5_numberTurned.data.toList.drop 0) [3, 62, 3, 54, 4, 21, 4, 42, 180, 0, 31, 162, 0, 49, 42, 180, 0, 9, 21, 4, 184, 0, 83, 54, 5, 29, 42, 180, 0, 40] = true := by decide +kernel
theorem dX5_numberTurned_0 : decode cX5_numberTurned 0 = .ok (.iconst 0, 1) := jo_3 (jw1 jdcX5_numberTurned_0 0 rfl rfl)
theorem dX5_numberTurned_1 : decode cX5_numberTurned 1 = .ok (.istore_n 3, 1) := jo_62 (jw1 jdcX5_numberTurned_0 1 rfl rfl)
theorem dX5_numberTurned_2 : decode cX5_numberTurned 2 = .ok (.iconst 0, 1) := jo_3 (jw1 jdcX5_numberTurned_0 2 rfl rfl)
theorem dX5_numberTurned_3 : decode cX5_numberTurned 3 = .ok (.istore 4, 2) := jo_54 (jw2 jdcX5_numberTurned_0 3 rfl rfl)
theorem dX5_numberTurned_5 : decode cX5_numberTurned 5 = .ok (.iload 4, 2) := jo_21 (jw2 jdcX5_numberTurned_0 5 rfl rfl)
theorem dX5_numberTurned_7 : decode cX5_numberTurned 7 = .ok (.aload_n 0, 1) := jo_42 (jw1 jdcX5_numberTurned_0 7 rfl rfl)
theorem dX5_numberTurned_8 : decode cX5_numberTurned 8 = .ok (.getfield 31, 3) := jo_180 (a := 0) (b := 31) (jw3 jdcX5_numberTurned_0 8 rfl rfl) rfl
theorem dX5_numberTurned_11 : decode cX5_numberTurned 11 = .ok (.if_icmp .ge 49, 3) := jo_162 (a := 0) (b := 49) (jw3 jdcX5_numberTurned_0 11 rfl rfl) rfl
theorem dX5_numberTurned_14 : decode cX5_numberTurned 14 = .ok (.aload_n 0, 1) := jo_42 (jw1 jdcX5_numberTurned_0 14 rfl rfl)
theorem dX5_numberTurned_15 : decode cX5_numberTurned 15 = .ok (.getfield 9, 3) := jo_180 (a := 0) (b := 9) (jw3 jdcX5_numberTurned_0 15 rfl rfl) rfl
theorem dX5_numberTurned_18 : decode cX5_numberTurned 18 = .ok (.iload 4, 2) := jo_21 (jw2 jdcX5_numberTurned_0 18 rfl rfl)
theorem dX5_numberTurned_20 : decode cX5_numberTurned 20 = .ok (.invokestatic 83, 3) := jo_184 (a := 0) (b := 83) (jw3 jdcX5_numberTurned_0 20 rfl rfl) rfl
theorem dX5_numberTurned_23 : decode cX5_numberTurned 23 = .ok (.istore 5, 2) := jo_54 (jw2 jdcX5_numberTurned_0 23 rfl rfl)
theorem dX5_numberTurned_25 : decode cX5_numberTurned 25 = .ok (.iload_n 3, 1) := jo_29 (jw1 jdcX5_numberTurned_0 25 rfl rfl)
theorem dX5_numberTurned_26 : decode cX5_numberTurned 26 = .ok (.aload_n 0, 1) := jo_42 (jw1 jdcX5_numberTurned_0 26 rfl rfl)
theorem dX5_numberTurned_27 : decode cX5_numberTurned 27 = .ok (.getfield 40, 3) := jo_180 (a := 0) (b := 40) (jw3 jdcX5_numberTurned_0 27 rfl rfl) rfl
theorem jdcX5_numberTurned_16 : jwk (cX5_numberTurned.data.toList.drop 30) [104, 21, 4, 27, 162, 0, 8, 21, 5, 167, 0, 13, 42, 180, 0, 19, 28, 21, 5, 184, 0, 87, 96, 62, 132, 4, 1, 167, 255, 204, 29] = true := by decide +kernel
theorem dX5_numberTurned_30 : decode cX5_numberTurned 30 = .ok (.imul, 1) := jo_104 (jw1 jdcX5_numberTurned_16 0 rfl rfl)
theorem dX5_numberTurned_31 : decode cX5_numberTurned 31 = .ok (.iload 4, 2) := jo_21 (jw2 jdcX5_numberTurned_16 1 rfl rfl)
theorem dX5_numberTurned_33 : decode cX5_numberTurned 33 = .ok (.iload_n 1, 1) := jo_27 (jw1 jdcX5_numberTurned_16 3 rfl rfl)
theorem dX5_numberTurned_34 : decode cX5_numberTurned 34 = .ok (.if_icmp .ge 8, 3) := jo_162 (a := 0) (b := 8) (jw3 jdcX5_numberTurned_16 4 rfl rfl) rfl
theorem dX5_numberTurned_37 : decode cX5_numberTurned 37 = .ok (.iload 5, 2) := jo_21 (jw2 jdcX5_numberTurned_16 7 rfl rfl)
theorem dX5_numberTurned_39 : decode cX5_numberTurned 39 = .ok (.goto 13, 3) := jo_167 (a := 0) (b := 13) (jw3 jdcX5_numberTurned_16 9 rfl rfl) rfl
theorem dX5_numberTurned_42 : decode cX5_numberTurned 42 = .ok (.aload_n 0, 1) := jo_42 (jw1 jdcX5_numberTurned_16 12 rfl rfl)
theorem dX5_numberTurned_43 : decode cX5_numberTurned 43 = .ok (.getfield 19, 3) := jo_180 (a := 0) (b := 19) (jw3 jdcX5_numberTurned_16 13 rfl rfl) rfl
theorem dX5_numberTurned_46 : decode cX5_numberTurned 46 = .ok (.iload_n 2, 1) := jo_28 (jw1 jdcX5_numberTurned_16 16 rfl rfl)
theorem dX5_numberTurned_47 : decode cX5_numberTurned 47 = .ok (.iload 5, 2) := jo_21 (jw2 jdcX5_numberTurned_16 17 rfl rfl)
theorem dX5_numberTurned_49 : decode cX5_numberTurned 49 = .ok (.invokestatic 87, 3) := jo_184 (a := 0) (b := 87) (jw3 jdcX5_numberTurned_16 19 rfl rfl) rfl
theorem dX5_numberTurned_52 : decode cX5_numberTurned 52 = .ok (.iadd, 1) := jo_96 (jw1 jdcX5_numberTurned_16 22 rfl rfl)
theorem dX5_numberTurned_53 : decode cX5_numberTurned 53 = .ok (.istore_n 3, 1) := jo_62 (jw1 jdcX5_numberTurned_16 23 rfl rfl)
theorem dX5_numberTurned_54 : decode cX5_numberTurned 54 = .ok (.iinc 4 1, 3) := jo_132 (a := 4) (b := 1) (jw3 jdcX5_numberTurned_16 24 rfl rfl) rfl
theorem dX5_numberTurned_57 : decode cX5_numberTurned 57 = .ok (.goto (-52), 3) := jo_167 (a := 255) (b := 204) (jw3 jdcX5_numberTurned_16 27 rfl rfl) rfl
theorem dX5_numberTurned_60 : decode cX5_numberTurned 60 = .ok (.iload_n 3, 1) := jo_29 (jw1 jdcX5_numberTurned_16 30 rfl rfl)
theorem jdcX5_numberTurned_32 : jwk (cX5_numberTurned.data.toList.drop 61) [172] = true := by decide +kernel
theorem dX5_numberTurned_61 : decode cX5_numberTurned 61 = .ok (.ireturn, 1) := jo_172 (jw1 jdcX5_numberTurned_32 0 rfl rfl)
theorem jdcX6_init_0 : jwk (cX6_init.data.toList.drop 0) [42, 183, 0, 1, 42, 16, 16, 189, 0, 9, 181, 0, 11, 42, 3, 181, 0, 15, 42, 187, 0, 9, 89, 16, 120, 183, 0, 19, 181, 0, 22, 42] = true := by decide +kernel
theorem dX6_init_0 : decode cX6_init 0 = .ok (.aload_n 0, 1) := jo_42 (jw1 jdcX6_init_0 0 rfl rfl)
theorem dX6_init_1 : decode cX6_init 1 = .ok (.invokespecial 1, 3) := jo_183 (a := 0) (b := 1) (jw3 jdcX6_init_0 1 rfl rfl) rfl
theorem dX6_init_4 : decode cX6_init 4 = .ok (.aload_n 0, 1) := jo_42 (jw1 jdcX6_init_0 4 rfl rfl)
theorem dX6_init_5 : decode cX6_init 5 = .ok (.bipush 16, 2) := jo_16 (a := 16) (jw2 jdcX6_init_0 5 rfl rfl) rfl
theorem dX6_init_7 : decode cX6_init 7 = .ok (.anewarray 9, 3) := jo_189 (a := 0) (b := 9) (jw3 jdcX6_init_0 7 rfl rfl) rfl
theorem dX6_init_10 : decode cX6_init 10 = .ok (.putfield 11, 3) := jo_181 (a := 0) (b := 11) (jw3 jdcX6_init_0 10 rfl rfl) rfl
theorem dX6_init_13 : decode cX6_init 13 = .ok (.aload_n 0, 1) := jo_42 (jw1 jdcX6_init_0 13 rfl rfl)
theorem dX6_init_14 : decode cX6_init 14 = .ok (.iconst 0, 1) := jo_3 (jw1 jdcX6_init_0 14 rfl rfl)
theorem dX6_init_15 : decode cX6_init 15 = .ok (.putfield 15, 3) := jo_181 (a := 0) (b := 15) (jw3 jdcX6_init_0 15 rfl rfl) rfl
theorem dX6_init_18 : decode cX6_init 18 = .ok (.aload_n 0, 1) := jo_42 (jw1 jdcX6_init_0 18 rfl rfl)
theorem dX6_init_19 : decode cX6_init 19 = .ok (.new 9, 3) := jo_187 (a := 0) (b := 9) (jw3 jdcX6_init_0 19 rfl rfl) rfl
theorem dX6_init_22 : decode cX6_init 22 = .ok (.dup, 1) := jo_89 (jw1 jdcX6_init_0 22 rfl rfl)
theorem dX6_init_23 : decode cX6_init 23 = .ok (.bipush 120, 2) := jo_16 (a := 120) (jw2 jdcX6_init_0 23 rfl rfl) rfl
theorem dX6_init_25 : decode cX6_init 25 = .ok (.invokespecial 19, 3) := jo_183 (a := 0) (b := 19) (jw3 jdcX6_init_0 25 rfl rfl) rfl
theorem dX6_init_28 : decode cX6_init 28 = .ok (.putfield 22, 3) := jo_181 (a := 0) (b := 22) (jw3 jdcX6_init_0 28 rfl rfl) rfl
theorem dX6_init_31 : decode cX6_init 31 = .ok (.aload_n 0, 1) := jo_42 (jw1 jdcX6_init_0 31 rfl rfl)
theorem jdcX6_init_16 : jwk (cX6_init.data.toList.drop 32) [16, 60, 188, 10, 181, 0, 26, 42, 16, 60, 188, 10, 181, 0, 30, 42, 7, 189, 0, 33, 181, 0, 35, 42, 187, 0, 39, 89, 183, 0, 41, 181, 0, 42, 177] = true := by decide +kernel
theorem dX6_init_32 : decode cX6_init 32 = .ok (.bipush 60, 2) := jo_16 (a := 60) (jw2 jdcX6_init_16 0 rfl rfl) rfl
theorem dX6_init_36 : decode cX6_init 36 = .ok (.putfield 26, 3) := jo_181 (a := 0) (b := 26) (jw3 jdcX6_init_16 4 rfl rfl) rfl
theorem dX6_init_39 : decode cX6_init 39 = .ok (.aload_n 0, 1) := jo_42 (jw1 jdcX6_init_16 7 rfl rfl)
theorem dX6_init_40 : decode cX6_init 40 = .ok (.bipush 60, 2) := jo_16 (a := 60) (jw2 jdcX6_init_16 8 rfl rfl) rfl
theorem dX6_init_44 : decode cX6_init 44 = .ok (.putfield 30, 3) := jo_181 (a := 0) (b := 30) (jw3 jdcX6_init_16 12 rfl rfl) rfl
theorem dX6_init_47 : decode cX6_init 47 = .ok (.aload_n 0, 1) := jo_42 (jw1 jdcX6_init_16 15 rfl rfl)
theorem dX6_init_48 : decode cX6_init 48 = .ok (.iconst 4, 1) := jo_7 (jw1 jdcX6_init_16 16 rfl rfl)
theorem dX6_init_49 : decode cX6_init 49 = .ok (.anewarray 33, 3) := jo_189 (a := 0) (b := 33) (jw3 jdcX6_init_16 17 rfl rfl) rfl
theorem dX6_init_52 : decode cX6_init 52 = .ok (.putfield 35, 3) := jo_181 (a := 0) (b := 35) (jw3 jdcX6_init_16 20 rfl rfl) rfl
theorem dX6_init_55 : decode cX6_init 55 = .ok (.aload_n 0, 1) := jo_42 (jw1 jdcX6_init_16 23 rfl rfl)
theorem dX6_init_56 : decode cX6_init 56 = .ok (.new 39, 3) := jo_187 (a := 0) (b := 39) (jw3 jdcX6_init_16 24 rfl rfl) rfl
theorem dX6_init_59 : decode cX6_init 59 = .ok (.dup, 1) := jo_89 (jw1 jdcX6_init_16 27 rfl rfl)
theorem dX6_init_60 : decode cX6_init 60 = .ok (.invokespecial 41, 3) := jo_183 (a := 0) (b := 41) (jw3 jdcX6_init_16 28 rfl rfl) rfl
theorem dX6_init_63 : decode cX6_init 63 = .ok (.putfield 42, 3) := jo_181 (a := 0) (b := 42) (jw3 jdcX6_init_16 31 rfl rfl) rfl
theorem dX6_init_66 : decode cX6_init 66 = .ok (.return_, 1) := jo_177 (jw1 jdcX6_init_16 34 rfl rfl)
theorem jdcX6_walk_0 : jwk (cX6_walk.data.toList.drop 0) [27, 184, 0, 46, 154, 0, 6, 16, 254, 172, 42, 180, 0, 15, 155, 0, 15, 42, 180, 0, 15, 42, 180, 0, 11, 190, 161, 0, 6, 16, 252, 172] = true := by decide +kernel
theorem dX6_walk_0 : decode cX6_walk 0 = .ok (.iload_n 1, 1) := jo_27 (jw1 jdcX6_walk_0 0 rfl rfl)
theorem dX6_walk_1 : decode cX6_walk 1 = .ok (.invokestatic 46, 3) := jo_184 (a := 0) (b := 46) (jw3 jdcX6_walk_0 1 rfl rfl) rfl
theorem dX6_walk_4 : decode cX6_walk 4 = .ok (.ifCond .ne 6, 3) := jo_154 (a := 0) (b := 6) (jw3 jdcX6_walk_0 4 rfl rfl) rfl
theorem dX6_walk_7 : decode cX6_walk 7 = .ok (.bipush (-2), 2) := jo_16 (a := 254) (jw2 jdcX6_walk_0 7 rfl rfl) rfl
theorem dX6_walk_9 : decode cX6_walk 9 = .ok (.ireturn, 1) := jo_172 (jw1 jdcX6_walk_0 9 rfl rfl)
theorem dX6_walk_10 : decode cX6_walk 10 = .ok (.aload_n 0, 1) := jo_42 (jw1 jdcX6_walk_0 10 rfl rfl)
theorem dX6_walk_11 : decode cX6_walk 11 = .ok (.getfield 15, 3) := jo_180 (a := 0) (b := 15) (jw3 jdcX6_walk_0 11 rfl rfl) rfl
theorem dX6_walk_14 : decode cX6_walk 14 = .ok (.ifCond .lt 15, 3) := jo_155 (a := 0) (b := 15) (jw3 jdcX6_walk_0 14 rfl rfl) rfl
theorem dX6_walk_17 : decode cX6_walk 17 = .ok (.aload_n 0, 1) := jo_42 (jw1 jdcX6_walk_0 17 rfl rfl)
theorem dX6_walk_18 : decode cX6_walk 18 = .ok (.getfield 15, 3) := jo_180 (a := 0) (b := 15) (jw3 jdcX6_walk_0 18 rfl rfl) rfl
theorem dX6_walk_21 : decode cX6_walk 21 = .ok (.aload_n 0, 1) := jo_42 (jw1 jdcX6_walk_0 21 rfl rfl)
theorem dX6_walk_22 : decode cX6_walk 22 = .ok (.getfield 11, 3) := jo_180 (a := 0) (b := 11) (jw3 jdcX6_walk_0 22 rfl rfl) rfl
theorem dX6_walk_25 : decode cX6_walk 25 = .ok (.arraylength, 1) := jo_190 (jw1 jdcX6_walk_0 25 rfl rfl)
theorem dX6_walk_26 : decode cX6_walk 26 = .ok (.if_icmp .lt 6, 3) := jo_161 (a := 0) (b := 6) (jw3 jdcX6_walk_0 26 rfl rfl) rfl
theorem dX6_walk_29 : decode cX6_walk 29 = .ok (.bipush (-4), 2) := jo_16 (a := 252) (jw2 jdcX6_walk_0 29 rfl rfl) rfl
theorem dX6_walk_31 : decode cX6_walk 31 = .ok (.ireturn, 1) := jo_172 (jw1 jdcX6_walk_0 31 rfl rfl)
theorem jdcX6_walk_16 : jwk (cX6_walk.data.toList.drop 32) [187, 0, 9, 89, 16, 60, 183, 0, 19, 77, 44, 27, 182, 0, 52, 42, 180, 0, 11, 42, 180, 0, 15, 44, 83, 42, 89] = true := by decide +kernel
theorem dX6_walk_32 : decode cX6_walk 32 = .ok (.new 9, 3) := jo_187 (a := 0) (b := 9) (jw3 jdcX6_walk_16 0 rfl rfl) rfl
theorem dX6_walk_35 : decode cX6_walk 35 = .ok (.dup, 1) := jo_89 (jw1 jdcX6_walk_16 3 rfl rfl)
theorem dX6_walk_36 : decode cX6_walk 36 = .ok (.bipush 60, 2) := jo_16 (a := 60) (jw2 jdcX6_walk_16 4 rfl rfl) rfl
theorem dX6_walk_38 : decode cX6_walk 38 = .ok (.invokespecial 19, 3) := jo_183 (a := 0) (b := 19) (jw3 jdcX6_walk_16 6 rfl rfl) rfl
theorem dX6_walk_41 : decode cX6_walk 41 = .ok (.astore_n 2, 1) := jo_77 (jw1 jdcX6_walk_16 9 rfl rfl)
theorem dX6_walk_42 : decode cX6_walk 42 = .ok (.aload_n 2, 1) := jo_44 (jw1 jdcX6_walk_16 10 rfl rfl)
theorem dX6_walk_43 : decode cX6_walk 43 = .ok (.iload_n 1, 1) := jo_27 (jw1 jdcX6_walk_16 11 rfl rfl)
theorem dX6_walk_44 : decode cX6_walk 44 = .ok (.invokevirtual 52, 3) := jo_182 (a := 0) (b := 52) (jw3 jdcX6_walk_16 12 rfl rfl) rfl
theorem dX6_walk_47 : decode cX6_walk 47 = .ok (.aload_n 0, 1) := jo_42 (jw1 jdcX6_walk_16 15 rfl rfl)
theorem dX6_walk_48 : decode cX6_walk 48 = .ok (.getfield 11, 3) := jo_180 (a := 0) (b := 11) (jw3 jdcX6_walk_16 16 rfl rfl) rfl
theorem dX6_walk_51 : decode cX6_walk 51 = .ok (.aload_n 0, 1) := jo_42 (jw1 jdcX6_walk_16 19 rfl rfl)
theorem dX6_walk_52 : decode cX6_walk 52 = .ok (.getfield 15, 3) := jo_180 (a := 0) (b := 15) (jw3 jdcX6_walk_16 20 rfl rfl) rfl
theorem dX6_walk_55 : decode cX6_walk 55 = .ok (.aload_n 2, 1) := jo_44 (jw1 jdcX6_walk_16 23 rfl rfl)
theorem dX6_walk_56 : decode cX6_walk 56 = .ok (.aastore, 1) := jo_83 (jw1 jdcX6_walk_16 24 rfl rfl)
theorem dX6_walk_57 : decode cX6_walk 57 = .ok (.aload_n 0, 1) := jo_42 (jw1 jdcX6_walk_16 25 rfl rfl)
theorem dX6_walk_58 : decode cX6_walk 58 = .ok (.dup, 1) := jo_89 (jw1 jdcX6_walk_16 26 rfl rfl)
theorem jdcX6_walk_32 : jwk (cX6_walk.data.toList.drop 59) [180, 0, 15, 4, 96, 181, 0, 15, 42, 180, 0, 15, 4, 100, 172] = true := by decide +kernel
theorem dX6_walk_59 : decode cX6_walk 59 = .ok (.getfield 15, 3) := jo_180 (a := 0) (b := 15) (jw3 jdcX6_walk_32 0 rfl rfl) rfl
theorem dX6_walk_62 : decode cX6_walk 62 = .ok (.iconst 1, 1) := jo_4 (jw1 jdcX6_walk_32 3 rfl rfl)
theorem dX6_walk_63 : decode cX6_walk 63 = .ok (.iadd, 1) := jo_96 (jw1 jdcX6_walk_32 4 rfl rfl)
theorem dX6_walk_64 : decode cX6_walk 64 = .ok (.putfield 15, 3) := jo_181 (a := 0) (b := 15) (jw3 jdcX6_walk_32 5 rfl rfl) rfl
theorem dX6_walk_67 : decode cX6_walk 67 = .ok (.aload_n 0, 1) := jo_42 (jw1 jdcX6_walk_32 8 rfl rfl)
theorem dX6_walk_68 : decode cX6_walk 68 = .ok (.getfield 15, 3) := jo_180 (a := 0) (b := 15) (jw3 jdcX6_walk_32 9 rfl rfl) rfl
theorem dX6_walk_71 : decode cX6_walk 71 = .ok (.iconst 1, 1) := jo_4 (jw1 jdcX6_walk_32 12 rfl rfl)
theorem dX6_walk_72 : decode cX6_walk 72 = .ok (.isub, 1) := jo_100 (jw1 jdcX6_walk_32 13 rfl rfl)
theorem dX6_walk_73 : decode cX6_walk 73 = .ok (.ireturn, 1) := jo_172 (jw1 jdcX6_walk_32 14 rfl rfl)
theorem jdcX6_step_0 : jwk (cX6_step.data.toList.drop 0) [42, 27, 182, 0, 55, 78, 45, 198, 0, 14, 45, 180, 0, 59, 28, 184, 0, 62, 154, 0, 6, 16, 254, 172, 45, 28, 182, 0, 66] = true := by decide +kernel
theorem dX6_step_0 : decode cX6_step 0 = .ok (.aload_n 0, 1) := jo_42 (jw1 jdcX6_step_0 0 rfl rfl)
theorem dX6_step_1 : decode cX6_step 1 = .ok (.iload_n 1, 1) := jo_27 (jw1 jdcX6_step_0 1 rfl rfl)
theorem dX6_step_2 : decode cX6_step 2 = .ok (.invokevirtual 55, 3) := jo_182 (a := 0) (b := 55) (jw3 jdcX6_step_0 2 rfl rfl) rfl
theorem dX6_step_5 : decode cX6_step 5 = .ok (.astore_n 3, 1) := jo_78 (jw1 jdcX6_step_0 5 rfl rfl)
theorem dX6_step_6 : decode cX6_step 6 = .ok (.aload_n 3, 1) := jo_45 (jw1 jdcX6_step_0 6 rfl rfl)
theorem dX6_step_7 : decode cX6_step 7 = .ok (.ifnull 14, 3) := jo_198 (a := 0) (b := 14) (jw3 jdcX6_step_0 7 rfl rfl) rfl
theorem dX6_step_10 : decode cX6_step 10 = .ok (.aload_n 3, 1) := jo_45 (jw1 jdcX6_step_0 10 rfl rfl)
theorem dX6_step_11 : decode cX6_step 11 = .ok (.getfield 59, 3) := jo_180 (a := 0) (b := 59) (jw3 jdcX6_step_0 11 rfl rfl) rfl
theorem dX6_step_14 : decode cX6_step 14 = .ok (.iload_n 2, 1) := jo_28 (jw1 jdcX6_step_0 14 rfl rfl)
theorem dX6_step_15 : decode cX6_step 15 = .ok (.invokestatic 62, 3) := jo_184 (a := 0) (b := 62) (jw3 jdcX6_step_0 15 rfl rfl) rfl
theorem dX6_step_18 : decode cX6_step 18 = .ok (.ifCond .ne 6, 3) := jo_154 (a := 0) (b := 6) (jw3 jdcX6_step_0 18 rfl rfl) rfl
theorem dX6_step_21 : decode cX6_step 21 = .ok (.bipush (-2), 2) := jo_16 (a := 254) (jw2 jdcX6_step_0 21 rfl rfl) rfl
theorem dX6_step_23 : decode cX6_step 23 = .ok (.ireturn, 1) := jo_172 (jw1 jdcX6_step_0 23 rfl rfl)
theorem dX6_step_24 : decode cX6_step 24 = .ok (.aload_n 3, 1) := jo_45 (jw1 jdcX6_step_0 24 rfl rfl)
theorem dX6_step_25 : decode cX6_step 25 = .ok (.iload_n 2, 1) := jo_28 (jw1 jdcX6_step_0 25 rfl rfl)
theorem dX6_step_26 : decode cX6_step 26 = .ok (.invokevirtual 66, 3) := jo_182 (a := 0) (b := 66) (jw3 jdcX6_step_0 26 rfl rfl) rfl
theorem jdcX6_step_16 : jwk (cX6_step.data.toList.drop 29) [154, 0, 6, 16, 253, 172, 45, 180, 0, 69, 16, 60, 161, 0, 6, 16, 252, 172, 45, 28, 182, 0, 72, 87, 45, 180, 0, 69, 172] = true := by decide +kernel
theorem dX6_step_29 : decode cX6_step 29 = .ok (.ifCond .ne 6, 3) := jo_154 (a := 0) (b := 6) (jw3 jdcX6_step_16 0 rfl rfl) rfl
theorem dX6_step_32 : decode cX6_step 32 = .ok (.bipush (-3), 2) := jo_16 (a := 253) (jw2 jdcX6_step_16 3 rfl rfl) rfl
theorem dX6_step_34 : decode cX6_step 34 = .ok (.ireturn, 1) := jo_172 (jw1 jdcX6_step_16 5 rfl rfl)
theorem dX6_step_35 : decode cX6_step 35 = .ok (.aload_n 3, 1) := jo_45 (jw1 jdcX6_step_16 6 rfl rfl)
theorem dX6_step_36 : decode cX6_step 36 = .ok (.getfield 69, 3) := jo_180 (a := 0) (b := 69) (jw3 jdcX6_step_16 7 rfl rfl) rfl
theorem dX6_step_39 : decode cX6_step 39 = .ok (.bipush 60, 2) := jo_16 (a := 60) (jw2 jdcX6_step_16 10 rfl rfl) rfl
theorem dX6_step_41 : decode cX6_step 41 = .ok (.if_icmp .lt 6, 3) := jo_161 (a := 0) (b := 6) (jw3 jdcX6_step_16 12 rfl rfl) rfl
theorem dX6_step_44 : decode cX6_step 44 = .ok (.bipush (-4), 2) := jo_16 (a := 252) (jw2 jdcX6_step_16 15 rfl rfl) rfl
theorem dX6_step_46 : decode cX6_step 46 = .ok (.ireturn, 1) := jo_172 (jw1 jdcX6_step_16 17 rfl rfl)
theorem dX6_step_47 : decode cX6_step 47 = .ok (.aload_n 3, 1) := jo_45 (jw1 jdcX6_step_16 18 rfl rfl)
theorem dX6_step_48 : decode cX6_step 48 = .ok (.iload_n 2, 1) := jo_28 (jw1 jdcX6_step_16 19 rfl rfl)
theorem dX6_step_49 : decode cX6_step 49 = .ok (.invokevirtual 72, 3) := jo_182 (a := 0) (b := 72) (jw3 jdcX6_step_16 20 rfl rfl) rfl
theorem dX6_step_52 : decode cX6_step 52 = .ok (.pop, 1) := jo_87 (jw1 jdcX6_step_16 23 rfl rfl)
theorem dX6_step_53 : decode cX6_step 53 = .ok (.aload_n 3, 1) := jo_45 (jw1 jdcX6_step_16 24 rfl rfl)
theorem dX6_step_54 : decode cX6_step 54 = .ok (.getfield 69, 3) := jo_180 (a := 0) (b := 69) (jw3 jdcX6_step_16 25 rfl rfl) rfl
theorem dX6_step_57 : decode cX6_step 57 = .ok (.ireturn, 1) := jo_172 (jw1 jdcX6_step_16 28 rfl rfl)
theorem jdcX6_back_0 : jwk (cX6_back.data.toList.drop 0) [42, 27, 182, 0, 55, 78, 45, 198, 0, 15, 28, 155, 0, 11, 28, 45, 180, 0, 69, 164, 0, 6, 16, 254, 172, 45, 28] = true := by decide +kernel
theorem dX6_back_0 : decode cX6_back 0 = .ok (.aload_n 0, 1) := jo_42 (jw1 jdcX6_back_0 0 rfl rfl)
theorem dX6_back_1 : decode cX6_back 1 = .ok (.iload_n 1, 1) := jo_27 (jw1 jdcX6_back_0 1 rfl rfl)
theorem dX6_back_2 : decode cX6_back 2 = .ok (.invokevirtual 55, 3) := jo_182 (a := 0) (b := 55) (jw3 jdcX6_back_0 2 rfl rfl) rfl
theorem dX6_back_5 : decode cX6_back 5 = .ok (.astore_n 3, 1) := jo_78 (jw1 jdcX6_back_0 5 rfl rfl)
theorem dX6_back_6 : decode cX6_back 6 = .ok (.aload_n 3, 1) := jo_45 (jw1 jdcX6_back_0 6 rfl rfl)
theorem dX6_back_7 : decode cX6_back 7 = .ok (.ifnull 15, 3) := jo_198 (a := 0) (b := 15) (jw3 jdcX6_back_0 7 rfl rfl) rfl
theorem dX6_back_10 : decode cX6_back 10 = .ok (.iload_n 2, 1) := jo_28 (jw1 jdcX6_back_0 10 rfl rfl)
theorem dX6_back_11 : decode cX6_back 11 = .ok (.ifCond .lt 11, 3) := jo_155 (a := 0) (b := 11) (jw3 jdcX6_back_0 11 rfl rfl) rfl
theorem dX6_back_14 : decode cX6_back 14 = .ok (.iload_n 2, 1) := jo_28 (jw1 jdcX6_back_0 14 rfl rfl)
theorem dX6_back_15 : decode cX6_back 15 = .ok (.aload_n 3, 1) := jo_45 (jw1 jdcX6_back_0 15 rfl rfl)
theorem dX6_back_16 : decode cX6_back 16 = .ok (.getfield 69, 3) := jo_180 (a := 0) (b := 69) (jw3 jdcX6_back_0 16 rfl rfl) rfl
theorem dX6_back_19 : decode cX6_back 19 = .ok (.if_icmp .le 6, 3) := jo_164 (a := 0) (b := 6) (jw3 jdcX6_back_0 19 rfl rfl) rfl
theorem dX6_back_22 : decode cX6_back 22 = .ok (.bipush (-2), 2) := jo_16 (a := 254) (jw2 jdcX6_back_0 22 rfl rfl) rfl
theorem dX6_back_24 : decode cX6_back 24 = .ok (.ireturn, 1) := jo_172 (jw1 jdcX6_back_0 24 rfl rfl)
theorem dX6_back_25 : decode cX6_back 25 = .ok (.aload_n 3, 1) := jo_45 (jw1 jdcX6_back_0 25 rfl rfl)
theorem dX6_back_26 : decode cX6_back 26 = .ok (.iload_n 2, 1) := jo_28 (jw1 jdcX6_back_0 26 rfl rfl)
theorem jdcX6_back_16 : jwk (cX6_back.data.toList.drop 27) [182, 0, 75, 45, 180, 0, 69, 172] = true := by decide +kernel
theorem dX6_back_27 : decode cX6_back 27 = .ok (.invokevirtual 75, 3) := jo_182 (a := 0) (b := 75) (jw3 jdcX6_back_16 0 rfl rfl) rfl
theorem dX6_back_30 : decode cX6_back 30 = .ok (.aload_n 3, 1) := jo_45 (jw1 jdcX6_back_16 3 rfl rfl)
theorem dX6_back_31 : decode cX6_back 31 = .ok (.getfield 69, 3) := jo_180 (a := 0) (b := 69) (jw3 jdcX6_back_16 4 rfl rfl) rfl
theorem dX6_back_34 : decode cX6_back 34 = .ok (.ireturn, 1) := jo_172 (jw1 jdcX6_back_16 7 rfl rfl)
theorem jdcX6_pivot_0 : jwk (cX6_pivot.data.toList.drop 0) [42, 27, 182, 0, 55, 58, 4, 25, 4, 198, 0, 28, 28, 155, 0, 24, 28, 25, 4, 180, 0, 69, 163, 0, 15, 25, 4, 180, 0, 59, 29, 184, 0, 78] = true := by decide +kernel
theorem dX6_pivot_0 : decode cX6_pivot 0 = .ok (.aload_n 0, 1) := jo_42 (jw1 jdcX6_pivot_0 0 rfl rfl)
theorem dX6_pivot_1 : decode cX6_pivot 1 = .ok (.iload_n 1, 1) := jo_27 (jw1 jdcX6_pivot_0 1 rfl rfl)
theorem dX6_pivot_2 : decode cX6_pivot 2 = .ok (.invokevirtual 55, 3) := jo_182 (a := 0) (b := 55) (jw3 jdcX6_pivot_0 2 rfl rfl) rfl
theorem dX6_pivot_5 : decode cX6_pivot 5 = .ok (.astore 4, 2) := jo_58 (jw2 jdcX6_pivot_0 5 rfl rfl)
theorem dX6_pivot_7 : decode cX6_pivot 7 = .ok (.aload 4, 2) := jo_25 (jw2 jdcX6_pivot_0 7 rfl rfl)
theorem dX6_pivot_9 : decode cX6_pivot 9 = .ok (.ifnull 28, 3) := jo_198 (a := 0) (b := 28) (jw3 jdcX6_pivot_0 9 rfl rfl) rfl
theorem dX6_pivot_12 : decode cX6_pivot 12 = .ok (.iload_n 2, 1) := jo_28 (jw1 jdcX6_pivot_0 12 rfl rfl)
theorem dX6_pivot_13 : decode cX6_pivot 13 = .ok (.ifCond .lt 24, 3) := jo_155 (a := 0) (b := 24) (jw3 jdcX6_pivot_0 13 rfl rfl) rfl
theorem dX6_pivot_16 : decode cX6_pivot 16 = .ok (.iload_n 2, 1) := jo_28 (jw1 jdcX6_pivot_0 16 rfl rfl)
theorem dX6_pivot_17 : decode cX6_pivot 17 = .ok (.aload 4, 2) := jo_25 (jw2 jdcX6_pivot_0 17 rfl rfl)
theorem dX6_pivot_19 : decode cX6_pivot 19 = .ok (.getfield 69, 3) := jo_180 (a := 0) (b := 69) (jw3 jdcX6_pivot_0 19 rfl rfl) rfl
theorem dX6_pivot_22 : decode cX6_pivot 22 = .ok (.if_icmp .gt 15, 3) := jo_163 (a := 0) (b := 15) (jw3 jdcX6_pivot_0 22 rfl rfl) rfl
theorem dX6_pivot_25 : decode cX6_pivot 25 = .ok (.aload 4, 2) := jo_25 (jw2 jdcX6_pivot_0 25 rfl rfl)
theorem dX6_pivot_27 : decode cX6_pivot 27 = .ok (.getfield 59, 3) := jo_180 (a := 0) (b := 59) (jw3 jdcX6_pivot_0 27 rfl rfl) rfl
theorem dX6_pivot_30 : decode cX6_pivot 30 = .ok (.iload_n 3, 1) := jo_29 (jw1 jdcX6_pivot_0 30 rfl rfl)
theorem dX6_pivot_31 : decode cX6_pivot 31 = .ok (.invokestatic 78, 3) := jo_184 (a := 0) (b := 78) (jw3 jdcX6_pivot_0 31 rfl rfl) rfl
theorem jdcX6_pivot_16 : jwk (cX6_pivot.data.toList.drop 34) [154, 0, 6, 16, 254, 172, 42, 180, 0, 22, 25, 4, 180, 0, 59, 182, 0, 52, 3, 54, 5, 21, 5, 25, 4, 180, 0, 69, 162, 0, 53, 25, 4, 21, 5] = true := by decide +kernel
theorem dX6_pivot_34 : decode cX6_pivot 34 = .ok (.ifCond .ne 6, 3) := jo_154 (a := 0) (b := 6) (jw3 jdcX6_pivot_16 0 rfl rfl) rfl
theorem dX6_pivot_37 : decode cX6_pivot 37 = .ok (.bipush (-2), 2) := jo_16 (a := 254) (jw2 jdcX6_pivot_16 3 rfl rfl) rfl
theorem dX6_pivot_39 : decode cX6_pivot 39 = .ok (.ireturn, 1) := jo_172 (jw1 jdcX6_pivot_16 5 rfl rfl)
theorem dX6_pivot_40 : decode cX6_pivot 40 = .ok (.aload_n 0, 1) := jo_42 (jw1 jdcX6_pivot_16 6 rfl rfl)
theorem dX6_pivot_41 : decode cX6_pivot 41 = .ok (.getfield 22, 3) := jo_180 (a := 0) (b := 22) (jw3 jdcX6_pivot_16 7 rfl rfl) rfl
theorem dX6_pivot_44 : decode cX6_pivot 44 = .ok (.aload 4, 2) := jo_25 (jw2 jdcX6_pivot_16 10 rfl rfl)
theorem dX6_pivot_46 : decode cX6_pivot 46 = .ok (.getfield 59, 3) := jo_180 (a := 0) (b := 59) (jw3 jdcX6_pivot_16 12 rfl rfl) rfl
theorem dX6_pivot_49 : decode cX6_pivot 49 = .ok (.invokevirtual 52, 3) := jo_182 (a := 0) (b := 52) (jw3 jdcX6_pivot_16 15 rfl rfl) rfl
theorem dX6_pivot_52 : decode cX6_pivot 52 = .ok (.iconst 0, 1) := jo_3 (jw1 jdcX6_pivot_16 18 rfl rfl)
theorem dX6_pivot_53 : decode cX6_pivot 53 = .ok (.istore 5, 2) := jo_54 (jw2 jdcX6_pivot_16 19 rfl rfl)
theorem dX6_pivot_55 : decode cX6_pivot 55 = .ok (.iload 5, 2) := jo_21 (jw2 jdcX6_pivot_16 21 rfl rfl)
theorem dX6_pivot_57 : decode cX6_pivot 57 = .ok (.aload 4, 2) := jo_25 (jw2 jdcX6_pivot_16 23 rfl rfl)
theorem dX6_pivot_59 : decode cX6_pivot 59 = .ok (.getfield 69, 3) := jo_180 (a := 0) (b := 69) (jw3 jdcX6_pivot_16 25 rfl rfl) rfl
theorem dX6_pivot_62 : decode cX6_pivot 62 = .ok (.if_icmp .ge 53, 3) := jo_162 (a := 0) (b := 53) (jw3 jdcX6_pivot_16 28 rfl rfl) rfl
theorem dX6_pivot_65 : decode cX6_pivot 65 = .ok (.aload 4, 2) := jo_25 (jw2 jdcX6_pivot_16 31 rfl rfl)
theorem dX6_pivot_67 : decode cX6_pivot 67 = .ok (.iload 5, 2) := jo_21 (jw2 jdcX6_pivot_16 33 rfl rfl)
theorem jdcX6_pivot_32 : jwk (cX6_pivot.data.toList.drop 69) [182, 0, 81, 54, 6, 42, 180, 0, 22, 21, 5, 28, 162, 0, 8, 21, 6, 167, 0, 14, 25, 4, 180, 0, 59, 29, 21, 6, 184, 0, 85, 182, 0, 72, 154, 0, 6] = true := by decide +kernel
theorem dX6_pivot_69 : decode cX6_pivot 69 = .ok (.invokevirtual 81, 3) := jo_182 (a := 0) (b := 81) (jw3 jdcX6_pivot_32 0 rfl rfl) rfl
theorem dX6_pivot_72 : decode cX6_pivot 72 = .ok (.istore 6, 2) := jo_54 (jw2 jdcX6_pivot_32 3 rfl rfl)
theorem dX6_pivot_74 : decode cX6_pivot 74 = .ok (.aload_n 0, 1) := jo_42 (jw1 jdcX6_pivot_32 5 rfl rfl)
theorem dX6_pivot_75 : decode cX6_pivot 75 = .ok (.getfield 22, 3) := jo_180 (a := 0) (b := 22) (jw3 jdcX6_pivot_32 6 rfl rfl) rfl
theorem dX6_pivot_78 : decode cX6_pivot 78 = .ok (.iload 5, 2) := jo_21 (jw2 jdcX6_pivot_32 9 rfl rfl)
theorem dX6_pivot_80 : decode cX6_pivot 80 = .ok (.iload_n 2, 1) := jo_28 (jw1 jdcX6_pivot_32 11 rfl rfl)
theorem dX6_pivot_81 : decode cX6_pivot 81 = .ok (.if_icmp .ge 8, 3) := jo_162 (a := 0) (b := 8) (jw3 jdcX6_pivot_32 12 rfl rfl) rfl
theorem dX6_pivot_84 : decode cX6_pivot 84 = .ok (.iload 6, 2) := jo_21 (jw2 jdcX6_pivot_32 15 rfl rfl)
theorem dX6_pivot_86 : decode cX6_pivot 86 = .ok (.goto 14, 3) := jo_167 (a := 0) (b := 14) (jw3 jdcX6_pivot_32 17 rfl rfl) rfl
theorem dX6_pivot_89 : decode cX6_pivot 89 = .ok (.aload 4, 2) := jo_25 (jw2 jdcX6_pivot_32 20 rfl rfl)
theorem dX6_pivot_91 : decode cX6_pivot 91 = .ok (.getfield 59, 3) := jo_180 (a := 0) (b := 59) (jw3 jdcX6_pivot_32 22 rfl rfl) rfl
theorem dX6_pivot_94 : decode cX6_pivot 94 = .ok (.iload_n 3, 1) := jo_29 (jw1 jdcX6_pivot_32 25 rfl rfl)
theorem dX6_pivot_95 : decode cX6_pivot 95 = .ok (.iload 6, 2) := jo_21 (jw2 jdcX6_pivot_32 26 rfl rfl)
theorem dX6_pivot_97 : decode cX6_pivot 97 = .ok (.invokestatic 85, 3) := jo_184 (a := 0) (b := 85) (jw3 jdcX6_pivot_32 28 rfl rfl) rfl
theorem dX6_pivot_100 : decode cX6_pivot 100 = .ok (.invokevirtual 72, 3) := jo_182 (a := 0) (b := 72) (jw3 jdcX6_pivot_32 31 rfl rfl) rfl
theorem dX6_pivot_103 : decode cX6_pivot 103 = .ok (.ifCond .ne 6, 3) := jo_154 (a := 0) (b := 6) (jw3 jdcX6_pivot_32 34 rfl rfl) rfl
theorem jdcX6_pivot_48 : jwk (cX6_pivot.data.toList.drop 106) [16, 253, 172, 132, 5, 1, 167, 255, 199, 25, 4, 42, 180, 0, 22, 182, 0, 89, 4, 172] = true := by decide +kernel
theorem dX6_pivot_106 : decode cX6_pivot 106 = .ok (.bipush (-3), 2) := jo_16 (a := 253) (jw2 jdcX6_pivot_48 0 rfl rfl) rfl
theorem dX6_pivot_108 : decode cX6_pivot 108 = .ok (.ireturn, 1) := jo_172 (jw1 jdcX6_pivot_48 2 rfl rfl)
theorem dX6_pivot_109 : decode cX6_pivot 109 = .ok (.iinc 5 1, 3) := jo_132 (a := 5) (b := 1) (jw3 jdcX6_pivot_48 3 rfl rfl) rfl
theorem dX6_pivot_112 : decode cX6_pivot 112 = .ok (.goto (-57), 3) := jo_167 (a := 255) (b := 199) (jw3 jdcX6_pivot_48 6 rfl rfl) rfl
theorem dX6_pivot_115 : decode cX6_pivot 115 = .ok (.aload 4, 2) := jo_25 (jw2 jdcX6_pivot_48 9 rfl rfl)
theorem dX6_pivot_117 : decode cX6_pivot 117 = .ok (.aload_n 0, 1) := jo_42 (jw1 jdcX6_pivot_48 11 rfl rfl)
theorem dX6_pivot_118 : decode cX6_pivot 118 = .ok (.getfield 22, 3) := jo_180 (a := 0) (b := 22) (jw3 jdcX6_pivot_48 12 rfl rfl) rfl
theorem dX6_pivot_121 : decode cX6_pivot 121 = .ok (.invokevirtual 89, 3) := jo_182 (a := 0) (b := 89) (jw3 jdcX6_pivot_48 15 rfl rfl) rfl
theorem dX6_pivot_124 : decode cX6_pivot 124 = .ok (.iconst 1, 1) := jo_4 (jw1 jdcX6_pivot_48 18 rfl rfl)
theorem dX6_pivot_125 : decode cX6_pivot 125 = .ok (.ireturn, 1) := jo_172 (jw1 jdcX6_pivot_48 19 rfl rfl)
theorem jdcX6_join_0 : jwk (cX6_join.data.toList.drop 0) [42, 27, 182, 0, 55, 78, 42, 28, 182, 0, 55, 58, 4, 45, 198, 0, 8, 25, 4, 199, 0, 6, 16, 254, 172, 45, 180, 0, 59] = true := by decide +kernel
theorem dX6_join_0 : decode cX6_join 0 = .ok (.aload_n 0, 1) := jo_42 (jw1 jdcX6_join_0 0 rfl rfl)
theorem dX6_join_1 : decode cX6_join 1 = .ok (.iload_n 1, 1) := jo_27 (jw1 jdcX6_join_0 1 rfl rfl)
theorem dX6_join_2 : decode cX6_join 2 = .ok (.invokevirtual 55, 3) := jo_182 (a := 0) (b := 55) (jw3 jdcX6_join_0 2 rfl rfl) rfl
theorem dX6_join_5 : decode cX6_join 5 = .ok (.astore_n 3, 1) := jo_78 (jw1 jdcX6_join_0 5 rfl rfl)
theorem dX6_join_6 : decode cX6_join 6 = .ok (.aload_n 0, 1) := jo_42 (jw1 jdcX6_join_0 6 rfl rfl)
theorem dX6_join_7 : decode cX6_join 7 = .ok (.iload_n 2, 1) := jo_28 (jw1 jdcX6_join_0 7 rfl rfl)
theorem dX6_join_8 : decode cX6_join 8 = .ok (.invokevirtual 55, 3) := jo_182 (a := 0) (b := 55) (jw3 jdcX6_join_0 8 rfl rfl) rfl
theorem dX6_join_11 : decode cX6_join 11 = .ok (.astore 4, 2) := jo_58 (jw2 jdcX6_join_0 11 rfl rfl)
theorem dX6_join_13 : decode cX6_join 13 = .ok (.aload_n 3, 1) := jo_45 (jw1 jdcX6_join_0 13 rfl rfl)
theorem dX6_join_14 : decode cX6_join 14 = .ok (.ifnull 8, 3) := jo_198 (a := 0) (b := 8) (jw3 jdcX6_join_0 14 rfl rfl) rfl
theorem dX6_join_17 : decode cX6_join 17 = .ok (.aload 4, 2) := jo_25 (jw2 jdcX6_join_0 17 rfl rfl)
theorem dX6_join_19 : decode cX6_join 19 = .ok (.ifnonnull 6, 3) := jo_199 (a := 0) (b := 6) (jw3 jdcX6_join_0 19 rfl rfl) rfl
theorem dX6_join_22 : decode cX6_join 22 = .ok (.bipush (-2), 2) := jo_16 (a := 254) (jw2 jdcX6_join_0 22 rfl rfl) rfl
theorem dX6_join_24 : decode cX6_join 24 = .ok (.ireturn, 1) := jo_172 (jw1 jdcX6_join_0 24 rfl rfl)
theorem dX6_join_25 : decode cX6_join 25 = .ok (.aload_n 3, 1) := jo_45 (jw1 jdcX6_join_0 25 rfl rfl)
theorem dX6_join_26 : decode cX6_join 26 = .ok (.getfield 59, 3) := jo_180 (a := 0) (b := 59) (jw3 jdcX6_join_0 26 rfl rfl) rfl
theorem jdcX6_join_16 : jwk (cX6_join.data.toList.drop 29) [25, 4, 180, 0, 59, 159, 0, 6, 16, 253, 172, 42, 180, 0, 22, 45, 182, 0, 89, 3, 54, 5, 21, 5, 25, 4, 180, 0, 69, 162, 0, 29, 42] = true := by decide +kernel
theorem dX6_join_29 : decode cX6_join 29 = .ok (.aload 4, 2) := jo_25 (jw2 jdcX6_join_16 0 rfl rfl)
theorem dX6_join_31 : decode cX6_join 31 = .ok (.getfield 59, 3) := jo_180 (a := 0) (b := 59) (jw3 jdcX6_join_16 2 rfl rfl) rfl
theorem dX6_join_34 : decode cX6_join 34 = .ok (.if_icmp .eq 6, 3) := jo_159 (a := 0) (b := 6) (jw3 jdcX6_join_16 5 rfl rfl) rfl
theorem dX6_join_37 : decode cX6_join 37 = .ok (.bipush (-3), 2) := jo_16 (a := 253) (jw2 jdcX6_join_16 8 rfl rfl) rfl
theorem dX6_join_39 : decode cX6_join 39 = .ok (.ireturn, 1) := jo_172 (jw1 jdcX6_join_16 10 rfl rfl)
theorem dX6_join_40 : decode cX6_join 40 = .ok (.aload_n 0, 1) := jo_42 (jw1 jdcX6_join_16 11 rfl rfl)
theorem dX6_join_41 : decode cX6_join 41 = .ok (.getfield 22, 3) := jo_180 (a := 0) (b := 22) (jw3 jdcX6_join_16 12 rfl rfl) rfl
theorem dX6_join_44 : decode cX6_join 44 = .ok (.aload_n 3, 1) := jo_45 (jw1 jdcX6_join_16 15 rfl rfl)
theorem dX6_join_45 : decode cX6_join 45 = .ok (.invokevirtual 89, 3) := jo_182 (a := 0) (b := 89) (jw3 jdcX6_join_16 16 rfl rfl) rfl
theorem dX6_join_48 : decode cX6_join 48 = .ok (.iconst 0, 1) := jo_3 (jw1 jdcX6_join_16 19 rfl rfl)
theorem dX6_join_49 : decode cX6_join 49 = .ok (.istore 5, 2) := jo_54 (jw2 jdcX6_join_16 20 rfl rfl)
theorem dX6_join_51 : decode cX6_join 51 = .ok (.iload 5, 2) := jo_21 (jw2 jdcX6_join_16 22 rfl rfl)
theorem dX6_join_53 : decode cX6_join 53 = .ok (.aload 4, 2) := jo_25 (jw2 jdcX6_join_16 24 rfl rfl)
theorem dX6_join_55 : decode cX6_join 55 = .ok (.getfield 69, 3) := jo_180 (a := 0) (b := 69) (jw3 jdcX6_join_16 26 rfl rfl) rfl
theorem dX6_join_58 : decode cX6_join 58 = .ok (.if_icmp .ge 29, 3) := jo_162 (a := 0) (b := 29) (jw3 jdcX6_join_16 29 rfl rfl) rfl
theorem dX6_join_61 : decode cX6_join 61 = .ok (.aload_n 0, 1) := jo_42 (jw1 jdcX6_join_16 32 rfl rfl)
theorem jdcX6_join_32 : jwk (cX6_join.data.toList.drop 62) [180, 0, 22, 25, 4, 21, 5, 182, 0, 81, 182, 0, 72, 154, 0, 6, 16, 253, 172, 132, 5, 1, 167, 255, 223, 42, 180, 0, 22, 180, 0, 69, 16, 60, 164, 0, 6, 16, 252] = true := by decide +kernel
theorem dX6_join_62 : decode cX6_join 62 = .ok (.getfield 22, 3) := jo_180 (a := 0) (b := 22) (jw3 jdcX6_join_32 0 rfl rfl) rfl
theorem dX6_join_65 : decode cX6_join 65 = .ok (.aload 4, 2) := jo_25 (jw2 jdcX6_join_32 3 rfl rfl)
theorem dX6_join_67 : decode cX6_join 67 = .ok (.iload 5, 2) := jo_21 (jw2 jdcX6_join_32 5 rfl rfl)
theorem dX6_join_69 : decode cX6_join 69 = .ok (.invokevirtual 81, 3) := jo_182 (a := 0) (b := 81) (jw3 jdcX6_join_32 7 rfl rfl) rfl
theorem dX6_join_72 : decode cX6_join 72 = .ok (.invokevirtual 72, 3) := jo_182 (a := 0) (b := 72) (jw3 jdcX6_join_32 10 rfl rfl) rfl
theorem dX6_join_75 : decode cX6_join 75 = .ok (.ifCond .ne 6, 3) := jo_154 (a := 0) (b := 6) (jw3 jdcX6_join_32 13 rfl rfl) rfl
theorem dX6_join_78 : decode cX6_join 78 = .ok (.bipush (-3), 2) := jo_16 (a := 253) (jw2 jdcX6_join_32 16 rfl rfl) rfl
theorem dX6_join_80 : decode cX6_join 80 = .ok (.ireturn, 1) := jo_172 (jw1 jdcX6_join_32 18 rfl rfl)
theorem dX6_join_81 : decode cX6_join 81 = .ok (.iinc 5 1, 3) := jo_132 (a := 5) (b := 1) (jw3 jdcX6_join_32 19 rfl rfl) rfl
theorem dX6_join_84 : decode cX6_join 84 = .ok (.goto (-33), 3) := jo_167 (a := 255) (b := 223) (jw3 jdcX6_join_32 22 rfl rfl) rfl
theorem dX6_join_87 : decode cX6_join 87 = .ok (.aload_n 0, 1) := jo_42 (jw1 jdcX6_join_32 25 rfl rfl)
theorem dX6_join_88 : decode cX6_join 88 = .ok (.getfield 22, 3) := jo_180 (a := 0) (b := 22) (jw3 jdcX6_join_32 26 rfl rfl) rfl
theorem dX6_join_91 : decode cX6_join 91 = .ok (.getfield 69, 3) := jo_180 (a := 0) (b := 69) (jw3 jdcX6_join_32 29 rfl rfl) rfl
theorem dX6_join_94 : decode cX6_join 94 = .ok (.bipush 60, 2) := jo_16 (a := 60) (jw2 jdcX6_join_32 32 rfl rfl) rfl
theorem dX6_join_96 : decode cX6_join 96 = .ok (.if_icmp .le 6, 3) := jo_164 (a := 0) (b := 6) (jw3 jdcX6_join_32 34 rfl rfl) rfl
theorem dX6_join_99 : decode cX6_join 99 = .ok (.bipush (-4), 2) := jo_16 (a := 252) (jw2 jdcX6_join_32 37 rfl rfl) rfl
theorem jdcX6_join_48 : jwk (cX6_join.data.toList.drop 101) [172, 45, 42, 180, 0, 22, 182, 0, 89, 45, 180, 0, 69, 172] = true := by decide +kernel
theorem dX6_join_101 : decode cX6_join 101 = .ok (.ireturn, 1) := jo_172 (jw1 jdcX6_join_48 0 rfl rfl)
theorem dX6_join_102 : decode cX6_join 102 = .ok (.aload_n 3, 1) := jo_45 (jw1 jdcX6_join_48 1 rfl rfl)
theorem dX6_join_103 : decode cX6_join 103 = .ok (.aload_n 0, 1) := jo_42 (jw1 jdcX6_join_48 2 rfl rfl)
theorem dX6_join_104 : decode cX6_join 104 = .ok (.getfield 22, 3) := jo_180 (a := 0) (b := 22) (jw3 jdcX6_join_48 3 rfl rfl) rfl
theorem dX6_join_107 : decode cX6_join 107 = .ok (.invokevirtual 89, 3) := jo_182 (a := 0) (b := 89) (jw3 jdcX6_join_48 6 rfl rfl) rfl
theorem dX6_join_110 : decode cX6_join 110 = .ok (.aload_n 3, 1) := jo_45 (jw1 jdcX6_join_48 9 rfl rfl)
theorem dX6_join_111 : decode cX6_join 111 = .ok (.getfield 69, 3) := jo_180 (a := 0) (b := 69) (jw3 jdcX6_join_48 10 rfl rfl) rfl
theorem dX6_join_114 : decode cX6_join 114 = .ok (.ireturn, 1) := jo_172 (jw1 jdcX6_join_48 13 rfl rfl)
theorem jdcX6_turnBack_0 : jwk (cX6_turnBack.data.toList.drop 0) [42, 27, 182, 0, 55, 77, 44, 199, 0, 6, 16, 254, 172, 44, 180, 0, 59, 5, 160, 0, 20, 44, 182, 0, 93, 44, 182, 0, 97] = true := by decide +kernel
theorem dX6_turnBack_0 : decode cX6_turnBack 0 = .ok (.aload_n 0, 1) := jo_42 (jw1 jdcX6_turnBack_0 0 rfl rfl)
theorem dX6_turnBack_1 : decode cX6_turnBack 1 = .ok (.iload_n 1, 1) := jo_27 (jw1 jdcX6_turnBack_0 1 rfl rfl)
theorem dX6_turnBack_2 : decode cX6_turnBack 2 = .ok (.invokevirtual 55, 3) := jo_182 (a := 0) (b := 55) (jw3 jdcX6_turnBack_0 2 rfl rfl) rfl
theorem dX6_turnBack_5 : decode cX6_turnBack 5 = .ok (.astore_n 2, 1) := jo_77 (jw1 jdcX6_turnBack_0 5 rfl rfl)
theorem dX6_turnBack_6 : decode cX6_turnBack 6 = .ok (.aload_n 2, 1) := jo_44 (jw1 jdcX6_turnBack_0 6 rfl rfl)
theorem dX6_turnBack_7 : decode cX6_turnBack 7 = .ok (.ifnonnull 6, 3) := jo_199 (a := 0) (b := 6) (jw3 jdcX6_turnBack_0 7 rfl rfl) rfl
theorem dX6_turnBack_10 : decode cX6_turnBack 10 = .ok (.bipush (-2), 2) := jo_16 (a := 254) (jw2 jdcX6_turnBack_0 10 rfl rfl) rfl
theorem dX6_turnBack_12 : decode cX6_turnBack 12 = .ok (.ireturn, 1) := jo_172 (jw1 jdcX6_turnBack_0 12 rfl rfl)
theorem dX6_turnBack_13 : decode cX6_turnBack 13 = .ok (.aload_n 2, 1) := jo_44 (jw1 jdcX6_turnBack_0 13 rfl rfl)
theorem dX6_turnBack_14 : decode cX6_turnBack 14 = .ok (.getfield 59, 3) := jo_180 (a := 0) (b := 59) (jw3 jdcX6_turnBack_0 14 rfl rfl) rfl
theorem dX6_turnBack_17 : decode cX6_turnBack 17 = .ok (.iconst 2, 1) := jo_5 (jw1 jdcX6_turnBack_0 17 rfl rfl)
theorem dX6_turnBack_18 : decode cX6_turnBack 18 = .ok (.if_icmp .ne 20, 3) := jo_160 (a := 0) (b := 20) (jw3 jdcX6_turnBack_0 18 rfl rfl) rfl
theorem dX6_turnBack_21 : decode cX6_turnBack 21 = .ok (.aload_n 2, 1) := jo_44 (jw1 jdcX6_turnBack_0 21 rfl rfl)
theorem dX6_turnBack_22 : decode cX6_turnBack 22 = .ok (.invokevirtual 93, 3) := jo_182 (a := 0) (b := 93) (jw3 jdcX6_turnBack_0 22 rfl rfl) rfl
theorem dX6_turnBack_25 : decode cX6_turnBack 25 = .ok (.aload_n 2, 1) := jo_44 (jw1 jdcX6_turnBack_0 25 rfl rfl)
theorem dX6_turnBack_26 : decode cX6_turnBack 26 = .ok (.invokevirtual 97, 3) := jo_182 (a := 0) (b := 97) (jw3 jdcX6_turnBack_0 26 rfl rfl) rfl
theorem jdcX6_turnBack_16 : jwk (cX6_turnBack.data.toList.drop 29) [184, 0, 100, 154, 0, 6, 16, 253, 172, 42, 180, 0, 22, 44, 180, 0, 59, 182, 0, 52, 44, 180, 0, 69, 4, 100, 62, 29, 155, 0, 34] = true := by decide +kernel
theorem dX6_turnBack_29 : decode cX6_turnBack 29 = .ok (.invokestatic 100, 3) := jo_184 (a := 0) (b := 100) (jw3 jdcX6_turnBack_16 0 rfl rfl) rfl
theorem dX6_turnBack_32 : decode cX6_turnBack 32 = .ok (.ifCond .ne 6, 3) := jo_154 (a := 0) (b := 6) (jw3 jdcX6_turnBack_16 3 rfl rfl) rfl
theorem dX6_turnBack_35 : decode cX6_turnBack 35 = .ok (.bipush (-3), 2) := jo_16 (a := 253) (jw2 jdcX6_turnBack_16 6 rfl rfl) rfl
theorem dX6_turnBack_37 : decode cX6_turnBack 37 = .ok (.ireturn, 1) := jo_172 (jw1 jdcX6_turnBack_16 8 rfl rfl)
theorem dX6_turnBack_38 : decode cX6_turnBack 38 = .ok (.aload_n 0, 1) := jo_42 (jw1 jdcX6_turnBack_16 9 rfl rfl)
theorem dX6_turnBack_39 : decode cX6_turnBack 39 = .ok (.getfield 22, 3) := jo_180 (a := 0) (b := 22) (jw3 jdcX6_turnBack_16 10 rfl rfl) rfl
theorem dX6_turnBack_42 : decode cX6_turnBack 42 = .ok (.aload_n 2, 1) := jo_44 (jw1 jdcX6_turnBack_16 13 rfl rfl)
theorem dX6_turnBack_43 : decode cX6_turnBack 43 = .ok (.getfield 59, 3) := jo_180 (a := 0) (b := 59) (jw3 jdcX6_turnBack_16 14 rfl rfl) rfl
theorem dX6_turnBack_46 : decode cX6_turnBack 46 = .ok (.invokevirtual 52, 3) := jo_182 (a := 0) (b := 52) (jw3 jdcX6_turnBack_16 17 rfl rfl) rfl
theorem dX6_turnBack_49 : decode cX6_turnBack 49 = .ok (.aload_n 2, 1) := jo_44 (jw1 jdcX6_turnBack_16 20 rfl rfl)
theorem dX6_turnBack_50 : decode cX6_turnBack 50 = .ok (.getfield 69, 3) := jo_180 (a := 0) (b := 69) (jw3 jdcX6_turnBack_16 21 rfl rfl) rfl
theorem dX6_turnBack_53 : decode cX6_turnBack 53 = .ok (.iconst 1, 1) := jo_4 (jw1 jdcX6_turnBack_16 24 rfl rfl)
theorem dX6_turnBack_54 : decode cX6_turnBack 54 = .ok (.isub, 1) := jo_100 (jw1 jdcX6_turnBack_16 25 rfl rfl)
theorem dX6_turnBack_55 : decode cX6_turnBack 55 = .ok (.istore_n 3, 1) := jo_62 (jw1 jdcX6_turnBack_16 26 rfl rfl)
theorem dX6_turnBack_56 : decode cX6_turnBack 56 = .ok (.iload_n 3, 1) := jo_29 (jw1 jdcX6_turnBack_16 27 rfl rfl)
theorem dX6_turnBack_57 : decode cX6_turnBack 57 = .ok (.ifCond .lt 34, 3) := jo_155 (a := 0) (b := 34) (jw3 jdcX6_turnBack_16 28 rfl rfl) rfl
theorem jdcX6_turnBack_32 : jwk (cX6_turnBack.data.toList.drop 60) [42, 180, 0, 22, 44, 180, 0, 59, 44, 29, 182, 0, 81, 184, 0, 103, 182, 0, 72, 154, 0, 6, 16, 253, 172, 132, 3, 255, 167, 255, 224, 44, 42] = true := by decide +kernel
theorem dX6_turnBack_60 : decode cX6_turnBack 60 = .ok (.aload_n 0, 1) := jo_42 (jw1 jdcX6_turnBack_32 0 rfl rfl)
theorem dX6_turnBack_61 : decode cX6_turnBack 61 = .ok (.getfield 22, 3) := jo_180 (a := 0) (b := 22) (jw3 jdcX6_turnBack_32 1 rfl rfl) rfl
theorem dX6_turnBack_64 : decode cX6_turnBack 64 = .ok (.aload_n 2, 1) := jo_44 (jw1 jdcX6_turnBack_32 4 rfl rfl)
theorem dX6_turnBack_65 : decode cX6_turnBack 65 = .ok (.getfield 59, 3) := jo_180 (a := 0) (b := 59) (jw3 jdcX6_turnBack_32 5 rfl rfl) rfl
theorem dX6_turnBack_68 : decode cX6_turnBack 68 = .ok (.aload_n 2, 1) := jo_44 (jw1 jdcX6_turnBack_32 8 rfl rfl)
theorem dX6_turnBack_69 : decode cX6_turnBack 69 = .ok (.iload_n 3, 1) := jo_29 (jw1 jdcX6_turnBack_32 9 rfl rfl)
theorem dX6_turnBack_70 : decode cX6_turnBack 70 = .ok (.invokevirtual 81, 3) := jo_182 (a := 0) (b := 81) (jw3 jdcX6_turnBack_32 10 rfl rfl) rfl
theorem dX6_turnBack_73 : decode cX6_turnBack 73 = .ok (.invokestatic 103, 3) := jo_184 (a := 0) (b := 103) (jw3 jdcX6_turnBack_32 13 rfl rfl) rfl
theorem dX6_turnBack_76 : decode cX6_turnBack 76 = .ok (.invokevirtual 72, 3) := jo_182 (a := 0) (b := 72) (jw3 jdcX6_turnBack_32 16 rfl rfl) rfl
theorem dX6_turnBack_79 : decode cX6_turnBack 79 = .ok (.ifCond .ne 6, 3) := jo_154 (a := 0) (b := 6) (jw3 jdcX6_turnBack_32 19 rfl rfl) rfl
theorem dX6_turnBack_82 : decode cX6_turnBack 82 = .ok (.bipush (-3), 2) := jo_16 (a := 253) (jw2 jdcX6_turnBack_32 22 rfl rfl) rfl
theorem dX6_turnBack_84 : decode cX6_turnBack 84 = .ok (.ireturn, 1) := jo_172 (jw1 jdcX6_turnBack_32 24 rfl rfl)
theorem dX6_turnBack_85 : decode cX6_turnBack 85 = .ok (.iinc 3 (-1), 3) := jo_132 (a := 3) (b := 255) (jw3 jdcX6_turnBack_32 25 rfl rfl) rfl
theorem dX6_turnBack_88 : decode cX6_turnBack 88 = .ok (.goto (-32), 3) := jo_167 (a := 255) (b := 224) (jw3 jdcX6_turnBack_32 28 rfl rfl) rfl
theorem dX6_turnBack_91 : decode cX6_turnBack 91 = .ok (.aload_n 2, 1) := jo_44 (jw1 jdcX6_turnBack_32 31 rfl rfl)
theorem dX6_turnBack_92 : decode cX6_turnBack 92 = .ok (.aload_n 0, 1) := jo_42 (jw1 jdcX6_turnBack_32 32 rfl rfl)
theorem jdcX6_turnBack_48 : jwk (cX6_turnBack.data.toList.drop 93) [180, 0, 22, 182, 0, 89, 44, 180, 0, 69, 172] = true := by decide +kernel
theorem dX6_turnBack_93 : decode cX6_turnBack 93 = .ok (.getfield 22, 3) := jo_180 (a := 0) (b := 22) (jw3 jdcX6_turnBack_48 0 rfl rfl) rfl
theorem dX6_turnBack_96 : decode cX6_turnBack 96 = .ok (.invokevirtual 89, 3) := jo_182 (a := 0) (b := 89) (jw3 jdcX6_turnBack_48 3 rfl rfl) rfl
theorem dX6_turnBack_99 : decode cX6_turnBack 99 = .ok (.aload_n 2, 1) := jo_44 (jw1 jdcX6_turnBack_48 6 rfl rfl)
theorem dX6_turnBack_100 : decode cX6_turnBack 100 = .ok (.getfield 69, 3) := jo_180 (a := 0) (b := 69) (jw3 jdcX6_turnBack_48 7 rfl rfl) rfl
theorem dX6_turnBack_103 : decode cX6_turnBack 103 = .ok (.ireturn, 1) := jo_172 (jw1 jdcX6_turnBack_48 10 rfl rfl)
theorem jdcX6_stepAt_0 : jwk (cX6_stepAt.data.toList.drop 0) [42, 27, 182, 0, 55, 78, 45, 198, 0, 7, 28, 156, 0, 6, 16, 254, 172, 28, 45, 180, 0, 69, 162, 0, 11, 45, 28] = true := by decide +kernel
theorem dX6_stepAt_0 : decode cX6_stepAt 0 = .ok (.aload_n 0, 1) := jo_42 (jw1 jdcX6_stepAt_0 0 rfl rfl)
theorem dX6_stepAt_1 : decode cX6_stepAt 1 = .ok (.iload_n 1, 1) := jo_27 (jw1 jdcX6_stepAt_0 1 rfl rfl)
theorem dX6_stepAt_2 : decode cX6_stepAt 2 = .ok (.invokevirtual 55, 3) := jo_182 (a := 0) (b := 55) (jw3 jdcX6_stepAt_0 2 rfl rfl) rfl
theorem dX6_stepAt_5 : decode cX6_stepAt 5 = .ok (.astore_n 3, 1) := jo_78 (jw1 jdcX6_stepAt_0 5 rfl rfl)
theorem dX6_stepAt_6 : decode cX6_stepAt 6 = .ok (.aload_n 3, 1) := jo_45 (jw1 jdcX6_stepAt_0 6 rfl rfl)
theorem dX6_stepAt_7 : decode cX6_stepAt 7 = .ok (.ifnull 7, 3) := jo_198 (a := 0) (b := 7) (jw3 jdcX6_stepAt_0 7 rfl rfl) rfl
theorem dX6_stepAt_10 : decode cX6_stepAt 10 = .ok (.iload_n 2, 1) := jo_28 (jw1 jdcX6_stepAt_0 10 rfl rfl)
theorem dX6_stepAt_11 : decode cX6_stepAt 11 = .ok (.ifCond .ge 6, 3) := jo_156 (a := 0) (b := 6) (jw3 jdcX6_stepAt_0 11 rfl rfl) rfl
theorem dX6_stepAt_14 : decode cX6_stepAt 14 = .ok (.bipush (-2), 2) := jo_16 (a := 254) (jw2 jdcX6_stepAt_0 14 rfl rfl) rfl
theorem dX6_stepAt_16 : decode cX6_stepAt 16 = .ok (.ireturn, 1) := jo_172 (jw1 jdcX6_stepAt_0 16 rfl rfl)
theorem dX6_stepAt_17 : decode cX6_stepAt 17 = .ok (.iload_n 2, 1) := jo_28 (jw1 jdcX6_stepAt_0 17 rfl rfl)
theorem dX6_stepAt_18 : decode cX6_stepAt 18 = .ok (.aload_n 3, 1) := jo_45 (jw1 jdcX6_stepAt_0 18 rfl rfl)
theorem dX6_stepAt_19 : decode cX6_stepAt 19 = .ok (.getfield 69, 3) := jo_180 (a := 0) (b := 69) (jw3 jdcX6_stepAt_0 19 rfl rfl) rfl
theorem dX6_stepAt_22 : decode cX6_stepAt 22 = .ok (.if_icmp .ge 11, 3) := jo_162 (a := 0) (b := 11) (jw3 jdcX6_stepAt_0 22 rfl rfl) rfl
theorem dX6_stepAt_25 : decode cX6_stepAt 25 = .ok (.aload_n 3, 1) := jo_45 (jw1 jdcX6_stepAt_0 25 rfl rfl)
theorem dX6_stepAt_26 : decode cX6_stepAt 26 = .ok (.iload_n 2, 1) := jo_28 (jw1 jdcX6_stepAt_0 26 rfl rfl)
theorem jdcX6_stepAt_16 : jwk (cX6_stepAt.data.toList.drop 27) [182, 0, 81, 167, 0, 4, 2, 172] = true := by decide +kernel
theorem dX6_stepAt_27 : decode cX6_stepAt 27 = .ok (.invokevirtual 81, 3) := jo_182 (a := 0) (b := 81) (jw3 jdcX6_stepAt_16 0 rfl rfl) rfl
theorem dX6_stepAt_30 : decode cX6_stepAt 30 = .ok (.goto 4, 3) := jo_167 (a := 0) (b := 4) (jw3 jdcX6_stepAt_16 3 rfl rfl) rfl
theorem dX6_stepAt_33 : decode cX6_stepAt 33 = .ok (.iconst (-1), 1) := jo_2 (jw1 jdcX6_stepAt_16 6 rfl rfl)
theorem dX6_stepAt_34 : decode cX6_stepAt 34 = .ok (.ireturn, 1) := jo_172 (jw1 jdcX6_stepAt_16 7 rfl rfl)
theorem jdcX6_place_0 : jwk (cX6_place.data.toList.drop 0) [42, 27, 182, 0, 55, 58, 4, 25, 4, 198, 0, 16, 28, 155, 0, 12, 28, 25, 4, 180, 0, 69, 164, 0, 7, 17, 252, 24, 172, 29, 170, 0, 0, 0, 0, 56, 0, 0, 0, 0, 0, 0, 0, 2, 0, 0, 0, 26, 0, 0, 0, 36, 0, 0, 0, 46, 25, 4] = true := by decide +kernel
theorem dX6_place_0 : decode cX6_place 0 = .ok (.aload_n 0, 1) := jo_42 (jw1 jdcX6_place_0 0 rfl rfl)
theorem dX6_place_1 : decode cX6_place 1 = .ok (.iload_n 1, 1) := jo_27 (jw1 jdcX6_place_0 1 rfl rfl)
theorem dX6_place_2 : decode cX6_place 2 = .ok (.invokevirtual 55, 3) := jo_182 (a := 0) (b := 55) (jw3 jdcX6_place_0 2 rfl rfl) rfl
theorem dX6_place_5 : decode cX6_place 5 = .ok (.astore 4, 2) := jo_58 (jw2 jdcX6_place_0 5 rfl rfl)
theorem dX6_place_7 : decode cX6_place 7 = .ok (.aload 4, 2) := jo_25 (jw2 jdcX6_place_0 7 rfl rfl)
theorem dX6_place_9 : decode cX6_place 9 = .ok (.ifnull 16, 3) := jo_198 (a := 0) (b := 16) (jw3 jdcX6_place_0 9 rfl rfl) rfl
theorem dX6_place_12 : decode cX6_place 12 = .ok (.iload_n 2, 1) := jo_28 (jw1 jdcX6_place_0 12 rfl rfl)
theorem dX6_place_13 : decode cX6_place 13 = .ok (.ifCond .lt 12, 3) := jo_155 (a := 0) (b := 12) (jw3 jdcX6_place_0 13 rfl rfl) rfl
theorem dX6_place_16 : decode cX6_place 16 = .ok (.iload_n 2, 1) := jo_28 (jw1 jdcX6_place_0 16 rfl rfl)
theorem dX6_place_17 : decode cX6_place 17 = .ok (.aload 4, 2) := jo_25 (jw2 jdcX6_place_0 17 rfl rfl)
theorem dX6_place_19 : decode cX6_place 19 = .ok (.getfield 69, 3) := jo_180 (a := 0) (b := 69) (jw3 jdcX6_place_0 19 rfl rfl) rfl
theorem dX6_place_22 : decode cX6_place 22 = .ok (.if_icmp .le 7, 3) := jo_164 (a := 0) (b := 7) (jw3 jdcX6_place_0 22 rfl rfl) rfl
theorem dX6_place_25 : decode cX6_place 25 = .ok (.sipush (-1000), 3) := jo_17 (a := 252) (b := 24) (jw3 jdcX6_place_0 25 rfl rfl) rfl
theorem dX6_place_28 : decode cX6_place 28 = .ok (.ireturn, 1) := jo_172 (jw1 jdcX6_place_0 28 rfl rfl)
theorem dX6_place_29 : decode cX6_place 29 = .ok (.iload_n 3, 1) := jo_29 (jw1 jdcX6_place_0 29 rfl rfl)
theorem dX6_place_56 : decode cX6_place 56 = .ok (.aload 4, 2) := jo_25 (jw2 jdcX6_place_0 56 rfl rfl)
theorem jdcX6_place_16 : jwk (cX6_place.data.toList.drop 58) [180, 0, 107, 28, 184, 0, 110, 172, 25, 4, 180, 0, 114, 28, 184, 0, 110, 172, 25, 4, 180, 0, 117, 28, 184, 0, 110, 172, 17, 252, 24, 172] = true := by decide +kernel
theorem dX6_place_58 : decode cX6_place 58 = .ok (.getfield 107, 3) := jo_180 (a := 0) (b := 107) (jw3 jdcX6_place_16 0 rfl rfl) rfl
theorem dX6_place_61 : decode cX6_place 61 = .ok (.iload_n 2, 1) := jo_28 (jw1 jdcX6_place_16 3 rfl rfl)
theorem dX6_place_62 : decode cX6_place 62 = .ok (.invokestatic 110, 3) := jo_184 (a := 0) (b := 110) (jw3 jdcX6_place_16 4 rfl rfl) rfl
theorem dX6_place_65 : decode cX6_place 65 = .ok (.ireturn, 1) := jo_172 (jw1 jdcX6_place_16 7 rfl rfl)
theorem dX6_place_66 : decode cX6_place 66 = .ok (.aload 4, 2) := jo_25 (jw2 jdcX6_place_16 8 rfl rfl)
theorem dX6_place_68 : decode cX6_place 68 = .ok (.getfield 114, 3) := jo_180 (a := 0) (b := 114) (jw3 jdcX6_place_16 10 rfl rfl) rfl
theorem dX6_place_71 : decode cX6_place 71 = .ok (.iload_n 2, 1) := jo_28 (jw1 jdcX6_place_16 13 rfl rfl)
theorem dX6_place_72 : decode cX6_place 72 = .ok (.invokestatic 110, 3) := jo_184 (a := 0) (b := 110) (jw3 jdcX6_place_16 14 rfl rfl) rfl
theorem dX6_place_75 : decode cX6_place 75 = .ok (.ireturn, 1) := jo_172 (jw1 jdcX6_place_16 17 rfl rfl)
theorem dX6_place_76 : decode cX6_place 76 = .ok (.aload 4, 2) := jo_25 (jw2 jdcX6_place_16 18 rfl rfl)
theorem dX6_place_78 : decode cX6_place 78 = .ok (.getfield 117, 3) := jo_180 (a := 0) (b := 117) (jw3 jdcX6_place_16 20 rfl rfl) rfl
theorem dX6_place_81 : decode cX6_place 81 = .ok (.iload_n 2, 1) := jo_28 (jw1 jdcX6_place_16 23 rfl rfl)
theorem dX6_place_82 : decode cX6_place 82 = .ok (.invokestatic 110, 3) := jo_184 (a := 0) (b := 110) (jw3 jdcX6_place_16 24 rfl rfl) rfl
theorem dX6_place_85 : decode cX6_place 85 = .ok (.ireturn, 1) := jo_172 (jw1 jdcX6_place_16 27 rfl rfl)
theorem dX6_place_86 : decode cX6_place 86 = .ok (.sipush (-1000), 3) := jo_17 (a := 252) (b := 24) (jw3 jdcX6_place_16 28 rfl rfl) rfl
theorem dX6_place_89 : decode cX6_place 89 = .ok (.ireturn, 1) := jo_172 (jw1 jdcX6_place_16 31 rfl rfl)
theorem jdcX6_about_0 : jwk (cX6_about.data.toList.drop 0) [42, 27, 182, 0, 55, 78, 45, 199, 0, 6, 16, 254, 172, 28, 170, 0, 0, 0, 0, 136, 0, 0, 0, 0, 0, 0, 0, 7, 0, 0, 0, 46, 0, 0, 0, 51, 0, 0, 0, 56, 0, 0, 0, 76, 0, 0, 0, 89, 0, 0, 0, 113, 0, 0, 0, 118, 0, 0, 0, 131, 45, 180, 0, 59, 172, 45, 180, 0, 69, 172, 45] = true := by decide +kernel
theorem dX6_about_0 : decode cX6_about 0 = .ok (.aload_n 0, 1) := jo_42 (jw1 jdcX6_about_0 0 rfl rfl)
theorem dX6_about_1 : decode cX6_about 1 = .ok (.iload_n 1, 1) := jo_27 (jw1 jdcX6_about_0 1 rfl rfl)
theorem dX6_about_2 : decode cX6_about 2 = .ok (.invokevirtual 55, 3) := jo_182 (a := 0) (b := 55) (jw3 jdcX6_about_0 2 rfl rfl) rfl
theorem dX6_about_5 : decode cX6_about 5 = .ok (.astore_n 3, 1) := jo_78 (jw1 jdcX6_about_0 5 rfl rfl)
theorem dX6_about_6 : decode cX6_about 6 = .ok (.aload_n 3, 1) := jo_45 (jw1 jdcX6_about_0 6 rfl rfl)
theorem dX6_about_7 : decode cX6_about 7 = .ok (.ifnonnull 6, 3) := jo_199 (a := 0) (b := 6) (jw3 jdcX6_about_0 7 rfl rfl) rfl
theorem dX6_about_10 : decode cX6_about 10 = .ok (.bipush (-2), 2) := jo_16 (a := 254) (jw2 jdcX6_about_0 10 rfl rfl) rfl
theorem dX6_about_12 : decode cX6_about 12 = .ok (.ireturn, 1) := jo_172 (jw1 jdcX6_about_0 12 rfl rfl)
theorem dX6_about_13 : decode cX6_about 13 = .ok (.iload_n 2, 1) := jo_28 (jw1 jdcX6_about_0 13 rfl rfl)
theorem dX6_about_60 : decode cX6_about 60 = .ok (.aload_n 3, 1) := jo_45 (jw1 jdcX6_about_0 60 rfl rfl)
theorem dX6_about_61 : decode cX6_about 61 = .ok (.getfield 59, 3) := jo_180 (a := 0) (b := 59) (jw3 jdcX6_about_0 61 rfl rfl) rfl
theorem dX6_about_64 : decode cX6_about 64 = .ok (.ireturn, 1) := jo_172 (jw1 jdcX6_about_0 64 rfl rfl)
theorem dX6_about_65 : decode cX6_about 65 = .ok (.aload_n 3, 1) := jo_45 (jw1 jdcX6_about_0 65 rfl rfl)
theorem dX6_about_66 : decode cX6_about 66 = .ok (.getfield 69, 3) := jo_180 (a := 0) (b := 69) (jw3 jdcX6_about_0 66 rfl rfl) rfl
theorem dX6_about_69 : decode cX6_about 69 = .ok (.ireturn, 1) := jo_172 (jw1 jdcX6_about_0 69 rfl rfl)
theorem dX6_about_70 : decode cX6_about 70 = .ok (.aload_n 3, 1) := jo_45 (jw1 jdcX6_about_0 70 rfl rfl)
theorem jdcX6_about_16 : jwk (cX6_about.data.toList.drop 71) [180, 0, 59, 45, 182, 0, 93, 45, 182, 0, 97, 45, 182, 0, 120, 184, 0, 123, 172, 45, 182, 0, 127, 153, 0, 7, 4, 167, 0, 4, 3, 172] = true := by decide +kernel
theorem dX6_about_71 : decode cX6_about 71 = .ok (.getfield 59, 3) := jo_180 (a := 0) (b := 59) (jw3 jdcX6_about_16 0 rfl rfl) rfl
theorem dX6_about_74 : decode cX6_about 74 = .ok (.aload_n 3, 1) := jo_45 (jw1 jdcX6_about_16 3 rfl rfl)
theorem dX6_about_75 : decode cX6_about 75 = .ok (.invokevirtual 93, 3) := jo_182 (a := 0) (b := 93) (jw3 jdcX6_about_16 4 rfl rfl) rfl
theorem dX6_about_78 : decode cX6_about 78 = .ok (.aload_n 3, 1) := jo_45 (jw1 jdcX6_about_16 7 rfl rfl)
theorem dX6_about_79 : decode cX6_about 79 = .ok (.invokevirtual 97, 3) := jo_182 (a := 0) (b := 97) (jw3 jdcX6_about_16 8 rfl rfl) rfl
theorem dX6_about_82 : decode cX6_about 82 = .ok (.aload_n 3, 1) := jo_45 (jw1 jdcX6_about_16 11 rfl rfl)
theorem dX6_about_83 : decode cX6_about 83 = .ok (.invokevirtual 120, 3) := jo_182 (a := 0) (b := 120) (jw3 jdcX6_about_16 12 rfl rfl) rfl
theorem dX6_about_86 : decode cX6_about 86 = .ok (.invokestatic 123, 3) := jo_184 (a := 0) (b := 123) (jw3 jdcX6_about_16 15 rfl rfl) rfl
theorem dX6_about_89 : decode cX6_about 89 = .ok (.ireturn, 1) := jo_172 (jw1 jdcX6_about_16 18 rfl rfl)
theorem dX6_about_90 : decode cX6_about 90 = .ok (.aload_n 3, 1) := jo_45 (jw1 jdcX6_about_16 19 rfl rfl)
theorem dX6_about_91 : decode cX6_about 91 = .ok (.invokevirtual 127, 3) := jo_182 (a := 0) (b := 127) (jw3 jdcX6_about_16 20 rfl rfl) rfl
theorem dX6_about_94 : decode cX6_about 94 = .ok (.ifCond .eq 7, 3) := jo_153 (a := 0) (b := 7) (jw3 jdcX6_about_16 23 rfl rfl) rfl
theorem dX6_about_97 : decode cX6_about 97 = .ok (.iconst 1, 1) := jo_4 (jw1 jdcX6_about_16 26 rfl rfl)
theorem dX6_about_98 : decode cX6_about 98 = .ok (.goto 4, 3) := jo_167 (a := 0) (b := 4) (jw3 jdcX6_about_16 27 rfl rfl) rfl
theorem dX6_about_101 : decode cX6_about 101 = .ok (.iconst 0, 1) := jo_3 (jw1 jdcX6_about_16 30 rfl rfl)
theorem dX6_about_102 : decode cX6_about 102 = .ok (.ireturn, 1) := jo_172 (jw1 jdcX6_about_16 31 rfl rfl)
theorem jdcX6_about_32 : jwk (cX6_about.data.toList.drop 103) [45, 182, 0, 127, 153, 0, 18, 45, 180, 0, 59, 6, 159, 0, 10, 45, 182, 0, 131, 167, 0, 4, 2, 172, 45, 182, 0, 134, 172, 45] = true := by decide +kernel
theorem dX6_about_103 : decode cX6_about 103 = .ok (.aload_n 3, 1) := jo_45 (jw1 jdcX6_about_32 0 rfl rfl)
theorem dX6_about_104 : decode cX6_about 104 = .ok (.invokevirtual 127, 3) := jo_182 (a := 0) (b := 127) (jw3 jdcX6_about_32 1 rfl rfl) rfl
theorem dX6_about_107 : decode cX6_about 107 = .ok (.ifCond .eq 18, 3) := jo_153 (a := 0) (b := 18) (jw3 jdcX6_about_32 4 rfl rfl) rfl
theorem dX6_about_110 : decode cX6_about 110 = .ok (.aload_n 3, 1) := jo_45 (jw1 jdcX6_about_32 7 rfl rfl)
theorem dX6_about_111 : decode cX6_about 111 = .ok (.getfield 59, 3) := jo_180 (a := 0) (b := 59) (jw3 jdcX6_about_32 8 rfl rfl) rfl
theorem dX6_about_114 : decode cX6_about 114 = .ok (.iconst 3, 1) := jo_6 (jw1 jdcX6_about_32 11 rfl rfl)
theorem dX6_about_115 : decode cX6_about 115 = .ok (.if_icmp .eq 10, 3) := jo_159 (a := 0) (b := 10) (jw3 jdcX6_about_32 12 rfl rfl) rfl
theorem dX6_about_118 : decode cX6_about 118 = .ok (.aload_n 3, 1) := jo_45 (jw1 jdcX6_about_32 15 rfl rfl)
theorem dX6_about_119 : decode cX6_about 119 = .ok (.invokevirtual 131, 3) := jo_182 (a := 0) (b := 131) (jw3 jdcX6_about_32 16 rfl rfl) rfl
theorem dX6_about_122 : decode cX6_about 122 = .ok (.goto 4, 3) := jo_167 (a := 0) (b := 4) (jw3 jdcX6_about_32 19 rfl rfl) rfl
theorem dX6_about_125 : decode cX6_about 125 = .ok (.iconst (-1), 1) := jo_2 (jw1 jdcX6_about_32 22 rfl rfl)
theorem dX6_about_126 : decode cX6_about 126 = .ok (.ireturn, 1) := jo_172 (jw1 jdcX6_about_32 23 rfl rfl)
theorem dX6_about_127 : decode cX6_about 127 = .ok (.aload_n 3, 1) := jo_45 (jw1 jdcX6_about_32 24 rfl rfl)
theorem dX6_about_128 : decode cX6_about 128 = .ok (.invokevirtual 134, 3) := jo_182 (a := 0) (b := 134) (jw3 jdcX6_about_32 25 rfl rfl) rfl
theorem dX6_about_131 : decode cX6_about 131 = .ok (.ireturn, 1) := jo_172 (jw1 jdcX6_about_32 28 rfl rfl)
theorem dX6_about_132 : decode cX6_about 132 = .ok (.aload_n 3, 1) := jo_45 (jw1 jdcX6_about_32 29 rfl rfl)
theorem jdcX6_about_48 : jwk (cX6_about.data.toList.drop 133) [182, 0, 137, 153, 0, 7, 4, 167, 0, 4, 3, 172, 45, 182, 0, 140, 172, 16, 254, 172] = true := by decide +kernel
theorem dX6_about_133 : decode cX6_about 133 = .ok (.invokevirtual 137, 3) := jo_182 (a := 0) (b := 137) (jw3 jdcX6_about_48 0 rfl rfl) rfl
theorem dX6_about_136 : decode cX6_about 136 = .ok (.ifCond .eq 7, 3) := jo_153 (a := 0) (b := 7) (jw3 jdcX6_about_48 3 rfl rfl) rfl
theorem dX6_about_139 : decode cX6_about 139 = .ok (.iconst 1, 1) := jo_4 (jw1 jdcX6_about_48 6 rfl rfl)
theorem dX6_about_140 : decode cX6_about 140 = .ok (.goto 4, 3) := jo_167 (a := 0) (b := 4) (jw3 jdcX6_about_48 7 rfl rfl) rfl
theorem dX6_about_143 : decode cX6_about 143 = .ok (.iconst 0, 1) := jo_3 (jw1 jdcX6_about_48 10 rfl rfl)
theorem dX6_about_144 : decode cX6_about 144 = .ok (.ireturn, 1) := jo_172 (jw1 jdcX6_about_48 11 rfl rfl)
theorem dX6_about_145 : decode cX6_about 145 = .ok (.aload_n 3, 1) := jo_45 (jw1 jdcX6_about_48 12 rfl rfl)
theorem dX6_about_146 : decode cX6_about 146 = .ok (.invokevirtual 140, 3) := jo_182 (a := 0) (b := 140) (jw3 jdcX6_about_48 13 rfl rfl) rfl
theorem dX6_about_149 : decode cX6_about 149 = .ok (.ireturn, 1) := jo_172 (jw1 jdcX6_about_48 16 rfl rfl)
theorem dX6_about_150 : decode cX6_about 150 = .ok (.bipush (-2), 2) := jo_16 (a := 254) (jw2 jdcX6_about_48 17 rfl rfl) rfl
theorem dX6_about_152 : decode cX6_about 152 = .ok (.ireturn, 1) := jo_172 (jw1 jdcX6_about_48 19 rfl rfl)
theorem jdcX6_form_0 : jwk (cX6_form.data.toList.drop 0) [42, 27, 182, 0, 55, 78, 45, 198, 0, 7, 28, 156, 0, 6, 16, 254, 172, 28, 45, 180, 0, 69, 161, 0, 5, 2, 172] = true := by decide +kernel
theorem dX6_form_0 : decode cX6_form 0 = .ok (.aload_n 0, 1) := jo_42 (jw1 jdcX6_form_0 0 rfl rfl)
theorem dX6_form_1 : decode cX6_form 1 = .ok (.iload_n 1, 1) := jo_27 (jw1 jdcX6_form_0 1 rfl rfl)
theorem dX6_form_2 : decode cX6_form 2 = .ok (.invokevirtual 55, 3) := jo_182 (a := 0) (b := 55) (jw3 jdcX6_form_0 2 rfl rfl) rfl
theorem dX6_form_5 : decode cX6_form 5 = .ok (.astore_n 3, 1) := jo_78 (jw1 jdcX6_form_0 5 rfl rfl)
theorem dX6_form_6 : decode cX6_form 6 = .ok (.aload_n 3, 1) := jo_45 (jw1 jdcX6_form_0 6 rfl rfl)
theorem dX6_form_7 : decode cX6_form 7 = .ok (.ifnull 7, 3) := jo_198 (a := 0) (b := 7) (jw3 jdcX6_form_0 7 rfl rfl) rfl
theorem dX6_form_10 : decode cX6_form 10 = .ok (.iload_n 2, 1) := jo_28 (jw1 jdcX6_form_0 10 rfl rfl)
theorem dX6_form_11 : decode cX6_form 11 = .ok (.ifCond .ge 6, 3) := jo_156 (a := 0) (b := 6) (jw3 jdcX6_form_0 11 rfl rfl) rfl
theorem dX6_form_14 : decode cX6_form 14 = .ok (.bipush (-2), 2) := jo_16 (a := 254) (jw2 jdcX6_form_0 14 rfl rfl) rfl
theorem dX6_form_16 : decode cX6_form 16 = .ok (.ireturn, 1) := jo_172 (jw1 jdcX6_form_0 16 rfl rfl)
theorem dX6_form_17 : decode cX6_form 17 = .ok (.iload_n 2, 1) := jo_28 (jw1 jdcX6_form_0 17 rfl rfl)
theorem dX6_form_18 : decode cX6_form 18 = .ok (.aload_n 3, 1) := jo_45 (jw1 jdcX6_form_0 18 rfl rfl)
theorem dX6_form_19 : decode cX6_form 19 = .ok (.getfield 69, 3) := jo_180 (a := 0) (b := 69) (jw3 jdcX6_form_0 19 rfl rfl) rfl
theorem dX6_form_22 : decode cX6_form 22 = .ok (.if_icmp .lt 5, 3) := jo_161 (a := 0) (b := 5) (jw3 jdcX6_form_0 22 rfl rfl) rfl
theorem dX6_form_25 : decode cX6_form 25 = .ok (.iconst (-1), 1) := jo_2 (jw1 jdcX6_form_0 25 rfl rfl)
theorem dX6_form_26 : decode cX6_form 26 = .ok (.ireturn, 1) := jo_172 (jw1 jdcX6_form_0 26 rfl rfl)
theorem jdcX6_form_16 : jwk (cX6_form.data.toList.drop 27) [45, 42, 180, 0, 26, 184, 0, 143, 42, 180, 0, 26, 28, 184, 0, 110, 172] = true := by decide +kernel
theorem dX6_form_27 : decode cX6_form 27 = .ok (.aload_n 3, 1) := jo_45 (jw1 jdcX6_form_16 0 rfl rfl)
theorem dX6_form_28 : decode cX6_form 28 = .ok (.aload_n 0, 1) := jo_42 (jw1 jdcX6_form_16 1 rfl rfl)
theorem dX6_form_29 : decode cX6_form 29 = .ok (.getfield 26, 3) := jo_180 (a := 0) (b := 26) (jw3 jdcX6_form_16 2 rfl rfl) rfl
theorem dX6_form_32 : decode cX6_form 32 = .ok (.invokestatic 143, 3) := jo_184 (a := 0) (b := 143) (jw3 jdcX6_form_16 5 rfl rfl) rfl
theorem dX6_form_35 : decode cX6_form 35 = .ok (.aload_n 0, 1) := jo_42 (jw1 jdcX6_form_16 8 rfl rfl)
theorem dX6_form_36 : decode cX6_form 36 = .ok (.getfield 26, 3) := jo_180 (a := 0) (b := 26) (jw3 jdcX6_form_16 9 rfl rfl) rfl
theorem dX6_form_39 : decode cX6_form 39 = .ok (.iload_n 2, 1) := jo_28 (jw1 jdcX6_form_16 12 rfl rfl)
theorem dX6_form_40 : decode cX6_form 40 = .ok (.invokestatic 110, 3) := jo_184 (a := 0) (b := 110) (jw3 jdcX6_form_16 13 rfl rfl) rfl
theorem dX6_form_43 : decode cX6_form 43 = .ok (.ireturn, 1) := jo_172 (jw1 jdcX6_form_16 16 rfl rfl)
theorem jdcX6_alike_0 : jwk (cX6_alike.data.toList.drop 0) [42, 27, 182, 0, 55, 78, 42, 28, 182, 0, 55, 58, 4, 45, 198, 0, 8, 25, 4, 199, 0, 6, 16, 254, 172, 45, 180, 0, 59] = true := by decide +kernel
theorem dX6_alike_0 : decode cX6_alike 0 = .ok (.aload_n 0, 1) := jo_42 (jw1 jdcX6_alike_0 0 rfl rfl)
theorem dX6_alike_1 : decode cX6_alike 1 = .ok (.iload_n 1, 1) := jo_27 (jw1 jdcX6_alike_0 1 rfl rfl)
theorem dX6_alike_2 : decode cX6_alike 2 = .ok (.invokevirtual 55, 3) := jo_182 (a := 0) (b := 55) (jw3 jdcX6_alike_0 2 rfl rfl) rfl
theorem dX6_alike_5 : decode cX6_alike 5 = .ok (.astore_n 3, 1) := jo_78 (jw1 jdcX6_alike_0 5 rfl rfl)
theorem dX6_alike_6 : decode cX6_alike 6 = .ok (.aload_n 0, 1) := jo_42 (jw1 jdcX6_alike_0 6 rfl rfl)
theorem dX6_alike_7 : decode cX6_alike 7 = .ok (.iload_n 2, 1) := jo_28 (jw1 jdcX6_alike_0 7 rfl rfl)
theorem dX6_alike_8 : decode cX6_alike 8 = .ok (.invokevirtual 55, 3) := jo_182 (a := 0) (b := 55) (jw3 jdcX6_alike_0 8 rfl rfl) rfl
theorem dX6_alike_11 : decode cX6_alike 11 = .ok (.astore 4, 2) := jo_58 (jw2 jdcX6_alike_0 11 rfl rfl)
theorem dX6_alike_13 : decode cX6_alike 13 = .ok (.aload_n 3, 1) := jo_45 (jw1 jdcX6_alike_0 13 rfl rfl)
theorem dX6_alike_14 : decode cX6_alike 14 = .ok (.ifnull 8, 3) := jo_198 (a := 0) (b := 8) (jw3 jdcX6_alike_0 14 rfl rfl) rfl
theorem dX6_alike_17 : decode cX6_alike 17 = .ok (.aload 4, 2) := jo_25 (jw2 jdcX6_alike_0 17 rfl rfl)
theorem dX6_alike_19 : decode cX6_alike 19 = .ok (.ifnonnull 6, 3) := jo_199 (a := 0) (b := 6) (jw3 jdcX6_alike_0 19 rfl rfl) rfl
theorem dX6_alike_22 : decode cX6_alike 22 = .ok (.bipush (-2), 2) := jo_16 (a := 254) (jw2 jdcX6_alike_0 22 rfl rfl) rfl
theorem dX6_alike_24 : decode cX6_alike 24 = .ok (.ireturn, 1) := jo_172 (jw1 jdcX6_alike_0 24 rfl rfl)
theorem dX6_alike_25 : decode cX6_alike 25 = .ok (.aload_n 3, 1) := jo_45 (jw1 jdcX6_alike_0 25 rfl rfl)
theorem dX6_alike_26 : decode cX6_alike 26 = .ok (.getfield 59, 3) := jo_180 (a := 0) (b := 59) (jw3 jdcX6_alike_0 26 rfl rfl) rfl
theorem jdcX6_alike_16 : jwk (cX6_alike.data.toList.drop 29) [25, 4, 180, 0, 59, 159, 0, 6, 16, 253, 172, 45, 180, 0, 69, 25, 4, 180, 0, 69, 159, 0, 5, 3, 172, 45, 42, 180, 0, 26, 184, 0, 143] = true := by decide +kernel
theorem dX6_alike_29 : decode cX6_alike 29 = .ok (.aload 4, 2) := jo_25 (jw2 jdcX6_alike_16 0 rfl rfl)
theorem dX6_alike_31 : decode cX6_alike 31 = .ok (.getfield 59, 3) := jo_180 (a := 0) (b := 59) (jw3 jdcX6_alike_16 2 rfl rfl) rfl
theorem dX6_alike_34 : decode cX6_alike 34 = .ok (.if_icmp .eq 6, 3) := jo_159 (a := 0) (b := 6) (jw3 jdcX6_alike_16 5 rfl rfl) rfl
theorem dX6_alike_37 : decode cX6_alike 37 = .ok (.bipush (-3), 2) := jo_16 (a := 253) (jw2 jdcX6_alike_16 8 rfl rfl) rfl
theorem dX6_alike_39 : decode cX6_alike 39 = .ok (.ireturn, 1) := jo_172 (jw1 jdcX6_alike_16 10 rfl rfl)
theorem dX6_alike_40 : decode cX6_alike 40 = .ok (.aload_n 3, 1) := jo_45 (jw1 jdcX6_alike_16 11 rfl rfl)
theorem dX6_alike_41 : decode cX6_alike 41 = .ok (.getfield 69, 3) := jo_180 (a := 0) (b := 69) (jw3 jdcX6_alike_16 12 rfl rfl) rfl
theorem dX6_alike_44 : decode cX6_alike 44 = .ok (.aload 4, 2) := jo_25 (jw2 jdcX6_alike_16 15 rfl rfl)
theorem dX6_alike_46 : decode cX6_alike 46 = .ok (.getfield 69, 3) := jo_180 (a := 0) (b := 69) (jw3 jdcX6_alike_16 17 rfl rfl) rfl
theorem dX6_alike_49 : decode cX6_alike 49 = .ok (.if_icmp .eq 5, 3) := jo_159 (a := 0) (b := 5) (jw3 jdcX6_alike_16 20 rfl rfl) rfl
theorem dX6_alike_52 : decode cX6_alike 52 = .ok (.iconst 0, 1) := jo_3 (jw1 jdcX6_alike_16 23 rfl rfl)
theorem dX6_alike_53 : decode cX6_alike 53 = .ok (.ireturn, 1) := jo_172 (jw1 jdcX6_alike_16 24 rfl rfl)
theorem dX6_alike_54 : decode cX6_alike 54 = .ok (.aload_n 3, 1) := jo_45 (jw1 jdcX6_alike_16 25 rfl rfl)
theorem dX6_alike_55 : decode cX6_alike 55 = .ok (.aload_n 0, 1) := jo_42 (jw1 jdcX6_alike_16 26 rfl rfl)
theorem dX6_alike_56 : decode cX6_alike 56 = .ok (.getfield 26, 3) := jo_180 (a := 0) (b := 26) (jw3 jdcX6_alike_16 27 rfl rfl) rfl
theorem dX6_alike_59 : decode cX6_alike 59 = .ok (.invokestatic 143, 3) := jo_184 (a := 0) (b := 143) (jw3 jdcX6_alike_16 30 rfl rfl) rfl
theorem jdcX6_alike_32 : jwk (cX6_alike.data.toList.drop 62) [25, 4, 42, 180, 0, 30, 184, 0, 143, 3, 54, 5, 21, 5, 45, 180, 0, 69, 162, 0, 32, 42, 180, 0, 26, 21, 5, 184, 0, 110, 42, 180, 0, 30] = true := by decide +kernel
theorem dX6_alike_62 : decode cX6_alike 62 = .ok (.aload 4, 2) := jo_25 (jw2 jdcX6_alike_32 0 rfl rfl)
theorem dX6_alike_64 : decode cX6_alike 64 = .ok (.aload_n 0, 1) := jo_42 (jw1 jdcX6_alike_32 2 rfl rfl)
theorem dX6_alike_65 : decode cX6_alike 65 = .ok (.getfield 30, 3) := jo_180 (a := 0) (b := 30) (jw3 jdcX6_alike_32 3 rfl rfl) rfl
theorem dX6_alike_68 : decode cX6_alike 68 = .ok (.invokestatic 143, 3) := jo_184 (a := 0) (b := 143) (jw3 jdcX6_alike_32 6 rfl rfl) rfl
theorem dX6_alike_71 : decode cX6_alike 71 = .ok (.iconst 0, 1) := jo_3 (jw1 jdcX6_alike_32 9 rfl rfl)
theorem dX6_alike_72 : decode cX6_alike 72 = .ok (.istore 5, 2) := jo_54 (jw2 jdcX6_alike_32 10 rfl rfl)
theorem dX6_alike_74 : decode cX6_alike 74 = .ok (.iload 5, 2) := jo_21 (jw2 jdcX6_alike_32 12 rfl rfl)
theorem dX6_alike_76 : decode cX6_alike 76 = .ok (.aload_n 3, 1) := jo_45 (jw1 jdcX6_alike_32 14 rfl rfl)
theorem dX6_alike_77 : decode cX6_alike 77 = .ok (.getfield 69, 3) := jo_180 (a := 0) (b := 69) (jw3 jdcX6_alike_32 15 rfl rfl) rfl
theorem dX6_alike_80 : decode cX6_alike 80 = .ok (.if_icmp .ge 32, 3) := jo_162 (a := 0) (b := 32) (jw3 jdcX6_alike_32 18 rfl rfl) rfl
theorem dX6_alike_83 : decode cX6_alike 83 = .ok (.aload_n 0, 1) := jo_42 (jw1 jdcX6_alike_32 21 rfl rfl)
theorem dX6_alike_84 : decode cX6_alike 84 = .ok (.getfield 26, 3) := jo_180 (a := 0) (b := 26) (jw3 jdcX6_alike_32 22 rfl rfl) rfl
theorem dX6_alike_87 : decode cX6_alike 87 = .ok (.iload 5, 2) := jo_21 (jw2 jdcX6_alike_32 25 rfl rfl)
theorem dX6_alike_89 : decode cX6_alike 89 = .ok (.invokestatic 110, 3) := jo_184 (a := 0) (b := 110) (jw3 jdcX6_alike_32 27 rfl rfl) rfl
theorem dX6_alike_92 : decode cX6_alike 92 = .ok (.aload_n 0, 1) := jo_42 (jw1 jdcX6_alike_32 30 rfl rfl)
theorem dX6_alike_93 : decode cX6_alike 93 = .ok (.getfield 30, 3) := jo_180 (a := 0) (b := 30) (jw3 jdcX6_alike_32 31 rfl rfl) rfl
theorem jdcX6_alike_48 : jwk (cX6_alike.data.toList.drop 96) [21, 5, 184, 0, 110, 159, 0, 5, 3, 172, 132, 5, 1, 167, 255, 221, 4, 172] = true := by decide +kernel
theorem dX6_alike_96 : decode cX6_alike 96 = .ok (.iload 5, 2) := jo_21 (jw2 jdcX6_alike_48 0 rfl rfl)
theorem dX6_alike_98 : decode cX6_alike 98 = .ok (.invokestatic 110, 3) := jo_184 (a := 0) (b := 110) (jw3 jdcX6_alike_48 2 rfl rfl) rfl
theorem dX6_alike_101 : decode cX6_alike 101 = .ok (.if_icmp .eq 5, 3) := jo_159 (a := 0) (b := 5) (jw3 jdcX6_alike_48 5 rfl rfl) rfl
theorem dX6_alike_104 : decode cX6_alike 104 = .ok (.iconst 0, 1) := jo_3 (jw1 jdcX6_alike_48 8 rfl rfl)
theorem dX6_alike_105 : decode cX6_alike 105 = .ok (.ireturn, 1) := jo_172 (jw1 jdcX6_alike_48 9 rfl rfl)
theorem dX6_alike_106 : decode cX6_alike 106 = .ok (.iinc 5 1, 3) := jo_132 (a := 5) (b := 1) (jw3 jdcX6_alike_48 10 rfl rfl) rfl
theorem dX6_alike_109 : decode cX6_alike 109 = .ok (.goto (-35), 3) := jo_167 (a := 255) (b := 221) (jw3 jdcX6_alike_48 13 rfl rfl) rfl
theorem dX6_alike_112 : decode cX6_alike 112 = .ok (.iconst 1, 1) := jo_4 (jw1 jdcX6_alike_48 16 rfl rfl)
theorem dX6_alike_113 : decode cX6_alike 113 = .ok (.ireturn, 1) := jo_172 (jw1 jdcX6_alike_48 17 rfl rfl)
theorem jdcX6_walks_0 : jwk (cX6_walks.data.toList.drop 0) [42, 27, 28, 3, 182, 0, 149, 78, 45, 199, 0, 6, 16, 254, 172, 45, 28, 182, 0, 153, 153, 0, 14, 45, 180, 0, 156] = true := by decide +kernel
theorem dX6_walks_0 : decode cX6_walks 0 = .ok (.aload_n 0, 1) := jo_42 (jw1 jdcX6_walks_0 0 rfl rfl)
theorem dX6_walks_1 : decode cX6_walks 1 = .ok (.iload_n 1, 1) := jo_27 (jw1 jdcX6_walks_0 1 rfl rfl)
theorem dX6_walks_2 : decode cX6_walks 2 = .ok (.iload_n 2, 1) := jo_28 (jw1 jdcX6_walks_0 2 rfl rfl)
theorem dX6_walks_3 : decode cX6_walks 3 = .ok (.iconst 0, 1) := jo_3 (jw1 jdcX6_walks_0 3 rfl rfl)
theorem dX6_walks_4 : decode cX6_walks 4 = .ok (.invokevirtual 149, 3) := jo_182 (a := 0) (b := 149) (jw3 jdcX6_walks_0 4 rfl rfl) rfl
theorem dX6_walks_7 : decode cX6_walks 7 = .ok (.astore_n 3, 1) := jo_78 (jw1 jdcX6_walks_0 7 rfl rfl)
theorem dX6_walks_8 : decode cX6_walks 8 = .ok (.aload_n 3, 1) := jo_45 (jw1 jdcX6_walks_0 8 rfl rfl)
theorem dX6_walks_9 : decode cX6_walks 9 = .ok (.ifnonnull 6, 3) := jo_199 (a := 0) (b := 6) (jw3 jdcX6_walks_0 9 rfl rfl) rfl
theorem dX6_walks_12 : decode cX6_walks 12 = .ok (.bipush (-2), 2) := jo_16 (a := 254) (jw2 jdcX6_walks_0 12 rfl rfl) rfl
theorem dX6_walks_14 : decode cX6_walks 14 = .ok (.ireturn, 1) := jo_172 (jw1 jdcX6_walks_0 14 rfl rfl)
theorem dX6_walks_15 : decode cX6_walks 15 = .ok (.aload_n 3, 1) := jo_45 (jw1 jdcX6_walks_0 15 rfl rfl)
theorem dX6_walks_16 : decode cX6_walks 16 = .ok (.iload_n 2, 1) := jo_28 (jw1 jdcX6_walks_0 16 rfl rfl)
theorem dX6_walks_17 : decode cX6_walks 17 = .ok (.invokevirtual 153, 3) := jo_182 (a := 0) (b := 153) (jw3 jdcX6_walks_0 17 rfl rfl) rfl
theorem dX6_walks_20 : decode cX6_walks 20 = .ok (.ifCond .eq 14, 3) := jo_153 (a := 0) (b := 14) (jw3 jdcX6_walks_0 20 rfl rfl) rfl
theorem dX6_walks_23 : decode cX6_walks 23 = .ok (.aload_n 3, 1) := jo_45 (jw1 jdcX6_walks_0 23 rfl rfl)
theorem dX6_walks_24 : decode cX6_walks 24 = .ok (.getfield 156, 3) := jo_180 (a := 0) (b := 156) (jw3 jdcX6_walks_0 24 rfl rfl) rfl
theorem jdcX6_walks_16 : jwk (cX6_walks.data.toList.drop 27) [28, 184, 0, 110, 167, 0, 5, 16, 251, 172] = true := by decide +kernel
theorem dX6_walks_27 : decode cX6_walks 27 = .ok (.iload_n 2, 1) := jo_28 (jw1 jdcX6_walks_16 0 rfl rfl)
theorem dX6_walks_28 : decode cX6_walks 28 = .ok (.invokestatic 110, 3) := jo_184 (a := 0) (b := 110) (jw3 jdcX6_walks_16 1 rfl rfl) rfl
theorem dX6_walks_31 : decode cX6_walks 31 = .ok (.goto 5, 3) := jo_167 (a := 0) (b := 5) (jw3 jdcX6_walks_16 4 rfl rfl) rfl
theorem dX6_walks_34 : decode cX6_walks 34 = .ok (.bipush (-5), 2) := jo_16 (a := 251) (jw2 jdcX6_walks_16 7 rfl rfl) rfl
theorem dX6_walks_36 : decode cX6_walks 36 = .ok (.ireturn, 1) := jo_172 (jw1 jdcX6_walks_16 9 rfl rfl)
theorem jdcX6_squares_0 : jwk (cX6_squares.data.toList.drop 0) [42, 27, 28, 3, 182, 0, 149, 78, 45, 199, 0, 7, 20, 0, 159, 173, 45, 28, 182, 0, 153, 153, 0, 14, 45, 180, 0, 161] = true := by decide +kernel
theorem dX6_squares_0 : decode cX6_squares 0 = .ok (.aload_n 0, 1) := jo_42 (jw1 jdcX6_squares_0 0 rfl rfl)
theorem dX6_squares_1 : decode cX6_squares 1 = .ok (.iload_n 1, 1) := jo_27 (jw1 jdcX6_squares_0 1 rfl rfl)
theorem dX6_squares_2 : decode cX6_squares 2 = .ok (.iload_n 2, 1) := jo_28 (jw1 jdcX6_squares_0 2 rfl rfl)
theorem dX6_squares_3 : decode cX6_squares 3 = .ok (.iconst 0, 1) := jo_3 (jw1 jdcX6_squares_0 3 rfl rfl)
theorem dX6_squares_4 : decode cX6_squares 4 = .ok (.invokevirtual 149, 3) := jo_182 (a := 0) (b := 149) (jw3 jdcX6_squares_0 4 rfl rfl) rfl
theorem dX6_squares_7 : decode cX6_squares 7 = .ok (.astore_n 3, 1) := jo_78 (jw1 jdcX6_squares_0 7 rfl rfl)
theorem dX6_squares_8 : decode cX6_squares 8 = .ok (.aload_n 3, 1) := jo_45 (jw1 jdcX6_squares_0 8 rfl rfl)
theorem dX6_squares_9 : decode cX6_squares 9 = .ok (.ifnonnull 7, 3) := jo_199 (a := 0) (b := 7) (jw3 jdcX6_squares_0 9 rfl rfl) rfl
theorem dX6_squares_12 : decode cX6_squares 12 = .ok (.ldc2_w 159, 3) := jo_20 (a := 0) (b := 159) (jw3 jdcX6_squares_0 12 rfl rfl) rfl
theorem dX6_squares_15 : decode cX6_squares 15 = .ok (.lreturn, 1) := jo_173 (jw1 jdcX6_squares_0 15 rfl rfl)
theorem dX6_squares_16 : decode cX6_squares 16 = .ok (.aload_n 3, 1) := jo_45 (jw1 jdcX6_squares_0 16 rfl rfl)
theorem dX6_squares_17 : decode cX6_squares 17 = .ok (.iload_n 2, 1) := jo_28 (jw1 jdcX6_squares_0 17 rfl rfl)
theorem dX6_squares_18 : decode cX6_squares 18 = .ok (.invokevirtual 153, 3) := jo_182 (a := 0) (b := 153) (jw3 jdcX6_squares_0 18 rfl rfl) rfl
theorem dX6_squares_21 : decode cX6_squares 21 = .ok (.ifCond .eq 14, 3) := jo_153 (a := 0) (b := 14) (jw3 jdcX6_squares_0 21 rfl rfl) rfl
theorem dX6_squares_24 : decode cX6_squares 24 = .ok (.aload_n 3, 1) := jo_45 (jw1 jdcX6_squares_0 24 rfl rfl)
theorem dX6_squares_25 : decode cX6_squares 25 = .ok (.getfield 161, 3) := jo_180 (a := 0) (b := 161) (jw3 jdcX6_squares_0 25 rfl rfl) rfl
theorem jdcX6_squares_16 : jwk (cX6_squares.data.toList.drop 28) [28, 184, 0, 165, 167, 0, 6, 20, 0, 168, 173] = true := by decide +kernel
theorem dX6_squares_28 : decode cX6_squares 28 = .ok (.iload_n 2, 1) := jo_28 (jw1 jdcX6_squares_16 0 rfl rfl)
theorem dX6_squares_29 : decode cX6_squares 29 = .ok (.invokestatic 165, 3) := jo_184 (a := 0) (b := 165) (jw3 jdcX6_squares_16 1 rfl rfl) rfl
theorem dX6_squares_32 : decode cX6_squares 32 = .ok (.goto 6, 3) := jo_167 (a := 0) (b := 6) (jw3 jdcX6_squares_16 4 rfl rfl) rfl
theorem dX6_squares_35 : decode cX6_squares 35 = .ok (.ldc2_w 168, 3) := jo_20 (a := 0) (b := 168) (jw3 jdcX6_squares_16 7 rfl rfl) rfl
theorem dX6_squares_38 : decode cX6_squares 38 = .ok (.lreturn, 1) := jo_173 (jw1 jdcX6_squares_16 10 rfl rfl)
theorem jdcX6_rings_0 : jwk (cX6_rings.data.toList.drop 0) [42, 27, 28, 6, 182, 0, 149, 78, 45, 199, 0, 6, 16, 254, 172, 45, 28, 4, 100, 182, 0, 153, 153, 0, 16] = true := by decide +kernel
theorem dX6_rings_0 : decode cX6_rings 0 = .ok (.aload_n 0, 1) := jo_42 (jw1 jdcX6_rings_0 0 rfl rfl)
theorem dX6_rings_1 : decode cX6_rings 1 = .ok (.iload_n 1, 1) := jo_27 (jw1 jdcX6_rings_0 1 rfl rfl)
theorem dX6_rings_2 : decode cX6_rings 2 = .ok (.iload_n 2, 1) := jo_28 (jw1 jdcX6_rings_0 2 rfl rfl)
theorem dX6_rings_3 : decode cX6_rings 3 = .ok (.iconst 3, 1) := jo_6 (jw1 jdcX6_rings_0 3 rfl rfl)
theorem dX6_rings_4 : decode cX6_rings 4 = .ok (.invokevirtual 149, 3) := jo_182 (a := 0) (b := 149) (jw3 jdcX6_rings_0 4 rfl rfl) rfl
theorem dX6_rings_7 : decode cX6_rings 7 = .ok (.astore_n 3, 1) := jo_78 (jw1 jdcX6_rings_0 7 rfl rfl)
theorem dX6_rings_8 : decode cX6_rings 8 = .ok (.aload_n 3, 1) := jo_45 (jw1 jdcX6_rings_0 8 rfl rfl)
theorem dX6_rings_9 : decode cX6_rings 9 = .ok (.ifnonnull 6, 3) := jo_199 (a := 0) (b := 6) (jw3 jdcX6_rings_0 9 rfl rfl) rfl
theorem dX6_rings_12 : decode cX6_rings 12 = .ok (.bipush (-2), 2) := jo_16 (a := 254) (jw2 jdcX6_rings_0 12 rfl rfl) rfl
theorem dX6_rings_14 : decode cX6_rings 14 = .ok (.ireturn, 1) := jo_172 (jw1 jdcX6_rings_0 14 rfl rfl)
theorem dX6_rings_15 : decode cX6_rings 15 = .ok (.aload_n 3, 1) := jo_45 (jw1 jdcX6_rings_0 15 rfl rfl)
theorem dX6_rings_16 : decode cX6_rings 16 = .ok (.iload_n 2, 1) := jo_28 (jw1 jdcX6_rings_0 16 rfl rfl)
theorem dX6_rings_17 : decode cX6_rings 17 = .ok (.iconst 1, 1) := jo_4 (jw1 jdcX6_rings_0 17 rfl rfl)
theorem dX6_rings_18 : decode cX6_rings 18 = .ok (.isub, 1) := jo_100 (jw1 jdcX6_rings_0 18 rfl rfl)
theorem dX6_rings_19 : decode cX6_rings 19 = .ok (.invokevirtual 153, 3) := jo_182 (a := 0) (b := 153) (jw3 jdcX6_rings_0 19 rfl rfl) rfl
theorem dX6_rings_22 : decode cX6_rings 22 = .ok (.ifCond .eq 16, 3) := jo_153 (a := 0) (b := 16) (jw3 jdcX6_rings_0 22 rfl rfl) rfl
theorem jdcX6_rings_16 : jwk (cX6_rings.data.toList.drop 25) [45, 180, 0, 170, 28, 4, 100, 184, 0, 110, 167, 0, 5, 16, 251, 172] = true := by decide +kernel
theorem dX6_rings_25 : decode cX6_rings 25 = .ok (.aload_n 3, 1) := jo_45 (jw1 jdcX6_rings_16 0 rfl rfl)
theorem dX6_rings_26 : decode cX6_rings 26 = .ok (.getfield 170, 3) := jo_180 (a := 0) (b := 170) (jw3 jdcX6_rings_16 1 rfl rfl) rfl
theorem dX6_rings_29 : decode cX6_rings 29 = .ok (.iload_n 2, 1) := jo_28 (jw1 jdcX6_rings_16 4 rfl rfl)
theorem dX6_rings_30 : decode cX6_rings 30 = .ok (.iconst 1, 1) := jo_4 (jw1 jdcX6_rings_16 5 rfl rfl)
theorem dX6_rings_31 : decode cX6_rings 31 = .ok (.isub, 1) := jo_100 (jw1 jdcX6_rings_16 6 rfl rfl)
theorem dX6_rings_32 : decode cX6_rings 32 = .ok (.invokestatic 110, 3) := jo_184 (a := 0) (b := 110) (jw3 jdcX6_rings_16 7 rfl rfl) rfl
theorem dX6_rings_35 : decode cX6_rings 35 = .ok (.goto 5, 3) := jo_167 (a := 0) (b := 5) (jw3 jdcX6_rings_16 10 rfl rfl) rfl
theorem dX6_rings_38 : decode cX6_rings 38 = .ok (.bipush (-5), 2) := jo_16 (a := 251) (jw2 jdcX6_rings_16 13 rfl rfl) rfl
theorem dX6_rings_40 : decode cX6_rings 40 = .ok (.ireturn, 1) := jo_172 (jw1 jdcX6_rings_16 15 rfl rfl)
theorem jdcX6_bridges_0 : jwk (cX6_bridges.data.toList.drop 0) [42, 27, 28, 4, 182, 0, 149, 78, 45, 199, 0, 6, 16, 254, 172, 45, 28, 182, 0, 153, 153, 0, 14, 45, 180, 0, 173] = true := by decide +kernel
theorem dX6_bridges_0 : decode cX6_bridges 0 = .ok (.aload_n 0, 1) := jo_42 (jw1 jdcX6_bridges_0 0 rfl rfl)
theorem dX6_bridges_1 : decode cX6_bridges 1 = .ok (.iload_n 1, 1) := jo_27 (jw1 jdcX6_bridges_0 1 rfl rfl)
theorem dX6_bridges_2 : decode cX6_bridges 2 = .ok (.iload_n 2, 1) := jo_28 (jw1 jdcX6_bridges_0 2 rfl rfl)
theorem dX6_bridges_3 : decode cX6_bridges 3 = .ok (.iconst 1, 1) := jo_4 (jw1 jdcX6_bridges_0 3 rfl rfl)
theorem dX6_bridges_4 : decode cX6_bridges 4 = .ok (.invokevirtual 149, 3) := jo_182 (a := 0) (b := 149) (jw3 jdcX6_bridges_0 4 rfl rfl) rfl
theorem dX6_bridges_7 : decode cX6_bridges 7 = .ok (.astore_n 3, 1) := jo_78 (jw1 jdcX6_bridges_0 7 rfl rfl)
theorem dX6_bridges_8 : decode cX6_bridges 8 = .ok (.aload_n 3, 1) := jo_45 (jw1 jdcX6_bridges_0 8 rfl rfl)
theorem dX6_bridges_9 : decode cX6_bridges 9 = .ok (.ifnonnull 6, 3) := jo_199 (a := 0) (b := 6) (jw3 jdcX6_bridges_0 9 rfl rfl) rfl
theorem dX6_bridges_12 : decode cX6_bridges 12 = .ok (.bipush (-2), 2) := jo_16 (a := 254) (jw2 jdcX6_bridges_0 12 rfl rfl) rfl
theorem dX6_bridges_14 : decode cX6_bridges 14 = .ok (.ireturn, 1) := jo_172 (jw1 jdcX6_bridges_0 14 rfl rfl)
theorem dX6_bridges_15 : decode cX6_bridges 15 = .ok (.aload_n 3, 1) := jo_45 (jw1 jdcX6_bridges_0 15 rfl rfl)
theorem dX6_bridges_16 : decode cX6_bridges 16 = .ok (.iload_n 2, 1) := jo_28 (jw1 jdcX6_bridges_0 16 rfl rfl)
theorem dX6_bridges_17 : decode cX6_bridges 17 = .ok (.invokevirtual 153, 3) := jo_182 (a := 0) (b := 153) (jw3 jdcX6_bridges_0 17 rfl rfl) rfl
theorem dX6_bridges_20 : decode cX6_bridges 20 = .ok (.ifCond .eq 14, 3) := jo_153 (a := 0) (b := 14) (jw3 jdcX6_bridges_0 20 rfl rfl) rfl
theorem dX6_bridges_23 : decode cX6_bridges 23 = .ok (.aload_n 3, 1) := jo_45 (jw1 jdcX6_bridges_0 23 rfl rfl)
theorem dX6_bridges_24 : decode cX6_bridges 24 = .ok (.getfield 173, 3) := jo_180 (a := 0) (b := 173) (jw3 jdcX6_bridges_0 24 rfl rfl) rfl
theorem jdcX6_bridges_16 : jwk (cX6_bridges.data.toList.drop 27) [28, 184, 0, 110, 167, 0, 5, 16, 251, 172] = true := by decide +kernel
theorem dX6_bridges_27 : decode cX6_bridges 27 = .ok (.iload_n 2, 1) := jo_28 (jw1 jdcX6_bridges_16 0 rfl rfl)
theorem dX6_bridges_28 : decode cX6_bridges 28 = .ok (.invokestatic 110, 3) := jo_184 (a := 0) (b := 110) (jw3 jdcX6_bridges_16 1 rfl rfl) rfl
theorem dX6_bridges_31 : decode cX6_bridges 31 = .ok (.goto 5, 3) := jo_167 (a := 0) (b := 5) (jw3 jdcX6_bridges_16 4 rfl rfl) rfl
theorem dX6_bridges_34 : decode cX6_bridges 34 = .ok (.bipush (-5), 2) := jo_16 (a := 251) (jw2 jdcX6_bridges_16 7 rfl rfl) rfl
theorem dX6_bridges_36 : decode cX6_bridges 36 = .ok (.ireturn, 1) := jo_172 (jw1 jdcX6_bridges_16 9 rfl rfl)
theorem jdcX6_forms_0 : jwk (cX6_forms.data.toList.drop 0) [42, 27, 28, 3, 182, 0, 149, 78, 45, 198, 0, 9, 28, 16, 7, 164, 0, 6, 16, 254, 172, 45, 28, 182, 0, 153] = true := by decide +kernel
theorem dX6_forms_0 : decode cX6_forms 0 = .ok (.aload_n 0, 1) := jo_42 (jw1 jdcX6_forms_0 0 rfl rfl)
theorem dX6_forms_1 : decode cX6_forms 1 = .ok (.iload_n 1, 1) := jo_27 (jw1 jdcX6_forms_0 1 rfl rfl)
theorem dX6_forms_2 : decode cX6_forms 2 = .ok (.iload_n 2, 1) := jo_28 (jw1 jdcX6_forms_0 2 rfl rfl)
theorem dX6_forms_3 : decode cX6_forms 3 = .ok (.iconst 0, 1) := jo_3 (jw1 jdcX6_forms_0 3 rfl rfl)
theorem dX6_forms_4 : decode cX6_forms 4 = .ok (.invokevirtual 149, 3) := jo_182 (a := 0) (b := 149) (jw3 jdcX6_forms_0 4 rfl rfl) rfl
theorem dX6_forms_7 : decode cX6_forms 7 = .ok (.astore_n 3, 1) := jo_78 (jw1 jdcX6_forms_0 7 rfl rfl)
theorem dX6_forms_8 : decode cX6_forms 8 = .ok (.aload_n 3, 1) := jo_45 (jw1 jdcX6_forms_0 8 rfl rfl)
theorem dX6_forms_9 : decode cX6_forms 9 = .ok (.ifnull 9, 3) := jo_198 (a := 0) (b := 9) (jw3 jdcX6_forms_0 9 rfl rfl) rfl
theorem dX6_forms_12 : decode cX6_forms 12 = .ok (.iload_n 2, 1) := jo_28 (jw1 jdcX6_forms_0 12 rfl rfl)
theorem dX6_forms_13 : decode cX6_forms 13 = .ok (.bipush 7, 2) := jo_16 (a := 7) (jw2 jdcX6_forms_0 13 rfl rfl) rfl
theorem dX6_forms_15 : decode cX6_forms 15 = .ok (.if_icmp .le 6, 3) := jo_164 (a := 0) (b := 6) (jw3 jdcX6_forms_0 15 rfl rfl) rfl
theorem dX6_forms_18 : decode cX6_forms 18 = .ok (.bipush (-2), 2) := jo_16 (a := 254) (jw2 jdcX6_forms_0 18 rfl rfl) rfl
theorem dX6_forms_20 : decode cX6_forms 20 = .ok (.ireturn, 1) := jo_172 (jw1 jdcX6_forms_0 20 rfl rfl)
theorem dX6_forms_21 : decode cX6_forms 21 = .ok (.aload_n 3, 1) := jo_45 (jw1 jdcX6_forms_0 21 rfl rfl)
theorem dX6_forms_22 : decode cX6_forms 22 = .ok (.iload_n 2, 1) := jo_28 (jw1 jdcX6_forms_0 22 rfl rfl)
theorem dX6_forms_23 : decode cX6_forms 23 = .ok (.invokevirtual 153, 3) := jo_182 (a := 0) (b := 153) (jw3 jdcX6_forms_0 23 rfl rfl) rfl
theorem jdcX6_forms_16 : jwk (cX6_forms.data.toList.drop 26) [153, 0, 17, 45, 180, 0, 156, 28, 184, 0, 110, 17, 11, 184, 164, 0, 6, 16, 251, 172, 45, 180, 0, 176, 28, 184, 0, 110, 2, 160, 0, 28, 42] = true := by decide +kernel
theorem dX6_forms_26 : decode cX6_forms 26 = .ok (.ifCond .eq 17, 3) := jo_153 (a := 0) (b := 17) (jw3 jdcX6_forms_16 0 rfl rfl) rfl
theorem dX6_forms_29 : decode cX6_forms 29 = .ok (.aload_n 3, 1) := jo_45 (jw1 jdcX6_forms_16 3 rfl rfl)
theorem dX6_forms_30 : decode cX6_forms 30 = .ok (.getfield 156, 3) := jo_180 (a := 0) (b := 156) (jw3 jdcX6_forms_16 4 rfl rfl) rfl
theorem dX6_forms_33 : decode cX6_forms 33 = .ok (.iload_n 2, 1) := jo_28 (jw1 jdcX6_forms_16 7 rfl rfl)
theorem dX6_forms_34 : decode cX6_forms 34 = .ok (.invokestatic 110, 3) := jo_184 (a := 0) (b := 110) (jw3 jdcX6_forms_16 8 rfl rfl) rfl
theorem dX6_forms_37 : decode cX6_forms 37 = .ok (.sipush 3000, 3) := jo_17 (a := 11) (b := 184) (jw3 jdcX6_forms_16 11 rfl rfl) rfl
theorem dX6_forms_40 : decode cX6_forms 40 = .ok (.if_icmp .le 6, 3) := jo_164 (a := 0) (b := 6) (jw3 jdcX6_forms_16 14 rfl rfl) rfl
theorem dX6_forms_43 : decode cX6_forms 43 = .ok (.bipush (-5), 2) := jo_16 (a := 251) (jw2 jdcX6_forms_16 17 rfl rfl) rfl
theorem dX6_forms_45 : decode cX6_forms 45 = .ok (.ireturn, 1) := jo_172 (jw1 jdcX6_forms_16 19 rfl rfl)
theorem dX6_forms_46 : decode cX6_forms 46 = .ok (.aload_n 3, 1) := jo_45 (jw1 jdcX6_forms_16 20 rfl rfl)
theorem dX6_forms_47 : decode cX6_forms 47 = .ok (.getfield 176, 3) := jo_180 (a := 0) (b := 176) (jw3 jdcX6_forms_16 21 rfl rfl) rfl
theorem dX6_forms_50 : decode cX6_forms 50 = .ok (.iload_n 2, 1) := jo_28 (jw1 jdcX6_forms_16 24 rfl rfl)
theorem dX6_forms_51 : decode cX6_forms 51 = .ok (.invokestatic 110, 3) := jo_184 (a := 0) (b := 110) (jw3 jdcX6_forms_16 25 rfl rfl) rfl
theorem dX6_forms_54 : decode cX6_forms 54 = .ok (.iconst (-1), 1) := jo_2 (jw1 jdcX6_forms_16 28 rfl rfl)
theorem dX6_forms_55 : decode cX6_forms 55 = .ok (.if_icmp .ne 28, 3) := jo_160 (a := 0) (b := 28) (jw3 jdcX6_forms_16 29 rfl rfl) rfl
theorem dX6_forms_58 : decode cX6_forms 58 = .ok (.aload_n 0, 1) := jo_42 (jw1 jdcX6_forms_16 32 rfl rfl)
theorem jdcX6_forms_32 : jwk (cX6_forms.data.toList.drop 59) [180, 0, 22, 27, 182, 0, 52, 45, 180, 0, 176, 28, 42, 180, 0, 22, 28, 3, 184, 0, 179, 184, 0, 183, 45, 180, 0, 176, 28, 184, 0, 110] = true := by decide +kernel
theorem dX6_forms_59 : decode cX6_forms 59 = .ok (.getfield 22, 3) := jo_180 (a := 0) (b := 22) (jw3 jdcX6_forms_32 0 rfl rfl) rfl
theorem dX6_forms_62 : decode cX6_forms 62 = .ok (.iload_n 1, 1) := jo_27 (jw1 jdcX6_forms_32 3 rfl rfl)
theorem dX6_forms_63 : decode cX6_forms 63 = .ok (.invokevirtual 52, 3) := jo_182 (a := 0) (b := 52) (jw3 jdcX6_forms_32 4 rfl rfl) rfl
theorem dX6_forms_66 : decode cX6_forms 66 = .ok (.aload_n 3, 1) := jo_45 (jw1 jdcX6_forms_32 7 rfl rfl)
theorem dX6_forms_67 : decode cX6_forms 67 = .ok (.getfield 176, 3) := jo_180 (a := 0) (b := 176) (jw3 jdcX6_forms_32 8 rfl rfl) rfl
theorem dX6_forms_70 : decode cX6_forms 70 = .ok (.iload_n 2, 1) := jo_28 (jw1 jdcX6_forms_32 11 rfl rfl)
theorem dX6_forms_71 : decode cX6_forms 71 = .ok (.aload_n 0, 1) := jo_42 (jw1 jdcX6_forms_32 12 rfl rfl)
theorem dX6_forms_72 : decode cX6_forms 72 = .ok (.getfield 22, 3) := jo_180 (a := 0) (b := 22) (jw3 jdcX6_forms_32 13 rfl rfl) rfl
theorem dX6_forms_75 : decode cX6_forms 75 = .ok (.iload_n 2, 1) := jo_28 (jw1 jdcX6_forms_32 16 rfl rfl)
theorem dX6_forms_76 : decode cX6_forms 76 = .ok (.iconst 0, 1) := jo_3 (jw1 jdcX6_forms_32 17 rfl rfl)
theorem dX6_forms_77 : decode cX6_forms 77 = .ok (.invokestatic 179, 3) := jo_184 (a := 0) (b := 179) (jw3 jdcX6_forms_32 18 rfl rfl) rfl
theorem dX6_forms_80 : decode cX6_forms 80 = .ok (.invokestatic 183, 3) := jo_184 (a := 0) (b := 183) (jw3 jdcX6_forms_32 21 rfl rfl) rfl
theorem dX6_forms_83 : decode cX6_forms 83 = .ok (.aload_n 3, 1) := jo_45 (jw1 jdcX6_forms_32 24 rfl rfl)
theorem dX6_forms_84 : decode cX6_forms 84 = .ok (.getfield 176, 3) := jo_180 (a := 0) (b := 176) (jw3 jdcX6_forms_32 25 rfl rfl) rfl
theorem dX6_forms_87 : decode cX6_forms 87 = .ok (.iload_n 2, 1) := jo_28 (jw1 jdcX6_forms_32 28 rfl rfl)
theorem dX6_forms_88 : decode cX6_forms 88 = .ok (.invokestatic 110, 3) := jo_184 (a := 0) (b := 110) (jw3 jdcX6_forms_32 29 rfl rfl) rfl
theorem jdcX6_forms_48 : jwk (cX6_forms.data.toList.drop 91) [172] = true := by decide +kernel
theorem dX6_forms_91 : decode cX6_forms 91 = .ok (.ireturn, 1) := jo_172 (jw1 jdcX6_forms_48 0 rfl rfl)
theorem jdcX6_reach_0 : jwk (cX6_reach.data.toList.drop 0) [42, 27, 28, 4, 182, 0, 149, 78, 45, 198, 0, 14, 27, 5, 159, 0, 9, 28, 16, 6, 164, 0, 6, 16, 254, 172] = true := by decide +kernel
theorem dX6_reach_0 : decode cX6_reach 0 = .ok (.aload_n 0, 1) := jo_42 (jw1 jdcX6_reach_0 0 rfl rfl)
theorem dX6_reach_1 : decode cX6_reach 1 = .ok (.iload_n 1, 1) := jo_27 (jw1 jdcX6_reach_0 1 rfl rfl)
theorem dX6_reach_2 : decode cX6_reach 2 = .ok (.iload_n 2, 1) := jo_28 (jw1 jdcX6_reach_0 2 rfl rfl)
theorem dX6_reach_3 : decode cX6_reach 3 = .ok (.iconst 1, 1) := jo_4 (jw1 jdcX6_reach_0 3 rfl rfl)
theorem dX6_reach_4 : decode cX6_reach 4 = .ok (.invokevirtual 149, 3) := jo_182 (a := 0) (b := 149) (jw3 jdcX6_reach_0 4 rfl rfl) rfl
theorem dX6_reach_7 : decode cX6_reach 7 = .ok (.astore_n 3, 1) := jo_78 (jw1 jdcX6_reach_0 7 rfl rfl)
theorem dX6_reach_8 : decode cX6_reach 8 = .ok (.aload_n 3, 1) := jo_45 (jw1 jdcX6_reach_0 8 rfl rfl)
theorem dX6_reach_9 : decode cX6_reach 9 = .ok (.ifnull 14, 3) := jo_198 (a := 0) (b := 14) (jw3 jdcX6_reach_0 9 rfl rfl) rfl
theorem dX6_reach_12 : decode cX6_reach 12 = .ok (.iload_n 1, 1) := jo_27 (jw1 jdcX6_reach_0 12 rfl rfl)
theorem dX6_reach_13 : decode cX6_reach 13 = .ok (.iconst 2, 1) := jo_5 (jw1 jdcX6_reach_0 13 rfl rfl)
theorem dX6_reach_14 : decode cX6_reach 14 = .ok (.if_icmp .eq 9, 3) := jo_159 (a := 0) (b := 9) (jw3 jdcX6_reach_0 14 rfl rfl) rfl
theorem dX6_reach_17 : decode cX6_reach 17 = .ok (.iload_n 2, 1) := jo_28 (jw1 jdcX6_reach_0 17 rfl rfl)
theorem dX6_reach_18 : decode cX6_reach 18 = .ok (.bipush 6, 2) := jo_16 (a := 6) (jw2 jdcX6_reach_0 18 rfl rfl) rfl
theorem dX6_reach_20 : decode cX6_reach 20 = .ok (.if_icmp .le 6, 3) := jo_164 (a := 0) (b := 6) (jw3 jdcX6_reach_0 20 rfl rfl) rfl
theorem dX6_reach_23 : decode cX6_reach 23 = .ok (.bipush (-2), 2) := jo_16 (a := 254) (jw2 jdcX6_reach_0 23 rfl rfl) rfl
theorem dX6_reach_25 : decode cX6_reach 25 = .ok (.ireturn, 1) := jo_172 (jw1 jdcX6_reach_0 25 rfl rfl)
theorem jdcX6_reach_16 : jwk (cX6_reach.data.toList.drop 26) [4, 54, 4, 3, 54, 5, 21, 5, 28, 162, 0, 18, 21, 4, 27, 184, 0, 187, 104, 54, 4, 132, 5, 1, 167, 255, 238, 21, 4, 17, 39, 16] = true := by decide +kernel
theorem dX6_reach_26 : decode cX6_reach 26 = .ok (.iconst 1, 1) := jo_4 (jw1 jdcX6_reach_16 0 rfl rfl)
theorem dX6_reach_27 : decode cX6_reach 27 = .ok (.istore 4, 2) := jo_54 (jw2 jdcX6_reach_16 1 rfl rfl)
theorem dX6_reach_29 : decode cX6_reach 29 = .ok (.iconst 0, 1) := jo_3 (jw1 jdcX6_reach_16 3 rfl rfl)
theorem dX6_reach_30 : decode cX6_reach 30 = .ok (.istore 5, 2) := jo_54 (jw2 jdcX6_reach_16 4 rfl rfl)
theorem dX6_reach_32 : decode cX6_reach 32 = .ok (.iload 5, 2) := jo_21 (jw2 jdcX6_reach_16 6 rfl rfl)
theorem dX6_reach_34 : decode cX6_reach 34 = .ok (.iload_n 2, 1) := jo_28 (jw1 jdcX6_reach_16 8 rfl rfl)
theorem dX6_reach_35 : decode cX6_reach 35 = .ok (.if_icmp .ge 18, 3) := jo_162 (a := 0) (b := 18) (jw3 jdcX6_reach_16 9 rfl rfl) rfl
theorem dX6_reach_38 : decode cX6_reach 38 = .ok (.iload 4, 2) := jo_21 (jw2 jdcX6_reach_16 12 rfl rfl)
theorem dX6_reach_40 : decode cX6_reach 40 = .ok (.iload_n 1, 1) := jo_27 (jw1 jdcX6_reach_16 14 rfl rfl)
theorem dX6_reach_41 : decode cX6_reach 41 = .ok (.invokestatic 187, 3) := jo_184 (a := 0) (b := 187) (jw3 jdcX6_reach_16 15 rfl rfl) rfl
theorem dX6_reach_44 : decode cX6_reach 44 = .ok (.imul, 1) := jo_104 (jw1 jdcX6_reach_16 18 rfl rfl)
theorem dX6_reach_45 : decode cX6_reach 45 = .ok (.istore 4, 2) := jo_54 (jw2 jdcX6_reach_16 19 rfl rfl)
theorem dX6_reach_47 : decode cX6_reach 47 = .ok (.iinc 5 1, 3) := jo_132 (a := 5) (b := 1) (jw3 jdcX6_reach_16 21 rfl rfl) rfl
theorem dX6_reach_50 : decode cX6_reach 50 = .ok (.goto (-18), 3) := jo_167 (a := 255) (b := 238) (jw3 jdcX6_reach_16 24 rfl rfl) rfl
theorem dX6_reach_53 : decode cX6_reach 53 = .ok (.iload 4, 2) := jo_21 (jw2 jdcX6_reach_16 27 rfl rfl)
theorem dX6_reach_55 : decode cX6_reach 55 = .ok (.sipush 10000, 3) := jo_17 (a := 39) (b := 16) (jw3 jdcX6_reach_16 29 rfl rfl) rfl
theorem jdcX6_reach_32 : jwk (cX6_reach.data.toList.drop 58) [164, 0, 6, 16, 251, 172, 45, 180, 0, 190, 28, 184, 0, 110, 2, 160, 0, 29, 45, 180, 0, 190, 28, 187, 0, 193, 89, 27, 28] = true := by decide +kernel
theorem dX6_reach_58 : decode cX6_reach 58 = .ok (.if_icmp .le 6, 3) := jo_164 (a := 0) (b := 6) (jw3 jdcX6_reach_32 0 rfl rfl) rfl
theorem dX6_reach_61 : decode cX6_reach 61 = .ok (.bipush (-5), 2) := jo_16 (a := 251) (jw2 jdcX6_reach_32 3 rfl rfl) rfl
theorem dX6_reach_63 : decode cX6_reach 63 = .ok (.ireturn, 1) := jo_172 (jw1 jdcX6_reach_32 5 rfl rfl)
theorem dX6_reach_64 : decode cX6_reach 64 = .ok (.aload_n 3, 1) := jo_45 (jw1 jdcX6_reach_32 6 rfl rfl)
theorem dX6_reach_65 : decode cX6_reach 65 = .ok (.getfield 190, 3) := jo_180 (a := 0) (b := 190) (jw3 jdcX6_reach_32 7 rfl rfl) rfl
theorem dX6_reach_68 : decode cX6_reach 68 = .ok (.iload_n 2, 1) := jo_28 (jw1 jdcX6_reach_32 10 rfl rfl)
theorem dX6_reach_69 : decode cX6_reach 69 = .ok (.invokestatic 110, 3) := jo_184 (a := 0) (b := 110) (jw3 jdcX6_reach_32 11 rfl rfl) rfl
theorem dX6_reach_72 : decode cX6_reach 72 = .ok (.iconst (-1), 1) := jo_2 (jw1 jdcX6_reach_32 14 rfl rfl)
theorem dX6_reach_73 : decode cX6_reach 73 = .ok (.if_icmp .ne 29, 3) := jo_160 (a := 0) (b := 29) (jw3 jdcX6_reach_32 15 rfl rfl) rfl
theorem dX6_reach_76 : decode cX6_reach 76 = .ok (.aload_n 3, 1) := jo_45 (jw1 jdcX6_reach_32 18 rfl rfl)
theorem dX6_reach_77 : decode cX6_reach 77 = .ok (.getfield 190, 3) := jo_180 (a := 0) (b := 190) (jw3 jdcX6_reach_32 19 rfl rfl) rfl
theorem dX6_reach_80 : decode cX6_reach 80 = .ok (.iload_n 2, 1) := jo_28 (jw1 jdcX6_reach_32 22 rfl rfl)
theorem dX6_reach_81 : decode cX6_reach 81 = .ok (.new 193, 3) := jo_187 (a := 0) (b := 193) (jw3 jdcX6_reach_32 23 rfl rfl) rfl
theorem dX6_reach_84 : decode cX6_reach 84 = .ok (.dup, 1) := jo_89 (jw1 jdcX6_reach_32 26 rfl rfl)
theorem dX6_reach_85 : decode cX6_reach 85 = .ok (.iload_n 1, 1) := jo_27 (jw1 jdcX6_reach_32 27 rfl rfl)
theorem dX6_reach_86 : decode cX6_reach 86 = .ok (.iload_n 2, 1) := jo_28 (jw1 jdcX6_reach_32 28 rfl rfl)
theorem jdcX6_reach_48 : jwk (cX6_reach.data.toList.drop 87) [21, 4, 183, 0, 195, 42, 180, 0, 22, 182, 0, 198, 184, 0, 183, 45, 180, 0, 190, 28, 184, 0, 110, 172] = true := by decide +kernel
theorem dX6_reach_87 : decode cX6_reach 87 = .ok (.iload 4, 2) := jo_21 (jw2 jdcX6_reach_48 0 rfl rfl)
theorem dX6_reach_89 : decode cX6_reach 89 = .ok (.invokespecial 195, 3) := jo_183 (a := 0) (b := 195) (jw3 jdcX6_reach_48 2 rfl rfl) rfl
theorem dX6_reach_92 : decode cX6_reach 92 = .ok (.aload_n 0, 1) := jo_42 (jw1 jdcX6_reach_48 5 rfl rfl)
theorem dX6_reach_93 : decode cX6_reach 93 = .ok (.getfield 22, 3) := jo_180 (a := 0) (b := 22) (jw3 jdcX6_reach_48 6 rfl rfl) rfl
theorem dX6_reach_96 : decode cX6_reach 96 = .ok (.invokevirtual 198, 3) := jo_182 (a := 0) (b := 198) (jw3 jdcX6_reach_48 9 rfl rfl) rfl
theorem dX6_reach_99 : decode cX6_reach 99 = .ok (.invokestatic 183, 3) := jo_184 (a := 0) (b := 183) (jw3 jdcX6_reach_48 12 rfl rfl) rfl
theorem dX6_reach_102 : decode cX6_reach 102 = .ok (.aload_n 3, 1) := jo_45 (jw1 jdcX6_reach_48 15 rfl rfl)
theorem dX6_reach_103 : decode cX6_reach 103 = .ok (.getfield 190, 3) := jo_180 (a := 0) (b := 190) (jw3 jdcX6_reach_48 16 rfl rfl) rfl
theorem dX6_reach_106 : decode cX6_reach 106 = .ok (.iload_n 2, 1) := jo_28 (jw1 jdcX6_reach_48 19 rfl rfl)
theorem dX6_reach_107 : decode cX6_reach 107 = .ok (.invokestatic 110, 3) := jo_184 (a := 0) (b := 110) (jw3 jdcX6_reach_48 20 rfl rfl) rfl
theorem dX6_reach_110 : decode cX6_reach 110 = .ok (.ireturn, 1) := jo_172 (jw1 jdcX6_reach_48 23 rfl rfl)
theorem jdcX6_board_0 : jwk (cX6_board.data.toList.drop 0) [27, 5, 161, 0, 20, 27, 16, 6, 163, 0, 14, 28, 5, 161, 0, 9, 28, 16, 6, 164, 0, 6, 16, 254, 172, 42, 180, 0, 42] = true := by decide +kernel
theorem dX6_board_0 : decode cX6_board 0 = .ok (.iload_n 1, 1) := jo_27 (jw1 jdcX6_board_0 0 rfl rfl)
theorem dX6_board_1 : decode cX6_board 1 = .ok (.iconst 2, 1) := jo_5 (jw1 jdcX6_board_0 1 rfl rfl)
theorem dX6_board_2 : decode cX6_board 2 = .ok (.if_icmp .lt 20, 3) := jo_161 (a := 0) (b := 20) (jw3 jdcX6_board_0 2 rfl rfl) rfl
theorem dX6_board_5 : decode cX6_board 5 = .ok (.iload_n 1, 1) := jo_27 (jw1 jdcX6_board_0 5 rfl rfl)
theorem dX6_board_6 : decode cX6_board 6 = .ok (.bipush 6, 2) := jo_16 (a := 6) (jw2 jdcX6_board_0 6 rfl rfl) rfl
theorem dX6_board_8 : decode cX6_board 8 = .ok (.if_icmp .gt 14, 3) := jo_163 (a := 0) (b := 14) (jw3 jdcX6_board_0 8 rfl rfl) rfl
theorem dX6_board_11 : decode cX6_board 11 = .ok (.iload_n 2, 1) := jo_28 (jw1 jdcX6_board_0 11 rfl rfl)
theorem dX6_board_12 : decode cX6_board 12 = .ok (.iconst 2, 1) := jo_5 (jw1 jdcX6_board_0 12 rfl rfl)
theorem dX6_board_13 : decode cX6_board 13 = .ok (.if_icmp .lt 9, 3) := jo_161 (a := 0) (b := 9) (jw3 jdcX6_board_0 13 rfl rfl) rfl
theorem dX6_board_16 : decode cX6_board 16 = .ok (.iload_n 2, 1) := jo_28 (jw1 jdcX6_board_0 16 rfl rfl)
theorem dX6_board_17 : decode cX6_board 17 = .ok (.bipush 6, 2) := jo_16 (a := 6) (jw2 jdcX6_board_0 17 rfl rfl) rfl
theorem dX6_board_19 : decode cX6_board 19 = .ok (.if_icmp .le 6, 3) := jo_164 (a := 0) (b := 6) (jw3 jdcX6_board_0 19 rfl rfl) rfl
theorem dX6_board_22 : decode cX6_board 22 = .ok (.bipush (-2), 2) := jo_16 (a := 254) (jw2 jdcX6_board_0 22 rfl rfl) rfl
theorem dX6_board_24 : decode cX6_board 24 = .ok (.ireturn, 1) := jo_172 (jw1 jdcX6_board_0 24 rfl rfl)
theorem dX6_board_25 : decode cX6_board 25 = .ok (.aload_n 0, 1) := jo_42 (jw1 jdcX6_board_0 25 rfl rfl)
theorem dX6_board_26 : decode cX6_board 26 = .ok (.getfield 42, 3) := jo_180 (a := 0) (b := 42) (jw3 jdcX6_board_0 26 rfl rfl) rfl
theorem jdcX6_board_16 : jwk (cX6_board.data.toList.drop 29) [27, 28, 182, 0, 202, 4, 172] = true := by decide +kernel
theorem dX6_board_29 : decode cX6_board 29 = .ok (.iload_n 1, 1) := jo_27 (jw1 jdcX6_board_16 0 rfl rfl)
theorem dX6_board_30 : decode cX6_board 30 = .ok (.iload_n 2, 1) := jo_28 (jw1 jdcX6_board_16 1 rfl rfl)
theorem dX6_board_31 : decode cX6_board 31 = .ok (.invokevirtual 202, 3) := jo_182 (a := 0) (b := 202) (jw3 jdcX6_board_16 2 rfl rfl) rfl
theorem dX6_board_34 : decode cX6_board 34 = .ok (.iconst 1, 1) := jo_4 (jw1 jdcX6_board_16 5 rfl rfl)
theorem dX6_board_35 : decode cX6_board 35 = .ok (.ireturn, 1) := jo_172 (jw1 jdcX6_board_16 6 rfl rfl)
theorem jdcX6_hole_0 : jwk (cX6_hole.data.toList.drop 0) [27, 155, 0, 29, 27, 42, 180, 0, 42, 180, 0, 205, 162, 0, 18, 28, 155, 0, 14, 28, 42, 180, 0, 42, 180, 0, 208, 161, 0, 6, 16, 254, 172] = true := by decide +kernel
theorem dX6_hole_0 : decode cX6_hole 0 = .ok (.iload_n 1, 1) := jo_27 (jw1 jdcX6_hole_0 0 rfl rfl)
theorem dX6_hole_1 : decode cX6_hole 1 = .ok (.ifCond .lt 29, 3) := jo_155 (a := 0) (b := 29) (jw3 jdcX6_hole_0 1 rfl rfl) rfl
theorem dX6_hole_4 : decode cX6_hole 4 = .ok (.iload_n 1, 1) := jo_27 (jw1 jdcX6_hole_0 4 rfl rfl)
theorem dX6_hole_5 : decode cX6_hole 5 = .ok (.aload_n 0, 1) := jo_42 (jw1 jdcX6_hole_0 5 rfl rfl)
theorem dX6_hole_6 : decode cX6_hole 6 = .ok (.getfield 42, 3) := jo_180 (a := 0) (b := 42) (jw3 jdcX6_hole_0 6 rfl rfl) rfl
theorem dX6_hole_9 : decode cX6_hole 9 = .ok (.getfield 205, 3) := jo_180 (a := 0) (b := 205) (jw3 jdcX6_hole_0 9 rfl rfl) rfl
theorem dX6_hole_12 : decode cX6_hole 12 = .ok (.if_icmp .ge 18, 3) := jo_162 (a := 0) (b := 18) (jw3 jdcX6_hole_0 12 rfl rfl) rfl
theorem dX6_hole_15 : decode cX6_hole 15 = .ok (.iload_n 2, 1) := jo_28 (jw1 jdcX6_hole_0 15 rfl rfl)
theorem dX6_hole_16 : decode cX6_hole 16 = .ok (.ifCond .lt 14, 3) := jo_155 (a := 0) (b := 14) (jw3 jdcX6_hole_0 16 rfl rfl) rfl
theorem dX6_hole_19 : decode cX6_hole 19 = .ok (.iload_n 2, 1) := jo_28 (jw1 jdcX6_hole_0 19 rfl rfl)
theorem dX6_hole_20 : decode cX6_hole 20 = .ok (.aload_n 0, 1) := jo_42 (jw1 jdcX6_hole_0 20 rfl rfl)
theorem dX6_hole_21 : decode cX6_hole 21 = .ok (.getfield 42, 3) := jo_180 (a := 0) (b := 42) (jw3 jdcX6_hole_0 21 rfl rfl) rfl
theorem dX6_hole_24 : decode cX6_hole 24 = .ok (.getfield 208, 3) := jo_180 (a := 0) (b := 208) (jw3 jdcX6_hole_0 24 rfl rfl) rfl
theorem dX6_hole_27 : decode cX6_hole 27 = .ok (.if_icmp .lt 6, 3) := jo_161 (a := 0) (b := 6) (jw3 jdcX6_hole_0 27 rfl rfl) rfl
theorem dX6_hole_30 : decode cX6_hole 30 = .ok (.bipush (-2), 2) := jo_16 (a := 254) (jw2 jdcX6_hole_0 30 rfl rfl) rfl
theorem dX6_hole_32 : decode cX6_hole 32 = .ok (.ireturn, 1) := jo_172 (jw1 jdcX6_hole_0 32 rfl rfl)
theorem jdcX6_hole_16 : jwk (cX6_hole.data.toList.drop 33) [42, 180, 0, 42, 27, 28, 182, 0, 211, 29, 159, 0, 15, 42, 180, 0, 42, 27, 28, 182, 0, 214, 153, 0, 6, 16, 253, 172, 42] = true := by decide +kernel
theorem dX6_hole_33 : decode cX6_hole 33 = .ok (.aload_n 0, 1) := jo_42 (jw1 jdcX6_hole_16 0 rfl rfl)
theorem dX6_hole_34 : decode cX6_hole 34 = .ok (.getfield 42, 3) := jo_180 (a := 0) (b := 42) (jw3 jdcX6_hole_16 1 rfl rfl) rfl
theorem dX6_hole_37 : decode cX6_hole 37 = .ok (.iload_n 1, 1) := jo_27 (jw1 jdcX6_hole_16 4 rfl rfl)
theorem dX6_hole_38 : decode cX6_hole 38 = .ok (.iload_n 2, 1) := jo_28 (jw1 jdcX6_hole_16 5 rfl rfl)
theorem dX6_hole_39 : decode cX6_hole 39 = .ok (.invokevirtual 211, 3) := jo_182 (a := 0) (b := 211) (jw3 jdcX6_hole_16 6 rfl rfl) rfl
theorem dX6_hole_42 : decode cX6_hole 42 = .ok (.iload_n 3, 1) := jo_29 (jw1 jdcX6_hole_16 9 rfl rfl)
theorem dX6_hole_43 : decode cX6_hole 43 = .ok (.if_icmp .eq 15, 3) := jo_159 (a := 0) (b := 15) (jw3 jdcX6_hole_16 10 rfl rfl) rfl
theorem dX6_hole_46 : decode cX6_hole 46 = .ok (.aload_n 0, 1) := jo_42 (jw1 jdcX6_hole_16 13 rfl rfl)
theorem dX6_hole_47 : decode cX6_hole 47 = .ok (.getfield 42, 3) := jo_180 (a := 0) (b := 42) (jw3 jdcX6_hole_16 14 rfl rfl) rfl
theorem dX6_hole_50 : decode cX6_hole 50 = .ok (.iload_n 1, 1) := jo_27 (jw1 jdcX6_hole_16 17 rfl rfl)
theorem dX6_hole_51 : decode cX6_hole 51 = .ok (.iload_n 2, 1) := jo_28 (jw1 jdcX6_hole_16 18 rfl rfl)
theorem dX6_hole_52 : decode cX6_hole 52 = .ok (.invokevirtual 214, 3) := jo_182 (a := 0) (b := 214) (jw3 jdcX6_hole_16 19 rfl rfl) rfl
theorem dX6_hole_55 : decode cX6_hole 55 = .ok (.ifCond .eq 6, 3) := jo_153 (a := 0) (b := 6) (jw3 jdcX6_hole_16 22 rfl rfl) rfl
theorem dX6_hole_58 : decode cX6_hole 58 = .ok (.bipush (-3), 2) := jo_16 (a := 253) (jw2 jdcX6_hole_16 25 rfl rfl) rfl
theorem dX6_hole_60 : decode cX6_hole 60 = .ok (.ireturn, 1) := jo_172 (jw1 jdcX6_hole_16 27 rfl rfl)
theorem dX6_hole_61 : decode cX6_hole 61 = .ok (.aload_n 0, 1) := jo_42 (jw1 jdcX6_hole_16 28 rfl rfl)
theorem jdcX6_hole_32 : jwk (cX6_hole.data.toList.drop 62) [180, 0, 42, 27, 28, 182, 0, 217, 4, 172] = true := by decide +kernel
theorem dX6_hole_62 : decode cX6_hole 62 = .ok (.getfield 42, 3) := jo_180 (a := 0) (b := 42) (jw3 jdcX6_hole_32 0 rfl rfl) rfl
theorem dX6_hole_65 : decode cX6_hole 65 = .ok (.iload_n 1, 1) := jo_27 (jw1 jdcX6_hole_32 3 rfl rfl)
theorem dX6_hole_66 : decode cX6_hole 66 = .ok (.iload_n 2, 1) := jo_28 (jw1 jdcX6_hole_32 4 rfl rfl)
theorem dX6_hole_67 : decode cX6_hole 67 = .ok (.invokevirtual 217, 3) := jo_182 (a := 0) (b := 217) (jw3 jdcX6_hole_32 5 rfl rfl) rfl
theorem dX6_hole_70 : decode cX6_hole 70 = .ok (.iconst 1, 1) := jo_4 (jw1 jdcX6_hole_32 8 rfl rfl)
theorem dX6_hole_71 : decode cX6_hole 71 = .ok (.ireturn, 1) := jo_172 (jw1 jdcX6_hole_32 9 rfl rfl)
theorem jdcX6_ways_0 : jwk (cX6_ways.data.toList.drop 0) [42, 180, 0, 42, 182, 0, 220, 154, 0, 6, 16, 251, 172, 27, 153, 0, 13, 42, 180, 0, 42, 180, 0, 222, 167, 0, 10, 42, 180, 0, 42, 180, 0, 225, 172] = true := by decide +kernel
theorem dX6_ways_0 : decode cX6_ways 0 = .ok (.aload_n 0, 1) := jo_42 (jw1 jdcX6_ways_0 0 rfl rfl)
theorem dX6_ways_1 : decode cX6_ways 1 = .ok (.getfield 42, 3) := jo_180 (a := 0) (b := 42) (jw3 jdcX6_ways_0 1 rfl rfl) rfl
theorem dX6_ways_4 : decode cX6_ways 4 = .ok (.invokevirtual 220, 3) := jo_182 (a := 0) (b := 220) (jw3 jdcX6_ways_0 4 rfl rfl) rfl
theorem dX6_ways_7 : decode cX6_ways 7 = .ok (.ifCond .ne 6, 3) := jo_154 (a := 0) (b := 6) (jw3 jdcX6_ways_0 7 rfl rfl) rfl
theorem dX6_ways_10 : decode cX6_ways 10 = .ok (.bipush (-5), 2) := jo_16 (a := 251) (jw2 jdcX6_ways_0 10 rfl rfl) rfl
theorem dX6_ways_12 : decode cX6_ways 12 = .ok (.ireturn, 1) := jo_172 (jw1 jdcX6_ways_0 12 rfl rfl)
theorem dX6_ways_13 : decode cX6_ways 13 = .ok (.iload_n 1, 1) := jo_27 (jw1 jdcX6_ways_0 13 rfl rfl)
theorem dX6_ways_14 : decode cX6_ways 14 = .ok (.ifCond .eq 13, 3) := jo_153 (a := 0) (b := 13) (jw3 jdcX6_ways_0 14 rfl rfl) rfl
theorem dX6_ways_17 : decode cX6_ways 17 = .ok (.aload_n 0, 1) := jo_42 (jw1 jdcX6_ways_0 17 rfl rfl)
theorem dX6_ways_18 : decode cX6_ways 18 = .ok (.getfield 42, 3) := jo_180 (a := 0) (b := 42) (jw3 jdcX6_ways_0 18 rfl rfl) rfl
theorem dX6_ways_21 : decode cX6_ways 21 = .ok (.getfield 222, 3) := jo_180 (a := 0) (b := 222) (jw3 jdcX6_ways_0 21 rfl rfl) rfl
theorem dX6_ways_24 : decode cX6_ways 24 = .ok (.goto 10, 3) := jo_167 (a := 0) (b := 10) (jw3 jdcX6_ways_0 24 rfl rfl) rfl
theorem dX6_ways_27 : decode cX6_ways 27 = .ok (.aload_n 0, 1) := jo_42 (jw1 jdcX6_ways_0 27 rfl rfl)
theorem dX6_ways_28 : decode cX6_ways 28 = .ok (.getfield 42, 3) := jo_180 (a := 0) (b := 42) (jw3 jdcX6_ways_0 28 rfl rfl) rfl
theorem dX6_ways_31 : decode cX6_ways 31 = .ok (.getfield 225, 3) := jo_180 (a := 0) (b := 225) (jw3 jdcX6_ways_0 31 rfl rfl) rfl
theorem dX6_ways_34 : decode cX6_ways 34 = .ok (.ireturn, 1) := jo_172 (jw1 jdcX6_ways_0 34 rfl rfl)
theorem jdcX6_waysOf_0 : jwk (cX6_waysOf.data.toList.drop 0) [27, 156, 0, 6, 16, 254, 172, 42, 180, 0, 42, 182, 0, 220, 153, 0, 17, 42, 180, 0, 42, 180, 0, 228, 27, 184, 0, 110, 167, 0, 5, 16, 251, 172] = true := by decide +kernel
theorem dX6_waysOf_0 : decode cX6_waysOf 0 = .ok (.iload_n 1, 1) := jo_27 (jw1 jdcX6_waysOf_0 0 rfl rfl)
theorem dX6_waysOf_1 : decode cX6_waysOf 1 = .ok (.ifCond .ge 6, 3) := jo_156 (a := 0) (b := 6) (jw3 jdcX6_waysOf_0 1 rfl rfl) rfl
theorem dX6_waysOf_4 : decode cX6_waysOf 4 = .ok (.bipush (-2), 2) := jo_16 (a := 254) (jw2 jdcX6_waysOf_0 4 rfl rfl) rfl
theorem dX6_waysOf_6 : decode cX6_waysOf 6 = .ok (.ireturn, 1) := jo_172 (jw1 jdcX6_waysOf_0 6 rfl rfl)
theorem dX6_waysOf_7 : decode cX6_waysOf 7 = .ok (.aload_n 0, 1) := jo_42 (jw1 jdcX6_waysOf_0 7 rfl rfl)
theorem dX6_waysOf_8 : decode cX6_waysOf 8 = .ok (.getfield 42, 3) := jo_180 (a := 0) (b := 42) (jw3 jdcX6_waysOf_0 8 rfl rfl) rfl
theorem dX6_waysOf_11 : decode cX6_waysOf 11 = .ok (.invokevirtual 220, 3) := jo_182 (a := 0) (b := 220) (jw3 jdcX6_waysOf_0 11 rfl rfl) rfl
theorem dX6_waysOf_14 : decode cX6_waysOf 14 = .ok (.ifCond .eq 17, 3) := jo_153 (a := 0) (b := 17) (jw3 jdcX6_waysOf_0 14 rfl rfl) rfl
theorem dX6_waysOf_17 : decode cX6_waysOf 17 = .ok (.aload_n 0, 1) := jo_42 (jw1 jdcX6_waysOf_0 17 rfl rfl)
theorem dX6_waysOf_18 : decode cX6_waysOf 18 = .ok (.getfield 42, 3) := jo_180 (a := 0) (b := 42) (jw3 jdcX6_waysOf_0 18 rfl rfl) rfl
theorem dX6_waysOf_21 : decode cX6_waysOf 21 = .ok (.getfield 228, 3) := jo_180 (a := 0) (b := 228) (jw3 jdcX6_waysOf_0 21 rfl rfl) rfl
theorem dX6_waysOf_24 : decode cX6_waysOf 24 = .ok (.iload_n 1, 1) := jo_27 (jw1 jdcX6_waysOf_0 24 rfl rfl)
theorem dX6_waysOf_25 : decode cX6_waysOf 25 = .ok (.invokestatic 110, 3) := jo_184 (a := 0) (b := 110) (jw3 jdcX6_waysOf_0 25 rfl rfl) rfl
theorem dX6_waysOf_28 : decode cX6_waysOf 28 = .ok (.goto 5, 3) := jo_167 (a := 0) (b := 5) (jw3 jdcX6_waysOf_0 28 rfl rfl) rfl
theorem dX6_waysOf_31 : decode cX6_waysOf 31 = .ok (.bipush (-5), 2) := jo_16 (a := 251) (jw2 jdcX6_waysOf_0 31 rfl rfl) rfl
theorem dX6_waysOf_33 : decode cX6_waysOf 33 = .ok (.ireturn, 1) := jo_172 (jw1 jdcX6_waysOf_0 33 rfl rfl)
theorem jdcX6_shortest_0 : jwk (cX6_shortest.data.toList.drop 0) [42, 180, 0, 42, 182, 0, 231, 172] = true := by decide +kernel
theorem dX6_shortest_0 : decode cX6_shortest 0 = .ok (.aload_n 0, 1) := jo_42 (jw1 jdcX6_shortest_0 0 rfl rfl)
theorem dX6_shortest_1 : decode cX6_shortest 1 = .ok (.getfield 42, 3) := jo_180 (a := 0) (b := 42) (jw3 jdcX6_shortest_0 1 rfl rfl) rfl
theorem dX6_shortest_4 : decode cX6_shortest 4 = .ok (.invokevirtual 231, 3) := jo_182 (a := 0) (b := 231) (jw3 jdcX6_shortest_0 4 rfl rfl) rfl
theorem dX6_shortest_7 : decode cX6_shortest 7 = .ok (.ireturn, 1) := jo_172 (jw1 jdcX6_shortest_0 7 rfl rfl)
theorem jdcX6_count_0 : jwk (cX6_count.data.toList.drop 0) [27, 170, 0, 0, 0, 0, 0, 63, 0, 0, 0, 0, 0, 0, 0, 3, 0, 0, 0, 31, 0, 0, 0, 36, 0, 0, 0, 47, 0, 0, 0, 55, 42, 180, 0, 15, 172, 42, 180, 0, 42, 180, 0, 234, 184, 0, 238, 172, 42, 180, 0, 42, 180, 0, 205, 172, 42, 180, 0, 42, 180, 0, 208] = true := by decide +kernel
theorem dX6_count_0 : decode cX6_count 0 = .ok (.iload_n 1, 1) := jo_27 (jw1 jdcX6_count_0 0 rfl rfl)
theorem dX6_count_32 : decode cX6_count 32 = .ok (.aload_n 0, 1) := jo_42 (jw1 jdcX6_count_0 32 rfl rfl)
theorem dX6_count_33 : decode cX6_count 33 = .ok (.getfield 15, 3) := jo_180 (a := 0) (b := 15) (jw3 jdcX6_count_0 33 rfl rfl) rfl
theorem dX6_count_36 : decode cX6_count 36 = .ok (.ireturn, 1) := jo_172 (jw1 jdcX6_count_0 36 rfl rfl)
theorem dX6_count_37 : decode cX6_count 37 = .ok (.aload_n 0, 1) := jo_42 (jw1 jdcX6_count_0 37 rfl rfl)
theorem dX6_count_38 : decode cX6_count 38 = .ok (.getfield 42, 3) := jo_180 (a := 0) (b := 42) (jw3 jdcX6_count_0 38 rfl rfl) rfl
theorem dX6_count_41 : decode cX6_count 41 = .ok (.getfield 234, 3) := jo_180 (a := 0) (b := 234) (jw3 jdcX6_count_0 41 rfl rfl) rfl
theorem dX6_count_44 : decode cX6_count 44 = .ok (.invokestatic 238, 3) := jo_184 (a := 0) (b := 238) (jw3 jdcX6_count_0 44 rfl rfl) rfl
theorem dX6_count_47 : decode cX6_count 47 = .ok (.ireturn, 1) := jo_172 (jw1 jdcX6_count_0 47 rfl rfl)
theorem dX6_count_48 : decode cX6_count 48 = .ok (.aload_n 0, 1) := jo_42 (jw1 jdcX6_count_0 48 rfl rfl)
theorem dX6_count_49 : decode cX6_count 49 = .ok (.getfield 42, 3) := jo_180 (a := 0) (b := 42) (jw3 jdcX6_count_0 49 rfl rfl) rfl
theorem dX6_count_52 : decode cX6_count 52 = .ok (.getfield 205, 3) := jo_180 (a := 0) (b := 205) (jw3 jdcX6_count_0 52 rfl rfl) rfl
theorem dX6_count_55 : decode cX6_count 55 = .ok (.ireturn, 1) := jo_172 (jw1 jdcX6_count_0 55 rfl rfl)
theorem dX6_count_56 : decode cX6_count 56 = .ok (.aload_n 0, 1) := jo_42 (jw1 jdcX6_count_0 56 rfl rfl)
theorem dX6_count_57 : decode cX6_count 57 = .ok (.getfield 42, 3) := jo_180 (a := 0) (b := 42) (jw3 jdcX6_count_0 57 rfl rfl) rfl
theorem dX6_count_60 : decode cX6_count 60 = .ok (.getfield 208, 3) := jo_180 (a := 0) (b := 208) (jw3 jdcX6_count_0 60 rfl rfl) rfl
theorem jdcX6_count_16 : jwk (cX6_count.data.toList.drop 63) [172, 16, 254, 172] = true := by decide +kernel
theorem dX6_count_63 : decode cX6_count 63 = .ok (.ireturn, 1) := jo_172 (jw1 jdcX6_count_16 0 rfl rfl)
theorem dX6_count_64 : decode cX6_count 64 = .ok (.bipush (-2), 2) := jo_16 (a := 254) (jw2 jdcX6_count_16 1 rfl rfl) rfl
theorem dX6_count_66 : decode cX6_count 66 = .ok (.ireturn, 1) := jo_172 (jw1 jdcX6_count_16 3 rfl rfl)
theorem jdcX6_digest_0 : jwk (cX6_digest.data.toList.drop 0) [20, 0, 244, 64, 3, 62, 29, 7, 162, 0, 22, 20, 0, 246, 31, 105, 42, 29, 182, 0, 248, 133, 97, 64] = true := by decide +kernel
theorem dX6_digest_0 : decode cX6_digest 0 = .ok (.ldc2_w 244, 3) := jo_20 (a := 0) (b := 244) (jw3 jdcX6_digest_0 0 rfl rfl) rfl
theorem dX6_digest_3 : decode cX6_digest 3 = .ok (.lstore_n 1, 1) := jo_64 (jw1 jdcX6_digest_0 3 rfl rfl)
theorem dX6_digest_4 : decode cX6_digest 4 = .ok (.iconst 0, 1) := jo_3 (jw1 jdcX6_digest_0 4 rfl rfl)
theorem dX6_digest_5 : decode cX6_digest 5 = .ok (.istore_n 3, 1) := jo_62 (jw1 jdcX6_digest_0 5 rfl rfl)
theorem dX6_digest_6 : decode cX6_digest 6 = .ok (.iload_n 3, 1) := jo_29 (jw1 jdcX6_digest_0 6 rfl rfl)
theorem dX6_digest_7 : decode cX6_digest 7 = .ok (.iconst 4, 1) := jo_7 (jw1 jdcX6_digest_0 7 rfl rfl)
theorem dX6_digest_8 : decode cX6_digest 8 = .ok (.if_icmp .ge 22, 3) := jo_162 (a := 0) (b := 22) (jw3 jdcX6_digest_0 8 rfl rfl) rfl
theorem dX6_digest_11 : decode cX6_digest 11 = .ok (.ldc2_w 246, 3) := jo_20 (a := 0) (b := 246) (jw3 jdcX6_digest_0 11 rfl rfl) rfl
theorem dX6_digest_14 : decode cX6_digest 14 = .ok (.lload_n 1, 1) := jo_31 (jw1 jdcX6_digest_0 14 rfl rfl)
theorem dX6_digest_15 : decode cX6_digest 15 = .ok (.lmul, 1) := jo_105 (jw1 jdcX6_digest_0 15 rfl rfl)
theorem dX6_digest_16 : decode cX6_digest 16 = .ok (.aload_n 0, 1) := jo_42 (jw1 jdcX6_digest_0 16 rfl rfl)
theorem dX6_digest_17 : decode cX6_digest 17 = .ok (.iload_n 3, 1) := jo_29 (jw1 jdcX6_digest_0 17 rfl rfl)
theorem dX6_digest_18 : decode cX6_digest 18 = .ok (.invokevirtual 248, 3) := jo_182 (a := 0) (b := 248) (jw3 jdcX6_digest_0 18 rfl rfl) rfl
theorem dX6_digest_21 : decode cX6_digest 21 = .ok (.i2l, 1) := jo_133 (jw1 jdcX6_digest_0 21 rfl rfl)
theorem dX6_digest_22 : decode cX6_digest 22 = .ok (.ladd, 1) := jo_97 (jw1 jdcX6_digest_0 22 rfl rfl)
theorem dX6_digest_23 : decode cX6_digest 23 = .ok (.lstore_n 1, 1) := jo_64 (jw1 jdcX6_digest_0 23 rfl rfl)
theorem jdcX6_digest_16 : jwk (cX6_digest.data.toList.drop 24) [132, 3, 1, 167, 255, 235, 3, 62, 29, 42, 180, 0, 15, 162, 0, 28, 42, 29, 182, 0, 55, 58, 4, 25, 4, 198, 0, 10, 25, 4, 31] = true := by decide +kernel
theorem dX6_digest_24 : decode cX6_digest 24 = .ok (.iinc 3 1, 3) := jo_132 (a := 3) (b := 1) (jw3 jdcX6_digest_16 0 rfl rfl) rfl
theorem dX6_digest_27 : decode cX6_digest 27 = .ok (.goto (-21), 3) := jo_167 (a := 255) (b := 235) (jw3 jdcX6_digest_16 3 rfl rfl) rfl
theorem dX6_digest_30 : decode cX6_digest 30 = .ok (.iconst 0, 1) := jo_3 (jw1 jdcX6_digest_16 6 rfl rfl)
theorem dX6_digest_31 : decode cX6_digest 31 = .ok (.istore_n 3, 1) := jo_62 (jw1 jdcX6_digest_16 7 rfl rfl)
theorem dX6_digest_32 : decode cX6_digest 32 = .ok (.iload_n 3, 1) := jo_29 (jw1 jdcX6_digest_16 8 rfl rfl)
theorem dX6_digest_33 : decode cX6_digest 33 = .ok (.aload_n 0, 1) := jo_42 (jw1 jdcX6_digest_16 9 rfl rfl)
theorem dX6_digest_34 : decode cX6_digest 34 = .ok (.getfield 15, 3) := jo_180 (a := 0) (b := 15) (jw3 jdcX6_digest_16 10 rfl rfl) rfl
theorem dX6_digest_37 : decode cX6_digest 37 = .ok (.if_icmp .ge 28, 3) := jo_162 (a := 0) (b := 28) (jw3 jdcX6_digest_16 13 rfl rfl) rfl
theorem dX6_digest_40 : decode cX6_digest 40 = .ok (.aload_n 0, 1) := jo_42 (jw1 jdcX6_digest_16 16 rfl rfl)
theorem dX6_digest_41 : decode cX6_digest 41 = .ok (.iload_n 3, 1) := jo_29 (jw1 jdcX6_digest_16 17 rfl rfl)
theorem dX6_digest_42 : decode cX6_digest 42 = .ok (.invokevirtual 55, 3) := jo_182 (a := 0) (b := 55) (jw3 jdcX6_digest_16 18 rfl rfl) rfl
theorem dX6_digest_45 : decode cX6_digest 45 = .ok (.astore 4, 2) := jo_58 (jw2 jdcX6_digest_16 21 rfl rfl)
theorem dX6_digest_47 : decode cX6_digest 47 = .ok (.aload 4, 2) := jo_25 (jw2 jdcX6_digest_16 23 rfl rfl)
theorem dX6_digest_49 : decode cX6_digest 49 = .ok (.ifnull 10, 3) := jo_198 (a := 0) (b := 10) (jw3 jdcX6_digest_16 25 rfl rfl) rfl
theorem dX6_digest_52 : decode cX6_digest 52 = .ok (.aload 4, 2) := jo_25 (jw2 jdcX6_digest_16 28 rfl rfl)
theorem dX6_digest_54 : decode cX6_digest 54 = .ok (.lload_n 1, 1) := jo_31 (jw1 jdcX6_digest_16 30 rfl rfl)
theorem jdcX6_digest_32 : jwk (cX6_digest.data.toList.drop 55) [182, 0, 251, 64, 132, 3, 1, 167, 255, 226, 42, 180, 0, 42, 31, 182, 0, 255, 173] = true := by decide +kernel
theorem dX6_digest_55 : decode cX6_digest 55 = .ok (.invokevirtual 251, 3) := jo_182 (a := 0) (b := 251) (jw3 jdcX6_digest_32 0 rfl rfl) rfl
theorem dX6_digest_58 : decode cX6_digest 58 = .ok (.lstore_n 1, 1) := jo_64 (jw1 jdcX6_digest_32 3 rfl rfl)
theorem dX6_digest_59 : decode cX6_digest 59 = .ok (.iinc 3 1, 3) := jo_132 (a := 3) (b := 1) (jw3 jdcX6_digest_32 4 rfl rfl) rfl
theorem dX6_digest_62 : decode cX6_digest 62 = .ok (.goto (-30), 3) := jo_167 (a := 255) (b := 226) (jw3 jdcX6_digest_32 7 rfl rfl) rfl
theorem dX6_digest_65 : decode cX6_digest 65 = .ok (.aload_n 0, 1) := jo_42 (jw1 jdcX6_digest_32 10 rfl rfl)
theorem dX6_digest_66 : decode cX6_digest 66 = .ok (.getfield 42, 3) := jo_180 (a := 0) (b := 42) (jw3 jdcX6_digest_32 11 rfl rfl) rfl
theorem dX6_digest_69 : decode cX6_digest 69 = .ok (.lload_n 1, 1) := jo_31 (jw1 jdcX6_digest_32 14 rfl rfl)
theorem dX6_digest_70 : decode cX6_digest 70 = .ok (.invokevirtual 255, 3) := jo_182 (a := 0) (b := 255) (jw3 jdcX6_digest_32 15 rfl rfl) rfl
theorem dX6_digest_73 : decode cX6_digest 73 = .ok (.lreturn, 1) := jo_173 (jw1 jdcX6_digest_32 18 rfl rfl)
theorem jdcX6_rowOf_0 : jwk (cX6_rowOf.data.toList.drop 0) [27, 155, 0, 29, 27, 42, 180, 0, 15, 162, 0, 21, 27, 42, 180, 0, 11, 190, 162, 0, 12, 42, 180, 0, 11, 27, 50, 167, 0, 4] = true := by decide +kernel
theorem dX6_rowOf_0 : decode cX6_rowOf 0 = .ok (.iload_n 1, 1) := jo_27 (jw1 jdcX6_rowOf_0 0 rfl rfl)
theorem dX6_rowOf_1 : decode cX6_rowOf 1 = .ok (.ifCond .lt 29, 3) := jo_155 (a := 0) (b := 29) (jw3 jdcX6_rowOf_0 1 rfl rfl) rfl
theorem dX6_rowOf_4 : decode cX6_rowOf 4 = .ok (.iload_n 1, 1) := jo_27 (jw1 jdcX6_rowOf_0 4 rfl rfl)
theorem dX6_rowOf_5 : decode cX6_rowOf 5 = .ok (.aload_n 0, 1) := jo_42 (jw1 jdcX6_rowOf_0 5 rfl rfl)
theorem dX6_rowOf_6 : decode cX6_rowOf 6 = .ok (.getfield 15, 3) := jo_180 (a := 0) (b := 15) (jw3 jdcX6_rowOf_0 6 rfl rfl) rfl
theorem dX6_rowOf_9 : decode cX6_rowOf 9 = .ok (.if_icmp .ge 21, 3) := jo_162 (a := 0) (b := 21) (jw3 jdcX6_rowOf_0 9 rfl rfl) rfl
theorem dX6_rowOf_12 : decode cX6_rowOf 12 = .ok (.iload_n 1, 1) := jo_27 (jw1 jdcX6_rowOf_0 12 rfl rfl)
theorem dX6_rowOf_13 : decode cX6_rowOf 13 = .ok (.aload_n 0, 1) := jo_42 (jw1 jdcX6_rowOf_0 13 rfl rfl)
theorem dX6_rowOf_14 : decode cX6_rowOf 14 = .ok (.getfield 11, 3) := jo_180 (a := 0) (b := 11) (jw3 jdcX6_rowOf_0 14 rfl rfl) rfl
theorem dX6_rowOf_17 : decode cX6_rowOf 17 = .ok (.arraylength, 1) := jo_190 (jw1 jdcX6_rowOf_0 17 rfl rfl)
theorem dX6_rowOf_18 : decode cX6_rowOf 18 = .ok (.if_icmp .ge 12, 3) := jo_162 (a := 0) (b := 12) (jw3 jdcX6_rowOf_0 18 rfl rfl) rfl
theorem dX6_rowOf_21 : decode cX6_rowOf 21 = .ok (.aload_n 0, 1) := jo_42 (jw1 jdcX6_rowOf_0 21 rfl rfl)
theorem dX6_rowOf_22 : decode cX6_rowOf 22 = .ok (.getfield 11, 3) := jo_180 (a := 0) (b := 11) (jw3 jdcX6_rowOf_0 22 rfl rfl) rfl
theorem dX6_rowOf_25 : decode cX6_rowOf 25 = .ok (.iload_n 1, 1) := jo_27 (jw1 jdcX6_rowOf_0 25 rfl rfl)
theorem dX6_rowOf_26 : decode cX6_rowOf 26 = .ok (.aaload, 1) := jo_50 (jw1 jdcX6_rowOf_0 26 rfl rfl)
theorem dX6_rowOf_27 : decode cX6_rowOf 27 = .ok (.goto 4, 3) := jo_167 (a := 0) (b := 4) (jw3 jdcX6_rowOf_0 27 rfl rfl) rfl
theorem jdcX6_rowOf_16 : jwk (cX6_rowOf.data.toList.drop 30) [1, 176] = true := by decide +kernel
theorem dX6_rowOf_30 : decode cX6_rowOf 30 = .ok (.aconst_null, 1) := jo_1 (jw1 jdcX6_rowOf_16 0 rfl rfl)
theorem dX6_rowOf_31 : decode cX6_rowOf 31 = .ok (.areturn, 1) := jo_176 (jw1 jdcX6_rowOf_16 1 rfl rfl)
theorem jdcX6_tallyFor_0 : jwk (cX6_tallyFor.data.toList.drop 0) [27, 155, 0, 23, 27, 42, 180, 0, 35, 190, 162, 0, 14, 28, 29, 161, 0, 9, 28, 16, 20, 164, 0, 5, 1, 176, 42] = true := by decide +kernel
theorem dX6_tallyFor_0 : decode cX6_tallyFor 0 = .ok (.iload_n 1, 1) := jo_27 (jw1 jdcX6_tallyFor_0 0 rfl rfl)
theorem dX6_tallyFor_1 : decode cX6_tallyFor 1 = .ok (.ifCond .lt 23, 3) := jo_155 (a := 0) (b := 23) (jw3 jdcX6_tallyFor_0 1 rfl rfl) rfl
theorem dX6_tallyFor_4 : decode cX6_tallyFor 4 = .ok (.iload_n 1, 1) := jo_27 (jw1 jdcX6_tallyFor_0 4 rfl rfl)
theorem dX6_tallyFor_5 : decode cX6_tallyFor 5 = .ok (.aload_n 0, 1) := jo_42 (jw1 jdcX6_tallyFor_0 5 rfl rfl)
theorem dX6_tallyFor_6 : decode cX6_tallyFor 6 = .ok (.getfield 35, 3) := jo_180 (a := 0) (b := 35) (jw3 jdcX6_tallyFor_0 6 rfl rfl) rfl
theorem dX6_tallyFor_9 : decode cX6_tallyFor 9 = .ok (.arraylength, 1) := jo_190 (jw1 jdcX6_tallyFor_0 9 rfl rfl)
theorem dX6_tallyFor_10 : decode cX6_tallyFor 10 = .ok (.if_icmp .ge 14, 3) := jo_162 (a := 0) (b := 14) (jw3 jdcX6_tallyFor_0 10 rfl rfl) rfl
theorem dX6_tallyFor_13 : decode cX6_tallyFor 13 = .ok (.iload_n 2, 1) := jo_28 (jw1 jdcX6_tallyFor_0 13 rfl rfl)
theorem dX6_tallyFor_14 : decode cX6_tallyFor 14 = .ok (.iload_n 3, 1) := jo_29 (jw1 jdcX6_tallyFor_0 14 rfl rfl)
theorem dX6_tallyFor_15 : decode cX6_tallyFor 15 = .ok (.if_icmp .lt 9, 3) := jo_161 (a := 0) (b := 9) (jw3 jdcX6_tallyFor_0 15 rfl rfl) rfl
theorem dX6_tallyFor_18 : decode cX6_tallyFor 18 = .ok (.iload_n 2, 1) := jo_28 (jw1 jdcX6_tallyFor_0 18 rfl rfl)
theorem dX6_tallyFor_19 : decode cX6_tallyFor 19 = .ok (.bipush 20, 2) := jo_16 (a := 20) (jw2 jdcX6_tallyFor_0 19 rfl rfl) rfl
theorem dX6_tallyFor_21 : decode cX6_tallyFor 21 = .ok (.if_icmp .le 5, 3) := jo_164 (a := 0) (b := 5) (jw3 jdcX6_tallyFor_0 21 rfl rfl) rfl
theorem dX6_tallyFor_24 : decode cX6_tallyFor 24 = .ok (.aconst_null, 1) := jo_1 (jw1 jdcX6_tallyFor_0 24 rfl rfl)
theorem dX6_tallyFor_25 : decode cX6_tallyFor 25 = .ok (.areturn, 1) := jo_176 (jw1 jdcX6_tallyFor_0 25 rfl rfl)
theorem dX6_tallyFor_26 : decode cX6_tallyFor 26 = .ok (.aload_n 0, 1) := jo_42 (jw1 jdcX6_tallyFor_0 26 rfl rfl)
theorem jdcX6_tallyFor_16 : jwk (cX6_tallyFor.data.toList.drop 27) [180, 0, 35, 27, 50, 58, 4, 25, 4, 199, 0, 21, 187, 0, 33, 89, 27, 183, 1, 0, 58, 4, 42, 180, 0, 35, 27, 25, 4, 83] = true := by decide +kernel
theorem dX6_tallyFor_27 : decode cX6_tallyFor 27 = .ok (.getfield 35, 3) := jo_180 (a := 0) (b := 35) (jw3 jdcX6_tallyFor_16 0 rfl rfl) rfl
theorem dX6_tallyFor_30 : decode cX6_tallyFor 30 = .ok (.iload_n 1, 1) := jo_27 (jw1 jdcX6_tallyFor_16 3 rfl rfl)
theorem dX6_tallyFor_31 : decode cX6_tallyFor 31 = .ok (.aaload, 1) := jo_50 (jw1 jdcX6_tallyFor_16 4 rfl rfl)
theorem dX6_tallyFor_32 : decode cX6_tallyFor 32 = .ok (.astore 4, 2) := jo_58 (jw2 jdcX6_tallyFor_16 5 rfl rfl)
theorem dX6_tallyFor_34 : decode cX6_tallyFor 34 = .ok (.aload 4, 2) := jo_25 (jw2 jdcX6_tallyFor_16 7 rfl rfl)
theorem dX6_tallyFor_36 : decode cX6_tallyFor 36 = .ok (.ifnonnull 21, 3) := jo_199 (a := 0) (b := 21) (jw3 jdcX6_tallyFor_16 9 rfl rfl) rfl
theorem dX6_tallyFor_39 : decode cX6_tallyFor 39 = .ok (.new 33, 3) := jo_187 (a := 0) (b := 33) (jw3 jdcX6_tallyFor_16 12 rfl rfl) rfl
theorem dX6_tallyFor_42 : decode cX6_tallyFor 42 = .ok (.dup, 1) := jo_89 (jw1 jdcX6_tallyFor_16 15 rfl rfl)
theorem dX6_tallyFor_43 : decode cX6_tallyFor 43 = .ok (.iload_n 1, 1) := jo_27 (jw1 jdcX6_tallyFor_16 16 rfl rfl)
theorem dX6_tallyFor_44 : decode cX6_tallyFor 44 = .ok (.invokespecial 256, 3) := jo_183 (a := 1) (b := 0) (jw3 jdcX6_tallyFor_16 17 rfl rfl) rfl
theorem dX6_tallyFor_47 : decode cX6_tallyFor 47 = .ok (.astore 4, 2) := jo_58 (jw2 jdcX6_tallyFor_16 20 rfl rfl)
theorem dX6_tallyFor_49 : decode cX6_tallyFor 49 = .ok (.aload_n 0, 1) := jo_42 (jw1 jdcX6_tallyFor_16 22 rfl rfl)
theorem dX6_tallyFor_50 : decode cX6_tallyFor 50 = .ok (.getfield 35, 3) := jo_180 (a := 0) (b := 35) (jw3 jdcX6_tallyFor_16 23 rfl rfl) rfl
theorem dX6_tallyFor_53 : decode cX6_tallyFor 53 = .ok (.iload_n 1, 1) := jo_27 (jw1 jdcX6_tallyFor_16 26 rfl rfl)
theorem dX6_tallyFor_54 : decode cX6_tallyFor 54 = .ok (.aload 4, 2) := jo_25 (jw2 jdcX6_tallyFor_16 27 rfl rfl)
theorem dX6_tallyFor_56 : decode cX6_tallyFor 56 = .ok (.aastore, 1) := jo_83 (jw1 jdcX6_tallyFor_16 29 rfl rfl)
theorem jdcX6_tallyFor_32 : jwk (cX6_tallyFor.data.toList.drop 57) [25, 4, 176] = true := by decide +kernel
theorem dX6_tallyFor_57 : decode cX6_tallyFor 57 = .ok (.aload 4, 2) := jo_25 (jw2 jdcX6_tallyFor_32 0 rfl rfl)
theorem dX6_tallyFor_59 : decode cX6_tallyFor 59 = .ok (.areturn, 1) := jo_176 (jw1 jdcX6_tallyFor_32 2 rfl rfl)
theorem jdcX6_cell_0 : jwk (cX6_cell.data.toList.drop 0) [42, 198, 0, 19, 27, 155, 0, 15, 27, 42, 190, 162, 0, 9, 42, 27, 46, 167, 0, 4, 3, 172] = true := by decide +kernel
theorem dX6_cell_0 : decode cX6_cell 0 = .ok (.aload_n 0, 1) := jo_42 (jw1 jdcX6_cell_0 0 rfl rfl)
theorem dX6_cell_1 : decode cX6_cell 1 = .ok (.ifnull 19, 3) := jo_198 (a := 0) (b := 19) (jw3 jdcX6_cell_0 1 rfl rfl) rfl
theorem dX6_cell_4 : decode cX6_cell 4 = .ok (.iload_n 1, 1) := jo_27 (jw1 jdcX6_cell_0 4 rfl rfl)
theorem dX6_cell_5 : decode cX6_cell 5 = .ok (.ifCond .lt 15, 3) := jo_155 (a := 0) (b := 15) (jw3 jdcX6_cell_0 5 rfl rfl) rfl
theorem dX6_cell_8 : decode cX6_cell 8 = .ok (.iload_n 1, 1) := jo_27 (jw1 jdcX6_cell_0 8 rfl rfl)
theorem dX6_cell_9 : decode cX6_cell 9 = .ok (.aload_n 0, 1) := jo_42 (jw1 jdcX6_cell_0 9 rfl rfl)
theorem dX6_cell_10 : decode cX6_cell 10 = .ok (.arraylength, 1) := jo_190 (jw1 jdcX6_cell_0 10 rfl rfl)
theorem dX6_cell_11 : decode cX6_cell 11 = .ok (.if_icmp .ge 9, 3) := jo_162 (a := 0) (b := 9) (jw3 jdcX6_cell_0 11 rfl rfl) rfl
theorem dX6_cell_14 : decode cX6_cell 14 = .ok (.aload_n 0, 1) := jo_42 (jw1 jdcX6_cell_0 14 rfl rfl)
theorem dX6_cell_15 : decode cX6_cell 15 = .ok (.iload_n 1, 1) := jo_27 (jw1 jdcX6_cell_0 15 rfl rfl)
theorem dX6_cell_16 : decode cX6_cell 16 = .ok (.iaload, 1) := jo_46 (jw1 jdcX6_cell_0 16 rfl rfl)
theorem dX6_cell_17 : decode cX6_cell 17 = .ok (.goto 4, 3) := jo_167 (a := 0) (b := 4) (jw3 jdcX6_cell_0 17 rfl rfl) rfl
theorem dX6_cell_20 : decode cX6_cell 20 = .ok (.iconst 0, 1) := jo_3 (jw1 jdcX6_cell_0 20 rfl rfl)
theorem dX6_cell_21 : decode cX6_cell 21 = .ok (.ireturn, 1) := jo_172 (jw1 jdcX6_cell_0 21 rfl rfl)
theorem jdcX6_cell__0 : jwk (cX6_cell_.data.toList.drop 0) [42, 198, 0, 19, 27, 155, 0, 15, 27, 42, 190, 162, 0, 9, 42, 27, 47, 167, 0, 4, 9, 173] = true := by decide +kernel
theorem dX6_cell__0 : decode cX6_cell_ 0 = .ok (.aload_n 0, 1) := jo_42 (jw1 jdcX6_cell__0 0 rfl rfl)
theorem dX6_cell__1 : decode cX6_cell_ 1 = .ok (.ifnull 19, 3) := jo_198 (a := 0) (b := 19) (jw3 jdcX6_cell__0 1 rfl rfl) rfl
theorem dX6_cell__4 : decode cX6_cell_ 4 = .ok (.iload_n 1, 1) := jo_27 (jw1 jdcX6_cell__0 4 rfl rfl)
theorem dX6_cell__5 : decode cX6_cell_ 5 = .ok (.ifCond .lt 15, 3) := jo_155 (a := 0) (b := 15) (jw3 jdcX6_cell__0 5 rfl rfl) rfl
theorem dX6_cell__8 : decode cX6_cell_ 8 = .ok (.iload_n 1, 1) := jo_27 (jw1 jdcX6_cell__0 8 rfl rfl)
theorem dX6_cell__9 : decode cX6_cell_ 9 = .ok (.aload_n 0, 1) := jo_42 (jw1 jdcX6_cell__0 9 rfl rfl)
theorem dX6_cell__10 : decode cX6_cell_ 10 = .ok (.arraylength, 1) := jo_190 (jw1 jdcX6_cell__0 10 rfl rfl)
theorem dX6_cell__11 : decode cX6_cell_ 11 = .ok (.if_icmp .ge 9, 3) := jo_162 (a := 0) (b := 9) (jw3 jdcX6_cell__0 11 rfl rfl) rfl
theorem dX6_cell__14 : decode cX6_cell_ 14 = .ok (.aload_n 0, 1) := jo_42 (jw1 jdcX6_cell__0 14 rfl rfl)
theorem dX6_cell__15 : decode cX6_cell_ 15 = .ok (.iload_n 1, 1) := jo_27 (jw1 jdcX6_cell__0 15 rfl rfl)
theorem dX6_cell__16 : decode cX6_cell_ 16 = .ok (.laload, 1) := jo_47 (jw1 jdcX6_cell__0 16 rfl rfl)
theorem dX6_cell__17 : decode cX6_cell_ 17 = .ok (.goto 4, 3) := jo_167 (a := 0) (b := 4) (jw3 jdcX6_cell__0 17 rfl rfl) rfl
theorem dX6_cell__20 : decode cX6_cell_ 20 = .ok (.lconst 0, 1) := jo_9 (jw1 jdcX6_cell__0 20 rfl rfl)
theorem dX6_cell__21 : decode cX6_cell_ 21 = .ok (.lreturn, 1) := jo_173 (jw1 jdcX6_cell__0 21 rfl rfl)
theorem jdcX6_put_0 : jwk (cX6_put.data.toList.drop 0) [42, 198, 0, 17, 27, 155, 0, 13, 27, 42, 190, 162, 0, 7, 42, 27, 28, 79, 177] = true := by decide +kernel
theorem dX6_put_0 : decode cX6_put 0 = .ok (.aload_n 0, 1) := jo_42 (jw1 jdcX6_put_0 0 rfl rfl)
theorem dX6_put_1 : decode cX6_put 1 = .ok (.ifnull 17, 3) := jo_198 (a := 0) (b := 17) (jw3 jdcX6_put_0 1 rfl rfl) rfl
theorem dX6_put_4 : decode cX6_put 4 = .ok (.iload_n 1, 1) := jo_27 (jw1 jdcX6_put_0 4 rfl rfl)
theorem dX6_put_5 : decode cX6_put 5 = .ok (.ifCond .lt 13, 3) := jo_155 (a := 0) (b := 13) (jw3 jdcX6_put_0 5 rfl rfl) rfl
theorem dX6_put_8 : decode cX6_put 8 = .ok (.iload_n 1, 1) := jo_27 (jw1 jdcX6_put_0 8 rfl rfl)
theorem dX6_put_9 : decode cX6_put 9 = .ok (.aload_n 0, 1) := jo_42 (jw1 jdcX6_put_0 9 rfl rfl)
theorem dX6_put_10 : decode cX6_put 10 = .ok (.arraylength, 1) := jo_190 (jw1 jdcX6_put_0 10 rfl rfl)
theorem dX6_put_11 : decode cX6_put 11 = .ok (.if_icmp .ge 7, 3) := jo_162 (a := 0) (b := 7) (jw3 jdcX6_put_0 11 rfl rfl) rfl
theorem dX6_put_14 : decode cX6_put 14 = .ok (.aload_n 0, 1) := jo_42 (jw1 jdcX6_put_0 14 rfl rfl)
theorem dX6_put_15 : decode cX6_put 15 = .ok (.iload_n 1, 1) := jo_27 (jw1 jdcX6_put_0 15 rfl rfl)
theorem dX6_put_16 : decode cX6_put 16 = .ok (.iload_n 2, 1) := jo_28 (jw1 jdcX6_put_0 16 rfl rfl)
theorem dX6_put_17 : decode cX6_put 17 = .ok (.iastore, 1) := jo_79 (jw1 jdcX6_put_0 17 rfl rfl)
theorem dX6_put_18 : decode cX6_put 18 = .ok (.return_, 1) := jo_177 (jw1 jdcX6_put_0 18 rfl rfl)
theorem jdcX7_init_0 : jwk (cX7_init.data.toList.drop 0) [42, 183, 0, 1, 42, 16, 16, 188, 10, 181, 0, 7, 42, 16, 16, 188, 10, 181, 0, 13, 42, 17, 3, 192, 188, 10, 181, 0, 16, 42, 16, 120, 188, 10, 181, 0, 19, 42, 16, 121] = true := by decide +kernel
theorem dX7_init_0 : decode cX7_init 0 = .ok (.aload_n 0, 1) := jo_42 (jw1 jdcX7_init_0 0 rfl rfl)
theorem dX7_init_1 : decode cX7_init 1 = .ok (.invokespecial 1, 3) := jo_183 (a := 0) (b := 1) (jw3 jdcX7_init_0 1 rfl rfl) rfl
theorem dX7_init_4 : decode cX7_init 4 = .ok (.aload_n 0, 1) := jo_42 (jw1 jdcX7_init_0 4 rfl rfl)
theorem dX7_init_5 : decode cX7_init 5 = .ok (.bipush 16, 2) := jo_16 (a := 16) (jw2 jdcX7_init_0 5 rfl rfl) rfl
theorem dX7_init_9 : decode cX7_init 9 = .ok (.putfield 7, 3) := jo_181 (a := 0) (b := 7) (jw3 jdcX7_init_0 9 rfl rfl) rfl
theorem dX7_init_12 : decode cX7_init 12 = .ok (.aload_n 0, 1) := jo_42 (jw1 jdcX7_init_0 12 rfl rfl)
theorem dX7_init_13 : decode cX7_init 13 = .ok (.bipush 16, 2) := jo_16 (a := 16) (jw2 jdcX7_init_0 13 rfl rfl) rfl
theorem dX7_init_17 : decode cX7_init 17 = .ok (.putfield 13, 3) := jo_181 (a := 0) (b := 13) (jw3 jdcX7_init_0 17 rfl rfl) rfl
theorem dX7_init_20 : decode cX7_init 20 = .ok (.aload_n 0, 1) := jo_42 (jw1 jdcX7_init_0 20 rfl rfl)
theorem dX7_init_21 : decode cX7_init 21 = .ok (.sipush 960, 3) := jo_17 (a := 3) (b := 192) (jw3 jdcX7_init_0 21 rfl rfl) rfl
theorem dX7_init_26 : decode cX7_init 26 = .ok (.putfield 16, 3) := jo_181 (a := 0) (b := 16) (jw3 jdcX7_init_0 26 rfl rfl) rfl
theorem dX7_init_29 : decode cX7_init 29 = .ok (.aload_n 0, 1) := jo_42 (jw1 jdcX7_init_0 29 rfl rfl)
theorem dX7_init_30 : decode cX7_init 30 = .ok (.bipush 120, 2) := jo_16 (a := 120) (jw2 jdcX7_init_0 30 rfl rfl) rfl
theorem dX7_init_34 : decode cX7_init 34 = .ok (.putfield 19, 3) := jo_181 (a := 0) (b := 19) (jw3 jdcX7_init_0 34 rfl rfl) rfl
theorem dX7_init_37 : decode cX7_init 37 = .ok (.aload_n 0, 1) := jo_42 (jw1 jdcX7_init_0 37 rfl rfl)
theorem dX7_init_38 : decode cX7_init 38 = .ok (.bipush 121, 2) := jo_16 (a := 121) (jw2 jdcX7_init_0 38 rfl rfl) rfl
theorem jdcX7_init_16 : jwk (cX7_init.data.toList.drop 42) [181, 0, 22, 42, 16, 121, 188, 10, 181, 0, 25, 42, 16, 121, 188, 10, 181, 0, 28, 42, 16, 60, 188, 10, 181, 0, 31, 42, 16, 60, 188, 10, 181, 0, 34, 42, 16, 84, 188, 4, 181, 0, 37] = true := by decide +kernel
theorem dX7_init_42 : decode cX7_init 42 = .ok (.putfield 22, 3) := jo_181 (a := 0) (b := 22) (jw3 jdcX7_init_16 0 rfl rfl) rfl
theorem dX7_init_45 : decode cX7_init 45 = .ok (.aload_n 0, 1) := jo_42 (jw1 jdcX7_init_16 3 rfl rfl)
theorem dX7_init_46 : decode cX7_init 46 = .ok (.bipush 121, 2) := jo_16 (a := 121) (jw2 jdcX7_init_16 4 rfl rfl) rfl
theorem dX7_init_50 : decode cX7_init 50 = .ok (.putfield 25, 3) := jo_181 (a := 0) (b := 25) (jw3 jdcX7_init_16 8 rfl rfl) rfl
theorem dX7_init_53 : decode cX7_init 53 = .ok (.aload_n 0, 1) := jo_42 (jw1 jdcX7_init_16 11 rfl rfl)
theorem dX7_init_54 : decode cX7_init 54 = .ok (.bipush 121, 2) := jo_16 (a := 121) (jw2 jdcX7_init_16 12 rfl rfl) rfl
theorem dX7_init_58 : decode cX7_init 58 = .ok (.putfield 28, 3) := jo_181 (a := 0) (b := 28) (jw3 jdcX7_init_16 16 rfl rfl) rfl
theorem dX7_init_61 : decode cX7_init 61 = .ok (.aload_n 0, 1) := jo_42 (jw1 jdcX7_init_16 19 rfl rfl)
theorem dX7_init_62 : decode cX7_init 62 = .ok (.bipush 60, 2) := jo_16 (a := 60) (jw2 jdcX7_init_16 20 rfl rfl) rfl
theorem dX7_init_66 : decode cX7_init 66 = .ok (.putfield 31, 3) := jo_181 (a := 0) (b := 31) (jw3 jdcX7_init_16 24 rfl rfl) rfl
theorem dX7_init_69 : decode cX7_init 69 = .ok (.aload_n 0, 1) := jo_42 (jw1 jdcX7_init_16 27 rfl rfl)
theorem dX7_init_70 : decode cX7_init 70 = .ok (.bipush 60, 2) := jo_16 (a := 60) (jw2 jdcX7_init_16 28 rfl rfl) rfl
theorem dX7_init_74 : decode cX7_init 74 = .ok (.putfield 34, 3) := jo_181 (a := 0) (b := 34) (jw3 jdcX7_init_16 32 rfl rfl) rfl
theorem dX7_init_77 : decode cX7_init 77 = .ok (.aload_n 0, 1) := jo_42 (jw1 jdcX7_init_16 35 rfl rfl)
theorem dX7_init_78 : decode cX7_init 78 = .ok (.bipush 84, 2) := jo_16 (a := 84) (jw2 jdcX7_init_16 36 rfl rfl) rfl
theorem dX7_init_82 : decode cX7_init 82 = .ok (.putfield 37, 3) := jo_181 (a := 0) (b := 37) (jw3 jdcX7_init_16 40 rfl rfl) rfl
theorem jdcX7_init_32 : jwk (cX7_init.data.toList.drop 85) [42, 16, 84, 188, 10, 181, 0, 41, 42, 16, 84, 188, 11, 181, 0, 44, 42, 16, 84, 188, 10, 181, 0, 48, 42, 16, 84, 188, 10, 181, 0, 51, 42, 18, 54, 188, 4, 181, 0, 55, 42] = true := by decide +kernel
theorem dX7_init_85 : decode cX7_init 85 = .ok (.aload_n 0, 1) := jo_42 (jw1 jdcX7_init_32 0 rfl rfl)
theorem dX7_init_86 : decode cX7_init 86 = .ok (.bipush 84, 2) := jo_16 (a := 84) (jw2 jdcX7_init_32 1 rfl rfl) rfl
theorem dX7_init_90 : decode cX7_init 90 = .ok (.putfield 41, 3) := jo_181 (a := 0) (b := 41) (jw3 jdcX7_init_32 5 rfl rfl) rfl
theorem dX7_init_93 : decode cX7_init 93 = .ok (.aload_n 0, 1) := jo_42 (jw1 jdcX7_init_32 8 rfl rfl)
theorem dX7_init_94 : decode cX7_init 94 = .ok (.bipush 84, 2) := jo_16 (a := 84) (jw2 jdcX7_init_32 9 rfl rfl) rfl
theorem dX7_init_98 : decode cX7_init 98 = .ok (.putfield 44, 3) := jo_181 (a := 0) (b := 44) (jw3 jdcX7_init_32 13 rfl rfl) rfl
theorem dX7_init_101 : decode cX7_init 101 = .ok (.aload_n 0, 1) := jo_42 (jw1 jdcX7_init_32 16 rfl rfl)
theorem dX7_init_102 : decode cX7_init 102 = .ok (.bipush 84, 2) := jo_16 (a := 84) (jw2 jdcX7_init_32 17 rfl rfl) rfl
theorem dX7_init_106 : decode cX7_init 106 = .ok (.putfield 48, 3) := jo_181 (a := 0) (b := 48) (jw3 jdcX7_init_32 21 rfl rfl) rfl
theorem dX7_init_109 : decode cX7_init 109 = .ok (.aload_n 0, 1) := jo_42 (jw1 jdcX7_init_32 24 rfl rfl)
theorem dX7_init_110 : decode cX7_init 110 = .ok (.bipush 84, 2) := jo_16 (a := 84) (jw2 jdcX7_init_32 25 rfl rfl) rfl
theorem dX7_init_114 : decode cX7_init 114 = .ok (.putfield 51, 3) := jo_181 (a := 0) (b := 51) (jw3 jdcX7_init_32 29 rfl rfl) rfl
theorem dX7_init_117 : decode cX7_init 117 = .ok (.aload_n 0, 1) := jo_42 (jw1 jdcX7_init_32 32 rfl rfl)
theorem dX7_init_118 : decode cX7_init 118 = .ok (.ldc 54, 2) := jo_18 (jw2 jdcX7_init_32 33 rfl rfl)
theorem dX7_init_122 : decode cX7_init 122 = .ok (.putfield 55, 3) := jo_181 (a := 0) (b := 55) (jw3 jdcX7_init_32 37 rfl rfl) rfl
theorem dX7_init_125 : decode cX7_init 125 = .ok (.aload_n 0, 1) := jo_42 (jw1 jdcX7_init_32 40 rfl rfl)
theorem jdcX7_init_48 : jwk (cX7_init.data.toList.drop 126) [16, 22, 188, 10, 181, 0, 58, 42, 16, 32, 188, 10, 181, 0, 61, 42, 16, 28, 188, 10, 181, 0, 64, 42, 17, 39, 16, 188, 4, 181, 0, 67, 42, 17, 39, 16, 188, 10, 181, 0, 70, 42, 5] = true := by decide +kernel
theorem dX7_init_126 : decode cX7_init 126 = .ok (.bipush 22, 2) := jo_16 (a := 22) (jw2 jdcX7_init_48 0 rfl rfl) rfl
theorem dX7_init_130 : decode cX7_init 130 = .ok (.putfield 58, 3) := jo_181 (a := 0) (b := 58) (jw3 jdcX7_init_48 4 rfl rfl) rfl
theorem dX7_init_133 : decode cX7_init 133 = .ok (.aload_n 0, 1) := jo_42 (jw1 jdcX7_init_48 7 rfl rfl)
theorem dX7_init_134 : decode cX7_init 134 = .ok (.bipush 32, 2) := jo_16 (a := 32) (jw2 jdcX7_init_48 8 rfl rfl) rfl
theorem dX7_init_138 : decode cX7_init 138 = .ok (.putfield 61, 3) := jo_181 (a := 0) (b := 61) (jw3 jdcX7_init_48 12 rfl rfl) rfl
theorem dX7_init_141 : decode cX7_init 141 = .ok (.aload_n 0, 1) := jo_42 (jw1 jdcX7_init_48 15 rfl rfl)
theorem dX7_init_142 : decode cX7_init 142 = .ok (.bipush 28, 2) := jo_16 (a := 28) (jw2 jdcX7_init_48 16 rfl rfl) rfl
theorem dX7_init_146 : decode cX7_init 146 = .ok (.putfield 64, 3) := jo_181 (a := 0) (b := 64) (jw3 jdcX7_init_48 20 rfl rfl) rfl
theorem dX7_init_149 : decode cX7_init 149 = .ok (.aload_n 0, 1) := jo_42 (jw1 jdcX7_init_48 23 rfl rfl)
theorem dX7_init_150 : decode cX7_init 150 = .ok (.sipush 10000, 3) := jo_17 (a := 39) (b := 16) (jw3 jdcX7_init_48 24 rfl rfl) rfl
theorem dX7_init_155 : decode cX7_init 155 = .ok (.putfield 67, 3) := jo_181 (a := 0) (b := 67) (jw3 jdcX7_init_48 29 rfl rfl) rfl
theorem dX7_init_158 : decode cX7_init 158 = .ok (.aload_n 0, 1) := jo_42 (jw1 jdcX7_init_48 32 rfl rfl)
theorem dX7_init_159 : decode cX7_init 159 = .ok (.sipush 10000, 3) := jo_17 (a := 39) (b := 16) (jw3 jdcX7_init_48 33 rfl rfl) rfl
theorem dX7_init_164 : decode cX7_init 164 = .ok (.putfield 70, 3) := jo_181 (a := 0) (b := 70) (jw3 jdcX7_init_48 38 rfl rfl) rfl
theorem dX7_init_167 : decode cX7_init 167 = .ok (.aload_n 0, 1) := jo_42 (jw1 jdcX7_init_48 41 rfl rfl)
theorem dX7_init_168 : decode cX7_init 168 = .ok (.iconst 2, 1) := jo_5 (jw1 jdcX7_init_48 42 rfl rfl)
theorem jdcX7_init_64 : jwk (cX7_init.data.toList.drop 169) [181, 0, 73, 42, 5, 181, 0, 77, 42, 16, 36, 188, 4, 181, 0, 80, 42, 16, 36, 188, 10, 181, 0, 83, 42, 16, 36, 188, 4, 181, 0, 86, 42, 16, 37, 188, 10, 181, 0, 89] = true := by decide +kernel
theorem dX7_init_169 : decode cX7_init 169 = .ok (.putfield 73, 3) := jo_181 (a := 0) (b := 73) (jw3 jdcX7_init_64 0 rfl rfl) rfl
theorem dX7_init_172 : decode cX7_init 172 = .ok (.aload_n 0, 1) := jo_42 (jw1 jdcX7_init_64 3 rfl rfl)
theorem dX7_init_173 : decode cX7_init 173 = .ok (.iconst 2, 1) := jo_5 (jw1 jdcX7_init_64 4 rfl rfl)
theorem dX7_init_174 : decode cX7_init 174 = .ok (.putfield 77, 3) := jo_181 (a := 0) (b := 77) (jw3 jdcX7_init_64 5 rfl rfl) rfl
theorem dX7_init_177 : decode cX7_init 177 = .ok (.aload_n 0, 1) := jo_42 (jw1 jdcX7_init_64 8 rfl rfl)
theorem dX7_init_178 : decode cX7_init 178 = .ok (.bipush 36, 2) := jo_16 (a := 36) (jw2 jdcX7_init_64 9 rfl rfl) rfl
theorem dX7_init_182 : decode cX7_init 182 = .ok (.putfield 80, 3) := jo_181 (a := 0) (b := 80) (jw3 jdcX7_init_64 13 rfl rfl) rfl
theorem dX7_init_185 : decode cX7_init 185 = .ok (.aload_n 0, 1) := jo_42 (jw1 jdcX7_init_64 16 rfl rfl)
theorem dX7_init_186 : decode cX7_init 186 = .ok (.bipush 36, 2) := jo_16 (a := 36) (jw2 jdcX7_init_64 17 rfl rfl) rfl
theorem dX7_init_190 : decode cX7_init 190 = .ok (.putfield 83, 3) := jo_181 (a := 0) (b := 83) (jw3 jdcX7_init_64 21 rfl rfl) rfl
theorem dX7_init_193 : decode cX7_init 193 = .ok (.aload_n 0, 1) := jo_42 (jw1 jdcX7_init_64 24 rfl rfl)
theorem dX7_init_194 : decode cX7_init 194 = .ok (.bipush 36, 2) := jo_16 (a := 36) (jw2 jdcX7_init_64 25 rfl rfl) rfl
theorem dX7_init_198 : decode cX7_init 198 = .ok (.putfield 86, 3) := jo_181 (a := 0) (b := 86) (jw3 jdcX7_init_64 29 rfl rfl) rfl
theorem dX7_init_201 : decode cX7_init 201 = .ok (.aload_n 0, 1) := jo_42 (jw1 jdcX7_init_64 32 rfl rfl)
theorem dX7_init_202 : decode cX7_init 202 = .ok (.bipush 37, 2) := jo_16 (a := 37) (jw2 jdcX7_init_64 33 rfl rfl) rfl
theorem dX7_init_206 : decode cX7_init 206 = .ok (.putfield 89, 3) := jo_181 (a := 0) (b := 89) (jw3 jdcX7_init_64 37 rfl rfl) rfl
theorem jdcX7_init_80 : jwk (cX7_init.data.toList.drop 209) [42, 16, 37, 188, 10, 181, 0, 92, 42, 16, 36, 188, 10, 181, 0, 95, 177] = true := by decide +kernel
theorem dX7_init_209 : decode cX7_init 209 = .ok (.aload_n 0, 1) := jo_42 (jw1 jdcX7_init_80 0 rfl rfl)
theorem dX7_init_210 : decode cX7_init 210 = .ok (.bipush 37, 2) := jo_16 (a := 37) (jw2 jdcX7_init_80 1 rfl rfl) rfl
theorem dX7_init_214 : decode cX7_init 214 = .ok (.putfield 92, 3) := jo_181 (a := 0) (b := 92) (jw3 jdcX7_init_80 5 rfl rfl) rfl
theorem dX7_init_217 : decode cX7_init 217 = .ok (.aload_n 0, 1) := jo_42 (jw1 jdcX7_init_80 8 rfl rfl)
theorem dX7_init_218 : decode cX7_init 218 = .ok (.bipush 36, 2) := jo_16 (a := 36) (jw2 jdcX7_init_80 9 rfl rfl) rfl
theorem dX7_init_222 : decode cX7_init 222 = .ok (.putfield 95, 3) := jo_181 (a := 0) (b := 95) (jw3 jdcX7_init_80 13 rfl rfl) rfl
theorem dX7_init_225 : decode cX7_init 225 = .ok (.return_, 1) := jo_177 (jw1 jdcX7_init_80 16 rfl rfl)
theorem jdcX7_in_0 : jwk (cX7_in.data.toList.drop 0) [26, 27, 161, 0, 12, 26, 28, 163, 0, 7, 4, 167, 0, 4, 3, 172] = true := by decide +kernel
theorem dX7_in_0 : decode cX7_in 0 = .ok (.iload_n 0, 1) := jo_26 (jw1 jdcX7_in_0 0 rfl rfl)
theorem dX7_in_1 : decode cX7_in 1 = .ok (.iload_n 1, 1) := jo_27 (jw1 jdcX7_in_0 1 rfl rfl)
theorem dX7_in_2 : decode cX7_in 2 = .ok (.if_icmp .lt 12, 3) := jo_161 (a := 0) (b := 12) (jw3 jdcX7_in_0 2 rfl rfl) rfl
theorem dX7_in_5 : decode cX7_in 5 = .ok (.iload_n 0, 1) := jo_26 (jw1 jdcX7_in_0 5 rfl rfl)
theorem dX7_in_6 : decode cX7_in 6 = .ok (.iload_n 2, 1) := jo_28 (jw1 jdcX7_in_0 6 rfl rfl)
theorem dX7_in_7 : decode cX7_in 7 = .ok (.if_icmp .gt 7, 3) := jo_163 (a := 0) (b := 7) (jw3 jdcX7_in_0 7 rfl rfl) rfl
theorem dX7_in_10 : decode cX7_in 10 = .ok (.iconst 1, 1) := jo_4 (jw1 jdcX7_in_0 10 rfl rfl)
theorem dX7_in_11 : decode cX7_in 11 = .ok (.goto 4, 3) := jo_167 (a := 0) (b := 4) (jw3 jdcX7_in_0 11 rfl rfl) rfl
theorem dX7_in_14 : decode cX7_in 14 = .ok (.iconst 0, 1) := jo_3 (jw1 jdcX7_in_0 14 rfl rfl)
theorem dX7_in_15 : decode cX7_in 15 = .ok (.ireturn, 1) := jo_172 (jw1 jdcX7_in_0 15 rfl rfl)
theorem jdcX7_directions_0 : jwk (cX7_directions.data.toList.drop 0) [26, 154, 0, 7, 7, 167, 0, 14, 26, 5, 160, 0, 7, 6, 167, 0, 5, 16, 6, 172] = true := by decide +kernel
theorem dX7_directions_0 : decode cX7_directions 0 = .ok (.iload_n 0, 1) := jo_26 (jw1 jdcX7_directions_0 0 rfl rfl)
theorem dX7_directions_1 : decode cX7_directions 1 = .ok (.ifCond .ne 7, 3) := jo_154 (a := 0) (b := 7) (jw3 jdcX7_directions_0 1 rfl rfl) rfl
theorem dX7_directions_4 : decode cX7_directions 4 = .ok (.iconst 4, 1) := jo_7 (jw1 jdcX7_directions_0 4 rfl rfl)
theorem dX7_directions_5 : decode cX7_directions 5 = .ok (.goto 14, 3) := jo_167 (a := 0) (b := 14) (jw3 jdcX7_directions_0 5 rfl rfl) rfl
theorem dX7_directions_8 : decode cX7_directions 8 = .ok (.iload_n 0, 1) := jo_26 (jw1 jdcX7_directions_0 8 rfl rfl)
theorem dX7_directions_9 : decode cX7_directions 9 = .ok (.iconst 2, 1) := jo_5 (jw1 jdcX7_directions_0 9 rfl rfl)
theorem dX7_directions_10 : decode cX7_directions 10 = .ok (.if_icmp .ne 7, 3) := jo_160 (a := 0) (b := 7) (jw3 jdcX7_directions_0 10 rfl rfl) rfl
theorem dX7_directions_13 : decode cX7_directions 13 = .ok (.iconst 3, 1) := jo_6 (jw1 jdcX7_directions_0 13 rfl rfl)
theorem dX7_directions_14 : decode cX7_directions 14 = .ok (.goto 5, 3) := jo_167 (a := 0) (b := 5) (jw3 jdcX7_directions_0 14 rfl rfl) rfl
theorem dX7_directions_17 : decode cX7_directions 17 = .ok (.bipush 6, 2) := jo_16 (a := 6) (jw2 jdcX7_directions_0 17 rfl rfl) rfl
theorem dX7_directions_19 : decode cX7_directions 19 = .ok (.ireturn, 1) := jo_172 (jw1 jdcX7_directions_0 19 rfl rfl)
theorem jdcX7_turns_0 : jwk (cX7_turns.data.toList.drop 0) [26, 154, 0, 8, 16, 8, 167, 0, 24, 26, 4, 160, 0, 8, 16, 12, 167, 0, 14, 26, 6, 160, 0, 8, 16, 48, 167, 0, 4, 3, 172] = true := by decide +kernel
theorem dX7_turns_0 : decode cX7_turns 0 = .ok (.iload_n 0, 1) := jo_26 (jw1 jdcX7_turns_0 0 rfl rfl)
theorem dX7_turns_1 : decode cX7_turns 1 = .ok (.ifCond .ne 8, 3) := jo_154 (a := 0) (b := 8) (jw3 jdcX7_turns_0 1 rfl rfl) rfl
theorem dX7_turns_4 : decode cX7_turns 4 = .ok (.bipush 8, 2) := jo_16 (a := 8) (jw2 jdcX7_turns_0 4 rfl rfl) rfl
theorem dX7_turns_6 : decode cX7_turns 6 = .ok (.goto 24, 3) := jo_167 (a := 0) (b := 24) (jw3 jdcX7_turns_0 6 rfl rfl) rfl
theorem dX7_turns_9 : decode cX7_turns 9 = .ok (.iload_n 0, 1) := jo_26 (jw1 jdcX7_turns_0 9 rfl rfl)
theorem dX7_turns_10 : decode cX7_turns 10 = .ok (.iconst 1, 1) := jo_4 (jw1 jdcX7_turns_0 10 rfl rfl)
theorem dX7_turns_11 : decode cX7_turns 11 = .ok (.if_icmp .ne 8, 3) := jo_160 (a := 0) (b := 8) (jw3 jdcX7_turns_0 11 rfl rfl) rfl
theorem dX7_turns_14 : decode cX7_turns 14 = .ok (.bipush 12, 2) := jo_16 (a := 12) (jw2 jdcX7_turns_0 14 rfl rfl) rfl
theorem dX7_turns_16 : decode cX7_turns 16 = .ok (.goto 14, 3) := jo_167 (a := 0) (b := 14) (jw3 jdcX7_turns_0 16 rfl rfl) rfl
theorem dX7_turns_19 : decode cX7_turns 19 = .ok (.iload_n 0, 1) := jo_26 (jw1 jdcX7_turns_0 19 rfl rfl)
theorem dX7_turns_20 : decode cX7_turns 20 = .ok (.iconst 3, 1) := jo_6 (jw1 jdcX7_turns_0 20 rfl rfl)
theorem dX7_turns_21 : decode cX7_turns 21 = .ok (.if_icmp .ne 8, 3) := jo_160 (a := 0) (b := 8) (jw3 jdcX7_turns_0 21 rfl rfl) rfl
theorem dX7_turns_24 : decode cX7_turns 24 = .ok (.bipush 48, 2) := jo_16 (a := 48) (jw2 jdcX7_turns_0 24 rfl rfl) rfl
theorem dX7_turns_26 : decode cX7_turns 26 = .ok (.goto 4, 3) := jo_167 (a := 0) (b := 4) (jw3 jdcX7_turns_0 26 rfl rfl) rfl
theorem dX7_turns_29 : decode cX7_turns 29 = .ok (.iconst 0, 1) := jo_3 (jw1 jdcX7_turns_0 29 rfl rfl)
theorem dX7_turns_30 : decode cX7_turns 30 = .ok (.ireturn, 1) := jo_172 (jw1 jdcX7_turns_0 30 rfl rfl)
theorem jdcX7_stepX_0 : jwk (cX7_stepX.data.toList.drop 0) [26, 170, 0, 0, 0, 0, 0, 94, 0, 0, 0, 0, 0, 0, 0, 2, 0, 0, 0, 27, 0, 0, 0, 46, 0, 0, 0, 75, 27, 154, 0, 7, 4, 167, 0, 13, 27, 5, 160, 0, 7, 2, 167, 0, 4, 3, 172, 27, 153, 0, 8, 27, 8] = true := by decide +kernel
theorem dX7_stepX_0 : decode cX7_stepX 0 = .ok (.iload_n 0, 1) := jo_26 (jw1 jdcX7_stepX_0 0 rfl rfl)
theorem dX7_stepX_28 : decode cX7_stepX 28 = .ok (.iload_n 1, 1) := jo_27 (jw1 jdcX7_stepX_0 28 rfl rfl)
theorem dX7_stepX_29 : decode cX7_stepX 29 = .ok (.ifCond .ne 7, 3) := jo_154 (a := 0) (b := 7) (jw3 jdcX7_stepX_0 29 rfl rfl) rfl
theorem dX7_stepX_32 : decode cX7_stepX 32 = .ok (.iconst 1, 1) := jo_4 (jw1 jdcX7_stepX_0 32 rfl rfl)
theorem dX7_stepX_33 : decode cX7_stepX 33 = .ok (.goto 13, 3) := jo_167 (a := 0) (b := 13) (jw3 jdcX7_stepX_0 33 rfl rfl) rfl
theorem dX7_stepX_36 : decode cX7_stepX 36 = .ok (.iload_n 1, 1) := jo_27 (jw1 jdcX7_stepX_0 36 rfl rfl)
theorem dX7_stepX_37 : decode cX7_stepX 37 = .ok (.iconst 2, 1) := jo_5 (jw1 jdcX7_stepX_0 37 rfl rfl)
theorem dX7_stepX_38 : decode cX7_stepX 38 = .ok (.if_icmp .ne 7, 3) := jo_160 (a := 0) (b := 7) (jw3 jdcX7_stepX_0 38 rfl rfl) rfl
theorem dX7_stepX_41 : decode cX7_stepX 41 = .ok (.iconst (-1), 1) := jo_2 (jw1 jdcX7_stepX_0 41 rfl rfl)
theorem dX7_stepX_42 : decode cX7_stepX 42 = .ok (.goto 4, 3) := jo_167 (a := 0) (b := 4) (jw3 jdcX7_stepX_0 42 rfl rfl) rfl
theorem dX7_stepX_45 : decode cX7_stepX 45 = .ok (.iconst 0, 1) := jo_3 (jw1 jdcX7_stepX_0 45 rfl rfl)
theorem dX7_stepX_46 : decode cX7_stepX 46 = .ok (.ireturn, 1) := jo_172 (jw1 jdcX7_stepX_0 46 rfl rfl)
theorem dX7_stepX_47 : decode cX7_stepX 47 = .ok (.iload_n 1, 1) := jo_27 (jw1 jdcX7_stepX_0 47 rfl rfl)
theorem dX7_stepX_48 : decode cX7_stepX 48 = .ok (.ifCond .eq 8, 3) := jo_153 (a := 0) (b := 8) (jw3 jdcX7_stepX_0 48 rfl rfl) rfl
theorem dX7_stepX_51 : decode cX7_stepX 51 = .ok (.iload_n 1, 1) := jo_27 (jw1 jdcX7_stepX_0 51 rfl rfl)
theorem dX7_stepX_52 : decode cX7_stepX 52 = .ok (.iconst 5, 1) := jo_8 (jw1 jdcX7_stepX_0 52 rfl rfl)
theorem jdcX7_stepX_16 : jwk (cX7_stepX.data.toList.drop 53) [160, 0, 7, 4, 167, 0, 18, 27, 5, 159, 0, 8, 27, 6, 160, 0, 7, 2, 167, 0, 4, 3, 172, 27, 154, 0, 7, 4] = true := by decide +kernel
theorem dX7_stepX_53 : decode cX7_stepX 53 = .ok (.if_icmp .ne 7, 3) := jo_160 (a := 0) (b := 7) (jw3 jdcX7_stepX_16 0 rfl rfl) rfl
theorem dX7_stepX_56 : decode cX7_stepX 56 = .ok (.iconst 1, 1) := jo_4 (jw1 jdcX7_stepX_16 3 rfl rfl)
theorem dX7_stepX_57 : decode cX7_stepX 57 = .ok (.goto 18, 3) := jo_167 (a := 0) (b := 18) (jw3 jdcX7_stepX_16 4 rfl rfl) rfl
theorem dX7_stepX_60 : decode cX7_stepX 60 = .ok (.iload_n 1, 1) := jo_27 (jw1 jdcX7_stepX_16 7 rfl rfl)
theorem dX7_stepX_61 : decode cX7_stepX 61 = .ok (.iconst 2, 1) := jo_5 (jw1 jdcX7_stepX_16 8 rfl rfl)
theorem dX7_stepX_62 : decode cX7_stepX 62 = .ok (.if_icmp .eq 8, 3) := jo_159 (a := 0) (b := 8) (jw3 jdcX7_stepX_16 9 rfl rfl) rfl
theorem dX7_stepX_65 : decode cX7_stepX 65 = .ok (.iload_n 1, 1) := jo_27 (jw1 jdcX7_stepX_16 12 rfl rfl)
theorem dX7_stepX_66 : decode cX7_stepX 66 = .ok (.iconst 3, 1) := jo_6 (jw1 jdcX7_stepX_16 13 rfl rfl)
theorem dX7_stepX_67 : decode cX7_stepX 67 = .ok (.if_icmp .ne 7, 3) := jo_160 (a := 0) (b := 7) (jw3 jdcX7_stepX_16 14 rfl rfl) rfl
theorem dX7_stepX_70 : decode cX7_stepX 70 = .ok (.iconst (-1), 1) := jo_2 (jw1 jdcX7_stepX_16 17 rfl rfl)
theorem dX7_stepX_71 : decode cX7_stepX 71 = .ok (.goto 4, 3) := jo_167 (a := 0) (b := 4) (jw3 jdcX7_stepX_16 18 rfl rfl) rfl
theorem dX7_stepX_74 : decode cX7_stepX 74 = .ok (.iconst 0, 1) := jo_3 (jw1 jdcX7_stepX_16 21 rfl rfl)
theorem dX7_stepX_75 : decode cX7_stepX 75 = .ok (.ireturn, 1) := jo_172 (jw1 jdcX7_stepX_16 22 rfl rfl)
theorem dX7_stepX_76 : decode cX7_stepX 76 = .ok (.iload_n 1, 1) := jo_27 (jw1 jdcX7_stepX_16 23 rfl rfl)
theorem dX7_stepX_77 : decode cX7_stepX 77 = .ok (.ifCond .ne 7, 3) := jo_154 (a := 0) (b := 7) (jw3 jdcX7_stepX_16 24 rfl rfl) rfl
theorem dX7_stepX_80 : decode cX7_stepX 80 = .ok (.iconst 1, 1) := jo_4 (jw1 jdcX7_stepX_16 27 rfl rfl)
theorem jdcX7_stepX_32 : jwk (cX7_stepX.data.toList.drop 81) [167, 0, 13, 27, 4, 160, 0, 7, 2, 167, 0, 4, 3, 172, 27, 154, 0, 7, 4, 167, 0, 13, 27, 6, 160, 0, 7, 2] = true := by decide +kernel
theorem dX7_stepX_81 : decode cX7_stepX 81 = .ok (.goto 13, 3) := jo_167 (a := 0) (b := 13) (jw3 jdcX7_stepX_32 0 rfl rfl) rfl
theorem dX7_stepX_84 : decode cX7_stepX 84 = .ok (.iload_n 1, 1) := jo_27 (jw1 jdcX7_stepX_32 3 rfl rfl)
theorem dX7_stepX_85 : decode cX7_stepX 85 = .ok (.iconst 1, 1) := jo_4 (jw1 jdcX7_stepX_32 4 rfl rfl)
theorem dX7_stepX_86 : decode cX7_stepX 86 = .ok (.if_icmp .ne 7, 3) := jo_160 (a := 0) (b := 7) (jw3 jdcX7_stepX_32 5 rfl rfl) rfl
theorem dX7_stepX_89 : decode cX7_stepX 89 = .ok (.iconst (-1), 1) := jo_2 (jw1 jdcX7_stepX_32 8 rfl rfl)
theorem dX7_stepX_90 : decode cX7_stepX 90 = .ok (.goto 4, 3) := jo_167 (a := 0) (b := 4) (jw3 jdcX7_stepX_32 9 rfl rfl) rfl
theorem dX7_stepX_93 : decode cX7_stepX 93 = .ok (.iconst 0, 1) := jo_3 (jw1 jdcX7_stepX_32 12 rfl rfl)
theorem dX7_stepX_94 : decode cX7_stepX 94 = .ok (.ireturn, 1) := jo_172 (jw1 jdcX7_stepX_32 13 rfl rfl)
theorem dX7_stepX_95 : decode cX7_stepX 95 = .ok (.iload_n 1, 1) := jo_27 (jw1 jdcX7_stepX_32 14 rfl rfl)
theorem dX7_stepX_96 : decode cX7_stepX 96 = .ok (.ifCond .ne 7, 3) := jo_154 (a := 0) (b := 7) (jw3 jdcX7_stepX_32 15 rfl rfl) rfl
theorem dX7_stepX_99 : decode cX7_stepX 99 = .ok (.iconst 1, 1) := jo_4 (jw1 jdcX7_stepX_32 18 rfl rfl)
theorem dX7_stepX_100 : decode cX7_stepX 100 = .ok (.goto 13, 3) := jo_167 (a := 0) (b := 13) (jw3 jdcX7_stepX_32 19 rfl rfl) rfl
theorem dX7_stepX_103 : decode cX7_stepX 103 = .ok (.iload_n 1, 1) := jo_27 (jw1 jdcX7_stepX_32 22 rfl rfl)
theorem dX7_stepX_104 : decode cX7_stepX 104 = .ok (.iconst 3, 1) := jo_6 (jw1 jdcX7_stepX_32 23 rfl rfl)
theorem dX7_stepX_105 : decode cX7_stepX 105 = .ok (.if_icmp .ne 7, 3) := jo_160 (a := 0) (b := 7) (jw3 jdcX7_stepX_32 24 rfl rfl) rfl
theorem dX7_stepX_108 : decode cX7_stepX 108 = .ok (.iconst (-1), 1) := jo_2 (jw1 jdcX7_stepX_32 27 rfl rfl)
theorem jdcX7_stepX_48 : jwk (cX7_stepX.data.toList.drop 109) [167, 0, 4, 3, 172] = true := by decide +kernel
theorem dX7_stepX_109 : decode cX7_stepX 109 = .ok (.goto 4, 3) := jo_167 (a := 0) (b := 4) (jw3 jdcX7_stepX_48 0 rfl rfl) rfl
theorem dX7_stepX_112 : decode cX7_stepX 112 = .ok (.iconst 0, 1) := jo_3 (jw1 jdcX7_stepX_48 3 rfl rfl)
theorem dX7_stepX_113 : decode cX7_stepX 113 = .ok (.ireturn, 1) := jo_172 (jw1 jdcX7_stepX_48 4 rfl rfl)
theorem jdcX7_stepY_0 : jwk (cX7_stepY.data.toList.drop 0) [26, 170, 0, 0, 0, 0, 0, 98, 0, 0, 0, 0, 0, 0, 0, 2, 0, 0, 0, 27, 0, 0, 0, 47, 0, 0, 0, 77, 27, 4, 160, 0, 7, 4, 167, 0, 13, 27, 6, 160, 0, 7, 2, 167, 0, 4, 3, 172, 27, 4, 159, 0, 8] = true := by decide +kernel
theorem dX7_stepY_0 : decode cX7_stepY 0 = .ok (.iload_n 0, 1) := jo_26 (jw1 jdcX7_stepY_0 0 rfl rfl)
theorem dX7_stepY_28 : decode cX7_stepY 28 = .ok (.iload_n 1, 1) := jo_27 (jw1 jdcX7_stepY_0 28 rfl rfl)
theorem dX7_stepY_29 : decode cX7_stepY 29 = .ok (.iconst 1, 1) := jo_4 (jw1 jdcX7_stepY_0 29 rfl rfl)
theorem dX7_stepY_30 : decode cX7_stepY 30 = .ok (.if_icmp .ne 7, 3) := jo_160 (a := 0) (b := 7) (jw3 jdcX7_stepY_0 30 rfl rfl) rfl
theorem dX7_stepY_33 : decode cX7_stepY 33 = .ok (.iconst 1, 1) := jo_4 (jw1 jdcX7_stepY_0 33 rfl rfl)
theorem dX7_stepY_34 : decode cX7_stepY 34 = .ok (.goto 13, 3) := jo_167 (a := 0) (b := 13) (jw3 jdcX7_stepY_0 34 rfl rfl) rfl
theorem dX7_stepY_37 : decode cX7_stepY 37 = .ok (.iload_n 1, 1) := jo_27 (jw1 jdcX7_stepY_0 37 rfl rfl)
theorem dX7_stepY_38 : decode cX7_stepY 38 = .ok (.iconst 3, 1) := jo_6 (jw1 jdcX7_stepY_0 38 rfl rfl)
theorem dX7_stepY_39 : decode cX7_stepY 39 = .ok (.if_icmp .ne 7, 3) := jo_160 (a := 0) (b := 7) (jw3 jdcX7_stepY_0 39 rfl rfl) rfl
theorem dX7_stepY_42 : decode cX7_stepY 42 = .ok (.iconst (-1), 1) := jo_2 (jw1 jdcX7_stepY_0 42 rfl rfl)
theorem dX7_stepY_43 : decode cX7_stepY 43 = .ok (.goto 4, 3) := jo_167 (a := 0) (b := 4) (jw3 jdcX7_stepY_0 43 rfl rfl) rfl
theorem dX7_stepY_46 : decode cX7_stepY 46 = .ok (.iconst 0, 1) := jo_3 (jw1 jdcX7_stepY_0 46 rfl rfl)
theorem dX7_stepY_47 : decode cX7_stepY 47 = .ok (.ireturn, 1) := jo_172 (jw1 jdcX7_stepY_0 47 rfl rfl)
theorem dX7_stepY_48 : decode cX7_stepY 48 = .ok (.iload_n 1, 1) := jo_27 (jw1 jdcX7_stepY_0 48 rfl rfl)
theorem dX7_stepY_49 : decode cX7_stepY 49 = .ok (.iconst 1, 1) := jo_4 (jw1 jdcX7_stepY_0 49 rfl rfl)
theorem dX7_stepY_50 : decode cX7_stepY 50 = .ok (.if_icmp .eq 8, 3) := jo_159 (a := 0) (b := 8) (jw3 jdcX7_stepY_0 50 rfl rfl) rfl
theorem jdcX7_stepY_16 : jwk (cX7_stepY.data.toList.drop 53) [27, 5, 160, 0, 7, 4, 167, 0, 18, 27, 7, 159, 0, 8, 27, 8, 160, 0, 7, 2, 167, 0, 4, 3, 172, 27] = true := by decide +kernel
theorem dX7_stepY_53 : decode cX7_stepY 53 = .ok (.iload_n 1, 1) := jo_27 (jw1 jdcX7_stepY_16 0 rfl rfl)
theorem dX7_stepY_54 : decode cX7_stepY 54 = .ok (.iconst 2, 1) := jo_5 (jw1 jdcX7_stepY_16 1 rfl rfl)
theorem dX7_stepY_55 : decode cX7_stepY 55 = .ok (.if_icmp .ne 7, 3) := jo_160 (a := 0) (b := 7) (jw3 jdcX7_stepY_16 2 rfl rfl) rfl
theorem dX7_stepY_58 : decode cX7_stepY 58 = .ok (.iconst 1, 1) := jo_4 (jw1 jdcX7_stepY_16 5 rfl rfl)
theorem dX7_stepY_59 : decode cX7_stepY 59 = .ok (.goto 18, 3) := jo_167 (a := 0) (b := 18) (jw3 jdcX7_stepY_16 6 rfl rfl) rfl
theorem dX7_stepY_62 : decode cX7_stepY 62 = .ok (.iload_n 1, 1) := jo_27 (jw1 jdcX7_stepY_16 9 rfl rfl)
theorem dX7_stepY_63 : decode cX7_stepY 63 = .ok (.iconst 4, 1) := jo_7 (jw1 jdcX7_stepY_16 10 rfl rfl)
theorem dX7_stepY_64 : decode cX7_stepY 64 = .ok (.if_icmp .eq 8, 3) := jo_159 (a := 0) (b := 8) (jw3 jdcX7_stepY_16 11 rfl rfl) rfl
theorem dX7_stepY_67 : decode cX7_stepY 67 = .ok (.iload_n 1, 1) := jo_27 (jw1 jdcX7_stepY_16 14 rfl rfl)
theorem dX7_stepY_68 : decode cX7_stepY 68 = .ok (.iconst 5, 1) := jo_8 (jw1 jdcX7_stepY_16 15 rfl rfl)
theorem dX7_stepY_69 : decode cX7_stepY 69 = .ok (.if_icmp .ne 7, 3) := jo_160 (a := 0) (b := 7) (jw3 jdcX7_stepY_16 16 rfl rfl) rfl
theorem dX7_stepY_72 : decode cX7_stepY 72 = .ok (.iconst (-1), 1) := jo_2 (jw1 jdcX7_stepY_16 19 rfl rfl)
theorem dX7_stepY_73 : decode cX7_stepY 73 = .ok (.goto 4, 3) := jo_167 (a := 0) (b := 4) (jw3 jdcX7_stepY_16 20 rfl rfl) rfl
theorem dX7_stepY_76 : decode cX7_stepY 76 = .ok (.iconst 0, 1) := jo_3 (jw1 jdcX7_stepY_16 23 rfl rfl)
theorem dX7_stepY_77 : decode cX7_stepY 77 = .ok (.ireturn, 1) := jo_172 (jw1 jdcX7_stepY_16 24 rfl rfl)
theorem dX7_stepY_78 : decode cX7_stepY 78 = .ok (.iload_n 1, 1) := jo_27 (jw1 jdcX7_stepY_16 25 rfl rfl)
theorem jdcX7_stepY_32 : jwk (cX7_stepY.data.toList.drop 79) [5, 162, 0, 7, 3, 167, 0, 14, 28, 4, 126, 154, 0, 7, 4, 167, 0, 4, 2, 172, 27, 4, 160, 0, 7, 4] = true := by decide +kernel
theorem dX7_stepY_79 : decode cX7_stepY 79 = .ok (.iconst 2, 1) := jo_5 (jw1 jdcX7_stepY_32 0 rfl rfl)
theorem dX7_stepY_80 : decode cX7_stepY 80 = .ok (.if_icmp .ge 7, 3) := jo_162 (a := 0) (b := 7) (jw3 jdcX7_stepY_32 1 rfl rfl) rfl
theorem dX7_stepY_83 : decode cX7_stepY 83 = .ok (.iconst 0, 1) := jo_3 (jw1 jdcX7_stepY_32 4 rfl rfl)
theorem dX7_stepY_84 : decode cX7_stepY 84 = .ok (.goto 14, 3) := jo_167 (a := 0) (b := 14) (jw3 jdcX7_stepY_32 5 rfl rfl) rfl
theorem dX7_stepY_87 : decode cX7_stepY 87 = .ok (.iload_n 2, 1) := jo_28 (jw1 jdcX7_stepY_32 8 rfl rfl)
theorem dX7_stepY_88 : decode cX7_stepY 88 = .ok (.iconst 1, 1) := jo_4 (jw1 jdcX7_stepY_32 9 rfl rfl)
theorem dX7_stepY_89 : decode cX7_stepY 89 = .ok (.iand, 1) := jo_126 (jw1 jdcX7_stepY_32 10 rfl rfl)
theorem dX7_stepY_90 : decode cX7_stepY 90 = .ok (.ifCond .ne 7, 3) := jo_154 (a := 0) (b := 7) (jw3 jdcX7_stepY_32 11 rfl rfl) rfl
theorem dX7_stepY_93 : decode cX7_stepY 93 = .ok (.iconst 1, 1) := jo_4 (jw1 jdcX7_stepY_32 14 rfl rfl)
theorem dX7_stepY_94 : decode cX7_stepY 94 = .ok (.goto 4, 3) := jo_167 (a := 0) (b := 4) (jw3 jdcX7_stepY_32 15 rfl rfl) rfl
theorem dX7_stepY_97 : decode cX7_stepY 97 = .ok (.iconst (-1), 1) := jo_2 (jw1 jdcX7_stepY_32 18 rfl rfl)
theorem dX7_stepY_98 : decode cX7_stepY 98 = .ok (.ireturn, 1) := jo_172 (jw1 jdcX7_stepY_32 19 rfl rfl)
theorem dX7_stepY_99 : decode cX7_stepY 99 = .ok (.iload_n 1, 1) := jo_27 (jw1 jdcX7_stepY_32 20 rfl rfl)
theorem dX7_stepY_100 : decode cX7_stepY 100 = .ok (.iconst 1, 1) := jo_4 (jw1 jdcX7_stepY_32 21 rfl rfl)
theorem dX7_stepY_101 : decode cX7_stepY 101 = .ok (.if_icmp .ne 7, 3) := jo_160 (a := 0) (b := 7) (jw3 jdcX7_stepY_32 22 rfl rfl) rfl
theorem dX7_stepY_104 : decode cX7_stepY 104 = .ok (.iconst 1, 1) := jo_4 (jw1 jdcX7_stepY_32 25 rfl rfl)
theorem jdcX7_stepY_48 : jwk (cX7_stepY.data.toList.drop 105) [167, 0, 13, 27, 7, 160, 0, 7, 2, 167, 0, 4, 3, 172] = true := by decide +kernel
theorem dX7_stepY_105 : decode cX7_stepY 105 = .ok (.goto 13, 3) := jo_167 (a := 0) (b := 13) (jw3 jdcX7_stepY_48 0 rfl rfl) rfl
theorem dX7_stepY_108 : decode cX7_stepY 108 = .ok (.iload_n 1, 1) := jo_27 (jw1 jdcX7_stepY_48 3 rfl rfl)
theorem dX7_stepY_109 : decode cX7_stepY 109 = .ok (.iconst 4, 1) := jo_7 (jw1 jdcX7_stepY_48 4 rfl rfl)
theorem dX7_stepY_110 : decode cX7_stepY 110 = .ok (.if_icmp .ne 7, 3) := jo_160 (a := 0) (b := 7) (jw3 jdcX7_stepY_48 5 rfl rfl) rfl
theorem dX7_stepY_113 : decode cX7_stepY 113 = .ok (.iconst (-1), 1) := jo_2 (jw1 jdcX7_stepY_48 8 rfl rfl)
theorem dX7_stepY_114 : decode cX7_stepY 114 = .ok (.goto 4, 3) := jo_167 (a := 0) (b := 4) (jw3 jdcX7_stepY_48 9 rfl rfl) rfl
theorem dX7_stepY_117 : decode cX7_stepY 117 = .ok (.iconst 0, 1) := jo_3 (jw1 jdcX7_stepY_48 12 rfl rfl)
theorem dX7_stepY_118 : decode cX7_stepY 118 = .ok (.ireturn, 1) := jo_172 (jw1 jdcX7_stepY_48 13 rfl rfl)
theorem jdcX7_stepZ_0 : jwk (cX7_stepZ.data.toList.drop 0) [26, 6, 159, 0, 7, 3, 167, 0, 22, 27, 5, 160, 0, 7, 4, 167, 0, 13, 27, 8, 160, 0, 7, 2, 167, 0, 4, 3] = true := by decide +kernel
theorem dX7_stepZ_0 : decode cX7_stepZ 0 = .ok (.iload_n 0, 1) := jo_26 (jw1 jdcX7_stepZ_0 0 rfl rfl)
theorem dX7_stepZ_1 : decode cX7_stepZ 1 = .ok (.iconst 3, 1) := jo_6 (jw1 jdcX7_stepZ_0 1 rfl rfl)
theorem dX7_stepZ_2 : decode cX7_stepZ 2 = .ok (.if_icmp .eq 7, 3) := jo_159 (a := 0) (b := 7) (jw3 jdcX7_stepZ_0 2 rfl rfl) rfl
theorem dX7_stepZ_5 : decode cX7_stepZ 5 = .ok (.iconst 0, 1) := jo_3 (jw1 jdcX7_stepZ_0 5 rfl rfl)
theorem dX7_stepZ_6 : decode cX7_stepZ 6 = .ok (.goto 22, 3) := jo_167 (a := 0) (b := 22) (jw3 jdcX7_stepZ_0 6 rfl rfl) rfl
theorem dX7_stepZ_9 : decode cX7_stepZ 9 = .ok (.iload_n 1, 1) := jo_27 (jw1 jdcX7_stepZ_0 9 rfl rfl)
theorem dX7_stepZ_10 : decode cX7_stepZ 10 = .ok (.iconst 2, 1) := jo_5 (jw1 jdcX7_stepZ_0 10 rfl rfl)
theorem dX7_stepZ_11 : decode cX7_stepZ 11 = .ok (.if_icmp .ne 7, 3) := jo_160 (a := 0) (b := 7) (jw3 jdcX7_stepZ_0 11 rfl rfl) rfl
theorem dX7_stepZ_14 : decode cX7_stepZ 14 = .ok (.iconst 1, 1) := jo_4 (jw1 jdcX7_stepZ_0 14 rfl rfl)
theorem dX7_stepZ_15 : decode cX7_stepZ 15 = .ok (.goto 13, 3) := jo_167 (a := 0) (b := 13) (jw3 jdcX7_stepZ_0 15 rfl rfl) rfl
theorem dX7_stepZ_18 : decode cX7_stepZ 18 = .ok (.iload_n 1, 1) := jo_27 (jw1 jdcX7_stepZ_0 18 rfl rfl)
theorem dX7_stepZ_19 : decode cX7_stepZ 19 = .ok (.iconst 5, 1) := jo_8 (jw1 jdcX7_stepZ_0 19 rfl rfl)
theorem dX7_stepZ_20 : decode cX7_stepZ 20 = .ok (.if_icmp .ne 7, 3) := jo_160 (a := 0) (b := 7) (jw3 jdcX7_stepZ_0 20 rfl rfl) rfl
theorem dX7_stepZ_23 : decode cX7_stepZ 23 = .ok (.iconst (-1), 1) := jo_2 (jw1 jdcX7_stepZ_0 23 rfl rfl)
theorem dX7_stepZ_24 : decode cX7_stepZ 24 = .ok (.goto 4, 3) := jo_167 (a := 0) (b := 4) (jw3 jdcX7_stepZ_0 24 rfl rfl) rfl
theorem dX7_stepZ_27 : decode cX7_stepZ 27 = .ok (.iconst 0, 1) := jo_3 (jw1 jdcX7_stepZ_0 27 rfl rfl)
theorem jdcX7_stepZ_16 : jwk (cX7_stepZ.data.toList.drop 28) [172] = true := by decide +kernel
theorem dX7_stepZ_28 : decode cX7_stepZ 28 = .ok (.ireturn, 1) := jo_172 (jw1 jdcX7_stepZ_16 0 rfl rfl)
theorem jdcX7_square_0 : jwk (cX7_square.data.toList.drop 0) [27, 27, 104, 28, 28, 104, 96, 29, 29, 104, 96, 26, 4, 160, 0, 9, 27, 28] = true := by decide +kernel
theorem dX7_square_0 : decode cX7_square 0 = .ok (.iload_n 1, 1) := jo_27 (jw1 jdcX7_square_0 0 rfl rfl)
theorem dX7_square_1 : decode cX7_square 1 = .ok (.iload_n 1, 1) := jo_27 (jw1 jdcX7_square_0 1 rfl rfl)
theorem dX7_square_2 : decode cX7_square 2 = .ok (.imul, 1) := jo_104 (jw1 jdcX7_square_0 2 rfl rfl)
theorem dX7_square_3 : decode cX7_square 3 = .ok (.iload_n 2, 1) := jo_28 (jw1 jdcX7_square_0 3 rfl rfl)
theorem dX7_square_4 : decode cX7_square 4 = .ok (.iload_n 2, 1) := jo_28 (jw1 jdcX7_square_0 4 rfl rfl)
theorem dX7_square_5 : decode cX7_square 5 = .ok (.imul, 1) := jo_104 (jw1 jdcX7_square_0 5 rfl rfl)
theorem dX7_square_6 : decode cX7_square 6 = .ok (.iadd, 1) := jo_96 (jw1 jdcX7_square_0 6 rfl rfl)
theorem dX7_square_7 : decode cX7_square 7 = .ok (.iload_n 3, 1) := jo_29 (jw1 jdcX7_square_0 7 rfl rfl)
theorem dX7_square_8 : decode cX7_square 8 = .ok (.iload_n 3, 1) := jo_29 (jw1 jdcX7_square_0 8 rfl rfl)
theorem dX7_square_9 : decode cX7_square 9 = .ok (.imul, 1) := jo_104 (jw1 jdcX7_square_0 9 rfl rfl)
theorem dX7_square_10 : decode cX7_square 10 = .ok (.iadd, 1) := jo_96 (jw1 jdcX7_square_0 10 rfl rfl)
theorem dX7_square_11 : decode cX7_square 11 = .ok (.iload_n 0, 1) := jo_26 (jw1 jdcX7_square_0 11 rfl rfl)
theorem dX7_square_12 : decode cX7_square 12 = .ok (.iconst 1, 1) := jo_4 (jw1 jdcX7_square_0 12 rfl rfl)
theorem dX7_square_13 : decode cX7_square 13 = .ok (.if_icmp .ne 9, 3) := jo_160 (a := 0) (b := 9) (jw3 jdcX7_square_0 13 rfl rfl) rfl
theorem dX7_square_16 : decode cX7_square 16 = .ok (.iload_n 1, 1) := jo_27 (jw1 jdcX7_square_0 16 rfl rfl)
theorem dX7_square_17 : decode cX7_square 17 = .ok (.iload_n 2, 1) := jo_28 (jw1 jdcX7_square_0 17 rfl rfl)
theorem jdcX7_square_16 : jwk (cX7_square.data.toList.drop 18) [104, 167, 0, 4, 3, 96, 172] = true := by decide +kernel
theorem dX7_square_18 : decode cX7_square 18 = .ok (.imul, 1) := jo_104 (jw1 jdcX7_square_16 0 rfl rfl)
theorem dX7_square_19 : decode cX7_square 19 = .ok (.goto 4, 3) := jo_167 (a := 0) (b := 4) (jw3 jdcX7_square_16 1 rfl rfl) rfl
theorem dX7_square_22 : decode cX7_square 22 = .ok (.iconst 0, 1) := jo_3 (jw1 jdcX7_square_16 4 rfl rfl)
theorem dX7_square_23 : decode cX7_square 23 = .ok (.iadd, 1) := jo_96 (jw1 jdcX7_square_16 5 rfl rfl)
theorem dX7_square_24 : decode cX7_square 24 = .ok (.ireturn, 1) := jo_172 (jw1 jdcX7_square_16 6 rfl rfl)
theorem jdcX7_axis_0 : jwk (cX7_axis.data.toList.drop 0) [26, 5, 108, 61, 27, 154, 0, 5, 28, 172, 28, 154, 0, 7, 4, 167, 0, 4, 3, 62, 28, 5] = true := by decide +kernel
theorem dX7_axis_0 : decode cX7_axis 0 = .ok (.iload_n 0, 1) := jo_26 (jw1 jdcX7_axis_0 0 rfl rfl)
theorem dX7_axis_1 : decode cX7_axis 1 = .ok (.iconst 2, 1) := jo_5 (jw1 jdcX7_axis_0 1 rfl rfl)
theorem dX7_axis_2 : decode cX7_axis 2 = .ok (.idiv, 1) := jo_108 (jw1 jdcX7_axis_0 2 rfl rfl)
theorem dX7_axis_3 : decode cX7_axis 3 = .ok (.istore_n 2, 1) := jo_61 (jw1 jdcX7_axis_0 3 rfl rfl)
theorem dX7_axis_4 : decode cX7_axis 4 = .ok (.iload_n 1, 1) := jo_27 (jw1 jdcX7_axis_0 4 rfl rfl)
theorem dX7_axis_5 : decode cX7_axis 5 = .ok (.ifCond .ne 5, 3) := jo_154 (a := 0) (b := 5) (jw3 jdcX7_axis_0 5 rfl rfl) rfl
theorem dX7_axis_8 : decode cX7_axis 8 = .ok (.iload_n 2, 1) := jo_28 (jw1 jdcX7_axis_0 8 rfl rfl)
theorem dX7_axis_9 : decode cX7_axis 9 = .ok (.ireturn, 1) := jo_172 (jw1 jdcX7_axis_0 9 rfl rfl)
theorem dX7_axis_10 : decode cX7_axis 10 = .ok (.iload_n 2, 1) := jo_28 (jw1 jdcX7_axis_0 10 rfl rfl)
theorem dX7_axis_11 : decode cX7_axis 11 = .ok (.ifCond .ne 7, 3) := jo_154 (a := 0) (b := 7) (jw3 jdcX7_axis_0 11 rfl rfl) rfl
theorem dX7_axis_14 : decode cX7_axis 14 = .ok (.iconst 1, 1) := jo_4 (jw1 jdcX7_axis_0 14 rfl rfl)
theorem dX7_axis_15 : decode cX7_axis 15 = .ok (.goto 4, 3) := jo_167 (a := 0) (b := 4) (jw3 jdcX7_axis_0 15 rfl rfl) rfl
theorem dX7_axis_18 : decode cX7_axis 18 = .ok (.iconst 0, 1) := jo_3 (jw1 jdcX7_axis_0 18 rfl rfl)
theorem dX7_axis_19 : decode cX7_axis 19 = .ok (.istore_n 3, 1) := jo_62 (jw1 jdcX7_axis_0 19 rfl rfl)
theorem dX7_axis_20 : decode cX7_axis 20 = .ok (.iload_n 2, 1) := jo_28 (jw1 jdcX7_axis_0 20 rfl rfl)
theorem dX7_axis_21 : decode cX7_axis 21 = .ok (.iconst 2, 1) := jo_5 (jw1 jdcX7_axis_0 21 rfl rfl)
theorem jdcX7_axis_16 : jwk (cX7_axis.data.toList.drop 22) [160, 0, 7, 4, 167, 0, 4, 5, 54, 4, 27, 4, 160, 0, 7, 4, 167, 0, 4, 3, 26, 5, 112, 154, 0, 7, 4] = true := by decide +kernel
theorem dX7_axis_22 : decode cX7_axis 22 = .ok (.if_icmp .ne 7, 3) := jo_160 (a := 0) (b := 7) (jw3 jdcX7_axis_16 0 rfl rfl) rfl
theorem dX7_axis_25 : decode cX7_axis 25 = .ok (.iconst 1, 1) := jo_4 (jw1 jdcX7_axis_16 3 rfl rfl)
theorem dX7_axis_26 : decode cX7_axis 26 = .ok (.goto 4, 3) := jo_167 (a := 0) (b := 4) (jw3 jdcX7_axis_16 4 rfl rfl) rfl
theorem dX7_axis_29 : decode cX7_axis 29 = .ok (.iconst 2, 1) := jo_5 (jw1 jdcX7_axis_16 7 rfl rfl)
theorem dX7_axis_30 : decode cX7_axis 30 = .ok (.istore 4, 2) := jo_54 (jw2 jdcX7_axis_16 8 rfl rfl)
theorem dX7_axis_32 : decode cX7_axis 32 = .ok (.iload_n 1, 1) := jo_27 (jw1 jdcX7_axis_16 10 rfl rfl)
theorem dX7_axis_33 : decode cX7_axis 33 = .ok (.iconst 1, 1) := jo_4 (jw1 jdcX7_axis_16 11 rfl rfl)
theorem dX7_axis_34 : decode cX7_axis 34 = .ok (.if_icmp .ne 7, 3) := jo_160 (a := 0) (b := 7) (jw3 jdcX7_axis_16 12 rfl rfl) rfl
theorem dX7_axis_37 : decode cX7_axis 37 = .ok (.iconst 1, 1) := jo_4 (jw1 jdcX7_axis_16 15 rfl rfl)
theorem dX7_axis_38 : decode cX7_axis 38 = .ok (.goto 4, 3) := jo_167 (a := 0) (b := 4) (jw3 jdcX7_axis_16 16 rfl rfl) rfl
theorem dX7_axis_41 : decode cX7_axis 41 = .ok (.iconst 0, 1) := jo_3 (jw1 jdcX7_axis_16 19 rfl rfl)
theorem dX7_axis_42 : decode cX7_axis 42 = .ok (.iload_n 0, 1) := jo_26 (jw1 jdcX7_axis_16 20 rfl rfl)
theorem dX7_axis_43 : decode cX7_axis 43 = .ok (.iconst 2, 1) := jo_5 (jw1 jdcX7_axis_16 21 rfl rfl)
theorem dX7_axis_44 : decode cX7_axis 44 = .ok (.irem, 1) := jo_112 (jw1 jdcX7_axis_16 22 rfl rfl)
theorem dX7_axis_45 : decode cX7_axis 45 = .ok (.ifCond .ne 7, 3) := jo_154 (a := 0) (b := 7) (jw3 jdcX7_axis_16 23 rfl rfl) rfl
theorem dX7_axis_48 : decode cX7_axis 48 = .ok (.iconst 1, 1) := jo_4 (jw1 jdcX7_axis_16 26 rfl rfl)
theorem jdcX7_axis_32 : jwk (cX7_axis.data.toList.drop 49) [167, 0, 4, 3, 160, 0, 7, 29, 167, 0, 5, 21, 4, 172] = true := by decide +kernel
theorem dX7_axis_49 : decode cX7_axis 49 = .ok (.goto 4, 3) := jo_167 (a := 0) (b := 4) (jw3 jdcX7_axis_32 0 rfl rfl) rfl
theorem dX7_axis_52 : decode cX7_axis 52 = .ok (.iconst 0, 1) := jo_3 (jw1 jdcX7_axis_32 3 rfl rfl)
theorem dX7_axis_53 : decode cX7_axis 53 = .ok (.if_icmp .ne 7, 3) := jo_160 (a := 0) (b := 7) (jw3 jdcX7_axis_32 4 rfl rfl) rfl
theorem dX7_axis_56 : decode cX7_axis 56 = .ok (.iload_n 3, 1) := jo_29 (jw1 jdcX7_axis_32 7 rfl rfl)
theorem dX7_axis_57 : decode cX7_axis 57 = .ok (.goto 5, 3) := jo_167 (a := 0) (b := 5) (jw3 jdcX7_axis_32 8 rfl rfl) rfl
theorem dX7_axis_60 : decode cX7_axis 60 = .ok (.iload 4, 2) := jo_21 (jw2 jdcX7_axis_32 11 rfl rfl)
theorem dX7_axis_62 : decode cX7_axis 62 = .ok (.ireturn, 1) := jo_172 (jw1 jdcX7_axis_32 13 rfl rfl)
theorem jdcX7_turned_0 : jwk (cX7_turned.data.toList.drop 0) [26, 154, 0, 22, 27, 7, 162, 0, 11, 28, 27, 96, 7, 112, 167, 0, 8, 27, 28, 100, 7, 112] = true := by decide +kernel
theorem dX7_turned_0 : decode cX7_turned 0 = .ok (.iload_n 0, 1) := jo_26 (jw1 jdcX7_turned_0 0 rfl rfl)
theorem dX7_turned_1 : decode cX7_turned 1 = .ok (.ifCond .ne 22, 3) := jo_154 (a := 0) (b := 22) (jw3 jdcX7_turned_0 1 rfl rfl) rfl
theorem dX7_turned_4 : decode cX7_turned 4 = .ok (.iload_n 1, 1) := jo_27 (jw1 jdcX7_turned_0 4 rfl rfl)
theorem dX7_turned_5 : decode cX7_turned 5 = .ok (.iconst 4, 1) := jo_7 (jw1 jdcX7_turned_0 5 rfl rfl)
theorem dX7_turned_6 : decode cX7_turned 6 = .ok (.if_icmp .ge 11, 3) := jo_162 (a := 0) (b := 11) (jw3 jdcX7_turned_0 6 rfl rfl) rfl
theorem dX7_turned_9 : decode cX7_turned 9 = .ok (.iload_n 2, 1) := jo_28 (jw1 jdcX7_turned_0 9 rfl rfl)
theorem dX7_turned_10 : decode cX7_turned 10 = .ok (.iload_n 1, 1) := jo_27 (jw1 jdcX7_turned_0 10 rfl rfl)
theorem dX7_turned_11 : decode cX7_turned 11 = .ok (.iadd, 1) := jo_96 (jw1 jdcX7_turned_0 11 rfl rfl)
theorem dX7_turned_12 : decode cX7_turned 12 = .ok (.iconst 4, 1) := jo_7 (jw1 jdcX7_turned_0 12 rfl rfl)
theorem dX7_turned_13 : decode cX7_turned 13 = .ok (.irem, 1) := jo_112 (jw1 jdcX7_turned_0 13 rfl rfl)
theorem dX7_turned_14 : decode cX7_turned 14 = .ok (.goto 8, 3) := jo_167 (a := 0) (b := 8) (jw3 jdcX7_turned_0 14 rfl rfl) rfl
theorem dX7_turned_17 : decode cX7_turned 17 = .ok (.iload_n 1, 1) := jo_27 (jw1 jdcX7_turned_0 17 rfl rfl)
theorem dX7_turned_18 : decode cX7_turned 18 = .ok (.iload_n 2, 1) := jo_28 (jw1 jdcX7_turned_0 18 rfl rfl)
theorem dX7_turned_19 : decode cX7_turned 19 = .ok (.isub, 1) := jo_100 (jw1 jdcX7_turned_0 19 rfl rfl)
theorem dX7_turned_20 : decode cX7_turned 20 = .ok (.iconst 4, 1) := jo_7 (jw1 jdcX7_turned_0 20 rfl rfl)
theorem dX7_turned_21 : decode cX7_turned 21 = .ok (.irem, 1) := jo_112 (jw1 jdcX7_turned_0 21 rfl rfl)
theorem jdcX7_turned_16 : jwk (cX7_turned.data.toList.drop 22) [172, 26, 4, 160, 0, 25, 27, 16, 6, 162, 0, 12, 28, 27, 96, 16, 6, 112, 167, 0, 9, 27, 28, 100] = true := by decide +kernel
theorem dX7_turned_22 : decode cX7_turned 22 = .ok (.ireturn, 1) := jo_172 (jw1 jdcX7_turned_16 0 rfl rfl)
theorem dX7_turned_23 : decode cX7_turned 23 = .ok (.iload_n 0, 1) := jo_26 (jw1 jdcX7_turned_16 1 rfl rfl)
theorem dX7_turned_24 : decode cX7_turned 24 = .ok (.iconst 1, 1) := jo_4 (jw1 jdcX7_turned_16 2 rfl rfl)
theorem dX7_turned_25 : decode cX7_turned 25 = .ok (.if_icmp .ne 25, 3) := jo_160 (a := 0) (b := 25) (jw3 jdcX7_turned_16 3 rfl rfl) rfl
theorem dX7_turned_28 : decode cX7_turned 28 = .ok (.iload_n 1, 1) := jo_27 (jw1 jdcX7_turned_16 6 rfl rfl)
theorem dX7_turned_29 : decode cX7_turned 29 = .ok (.bipush 6, 2) := jo_16 (a := 6) (jw2 jdcX7_turned_16 7 rfl rfl) rfl
theorem dX7_turned_31 : decode cX7_turned 31 = .ok (.if_icmp .ge 12, 3) := jo_162 (a := 0) (b := 12) (jw3 jdcX7_turned_16 9 rfl rfl) rfl
theorem dX7_turned_34 : decode cX7_turned 34 = .ok (.iload_n 2, 1) := jo_28 (jw1 jdcX7_turned_16 12 rfl rfl)
theorem dX7_turned_35 : decode cX7_turned 35 = .ok (.iload_n 1, 1) := jo_27 (jw1 jdcX7_turned_16 13 rfl rfl)
theorem dX7_turned_36 : decode cX7_turned 36 = .ok (.iadd, 1) := jo_96 (jw1 jdcX7_turned_16 14 rfl rfl)
theorem dX7_turned_37 : decode cX7_turned 37 = .ok (.bipush 6, 2) := jo_16 (a := 6) (jw2 jdcX7_turned_16 15 rfl rfl) rfl
theorem dX7_turned_39 : decode cX7_turned 39 = .ok (.irem, 1) := jo_112 (jw1 jdcX7_turned_16 17 rfl rfl)
theorem dX7_turned_40 : decode cX7_turned 40 = .ok (.goto 9, 3) := jo_167 (a := 0) (b := 9) (jw3 jdcX7_turned_16 18 rfl rfl) rfl
theorem dX7_turned_43 : decode cX7_turned 43 = .ok (.iload_n 1, 1) := jo_27 (jw1 jdcX7_turned_16 21 rfl rfl)
theorem dX7_turned_44 : decode cX7_turned 44 = .ok (.iload_n 2, 1) := jo_28 (jw1 jdcX7_turned_16 22 rfl rfl)
theorem dX7_turned_45 : decode cX7_turned 45 = .ok (.isub, 1) := jo_100 (jw1 jdcX7_turned_16 23 rfl rfl)
theorem jdcX7_turned_32 : jwk (cX7_turned.data.toList.drop 46) [16, 6, 112, 172, 28, 6, 112, 62, 28, 5, 164, 0, 7, 4, 167, 0, 4, 3, 27, 16, 8, 112] = true := by decide +kernel
theorem dX7_turned_46 : decode cX7_turned 46 = .ok (.bipush 6, 2) := jo_16 (a := 6) (jw2 jdcX7_turned_32 0 rfl rfl) rfl
theorem dX7_turned_48 : decode cX7_turned 48 = .ok (.irem, 1) := jo_112 (jw1 jdcX7_turned_32 2 rfl rfl)
theorem dX7_turned_49 : decode cX7_turned 49 = .ok (.ireturn, 1) := jo_172 (jw1 jdcX7_turned_32 3 rfl rfl)
theorem dX7_turned_50 : decode cX7_turned 50 = .ok (.iload_n 2, 1) := jo_28 (jw1 jdcX7_turned_32 4 rfl rfl)
theorem dX7_turned_51 : decode cX7_turned 51 = .ok (.iconst 3, 1) := jo_6 (jw1 jdcX7_turned_32 5 rfl rfl)
theorem dX7_turned_52 : decode cX7_turned 52 = .ok (.irem, 1) := jo_112 (jw1 jdcX7_turned_32 6 rfl rfl)
theorem dX7_turned_53 : decode cX7_turned 53 = .ok (.istore_n 3, 1) := jo_62 (jw1 jdcX7_turned_32 7 rfl rfl)
theorem dX7_turned_54 : decode cX7_turned 54 = .ok (.iload_n 2, 1) := jo_28 (jw1 jdcX7_turned_32 8 rfl rfl)
theorem dX7_turned_55 : decode cX7_turned 55 = .ok (.iconst 2, 1) := jo_5 (jw1 jdcX7_turned_32 9 rfl rfl)
theorem dX7_turned_56 : decode cX7_turned 56 = .ok (.if_icmp .le 7, 3) := jo_164 (a := 0) (b := 7) (jw3 jdcX7_turned_32 10 rfl rfl) rfl
theorem dX7_turned_59 : decode cX7_turned 59 = .ok (.iconst 1, 1) := jo_4 (jw1 jdcX7_turned_32 13 rfl rfl)
theorem dX7_turned_60 : decode cX7_turned 60 = .ok (.goto 4, 3) := jo_167 (a := 0) (b := 4) (jw3 jdcX7_turned_32 14 rfl rfl) rfl
theorem dX7_turned_63 : decode cX7_turned 63 = .ok (.iconst 0, 1) := jo_3 (jw1 jdcX7_turned_32 17 rfl rfl)
theorem dX7_turned_64 : decode cX7_turned 64 = .ok (.iload_n 1, 1) := jo_27 (jw1 jdcX7_turned_32 18 rfl rfl)
theorem dX7_turned_65 : decode cX7_turned 65 = .ok (.bipush 8, 2) := jo_16 (a := 8) (jw2 jdcX7_turned_32 19 rfl rfl) rfl
theorem dX7_turned_67 : decode cX7_turned 67 = .ok (.irem, 1) := jo_112 (jw1 jdcX7_turned_32 21 rfl rfl)
theorem jdcX7_turned_48 : jwk (cX7_turned.data.toList.drop 68) [29, 122, 4, 126, 4, 160, 0, 7, 4, 167, 0, 4, 3, 159, 0, 7, 4, 167, 0, 4, 3, 54, 4, 27, 16, 8] = true := by decide +kernel
theorem dX7_turned_68 : decode cX7_turned 68 = .ok (.iload_n 3, 1) := jo_29 (jw1 jdcX7_turned_48 0 rfl rfl)
theorem dX7_turned_69 : decode cX7_turned 69 = .ok (.ishr, 1) := jo_122 (jw1 jdcX7_turned_48 1 rfl rfl)
theorem dX7_turned_70 : decode cX7_turned 70 = .ok (.iconst 1, 1) := jo_4 (jw1 jdcX7_turned_48 2 rfl rfl)
theorem dX7_turned_71 : decode cX7_turned 71 = .ok (.iand, 1) := jo_126 (jw1 jdcX7_turned_48 3 rfl rfl)
theorem dX7_turned_72 : decode cX7_turned 72 = .ok (.iconst 1, 1) := jo_4 (jw1 jdcX7_turned_48 4 rfl rfl)
theorem dX7_turned_73 : decode cX7_turned 73 = .ok (.if_icmp .ne 7, 3) := jo_160 (a := 0) (b := 7) (jw3 jdcX7_turned_48 5 rfl rfl) rfl
theorem dX7_turned_76 : decode cX7_turned 76 = .ok (.iconst 1, 1) := jo_4 (jw1 jdcX7_turned_48 8 rfl rfl)
theorem dX7_turned_77 : decode cX7_turned 77 = .ok (.goto 4, 3) := jo_167 (a := 0) (b := 4) (jw3 jdcX7_turned_48 9 rfl rfl) rfl
theorem dX7_turned_80 : decode cX7_turned 80 = .ok (.iconst 0, 1) := jo_3 (jw1 jdcX7_turned_48 12 rfl rfl)
theorem dX7_turned_81 : decode cX7_turned 81 = .ok (.if_icmp .eq 7, 3) := jo_159 (a := 0) (b := 7) (jw3 jdcX7_turned_48 13 rfl rfl) rfl
theorem dX7_turned_84 : decode cX7_turned 84 = .ok (.iconst 1, 1) := jo_4 (jw1 jdcX7_turned_48 16 rfl rfl)
theorem dX7_turned_85 : decode cX7_turned 85 = .ok (.goto 4, 3) := jo_167 (a := 0) (b := 4) (jw3 jdcX7_turned_48 17 rfl rfl) rfl
theorem dX7_turned_88 : decode cX7_turned 88 = .ok (.iconst 0, 1) := jo_3 (jw1 jdcX7_turned_48 20 rfl rfl)
theorem dX7_turned_89 : decode cX7_turned 89 = .ok (.istore 4, 2) := jo_54 (jw2 jdcX7_turned_48 21 rfl rfl)
theorem dX7_turned_91 : decode cX7_turned 91 = .ok (.iload_n 1, 1) := jo_27 (jw1 jdcX7_turned_48 23 rfl rfl)
theorem dX7_turned_92 : decode cX7_turned 92 = .ok (.bipush 8, 2) := jo_16 (a := 8) (jw2 jdcX7_turned_48 24 rfl rfl) rfl
theorem jdcX7_turned_64 : jwk (cX7_turned.data.toList.drop 94) [108, 29, 184, 0, 98, 21, 4, 153, 0, 7, 6, 167, 0, 4, 3, 96, 172] = true := by decide +kernel
theorem dX7_turned_94 : decode cX7_turned 94 = .ok (.idiv, 1) := jo_108 (jw1 jdcX7_turned_64 0 rfl rfl)
theorem dX7_turned_95 : decode cX7_turned 95 = .ok (.iload_n 3, 1) := jo_29 (jw1 jdcX7_turned_64 1 rfl rfl)
theorem dX7_turned_96 : decode cX7_turned 96 = .ok (.invokestatic 98, 3) := jo_184 (a := 0) (b := 98) (jw3 jdcX7_turned_64 2 rfl rfl) rfl
theorem dX7_turned_99 : decode cX7_turned 99 = .ok (.iload 4, 2) := jo_21 (jw2 jdcX7_turned_64 5 rfl rfl)
theorem dX7_turned_101 : decode cX7_turned 101 = .ok (.ifCond .eq 7, 3) := jo_153 (a := 0) (b := 7) (jw3 jdcX7_turned_64 7 rfl rfl) rfl
theorem dX7_turned_104 : decode cX7_turned 104 = .ok (.iconst 3, 1) := jo_6 (jw1 jdcX7_turned_64 10 rfl rfl)
theorem dX7_turned_105 : decode cX7_turned 105 = .ok (.goto 4, 3) := jo_167 (a := 0) (b := 4) (jw3 jdcX7_turned_64 11 rfl rfl) rfl
theorem dX7_turned_108 : decode cX7_turned 108 = .ok (.iconst 0, 1) := jo_3 (jw1 jdcX7_turned_64 14 rfl rfl)
theorem dX7_turned_109 : decode cX7_turned 109 = .ok (.iadd, 1) := jo_96 (jw1 jdcX7_turned_64 15 rfl rfl)
theorem dX7_turned_110 : decode cX7_turned 110 = .ok (.ireturn, 1) := jo_172 (jw1 jdcX7_turned_64 16 rfl rfl)
theorem jdcX7_opposite_0 : jwk (cX7_opposite.data.toList.drop 0) [26, 154, 0, 11, 27, 5, 96, 7, 112, 167, 0, 29, 26, 5, 160, 0, 18, 27, 5, 160, 0, 7, 5, 167, 0, 15] = true := by decide +kernel
theorem dX7_opposite_0 : decode cX7_opposite 0 = .ok (.iload_n 0, 1) := jo_26 (jw1 jdcX7_opposite_0 0 rfl rfl)
theorem dX7_opposite_1 : decode cX7_opposite 1 = .ok (.ifCond .ne 11, 3) := jo_154 (a := 0) (b := 11) (jw3 jdcX7_opposite_0 1 rfl rfl) rfl
theorem dX7_opposite_4 : decode cX7_opposite 4 = .ok (.iload_n 1, 1) := jo_27 (jw1 jdcX7_opposite_0 4 rfl rfl)
theorem dX7_opposite_5 : decode cX7_opposite 5 = .ok (.iconst 2, 1) := jo_5 (jw1 jdcX7_opposite_0 5 rfl rfl)
theorem dX7_opposite_6 : decode cX7_opposite 6 = .ok (.iadd, 1) := jo_96 (jw1 jdcX7_opposite_0 6 rfl rfl)
theorem dX7_opposite_7 : decode cX7_opposite 7 = .ok (.iconst 4, 1) := jo_7 (jw1 jdcX7_opposite_0 7 rfl rfl)
theorem dX7_opposite_8 : decode cX7_opposite 8 = .ok (.irem, 1) := jo_112 (jw1 jdcX7_opposite_0 8 rfl rfl)
theorem dX7_opposite_9 : decode cX7_opposite 9 = .ok (.goto 29, 3) := jo_167 (a := 0) (b := 29) (jw3 jdcX7_opposite_0 9 rfl rfl) rfl
theorem dX7_opposite_12 : decode cX7_opposite 12 = .ok (.iload_n 0, 1) := jo_26 (jw1 jdcX7_opposite_0 12 rfl rfl)
theorem dX7_opposite_13 : decode cX7_opposite 13 = .ok (.iconst 2, 1) := jo_5 (jw1 jdcX7_opposite_0 13 rfl rfl)
theorem dX7_opposite_14 : decode cX7_opposite 14 = .ok (.if_icmp .ne 18, 3) := jo_160 (a := 0) (b := 18) (jw3 jdcX7_opposite_0 14 rfl rfl) rfl
theorem dX7_opposite_17 : decode cX7_opposite 17 = .ok (.iload_n 1, 1) := jo_27 (jw1 jdcX7_opposite_0 17 rfl rfl)
theorem dX7_opposite_18 : decode cX7_opposite 18 = .ok (.iconst 2, 1) := jo_5 (jw1 jdcX7_opposite_0 18 rfl rfl)
theorem dX7_opposite_19 : decode cX7_opposite 19 = .ok (.if_icmp .ne 7, 3) := jo_160 (a := 0) (b := 7) (jw3 jdcX7_opposite_0 19 rfl rfl) rfl
theorem dX7_opposite_22 : decode cX7_opposite 22 = .ok (.iconst 2, 1) := jo_5 (jw1 jdcX7_opposite_0 22 rfl rfl)
theorem dX7_opposite_23 : decode cX7_opposite 23 = .ok (.goto 15, 3) := jo_167 (a := 0) (b := 15) (jw3 jdcX7_opposite_0 23 rfl rfl) rfl
theorem jdcX7_opposite_16 : jwk (cX7_opposite.data.toList.drop 26) [4, 27, 100, 167, 0, 9, 27, 6, 96, 16, 6, 112, 172] = true := by decide +kernel
theorem dX7_opposite_26 : decode cX7_opposite 26 = .ok (.iconst 1, 1) := jo_4 (jw1 jdcX7_opposite_16 0 rfl rfl)
theorem dX7_opposite_27 : decode cX7_opposite 27 = .ok (.iload_n 1, 1) := jo_27 (jw1 jdcX7_opposite_16 1 rfl rfl)
theorem dX7_opposite_28 : decode cX7_opposite 28 = .ok (.isub, 1) := jo_100 (jw1 jdcX7_opposite_16 2 rfl rfl)
theorem dX7_opposite_29 : decode cX7_opposite 29 = .ok (.goto 9, 3) := jo_167 (a := 0) (b := 9) (jw3 jdcX7_opposite_16 3 rfl rfl) rfl
theorem dX7_opposite_32 : decode cX7_opposite 32 = .ok (.iload_n 1, 1) := jo_27 (jw1 jdcX7_opposite_16 6 rfl rfl)
theorem dX7_opposite_33 : decode cX7_opposite 33 = .ok (.iconst 3, 1) := jo_6 (jw1 jdcX7_opposite_16 7 rfl rfl)
theorem dX7_opposite_34 : decode cX7_opposite 34 = .ok (.iadd, 1) := jo_96 (jw1 jdcX7_opposite_16 8 rfl rfl)
theorem dX7_opposite_35 : decode cX7_opposite 35 = .ok (.bipush 6, 2) := jo_16 (a := 6) (jw2 jdcX7_opposite_16 9 rfl rfl) rfl
theorem dX7_opposite_37 : decode cX7_opposite 37 = .ok (.irem, 1) := jo_112 (jw1 jdcX7_opposite_16 11 rfl rfl)
theorem dX7_opposite_38 : decode cX7_opposite 38 = .ok (.ireturn, 1) := jo_172 (jw1 jdcX7_opposite_16 12 rfl rfl)
theorem jdcX7_isWalk_0 : jwk (cX7_isWalk.data.toList.drop 0) [27, 3, 42, 180, 0, 102, 4, 100, 184, 0, 105, 172] = true := by decide +kernel
theorem dX7_isWalk_0 : decode cX7_isWalk 0 = .ok (.iload_n 1, 1) := jo_27 (jw1 jdcX7_isWalk_0 0 rfl rfl)
theorem dX7_isWalk_1 : decode cX7_isWalk 1 = .ok (.iconst 0, 1) := jo_3 (jw1 jdcX7_isWalk_0 1 rfl rfl)
theorem dX7_isWalk_2 : decode cX7_isWalk 2 = .ok (.aload_n 0, 1) := jo_42 (jw1 jdcX7_isWalk_0 2 rfl rfl)
theorem dX7_isWalk_3 : decode cX7_isWalk 3 = .ok (.getfield 102, 3) := jo_180 (a := 0) (b := 102) (jw3 jdcX7_isWalk_0 3 rfl rfl) rfl
theorem dX7_isWalk_6 : decode cX7_isWalk 6 = .ok (.iconst 1, 1) := jo_4 (jw1 jdcX7_isWalk_0 6 rfl rfl)
theorem dX7_isWalk_7 : decode cX7_isWalk 7 = .ok (.isub, 1) := jo_100 (jw1 jdcX7_isWalk_0 7 rfl rfl)
theorem dX7_isWalk_8 : decode cX7_isWalk 8 = .ok (.invokestatic 105, 3) := jo_184 (a := 0) (b := 105) (jw3 jdcX7_isWalk_0 8 rfl rfl) rfl
theorem dX7_isWalk_11 : decode cX7_isWalk 11 = .ok (.ireturn, 1) := jo_172 (jw1 jdcX7_isWalk_0 11 rfl rfl)
theorem jdcX7_walk_0 : jwk (cX7_walk.data.toList.drop 0) [27, 3, 6, 184, 0, 105, 154, 0, 6, 16, 254, 172, 42, 180, 0, 102, 16, 16, 160, 0, 6, 16, 252, 172, 42, 180, 0, 7, 42] = true := by decide +kernel
theorem dX7_walk_0 : decode cX7_walk 0 = .ok (.iload_n 1, 1) := jo_27 (jw1 jdcX7_walk_0 0 rfl rfl)
theorem dX7_walk_1 : decode cX7_walk 1 = .ok (.iconst 0, 1) := jo_3 (jw1 jdcX7_walk_0 1 rfl rfl)
theorem dX7_walk_2 : decode cX7_walk 2 = .ok (.iconst 3, 1) := jo_6 (jw1 jdcX7_walk_0 2 rfl rfl)
theorem dX7_walk_3 : decode cX7_walk 3 = .ok (.invokestatic 105, 3) := jo_184 (a := 0) (b := 105) (jw3 jdcX7_walk_0 3 rfl rfl) rfl
theorem dX7_walk_6 : decode cX7_walk 6 = .ok (.ifCond .ne 6, 3) := jo_154 (a := 0) (b := 6) (jw3 jdcX7_walk_0 6 rfl rfl) rfl
theorem dX7_walk_9 : decode cX7_walk 9 = .ok (.bipush (-2), 2) := jo_16 (a := 254) (jw2 jdcX7_walk_0 9 rfl rfl) rfl
theorem dX7_walk_11 : decode cX7_walk 11 = .ok (.ireturn, 1) := jo_172 (jw1 jdcX7_walk_0 11 rfl rfl)
theorem dX7_walk_12 : decode cX7_walk 12 = .ok (.aload_n 0, 1) := jo_42 (jw1 jdcX7_walk_0 12 rfl rfl)
theorem dX7_walk_13 : decode cX7_walk 13 = .ok (.getfield 102, 3) := jo_180 (a := 0) (b := 102) (jw3 jdcX7_walk_0 13 rfl rfl) rfl
theorem dX7_walk_16 : decode cX7_walk 16 = .ok (.bipush 16, 2) := jo_16 (a := 16) (jw2 jdcX7_walk_0 16 rfl rfl) rfl
theorem dX7_walk_18 : decode cX7_walk 18 = .ok (.if_icmp .ne 6, 3) := jo_160 (a := 0) (b := 6) (jw3 jdcX7_walk_0 18 rfl rfl) rfl
theorem dX7_walk_21 : decode cX7_walk 21 = .ok (.bipush (-4), 2) := jo_16 (a := 252) (jw2 jdcX7_walk_0 21 rfl rfl) rfl
theorem dX7_walk_23 : decode cX7_walk 23 = .ok (.ireturn, 1) := jo_172 (jw1 jdcX7_walk_0 23 rfl rfl)
theorem dX7_walk_24 : decode cX7_walk 24 = .ok (.aload_n 0, 1) := jo_42 (jw1 jdcX7_walk_0 24 rfl rfl)
theorem dX7_walk_25 : decode cX7_walk 25 = .ok (.getfield 7, 3) := jo_180 (a := 0) (b := 7) (jw3 jdcX7_walk_0 25 rfl rfl) rfl
theorem dX7_walk_28 : decode cX7_walk 28 = .ok (.aload_n 0, 1) := jo_42 (jw1 jdcX7_walk_0 28 rfl rfl)
theorem jdcX7_walk_16 : jwk (cX7_walk.data.toList.drop 29) [180, 0, 102, 27, 79, 42, 180, 0, 13, 42, 180, 0, 102, 3, 79, 42, 89, 180, 0, 102, 4, 96, 181, 0, 102, 42] = true := by decide +kernel
theorem dX7_walk_29 : decode cX7_walk 29 = .ok (.getfield 102, 3) := jo_180 (a := 0) (b := 102) (jw3 jdcX7_walk_16 0 rfl rfl) rfl
theorem dX7_walk_32 : decode cX7_walk 32 = .ok (.iload_n 1, 1) := jo_27 (jw1 jdcX7_walk_16 3 rfl rfl)
theorem dX7_walk_33 : decode cX7_walk 33 = .ok (.iastore, 1) := jo_79 (jw1 jdcX7_walk_16 4 rfl rfl)
theorem dX7_walk_34 : decode cX7_walk 34 = .ok (.aload_n 0, 1) := jo_42 (jw1 jdcX7_walk_16 5 rfl rfl)
theorem dX7_walk_35 : decode cX7_walk 35 = .ok (.getfield 13, 3) := jo_180 (a := 0) (b := 13) (jw3 jdcX7_walk_16 6 rfl rfl) rfl
theorem dX7_walk_38 : decode cX7_walk 38 = .ok (.aload_n 0, 1) := jo_42 (jw1 jdcX7_walk_16 9 rfl rfl)
theorem dX7_walk_39 : decode cX7_walk 39 = .ok (.getfield 102, 3) := jo_180 (a := 0) (b := 102) (jw3 jdcX7_walk_16 10 rfl rfl) rfl
theorem dX7_walk_42 : decode cX7_walk 42 = .ok (.iconst 0, 1) := jo_3 (jw1 jdcX7_walk_16 13 rfl rfl)
theorem dX7_walk_43 : decode cX7_walk 43 = .ok (.iastore, 1) := jo_79 (jw1 jdcX7_walk_16 14 rfl rfl)
theorem dX7_walk_44 : decode cX7_walk 44 = .ok (.aload_n 0, 1) := jo_42 (jw1 jdcX7_walk_16 15 rfl rfl)
theorem dX7_walk_45 : decode cX7_walk 45 = .ok (.dup, 1) := jo_89 (jw1 jdcX7_walk_16 16 rfl rfl)
theorem dX7_walk_46 : decode cX7_walk 46 = .ok (.getfield 102, 3) := jo_180 (a := 0) (b := 102) (jw3 jdcX7_walk_16 17 rfl rfl) rfl
theorem dX7_walk_49 : decode cX7_walk 49 = .ok (.iconst 1, 1) := jo_4 (jw1 jdcX7_walk_16 20 rfl rfl)
theorem dX7_walk_50 : decode cX7_walk 50 = .ok (.iadd, 1) := jo_96 (jw1 jdcX7_walk_16 21 rfl rfl)
theorem dX7_walk_51 : decode cX7_walk 51 = .ok (.putfield 102, 3) := jo_181 (a := 0) (b := 102) (jw3 jdcX7_walk_16 22 rfl rfl) rfl
theorem dX7_walk_54 : decode cX7_walk 54 = .ok (.aload_n 0, 1) := jo_42 (jw1 jdcX7_walk_16 25 rfl rfl)
theorem jdcX7_walk_32 : jwk (cX7_walk.data.toList.drop 55) [180, 0, 102, 4, 100, 172] = true := by decide +kernel
theorem dX7_walk_55 : decode cX7_walk 55 = .ok (.getfield 102, 3) := jo_180 (a := 0) (b := 102) (jw3 jdcX7_walk_32 0 rfl rfl) rfl
theorem dX7_walk_58 : decode cX7_walk 58 = .ok (.iconst 1, 1) := jo_4 (jw1 jdcX7_walk_32 3 rfl rfl)
theorem dX7_walk_59 : decode cX7_walk 59 = .ok (.isub, 1) := jo_100 (jw1 jdcX7_walk_32 4 rfl rfl)
theorem dX7_walk_60 : decode cX7_walk 60 = .ok (.ireturn, 1) := jo_172 (jw1 jdcX7_walk_32 5 rfl rfl)
theorem jdcX7_brings_0 : jwk (cX7_brings.data.toList.drop 0) [42, 42, 180, 0, 13, 27, 46, 181, 0, 109, 3, 61, 28, 42, 180, 0, 109, 162, 0, 26, 42, 180, 0, 19, 28, 42] = true := by decide +kernel
theorem dX7_brings_0 : decode cX7_brings 0 = .ok (.aload_n 0, 1) := jo_42 (jw1 jdcX7_brings_0 0 rfl rfl)
theorem dX7_brings_1 : decode cX7_brings 1 = .ok (.aload_n 0, 1) := jo_42 (jw1 jdcX7_brings_0 1 rfl rfl)
theorem dX7_brings_2 : decode cX7_brings 2 = .ok (.getfield 13, 3) := jo_180 (a := 0) (b := 13) (jw3 jdcX7_brings_0 2 rfl rfl) rfl
theorem dX7_brings_5 : decode cX7_brings 5 = .ok (.iload_n 1, 1) := jo_27 (jw1 jdcX7_brings_0 5 rfl rfl)
theorem dX7_brings_6 : decode cX7_brings 6 = .ok (.iaload, 1) := jo_46 (jw1 jdcX7_brings_0 6 rfl rfl)
theorem dX7_brings_7 : decode cX7_brings 7 = .ok (.putfield 109, 3) := jo_181 (a := 0) (b := 109) (jw3 jdcX7_brings_0 7 rfl rfl) rfl
theorem dX7_brings_10 : decode cX7_brings 10 = .ok (.iconst 0, 1) := jo_3 (jw1 jdcX7_brings_0 10 rfl rfl)
theorem dX7_brings_11 : decode cX7_brings 11 = .ok (.istore_n 2, 1) := jo_61 (jw1 jdcX7_brings_0 11 rfl rfl)
theorem dX7_brings_12 : decode cX7_brings 12 = .ok (.iload_n 2, 1) := jo_28 (jw1 jdcX7_brings_0 12 rfl rfl)
theorem dX7_brings_13 : decode cX7_brings 13 = .ok (.aload_n 0, 1) := jo_42 (jw1 jdcX7_brings_0 13 rfl rfl)
theorem dX7_brings_14 : decode cX7_brings 14 = .ok (.getfield 109, 3) := jo_180 (a := 0) (b := 109) (jw3 jdcX7_brings_0 14 rfl rfl) rfl
theorem dX7_brings_17 : decode cX7_brings 17 = .ok (.if_icmp .ge 26, 3) := jo_162 (a := 0) (b := 26) (jw3 jdcX7_brings_0 17 rfl rfl) rfl
theorem dX7_brings_20 : decode cX7_brings 20 = .ok (.aload_n 0, 1) := jo_42 (jw1 jdcX7_brings_0 20 rfl rfl)
theorem dX7_brings_21 : decode cX7_brings 21 = .ok (.getfield 19, 3) := jo_180 (a := 0) (b := 19) (jw3 jdcX7_brings_0 21 rfl rfl) rfl
theorem dX7_brings_24 : decode cX7_brings 24 = .ok (.iload_n 2, 1) := jo_28 (jw1 jdcX7_brings_0 24 rfl rfl)
theorem dX7_brings_25 : decode cX7_brings 25 = .ok (.aload_n 0, 1) := jo_42 (jw1 jdcX7_brings_0 25 rfl rfl)
theorem jdcX7_brings_16 : jwk (cX7_brings.data.toList.drop 26) [180, 0, 16, 16, 60, 27, 104, 28, 96, 46, 79, 132, 2, 1, 167, 255, 228, 177] = true := by decide +kernel
theorem dX7_brings_26 : decode cX7_brings 26 = .ok (.getfield 16, 3) := jo_180 (a := 0) (b := 16) (jw3 jdcX7_brings_16 0 rfl rfl) rfl
theorem dX7_brings_29 : decode cX7_brings 29 = .ok (.bipush 60, 2) := jo_16 (a := 60) (jw2 jdcX7_brings_16 3 rfl rfl) rfl
theorem dX7_brings_31 : decode cX7_brings 31 = .ok (.iload_n 1, 1) := jo_27 (jw1 jdcX7_brings_16 5 rfl rfl)
theorem dX7_brings_32 : decode cX7_brings 32 = .ok (.imul, 1) := jo_104 (jw1 jdcX7_brings_16 6 rfl rfl)
theorem dX7_brings_33 : decode cX7_brings 33 = .ok (.iload_n 2, 1) := jo_28 (jw1 jdcX7_brings_16 7 rfl rfl)
theorem dX7_brings_34 : decode cX7_brings 34 = .ok (.iadd, 1) := jo_96 (jw1 jdcX7_brings_16 8 rfl rfl)
theorem dX7_brings_35 : decode cX7_brings 35 = .ok (.iaload, 1) := jo_46 (jw1 jdcX7_brings_16 9 rfl rfl)
theorem dX7_brings_36 : decode cX7_brings 36 = .ok (.iastore, 1) := jo_79 (jw1 jdcX7_brings_16 10 rfl rfl)
theorem dX7_brings_37 : decode cX7_brings 37 = .ok (.iinc 2 1, 3) := jo_132 (a := 2) (b := 1) (jw3 jdcX7_brings_16 11 rfl rfl) rfl
theorem dX7_brings_40 : decode cX7_brings 40 = .ok (.goto (-28), 3) := jo_167 (a := 255) (b := 228) (jw3 jdcX7_brings_16 14 rfl rfl) rfl
theorem dX7_brings_43 : decode cX7_brings 43 = .ok (.return_, 1) := jo_177 (jw1 jdcX7_brings_16 17 rfl rfl)
theorem jdcX7_goes_0 : jwk (cX7_goes.data.toList.drop 0) [4, 61, 42, 180, 0, 22, 3, 3, 79, 42, 180, 0, 25, 3, 3, 79, 42, 180, 0, 28, 3, 3] = true := by decide +kernel
theorem dX7_goes_0 : decode cX7_goes 0 = .ok (.iconst 1, 1) := jo_4 (jw1 jdcX7_goes_0 0 rfl rfl)
theorem dX7_goes_1 : decode cX7_goes 1 = .ok (.istore_n 2, 1) := jo_61 (jw1 jdcX7_goes_0 1 rfl rfl)
theorem dX7_goes_2 : decode cX7_goes 2 = .ok (.aload_n 0, 1) := jo_42 (jw1 jdcX7_goes_0 2 rfl rfl)
theorem dX7_goes_3 : decode cX7_goes 3 = .ok (.getfield 22, 3) := jo_180 (a := 0) (b := 22) (jw3 jdcX7_goes_0 3 rfl rfl) rfl
theorem dX7_goes_6 : decode cX7_goes 6 = .ok (.iconst 0, 1) := jo_3 (jw1 jdcX7_goes_0 6 rfl rfl)
theorem dX7_goes_7 : decode cX7_goes 7 = .ok (.iconst 0, 1) := jo_3 (jw1 jdcX7_goes_0 7 rfl rfl)
theorem dX7_goes_8 : decode cX7_goes 8 = .ok (.iastore, 1) := jo_79 (jw1 jdcX7_goes_0 8 rfl rfl)
theorem dX7_goes_9 : decode cX7_goes 9 = .ok (.aload_n 0, 1) := jo_42 (jw1 jdcX7_goes_0 9 rfl rfl)
theorem dX7_goes_10 : decode cX7_goes 10 = .ok (.getfield 25, 3) := jo_180 (a := 0) (b := 25) (jw3 jdcX7_goes_0 10 rfl rfl) rfl
theorem dX7_goes_13 : decode cX7_goes 13 = .ok (.iconst 0, 1) := jo_3 (jw1 jdcX7_goes_0 13 rfl rfl)
theorem dX7_goes_14 : decode cX7_goes 14 = .ok (.iconst 0, 1) := jo_3 (jw1 jdcX7_goes_0 14 rfl rfl)
theorem dX7_goes_15 : decode cX7_goes 15 = .ok (.iastore, 1) := jo_79 (jw1 jdcX7_goes_0 15 rfl rfl)
theorem dX7_goes_16 : decode cX7_goes 16 = .ok (.aload_n 0, 1) := jo_42 (jw1 jdcX7_goes_0 16 rfl rfl)
theorem dX7_goes_17 : decode cX7_goes 17 = .ok (.getfield 28, 3) := jo_180 (a := 0) (b := 28) (jw3 jdcX7_goes_0 17 rfl rfl) rfl
theorem dX7_goes_20 : decode cX7_goes 20 = .ok (.iconst 0, 1) := jo_3 (jw1 jdcX7_goes_0 20 rfl rfl)
theorem dX7_goes_21 : decode cX7_goes 21 = .ok (.iconst 0, 1) := jo_3 (jw1 jdcX7_goes_0 21 rfl rfl)
theorem jdcX7_goes_16 : jwk (cX7_goes.data.toList.drop 22) [79, 3, 62, 29, 42, 180, 0, 109, 162, 0, 176, 42, 180, 0, 22, 29, 4, 96, 42, 180, 0, 22, 29, 46] = true := by decide +kernel
theorem dX7_goes_22 : decode cX7_goes 22 = .ok (.iastore, 1) := jo_79 (jw1 jdcX7_goes_16 0 rfl rfl)
theorem dX7_goes_23 : decode cX7_goes 23 = .ok (.iconst 0, 1) := jo_3 (jw1 jdcX7_goes_16 1 rfl rfl)
theorem dX7_goes_24 : decode cX7_goes 24 = .ok (.istore_n 3, 1) := jo_62 (jw1 jdcX7_goes_16 2 rfl rfl)
theorem dX7_goes_25 : decode cX7_goes 25 = .ok (.iload_n 3, 1) := jo_29 (jw1 jdcX7_goes_16 3 rfl rfl)
theorem dX7_goes_26 : decode cX7_goes 26 = .ok (.aload_n 0, 1) := jo_42 (jw1 jdcX7_goes_16 4 rfl rfl)
theorem dX7_goes_27 : decode cX7_goes 27 = .ok (.getfield 109, 3) := jo_180 (a := 0) (b := 109) (jw3 jdcX7_goes_16 5 rfl rfl) rfl
theorem dX7_goes_30 : decode cX7_goes 30 = .ok (.if_icmp .ge 176, 3) := jo_162 (a := 0) (b := 176) (jw3 jdcX7_goes_16 8 rfl rfl) rfl
theorem dX7_goes_33 : decode cX7_goes 33 = .ok (.aload_n 0, 1) := jo_42 (jw1 jdcX7_goes_16 11 rfl rfl)
theorem dX7_goes_34 : decode cX7_goes 34 = .ok (.getfield 22, 3) := jo_180 (a := 0) (b := 22) (jw3 jdcX7_goes_16 12 rfl rfl) rfl
theorem dX7_goes_37 : decode cX7_goes 37 = .ok (.iload_n 3, 1) := jo_29 (jw1 jdcX7_goes_16 15 rfl rfl)
theorem dX7_goes_38 : decode cX7_goes 38 = .ok (.iconst 1, 1) := jo_4 (jw1 jdcX7_goes_16 16 rfl rfl)
theorem dX7_goes_39 : decode cX7_goes 39 = .ok (.iadd, 1) := jo_96 (jw1 jdcX7_goes_16 17 rfl rfl)
theorem dX7_goes_40 : decode cX7_goes 40 = .ok (.aload_n 0, 1) := jo_42 (jw1 jdcX7_goes_16 18 rfl rfl)
theorem dX7_goes_41 : decode cX7_goes 41 = .ok (.getfield 22, 3) := jo_180 (a := 0) (b := 22) (jw3 jdcX7_goes_16 19 rfl rfl) rfl
theorem dX7_goes_44 : decode cX7_goes 44 = .ok (.iload_n 3, 1) := jo_29 (jw1 jdcX7_goes_16 22 rfl rfl)
theorem dX7_goes_45 : decode cX7_goes 45 = .ok (.iaload, 1) := jo_46 (jw1 jdcX7_goes_16 23 rfl rfl)
theorem jdcX7_goes_32 : jwk (cX7_goes.data.toList.drop 46) [27, 42, 180, 0, 19, 29, 46, 184, 0, 112, 96, 79, 42, 180, 0, 25, 29, 4, 96, 42, 180, 0, 25, 29] = true := by decide +kernel
theorem dX7_goes_46 : decode cX7_goes 46 = .ok (.iload_n 1, 1) := jo_27 (jw1 jdcX7_goes_32 0 rfl rfl)
theorem dX7_goes_47 : decode cX7_goes 47 = .ok (.aload_n 0, 1) := jo_42 (jw1 jdcX7_goes_32 1 rfl rfl)
theorem dX7_goes_48 : decode cX7_goes 48 = .ok (.getfield 19, 3) := jo_180 (a := 0) (b := 19) (jw3 jdcX7_goes_32 2 rfl rfl) rfl
theorem dX7_goes_51 : decode cX7_goes 51 = .ok (.iload_n 3, 1) := jo_29 (jw1 jdcX7_goes_32 5 rfl rfl)
theorem dX7_goes_52 : decode cX7_goes 52 = .ok (.iaload, 1) := jo_46 (jw1 jdcX7_goes_32 6 rfl rfl)
theorem dX7_goes_53 : decode cX7_goes 53 = .ok (.invokestatic 112, 3) := jo_184 (a := 0) (b := 112) (jw3 jdcX7_goes_32 7 rfl rfl) rfl
theorem dX7_goes_56 : decode cX7_goes 56 = .ok (.iadd, 1) := jo_96 (jw1 jdcX7_goes_32 10 rfl rfl)
theorem dX7_goes_57 : decode cX7_goes 57 = .ok (.iastore, 1) := jo_79 (jw1 jdcX7_goes_32 11 rfl rfl)
theorem dX7_goes_58 : decode cX7_goes 58 = .ok (.aload_n 0, 1) := jo_42 (jw1 jdcX7_goes_32 12 rfl rfl)
theorem dX7_goes_59 : decode cX7_goes 59 = .ok (.getfield 25, 3) := jo_180 (a := 0) (b := 25) (jw3 jdcX7_goes_32 13 rfl rfl) rfl
theorem dX7_goes_62 : decode cX7_goes 62 = .ok (.iload_n 3, 1) := jo_29 (jw1 jdcX7_goes_32 16 rfl rfl)
theorem dX7_goes_63 : decode cX7_goes 63 = .ok (.iconst 1, 1) := jo_4 (jw1 jdcX7_goes_32 17 rfl rfl)
theorem dX7_goes_64 : decode cX7_goes 64 = .ok (.iadd, 1) := jo_96 (jw1 jdcX7_goes_32 18 rfl rfl)
theorem dX7_goes_65 : decode cX7_goes 65 = .ok (.aload_n 0, 1) := jo_42 (jw1 jdcX7_goes_32 19 rfl rfl)
theorem dX7_goes_66 : decode cX7_goes 66 = .ok (.getfield 25, 3) := jo_180 (a := 0) (b := 25) (jw3 jdcX7_goes_32 20 rfl rfl) rfl
theorem dX7_goes_69 : decode cX7_goes 69 = .ok (.iload_n 3, 1) := jo_29 (jw1 jdcX7_goes_32 23 rfl rfl)
theorem jdcX7_goes_48 : jwk (cX7_goes.data.toList.drop 70) [46, 27, 42, 180, 0, 19, 29, 46, 42, 180, 0, 22, 29, 46, 42, 180, 0, 25, 29, 46, 96, 184, 0, 115] = true := by decide +kernel
theorem dX7_goes_70 : decode cX7_goes 70 = .ok (.iaload, 1) := jo_46 (jw1 jdcX7_goes_48 0 rfl rfl)
theorem dX7_goes_71 : decode cX7_goes 71 = .ok (.iload_n 1, 1) := jo_27 (jw1 jdcX7_goes_48 1 rfl rfl)
theorem dX7_goes_72 : decode cX7_goes 72 = .ok (.aload_n 0, 1) := jo_42 (jw1 jdcX7_goes_48 2 rfl rfl)
theorem dX7_goes_73 : decode cX7_goes 73 = .ok (.getfield 19, 3) := jo_180 (a := 0) (b := 19) (jw3 jdcX7_goes_48 3 rfl rfl) rfl
theorem dX7_goes_76 : decode cX7_goes 76 = .ok (.iload_n 3, 1) := jo_29 (jw1 jdcX7_goes_48 6 rfl rfl)
theorem dX7_goes_77 : decode cX7_goes 77 = .ok (.iaload, 1) := jo_46 (jw1 jdcX7_goes_48 7 rfl rfl)
theorem dX7_goes_78 : decode cX7_goes 78 = .ok (.aload_n 0, 1) := jo_42 (jw1 jdcX7_goes_48 8 rfl rfl)
theorem dX7_goes_79 : decode cX7_goes 79 = .ok (.getfield 22, 3) := jo_180 (a := 0) (b := 22) (jw3 jdcX7_goes_48 9 rfl rfl) rfl
theorem dX7_goes_82 : decode cX7_goes 82 = .ok (.iload_n 3, 1) := jo_29 (jw1 jdcX7_goes_48 12 rfl rfl)
theorem dX7_goes_83 : decode cX7_goes 83 = .ok (.iaload, 1) := jo_46 (jw1 jdcX7_goes_48 13 rfl rfl)
theorem dX7_goes_84 : decode cX7_goes 84 = .ok (.aload_n 0, 1) := jo_42 (jw1 jdcX7_goes_48 14 rfl rfl)
theorem dX7_goes_85 : decode cX7_goes 85 = .ok (.getfield 25, 3) := jo_180 (a := 0) (b := 25) (jw3 jdcX7_goes_48 15 rfl rfl) rfl
theorem dX7_goes_88 : decode cX7_goes 88 = .ok (.iload_n 3, 1) := jo_29 (jw1 jdcX7_goes_48 18 rfl rfl)
theorem dX7_goes_89 : decode cX7_goes 89 = .ok (.iaload, 1) := jo_46 (jw1 jdcX7_goes_48 19 rfl rfl)
theorem dX7_goes_90 : decode cX7_goes 90 = .ok (.iadd, 1) := jo_96 (jw1 jdcX7_goes_48 20 rfl rfl)
theorem dX7_goes_91 : decode cX7_goes 91 = .ok (.invokestatic 115, 3) := jo_184 (a := 0) (b := 115) (jw3 jdcX7_goes_48 21 rfl rfl) rfl
theorem jdcX7_goes_64 : jwk (cX7_goes.data.toList.drop 94) [96, 79, 42, 180, 0, 28, 29, 4, 96, 42, 180, 0, 28, 29, 46, 27, 42, 180, 0, 19, 29, 46] = true := by decide +kernel
theorem dX7_goes_94 : decode cX7_goes 94 = .ok (.iadd, 1) := jo_96 (jw1 jdcX7_goes_64 0 rfl rfl)
theorem dX7_goes_95 : decode cX7_goes 95 = .ok (.iastore, 1) := jo_79 (jw1 jdcX7_goes_64 1 rfl rfl)
theorem dX7_goes_96 : decode cX7_goes 96 = .ok (.aload_n 0, 1) := jo_42 (jw1 jdcX7_goes_64 2 rfl rfl)
theorem dX7_goes_97 : decode cX7_goes 97 = .ok (.getfield 28, 3) := jo_180 (a := 0) (b := 28) (jw3 jdcX7_goes_64 3 rfl rfl) rfl
theorem dX7_goes_100 : decode cX7_goes 100 = .ok (.iload_n 3, 1) := jo_29 (jw1 jdcX7_goes_64 6 rfl rfl)
theorem dX7_goes_101 : decode cX7_goes 101 = .ok (.iconst 1, 1) := jo_4 (jw1 jdcX7_goes_64 7 rfl rfl)
theorem dX7_goes_102 : decode cX7_goes 102 = .ok (.iadd, 1) := jo_96 (jw1 jdcX7_goes_64 8 rfl rfl)
theorem dX7_goes_103 : decode cX7_goes 103 = .ok (.aload_n 0, 1) := jo_42 (jw1 jdcX7_goes_64 9 rfl rfl)
theorem dX7_goes_104 : decode cX7_goes 104 = .ok (.getfield 28, 3) := jo_180 (a := 0) (b := 28) (jw3 jdcX7_goes_64 10 rfl rfl) rfl
theorem dX7_goes_107 : decode cX7_goes 107 = .ok (.iload_n 3, 1) := jo_29 (jw1 jdcX7_goes_64 13 rfl rfl)
theorem dX7_goes_108 : decode cX7_goes 108 = .ok (.iaload, 1) := jo_46 (jw1 jdcX7_goes_64 14 rfl rfl)
theorem dX7_goes_109 : decode cX7_goes 109 = .ok (.iload_n 1, 1) := jo_27 (jw1 jdcX7_goes_64 15 rfl rfl)
theorem dX7_goes_110 : decode cX7_goes 110 = .ok (.aload_n 0, 1) := jo_42 (jw1 jdcX7_goes_64 16 rfl rfl)
theorem dX7_goes_111 : decode cX7_goes 111 = .ok (.getfield 19, 3) := jo_180 (a := 0) (b := 19) (jw3 jdcX7_goes_64 17 rfl rfl) rfl
theorem dX7_goes_114 : decode cX7_goes 114 = .ok (.iload_n 3, 1) := jo_29 (jw1 jdcX7_goes_64 20 rfl rfl)
theorem dX7_goes_115 : decode cX7_goes 115 = .ok (.iaload, 1) := jo_46 (jw1 jdcX7_goes_64 21 rfl rfl)
theorem jdcX7_goes_80 : jwk (cX7_goes.data.toList.drop 116) [184, 0, 119, 96, 79, 3, 54, 4, 21, 4, 29, 163, 0, 73, 28, 153, 0, 69, 42, 180, 0, 22, 21, 4, 46, 42, 180, 0, 22] = true := by decide +kernel
theorem dX7_goes_116 : decode cX7_goes 116 = .ok (.invokestatic 119, 3) := jo_184 (a := 0) (b := 119) (jw3 jdcX7_goes_80 0 rfl rfl) rfl
theorem dX7_goes_119 : decode cX7_goes 119 = .ok (.iadd, 1) := jo_96 (jw1 jdcX7_goes_80 3 rfl rfl)
theorem dX7_goes_120 : decode cX7_goes 120 = .ok (.iastore, 1) := jo_79 (jw1 jdcX7_goes_80 4 rfl rfl)
theorem dX7_goes_121 : decode cX7_goes 121 = .ok (.iconst 0, 1) := jo_3 (jw1 jdcX7_goes_80 5 rfl rfl)
theorem dX7_goes_122 : decode cX7_goes 122 = .ok (.istore 4, 2) := jo_54 (jw2 jdcX7_goes_80 6 rfl rfl)
theorem dX7_goes_124 : decode cX7_goes 124 = .ok (.iload 4, 2) := jo_21 (jw2 jdcX7_goes_80 8 rfl rfl)
theorem dX7_goes_126 : decode cX7_goes 126 = .ok (.iload_n 3, 1) := jo_29 (jw1 jdcX7_goes_80 10 rfl rfl)
theorem dX7_goes_127 : decode cX7_goes 127 = .ok (.if_icmp .gt 73, 3) := jo_163 (a := 0) (b := 73) (jw3 jdcX7_goes_80 11 rfl rfl) rfl
theorem dX7_goes_130 : decode cX7_goes 130 = .ok (.iload_n 2, 1) := jo_28 (jw1 jdcX7_goes_80 14 rfl rfl)
theorem dX7_goes_131 : decode cX7_goes 131 = .ok (.ifCond .eq 69, 3) := jo_153 (a := 0) (b := 69) (jw3 jdcX7_goes_80 15 rfl rfl) rfl
theorem dX7_goes_134 : decode cX7_goes 134 = .ok (.aload_n 0, 1) := jo_42 (jw1 jdcX7_goes_80 18 rfl rfl)
theorem dX7_goes_135 : decode cX7_goes 135 = .ok (.getfield 22, 3) := jo_180 (a := 0) (b := 22) (jw3 jdcX7_goes_80 19 rfl rfl) rfl
theorem dX7_goes_138 : decode cX7_goes 138 = .ok (.iload 4, 2) := jo_21 (jw2 jdcX7_goes_80 22 rfl rfl)
theorem dX7_goes_140 : decode cX7_goes 140 = .ok (.iaload, 1) := jo_46 (jw1 jdcX7_goes_80 24 rfl rfl)
theorem dX7_goes_141 : decode cX7_goes 141 = .ok (.aload_n 0, 1) := jo_42 (jw1 jdcX7_goes_80 25 rfl rfl)
theorem dX7_goes_142 : decode cX7_goes 142 = .ok (.getfield 22, 3) := jo_180 (a := 0) (b := 22) (jw3 jdcX7_goes_80 26 rfl rfl) rfl
theorem jdcX7_goes_96 : jwk (cX7_goes.data.toList.drop 145) [29, 4, 96, 46, 160, 0, 39, 42, 180, 0, 25, 21, 4, 46, 42, 180, 0, 25, 29, 4, 96, 46, 160, 0, 21] = true := by decide +kernel
theorem dX7_goes_145 : decode cX7_goes 145 = .ok (.iload_n 3, 1) := jo_29 (jw1 jdcX7_goes_96 0 rfl rfl)
theorem dX7_goes_146 : decode cX7_goes 146 = .ok (.iconst 1, 1) := jo_4 (jw1 jdcX7_goes_96 1 rfl rfl)
theorem dX7_goes_147 : decode cX7_goes 147 = .ok (.iadd, 1) := jo_96 (jw1 jdcX7_goes_96 2 rfl rfl)
theorem dX7_goes_148 : decode cX7_goes 148 = .ok (.iaload, 1) := jo_46 (jw1 jdcX7_goes_96 3 rfl rfl)
theorem dX7_goes_149 : decode cX7_goes 149 = .ok (.if_icmp .ne 39, 3) := jo_160 (a := 0) (b := 39) (jw3 jdcX7_goes_96 4 rfl rfl) rfl
theorem dX7_goes_152 : decode cX7_goes 152 = .ok (.aload_n 0, 1) := jo_42 (jw1 jdcX7_goes_96 7 rfl rfl)
theorem dX7_goes_153 : decode cX7_goes 153 = .ok (.getfield 25, 3) := jo_180 (a := 0) (b := 25) (jw3 jdcX7_goes_96 8 rfl rfl) rfl
theorem dX7_goes_156 : decode cX7_goes 156 = .ok (.iload 4, 2) := jo_21 (jw2 jdcX7_goes_96 11 rfl rfl)
theorem dX7_goes_158 : decode cX7_goes 158 = .ok (.iaload, 1) := jo_46 (jw1 jdcX7_goes_96 13 rfl rfl)
theorem dX7_goes_159 : decode cX7_goes 159 = .ok (.aload_n 0, 1) := jo_42 (jw1 jdcX7_goes_96 14 rfl rfl)
theorem dX7_goes_160 : decode cX7_goes 160 = .ok (.getfield 25, 3) := jo_180 (a := 0) (b := 25) (jw3 jdcX7_goes_96 15 rfl rfl) rfl
theorem dX7_goes_163 : decode cX7_goes 163 = .ok (.iload_n 3, 1) := jo_29 (jw1 jdcX7_goes_96 18 rfl rfl)
theorem dX7_goes_164 : decode cX7_goes 164 = .ok (.iconst 1, 1) := jo_4 (jw1 jdcX7_goes_96 19 rfl rfl)
theorem dX7_goes_165 : decode cX7_goes 165 = .ok (.iadd, 1) := jo_96 (jw1 jdcX7_goes_96 20 rfl rfl)
theorem dX7_goes_166 : decode cX7_goes 166 = .ok (.iaload, 1) := jo_46 (jw1 jdcX7_goes_96 21 rfl rfl)
theorem dX7_goes_167 : decode cX7_goes 167 = .ok (.if_icmp .ne 21, 3) := jo_160 (a := 0) (b := 21) (jw3 jdcX7_goes_96 22 rfl rfl) rfl
theorem jdcX7_goes_112 : jwk (cX7_goes.data.toList.drop 170) [42, 180, 0, 28, 21, 4, 46, 42, 180, 0, 28, 29, 4, 96, 46, 159, 0, 7, 4, 167, 0, 4, 3, 61, 132, 4, 1] = true := by decide +kernel
theorem dX7_goes_170 : decode cX7_goes 170 = .ok (.aload_n 0, 1) := jo_42 (jw1 jdcX7_goes_112 0 rfl rfl)
theorem dX7_goes_171 : decode cX7_goes 171 = .ok (.getfield 28, 3) := jo_180 (a := 0) (b := 28) (jw3 jdcX7_goes_112 1 rfl rfl) rfl
theorem dX7_goes_174 : decode cX7_goes 174 = .ok (.iload 4, 2) := jo_21 (jw2 jdcX7_goes_112 4 rfl rfl)
theorem dX7_goes_176 : decode cX7_goes 176 = .ok (.iaload, 1) := jo_46 (jw1 jdcX7_goes_112 6 rfl rfl)
theorem dX7_goes_177 : decode cX7_goes 177 = .ok (.aload_n 0, 1) := jo_42 (jw1 jdcX7_goes_112 7 rfl rfl)
theorem dX7_goes_178 : decode cX7_goes 178 = .ok (.getfield 28, 3) := jo_180 (a := 0) (b := 28) (jw3 jdcX7_goes_112 8 rfl rfl) rfl
theorem dX7_goes_181 : decode cX7_goes 181 = .ok (.iload_n 3, 1) := jo_29 (jw1 jdcX7_goes_112 11 rfl rfl)
theorem dX7_goes_182 : decode cX7_goes 182 = .ok (.iconst 1, 1) := jo_4 (jw1 jdcX7_goes_112 12 rfl rfl)
theorem dX7_goes_183 : decode cX7_goes 183 = .ok (.iadd, 1) := jo_96 (jw1 jdcX7_goes_112 13 rfl rfl)
theorem dX7_goes_184 : decode cX7_goes 184 = .ok (.iaload, 1) := jo_46 (jw1 jdcX7_goes_112 14 rfl rfl)
theorem dX7_goes_185 : decode cX7_goes 185 = .ok (.if_icmp .eq 7, 3) := jo_159 (a := 0) (b := 7) (jw3 jdcX7_goes_112 15 rfl rfl) rfl
theorem dX7_goes_188 : decode cX7_goes 188 = .ok (.iconst 1, 1) := jo_4 (jw1 jdcX7_goes_112 18 rfl rfl)
theorem dX7_goes_189 : decode cX7_goes 189 = .ok (.goto 4, 3) := jo_167 (a := 0) (b := 4) (jw3 jdcX7_goes_112 19 rfl rfl) rfl
theorem dX7_goes_192 : decode cX7_goes 192 = .ok (.iconst 0, 1) := jo_3 (jw1 jdcX7_goes_112 22 rfl rfl)
theorem dX7_goes_193 : decode cX7_goes 193 = .ok (.istore_n 2, 1) := jo_61 (jw1 jdcX7_goes_112 23 rfl rfl)
theorem dX7_goes_194 : decode cX7_goes 194 = .ok (.iinc 4 1, 3) := jo_132 (a := 4) (b := 1) (jw3 jdcX7_goes_112 24 rfl rfl) rfl
theorem jdcX7_goes_128 : jwk (cX7_goes.data.toList.drop 197) [167, 255, 183, 132, 3, 1, 167, 255, 78, 28, 172] = true := by decide +kernel
theorem dX7_goes_197 : decode cX7_goes 197 = .ok (.goto (-73), 3) := jo_167 (a := 255) (b := 183) (jw3 jdcX7_goes_128 0 rfl rfl) rfl
theorem dX7_goes_200 : decode cX7_goes 200 = .ok (.iinc 3 1, 3) := jo_132 (a := 3) (b := 1) (jw3 jdcX7_goes_128 3 rfl rfl) rfl
theorem dX7_goes_203 : decode cX7_goes 203 = .ok (.goto (-178), 3) := jo_167 (a := 255) (b := 78) (jw3 jdcX7_goes_128 6 rfl rfl) rfl
theorem dX7_goes_206 : decode cX7_goes 206 = .ok (.iload_n 2, 1) := jo_28 (jw1 jdcX7_goes_128 9 rfl rfl)
theorem dX7_goes_207 : decode cX7_goes 207 = .ok (.ireturn, 1) := jo_172 (jw1 jdcX7_goes_128 10 rfl rfl)
theorem jdcX7_keeps_0 : jwk (cX7_keeps.data.toList.drop 0) [42, 180, 0, 13, 27, 42, 180, 0, 109, 79, 3, 61, 28, 42, 180, 0, 109, 162, 0, 26, 42, 180, 0, 16, 16, 60, 27] = true := by decide +kernel
theorem dX7_keeps_0 : decode cX7_keeps 0 = .ok (.aload_n 0, 1) := jo_42 (jw1 jdcX7_keeps_0 0 rfl rfl)
theorem dX7_keeps_1 : decode cX7_keeps 1 = .ok (.getfield 13, 3) := jo_180 (a := 0) (b := 13) (jw3 jdcX7_keeps_0 1 rfl rfl) rfl
theorem dX7_keeps_4 : decode cX7_keeps 4 = .ok (.iload_n 1, 1) := jo_27 (jw1 jdcX7_keeps_0 4 rfl rfl)
theorem dX7_keeps_5 : decode cX7_keeps 5 = .ok (.aload_n 0, 1) := jo_42 (jw1 jdcX7_keeps_0 5 rfl rfl)
theorem dX7_keeps_6 : decode cX7_keeps 6 = .ok (.getfield 109, 3) := jo_180 (a := 0) (b := 109) (jw3 jdcX7_keeps_0 6 rfl rfl) rfl
theorem dX7_keeps_9 : decode cX7_keeps 9 = .ok (.iastore, 1) := jo_79 (jw1 jdcX7_keeps_0 9 rfl rfl)
theorem dX7_keeps_10 : decode cX7_keeps 10 = .ok (.iconst 0, 1) := jo_3 (jw1 jdcX7_keeps_0 10 rfl rfl)
theorem dX7_keeps_11 : decode cX7_keeps 11 = .ok (.istore_n 2, 1) := jo_61 (jw1 jdcX7_keeps_0 11 rfl rfl)
theorem dX7_keeps_12 : decode cX7_keeps 12 = .ok (.iload_n 2, 1) := jo_28 (jw1 jdcX7_keeps_0 12 rfl rfl)
theorem dX7_keeps_13 : decode cX7_keeps 13 = .ok (.aload_n 0, 1) := jo_42 (jw1 jdcX7_keeps_0 13 rfl rfl)
theorem dX7_keeps_14 : decode cX7_keeps 14 = .ok (.getfield 109, 3) := jo_180 (a := 0) (b := 109) (jw3 jdcX7_keeps_0 14 rfl rfl) rfl
theorem dX7_keeps_17 : decode cX7_keeps 17 = .ok (.if_icmp .ge 26, 3) := jo_162 (a := 0) (b := 26) (jw3 jdcX7_keeps_0 17 rfl rfl) rfl
theorem dX7_keeps_20 : decode cX7_keeps 20 = .ok (.aload_n 0, 1) := jo_42 (jw1 jdcX7_keeps_0 20 rfl rfl)
theorem dX7_keeps_21 : decode cX7_keeps 21 = .ok (.getfield 16, 3) := jo_180 (a := 0) (b := 16) (jw3 jdcX7_keeps_0 21 rfl rfl) rfl
theorem dX7_keeps_24 : decode cX7_keeps 24 = .ok (.bipush 60, 2) := jo_16 (a := 60) (jw2 jdcX7_keeps_0 24 rfl rfl) rfl
theorem dX7_keeps_26 : decode cX7_keeps 26 = .ok (.iload_n 1, 1) := jo_27 (jw1 jdcX7_keeps_0 26 rfl rfl)
theorem jdcX7_keeps_16 : jwk (cX7_keeps.data.toList.drop 27) [104, 28, 96, 42, 180, 0, 19, 28, 46, 79, 132, 2, 1, 167, 255, 228, 177] = true := by decide +kernel
theorem dX7_keeps_27 : decode cX7_keeps 27 = .ok (.imul, 1) := jo_104 (jw1 jdcX7_keeps_16 0 rfl rfl)
theorem dX7_keeps_28 : decode cX7_keeps 28 = .ok (.iload_n 2, 1) := jo_28 (jw1 jdcX7_keeps_16 1 rfl rfl)
theorem dX7_keeps_29 : decode cX7_keeps 29 = .ok (.iadd, 1) := jo_96 (jw1 jdcX7_keeps_16 2 rfl rfl)
theorem dX7_keeps_30 : decode cX7_keeps 30 = .ok (.aload_n 0, 1) := jo_42 (jw1 jdcX7_keeps_16 3 rfl rfl)
theorem dX7_keeps_31 : decode cX7_keeps 31 = .ok (.getfield 19, 3) := jo_180 (a := 0) (b := 19) (jw3 jdcX7_keeps_16 4 rfl rfl) rfl
theorem dX7_keeps_34 : decode cX7_keeps 34 = .ok (.iload_n 2, 1) := jo_28 (jw1 jdcX7_keeps_16 7 rfl rfl)
theorem dX7_keeps_35 : decode cX7_keeps 35 = .ok (.iaload, 1) := jo_46 (jw1 jdcX7_keeps_16 8 rfl rfl)
theorem dX7_keeps_36 : decode cX7_keeps 36 = .ok (.iastore, 1) := jo_79 (jw1 jdcX7_keeps_16 9 rfl rfl)
theorem dX7_keeps_37 : decode cX7_keeps 37 = .ok (.iinc 2 1, 3) := jo_132 (a := 2) (b := 1) (jw3 jdcX7_keeps_16 10 rfl rfl) rfl
theorem dX7_keeps_40 : decode cX7_keeps 40 = .ok (.goto (-28), 3) := jo_167 (a := 255) (b := 228) (jw3 jdcX7_keeps_16 13 rfl rfl) rfl
theorem dX7_keeps_43 : decode cX7_keeps 43 = .ok (.return_, 1) := jo_177 (jw1 jdcX7_keeps_16 16 rfl rfl)
theorem jdcX7_becomes_0 : jwk (cX7_becomes.data.toList.drop 0) [42, 42, 180, 0, 7, 27, 46, 182, 0, 122, 154, 0, 6, 16, 253, 172, 42, 180, 0, 109, 16, 60, 164, 0, 6, 16, 252, 172, 42] = true := by decide +kernel
theorem dX7_becomes_0 : decode cX7_becomes 0 = .ok (.aload_n 0, 1) := jo_42 (jw1 jdcX7_becomes_0 0 rfl rfl)
theorem dX7_becomes_1 : decode cX7_becomes 1 = .ok (.aload_n 0, 1) := jo_42 (jw1 jdcX7_becomes_0 1 rfl rfl)
theorem dX7_becomes_2 : decode cX7_becomes 2 = .ok (.getfield 7, 3) := jo_180 (a := 0) (b := 7) (jw3 jdcX7_becomes_0 2 rfl rfl) rfl
theorem dX7_becomes_5 : decode cX7_becomes 5 = .ok (.iload_n 1, 1) := jo_27 (jw1 jdcX7_becomes_0 5 rfl rfl)
theorem dX7_becomes_6 : decode cX7_becomes 6 = .ok (.iaload, 1) := jo_46 (jw1 jdcX7_becomes_0 6 rfl rfl)
theorem dX7_becomes_7 : decode cX7_becomes 7 = .ok (.invokevirtual 122, 3) := jo_182 (a := 0) (b := 122) (jw3 jdcX7_becomes_0 7 rfl rfl) rfl
theorem dX7_becomes_10 : decode cX7_becomes 10 = .ok (.ifCond .ne 6, 3) := jo_154 (a := 0) (b := 6) (jw3 jdcX7_becomes_0 10 rfl rfl) rfl
theorem dX7_becomes_13 : decode cX7_becomes 13 = .ok (.bipush (-3), 2) := jo_16 (a := 253) (jw2 jdcX7_becomes_0 13 rfl rfl) rfl
theorem dX7_becomes_15 : decode cX7_becomes 15 = .ok (.ireturn, 1) := jo_172 (jw1 jdcX7_becomes_0 15 rfl rfl)
theorem dX7_becomes_16 : decode cX7_becomes 16 = .ok (.aload_n 0, 1) := jo_42 (jw1 jdcX7_becomes_0 16 rfl rfl)
theorem dX7_becomes_17 : decode cX7_becomes 17 = .ok (.getfield 109, 3) := jo_180 (a := 0) (b := 109) (jw3 jdcX7_becomes_0 17 rfl rfl) rfl
theorem dX7_becomes_20 : decode cX7_becomes 20 = .ok (.bipush 60, 2) := jo_16 (a := 60) (jw2 jdcX7_becomes_0 20 rfl rfl) rfl
theorem dX7_becomes_22 : decode cX7_becomes 22 = .ok (.if_icmp .le 6, 3) := jo_164 (a := 0) (b := 6) (jw3 jdcX7_becomes_0 22 rfl rfl) rfl
theorem dX7_becomes_25 : decode cX7_becomes 25 = .ok (.bipush (-4), 2) := jo_16 (a := 252) (jw2 jdcX7_becomes_0 25 rfl rfl) rfl
theorem dX7_becomes_27 : decode cX7_becomes 27 = .ok (.ireturn, 1) := jo_172 (jw1 jdcX7_becomes_0 27 rfl rfl)
theorem dX7_becomes_28 : decode cX7_becomes 28 = .ok (.aload_n 0, 1) := jo_42 (jw1 jdcX7_becomes_0 28 rfl rfl)
theorem jdcX7_becomes_16 : jwk (cX7_becomes.data.toList.drop 29) [27, 182, 0, 126, 42, 180, 0, 109, 172] = true := by decide +kernel
theorem dX7_becomes_29 : decode cX7_becomes 29 = .ok (.iload_n 1, 1) := jo_27 (jw1 jdcX7_becomes_16 0 rfl rfl)
theorem dX7_becomes_30 : decode cX7_becomes 30 = .ok (.invokevirtual 126, 3) := jo_182 (a := 0) (b := 126) (jw3 jdcX7_becomes_16 1 rfl rfl) rfl
theorem dX7_becomes_33 : decode cX7_becomes 33 = .ok (.aload_n 0, 1) := jo_42 (jw1 jdcX7_becomes_16 4 rfl rfl)
theorem dX7_becomes_34 : decode cX7_becomes 34 = .ok (.getfield 109, 3) := jo_180 (a := 0) (b := 109) (jw3 jdcX7_becomes_16 5 rfl rfl) rfl
theorem dX7_becomes_37 : decode cX7_becomes 37 = .ok (.ireturn, 1) := jo_172 (jw1 jdcX7_becomes_16 8 rfl rfl)
theorem jdcX7_step_0 : jwk (cX7_step.data.toList.drop 0) [42, 27, 182, 0, 130, 153, 0, 22, 28, 3, 42, 180, 0, 7, 27, 46, 184, 0, 133, 4, 100, 184, 0, 105, 154, 0, 6, 16, 254] = true := by decide +kernel
theorem dX7_step_0 : decode cX7_step 0 = .ok (.aload_n 0, 1) := jo_42 (jw1 jdcX7_step_0 0 rfl rfl)
theorem dX7_step_1 : decode cX7_step 1 = .ok (.iload_n 1, 1) := jo_27 (jw1 jdcX7_step_0 1 rfl rfl)
theorem dX7_step_2 : decode cX7_step 2 = .ok (.invokevirtual 130, 3) := jo_182 (a := 0) (b := 130) (jw3 jdcX7_step_0 2 rfl rfl) rfl
theorem dX7_step_5 : decode cX7_step 5 = .ok (.ifCond .eq 22, 3) := jo_153 (a := 0) (b := 22) (jw3 jdcX7_step_0 5 rfl rfl) rfl
theorem dX7_step_8 : decode cX7_step 8 = .ok (.iload_n 2, 1) := jo_28 (jw1 jdcX7_step_0 8 rfl rfl)
theorem dX7_step_9 : decode cX7_step 9 = .ok (.iconst 0, 1) := jo_3 (jw1 jdcX7_step_0 9 rfl rfl)
theorem dX7_step_10 : decode cX7_step 10 = .ok (.aload_n 0, 1) := jo_42 (jw1 jdcX7_step_0 10 rfl rfl)
theorem dX7_step_11 : decode cX7_step 11 = .ok (.getfield 7, 3) := jo_180 (a := 0) (b := 7) (jw3 jdcX7_step_0 11 rfl rfl) rfl
theorem dX7_step_14 : decode cX7_step 14 = .ok (.iload_n 1, 1) := jo_27 (jw1 jdcX7_step_0 14 rfl rfl)
theorem dX7_step_15 : decode cX7_step 15 = .ok (.iaload, 1) := jo_46 (jw1 jdcX7_step_0 15 rfl rfl)
theorem dX7_step_16 : decode cX7_step 16 = .ok (.invokestatic 133, 3) := jo_184 (a := 0) (b := 133) (jw3 jdcX7_step_0 16 rfl rfl) rfl
theorem dX7_step_19 : decode cX7_step 19 = .ok (.iconst 1, 1) := jo_4 (jw1 jdcX7_step_0 19 rfl rfl)
theorem dX7_step_20 : decode cX7_step 20 = .ok (.isub, 1) := jo_100 (jw1 jdcX7_step_0 20 rfl rfl)
theorem dX7_step_21 : decode cX7_step 21 = .ok (.invokestatic 105, 3) := jo_184 (a := 0) (b := 105) (jw3 jdcX7_step_0 21 rfl rfl) rfl
theorem dX7_step_24 : decode cX7_step 24 = .ok (.ifCond .ne 6, 3) := jo_154 (a := 0) (b := 6) (jw3 jdcX7_step_0 24 rfl rfl) rfl
theorem dX7_step_27 : decode cX7_step 27 = .ok (.bipush (-2), 2) := jo_16 (a := 254) (jw2 jdcX7_step_0 27 rfl rfl) rfl
theorem jdcX7_step_16 : jwk (cX7_step.data.toList.drop 29) [172, 42, 27, 182, 0, 137, 42, 180, 0, 19, 42, 180, 0, 109, 28, 79, 42, 89, 180, 0, 109, 4, 96, 181, 0, 109] = true := by decide +kernel
theorem dX7_step_29 : decode cX7_step 29 = .ok (.ireturn, 1) := jo_172 (jw1 jdcX7_step_16 0 rfl rfl)
theorem dX7_step_30 : decode cX7_step 30 = .ok (.aload_n 0, 1) := jo_42 (jw1 jdcX7_step_16 1 rfl rfl)
theorem dX7_step_31 : decode cX7_step 31 = .ok (.iload_n 1, 1) := jo_27 (jw1 jdcX7_step_16 2 rfl rfl)
theorem dX7_step_32 : decode cX7_step 32 = .ok (.invokevirtual 137, 3) := jo_182 (a := 0) (b := 137) (jw3 jdcX7_step_16 3 rfl rfl) rfl
theorem dX7_step_35 : decode cX7_step 35 = .ok (.aload_n 0, 1) := jo_42 (jw1 jdcX7_step_16 6 rfl rfl)
theorem dX7_step_36 : decode cX7_step 36 = .ok (.getfield 19, 3) := jo_180 (a := 0) (b := 19) (jw3 jdcX7_step_16 7 rfl rfl) rfl
theorem dX7_step_39 : decode cX7_step 39 = .ok (.aload_n 0, 1) := jo_42 (jw1 jdcX7_step_16 10 rfl rfl)
theorem dX7_step_40 : decode cX7_step 40 = .ok (.getfield 109, 3) := jo_180 (a := 0) (b := 109) (jw3 jdcX7_step_16 11 rfl rfl) rfl
theorem dX7_step_43 : decode cX7_step 43 = .ok (.iload_n 2, 1) := jo_28 (jw1 jdcX7_step_16 14 rfl rfl)
theorem dX7_step_44 : decode cX7_step 44 = .ok (.iastore, 1) := jo_79 (jw1 jdcX7_step_16 15 rfl rfl)
theorem dX7_step_45 : decode cX7_step 45 = .ok (.aload_n 0, 1) := jo_42 (jw1 jdcX7_step_16 16 rfl rfl)
theorem dX7_step_46 : decode cX7_step 46 = .ok (.dup, 1) := jo_89 (jw1 jdcX7_step_16 17 rfl rfl)
theorem dX7_step_47 : decode cX7_step 47 = .ok (.getfield 109, 3) := jo_180 (a := 0) (b := 109) (jw3 jdcX7_step_16 18 rfl rfl) rfl
theorem dX7_step_50 : decode cX7_step 50 = .ok (.iconst 1, 1) := jo_4 (jw1 jdcX7_step_16 21 rfl rfl)
theorem dX7_step_51 : decode cX7_step 51 = .ok (.iadd, 1) := jo_96 (jw1 jdcX7_step_16 22 rfl rfl)
theorem dX7_step_52 : decode cX7_step 52 = .ok (.putfield 109, 3) := jo_181 (a := 0) (b := 109) (jw3 jdcX7_step_16 23 rfl rfl) rfl
theorem jdcX7_step_32 : jwk (cX7_step.data.toList.drop 55) [42, 27, 182, 0, 140, 172] = true := by decide +kernel
theorem dX7_step_55 : decode cX7_step 55 = .ok (.aload_n 0, 1) := jo_42 (jw1 jdcX7_step_32 0 rfl rfl)
theorem dX7_step_56 : decode cX7_step 56 = .ok (.iload_n 1, 1) := jo_27 (jw1 jdcX7_step_32 1 rfl rfl)
theorem dX7_step_57 : decode cX7_step 57 = .ok (.invokevirtual 140, 3) := jo_182 (a := 0) (b := 140) (jw3 jdcX7_step_32 2 rfl rfl) rfl
theorem dX7_step_60 : decode cX7_step 60 = .ok (.ireturn, 1) := jo_172 (jw1 jdcX7_step_32 5 rfl rfl)
theorem jdcX7_back_0 : jwk (cX7_back.data.toList.drop 0) [42, 27, 182, 0, 130, 153, 0, 17, 28, 3, 42, 180, 0, 13, 27, 46, 184, 0, 105, 154, 0, 6, 16, 254, 172, 42, 180, 0, 13] = true := by decide +kernel
theorem dX7_back_0 : decode cX7_back 0 = .ok (.aload_n 0, 1) := jo_42 (jw1 jdcX7_back_0 0 rfl rfl)
theorem dX7_back_1 : decode cX7_back 1 = .ok (.iload_n 1, 1) := jo_27 (jw1 jdcX7_back_0 1 rfl rfl)
theorem dX7_back_2 : decode cX7_back 2 = .ok (.invokevirtual 130, 3) := jo_182 (a := 0) (b := 130) (jw3 jdcX7_back_0 2 rfl rfl) rfl
theorem dX7_back_5 : decode cX7_back 5 = .ok (.ifCond .eq 17, 3) := jo_153 (a := 0) (b := 17) (jw3 jdcX7_back_0 5 rfl rfl) rfl
theorem dX7_back_8 : decode cX7_back 8 = .ok (.iload_n 2, 1) := jo_28 (jw1 jdcX7_back_0 8 rfl rfl)
theorem dX7_back_9 : decode cX7_back 9 = .ok (.iconst 0, 1) := jo_3 (jw1 jdcX7_back_0 9 rfl rfl)
theorem dX7_back_10 : decode cX7_back 10 = .ok (.aload_n 0, 1) := jo_42 (jw1 jdcX7_back_0 10 rfl rfl)
theorem dX7_back_11 : decode cX7_back 11 = .ok (.getfield 13, 3) := jo_180 (a := 0) (b := 13) (jw3 jdcX7_back_0 11 rfl rfl) rfl
theorem dX7_back_14 : decode cX7_back 14 = .ok (.iload_n 1, 1) := jo_27 (jw1 jdcX7_back_0 14 rfl rfl)
theorem dX7_back_15 : decode cX7_back 15 = .ok (.iaload, 1) := jo_46 (jw1 jdcX7_back_0 15 rfl rfl)
theorem dX7_back_16 : decode cX7_back 16 = .ok (.invokestatic 105, 3) := jo_184 (a := 0) (b := 105) (jw3 jdcX7_back_0 16 rfl rfl) rfl
theorem dX7_back_19 : decode cX7_back 19 = .ok (.ifCond .ne 6, 3) := jo_154 (a := 0) (b := 6) (jw3 jdcX7_back_0 19 rfl rfl) rfl
theorem dX7_back_22 : decode cX7_back 22 = .ok (.bipush (-2), 2) := jo_16 (a := 254) (jw2 jdcX7_back_0 22 rfl rfl) rfl
theorem dX7_back_24 : decode cX7_back 24 = .ok (.ireturn, 1) := jo_172 (jw1 jdcX7_back_0 24 rfl rfl)
theorem dX7_back_25 : decode cX7_back 25 = .ok (.aload_n 0, 1) := jo_42 (jw1 jdcX7_back_0 25 rfl rfl)
theorem dX7_back_26 : decode cX7_back 26 = .ok (.getfield 13, 3) := jo_180 (a := 0) (b := 13) (jw3 jdcX7_back_0 26 rfl rfl) rfl
theorem jdcX7_back_16 : jwk (cX7_back.data.toList.drop 29) [27, 92, 46, 28, 100, 79, 42, 180, 0, 13, 27, 46, 172] = true := by decide +kernel
theorem dX7_back_29 : decode cX7_back 29 = .ok (.iload_n 1, 1) := jo_27 (jw1 jdcX7_back_16 0 rfl rfl)
theorem dX7_back_30 : decode cX7_back 30 = .ok (.dup2, 1) := jo_92 (jw1 jdcX7_back_16 1 rfl rfl)
theorem dX7_back_31 : decode cX7_back 31 = .ok (.iaload, 1) := jo_46 (jw1 jdcX7_back_16 2 rfl rfl)
theorem dX7_back_32 : decode cX7_back 32 = .ok (.iload_n 2, 1) := jo_28 (jw1 jdcX7_back_16 3 rfl rfl)
theorem dX7_back_33 : decode cX7_back 33 = .ok (.isub, 1) := jo_100 (jw1 jdcX7_back_16 4 rfl rfl)
theorem dX7_back_34 : decode cX7_back 34 = .ok (.iastore, 1) := jo_79 (jw1 jdcX7_back_16 5 rfl rfl)
theorem dX7_back_35 : decode cX7_back 35 = .ok (.aload_n 0, 1) := jo_42 (jw1 jdcX7_back_16 6 rfl rfl)
theorem dX7_back_36 : decode cX7_back 36 = .ok (.getfield 13, 3) := jo_180 (a := 0) (b := 13) (jw3 jdcX7_back_16 7 rfl rfl) rfl
theorem dX7_back_39 : decode cX7_back 39 = .ok (.iload_n 1, 1) := jo_27 (jw1 jdcX7_back_16 10 rfl rfl)
theorem dX7_back_40 : decode cX7_back 40 = .ok (.iaload, 1) := jo_46 (jw1 jdcX7_back_16 11 rfl rfl)
theorem dX7_back_41 : decode cX7_back 41 = .ok (.ireturn, 1) := jo_172 (jw1 jdcX7_back_16 12 rfl rfl)
theorem jdcX7_pivot_0 : jwk (cX7_pivot.data.toList.drop 0) [42, 27, 182, 0, 130, 153, 0, 36, 28, 3, 42, 180, 0, 13, 27, 46, 184, 0, 105, 153, 0, 22, 29, 3, 42, 180, 0, 7] = true := by decide +kernel
theorem dX7_pivot_0 : decode cX7_pivot 0 = .ok (.aload_n 0, 1) := jo_42 (jw1 jdcX7_pivot_0 0 rfl rfl)
theorem dX7_pivot_1 : decode cX7_pivot 1 = .ok (.iload_n 1, 1) := jo_27 (jw1 jdcX7_pivot_0 1 rfl rfl)
theorem dX7_pivot_2 : decode cX7_pivot 2 = .ok (.invokevirtual 130, 3) := jo_182 (a := 0) (b := 130) (jw3 jdcX7_pivot_0 2 rfl rfl) rfl
theorem dX7_pivot_5 : decode cX7_pivot 5 = .ok (.ifCond .eq 36, 3) := jo_153 (a := 0) (b := 36) (jw3 jdcX7_pivot_0 5 rfl rfl) rfl
theorem dX7_pivot_8 : decode cX7_pivot 8 = .ok (.iload_n 2, 1) := jo_28 (jw1 jdcX7_pivot_0 8 rfl rfl)
theorem dX7_pivot_9 : decode cX7_pivot 9 = .ok (.iconst 0, 1) := jo_3 (jw1 jdcX7_pivot_0 9 rfl rfl)
theorem dX7_pivot_10 : decode cX7_pivot 10 = .ok (.aload_n 0, 1) := jo_42 (jw1 jdcX7_pivot_0 10 rfl rfl)
theorem dX7_pivot_11 : decode cX7_pivot 11 = .ok (.getfield 13, 3) := jo_180 (a := 0) (b := 13) (jw3 jdcX7_pivot_0 11 rfl rfl) rfl
theorem dX7_pivot_14 : decode cX7_pivot 14 = .ok (.iload_n 1, 1) := jo_27 (jw1 jdcX7_pivot_0 14 rfl rfl)
theorem dX7_pivot_15 : decode cX7_pivot 15 = .ok (.iaload, 1) := jo_46 (jw1 jdcX7_pivot_0 15 rfl rfl)
theorem dX7_pivot_16 : decode cX7_pivot 16 = .ok (.invokestatic 105, 3) := jo_184 (a := 0) (b := 105) (jw3 jdcX7_pivot_0 16 rfl rfl) rfl
theorem dX7_pivot_19 : decode cX7_pivot 19 = .ok (.ifCond .eq 22, 3) := jo_153 (a := 0) (b := 22) (jw3 jdcX7_pivot_0 19 rfl rfl) rfl
theorem dX7_pivot_22 : decode cX7_pivot 22 = .ok (.iload_n 3, 1) := jo_29 (jw1 jdcX7_pivot_0 22 rfl rfl)
theorem dX7_pivot_23 : decode cX7_pivot 23 = .ok (.iconst 0, 1) := jo_3 (jw1 jdcX7_pivot_0 23 rfl rfl)
theorem dX7_pivot_24 : decode cX7_pivot 24 = .ok (.aload_n 0, 1) := jo_42 (jw1 jdcX7_pivot_0 24 rfl rfl)
theorem dX7_pivot_25 : decode cX7_pivot 25 = .ok (.getfield 7, 3) := jo_180 (a := 0) (b := 7) (jw3 jdcX7_pivot_0 25 rfl rfl) rfl
theorem jdcX7_pivot_16 : jwk (cX7_pivot.data.toList.drop 28) [27, 46, 184, 0, 143, 4, 100, 184, 0, 105, 154, 0, 6, 16, 254, 172, 42, 27, 182, 0, 137, 28, 54, 4, 21, 4, 42] = true := by decide +kernel
theorem dX7_pivot_28 : decode cX7_pivot 28 = .ok (.iload_n 1, 1) := jo_27 (jw1 jdcX7_pivot_16 0 rfl rfl)
theorem dX7_pivot_29 : decode cX7_pivot 29 = .ok (.iaload, 1) := jo_46 (jw1 jdcX7_pivot_16 1 rfl rfl)
theorem dX7_pivot_30 : decode cX7_pivot 30 = .ok (.invokestatic 143, 3) := jo_184 (a := 0) (b := 143) (jw3 jdcX7_pivot_16 2 rfl rfl) rfl
theorem dX7_pivot_33 : decode cX7_pivot 33 = .ok (.iconst 1, 1) := jo_4 (jw1 jdcX7_pivot_16 5 rfl rfl)
theorem dX7_pivot_34 : decode cX7_pivot 34 = .ok (.isub, 1) := jo_100 (jw1 jdcX7_pivot_16 6 rfl rfl)
theorem dX7_pivot_35 : decode cX7_pivot 35 = .ok (.invokestatic 105, 3) := jo_184 (a := 0) (b := 105) (jw3 jdcX7_pivot_16 7 rfl rfl) rfl
theorem dX7_pivot_38 : decode cX7_pivot 38 = .ok (.ifCond .ne 6, 3) := jo_154 (a := 0) (b := 6) (jw3 jdcX7_pivot_16 10 rfl rfl) rfl
theorem dX7_pivot_41 : decode cX7_pivot 41 = .ok (.bipush (-2), 2) := jo_16 (a := 254) (jw2 jdcX7_pivot_16 13 rfl rfl) rfl
theorem dX7_pivot_43 : decode cX7_pivot 43 = .ok (.ireturn, 1) := jo_172 (jw1 jdcX7_pivot_16 15 rfl rfl)
theorem dX7_pivot_44 : decode cX7_pivot 44 = .ok (.aload_n 0, 1) := jo_42 (jw1 jdcX7_pivot_16 16 rfl rfl)
theorem dX7_pivot_45 : decode cX7_pivot 45 = .ok (.iload_n 1, 1) := jo_27 (jw1 jdcX7_pivot_16 17 rfl rfl)
theorem dX7_pivot_46 : decode cX7_pivot 46 = .ok (.invokevirtual 137, 3) := jo_182 (a := 0) (b := 137) (jw3 jdcX7_pivot_16 18 rfl rfl) rfl
theorem dX7_pivot_49 : decode cX7_pivot 49 = .ok (.iload_n 2, 1) := jo_28 (jw1 jdcX7_pivot_16 21 rfl rfl)
theorem dX7_pivot_50 : decode cX7_pivot 50 = .ok (.istore 4, 2) := jo_54 (jw2 jdcX7_pivot_16 22 rfl rfl)
theorem dX7_pivot_52 : decode cX7_pivot 52 = .ok (.iload 4, 2) := jo_21 (jw2 jdcX7_pivot_16 24 rfl rfl)
theorem dX7_pivot_54 : decode cX7_pivot 54 = .ok (.aload_n 0, 1) := jo_42 (jw1 jdcX7_pivot_16 26 rfl rfl)
theorem jdcX7_pivot_32 : jwk (cX7_pivot.data.toList.drop 55) [180, 0, 109, 162, 0, 33, 42, 180, 0, 19, 21, 4, 42, 180, 0, 7, 27, 46, 29, 42, 180, 0, 19, 21, 4, 46, 184, 0, 146, 79] = true := by decide +kernel
theorem dX7_pivot_55 : decode cX7_pivot 55 = .ok (.getfield 109, 3) := jo_180 (a := 0) (b := 109) (jw3 jdcX7_pivot_32 0 rfl rfl) rfl
theorem dX7_pivot_58 : decode cX7_pivot 58 = .ok (.if_icmp .ge 33, 3) := jo_162 (a := 0) (b := 33) (jw3 jdcX7_pivot_32 3 rfl rfl) rfl
theorem dX7_pivot_61 : decode cX7_pivot 61 = .ok (.aload_n 0, 1) := jo_42 (jw1 jdcX7_pivot_32 6 rfl rfl)
theorem dX7_pivot_62 : decode cX7_pivot 62 = .ok (.getfield 19, 3) := jo_180 (a := 0) (b := 19) (jw3 jdcX7_pivot_32 7 rfl rfl) rfl
theorem dX7_pivot_65 : decode cX7_pivot 65 = .ok (.iload 4, 2) := jo_21 (jw2 jdcX7_pivot_32 10 rfl rfl)
theorem dX7_pivot_67 : decode cX7_pivot 67 = .ok (.aload_n 0, 1) := jo_42 (jw1 jdcX7_pivot_32 12 rfl rfl)
theorem dX7_pivot_68 : decode cX7_pivot 68 = .ok (.getfield 7, 3) := jo_180 (a := 0) (b := 7) (jw3 jdcX7_pivot_32 13 rfl rfl) rfl
theorem dX7_pivot_71 : decode cX7_pivot 71 = .ok (.iload_n 1, 1) := jo_27 (jw1 jdcX7_pivot_32 16 rfl rfl)
theorem dX7_pivot_72 : decode cX7_pivot 72 = .ok (.iaload, 1) := jo_46 (jw1 jdcX7_pivot_32 17 rfl rfl)
theorem dX7_pivot_73 : decode cX7_pivot 73 = .ok (.iload_n 3, 1) := jo_29 (jw1 jdcX7_pivot_32 18 rfl rfl)
theorem dX7_pivot_74 : decode cX7_pivot 74 = .ok (.aload_n 0, 1) := jo_42 (jw1 jdcX7_pivot_32 19 rfl rfl)
theorem dX7_pivot_75 : decode cX7_pivot 75 = .ok (.getfield 19, 3) := jo_180 (a := 0) (b := 19) (jw3 jdcX7_pivot_32 20 rfl rfl) rfl
theorem dX7_pivot_78 : decode cX7_pivot 78 = .ok (.iload 4, 2) := jo_21 (jw2 jdcX7_pivot_32 23 rfl rfl)
theorem dX7_pivot_80 : decode cX7_pivot 80 = .ok (.iaload, 1) := jo_46 (jw1 jdcX7_pivot_32 25 rfl rfl)
theorem dX7_pivot_81 : decode cX7_pivot 81 = .ok (.invokestatic 146, 3) := jo_184 (a := 0) (b := 146) (jw3 jdcX7_pivot_32 26 rfl rfl) rfl
theorem dX7_pivot_84 : decode cX7_pivot 84 = .ok (.iastore, 1) := jo_79 (jw1 jdcX7_pivot_32 29 rfl rfl)
theorem jdcX7_pivot_48 : jwk (cX7_pivot.data.toList.drop 85) [132, 4, 1, 167, 255, 220, 42, 27, 182, 0, 140, 156, 0, 8, 16, 253, 167, 0, 4, 4, 172] = true := by decide +kernel
theorem dX7_pivot_85 : decode cX7_pivot 85 = .ok (.iinc 4 1, 3) := jo_132 (a := 4) (b := 1) (jw3 jdcX7_pivot_48 0 rfl rfl) rfl
theorem dX7_pivot_88 : decode cX7_pivot 88 = .ok (.goto (-36), 3) := jo_167 (a := 255) (b := 220) (jw3 jdcX7_pivot_48 3 rfl rfl) rfl
theorem dX7_pivot_91 : decode cX7_pivot 91 = .ok (.aload_n 0, 1) := jo_42 (jw1 jdcX7_pivot_48 6 rfl rfl)
theorem dX7_pivot_92 : decode cX7_pivot 92 = .ok (.iload_n 1, 1) := jo_27 (jw1 jdcX7_pivot_48 7 rfl rfl)
theorem dX7_pivot_93 : decode cX7_pivot 93 = .ok (.invokevirtual 140, 3) := jo_182 (a := 0) (b := 140) (jw3 jdcX7_pivot_48 8 rfl rfl) rfl
theorem dX7_pivot_96 : decode cX7_pivot 96 = .ok (.ifCond .ge 8, 3) := jo_156 (a := 0) (b := 8) (jw3 jdcX7_pivot_48 11 rfl rfl) rfl
theorem dX7_pivot_99 : decode cX7_pivot 99 = .ok (.bipush (-3), 2) := jo_16 (a := 253) (jw2 jdcX7_pivot_48 14 rfl rfl) rfl
theorem dX7_pivot_101 : decode cX7_pivot 101 = .ok (.goto 4, 3) := jo_167 (a := 0) (b := 4) (jw3 jdcX7_pivot_48 16 rfl rfl) rfl
theorem dX7_pivot_104 : decode cX7_pivot 104 = .ok (.iconst 1, 1) := jo_4 (jw1 jdcX7_pivot_48 19 rfl rfl)
theorem dX7_pivot_105 : decode cX7_pivot 105 = .ok (.ireturn, 1) := jo_172 (jw1 jdcX7_pivot_48 20 rfl rfl)
theorem jdcX7_join_0 : jwk (cX7_join.data.toList.drop 0) [42, 27, 182, 0, 130, 153, 0, 11, 42, 28, 182, 0, 130, 154, 0, 6, 16, 254, 172, 42, 180, 0, 7, 27, 46, 42, 180, 0, 7] = true := by decide +kernel
theorem dX7_join_0 : decode cX7_join 0 = .ok (.aload_n 0, 1) := jo_42 (jw1 jdcX7_join_0 0 rfl rfl)
theorem dX7_join_1 : decode cX7_join 1 = .ok (.iload_n 1, 1) := jo_27 (jw1 jdcX7_join_0 1 rfl rfl)
theorem dX7_join_2 : decode cX7_join 2 = .ok (.invokevirtual 130, 3) := jo_182 (a := 0) (b := 130) (jw3 jdcX7_join_0 2 rfl rfl) rfl
theorem dX7_join_5 : decode cX7_join 5 = .ok (.ifCond .eq 11, 3) := jo_153 (a := 0) (b := 11) (jw3 jdcX7_join_0 5 rfl rfl) rfl
theorem dX7_join_8 : decode cX7_join 8 = .ok (.aload_n 0, 1) := jo_42 (jw1 jdcX7_join_0 8 rfl rfl)
theorem dX7_join_9 : decode cX7_join 9 = .ok (.iload_n 2, 1) := jo_28 (jw1 jdcX7_join_0 9 rfl rfl)
theorem dX7_join_10 : decode cX7_join 10 = .ok (.invokevirtual 130, 3) := jo_182 (a := 0) (b := 130) (jw3 jdcX7_join_0 10 rfl rfl) rfl
theorem dX7_join_13 : decode cX7_join 13 = .ok (.ifCond .ne 6, 3) := jo_154 (a := 0) (b := 6) (jw3 jdcX7_join_0 13 rfl rfl) rfl
theorem dX7_join_16 : decode cX7_join 16 = .ok (.bipush (-2), 2) := jo_16 (a := 254) (jw2 jdcX7_join_0 16 rfl rfl) rfl
theorem dX7_join_18 : decode cX7_join 18 = .ok (.ireturn, 1) := jo_172 (jw1 jdcX7_join_0 18 rfl rfl)
theorem dX7_join_19 : decode cX7_join 19 = .ok (.aload_n 0, 1) := jo_42 (jw1 jdcX7_join_0 19 rfl rfl)
theorem dX7_join_20 : decode cX7_join 20 = .ok (.getfield 7, 3) := jo_180 (a := 0) (b := 7) (jw3 jdcX7_join_0 20 rfl rfl) rfl
theorem dX7_join_23 : decode cX7_join 23 = .ok (.iload_n 1, 1) := jo_27 (jw1 jdcX7_join_0 23 rfl rfl)
theorem dX7_join_24 : decode cX7_join 24 = .ok (.iaload, 1) := jo_46 (jw1 jdcX7_join_0 24 rfl rfl)
theorem dX7_join_25 : decode cX7_join 25 = .ok (.aload_n 0, 1) := jo_42 (jw1 jdcX7_join_0 25 rfl rfl)
theorem dX7_join_26 : decode cX7_join 26 = .ok (.getfield 7, 3) := jo_180 (a := 0) (b := 7) (jw3 jdcX7_join_0 26 rfl rfl) rfl
theorem jdcX7_join_16 : jwk (cX7_join.data.toList.drop 29) [28, 46, 159, 0, 6, 16, 253, 172, 42, 27, 182, 0, 137, 42, 180, 0, 13, 28, 46, 62, 3, 54, 4, 21, 4] = true := by decide +kernel
theorem dX7_join_29 : decode cX7_join 29 = .ok (.iload_n 2, 1) := jo_28 (jw1 jdcX7_join_16 0 rfl rfl)
theorem dX7_join_30 : decode cX7_join 30 = .ok (.iaload, 1) := jo_46 (jw1 jdcX7_join_16 1 rfl rfl)
theorem dX7_join_31 : decode cX7_join 31 = .ok (.if_icmp .eq 6, 3) := jo_159 (a := 0) (b := 6) (jw3 jdcX7_join_16 2 rfl rfl) rfl
theorem dX7_join_34 : decode cX7_join 34 = .ok (.bipush (-3), 2) := jo_16 (a := 253) (jw2 jdcX7_join_16 5 rfl rfl) rfl
theorem dX7_join_36 : decode cX7_join 36 = .ok (.ireturn, 1) := jo_172 (jw1 jdcX7_join_16 7 rfl rfl)
theorem dX7_join_37 : decode cX7_join 37 = .ok (.aload_n 0, 1) := jo_42 (jw1 jdcX7_join_16 8 rfl rfl)
theorem dX7_join_38 : decode cX7_join 38 = .ok (.iload_n 1, 1) := jo_27 (jw1 jdcX7_join_16 9 rfl rfl)
theorem dX7_join_39 : decode cX7_join 39 = .ok (.invokevirtual 137, 3) := jo_182 (a := 0) (b := 137) (jw3 jdcX7_join_16 10 rfl rfl) rfl
theorem dX7_join_42 : decode cX7_join 42 = .ok (.aload_n 0, 1) := jo_42 (jw1 jdcX7_join_16 13 rfl rfl)
theorem dX7_join_43 : decode cX7_join 43 = .ok (.getfield 13, 3) := jo_180 (a := 0) (b := 13) (jw3 jdcX7_join_16 14 rfl rfl) rfl
theorem dX7_join_46 : decode cX7_join 46 = .ok (.iload_n 2, 1) := jo_28 (jw1 jdcX7_join_16 17 rfl rfl)
theorem dX7_join_47 : decode cX7_join 47 = .ok (.iaload, 1) := jo_46 (jw1 jdcX7_join_16 18 rfl rfl)
theorem dX7_join_48 : decode cX7_join 48 = .ok (.istore_n 3, 1) := jo_62 (jw1 jdcX7_join_16 19 rfl rfl)
theorem dX7_join_49 : decode cX7_join 49 = .ok (.iconst 0, 1) := jo_3 (jw1 jdcX7_join_16 20 rfl rfl)
theorem dX7_join_50 : decode cX7_join 50 = .ok (.istore 4, 2) := jo_54 (jw2 jdcX7_join_16 21 rfl rfl)
theorem dX7_join_52 : decode cX7_join 52 = .ok (.iload 4, 2) := jo_21 (jw2 jdcX7_join_16 23 rfl rfl)
theorem jdcX7_join_32 : jwk (cX7_join.data.toList.drop 54) [29, 162, 0, 40, 42, 180, 0, 19, 42, 180, 0, 109, 42, 180, 0, 16, 16, 60, 28, 104, 21, 4, 96, 46, 79, 42] = true := by decide +kernel
theorem dX7_join_54 : decode cX7_join 54 = .ok (.iload_n 3, 1) := jo_29 (jw1 jdcX7_join_32 0 rfl rfl)
theorem dX7_join_55 : decode cX7_join 55 = .ok (.if_icmp .ge 40, 3) := jo_162 (a := 0) (b := 40) (jw3 jdcX7_join_32 1 rfl rfl) rfl
theorem dX7_join_58 : decode cX7_join 58 = .ok (.aload_n 0, 1) := jo_42 (jw1 jdcX7_join_32 4 rfl rfl)
theorem dX7_join_59 : decode cX7_join 59 = .ok (.getfield 19, 3) := jo_180 (a := 0) (b := 19) (jw3 jdcX7_join_32 5 rfl rfl) rfl
theorem dX7_join_62 : decode cX7_join 62 = .ok (.aload_n 0, 1) := jo_42 (jw1 jdcX7_join_32 8 rfl rfl)
theorem dX7_join_63 : decode cX7_join 63 = .ok (.getfield 109, 3) := jo_180 (a := 0) (b := 109) (jw3 jdcX7_join_32 9 rfl rfl) rfl
theorem dX7_join_66 : decode cX7_join 66 = .ok (.aload_n 0, 1) := jo_42 (jw1 jdcX7_join_32 12 rfl rfl)
theorem dX7_join_67 : decode cX7_join 67 = .ok (.getfield 16, 3) := jo_180 (a := 0) (b := 16) (jw3 jdcX7_join_32 13 rfl rfl) rfl
theorem dX7_join_70 : decode cX7_join 70 = .ok (.bipush 60, 2) := jo_16 (a := 60) (jw2 jdcX7_join_32 16 rfl rfl) rfl
theorem dX7_join_72 : decode cX7_join 72 = .ok (.iload_n 2, 1) := jo_28 (jw1 jdcX7_join_32 18 rfl rfl)
theorem dX7_join_73 : decode cX7_join 73 = .ok (.imul, 1) := jo_104 (jw1 jdcX7_join_32 19 rfl rfl)
theorem dX7_join_74 : decode cX7_join 74 = .ok (.iload 4, 2) := jo_21 (jw2 jdcX7_join_32 20 rfl rfl)
theorem dX7_join_76 : decode cX7_join 76 = .ok (.iadd, 1) := jo_96 (jw1 jdcX7_join_32 22 rfl rfl)
theorem dX7_join_77 : decode cX7_join 77 = .ok (.iaload, 1) := jo_46 (jw1 jdcX7_join_32 23 rfl rfl)
theorem dX7_join_78 : decode cX7_join 78 = .ok (.iastore, 1) := jo_79 (jw1 jdcX7_join_32 24 rfl rfl)
theorem dX7_join_79 : decode cX7_join 79 = .ok (.aload_n 0, 1) := jo_42 (jw1 jdcX7_join_32 25 rfl rfl)
theorem jdcX7_join_48 : jwk (cX7_join.data.toList.drop 80) [89, 180, 0, 109, 4, 96, 181, 0, 109, 132, 4, 1, 167, 255, 216, 42, 27, 182, 0, 140, 172] = true := by decide +kernel
theorem dX7_join_80 : decode cX7_join 80 = .ok (.dup, 1) := jo_89 (jw1 jdcX7_join_48 0 rfl rfl)
theorem dX7_join_81 : decode cX7_join 81 = .ok (.getfield 109, 3) := jo_180 (a := 0) (b := 109) (jw3 jdcX7_join_48 1 rfl rfl) rfl
theorem dX7_join_84 : decode cX7_join 84 = .ok (.iconst 1, 1) := jo_4 (jw1 jdcX7_join_48 4 rfl rfl)
theorem dX7_join_85 : decode cX7_join 85 = .ok (.iadd, 1) := jo_96 (jw1 jdcX7_join_48 5 rfl rfl)
theorem dX7_join_86 : decode cX7_join 86 = .ok (.putfield 109, 3) := jo_181 (a := 0) (b := 109) (jw3 jdcX7_join_48 6 rfl rfl) rfl
theorem dX7_join_89 : decode cX7_join 89 = .ok (.iinc 4 1, 3) := jo_132 (a := 4) (b := 1) (jw3 jdcX7_join_48 9 rfl rfl) rfl
theorem dX7_join_92 : decode cX7_join 92 = .ok (.goto (-40), 3) := jo_167 (a := 255) (b := 216) (jw3 jdcX7_join_48 12 rfl rfl) rfl
theorem dX7_join_95 : decode cX7_join 95 = .ok (.aload_n 0, 1) := jo_42 (jw1 jdcX7_join_48 15 rfl rfl)
theorem dX7_join_96 : decode cX7_join 96 = .ok (.iload_n 1, 1) := jo_27 (jw1 jdcX7_join_48 16 rfl rfl)
theorem dX7_join_97 : decode cX7_join 97 = .ok (.invokevirtual 140, 3) := jo_182 (a := 0) (b := 140) (jw3 jdcX7_join_48 17 rfl rfl) rfl
theorem dX7_join_100 : decode cX7_join 100 = .ok (.ireturn, 1) := jo_172 (jw1 jdcX7_join_48 20 rfl rfl)
theorem jdcX7_turnBack_0 : jwk (cX7_turnBack.data.toList.drop 0) [42, 27, 182, 0, 130, 154, 0, 6, 16, 254, 172, 42, 27, 182, 0, 137, 42, 42, 180, 0, 7, 27, 46, 182, 0, 122, 87] = true := by decide +kernel
theorem dX7_turnBack_0 : decode cX7_turnBack 0 = .ok (.aload_n 0, 1) := jo_42 (jw1 jdcX7_turnBack_0 0 rfl rfl)
theorem dX7_turnBack_1 : decode cX7_turnBack 1 = .ok (.iload_n 1, 1) := jo_27 (jw1 jdcX7_turnBack_0 1 rfl rfl)
theorem dX7_turnBack_2 : decode cX7_turnBack 2 = .ok (.invokevirtual 130, 3) := jo_182 (a := 0) (b := 130) (jw3 jdcX7_turnBack_0 2 rfl rfl) rfl
theorem dX7_turnBack_5 : decode cX7_turnBack 5 = .ok (.ifCond .ne 6, 3) := jo_154 (a := 0) (b := 6) (jw3 jdcX7_turnBack_0 5 rfl rfl) rfl
theorem dX7_turnBack_8 : decode cX7_turnBack 8 = .ok (.bipush (-2), 2) := jo_16 (a := 254) (jw2 jdcX7_turnBack_0 8 rfl rfl) rfl
theorem dX7_turnBack_10 : decode cX7_turnBack 10 = .ok (.ireturn, 1) := jo_172 (jw1 jdcX7_turnBack_0 10 rfl rfl)
theorem dX7_turnBack_11 : decode cX7_turnBack 11 = .ok (.aload_n 0, 1) := jo_42 (jw1 jdcX7_turnBack_0 11 rfl rfl)
theorem dX7_turnBack_12 : decode cX7_turnBack 12 = .ok (.iload_n 1, 1) := jo_27 (jw1 jdcX7_turnBack_0 12 rfl rfl)
theorem dX7_turnBack_13 : decode cX7_turnBack 13 = .ok (.invokevirtual 137, 3) := jo_182 (a := 0) (b := 137) (jw3 jdcX7_turnBack_0 13 rfl rfl) rfl
theorem dX7_turnBack_16 : decode cX7_turnBack 16 = .ok (.aload_n 0, 1) := jo_42 (jw1 jdcX7_turnBack_0 16 rfl rfl)
theorem dX7_turnBack_17 : decode cX7_turnBack 17 = .ok (.aload_n 0, 1) := jo_42 (jw1 jdcX7_turnBack_0 17 rfl rfl)
theorem dX7_turnBack_18 : decode cX7_turnBack 18 = .ok (.getfield 7, 3) := jo_180 (a := 0) (b := 7) (jw3 jdcX7_turnBack_0 18 rfl rfl) rfl
theorem dX7_turnBack_21 : decode cX7_turnBack 21 = .ok (.iload_n 1, 1) := jo_27 (jw1 jdcX7_turnBack_0 21 rfl rfl)
theorem dX7_turnBack_22 : decode cX7_turnBack 22 = .ok (.iaload, 1) := jo_46 (jw1 jdcX7_turnBack_0 22 rfl rfl)
theorem dX7_turnBack_23 : decode cX7_turnBack 23 = .ok (.invokevirtual 122, 3) := jo_182 (a := 0) (b := 122) (jw3 jdcX7_turnBack_0 23 rfl rfl) rfl
theorem dX7_turnBack_26 : decode cX7_turnBack 26 = .ok (.pop, 1) := jo_87 (jw1 jdcX7_turnBack_0 26 rfl rfl)
theorem jdcX7_turnBack_16 : jwk (cX7_turnBack.data.toList.drop 27) [42, 180, 0, 7, 27, 46, 5, 160, 0, 31, 42, 180, 0, 22, 42, 180, 0, 109, 46, 42, 180, 0, 25, 42, 180, 0, 109, 46] = true := by decide +kernel
theorem dX7_turnBack_27 : decode cX7_turnBack 27 = .ok (.aload_n 0, 1) := jo_42 (jw1 jdcX7_turnBack_16 0 rfl rfl)
theorem dX7_turnBack_28 : decode cX7_turnBack 28 = .ok (.getfield 7, 3) := jo_180 (a := 0) (b := 7) (jw3 jdcX7_turnBack_16 1 rfl rfl) rfl
theorem dX7_turnBack_31 : decode cX7_turnBack 31 = .ok (.iload_n 1, 1) := jo_27 (jw1 jdcX7_turnBack_16 4 rfl rfl)
theorem dX7_turnBack_32 : decode cX7_turnBack 32 = .ok (.iaload, 1) := jo_46 (jw1 jdcX7_turnBack_16 5 rfl rfl)
theorem dX7_turnBack_33 : decode cX7_turnBack 33 = .ok (.iconst 2, 1) := jo_5 (jw1 jdcX7_turnBack_16 6 rfl rfl)
theorem dX7_turnBack_34 : decode cX7_turnBack 34 = .ok (.if_icmp .ne 31, 3) := jo_160 (a := 0) (b := 31) (jw3 jdcX7_turnBack_16 7 rfl rfl) rfl
theorem dX7_turnBack_37 : decode cX7_turnBack 37 = .ok (.aload_n 0, 1) := jo_42 (jw1 jdcX7_turnBack_16 10 rfl rfl)
theorem dX7_turnBack_38 : decode cX7_turnBack 38 = .ok (.getfield 22, 3) := jo_180 (a := 0) (b := 22) (jw3 jdcX7_turnBack_16 11 rfl rfl) rfl
theorem dX7_turnBack_41 : decode cX7_turnBack 41 = .ok (.aload_n 0, 1) := jo_42 (jw1 jdcX7_turnBack_16 14 rfl rfl)
theorem dX7_turnBack_42 : decode cX7_turnBack 42 = .ok (.getfield 109, 3) := jo_180 (a := 0) (b := 109) (jw3 jdcX7_turnBack_16 15 rfl rfl) rfl
theorem dX7_turnBack_45 : decode cX7_turnBack 45 = .ok (.iaload, 1) := jo_46 (jw1 jdcX7_turnBack_16 18 rfl rfl)
theorem dX7_turnBack_46 : decode cX7_turnBack 46 = .ok (.aload_n 0, 1) := jo_42 (jw1 jdcX7_turnBack_16 19 rfl rfl)
theorem dX7_turnBack_47 : decode cX7_turnBack 47 = .ok (.getfield 25, 3) := jo_180 (a := 0) (b := 25) (jw3 jdcX7_turnBack_16 20 rfl rfl) rfl
theorem dX7_turnBack_50 : decode cX7_turnBack 50 = .ok (.aload_n 0, 1) := jo_42 (jw1 jdcX7_turnBack_16 23 rfl rfl)
theorem dX7_turnBack_51 : decode cX7_turnBack 51 = .ok (.getfield 109, 3) := jo_180 (a := 0) (b := 109) (jw3 jdcX7_turnBack_16 24 rfl rfl) rfl
theorem dX7_turnBack_54 : decode cX7_turnBack 54 = .ok (.iaload, 1) := jo_46 (jw1 jdcX7_turnBack_16 27 rfl rfl)
theorem jdcX7_turnBack_32 : jwk (cX7_turnBack.data.toList.drop 55) [96, 4, 126, 4, 160, 0, 6, 16, 253, 172, 3, 61, 28, 42, 180, 0, 109, 162, 0, 42, 42, 180, 0, 19, 28] = true := by decide +kernel
theorem dX7_turnBack_55 : decode cX7_turnBack 55 = .ok (.iadd, 1) := jo_96 (jw1 jdcX7_turnBack_32 0 rfl rfl)
theorem dX7_turnBack_56 : decode cX7_turnBack 56 = .ok (.iconst 1, 1) := jo_4 (jw1 jdcX7_turnBack_32 1 rfl rfl)
theorem dX7_turnBack_57 : decode cX7_turnBack 57 = .ok (.iand, 1) := jo_126 (jw1 jdcX7_turnBack_32 2 rfl rfl)
theorem dX7_turnBack_58 : decode cX7_turnBack 58 = .ok (.iconst 1, 1) := jo_4 (jw1 jdcX7_turnBack_32 3 rfl rfl)
theorem dX7_turnBack_59 : decode cX7_turnBack 59 = .ok (.if_icmp .ne 6, 3) := jo_160 (a := 0) (b := 6) (jw3 jdcX7_turnBack_32 4 rfl rfl) rfl
theorem dX7_turnBack_62 : decode cX7_turnBack 62 = .ok (.bipush (-3), 2) := jo_16 (a := 253) (jw2 jdcX7_turnBack_32 7 rfl rfl) rfl
theorem dX7_turnBack_64 : decode cX7_turnBack 64 = .ok (.ireturn, 1) := jo_172 (jw1 jdcX7_turnBack_32 9 rfl rfl)
theorem dX7_turnBack_65 : decode cX7_turnBack 65 = .ok (.iconst 0, 1) := jo_3 (jw1 jdcX7_turnBack_32 10 rfl rfl)
theorem dX7_turnBack_66 : decode cX7_turnBack 66 = .ok (.istore_n 2, 1) := jo_61 (jw1 jdcX7_turnBack_32 11 rfl rfl)
theorem dX7_turnBack_67 : decode cX7_turnBack 67 = .ok (.iload_n 2, 1) := jo_28 (jw1 jdcX7_turnBack_32 12 rfl rfl)
theorem dX7_turnBack_68 : decode cX7_turnBack 68 = .ok (.aload_n 0, 1) := jo_42 (jw1 jdcX7_turnBack_32 13 rfl rfl)
theorem dX7_turnBack_69 : decode cX7_turnBack 69 = .ok (.getfield 109, 3) := jo_180 (a := 0) (b := 109) (jw3 jdcX7_turnBack_32 14 rfl rfl) rfl
theorem dX7_turnBack_72 : decode cX7_turnBack 72 = .ok (.if_icmp .ge 42, 3) := jo_162 (a := 0) (b := 42) (jw3 jdcX7_turnBack_32 17 rfl rfl) rfl
theorem dX7_turnBack_75 : decode cX7_turnBack 75 = .ok (.aload_n 0, 1) := jo_42 (jw1 jdcX7_turnBack_32 20 rfl rfl)
theorem dX7_turnBack_76 : decode cX7_turnBack 76 = .ok (.getfield 19, 3) := jo_180 (a := 0) (b := 19) (jw3 jdcX7_turnBack_32 21 rfl rfl) rfl
theorem dX7_turnBack_79 : decode cX7_turnBack 79 = .ok (.iload_n 2, 1) := jo_28 (jw1 jdcX7_turnBack_32 24 rfl rfl)
theorem jdcX7_turnBack_48 : jwk (cX7_turnBack.data.toList.drop 80) [42, 180, 0, 7, 27, 46, 42, 180, 0, 16, 16, 60, 27, 104, 42, 180, 0, 109, 96, 4, 100, 28, 100] = true := by decide +kernel
theorem dX7_turnBack_80 : decode cX7_turnBack 80 = .ok (.aload_n 0, 1) := jo_42 (jw1 jdcX7_turnBack_48 0 rfl rfl)
theorem dX7_turnBack_81 : decode cX7_turnBack 81 = .ok (.getfield 7, 3) := jo_180 (a := 0) (b := 7) (jw3 jdcX7_turnBack_48 1 rfl rfl) rfl
theorem dX7_turnBack_84 : decode cX7_turnBack 84 = .ok (.iload_n 1, 1) := jo_27 (jw1 jdcX7_turnBack_48 4 rfl rfl)
theorem dX7_turnBack_85 : decode cX7_turnBack 85 = .ok (.iaload, 1) := jo_46 (jw1 jdcX7_turnBack_48 5 rfl rfl)
theorem dX7_turnBack_86 : decode cX7_turnBack 86 = .ok (.aload_n 0, 1) := jo_42 (jw1 jdcX7_turnBack_48 6 rfl rfl)
theorem dX7_turnBack_87 : decode cX7_turnBack 87 = .ok (.getfield 16, 3) := jo_180 (a := 0) (b := 16) (jw3 jdcX7_turnBack_48 7 rfl rfl) rfl
theorem dX7_turnBack_90 : decode cX7_turnBack 90 = .ok (.bipush 60, 2) := jo_16 (a := 60) (jw2 jdcX7_turnBack_48 10 rfl rfl) rfl
theorem dX7_turnBack_92 : decode cX7_turnBack 92 = .ok (.iload_n 1, 1) := jo_27 (jw1 jdcX7_turnBack_48 12 rfl rfl)
theorem dX7_turnBack_93 : decode cX7_turnBack 93 = .ok (.imul, 1) := jo_104 (jw1 jdcX7_turnBack_48 13 rfl rfl)
theorem dX7_turnBack_94 : decode cX7_turnBack 94 = .ok (.aload_n 0, 1) := jo_42 (jw1 jdcX7_turnBack_48 14 rfl rfl)
theorem dX7_turnBack_95 : decode cX7_turnBack 95 = .ok (.getfield 109, 3) := jo_180 (a := 0) (b := 109) (jw3 jdcX7_turnBack_48 15 rfl rfl) rfl
theorem dX7_turnBack_98 : decode cX7_turnBack 98 = .ok (.iadd, 1) := jo_96 (jw1 jdcX7_turnBack_48 18 rfl rfl)
theorem dX7_turnBack_99 : decode cX7_turnBack 99 = .ok (.iconst 1, 1) := jo_4 (jw1 jdcX7_turnBack_48 19 rfl rfl)
theorem dX7_turnBack_100 : decode cX7_turnBack 100 = .ok (.isub, 1) := jo_100 (jw1 jdcX7_turnBack_48 20 rfl rfl)
theorem dX7_turnBack_101 : decode cX7_turnBack 101 = .ok (.iload_n 2, 1) := jo_28 (jw1 jdcX7_turnBack_48 21 rfl rfl)
theorem dX7_turnBack_102 : decode cX7_turnBack 102 = .ok (.isub, 1) := jo_100 (jw1 jdcX7_turnBack_48 22 rfl rfl)
theorem jdcX7_turnBack_64 : jwk (cX7_turnBack.data.toList.drop 103) [46, 184, 0, 149, 79, 132, 2, 1, 167, 255, 212, 42, 27, 182, 0, 126, 42, 180, 0, 109, 172] = true := by decide +kernel
theorem dX7_turnBack_103 : decode cX7_turnBack 103 = .ok (.iaload, 1) := jo_46 (jw1 jdcX7_turnBack_64 0 rfl rfl)
theorem dX7_turnBack_104 : decode cX7_turnBack 104 = .ok (.invokestatic 149, 3) := jo_184 (a := 0) (b := 149) (jw3 jdcX7_turnBack_64 1 rfl rfl) rfl
theorem dX7_turnBack_107 : decode cX7_turnBack 107 = .ok (.iastore, 1) := jo_79 (jw1 jdcX7_turnBack_64 4 rfl rfl)
theorem dX7_turnBack_108 : decode cX7_turnBack 108 = .ok (.iinc 2 1, 3) := jo_132 (a := 2) (b := 1) (jw3 jdcX7_turnBack_64 5 rfl rfl) rfl
theorem dX7_turnBack_111 : decode cX7_turnBack 111 = .ok (.goto (-44), 3) := jo_167 (a := 255) (b := 212) (jw3 jdcX7_turnBack_64 8 rfl rfl) rfl
theorem dX7_turnBack_114 : decode cX7_turnBack 114 = .ok (.aload_n 0, 1) := jo_42 (jw1 jdcX7_turnBack_64 11 rfl rfl)
theorem dX7_turnBack_115 : decode cX7_turnBack 115 = .ok (.iload_n 1, 1) := jo_27 (jw1 jdcX7_turnBack_64 12 rfl rfl)
theorem dX7_turnBack_116 : decode cX7_turnBack 116 = .ok (.invokevirtual 126, 3) := jo_182 (a := 0) (b := 126) (jw3 jdcX7_turnBack_64 13 rfl rfl) rfl
theorem dX7_turnBack_119 : decode cX7_turnBack 119 = .ok (.aload_n 0, 1) := jo_42 (jw1 jdcX7_turnBack_64 16 rfl rfl)
theorem dX7_turnBack_120 : decode cX7_turnBack 120 = .ok (.getfield 109, 3) := jo_180 (a := 0) (b := 109) (jw3 jdcX7_turnBack_64 17 rfl rfl) rfl
theorem dX7_turnBack_123 : decode cX7_turnBack 123 = .ok (.ireturn, 1) := jo_172 (jw1 jdcX7_turnBack_64 20 rfl rfl)
theorem jdcX7_stepAt_0 : jwk (cX7_stepAt.data.toList.drop 0) [42, 27, 182, 0, 130, 154, 0, 8, 16, 254, 167, 0, 34, 28, 3, 42, 180, 0, 13, 27, 46, 4, 100, 184, 0, 105, 153, 0, 17] = true := by decide +kernel
theorem dX7_stepAt_0 : decode cX7_stepAt 0 = .ok (.aload_n 0, 1) := jo_42 (jw1 jdcX7_stepAt_0 0 rfl rfl)
theorem dX7_stepAt_1 : decode cX7_stepAt 1 = .ok (.iload_n 1, 1) := jo_27 (jw1 jdcX7_stepAt_0 1 rfl rfl)
theorem dX7_stepAt_2 : decode cX7_stepAt 2 = .ok (.invokevirtual 130, 3) := jo_182 (a := 0) (b := 130) (jw3 jdcX7_stepAt_0 2 rfl rfl) rfl
theorem dX7_stepAt_5 : decode cX7_stepAt 5 = .ok (.ifCond .ne 8, 3) := jo_154 (a := 0) (b := 8) (jw3 jdcX7_stepAt_0 5 rfl rfl) rfl
theorem dX7_stepAt_8 : decode cX7_stepAt 8 = .ok (.bipush (-2), 2) := jo_16 (a := 254) (jw2 jdcX7_stepAt_0 8 rfl rfl) rfl
theorem dX7_stepAt_10 : decode cX7_stepAt 10 = .ok (.goto 34, 3) := jo_167 (a := 0) (b := 34) (jw3 jdcX7_stepAt_0 10 rfl rfl) rfl
theorem dX7_stepAt_13 : decode cX7_stepAt 13 = .ok (.iload_n 2, 1) := jo_28 (jw1 jdcX7_stepAt_0 13 rfl rfl)
theorem dX7_stepAt_14 : decode cX7_stepAt 14 = .ok (.iconst 0, 1) := jo_3 (jw1 jdcX7_stepAt_0 14 rfl rfl)
theorem dX7_stepAt_15 : decode cX7_stepAt 15 = .ok (.aload_n 0, 1) := jo_42 (jw1 jdcX7_stepAt_0 15 rfl rfl)
theorem dX7_stepAt_16 : decode cX7_stepAt 16 = .ok (.getfield 13, 3) := jo_180 (a := 0) (b := 13) (jw3 jdcX7_stepAt_0 16 rfl rfl) rfl
theorem dX7_stepAt_19 : decode cX7_stepAt 19 = .ok (.iload_n 1, 1) := jo_27 (jw1 jdcX7_stepAt_0 19 rfl rfl)
theorem dX7_stepAt_20 : decode cX7_stepAt 20 = .ok (.iaload, 1) := jo_46 (jw1 jdcX7_stepAt_0 20 rfl rfl)
theorem dX7_stepAt_21 : decode cX7_stepAt 21 = .ok (.iconst 1, 1) := jo_4 (jw1 jdcX7_stepAt_0 21 rfl rfl)
theorem dX7_stepAt_22 : decode cX7_stepAt 22 = .ok (.isub, 1) := jo_100 (jw1 jdcX7_stepAt_0 22 rfl rfl)
theorem dX7_stepAt_23 : decode cX7_stepAt 23 = .ok (.invokestatic 105, 3) := jo_184 (a := 0) (b := 105) (jw3 jdcX7_stepAt_0 23 rfl rfl) rfl
theorem dX7_stepAt_26 : decode cX7_stepAt 26 = .ok (.ifCond .eq 17, 3) := jo_153 (a := 0) (b := 17) (jw3 jdcX7_stepAt_0 26 rfl rfl) rfl
theorem jdcX7_stepAt_16 : jwk (cX7_stepAt.data.toList.drop 29) [42, 180, 0, 16, 16, 60, 27, 104, 28, 96, 46, 167, 0, 4, 2, 172] = true := by decide +kernel
theorem dX7_stepAt_29 : decode cX7_stepAt 29 = .ok (.aload_n 0, 1) := jo_42 (jw1 jdcX7_stepAt_16 0 rfl rfl)
theorem dX7_stepAt_30 : decode cX7_stepAt 30 = .ok (.getfield 16, 3) := jo_180 (a := 0) (b := 16) (jw3 jdcX7_stepAt_16 1 rfl rfl) rfl
theorem dX7_stepAt_33 : decode cX7_stepAt 33 = .ok (.bipush 60, 2) := jo_16 (a := 60) (jw2 jdcX7_stepAt_16 4 rfl rfl) rfl
theorem dX7_stepAt_35 : decode cX7_stepAt 35 = .ok (.iload_n 1, 1) := jo_27 (jw1 jdcX7_stepAt_16 6 rfl rfl)
theorem dX7_stepAt_36 : decode cX7_stepAt 36 = .ok (.imul, 1) := jo_104 (jw1 jdcX7_stepAt_16 7 rfl rfl)
theorem dX7_stepAt_37 : decode cX7_stepAt 37 = .ok (.iload_n 2, 1) := jo_28 (jw1 jdcX7_stepAt_16 8 rfl rfl)
theorem dX7_stepAt_38 : decode cX7_stepAt 38 = .ok (.iadd, 1) := jo_96 (jw1 jdcX7_stepAt_16 9 rfl rfl)
theorem dX7_stepAt_39 : decode cX7_stepAt 39 = .ok (.iaload, 1) := jo_46 (jw1 jdcX7_stepAt_16 10 rfl rfl)
theorem dX7_stepAt_40 : decode cX7_stepAt 40 = .ok (.goto 4, 3) := jo_167 (a := 0) (b := 4) (jw3 jdcX7_stepAt_16 11 rfl rfl) rfl
theorem dX7_stepAt_43 : decode cX7_stepAt 43 = .ok (.iconst (-1), 1) := jo_2 (jw1 jdcX7_stepAt_16 14 rfl rfl)
theorem dX7_stepAt_44 : decode cX7_stepAt 44 = .ok (.ireturn, 1) := jo_172 (jw1 jdcX7_stepAt_16 15 rfl rfl)
theorem jdcX7_place_0 : jwk (cX7_place.data.toList.drop 0) [42, 27, 182, 0, 130, 153, 0, 26, 28, 3, 42, 180, 0, 13, 27, 46, 184, 0, 105, 153, 0, 12, 29, 3, 5, 184, 0, 105] = true := by decide +kernel
theorem dX7_place_0 : decode cX7_place 0 = .ok (.aload_n 0, 1) := jo_42 (jw1 jdcX7_place_0 0 rfl rfl)
theorem dX7_place_1 : decode cX7_place 1 = .ok (.iload_n 1, 1) := jo_27 (jw1 jdcX7_place_0 1 rfl rfl)
theorem dX7_place_2 : decode cX7_place 2 = .ok (.invokevirtual 130, 3) := jo_182 (a := 0) (b := 130) (jw3 jdcX7_place_0 2 rfl rfl) rfl
theorem dX7_place_5 : decode cX7_place 5 = .ok (.ifCond .eq 26, 3) := jo_153 (a := 0) (b := 26) (jw3 jdcX7_place_0 5 rfl rfl) rfl
theorem dX7_place_8 : decode cX7_place 8 = .ok (.iload_n 2, 1) := jo_28 (jw1 jdcX7_place_0 8 rfl rfl)
theorem dX7_place_9 : decode cX7_place 9 = .ok (.iconst 0, 1) := jo_3 (jw1 jdcX7_place_0 9 rfl rfl)
theorem dX7_place_10 : decode cX7_place 10 = .ok (.aload_n 0, 1) := jo_42 (jw1 jdcX7_place_0 10 rfl rfl)
theorem dX7_place_11 : decode cX7_place 11 = .ok (.getfield 13, 3) := jo_180 (a := 0) (b := 13) (jw3 jdcX7_place_0 11 rfl rfl) rfl
theorem dX7_place_14 : decode cX7_place 14 = .ok (.iload_n 1, 1) := jo_27 (jw1 jdcX7_place_0 14 rfl rfl)
theorem dX7_place_15 : decode cX7_place 15 = .ok (.iaload, 1) := jo_46 (jw1 jdcX7_place_0 15 rfl rfl)
theorem dX7_place_16 : decode cX7_place 16 = .ok (.invokestatic 105, 3) := jo_184 (a := 0) (b := 105) (jw3 jdcX7_place_0 16 rfl rfl) rfl
theorem dX7_place_19 : decode cX7_place 19 = .ok (.ifCond .eq 12, 3) := jo_153 (a := 0) (b := 12) (jw3 jdcX7_place_0 19 rfl rfl) rfl
theorem dX7_place_22 : decode cX7_place 22 = .ok (.iload_n 3, 1) := jo_29 (jw1 jdcX7_place_0 22 rfl rfl)
theorem dX7_place_23 : decode cX7_place 23 = .ok (.iconst 0, 1) := jo_3 (jw1 jdcX7_place_0 23 rfl rfl)
theorem dX7_place_24 : decode cX7_place 24 = .ok (.iconst 2, 1) := jo_5 (jw1 jdcX7_place_0 24 rfl rfl)
theorem dX7_place_25 : decode cX7_place 25 = .ok (.invokestatic 105, 3) := jo_184 (a := 0) (b := 105) (jw3 jdcX7_place_0 25 rfl rfl) rfl
theorem jdcX7_place_16 : jwk (cX7_place.data.toList.drop 28) [154, 0, 7, 17, 252, 24, 172, 42, 27, 182, 0, 137, 42, 42, 180, 0, 7, 27, 46, 182, 0, 122, 87, 29, 154, 0, 12, 42] = true := by decide +kernel
theorem dX7_place_28 : decode cX7_place 28 = .ok (.ifCond .ne 7, 3) := jo_154 (a := 0) (b := 7) (jw3 jdcX7_place_16 0 rfl rfl) rfl
theorem dX7_place_31 : decode cX7_place 31 = .ok (.sipush (-1000), 3) := jo_17 (a := 252) (b := 24) (jw3 jdcX7_place_16 3 rfl rfl) rfl
theorem dX7_place_34 : decode cX7_place 34 = .ok (.ireturn, 1) := jo_172 (jw1 jdcX7_place_16 6 rfl rfl)
theorem dX7_place_35 : decode cX7_place 35 = .ok (.aload_n 0, 1) := jo_42 (jw1 jdcX7_place_16 7 rfl rfl)
theorem dX7_place_36 : decode cX7_place 36 = .ok (.iload_n 1, 1) := jo_27 (jw1 jdcX7_place_16 8 rfl rfl)
theorem dX7_place_37 : decode cX7_place 37 = .ok (.invokevirtual 137, 3) := jo_182 (a := 0) (b := 137) (jw3 jdcX7_place_16 9 rfl rfl) rfl
theorem dX7_place_40 : decode cX7_place 40 = .ok (.aload_n 0, 1) := jo_42 (jw1 jdcX7_place_16 12 rfl rfl)
theorem dX7_place_41 : decode cX7_place 41 = .ok (.aload_n 0, 1) := jo_42 (jw1 jdcX7_place_16 13 rfl rfl)
theorem dX7_place_42 : decode cX7_place 42 = .ok (.getfield 7, 3) := jo_180 (a := 0) (b := 7) (jw3 jdcX7_place_16 14 rfl rfl) rfl
theorem dX7_place_45 : decode cX7_place 45 = .ok (.iload_n 1, 1) := jo_27 (jw1 jdcX7_place_16 17 rfl rfl)
theorem dX7_place_46 : decode cX7_place 46 = .ok (.iaload, 1) := jo_46 (jw1 jdcX7_place_16 18 rfl rfl)
theorem dX7_place_47 : decode cX7_place 47 = .ok (.invokevirtual 122, 3) := jo_182 (a := 0) (b := 122) (jw3 jdcX7_place_16 19 rfl rfl) rfl
theorem dX7_place_50 : decode cX7_place 50 = .ok (.pop, 1) := jo_87 (jw1 jdcX7_place_16 22 rfl rfl)
theorem dX7_place_51 : decode cX7_place 51 = .ok (.iload_n 3, 1) := jo_29 (jw1 jdcX7_place_16 23 rfl rfl)
theorem dX7_place_52 : decode cX7_place 52 = .ok (.ifCond .ne 12, 3) := jo_154 (a := 0) (b := 12) (jw3 jdcX7_place_16 24 rfl rfl) rfl
theorem dX7_place_55 : decode cX7_place 55 = .ok (.aload_n 0, 1) := jo_42 (jw1 jdcX7_place_16 27 rfl rfl)
theorem jdcX7_place_32 : jwk (cX7_place.data.toList.drop 56) [180, 0, 22, 28, 46, 167, 0, 23, 29, 4, 160, 0, 12, 42, 180, 0, 25, 28, 46, 167, 0, 9, 42, 180, 0, 28, 28, 46] = true := by decide +kernel
theorem dX7_place_56 : decode cX7_place 56 = .ok (.getfield 22, 3) := jo_180 (a := 0) (b := 22) (jw3 jdcX7_place_32 0 rfl rfl) rfl
theorem dX7_place_59 : decode cX7_place 59 = .ok (.iload_n 2, 1) := jo_28 (jw1 jdcX7_place_32 3 rfl rfl)
theorem dX7_place_60 : decode cX7_place 60 = .ok (.iaload, 1) := jo_46 (jw1 jdcX7_place_32 4 rfl rfl)
theorem dX7_place_61 : decode cX7_place 61 = .ok (.goto 23, 3) := jo_167 (a := 0) (b := 23) (jw3 jdcX7_place_32 5 rfl rfl) rfl
theorem dX7_place_64 : decode cX7_place 64 = .ok (.iload_n 3, 1) := jo_29 (jw1 jdcX7_place_32 8 rfl rfl)
theorem dX7_place_65 : decode cX7_place 65 = .ok (.iconst 1, 1) := jo_4 (jw1 jdcX7_place_32 9 rfl rfl)
theorem dX7_place_66 : decode cX7_place 66 = .ok (.if_icmp .ne 12, 3) := jo_160 (a := 0) (b := 12) (jw3 jdcX7_place_32 10 rfl rfl) rfl
theorem dX7_place_69 : decode cX7_place 69 = .ok (.aload_n 0, 1) := jo_42 (jw1 jdcX7_place_32 13 rfl rfl)
theorem dX7_place_70 : decode cX7_place 70 = .ok (.getfield 25, 3) := jo_180 (a := 0) (b := 25) (jw3 jdcX7_place_32 14 rfl rfl) rfl
theorem dX7_place_73 : decode cX7_place 73 = .ok (.iload_n 2, 1) := jo_28 (jw1 jdcX7_place_32 17 rfl rfl)
theorem dX7_place_74 : decode cX7_place 74 = .ok (.iaload, 1) := jo_46 (jw1 jdcX7_place_32 18 rfl rfl)
theorem dX7_place_75 : decode cX7_place 75 = .ok (.goto 9, 3) := jo_167 (a := 0) (b := 9) (jw3 jdcX7_place_32 19 rfl rfl) rfl
theorem dX7_place_78 : decode cX7_place 78 = .ok (.aload_n 0, 1) := jo_42 (jw1 jdcX7_place_32 22 rfl rfl)
theorem dX7_place_79 : decode cX7_place 79 = .ok (.getfield 28, 3) := jo_180 (a := 0) (b := 28) (jw3 jdcX7_place_32 23 rfl rfl) rfl
theorem dX7_place_82 : decode cX7_place 82 = .ok (.iload_n 2, 1) := jo_28 (jw1 jdcX7_place_32 26 rfl rfl)
theorem dX7_place_83 : decode cX7_place 83 = .ok (.iaload, 1) := jo_46 (jw1 jdcX7_place_32 27 rfl rfl)
theorem jdcX7_place_48 : jwk (cX7_place.data.toList.drop 84) [172] = true := by decide +kernel
theorem dX7_place_84 : decode cX7_place 84 = .ok (.ireturn, 1) := jo_172 (jw1 jdcX7_place_48 0 rfl rfl)
theorem jdcX7_isRing_0 : jwk (cX7_isRing.data.toList.drop 0) [42, 180, 0, 22, 42, 180, 0, 109, 46, 61, 42, 180, 0, 25, 42, 180, 0, 109, 46, 62, 3, 54, 4, 3, 54, 5] = true := by decide +kernel
theorem dX7_isRing_0 : decode cX7_isRing 0 = .ok (.aload_n 0, 1) := jo_42 (jw1 jdcX7_isRing_0 0 rfl rfl)
theorem dX7_isRing_1 : decode cX7_isRing 1 = .ok (.getfield 22, 3) := jo_180 (a := 0) (b := 22) (jw3 jdcX7_isRing_0 1 rfl rfl) rfl
theorem dX7_isRing_4 : decode cX7_isRing 4 = .ok (.aload_n 0, 1) := jo_42 (jw1 jdcX7_isRing_0 4 rfl rfl)
theorem dX7_isRing_5 : decode cX7_isRing 5 = .ok (.getfield 109, 3) := jo_180 (a := 0) (b := 109) (jw3 jdcX7_isRing_0 5 rfl rfl) rfl
theorem dX7_isRing_8 : decode cX7_isRing 8 = .ok (.iaload, 1) := jo_46 (jw1 jdcX7_isRing_0 8 rfl rfl)
theorem dX7_isRing_9 : decode cX7_isRing 9 = .ok (.istore_n 2, 1) := jo_61 (jw1 jdcX7_isRing_0 9 rfl rfl)
theorem dX7_isRing_10 : decode cX7_isRing 10 = .ok (.aload_n 0, 1) := jo_42 (jw1 jdcX7_isRing_0 10 rfl rfl)
theorem dX7_isRing_11 : decode cX7_isRing 11 = .ok (.getfield 25, 3) := jo_180 (a := 0) (b := 25) (jw3 jdcX7_isRing_0 11 rfl rfl) rfl
theorem dX7_isRing_14 : decode cX7_isRing 14 = .ok (.aload_n 0, 1) := jo_42 (jw1 jdcX7_isRing_0 14 rfl rfl)
theorem dX7_isRing_15 : decode cX7_isRing 15 = .ok (.getfield 109, 3) := jo_180 (a := 0) (b := 109) (jw3 jdcX7_isRing_0 15 rfl rfl) rfl
theorem dX7_isRing_18 : decode cX7_isRing 18 = .ok (.iaload, 1) := jo_46 (jw1 jdcX7_isRing_0 18 rfl rfl)
theorem dX7_isRing_19 : decode cX7_isRing 19 = .ok (.istore_n 3, 1) := jo_62 (jw1 jdcX7_isRing_0 19 rfl rfl)
theorem dX7_isRing_20 : decode cX7_isRing 20 = .ok (.iconst 0, 1) := jo_3 (jw1 jdcX7_isRing_0 20 rfl rfl)
theorem dX7_isRing_21 : decode cX7_isRing 21 = .ok (.istore 4, 2) := jo_54 (jw2 jdcX7_isRing_0 21 rfl rfl)
theorem dX7_isRing_23 : decode cX7_isRing 23 = .ok (.iconst 0, 1) := jo_3 (jw1 jdcX7_isRing_0 23 rfl rfl)
theorem dX7_isRing_24 : decode cX7_isRing 24 = .ok (.istore 5, 2) := jo_54 (jw2 jdcX7_isRing_0 24 rfl rfl)
theorem jdcX7_isRing_16 : jwk (cX7_isRing.data.toList.drop 26) [21, 5, 27, 184, 0, 133, 162, 0, 73, 42, 180, 0, 109, 4, 164, 0, 65, 21, 4, 154, 0, 47, 28, 27, 21, 5, 184, 0, 112, 96, 154, 0, 40] = true := by decide +kernel
theorem dX7_isRing_26 : decode cX7_isRing 26 = .ok (.iload 5, 2) := jo_21 (jw2 jdcX7_isRing_16 0 rfl rfl)
theorem dX7_isRing_28 : decode cX7_isRing 28 = .ok (.iload_n 1, 1) := jo_27 (jw1 jdcX7_isRing_16 2 rfl rfl)
theorem dX7_isRing_29 : decode cX7_isRing 29 = .ok (.invokestatic 133, 3) := jo_184 (a := 0) (b := 133) (jw3 jdcX7_isRing_16 3 rfl rfl) rfl
theorem dX7_isRing_32 : decode cX7_isRing 32 = .ok (.if_icmp .ge 73, 3) := jo_162 (a := 0) (b := 73) (jw3 jdcX7_isRing_16 6 rfl rfl) rfl
theorem dX7_isRing_35 : decode cX7_isRing 35 = .ok (.aload_n 0, 1) := jo_42 (jw1 jdcX7_isRing_16 9 rfl rfl)
theorem dX7_isRing_36 : decode cX7_isRing 36 = .ok (.getfield 109, 3) := jo_180 (a := 0) (b := 109) (jw3 jdcX7_isRing_16 10 rfl rfl) rfl
theorem dX7_isRing_39 : decode cX7_isRing 39 = .ok (.iconst 1, 1) := jo_4 (jw1 jdcX7_isRing_16 13 rfl rfl)
theorem dX7_isRing_40 : decode cX7_isRing 40 = .ok (.if_icmp .le 65, 3) := jo_164 (a := 0) (b := 65) (jw3 jdcX7_isRing_16 14 rfl rfl) rfl
theorem dX7_isRing_43 : decode cX7_isRing 43 = .ok (.iload 4, 2) := jo_21 (jw2 jdcX7_isRing_16 17 rfl rfl)
theorem dX7_isRing_45 : decode cX7_isRing 45 = .ok (.ifCond .ne 47, 3) := jo_154 (a := 0) (b := 47) (jw3 jdcX7_isRing_16 19 rfl rfl) rfl
theorem dX7_isRing_48 : decode cX7_isRing 48 = .ok (.iload_n 2, 1) := jo_28 (jw1 jdcX7_isRing_16 22 rfl rfl)
theorem dX7_isRing_49 : decode cX7_isRing 49 = .ok (.iload_n 1, 1) := jo_27 (jw1 jdcX7_isRing_16 23 rfl rfl)
theorem dX7_isRing_50 : decode cX7_isRing 50 = .ok (.iload 5, 2) := jo_21 (jw2 jdcX7_isRing_16 24 rfl rfl)
theorem dX7_isRing_52 : decode cX7_isRing 52 = .ok (.invokestatic 112, 3) := jo_184 (a := 0) (b := 112) (jw3 jdcX7_isRing_16 26 rfl rfl) rfl
theorem dX7_isRing_55 : decode cX7_isRing 55 = .ok (.iadd, 1) := jo_96 (jw1 jdcX7_isRing_16 29 rfl rfl)
theorem dX7_isRing_56 : decode cX7_isRing 56 = .ok (.ifCond .ne 40, 3) := jo_154 (a := 0) (b := 40) (jw3 jdcX7_isRing_16 30 rfl rfl) rfl
theorem jdcX7_isRing_32 : jwk (cX7_isRing.data.toList.drop 59) [29, 27, 21, 5, 28, 29, 96, 184, 0, 115, 96, 154, 0, 26, 42, 180, 0, 28, 42, 180, 0, 109, 46, 27, 21, 5] = true := by decide +kernel
theorem dX7_isRing_59 : decode cX7_isRing 59 = .ok (.iload_n 3, 1) := jo_29 (jw1 jdcX7_isRing_32 0 rfl rfl)
theorem dX7_isRing_60 : decode cX7_isRing 60 = .ok (.iload_n 1, 1) := jo_27 (jw1 jdcX7_isRing_32 1 rfl rfl)
theorem dX7_isRing_61 : decode cX7_isRing 61 = .ok (.iload 5, 2) := jo_21 (jw2 jdcX7_isRing_32 2 rfl rfl)
theorem dX7_isRing_63 : decode cX7_isRing 63 = .ok (.iload_n 2, 1) := jo_28 (jw1 jdcX7_isRing_32 4 rfl rfl)
theorem dX7_isRing_64 : decode cX7_isRing 64 = .ok (.iload_n 3, 1) := jo_29 (jw1 jdcX7_isRing_32 5 rfl rfl)
theorem dX7_isRing_65 : decode cX7_isRing 65 = .ok (.iadd, 1) := jo_96 (jw1 jdcX7_isRing_32 6 rfl rfl)
theorem dX7_isRing_66 : decode cX7_isRing 66 = .ok (.invokestatic 115, 3) := jo_184 (a := 0) (b := 115) (jw3 jdcX7_isRing_32 7 rfl rfl) rfl
theorem dX7_isRing_69 : decode cX7_isRing 69 = .ok (.iadd, 1) := jo_96 (jw1 jdcX7_isRing_32 10 rfl rfl)
theorem dX7_isRing_70 : decode cX7_isRing 70 = .ok (.ifCond .ne 26, 3) := jo_154 (a := 0) (b := 26) (jw3 jdcX7_isRing_32 11 rfl rfl) rfl
theorem dX7_isRing_73 : decode cX7_isRing 73 = .ok (.aload_n 0, 1) := jo_42 (jw1 jdcX7_isRing_32 14 rfl rfl)
theorem dX7_isRing_74 : decode cX7_isRing 74 = .ok (.getfield 28, 3) := jo_180 (a := 0) (b := 28) (jw3 jdcX7_isRing_32 15 rfl rfl) rfl
theorem dX7_isRing_77 : decode cX7_isRing 77 = .ok (.aload_n 0, 1) := jo_42 (jw1 jdcX7_isRing_32 18 rfl rfl)
theorem dX7_isRing_78 : decode cX7_isRing 78 = .ok (.getfield 109, 3) := jo_180 (a := 0) (b := 109) (jw3 jdcX7_isRing_32 19 rfl rfl) rfl
theorem dX7_isRing_81 : decode cX7_isRing 81 = .ok (.iaload, 1) := jo_46 (jw1 jdcX7_isRing_32 22 rfl rfl)
theorem dX7_isRing_82 : decode cX7_isRing 82 = .ok (.iload_n 1, 1) := jo_27 (jw1 jdcX7_isRing_32 23 rfl rfl)
theorem dX7_isRing_83 : decode cX7_isRing 83 = .ok (.iload 5, 2) := jo_21 (jw2 jdcX7_isRing_32 24 rfl rfl)
theorem jdcX7_isRing_48 : jwk (cX7_isRing.data.toList.drop 85) [184, 0, 119, 96, 154, 0, 7, 4, 167, 0, 4, 3, 54, 4, 132, 5, 1, 167, 255, 180, 21, 4, 172] = true := by decide +kernel
theorem dX7_isRing_85 : decode cX7_isRing 85 = .ok (.invokestatic 119, 3) := jo_184 (a := 0) (b := 119) (jw3 jdcX7_isRing_48 0 rfl rfl) rfl
theorem dX7_isRing_88 : decode cX7_isRing 88 = .ok (.iadd, 1) := jo_96 (jw1 jdcX7_isRing_48 3 rfl rfl)
theorem dX7_isRing_89 : decode cX7_isRing 89 = .ok (.ifCond .ne 7, 3) := jo_154 (a := 0) (b := 7) (jw3 jdcX7_isRing_48 4 rfl rfl) rfl
theorem dX7_isRing_92 : decode cX7_isRing 92 = .ok (.iconst 1, 1) := jo_4 (jw1 jdcX7_isRing_48 7 rfl rfl)
theorem dX7_isRing_93 : decode cX7_isRing 93 = .ok (.goto 4, 3) := jo_167 (a := 0) (b := 4) (jw3 jdcX7_isRing_48 8 rfl rfl) rfl
theorem dX7_isRing_96 : decode cX7_isRing 96 = .ok (.iconst 0, 1) := jo_3 (jw1 jdcX7_isRing_48 11 rfl rfl)
theorem dX7_isRing_97 : decode cX7_isRing 97 = .ok (.istore 4, 2) := jo_54 (jw2 jdcX7_isRing_48 12 rfl rfl)
theorem dX7_isRing_99 : decode cX7_isRing 99 = .ok (.iinc 5 1, 3) := jo_132 (a := 5) (b := 1) (jw3 jdcX7_isRing_48 14 rfl rfl) rfl
theorem dX7_isRing_102 : decode cX7_isRing 102 = .ok (.goto (-76), 3) := jo_167 (a := 255) (b := 180) (jw3 jdcX7_isRing_48 17 rfl rfl) rfl
theorem dX7_isRing_105 : decode cX7_isRing 105 = .ok (.iload 4, 2) := jo_21 (jw2 jdcX7_isRing_48 20 rfl rfl)
theorem dX7_isRing_107 : decode cX7_isRing 107 = .ok (.ireturn, 1) := jo_172 (jw1 jdcX7_isRing_48 22 rfl rfl)
theorem jdcX7_area_0 : jwk (cX7_area.data.toList.drop 0) [3, 60, 3, 61, 28, 42, 180, 0, 109, 163, 0, 55, 28, 42, 180, 0, 109, 160, 0, 7, 3, 167, 0, 6, 28, 4] = true := by decide +kernel
theorem dX7_area_0 : decode cX7_area 0 = .ok (.iconst 0, 1) := jo_3 (jw1 jdcX7_area_0 0 rfl rfl)
theorem dX7_area_1 : decode cX7_area 1 = .ok (.istore_n 1, 1) := jo_60 (jw1 jdcX7_area_0 1 rfl rfl)
theorem dX7_area_2 : decode cX7_area 2 = .ok (.iconst 0, 1) := jo_3 (jw1 jdcX7_area_0 2 rfl rfl)
theorem dX7_area_3 : decode cX7_area 3 = .ok (.istore_n 2, 1) := jo_61 (jw1 jdcX7_area_0 3 rfl rfl)
theorem dX7_area_4 : decode cX7_area 4 = .ok (.iload_n 2, 1) := jo_28 (jw1 jdcX7_area_0 4 rfl rfl)
theorem dX7_area_5 : decode cX7_area 5 = .ok (.aload_n 0, 1) := jo_42 (jw1 jdcX7_area_0 5 rfl rfl)
theorem dX7_area_6 : decode cX7_area 6 = .ok (.getfield 109, 3) := jo_180 (a := 0) (b := 109) (jw3 jdcX7_area_0 6 rfl rfl) rfl
theorem dX7_area_9 : decode cX7_area 9 = .ok (.if_icmp .gt 55, 3) := jo_163 (a := 0) (b := 55) (jw3 jdcX7_area_0 9 rfl rfl) rfl
theorem dX7_area_12 : decode cX7_area 12 = .ok (.iload_n 2, 1) := jo_28 (jw1 jdcX7_area_0 12 rfl rfl)
theorem dX7_area_13 : decode cX7_area 13 = .ok (.aload_n 0, 1) := jo_42 (jw1 jdcX7_area_0 13 rfl rfl)
theorem dX7_area_14 : decode cX7_area 14 = .ok (.getfield 109, 3) := jo_180 (a := 0) (b := 109) (jw3 jdcX7_area_0 14 rfl rfl) rfl
theorem dX7_area_17 : decode cX7_area 17 = .ok (.if_icmp .ne 7, 3) := jo_160 (a := 0) (b := 7) (jw3 jdcX7_area_0 17 rfl rfl) rfl
theorem dX7_area_20 : decode cX7_area 20 = .ok (.iconst 0, 1) := jo_3 (jw1 jdcX7_area_0 20 rfl rfl)
theorem dX7_area_21 : decode cX7_area 21 = .ok (.goto 6, 3) := jo_167 (a := 0) (b := 6) (jw3 jdcX7_area_0 21 rfl rfl) rfl
theorem dX7_area_24 : decode cX7_area 24 = .ok (.iload_n 2, 1) := jo_28 (jw1 jdcX7_area_0 24 rfl rfl)
theorem dX7_area_25 : decode cX7_area 25 = .ok (.iconst 1, 1) := jo_4 (jw1 jdcX7_area_0 25 rfl rfl)
theorem jdcX7_area_16 : jwk (cX7_area.data.toList.drop 26) [96, 62, 27, 42, 180, 0, 22, 28, 46, 42, 180, 0, 25, 29, 46, 104, 42, 180, 0, 22, 29, 46] = true := by decide +kernel
theorem dX7_area_26 : decode cX7_area 26 = .ok (.iadd, 1) := jo_96 (jw1 jdcX7_area_16 0 rfl rfl)
theorem dX7_area_27 : decode cX7_area 27 = .ok (.istore_n 3, 1) := jo_62 (jw1 jdcX7_area_16 1 rfl rfl)
theorem dX7_area_28 : decode cX7_area 28 = .ok (.iload_n 1, 1) := jo_27 (jw1 jdcX7_area_16 2 rfl rfl)
theorem dX7_area_29 : decode cX7_area 29 = .ok (.aload_n 0, 1) := jo_42 (jw1 jdcX7_area_16 3 rfl rfl)
theorem dX7_area_30 : decode cX7_area 30 = .ok (.getfield 22, 3) := jo_180 (a := 0) (b := 22) (jw3 jdcX7_area_16 4 rfl rfl) rfl
theorem dX7_area_33 : decode cX7_area 33 = .ok (.iload_n 2, 1) := jo_28 (jw1 jdcX7_area_16 7 rfl rfl)
theorem dX7_area_34 : decode cX7_area 34 = .ok (.iaload, 1) := jo_46 (jw1 jdcX7_area_16 8 rfl rfl)
theorem dX7_area_35 : decode cX7_area 35 = .ok (.aload_n 0, 1) := jo_42 (jw1 jdcX7_area_16 9 rfl rfl)
theorem dX7_area_36 : decode cX7_area 36 = .ok (.getfield 25, 3) := jo_180 (a := 0) (b := 25) (jw3 jdcX7_area_16 10 rfl rfl) rfl
theorem dX7_area_39 : decode cX7_area 39 = .ok (.iload_n 3, 1) := jo_29 (jw1 jdcX7_area_16 13 rfl rfl)
theorem dX7_area_40 : decode cX7_area 40 = .ok (.iaload, 1) := jo_46 (jw1 jdcX7_area_16 14 rfl rfl)
theorem dX7_area_41 : decode cX7_area 41 = .ok (.imul, 1) := jo_104 (jw1 jdcX7_area_16 15 rfl rfl)
theorem dX7_area_42 : decode cX7_area 42 = .ok (.aload_n 0, 1) := jo_42 (jw1 jdcX7_area_16 16 rfl rfl)
theorem dX7_area_43 : decode cX7_area 43 = .ok (.getfield 22, 3) := jo_180 (a := 0) (b := 22) (jw3 jdcX7_area_16 17 rfl rfl) rfl
theorem dX7_area_46 : decode cX7_area 46 = .ok (.iload_n 3, 1) := jo_29 (jw1 jdcX7_area_16 20 rfl rfl)
theorem dX7_area_47 : decode cX7_area 47 = .ok (.iaload, 1) := jo_46 (jw1 jdcX7_area_16 21 rfl rfl)
theorem jdcX7_area_32 : jwk (cX7_area.data.toList.drop 48) [42, 180, 0, 25, 28, 46, 104, 100, 96, 60, 132, 2, 1, 167, 255, 199, 27, 156, 0, 8, 27, 116, 167, 0, 4, 27] = true := by decide +kernel
theorem dX7_area_48 : decode cX7_area 48 = .ok (.aload_n 0, 1) := jo_42 (jw1 jdcX7_area_32 0 rfl rfl)
theorem dX7_area_49 : decode cX7_area 49 = .ok (.getfield 25, 3) := jo_180 (a := 0) (b := 25) (jw3 jdcX7_area_32 1 rfl rfl) rfl
theorem dX7_area_52 : decode cX7_area 52 = .ok (.iload_n 2, 1) := jo_28 (jw1 jdcX7_area_32 4 rfl rfl)
theorem dX7_area_53 : decode cX7_area 53 = .ok (.iaload, 1) := jo_46 (jw1 jdcX7_area_32 5 rfl rfl)
theorem dX7_area_54 : decode cX7_area 54 = .ok (.imul, 1) := jo_104 (jw1 jdcX7_area_32 6 rfl rfl)
theorem dX7_area_55 : decode cX7_area 55 = .ok (.isub, 1) := jo_100 (jw1 jdcX7_area_32 7 rfl rfl)
theorem dX7_area_56 : decode cX7_area 56 = .ok (.iadd, 1) := jo_96 (jw1 jdcX7_area_32 8 rfl rfl)
theorem dX7_area_57 : decode cX7_area 57 = .ok (.istore_n 1, 1) := jo_60 (jw1 jdcX7_area_32 9 rfl rfl)
theorem dX7_area_58 : decode cX7_area 58 = .ok (.iinc 2 1, 3) := jo_132 (a := 2) (b := 1) (jw3 jdcX7_area_32 10 rfl rfl) rfl
theorem dX7_area_61 : decode cX7_area 61 = .ok (.goto (-57), 3) := jo_167 (a := 255) (b := 199) (jw3 jdcX7_area_32 13 rfl rfl) rfl
theorem dX7_area_64 : decode cX7_area 64 = .ok (.iload_n 1, 1) := jo_27 (jw1 jdcX7_area_32 16 rfl rfl)
theorem dX7_area_65 : decode cX7_area 65 = .ok (.ifCond .ge 8, 3) := jo_156 (a := 0) (b := 8) (jw3 jdcX7_area_32 17 rfl rfl) rfl
theorem dX7_area_68 : decode cX7_area 68 = .ok (.iload_n 1, 1) := jo_27 (jw1 jdcX7_area_32 20 rfl rfl)
theorem dX7_area_69 : decode cX7_area 69 = .ok (.ineg, 1) := jo_116 (jw1 jdcX7_area_32 21 rfl rfl)
theorem dX7_area_70 : decode cX7_area 70 = .ok (.goto 4, 3) := jo_167 (a := 0) (b := 4) (jw3 jdcX7_area_32 22 rfl rfl) rfl
theorem dX7_area_73 : decode cX7_area 73 = .ok (.iload_n 1, 1) := jo_27 (jw1 jdcX7_area_32 25 rfl rfl)
theorem jdcX7_area_48 : jwk (cX7_area.data.toList.drop 74) [172] = true := by decide +kernel
theorem dX7_area_74 : decode cX7_area 74 = .ok (.ireturn, 1) := jo_172 (jw1 jdcX7_area_48 0 rfl rfl)
theorem jdcX7_isBridge_0 : jwk (cX7_isBridge.data.toList.drop 0) [4, 60, 4, 61, 28, 42, 180, 0, 109, 163, 0, 46, 27, 153, 0, 34, 42, 180, 0, 22, 28, 46, 158, 0, 25, 42] = true := by decide +kernel
theorem dX7_isBridge_0 : decode cX7_isBridge 0 = .ok (.iconst 1, 1) := jo_4 (jw1 jdcX7_isBridge_0 0 rfl rfl)
theorem dX7_isBridge_1 : decode cX7_isBridge 1 = .ok (.istore_n 1, 1) := jo_60 (jw1 jdcX7_isBridge_0 1 rfl rfl)
theorem dX7_isBridge_2 : decode cX7_isBridge 2 = .ok (.iconst 1, 1) := jo_4 (jw1 jdcX7_isBridge_0 2 rfl rfl)
theorem dX7_isBridge_3 : decode cX7_isBridge 3 = .ok (.istore_n 2, 1) := jo_61 (jw1 jdcX7_isBridge_0 3 rfl rfl)
theorem dX7_isBridge_4 : decode cX7_isBridge 4 = .ok (.iload_n 2, 1) := jo_28 (jw1 jdcX7_isBridge_0 4 rfl rfl)
theorem dX7_isBridge_5 : decode cX7_isBridge 5 = .ok (.aload_n 0, 1) := jo_42 (jw1 jdcX7_isBridge_0 5 rfl rfl)
theorem dX7_isBridge_6 : decode cX7_isBridge 6 = .ok (.getfield 109, 3) := jo_180 (a := 0) (b := 109) (jw3 jdcX7_isBridge_0 6 rfl rfl) rfl
theorem dX7_isBridge_9 : decode cX7_isBridge 9 = .ok (.if_icmp .gt 46, 3) := jo_163 (a := 0) (b := 46) (jw3 jdcX7_isBridge_0 9 rfl rfl) rfl
theorem dX7_isBridge_12 : decode cX7_isBridge 12 = .ok (.iload_n 1, 1) := jo_27 (jw1 jdcX7_isBridge_0 12 rfl rfl)
theorem dX7_isBridge_13 : decode cX7_isBridge 13 = .ok (.ifCond .eq 34, 3) := jo_153 (a := 0) (b := 34) (jw3 jdcX7_isBridge_0 13 rfl rfl) rfl
theorem dX7_isBridge_16 : decode cX7_isBridge 16 = .ok (.aload_n 0, 1) := jo_42 (jw1 jdcX7_isBridge_0 16 rfl rfl)
theorem dX7_isBridge_17 : decode cX7_isBridge 17 = .ok (.getfield 22, 3) := jo_180 (a := 0) (b := 22) (jw3 jdcX7_isBridge_0 17 rfl rfl) rfl
theorem dX7_isBridge_20 : decode cX7_isBridge 20 = .ok (.iload_n 2, 1) := jo_28 (jw1 jdcX7_isBridge_0 20 rfl rfl)
theorem dX7_isBridge_21 : decode cX7_isBridge 21 = .ok (.iaload, 1) := jo_46 (jw1 jdcX7_isBridge_0 21 rfl rfl)
theorem dX7_isBridge_22 : decode cX7_isBridge 22 = .ok (.ifCond .le 25, 3) := jo_158 (a := 0) (b := 25) (jw3 jdcX7_isBridge_0 22 rfl rfl) rfl
theorem dX7_isBridge_25 : decode cX7_isBridge 25 = .ok (.aload_n 0, 1) := jo_42 (jw1 jdcX7_isBridge_0 25 rfl rfl)
theorem jdcX7_isBridge_16 : jwk (cX7_isBridge.data.toList.drop 26) [180, 0, 22, 28, 46, 42, 180, 0, 22, 42, 180, 0, 109, 46, 163, 0, 7, 4, 167, 0, 4, 3, 60, 132, 2, 1, 167, 255, 208, 27] = true := by decide +kernel
theorem dX7_isBridge_26 : decode cX7_isBridge 26 = .ok (.getfield 22, 3) := jo_180 (a := 0) (b := 22) (jw3 jdcX7_isBridge_16 0 rfl rfl) rfl
theorem dX7_isBridge_29 : decode cX7_isBridge 29 = .ok (.iload_n 2, 1) := jo_28 (jw1 jdcX7_isBridge_16 3 rfl rfl)
theorem dX7_isBridge_30 : decode cX7_isBridge 30 = .ok (.iaload, 1) := jo_46 (jw1 jdcX7_isBridge_16 4 rfl rfl)
theorem dX7_isBridge_31 : decode cX7_isBridge 31 = .ok (.aload_n 0, 1) := jo_42 (jw1 jdcX7_isBridge_16 5 rfl rfl)
theorem dX7_isBridge_32 : decode cX7_isBridge 32 = .ok (.getfield 22, 3) := jo_180 (a := 0) (b := 22) (jw3 jdcX7_isBridge_16 6 rfl rfl) rfl
theorem dX7_isBridge_35 : decode cX7_isBridge 35 = .ok (.aload_n 0, 1) := jo_42 (jw1 jdcX7_isBridge_16 9 rfl rfl)
theorem dX7_isBridge_36 : decode cX7_isBridge 36 = .ok (.getfield 109, 3) := jo_180 (a := 0) (b := 109) (jw3 jdcX7_isBridge_16 10 rfl rfl) rfl
theorem dX7_isBridge_39 : decode cX7_isBridge 39 = .ok (.iaload, 1) := jo_46 (jw1 jdcX7_isBridge_16 13 rfl rfl)
theorem dX7_isBridge_40 : decode cX7_isBridge 40 = .ok (.if_icmp .gt 7, 3) := jo_163 (a := 0) (b := 7) (jw3 jdcX7_isBridge_16 14 rfl rfl) rfl
theorem dX7_isBridge_43 : decode cX7_isBridge 43 = .ok (.iconst 1, 1) := jo_4 (jw1 jdcX7_isBridge_16 17 rfl rfl)
theorem dX7_isBridge_44 : decode cX7_isBridge 44 = .ok (.goto 4, 3) := jo_167 (a := 0) (b := 4) (jw3 jdcX7_isBridge_16 18 rfl rfl) rfl
theorem dX7_isBridge_47 : decode cX7_isBridge 47 = .ok (.iconst 0, 1) := jo_3 (jw1 jdcX7_isBridge_16 21 rfl rfl)
theorem dX7_isBridge_48 : decode cX7_isBridge 48 = .ok (.istore_n 1, 1) := jo_60 (jw1 jdcX7_isBridge_16 22 rfl rfl)
theorem dX7_isBridge_49 : decode cX7_isBridge 49 = .ok (.iinc 2 1, 3) := jo_132 (a := 2) (b := 1) (jw3 jdcX7_isBridge_16 23 rfl rfl) rfl
theorem dX7_isBridge_52 : decode cX7_isBridge 52 = .ok (.goto (-48), 3) := jo_167 (a := 255) (b := 208) (jw3 jdcX7_isBridge_16 26 rfl rfl) rfl
theorem dX7_isBridge_55 : decode cX7_isBridge 55 = .ok (.iload_n 1, 1) := jo_27 (jw1 jdcX7_isBridge_16 29 rfl rfl)
theorem jdcX7_isBridge_32 : jwk (cX7_isBridge.data.toList.drop 56) [172] = true := by decide +kernel
theorem dX7_isBridge_56 : decode cX7_isBridge 56 = .ok (.ireturn, 1) := jo_172 (jw1 jdcX7_isBridge_32 0 rfl rfl)
theorem jdcX7_leadingOn_0 : jwk (cX7_leadingOn.data.toList.drop 0) [3, 61, 42, 180, 0, 22, 42, 180, 0, 109, 46, 62, 42, 180, 0, 25, 42, 180, 0, 109, 46, 54, 4, 3, 54, 5] = true := by decide +kernel
theorem dX7_leadingOn_0 : decode cX7_leadingOn 0 = .ok (.iconst 0, 1) := jo_3 (jw1 jdcX7_leadingOn_0 0 rfl rfl)
theorem dX7_leadingOn_1 : decode cX7_leadingOn 1 = .ok (.istore_n 2, 1) := jo_61 (jw1 jdcX7_leadingOn_0 1 rfl rfl)
theorem dX7_leadingOn_2 : decode cX7_leadingOn 2 = .ok (.aload_n 0, 1) := jo_42 (jw1 jdcX7_leadingOn_0 2 rfl rfl)
theorem dX7_leadingOn_3 : decode cX7_leadingOn 3 = .ok (.getfield 22, 3) := jo_180 (a := 0) (b := 22) (jw3 jdcX7_leadingOn_0 3 rfl rfl) rfl
theorem dX7_leadingOn_6 : decode cX7_leadingOn 6 = .ok (.aload_n 0, 1) := jo_42 (jw1 jdcX7_leadingOn_0 6 rfl rfl)
theorem dX7_leadingOn_7 : decode cX7_leadingOn 7 = .ok (.getfield 109, 3) := jo_180 (a := 0) (b := 109) (jw3 jdcX7_leadingOn_0 7 rfl rfl) rfl
theorem dX7_leadingOn_10 : decode cX7_leadingOn 10 = .ok (.iaload, 1) := jo_46 (jw1 jdcX7_leadingOn_0 10 rfl rfl)
theorem dX7_leadingOn_11 : decode cX7_leadingOn 11 = .ok (.istore_n 3, 1) := jo_62 (jw1 jdcX7_leadingOn_0 11 rfl rfl)
theorem dX7_leadingOn_12 : decode cX7_leadingOn 12 = .ok (.aload_n 0, 1) := jo_42 (jw1 jdcX7_leadingOn_0 12 rfl rfl)
theorem dX7_leadingOn_13 : decode cX7_leadingOn 13 = .ok (.getfield 25, 3) := jo_180 (a := 0) (b := 25) (jw3 jdcX7_leadingOn_0 13 rfl rfl) rfl
theorem dX7_leadingOn_16 : decode cX7_leadingOn 16 = .ok (.aload_n 0, 1) := jo_42 (jw1 jdcX7_leadingOn_0 16 rfl rfl)
theorem dX7_leadingOn_17 : decode cX7_leadingOn 17 = .ok (.getfield 109, 3) := jo_180 (a := 0) (b := 109) (jw3 jdcX7_leadingOn_0 17 rfl rfl) rfl
theorem dX7_leadingOn_20 : decode cX7_leadingOn 20 = .ok (.iaload, 1) := jo_46 (jw1 jdcX7_leadingOn_0 20 rfl rfl)
theorem dX7_leadingOn_21 : decode cX7_leadingOn 21 = .ok (.istore 4, 2) := jo_54 (jw2 jdcX7_leadingOn_0 21 rfl rfl)
theorem dX7_leadingOn_23 : decode cX7_leadingOn 23 = .ok (.iconst 0, 1) := jo_3 (jw1 jdcX7_leadingOn_0 23 rfl rfl)
theorem dX7_leadingOn_24 : decode cX7_leadingOn 24 = .ok (.istore 5, 2) := jo_54 (jw2 jdcX7_leadingOn_0 24 rfl rfl)
theorem jdcX7_leadingOn_16 : jwk (cX7_leadingOn.data.toList.drop 26) [21, 5, 27, 184, 0, 133, 162, 0, 122, 4, 54, 6, 3, 54, 7, 21, 7, 42, 180, 0, 109, 162, 0, 88, 21, 6, 153, 0, 74, 42, 180, 0, 22] = true := by decide +kernel
theorem dX7_leadingOn_26 : decode cX7_leadingOn 26 = .ok (.iload 5, 2) := jo_21 (jw2 jdcX7_leadingOn_16 0 rfl rfl)
theorem dX7_leadingOn_28 : decode cX7_leadingOn 28 = .ok (.iload_n 1, 1) := jo_27 (jw1 jdcX7_leadingOn_16 2 rfl rfl)
theorem dX7_leadingOn_29 : decode cX7_leadingOn 29 = .ok (.invokestatic 133, 3) := jo_184 (a := 0) (b := 133) (jw3 jdcX7_leadingOn_16 3 rfl rfl) rfl
theorem dX7_leadingOn_32 : decode cX7_leadingOn 32 = .ok (.if_icmp .ge 122, 3) := jo_162 (a := 0) (b := 122) (jw3 jdcX7_leadingOn_16 6 rfl rfl) rfl
theorem dX7_leadingOn_35 : decode cX7_leadingOn 35 = .ok (.iconst 1, 1) := jo_4 (jw1 jdcX7_leadingOn_16 9 rfl rfl)
theorem dX7_leadingOn_36 : decode cX7_leadingOn 36 = .ok (.istore 6, 2) := jo_54 (jw2 jdcX7_leadingOn_16 10 rfl rfl)
theorem dX7_leadingOn_38 : decode cX7_leadingOn 38 = .ok (.iconst 0, 1) := jo_3 (jw1 jdcX7_leadingOn_16 12 rfl rfl)
theorem dX7_leadingOn_39 : decode cX7_leadingOn 39 = .ok (.istore 7, 2) := jo_54 (jw2 jdcX7_leadingOn_16 13 rfl rfl)
theorem dX7_leadingOn_41 : decode cX7_leadingOn 41 = .ok (.iload 7, 2) := jo_21 (jw2 jdcX7_leadingOn_16 15 rfl rfl)
theorem dX7_leadingOn_43 : decode cX7_leadingOn 43 = .ok (.aload_n 0, 1) := jo_42 (jw1 jdcX7_leadingOn_16 17 rfl rfl)
theorem dX7_leadingOn_44 : decode cX7_leadingOn 44 = .ok (.getfield 109, 3) := jo_180 (a := 0) (b := 109) (jw3 jdcX7_leadingOn_16 18 rfl rfl) rfl
theorem dX7_leadingOn_47 : decode cX7_leadingOn 47 = .ok (.if_icmp .ge 88, 3) := jo_162 (a := 0) (b := 88) (jw3 jdcX7_leadingOn_16 21 rfl rfl) rfl
theorem dX7_leadingOn_50 : decode cX7_leadingOn 50 = .ok (.iload 6, 2) := jo_21 (jw2 jdcX7_leadingOn_16 24 rfl rfl)
theorem dX7_leadingOn_52 : decode cX7_leadingOn 52 = .ok (.ifCond .eq 74, 3) := jo_153 (a := 0) (b := 74) (jw3 jdcX7_leadingOn_16 26 rfl rfl) rfl
theorem dX7_leadingOn_55 : decode cX7_leadingOn 55 = .ok (.aload_n 0, 1) := jo_42 (jw1 jdcX7_leadingOn_16 29 rfl rfl)
theorem dX7_leadingOn_56 : decode cX7_leadingOn 56 = .ok (.getfield 22, 3) := jo_180 (a := 0) (b := 22) (jw3 jdcX7_leadingOn_16 30 rfl rfl) rfl
theorem jdcX7_leadingOn_32 : jwk (cX7_leadingOn.data.toList.drop 59) [21, 7, 46, 29, 27, 21, 5, 184, 0, 112, 96, 160, 0, 52, 42, 180, 0, 25, 21, 7, 46, 21, 4, 27, 21, 5, 29] = true := by decide +kernel
theorem dX7_leadingOn_59 : decode cX7_leadingOn 59 = .ok (.iload 7, 2) := jo_21 (jw2 jdcX7_leadingOn_32 0 rfl rfl)
theorem dX7_leadingOn_61 : decode cX7_leadingOn 61 = .ok (.iaload, 1) := jo_46 (jw1 jdcX7_leadingOn_32 2 rfl rfl)
theorem dX7_leadingOn_62 : decode cX7_leadingOn 62 = .ok (.iload_n 3, 1) := jo_29 (jw1 jdcX7_leadingOn_32 3 rfl rfl)
theorem dX7_leadingOn_63 : decode cX7_leadingOn 63 = .ok (.iload_n 1, 1) := jo_27 (jw1 jdcX7_leadingOn_32 4 rfl rfl)
theorem dX7_leadingOn_64 : decode cX7_leadingOn 64 = .ok (.iload 5, 2) := jo_21 (jw2 jdcX7_leadingOn_32 5 rfl rfl)
theorem dX7_leadingOn_66 : decode cX7_leadingOn 66 = .ok (.invokestatic 112, 3) := jo_184 (a := 0) (b := 112) (jw3 jdcX7_leadingOn_32 7 rfl rfl) rfl
theorem dX7_leadingOn_69 : decode cX7_leadingOn 69 = .ok (.iadd, 1) := jo_96 (jw1 jdcX7_leadingOn_32 10 rfl rfl)
theorem dX7_leadingOn_70 : decode cX7_leadingOn 70 = .ok (.if_icmp .ne 52, 3) := jo_160 (a := 0) (b := 52) (jw3 jdcX7_leadingOn_32 11 rfl rfl) rfl
theorem dX7_leadingOn_73 : decode cX7_leadingOn 73 = .ok (.aload_n 0, 1) := jo_42 (jw1 jdcX7_leadingOn_32 14 rfl rfl)
theorem dX7_leadingOn_74 : decode cX7_leadingOn 74 = .ok (.getfield 25, 3) := jo_180 (a := 0) (b := 25) (jw3 jdcX7_leadingOn_32 15 rfl rfl) rfl
theorem dX7_leadingOn_77 : decode cX7_leadingOn 77 = .ok (.iload 7, 2) := jo_21 (jw2 jdcX7_leadingOn_32 18 rfl rfl)
theorem dX7_leadingOn_79 : decode cX7_leadingOn 79 = .ok (.iaload, 1) := jo_46 (jw1 jdcX7_leadingOn_32 20 rfl rfl)
theorem dX7_leadingOn_80 : decode cX7_leadingOn 80 = .ok (.iload 4, 2) := jo_21 (jw2 jdcX7_leadingOn_32 21 rfl rfl)
theorem dX7_leadingOn_82 : decode cX7_leadingOn 82 = .ok (.iload_n 1, 1) := jo_27 (jw1 jdcX7_leadingOn_32 23 rfl rfl)
theorem dX7_leadingOn_83 : decode cX7_leadingOn 83 = .ok (.iload 5, 2) := jo_21 (jw2 jdcX7_leadingOn_32 24 rfl rfl)
theorem dX7_leadingOn_85 : decode cX7_leadingOn 85 = .ok (.iload_n 3, 1) := jo_29 (jw1 jdcX7_leadingOn_32 26 rfl rfl)
theorem jdcX7_leadingOn_48 : jwk (cX7_leadingOn.data.toList.drop 86) [21, 4, 96, 184, 0, 115, 96, 160, 0, 29, 42, 180, 0, 28, 21, 7, 46, 42, 180, 0, 28, 42, 180, 0, 109, 46, 27, 21, 5] = true := by decide +kernel
theorem dX7_leadingOn_86 : decode cX7_leadingOn 86 = .ok (.iload 4, 2) := jo_21 (jw2 jdcX7_leadingOn_48 0 rfl rfl)
theorem dX7_leadingOn_88 : decode cX7_leadingOn 88 = .ok (.iadd, 1) := jo_96 (jw1 jdcX7_leadingOn_48 2 rfl rfl)
theorem dX7_leadingOn_89 : decode cX7_leadingOn 89 = .ok (.invokestatic 115, 3) := jo_184 (a := 0) (b := 115) (jw3 jdcX7_leadingOn_48 3 rfl rfl) rfl
theorem dX7_leadingOn_92 : decode cX7_leadingOn 92 = .ok (.iadd, 1) := jo_96 (jw1 jdcX7_leadingOn_48 6 rfl rfl)
theorem dX7_leadingOn_93 : decode cX7_leadingOn 93 = .ok (.if_icmp .ne 29, 3) := jo_160 (a := 0) (b := 29) (jw3 jdcX7_leadingOn_48 7 rfl rfl) rfl
theorem dX7_leadingOn_96 : decode cX7_leadingOn 96 = .ok (.aload_n 0, 1) := jo_42 (jw1 jdcX7_leadingOn_48 10 rfl rfl)
theorem dX7_leadingOn_97 : decode cX7_leadingOn 97 = .ok (.getfield 28, 3) := jo_180 (a := 0) (b := 28) (jw3 jdcX7_leadingOn_48 11 rfl rfl) rfl
theorem dX7_leadingOn_100 : decode cX7_leadingOn 100 = .ok (.iload 7, 2) := jo_21 (jw2 jdcX7_leadingOn_48 14 rfl rfl)
theorem dX7_leadingOn_102 : decode cX7_leadingOn 102 = .ok (.iaload, 1) := jo_46 (jw1 jdcX7_leadingOn_48 16 rfl rfl)
theorem dX7_leadingOn_103 : decode cX7_leadingOn 103 = .ok (.aload_n 0, 1) := jo_42 (jw1 jdcX7_leadingOn_48 17 rfl rfl)
theorem dX7_leadingOn_104 : decode cX7_leadingOn 104 = .ok (.getfield 28, 3) := jo_180 (a := 0) (b := 28) (jw3 jdcX7_leadingOn_48 18 rfl rfl) rfl
theorem dX7_leadingOn_107 : decode cX7_leadingOn 107 = .ok (.aload_n 0, 1) := jo_42 (jw1 jdcX7_leadingOn_48 21 rfl rfl)
theorem dX7_leadingOn_108 : decode cX7_leadingOn 108 = .ok (.getfield 109, 3) := jo_180 (a := 0) (b := 109) (jw3 jdcX7_leadingOn_48 22 rfl rfl) rfl
theorem dX7_leadingOn_111 : decode cX7_leadingOn 111 = .ok (.iaload, 1) := jo_46 (jw1 jdcX7_leadingOn_48 25 rfl rfl)
theorem dX7_leadingOn_112 : decode cX7_leadingOn 112 = .ok (.iload_n 1, 1) := jo_27 (jw1 jdcX7_leadingOn_48 26 rfl rfl)
theorem dX7_leadingOn_113 : decode cX7_leadingOn 113 = .ok (.iload 5, 2) := jo_21 (jw2 jdcX7_leadingOn_48 27 rfl rfl)
theorem jdcX7_leadingOn_64 : jwk (cX7_leadingOn.data.toList.drop 115) [184, 0, 119, 96, 159, 0, 7, 4, 167, 0, 4, 3, 54, 6, 132, 7, 1, 167, 255, 165, 28, 21, 6, 153, 0, 7, 4, 167, 0, 4, 3, 96] = true := by decide +kernel
theorem dX7_leadingOn_115 : decode cX7_leadingOn 115 = .ok (.invokestatic 119, 3) := jo_184 (a := 0) (b := 119) (jw3 jdcX7_leadingOn_64 0 rfl rfl) rfl
theorem dX7_leadingOn_118 : decode cX7_leadingOn 118 = .ok (.iadd, 1) := jo_96 (jw1 jdcX7_leadingOn_64 3 rfl rfl)
theorem dX7_leadingOn_119 : decode cX7_leadingOn 119 = .ok (.if_icmp .eq 7, 3) := jo_159 (a := 0) (b := 7) (jw3 jdcX7_leadingOn_64 4 rfl rfl) rfl
theorem dX7_leadingOn_122 : decode cX7_leadingOn 122 = .ok (.iconst 1, 1) := jo_4 (jw1 jdcX7_leadingOn_64 7 rfl rfl)
theorem dX7_leadingOn_123 : decode cX7_leadingOn 123 = .ok (.goto 4, 3) := jo_167 (a := 0) (b := 4) (jw3 jdcX7_leadingOn_64 8 rfl rfl) rfl
theorem dX7_leadingOn_126 : decode cX7_leadingOn 126 = .ok (.iconst 0, 1) := jo_3 (jw1 jdcX7_leadingOn_64 11 rfl rfl)
theorem dX7_leadingOn_127 : decode cX7_leadingOn 127 = .ok (.istore 6, 2) := jo_54 (jw2 jdcX7_leadingOn_64 12 rfl rfl)
theorem dX7_leadingOn_129 : decode cX7_leadingOn 129 = .ok (.iinc 7 1, 3) := jo_132 (a := 7) (b := 1) (jw3 jdcX7_leadingOn_64 14 rfl rfl) rfl
theorem dX7_leadingOn_132 : decode cX7_leadingOn 132 = .ok (.goto (-91), 3) := jo_167 (a := 255) (b := 165) (jw3 jdcX7_leadingOn_64 17 rfl rfl) rfl
theorem dX7_leadingOn_135 : decode cX7_leadingOn 135 = .ok (.iload_n 2, 1) := jo_28 (jw1 jdcX7_leadingOn_64 20 rfl rfl)
theorem dX7_leadingOn_136 : decode cX7_leadingOn 136 = .ok (.iload 6, 2) := jo_21 (jw2 jdcX7_leadingOn_64 21 rfl rfl)
theorem dX7_leadingOn_138 : decode cX7_leadingOn 138 = .ok (.ifCond .eq 7, 3) := jo_153 (a := 0) (b := 7) (jw3 jdcX7_leadingOn_64 23 rfl rfl) rfl
theorem dX7_leadingOn_141 : decode cX7_leadingOn 141 = .ok (.iconst 1, 1) := jo_4 (jw1 jdcX7_leadingOn_64 26 rfl rfl)
theorem dX7_leadingOn_142 : decode cX7_leadingOn 142 = .ok (.goto 4, 3) := jo_167 (a := 0) (b := 4) (jw3 jdcX7_leadingOn_64 27 rfl rfl) rfl
theorem dX7_leadingOn_145 : decode cX7_leadingOn 145 = .ok (.iconst 0, 1) := jo_3 (jw1 jdcX7_leadingOn_64 30 rfl rfl)
theorem dX7_leadingOn_146 : decode cX7_leadingOn 146 = .ok (.iadd, 1) := jo_96 (jw1 jdcX7_leadingOn_64 31 rfl rfl)
theorem jdcX7_leadingOn_80 : jwk (cX7_leadingOn.data.toList.drop 147) [61, 132, 5, 1, 167, 255, 131, 28, 172] = true := by decide +kernel
theorem dX7_leadingOn_147 : decode cX7_leadingOn 147 = .ok (.istore_n 2, 1) := jo_61 (jw1 jdcX7_leadingOn_80 0 rfl rfl)
theorem dX7_leadingOn_148 : decode cX7_leadingOn 148 = .ok (.iinc 5 1, 3) := jo_132 (a := 5) (b := 1) (jw3 jdcX7_leadingOn_80 1 rfl rfl) rfl
theorem dX7_leadingOn_151 : decode cX7_leadingOn 151 = .ok (.goto (-125), 3) := jo_167 (a := 255) (b := 131) (jw3 jdcX7_leadingOn_80 4 rfl rfl) rfl
theorem dX7_leadingOn_154 : decode cX7_leadingOn 154 = .ok (.iload_n 2, 1) := jo_28 (jw1 jdcX7_leadingOn_80 7 rfl rfl)
theorem dX7_leadingOn_155 : decode cX7_leadingOn 155 = .ok (.ireturn, 1) := jo_172 (jw1 jdcX7_leadingOn_80 8 rfl rfl)
theorem jdcX7_about_0 : jwk (cX7_about.data.toList.drop 0) [42, 27, 182, 0, 130, 153, 0, 13, 28, 3, 16, 7, 184, 0, 105, 154, 0, 6, 16, 254, 172, 42, 180, 0, 7, 27, 46, 62] = true := by decide +kernel
theorem dX7_about_0 : decode cX7_about 0 = .ok (.aload_n 0, 1) := jo_42 (jw1 jdcX7_about_0 0 rfl rfl)
theorem dX7_about_1 : decode cX7_about 1 = .ok (.iload_n 1, 1) := jo_27 (jw1 jdcX7_about_0 1 rfl rfl)
theorem dX7_about_2 : decode cX7_about 2 = .ok (.invokevirtual 130, 3) := jo_182 (a := 0) (b := 130) (jw3 jdcX7_about_0 2 rfl rfl) rfl
theorem dX7_about_5 : decode cX7_about 5 = .ok (.ifCond .eq 13, 3) := jo_153 (a := 0) (b := 13) (jw3 jdcX7_about_0 5 rfl rfl) rfl
theorem dX7_about_8 : decode cX7_about 8 = .ok (.iload_n 2, 1) := jo_28 (jw1 jdcX7_about_0 8 rfl rfl)
theorem dX7_about_9 : decode cX7_about 9 = .ok (.iconst 0, 1) := jo_3 (jw1 jdcX7_about_0 9 rfl rfl)
theorem dX7_about_10 : decode cX7_about 10 = .ok (.bipush 7, 2) := jo_16 (a := 7) (jw2 jdcX7_about_0 10 rfl rfl) rfl
theorem dX7_about_12 : decode cX7_about 12 = .ok (.invokestatic 105, 3) := jo_184 (a := 0) (b := 105) (jw3 jdcX7_about_0 12 rfl rfl) rfl
theorem dX7_about_15 : decode cX7_about 15 = .ok (.ifCond .ne 6, 3) := jo_154 (a := 0) (b := 6) (jw3 jdcX7_about_0 15 rfl rfl) rfl
theorem dX7_about_18 : decode cX7_about 18 = .ok (.bipush (-2), 2) := jo_16 (a := 254) (jw2 jdcX7_about_0 18 rfl rfl) rfl
theorem dX7_about_20 : decode cX7_about 20 = .ok (.ireturn, 1) := jo_172 (jw1 jdcX7_about_0 20 rfl rfl)
theorem dX7_about_21 : decode cX7_about 21 = .ok (.aload_n 0, 1) := jo_42 (jw1 jdcX7_about_0 21 rfl rfl)
theorem dX7_about_22 : decode cX7_about 22 = .ok (.getfield 7, 3) := jo_180 (a := 0) (b := 7) (jw3 jdcX7_about_0 22 rfl rfl) rfl
theorem dX7_about_25 : decode cX7_about 25 = .ok (.iload_n 1, 1) := jo_27 (jw1 jdcX7_about_0 25 rfl rfl)
theorem dX7_about_26 : decode cX7_about 26 = .ok (.iaload, 1) := jo_46 (jw1 jdcX7_about_0 26 rfl rfl)
theorem dX7_about_27 : decode cX7_about 27 = .ok (.istore_n 3, 1) := jo_62 (jw1 jdcX7_about_0 27 rfl rfl)
theorem jdcX7_about_16 : jwk (cX7_about.data.toList.drop 28) [42, 27, 182, 0, 137, 42, 29, 182, 0, 122, 87, 3, 54, 4, 28, 170, 0, 0, 0, 179, 0, 0, 0, 0, 0, 0, 0, 6, 0, 0, 0, 41, 0, 0, 0, 43, 0, 0, 0, 48, 0, 0, 0, 80, 0, 0, 0, 94, 0, 0, 0, 116, 0, 0, 0, 166, 29, 172, 42, 180, 0, 109, 172, 29] = true := by decide +kernel
theorem dX7_about_28 : decode cX7_about 28 = .ok (.aload_n 0, 1) := jo_42 (jw1 jdcX7_about_16 0 rfl rfl)
theorem dX7_about_29 : decode cX7_about 29 = .ok (.iload_n 1, 1) := jo_27 (jw1 jdcX7_about_16 1 rfl rfl)
theorem dX7_about_30 : decode cX7_about 30 = .ok (.invokevirtual 137, 3) := jo_182 (a := 0) (b := 137) (jw3 jdcX7_about_16 2 rfl rfl) rfl
theorem dX7_about_33 : decode cX7_about 33 = .ok (.aload_n 0, 1) := jo_42 (jw1 jdcX7_about_16 5 rfl rfl)
theorem dX7_about_34 : decode cX7_about 34 = .ok (.iload_n 3, 1) := jo_29 (jw1 jdcX7_about_16 6 rfl rfl)
theorem dX7_about_35 : decode cX7_about 35 = .ok (.invokevirtual 122, 3) := jo_182 (a := 0) (b := 122) (jw3 jdcX7_about_16 7 rfl rfl) rfl
theorem dX7_about_38 : decode cX7_about 38 = .ok (.pop, 1) := jo_87 (jw1 jdcX7_about_16 10 rfl rfl)
theorem dX7_about_39 : decode cX7_about 39 = .ok (.iconst 0, 1) := jo_3 (jw1 jdcX7_about_16 11 rfl rfl)
theorem dX7_about_40 : decode cX7_about 40 = .ok (.istore 4, 2) := jo_54 (jw2 jdcX7_about_16 12 rfl rfl)
theorem dX7_about_42 : decode cX7_about 42 = .ok (.iload_n 2, 1) := jo_28 (jw1 jdcX7_about_16 14 rfl rfl)
theorem dX7_about_84 : decode cX7_about 84 = .ok (.iload_n 3, 1) := jo_29 (jw1 jdcX7_about_16 56 rfl rfl)
theorem dX7_about_85 : decode cX7_about 85 = .ok (.ireturn, 1) := jo_172 (jw1 jdcX7_about_16 57 rfl rfl)
theorem dX7_about_86 : decode cX7_about 86 = .ok (.aload_n 0, 1) := jo_42 (jw1 jdcX7_about_16 58 rfl rfl)
theorem dX7_about_87 : decode cX7_about 87 = .ok (.getfield 109, 3) := jo_180 (a := 0) (b := 109) (jw3 jdcX7_about_16 59 rfl rfl) rfl
theorem dX7_about_90 : decode cX7_about 90 = .ok (.ireturn, 1) := jo_172 (jw1 jdcX7_about_16 62 rfl rfl)
theorem dX7_about_91 : decode cX7_about 91 = .ok (.iload_n 3, 1) := jo_29 (jw1 jdcX7_about_16 63 rfl rfl)
theorem jdcX7_about_32 : jwk (cX7_about.data.toList.drop 92) [42, 180, 0, 22, 42, 180, 0, 109, 46, 42, 180, 0, 25, 42, 180, 0, 109, 46, 42, 180, 0, 28, 42, 180, 0, 109, 46, 184, 0, 152] = true := by decide +kernel
theorem dX7_about_92 : decode cX7_about 92 = .ok (.aload_n 0, 1) := jo_42 (jw1 jdcX7_about_32 0 rfl rfl)
theorem dX7_about_93 : decode cX7_about 93 = .ok (.getfield 22, 3) := jo_180 (a := 0) (b := 22) (jw3 jdcX7_about_32 1 rfl rfl) rfl
theorem dX7_about_96 : decode cX7_about 96 = .ok (.aload_n 0, 1) := jo_42 (jw1 jdcX7_about_32 4 rfl rfl)
theorem dX7_about_97 : decode cX7_about 97 = .ok (.getfield 109, 3) := jo_180 (a := 0) (b := 109) (jw3 jdcX7_about_32 5 rfl rfl) rfl
theorem dX7_about_100 : decode cX7_about 100 = .ok (.iaload, 1) := jo_46 (jw1 jdcX7_about_32 8 rfl rfl)
theorem dX7_about_101 : decode cX7_about 101 = .ok (.aload_n 0, 1) := jo_42 (jw1 jdcX7_about_32 9 rfl rfl)
theorem dX7_about_102 : decode cX7_about 102 = .ok (.getfield 25, 3) := jo_180 (a := 0) (b := 25) (jw3 jdcX7_about_32 10 rfl rfl) rfl
theorem dX7_about_105 : decode cX7_about 105 = .ok (.aload_n 0, 1) := jo_42 (jw1 jdcX7_about_32 13 rfl rfl)
theorem dX7_about_106 : decode cX7_about 106 = .ok (.getfield 109, 3) := jo_180 (a := 0) (b := 109) (jw3 jdcX7_about_32 14 rfl rfl) rfl
theorem dX7_about_109 : decode cX7_about 109 = .ok (.iaload, 1) := jo_46 (jw1 jdcX7_about_32 17 rfl rfl)
theorem dX7_about_110 : decode cX7_about 110 = .ok (.aload_n 0, 1) := jo_42 (jw1 jdcX7_about_32 18 rfl rfl)
theorem dX7_about_111 : decode cX7_about 111 = .ok (.getfield 28, 3) := jo_180 (a := 0) (b := 28) (jw3 jdcX7_about_32 19 rfl rfl) rfl
theorem dX7_about_114 : decode cX7_about 114 = .ok (.aload_n 0, 1) := jo_42 (jw1 jdcX7_about_32 22 rfl rfl)
theorem dX7_about_115 : decode cX7_about 115 = .ok (.getfield 109, 3) := jo_180 (a := 0) (b := 109) (jw3 jdcX7_about_32 23 rfl rfl) rfl
theorem dX7_about_118 : decode cX7_about 118 = .ok (.iaload, 1) := jo_46 (jw1 jdcX7_about_32 26 rfl rfl)
theorem dX7_about_119 : decode cX7_about 119 = .ok (.invokestatic 152, 3) := jo_184 (a := 0) (b := 152) (jw3 jdcX7_about_32 27 rfl rfl) rfl
theorem jdcX7_about_48 : jwk (cX7_about.data.toList.drop 122) [172, 42, 29, 182, 0, 156, 153, 0, 7, 4, 167, 0, 4, 3, 172, 29, 6, 159, 0, 11, 42, 29, 182, 0, 156, 154, 0, 7] = true := by decide +kernel
theorem dX7_about_122 : decode cX7_about 122 = .ok (.ireturn, 1) := jo_172 (jw1 jdcX7_about_48 0 rfl rfl)
theorem dX7_about_123 : decode cX7_about 123 = .ok (.aload_n 0, 1) := jo_42 (jw1 jdcX7_about_48 1 rfl rfl)
theorem dX7_about_124 : decode cX7_about 124 = .ok (.iload_n 3, 1) := jo_29 (jw1 jdcX7_about_48 2 rfl rfl)
theorem dX7_about_125 : decode cX7_about 125 = .ok (.invokevirtual 156, 3) := jo_182 (a := 0) (b := 156) (jw3 jdcX7_about_48 3 rfl rfl) rfl
theorem dX7_about_128 : decode cX7_about 128 = .ok (.ifCond .eq 7, 3) := jo_153 (a := 0) (b := 7) (jw3 jdcX7_about_48 6 rfl rfl) rfl
theorem dX7_about_131 : decode cX7_about 131 = .ok (.iconst 1, 1) := jo_4 (jw1 jdcX7_about_48 9 rfl rfl)
theorem dX7_about_132 : decode cX7_about 132 = .ok (.goto 4, 3) := jo_167 (a := 0) (b := 4) (jw3 jdcX7_about_48 10 rfl rfl) rfl
theorem dX7_about_135 : decode cX7_about 135 = .ok (.iconst 0, 1) := jo_3 (jw1 jdcX7_about_48 13 rfl rfl)
theorem dX7_about_136 : decode cX7_about 136 = .ok (.ireturn, 1) := jo_172 (jw1 jdcX7_about_48 14 rfl rfl)
theorem dX7_about_137 : decode cX7_about 137 = .ok (.iload_n 3, 1) := jo_29 (jw1 jdcX7_about_48 15 rfl rfl)
theorem dX7_about_138 : decode cX7_about 138 = .ok (.iconst 3, 1) := jo_6 (jw1 jdcX7_about_48 16 rfl rfl)
theorem dX7_about_139 : decode cX7_about 139 = .ok (.if_icmp .eq 11, 3) := jo_159 (a := 0) (b := 11) (jw3 jdcX7_about_48 17 rfl rfl) rfl
theorem dX7_about_142 : decode cX7_about 142 = .ok (.aload_n 0, 1) := jo_42 (jw1 jdcX7_about_48 20 rfl rfl)
theorem dX7_about_143 : decode cX7_about 143 = .ok (.iload_n 3, 1) := jo_29 (jw1 jdcX7_about_48 21 rfl rfl)
theorem dX7_about_144 : decode cX7_about 144 = .ok (.invokevirtual 156, 3) := jo_182 (a := 0) (b := 156) (jw3 jdcX7_about_48 22 rfl rfl) rfl
theorem dX7_about_147 : decode cX7_about 147 = .ok (.ifCond .ne 7, 3) := jo_154 (a := 0) (b := 7) (jw3 jdcX7_about_48 25 rfl rfl) rfl
theorem jdcX7_about_64 : jwk (cX7_about.data.toList.drop 150) [2, 167, 0, 7, 42, 182, 0, 159, 172, 4, 54, 5, 21, 5, 42, 180, 0, 109, 162, 0, 38, 21, 4, 42, 180, 0, 19, 21, 5, 46] = true := by decide +kernel
theorem dX7_about_150 : decode cX7_about 150 = .ok (.iconst (-1), 1) := jo_2 (jw1 jdcX7_about_64 0 rfl rfl)
theorem dX7_about_151 : decode cX7_about 151 = .ok (.goto 7, 3) := jo_167 (a := 0) (b := 7) (jw3 jdcX7_about_64 1 rfl rfl) rfl
theorem dX7_about_154 : decode cX7_about 154 = .ok (.aload_n 0, 1) := jo_42 (jw1 jdcX7_about_64 4 rfl rfl)
theorem dX7_about_155 : decode cX7_about 155 = .ok (.invokevirtual 159, 3) := jo_182 (a := 0) (b := 159) (jw3 jdcX7_about_64 5 rfl rfl) rfl
theorem dX7_about_158 : decode cX7_about 158 = .ok (.ireturn, 1) := jo_172 (jw1 jdcX7_about_64 8 rfl rfl)
theorem dX7_about_159 : decode cX7_about 159 = .ok (.iconst 1, 1) := jo_4 (jw1 jdcX7_about_64 9 rfl rfl)
theorem dX7_about_160 : decode cX7_about 160 = .ok (.istore 5, 2) := jo_54 (jw2 jdcX7_about_64 10 rfl rfl)
theorem dX7_about_162 : decode cX7_about 162 = .ok (.iload 5, 2) := jo_21 (jw2 jdcX7_about_64 12 rfl rfl)
theorem dX7_about_164 : decode cX7_about 164 = .ok (.aload_n 0, 1) := jo_42 (jw1 jdcX7_about_64 14 rfl rfl)
theorem dX7_about_165 : decode cX7_about 165 = .ok (.getfield 109, 3) := jo_180 (a := 0) (b := 109) (jw3 jdcX7_about_64 15 rfl rfl) rfl
theorem dX7_about_168 : decode cX7_about 168 = .ok (.if_icmp .ge 38, 3) := jo_162 (a := 0) (b := 38) (jw3 jdcX7_about_64 18 rfl rfl) rfl
theorem dX7_about_171 : decode cX7_about 171 = .ok (.iload 4, 2) := jo_21 (jw2 jdcX7_about_64 21 rfl rfl)
theorem dX7_about_173 : decode cX7_about 173 = .ok (.aload_n 0, 1) := jo_42 (jw1 jdcX7_about_64 23 rfl rfl)
theorem dX7_about_174 : decode cX7_about 174 = .ok (.getfield 19, 3) := jo_180 (a := 0) (b := 19) (jw3 jdcX7_about_64 24 rfl rfl) rfl
theorem dX7_about_177 : decode cX7_about 177 = .ok (.iload 5, 2) := jo_21 (jw2 jdcX7_about_64 27 rfl rfl)
theorem dX7_about_179 : decode cX7_about 179 = .ok (.iaload, 1) := jo_46 (jw1 jdcX7_about_64 29 rfl rfl)
theorem jdcX7_about_80 : jwk (cX7_about.data.toList.drop 180) [42, 180, 0, 19, 21, 5, 4, 100, 46, 159, 0, 7, 4, 167, 0, 4, 3, 96, 54, 4, 132, 5, 1, 167, 255, 215, 21, 4, 172] = true := by decide +kernel
theorem dX7_about_180 : decode cX7_about 180 = .ok (.aload_n 0, 1) := jo_42 (jw1 jdcX7_about_80 0 rfl rfl)
theorem dX7_about_181 : decode cX7_about 181 = .ok (.getfield 19, 3) := jo_180 (a := 0) (b := 19) (jw3 jdcX7_about_80 1 rfl rfl) rfl
theorem dX7_about_184 : decode cX7_about 184 = .ok (.iload 5, 2) := jo_21 (jw2 jdcX7_about_80 4 rfl rfl)
theorem dX7_about_186 : decode cX7_about 186 = .ok (.iconst 1, 1) := jo_4 (jw1 jdcX7_about_80 6 rfl rfl)
theorem dX7_about_187 : decode cX7_about 187 = .ok (.isub, 1) := jo_100 (jw1 jdcX7_about_80 7 rfl rfl)
theorem dX7_about_188 : decode cX7_about 188 = .ok (.iaload, 1) := jo_46 (jw1 jdcX7_about_80 8 rfl rfl)
theorem dX7_about_189 : decode cX7_about 189 = .ok (.if_icmp .eq 7, 3) := jo_159 (a := 0) (b := 7) (jw3 jdcX7_about_80 9 rfl rfl) rfl
theorem dX7_about_192 : decode cX7_about 192 = .ok (.iconst 1, 1) := jo_4 (jw1 jdcX7_about_80 12 rfl rfl)
theorem dX7_about_193 : decode cX7_about 193 = .ok (.goto 4, 3) := jo_167 (a := 0) (b := 4) (jw3 jdcX7_about_80 13 rfl rfl) rfl
theorem dX7_about_196 : decode cX7_about 196 = .ok (.iconst 0, 1) := jo_3 (jw1 jdcX7_about_80 16 rfl rfl)
theorem dX7_about_197 : decode cX7_about 197 = .ok (.iadd, 1) := jo_96 (jw1 jdcX7_about_80 17 rfl rfl)
theorem dX7_about_198 : decode cX7_about 198 = .ok (.istore 4, 2) := jo_54 (jw2 jdcX7_about_80 18 rfl rfl)
theorem dX7_about_200 : decode cX7_about 200 = .ok (.iinc 5 1, 3) := jo_132 (a := 5) (b := 1) (jw3 jdcX7_about_80 20 rfl rfl) rfl
theorem dX7_about_203 : decode cX7_about 203 = .ok (.goto (-41), 3) := jo_167 (a := 255) (b := 215) (jw3 jdcX7_about_80 23 rfl rfl) rfl
theorem dX7_about_206 : decode cX7_about 206 = .ok (.iload 4, 2) := jo_21 (jw2 jdcX7_about_80 26 rfl rfl)
theorem dX7_about_208 : decode cX7_about 208 = .ok (.ireturn, 1) := jo_172 (jw1 jdcX7_about_80 28 rfl rfl)
theorem jdcX7_about_96 : jwk (cX7_about.data.toList.drop 209) [42, 182, 0, 163, 153, 0, 7, 4, 167, 0, 4, 3, 172, 42, 29, 182, 0, 167, 172] = true := by decide +kernel
theorem dX7_about_209 : decode cX7_about 209 = .ok (.aload_n 0, 1) := jo_42 (jw1 jdcX7_about_96 0 rfl rfl)
theorem dX7_about_210 : decode cX7_about 210 = .ok (.invokevirtual 163, 3) := jo_182 (a := 0) (b := 163) (jw3 jdcX7_about_96 1 rfl rfl) rfl
theorem dX7_about_213 : decode cX7_about 213 = .ok (.ifCond .eq 7, 3) := jo_153 (a := 0) (b := 7) (jw3 jdcX7_about_96 4 rfl rfl) rfl
theorem dX7_about_216 : decode cX7_about 216 = .ok (.iconst 1, 1) := jo_4 (jw1 jdcX7_about_96 7 rfl rfl)
theorem dX7_about_217 : decode cX7_about 217 = .ok (.goto 4, 3) := jo_167 (a := 0) (b := 4) (jw3 jdcX7_about_96 8 rfl rfl) rfl
theorem dX7_about_220 : decode cX7_about 220 = .ok (.iconst 0, 1) := jo_3 (jw1 jdcX7_about_96 11 rfl rfl)
theorem dX7_about_221 : decode cX7_about 221 = .ok (.ireturn, 1) := jo_172 (jw1 jdcX7_about_96 12 rfl rfl)
theorem dX7_about_222 : decode cX7_about 222 = .ok (.aload_n 0, 1) := jo_42 (jw1 jdcX7_about_96 13 rfl rfl)
theorem dX7_about_223 : decode cX7_about 223 = .ok (.iload_n 3, 1) := jo_29 (jw1 jdcX7_about_96 14 rfl rfl)
theorem dX7_about_224 : decode cX7_about 224 = .ok (.invokevirtual 167, 3) := jo_182 (a := 0) (b := 167) (jw3 jdcX7_about_96 15 rfl rfl) rfl
theorem dX7_about_227 : decode cX7_about 227 = .ok (.ireturn, 1) := jo_172 (jw1 jdcX7_about_96 18 rfl rfl)
theorem jdcX7_tried_0 : jwk (cX7_tried.data.toList.drop 0) [27, 28, 29, 153, 0, 24, 27, 42, 180, 0, 19, 42, 180, 0, 109, 4, 100, 21, 4, 100, 46, 184, 0, 149, 167, 0, 10] = true := by decide +kernel
theorem dX7_tried_0 : decode cX7_tried 0 = .ok (.iload_n 1, 1) := jo_27 (jw1 jdcX7_tried_0 0 rfl rfl)
theorem dX7_tried_1 : decode cX7_tried 1 = .ok (.iload_n 2, 1) := jo_28 (jw1 jdcX7_tried_0 1 rfl rfl)
theorem dX7_tried_2 : decode cX7_tried 2 = .ok (.iload_n 3, 1) := jo_29 (jw1 jdcX7_tried_0 2 rfl rfl)
theorem dX7_tried_3 : decode cX7_tried 3 = .ok (.ifCond .eq 24, 3) := jo_153 (a := 0) (b := 24) (jw3 jdcX7_tried_0 3 rfl rfl) rfl
theorem dX7_tried_6 : decode cX7_tried 6 = .ok (.iload_n 1, 1) := jo_27 (jw1 jdcX7_tried_0 6 rfl rfl)
theorem dX7_tried_7 : decode cX7_tried 7 = .ok (.aload_n 0, 1) := jo_42 (jw1 jdcX7_tried_0 7 rfl rfl)
theorem dX7_tried_8 : decode cX7_tried 8 = .ok (.getfield 19, 3) := jo_180 (a := 0) (b := 19) (jw3 jdcX7_tried_0 8 rfl rfl) rfl
theorem dX7_tried_11 : decode cX7_tried 11 = .ok (.aload_n 0, 1) := jo_42 (jw1 jdcX7_tried_0 11 rfl rfl)
theorem dX7_tried_12 : decode cX7_tried 12 = .ok (.getfield 109, 3) := jo_180 (a := 0) (b := 109) (jw3 jdcX7_tried_0 12 rfl rfl) rfl
theorem dX7_tried_15 : decode cX7_tried 15 = .ok (.iconst 1, 1) := jo_4 (jw1 jdcX7_tried_0 15 rfl rfl)
theorem dX7_tried_16 : decode cX7_tried 16 = .ok (.isub, 1) := jo_100 (jw1 jdcX7_tried_0 16 rfl rfl)
theorem dX7_tried_17 : decode cX7_tried 17 = .ok (.iload 4, 2) := jo_21 (jw2 jdcX7_tried_0 17 rfl rfl)
theorem dX7_tried_19 : decode cX7_tried 19 = .ok (.isub, 1) := jo_100 (jw1 jdcX7_tried_0 19 rfl rfl)
theorem dX7_tried_20 : decode cX7_tried 20 = .ok (.iaload, 1) := jo_46 (jw1 jdcX7_tried_0 20 rfl rfl)
theorem dX7_tried_21 : decode cX7_tried 21 = .ok (.invokestatic 149, 3) := jo_184 (a := 0) (b := 149) (jw3 jdcX7_tried_0 21 rfl rfl) rfl
theorem dX7_tried_24 : decode cX7_tried 24 = .ok (.goto 10, 3) := jo_167 (a := 0) (b := 10) (jw3 jdcX7_tried_0 24 rfl rfl) rfl
theorem jdcX7_tried_16 : jwk (cX7_tried.data.toList.drop 27) [42, 180, 0, 19, 21, 4, 46, 184, 0, 146, 172] = true := by decide +kernel
theorem dX7_tried_27 : decode cX7_tried 27 = .ok (.aload_n 0, 1) := jo_42 (jw1 jdcX7_tried_16 0 rfl rfl)
theorem dX7_tried_28 : decode cX7_tried 28 = .ok (.getfield 19, 3) := jo_180 (a := 0) (b := 19) (jw3 jdcX7_tried_16 1 rfl rfl) rfl
theorem dX7_tried_31 : decode cX7_tried 31 = .ok (.iload 4, 2) := jo_21 (jw2 jdcX7_tried_16 4 rfl rfl)
theorem dX7_tried_33 : decode cX7_tried 33 = .ok (.iaload, 1) := jo_46 (jw1 jdcX7_tried_16 6 rfl rfl)
theorem dX7_tried_34 : decode cX7_tried 34 = .ok (.invokestatic 146, 3) := jo_184 (a := 0) (b := 146) (jw3 jdcX7_tried_16 7 rfl rfl) rfl
theorem dX7_tried_37 : decode cX7_tried 37 = .ok (.ireturn, 1) := jo_172 (jw1 jdcX7_tried_16 10 rfl rfl)
theorem jdcX7_findForm_0 : jwk (cX7_findForm.data.toList.drop 0) [3, 61, 28, 42, 180, 0, 109, 162, 0, 21, 42, 180, 0, 31, 28, 42, 180, 0, 19, 28, 46, 79, 132, 2, 1, 167, 255, 233] = true := by decide +kernel
theorem dX7_findForm_0 : decode cX7_findForm 0 = .ok (.iconst 0, 1) := jo_3 (jw1 jdcX7_findForm_0 0 rfl rfl)
theorem dX7_findForm_1 : decode cX7_findForm 1 = .ok (.istore_n 2, 1) := jo_61 (jw1 jdcX7_findForm_0 1 rfl rfl)
theorem dX7_findForm_2 : decode cX7_findForm 2 = .ok (.iload_n 2, 1) := jo_28 (jw1 jdcX7_findForm_0 2 rfl rfl)
theorem dX7_findForm_3 : decode cX7_findForm 3 = .ok (.aload_n 0, 1) := jo_42 (jw1 jdcX7_findForm_0 3 rfl rfl)
theorem dX7_findForm_4 : decode cX7_findForm 4 = .ok (.getfield 109, 3) := jo_180 (a := 0) (b := 109) (jw3 jdcX7_findForm_0 4 rfl rfl) rfl
theorem dX7_findForm_7 : decode cX7_findForm 7 = .ok (.if_icmp .ge 21, 3) := jo_162 (a := 0) (b := 21) (jw3 jdcX7_findForm_0 7 rfl rfl) rfl
theorem dX7_findForm_10 : decode cX7_findForm 10 = .ok (.aload_n 0, 1) := jo_42 (jw1 jdcX7_findForm_0 10 rfl rfl)
theorem dX7_findForm_11 : decode cX7_findForm 11 = .ok (.getfield 31, 3) := jo_180 (a := 0) (b := 31) (jw3 jdcX7_findForm_0 11 rfl rfl) rfl
theorem dX7_findForm_14 : decode cX7_findForm 14 = .ok (.iload_n 2, 1) := jo_28 (jw1 jdcX7_findForm_0 14 rfl rfl)
theorem dX7_findForm_15 : decode cX7_findForm 15 = .ok (.aload_n 0, 1) := jo_42 (jw1 jdcX7_findForm_0 15 rfl rfl)
theorem dX7_findForm_16 : decode cX7_findForm 16 = .ok (.getfield 19, 3) := jo_180 (a := 0) (b := 19) (jw3 jdcX7_findForm_0 16 rfl rfl) rfl
theorem dX7_findForm_19 : decode cX7_findForm 19 = .ok (.iload_n 2, 1) := jo_28 (jw1 jdcX7_findForm_0 19 rfl rfl)
theorem dX7_findForm_20 : decode cX7_findForm 20 = .ok (.iaload, 1) := jo_46 (jw1 jdcX7_findForm_0 20 rfl rfl)
theorem dX7_findForm_21 : decode cX7_findForm 21 = .ok (.iastore, 1) := jo_79 (jw1 jdcX7_findForm_0 21 rfl rfl)
theorem dX7_findForm_22 : decode cX7_findForm 22 = .ok (.iinc 2 1, 3) := jo_132 (a := 2) (b := 1) (jw3 jdcX7_findForm_0 22 rfl rfl) rfl
theorem dX7_findForm_25 : decode cX7_findForm 25 = .ok (.goto (-23), 3) := jo_167 (a := 255) (b := 233) (jw3 jdcX7_findForm_0 25 rfl rfl) rfl
theorem jdcX7_findForm_16 : jwk (cX7_findForm.data.toList.drop 28) [3, 61, 28, 5, 27, 184, 0, 143, 104, 162, 0, 130, 28, 5, 108, 62, 28, 5, 112, 4] = true := by decide +kernel
theorem dX7_findForm_28 : decode cX7_findForm 28 = .ok (.iconst 0, 1) := jo_3 (jw1 jdcX7_findForm_16 0 rfl rfl)
theorem dX7_findForm_29 : decode cX7_findForm 29 = .ok (.istore_n 2, 1) := jo_61 (jw1 jdcX7_findForm_16 1 rfl rfl)
theorem dX7_findForm_30 : decode cX7_findForm 30 = .ok (.iload_n 2, 1) := jo_28 (jw1 jdcX7_findForm_16 2 rfl rfl)
theorem dX7_findForm_31 : decode cX7_findForm 31 = .ok (.iconst 2, 1) := jo_5 (jw1 jdcX7_findForm_16 3 rfl rfl)
theorem dX7_findForm_32 : decode cX7_findForm 32 = .ok (.iload_n 1, 1) := jo_27 (jw1 jdcX7_findForm_16 4 rfl rfl)
theorem dX7_findForm_33 : decode cX7_findForm 33 = .ok (.invokestatic 143, 3) := jo_184 (a := 0) (b := 143) (jw3 jdcX7_findForm_16 5 rfl rfl) rfl
theorem dX7_findForm_36 : decode cX7_findForm 36 = .ok (.imul, 1) := jo_104 (jw1 jdcX7_findForm_16 8 rfl rfl)
theorem dX7_findForm_37 : decode cX7_findForm 37 = .ok (.if_icmp .ge 130, 3) := jo_162 (a := 0) (b := 130) (jw3 jdcX7_findForm_16 9 rfl rfl) rfl
theorem dX7_findForm_40 : decode cX7_findForm 40 = .ok (.iload_n 2, 1) := jo_28 (jw1 jdcX7_findForm_16 12 rfl rfl)
theorem dX7_findForm_41 : decode cX7_findForm 41 = .ok (.iconst 2, 1) := jo_5 (jw1 jdcX7_findForm_16 13 rfl rfl)
theorem dX7_findForm_42 : decode cX7_findForm 42 = .ok (.idiv, 1) := jo_108 (jw1 jdcX7_findForm_16 14 rfl rfl)
theorem dX7_findForm_43 : decode cX7_findForm 43 = .ok (.istore_n 3, 1) := jo_62 (jw1 jdcX7_findForm_16 15 rfl rfl)
theorem dX7_findForm_44 : decode cX7_findForm 44 = .ok (.iload_n 2, 1) := jo_28 (jw1 jdcX7_findForm_16 16 rfl rfl)
theorem dX7_findForm_45 : decode cX7_findForm 45 = .ok (.iconst 2, 1) := jo_5 (jw1 jdcX7_findForm_16 17 rfl rfl)
theorem dX7_findForm_46 : decode cX7_findForm 46 = .ok (.irem, 1) := jo_112 (jw1 jdcX7_findForm_16 18 rfl rfl)
theorem dX7_findForm_47 : decode cX7_findForm 47 = .ok (.iconst 1, 1) := jo_4 (jw1 jdcX7_findForm_16 19 rfl rfl)
theorem jdcX7_findForm_32 : jwk (cX7_findForm.data.toList.drop 48) [160, 0, 7, 4, 167, 0, 4, 3, 54, 4, 3, 54, 5, 21, 5, 42, 180, 0, 109, 162, 0, 29, 42, 27, 29, 21, 4, 21, 5] = true := by decide +kernel
theorem dX7_findForm_48 : decode cX7_findForm 48 = .ok (.if_icmp .ne 7, 3) := jo_160 (a := 0) (b := 7) (jw3 jdcX7_findForm_32 0 rfl rfl) rfl
theorem dX7_findForm_51 : decode cX7_findForm 51 = .ok (.iconst 1, 1) := jo_4 (jw1 jdcX7_findForm_32 3 rfl rfl)
theorem dX7_findForm_52 : decode cX7_findForm 52 = .ok (.goto 4, 3) := jo_167 (a := 0) (b := 4) (jw3 jdcX7_findForm_32 4 rfl rfl) rfl
theorem dX7_findForm_55 : decode cX7_findForm 55 = .ok (.iconst 0, 1) := jo_3 (jw1 jdcX7_findForm_32 7 rfl rfl)
theorem dX7_findForm_56 : decode cX7_findForm 56 = .ok (.istore 4, 2) := jo_54 (jw2 jdcX7_findForm_32 8 rfl rfl)
theorem dX7_findForm_58 : decode cX7_findForm 58 = .ok (.iconst 0, 1) := jo_3 (jw1 jdcX7_findForm_32 10 rfl rfl)
theorem dX7_findForm_59 : decode cX7_findForm 59 = .ok (.istore 5, 2) := jo_54 (jw2 jdcX7_findForm_32 11 rfl rfl)
theorem dX7_findForm_61 : decode cX7_findForm 61 = .ok (.iload 5, 2) := jo_21 (jw2 jdcX7_findForm_32 13 rfl rfl)
theorem dX7_findForm_63 : decode cX7_findForm 63 = .ok (.aload_n 0, 1) := jo_42 (jw1 jdcX7_findForm_32 15 rfl rfl)
theorem dX7_findForm_64 : decode cX7_findForm 64 = .ok (.getfield 109, 3) := jo_180 (a := 0) (b := 109) (jw3 jdcX7_findForm_32 16 rfl rfl) rfl
theorem dX7_findForm_67 : decode cX7_findForm 67 = .ok (.if_icmp .ge 29, 3) := jo_162 (a := 0) (b := 29) (jw3 jdcX7_findForm_32 19 rfl rfl) rfl
theorem dX7_findForm_70 : decode cX7_findForm 70 = .ok (.aload_n 0, 1) := jo_42 (jw1 jdcX7_findForm_32 22 rfl rfl)
theorem dX7_findForm_71 : decode cX7_findForm 71 = .ok (.iload_n 1, 1) := jo_27 (jw1 jdcX7_findForm_32 23 rfl rfl)
theorem dX7_findForm_72 : decode cX7_findForm 72 = .ok (.iload_n 3, 1) := jo_29 (jw1 jdcX7_findForm_32 24 rfl rfl)
theorem dX7_findForm_73 : decode cX7_findForm 73 = .ok (.iload 4, 2) := jo_21 (jw2 jdcX7_findForm_32 25 rfl rfl)
theorem dX7_findForm_75 : decode cX7_findForm 75 = .ok (.iload 5, 2) := jo_21 (jw2 jdcX7_findForm_32 27 rfl rfl)
theorem jdcX7_findForm_48 : jwk (cX7_findForm.data.toList.drop 77) [182, 0, 170, 42, 180, 0, 31, 21, 5, 46, 160, 0, 9, 132, 5, 1, 167, 255, 224, 21, 5, 42, 180, 0, 109, 162, 0, 59, 42, 27, 29, 21, 4] = true := by decide +kernel
theorem dX7_findForm_77 : decode cX7_findForm 77 = .ok (.invokevirtual 170, 3) := jo_182 (a := 0) (b := 170) (jw3 jdcX7_findForm_48 0 rfl rfl) rfl
theorem dX7_findForm_80 : decode cX7_findForm 80 = .ok (.aload_n 0, 1) := jo_42 (jw1 jdcX7_findForm_48 3 rfl rfl)
theorem dX7_findForm_81 : decode cX7_findForm 81 = .ok (.getfield 31, 3) := jo_180 (a := 0) (b := 31) (jw3 jdcX7_findForm_48 4 rfl rfl) rfl
theorem dX7_findForm_84 : decode cX7_findForm 84 = .ok (.iload 5, 2) := jo_21 (jw2 jdcX7_findForm_48 7 rfl rfl)
theorem dX7_findForm_86 : decode cX7_findForm 86 = .ok (.iaload, 1) := jo_46 (jw1 jdcX7_findForm_48 9 rfl rfl)
theorem dX7_findForm_87 : decode cX7_findForm 87 = .ok (.if_icmp .ne 9, 3) := jo_160 (a := 0) (b := 9) (jw3 jdcX7_findForm_48 10 rfl rfl) rfl
theorem dX7_findForm_90 : decode cX7_findForm 90 = .ok (.iinc 5 1, 3) := jo_132 (a := 5) (b := 1) (jw3 jdcX7_findForm_48 13 rfl rfl) rfl
theorem dX7_findForm_93 : decode cX7_findForm 93 = .ok (.goto (-32), 3) := jo_167 (a := 255) (b := 224) (jw3 jdcX7_findForm_48 16 rfl rfl) rfl
theorem dX7_findForm_96 : decode cX7_findForm 96 = .ok (.iload 5, 2) := jo_21 (jw2 jdcX7_findForm_48 19 rfl rfl)
theorem dX7_findForm_98 : decode cX7_findForm 98 = .ok (.aload_n 0, 1) := jo_42 (jw1 jdcX7_findForm_48 21 rfl rfl)
theorem dX7_findForm_99 : decode cX7_findForm 99 = .ok (.getfield 109, 3) := jo_180 (a := 0) (b := 109) (jw3 jdcX7_findForm_48 22 rfl rfl) rfl
theorem dX7_findForm_102 : decode cX7_findForm 102 = .ok (.if_icmp .ge 59, 3) := jo_162 (a := 0) (b := 59) (jw3 jdcX7_findForm_48 25 rfl rfl) rfl
theorem dX7_findForm_105 : decode cX7_findForm 105 = .ok (.aload_n 0, 1) := jo_42 (jw1 jdcX7_findForm_48 28 rfl rfl)
theorem dX7_findForm_106 : decode cX7_findForm 106 = .ok (.iload_n 1, 1) := jo_27 (jw1 jdcX7_findForm_48 29 rfl rfl)
theorem dX7_findForm_107 : decode cX7_findForm 107 = .ok (.iload_n 3, 1) := jo_29 (jw1 jdcX7_findForm_48 30 rfl rfl)
theorem dX7_findForm_108 : decode cX7_findForm 108 = .ok (.iload 4, 2) := jo_21 (jw2 jdcX7_findForm_48 31 rfl rfl)
theorem jdcX7_findForm_64 : jwk (cX7_findForm.data.toList.drop 110) [21, 5, 182, 0, 170, 42, 180, 0, 31, 21, 5, 46, 162, 0, 39, 21, 5, 54, 6, 21, 6, 42, 180, 0, 109, 162, 0, 26, 42, 180, 0, 31, 21, 6] = true := by decide +kernel
theorem dX7_findForm_110 : decode cX7_findForm 110 = .ok (.iload 5, 2) := jo_21 (jw2 jdcX7_findForm_64 0 rfl rfl)
theorem dX7_findForm_112 : decode cX7_findForm 112 = .ok (.invokevirtual 170, 3) := jo_182 (a := 0) (b := 170) (jw3 jdcX7_findForm_64 2 rfl rfl) rfl
theorem dX7_findForm_115 : decode cX7_findForm 115 = .ok (.aload_n 0, 1) := jo_42 (jw1 jdcX7_findForm_64 5 rfl rfl)
theorem dX7_findForm_116 : decode cX7_findForm 116 = .ok (.getfield 31, 3) := jo_180 (a := 0) (b := 31) (jw3 jdcX7_findForm_64 6 rfl rfl) rfl
theorem dX7_findForm_119 : decode cX7_findForm 119 = .ok (.iload 5, 2) := jo_21 (jw2 jdcX7_findForm_64 9 rfl rfl)
theorem dX7_findForm_121 : decode cX7_findForm 121 = .ok (.iaload, 1) := jo_46 (jw1 jdcX7_findForm_64 11 rfl rfl)
theorem dX7_findForm_122 : decode cX7_findForm 122 = .ok (.if_icmp .ge 39, 3) := jo_162 (a := 0) (b := 39) (jw3 jdcX7_findForm_64 12 rfl rfl) rfl
theorem dX7_findForm_125 : decode cX7_findForm 125 = .ok (.iload 5, 2) := jo_21 (jw2 jdcX7_findForm_64 15 rfl rfl)
theorem dX7_findForm_127 : decode cX7_findForm 127 = .ok (.istore 6, 2) := jo_54 (jw2 jdcX7_findForm_64 17 rfl rfl)
theorem dX7_findForm_129 : decode cX7_findForm 129 = .ok (.iload 6, 2) := jo_21 (jw2 jdcX7_findForm_64 19 rfl rfl)
theorem dX7_findForm_131 : decode cX7_findForm 131 = .ok (.aload_n 0, 1) := jo_42 (jw1 jdcX7_findForm_64 21 rfl rfl)
theorem dX7_findForm_132 : decode cX7_findForm 132 = .ok (.getfield 109, 3) := jo_180 (a := 0) (b := 109) (jw3 jdcX7_findForm_64 22 rfl rfl) rfl
theorem dX7_findForm_135 : decode cX7_findForm 135 = .ok (.if_icmp .ge 26, 3) := jo_162 (a := 0) (b := 26) (jw3 jdcX7_findForm_64 25 rfl rfl) rfl
theorem dX7_findForm_138 : decode cX7_findForm 138 = .ok (.aload_n 0, 1) := jo_42 (jw1 jdcX7_findForm_64 28 rfl rfl)
theorem dX7_findForm_139 : decode cX7_findForm 139 = .ok (.getfield 31, 3) := jo_180 (a := 0) (b := 31) (jw3 jdcX7_findForm_64 29 rfl rfl) rfl
theorem dX7_findForm_142 : decode cX7_findForm 142 = .ok (.iload 6, 2) := jo_21 (jw2 jdcX7_findForm_64 32 rfl rfl)
theorem jdcX7_findForm_80 : jwk (cX7_findForm.data.toList.drop 144) [42, 27, 29, 21, 4, 21, 6, 182, 0, 170, 79, 132, 6, 1, 167, 255, 227, 132, 2, 1, 167, 255, 122, 177] = true := by decide +kernel
theorem dX7_findForm_144 : decode cX7_findForm 144 = .ok (.aload_n 0, 1) := jo_42 (jw1 jdcX7_findForm_80 0 rfl rfl)
theorem dX7_findForm_145 : decode cX7_findForm 145 = .ok (.iload_n 1, 1) := jo_27 (jw1 jdcX7_findForm_80 1 rfl rfl)
theorem dX7_findForm_146 : decode cX7_findForm 146 = .ok (.iload_n 3, 1) := jo_29 (jw1 jdcX7_findForm_80 2 rfl rfl)
theorem dX7_findForm_147 : decode cX7_findForm 147 = .ok (.iload 4, 2) := jo_21 (jw2 jdcX7_findForm_80 3 rfl rfl)
theorem dX7_findForm_149 : decode cX7_findForm 149 = .ok (.iload 6, 2) := jo_21 (jw2 jdcX7_findForm_80 5 rfl rfl)
theorem dX7_findForm_151 : decode cX7_findForm 151 = .ok (.invokevirtual 170, 3) := jo_182 (a := 0) (b := 170) (jw3 jdcX7_findForm_80 7 rfl rfl) rfl
theorem dX7_findForm_154 : decode cX7_findForm 154 = .ok (.iastore, 1) := jo_79 (jw1 jdcX7_findForm_80 10 rfl rfl)
theorem dX7_findForm_155 : decode cX7_findForm 155 = .ok (.iinc 6 1, 3) := jo_132 (a := 6) (b := 1) (jw3 jdcX7_findForm_80 11 rfl rfl) rfl
theorem dX7_findForm_158 : decode cX7_findForm 158 = .ok (.goto (-29), 3) := jo_167 (a := 255) (b := 227) (jw3 jdcX7_findForm_80 14 rfl rfl) rfl
theorem dX7_findForm_161 : decode cX7_findForm 161 = .ok (.iinc 2 1, 3) := jo_132 (a := 2) (b := 1) (jw3 jdcX7_findForm_80 17 rfl rfl) rfl
theorem dX7_findForm_164 : decode cX7_findForm 164 = .ok (.goto (-134), 3) := jo_167 (a := 255) (b := 122) (jw3 jdcX7_findForm_80 20 rfl rfl) rfl
theorem dX7_findForm_167 : decode cX7_findForm 167 = .ok (.return_, 1) := jo_177 (jw1 jdcX7_findForm_80 23 rfl rfl)
theorem jdcX7_form_0 : jwk (cX7_form.data.toList.drop 0) [42, 27, 182, 0, 130, 154, 0, 6, 16, 254, 172, 42, 27, 182, 0, 137, 42, 42, 180, 0, 7, 27, 46, 182, 0, 174, 28] = true := by decide +kernel
theorem dX7_form_0 : decode cX7_form 0 = .ok (.aload_n 0, 1) := jo_42 (jw1 jdcX7_form_0 0 rfl rfl)
theorem dX7_form_1 : decode cX7_form 1 = .ok (.iload_n 1, 1) := jo_27 (jw1 jdcX7_form_0 1 rfl rfl)
theorem dX7_form_2 : decode cX7_form 2 = .ok (.invokevirtual 130, 3) := jo_182 (a := 0) (b := 130) (jw3 jdcX7_form_0 2 rfl rfl) rfl
theorem dX7_form_5 : decode cX7_form 5 = .ok (.ifCond .ne 6, 3) := jo_154 (a := 0) (b := 6) (jw3 jdcX7_form_0 5 rfl rfl) rfl
theorem dX7_form_8 : decode cX7_form 8 = .ok (.bipush (-2), 2) := jo_16 (a := 254) (jw2 jdcX7_form_0 8 rfl rfl) rfl
theorem dX7_form_10 : decode cX7_form 10 = .ok (.ireturn, 1) := jo_172 (jw1 jdcX7_form_0 10 rfl rfl)
theorem dX7_form_11 : decode cX7_form 11 = .ok (.aload_n 0, 1) := jo_42 (jw1 jdcX7_form_0 11 rfl rfl)
theorem dX7_form_12 : decode cX7_form 12 = .ok (.iload_n 1, 1) := jo_27 (jw1 jdcX7_form_0 12 rfl rfl)
theorem dX7_form_13 : decode cX7_form 13 = .ok (.invokevirtual 137, 3) := jo_182 (a := 0) (b := 137) (jw3 jdcX7_form_0 13 rfl rfl) rfl
theorem dX7_form_16 : decode cX7_form 16 = .ok (.aload_n 0, 1) := jo_42 (jw1 jdcX7_form_0 16 rfl rfl)
theorem dX7_form_17 : decode cX7_form 17 = .ok (.aload_n 0, 1) := jo_42 (jw1 jdcX7_form_0 17 rfl rfl)
theorem dX7_form_18 : decode cX7_form 18 = .ok (.getfield 7, 3) := jo_180 (a := 0) (b := 7) (jw3 jdcX7_form_0 18 rfl rfl) rfl
theorem dX7_form_21 : decode cX7_form 21 = .ok (.iload_n 1, 1) := jo_27 (jw1 jdcX7_form_0 21 rfl rfl)
theorem dX7_form_22 : decode cX7_form 22 = .ok (.iaload, 1) := jo_46 (jw1 jdcX7_form_0 22 rfl rfl)
theorem dX7_form_23 : decode cX7_form 23 = .ok (.invokevirtual 174, 3) := jo_182 (a := 0) (b := 174) (jw3 jdcX7_form_0 23 rfl rfl) rfl
theorem dX7_form_26 : decode cX7_form 26 = .ok (.iload_n 2, 1) := jo_28 (jw1 jdcX7_form_0 26 rfl rfl)
theorem jdcX7_form_16 : jwk (cX7_form.data.toList.drop 27) [3, 42, 180, 0, 109, 4, 100, 184, 0, 105, 153, 0, 12, 42, 180, 0, 31, 28, 46, 167, 0, 4, 2, 172] = true := by decide +kernel
theorem dX7_form_27 : decode cX7_form 27 = .ok (.iconst 0, 1) := jo_3 (jw1 jdcX7_form_16 0 rfl rfl)
theorem dX7_form_28 : decode cX7_form 28 = .ok (.aload_n 0, 1) := jo_42 (jw1 jdcX7_form_16 1 rfl rfl)
theorem dX7_form_29 : decode cX7_form 29 = .ok (.getfield 109, 3) := jo_180 (a := 0) (b := 109) (jw3 jdcX7_form_16 2 rfl rfl) rfl
theorem dX7_form_32 : decode cX7_form 32 = .ok (.iconst 1, 1) := jo_4 (jw1 jdcX7_form_16 5 rfl rfl)
theorem dX7_form_33 : decode cX7_form 33 = .ok (.isub, 1) := jo_100 (jw1 jdcX7_form_16 6 rfl rfl)
theorem dX7_form_34 : decode cX7_form 34 = .ok (.invokestatic 105, 3) := jo_184 (a := 0) (b := 105) (jw3 jdcX7_form_16 7 rfl rfl) rfl
theorem dX7_form_37 : decode cX7_form 37 = .ok (.ifCond .eq 12, 3) := jo_153 (a := 0) (b := 12) (jw3 jdcX7_form_16 10 rfl rfl) rfl
theorem dX7_form_40 : decode cX7_form 40 = .ok (.aload_n 0, 1) := jo_42 (jw1 jdcX7_form_16 13 rfl rfl)
theorem dX7_form_41 : decode cX7_form 41 = .ok (.getfield 31, 3) := jo_180 (a := 0) (b := 31) (jw3 jdcX7_form_16 14 rfl rfl) rfl
theorem dX7_form_44 : decode cX7_form 44 = .ok (.iload_n 2, 1) := jo_28 (jw1 jdcX7_form_16 17 rfl rfl)
theorem dX7_form_45 : decode cX7_form 45 = .ok (.iaload, 1) := jo_46 (jw1 jdcX7_form_16 18 rfl rfl)
theorem dX7_form_46 : decode cX7_form 46 = .ok (.goto 4, 3) := jo_167 (a := 0) (b := 4) (jw3 jdcX7_form_16 19 rfl rfl) rfl
theorem dX7_form_49 : decode cX7_form 49 = .ok (.iconst (-1), 1) := jo_2 (jw1 jdcX7_form_16 22 rfl rfl)
theorem dX7_form_50 : decode cX7_form 50 = .ok (.ireturn, 1) := jo_172 (jw1 jdcX7_form_16 23 rfl rfl)
theorem jdcX7_alike_0 : jwk (cX7_alike.data.toList.drop 0) [42, 27, 182, 0, 130, 153, 0, 11, 42, 28, 182, 0, 130, 154, 0, 6, 16, 254, 172, 42, 180, 0, 7, 27, 46, 42, 180, 0, 7] = true := by decide +kernel
theorem dX7_alike_0 : decode cX7_alike 0 = .ok (.aload_n 0, 1) := jo_42 (jw1 jdcX7_alike_0 0 rfl rfl)
theorem dX7_alike_1 : decode cX7_alike 1 = .ok (.iload_n 1, 1) := jo_27 (jw1 jdcX7_alike_0 1 rfl rfl)
theorem dX7_alike_2 : decode cX7_alike 2 = .ok (.invokevirtual 130, 3) := jo_182 (a := 0) (b := 130) (jw3 jdcX7_alike_0 2 rfl rfl) rfl
theorem dX7_alike_5 : decode cX7_alike 5 = .ok (.ifCond .eq 11, 3) := jo_153 (a := 0) (b := 11) (jw3 jdcX7_alike_0 5 rfl rfl) rfl
theorem dX7_alike_8 : decode cX7_alike 8 = .ok (.aload_n 0, 1) := jo_42 (jw1 jdcX7_alike_0 8 rfl rfl)
theorem dX7_alike_9 : decode cX7_alike 9 = .ok (.iload_n 2, 1) := jo_28 (jw1 jdcX7_alike_0 9 rfl rfl)
theorem dX7_alike_10 : decode cX7_alike 10 = .ok (.invokevirtual 130, 3) := jo_182 (a := 0) (b := 130) (jw3 jdcX7_alike_0 10 rfl rfl) rfl
theorem dX7_alike_13 : decode cX7_alike 13 = .ok (.ifCond .ne 6, 3) := jo_154 (a := 0) (b := 6) (jw3 jdcX7_alike_0 13 rfl rfl) rfl
theorem dX7_alike_16 : decode cX7_alike 16 = .ok (.bipush (-2), 2) := jo_16 (a := 254) (jw2 jdcX7_alike_0 16 rfl rfl) rfl
theorem dX7_alike_18 : decode cX7_alike 18 = .ok (.ireturn, 1) := jo_172 (jw1 jdcX7_alike_0 18 rfl rfl)
theorem dX7_alike_19 : decode cX7_alike 19 = .ok (.aload_n 0, 1) := jo_42 (jw1 jdcX7_alike_0 19 rfl rfl)
theorem dX7_alike_20 : decode cX7_alike 20 = .ok (.getfield 7, 3) := jo_180 (a := 0) (b := 7) (jw3 jdcX7_alike_0 20 rfl rfl) rfl
theorem dX7_alike_23 : decode cX7_alike 23 = .ok (.iload_n 1, 1) := jo_27 (jw1 jdcX7_alike_0 23 rfl rfl)
theorem dX7_alike_24 : decode cX7_alike 24 = .ok (.iaload, 1) := jo_46 (jw1 jdcX7_alike_0 24 rfl rfl)
theorem dX7_alike_25 : decode cX7_alike 25 = .ok (.aload_n 0, 1) := jo_42 (jw1 jdcX7_alike_0 25 rfl rfl)
theorem dX7_alike_26 : decode cX7_alike 26 = .ok (.getfield 7, 3) := jo_180 (a := 0) (b := 7) (jw3 jdcX7_alike_0 26 rfl rfl) rfl
theorem jdcX7_alike_16 : jwk (cX7_alike.data.toList.drop 29) [28, 46, 159, 0, 6, 16, 253, 172, 42, 28, 182, 0, 137, 42, 42, 180, 0, 7, 28, 46, 182, 0, 174, 42, 180, 0, 109] = true := by decide +kernel
theorem dX7_alike_29 : decode cX7_alike 29 = .ok (.iload_n 2, 1) := jo_28 (jw1 jdcX7_alike_16 0 rfl rfl)
theorem dX7_alike_30 : decode cX7_alike 30 = .ok (.iaload, 1) := jo_46 (jw1 jdcX7_alike_16 1 rfl rfl)
theorem dX7_alike_31 : decode cX7_alike 31 = .ok (.if_icmp .eq 6, 3) := jo_159 (a := 0) (b := 6) (jw3 jdcX7_alike_16 2 rfl rfl) rfl
theorem dX7_alike_34 : decode cX7_alike 34 = .ok (.bipush (-3), 2) := jo_16 (a := 253) (jw2 jdcX7_alike_16 5 rfl rfl) rfl
theorem dX7_alike_36 : decode cX7_alike 36 = .ok (.ireturn, 1) := jo_172 (jw1 jdcX7_alike_16 7 rfl rfl)
theorem dX7_alike_37 : decode cX7_alike 37 = .ok (.aload_n 0, 1) := jo_42 (jw1 jdcX7_alike_16 8 rfl rfl)
theorem dX7_alike_38 : decode cX7_alike 38 = .ok (.iload_n 2, 1) := jo_28 (jw1 jdcX7_alike_16 9 rfl rfl)
theorem dX7_alike_39 : decode cX7_alike 39 = .ok (.invokevirtual 137, 3) := jo_182 (a := 0) (b := 137) (jw3 jdcX7_alike_16 10 rfl rfl) rfl
theorem dX7_alike_42 : decode cX7_alike 42 = .ok (.aload_n 0, 1) := jo_42 (jw1 jdcX7_alike_16 13 rfl rfl)
theorem dX7_alike_43 : decode cX7_alike 43 = .ok (.aload_n 0, 1) := jo_42 (jw1 jdcX7_alike_16 14 rfl rfl)
theorem dX7_alike_44 : decode cX7_alike 44 = .ok (.getfield 7, 3) := jo_180 (a := 0) (b := 7) (jw3 jdcX7_alike_16 15 rfl rfl) rfl
theorem dX7_alike_47 : decode cX7_alike 47 = .ok (.iload_n 2, 1) := jo_28 (jw1 jdcX7_alike_16 18 rfl rfl)
theorem dX7_alike_48 : decode cX7_alike 48 = .ok (.iaload, 1) := jo_46 (jw1 jdcX7_alike_16 19 rfl rfl)
theorem dX7_alike_49 : decode cX7_alike 49 = .ok (.invokevirtual 174, 3) := jo_182 (a := 0) (b := 174) (jw3 jdcX7_alike_16 20 rfl rfl) rfl
theorem dX7_alike_52 : decode cX7_alike 52 = .ok (.aload_n 0, 1) := jo_42 (jw1 jdcX7_alike_16 23 rfl rfl)
theorem dX7_alike_53 : decode cX7_alike 53 = .ok (.getfield 109, 3) := jo_180 (a := 0) (b := 109) (jw3 jdcX7_alike_16 24 rfl rfl) rfl
theorem jdcX7_alike_32 : jwk (cX7_alike.data.toList.drop 56) [62, 3, 54, 4, 21, 4, 29, 162, 0, 23, 42, 180, 0, 34, 21, 4, 42, 180, 0, 31, 21, 4, 46, 79, 132, 4, 1, 167, 255, 233] = true := by decide +kernel
theorem dX7_alike_56 : decode cX7_alike 56 = .ok (.istore_n 3, 1) := jo_62 (jw1 jdcX7_alike_32 0 rfl rfl)
theorem dX7_alike_57 : decode cX7_alike 57 = .ok (.iconst 0, 1) := jo_3 (jw1 jdcX7_alike_32 1 rfl rfl)
theorem dX7_alike_58 : decode cX7_alike 58 = .ok (.istore 4, 2) := jo_54 (jw2 jdcX7_alike_32 2 rfl rfl)
theorem dX7_alike_60 : decode cX7_alike 60 = .ok (.iload 4, 2) := jo_21 (jw2 jdcX7_alike_32 4 rfl rfl)
theorem dX7_alike_62 : decode cX7_alike 62 = .ok (.iload_n 3, 1) := jo_29 (jw1 jdcX7_alike_32 6 rfl rfl)
theorem dX7_alike_63 : decode cX7_alike 63 = .ok (.if_icmp .ge 23, 3) := jo_162 (a := 0) (b := 23) (jw3 jdcX7_alike_32 7 rfl rfl) rfl
theorem dX7_alike_66 : decode cX7_alike 66 = .ok (.aload_n 0, 1) := jo_42 (jw1 jdcX7_alike_32 10 rfl rfl)
theorem dX7_alike_67 : decode cX7_alike 67 = .ok (.getfield 34, 3) := jo_180 (a := 0) (b := 34) (jw3 jdcX7_alike_32 11 rfl rfl) rfl
theorem dX7_alike_70 : decode cX7_alike 70 = .ok (.iload 4, 2) := jo_21 (jw2 jdcX7_alike_32 14 rfl rfl)
theorem dX7_alike_72 : decode cX7_alike 72 = .ok (.aload_n 0, 1) := jo_42 (jw1 jdcX7_alike_32 16 rfl rfl)
theorem dX7_alike_73 : decode cX7_alike 73 = .ok (.getfield 31, 3) := jo_180 (a := 0) (b := 31) (jw3 jdcX7_alike_32 17 rfl rfl) rfl
theorem dX7_alike_76 : decode cX7_alike 76 = .ok (.iload 4, 2) := jo_21 (jw2 jdcX7_alike_32 20 rfl rfl)
theorem dX7_alike_78 : decode cX7_alike 78 = .ok (.iaload, 1) := jo_46 (jw1 jdcX7_alike_32 22 rfl rfl)
theorem dX7_alike_79 : decode cX7_alike 79 = .ok (.iastore, 1) := jo_79 (jw1 jdcX7_alike_32 23 rfl rfl)
theorem dX7_alike_80 : decode cX7_alike 80 = .ok (.iinc 4 1, 3) := jo_132 (a := 4) (b := 1) (jw3 jdcX7_alike_32 24 rfl rfl) rfl
theorem dX7_alike_83 : decode cX7_alike 83 = .ok (.goto (-23), 3) := jo_167 (a := 255) (b := 233) (jw3 jdcX7_alike_32 27 rfl rfl) rfl
theorem jdcX7_alike_48 : jwk (cX7_alike.data.toList.drop 86) [42, 27, 182, 0, 137, 42, 42, 180, 0, 7, 27, 46, 182, 0, 174, 29, 42, 180, 0, 109, 160, 0, 7, 4, 167, 0, 4, 3] = true := by decide +kernel
theorem dX7_alike_86 : decode cX7_alike 86 = .ok (.aload_n 0, 1) := jo_42 (jw1 jdcX7_alike_48 0 rfl rfl)
theorem dX7_alike_87 : decode cX7_alike 87 = .ok (.iload_n 1, 1) := jo_27 (jw1 jdcX7_alike_48 1 rfl rfl)
theorem dX7_alike_88 : decode cX7_alike 88 = .ok (.invokevirtual 137, 3) := jo_182 (a := 0) (b := 137) (jw3 jdcX7_alike_48 2 rfl rfl) rfl
theorem dX7_alike_91 : decode cX7_alike 91 = .ok (.aload_n 0, 1) := jo_42 (jw1 jdcX7_alike_48 5 rfl rfl)
theorem dX7_alike_92 : decode cX7_alike 92 = .ok (.aload_n 0, 1) := jo_42 (jw1 jdcX7_alike_48 6 rfl rfl)
theorem dX7_alike_93 : decode cX7_alike 93 = .ok (.getfield 7, 3) := jo_180 (a := 0) (b := 7) (jw3 jdcX7_alike_48 7 rfl rfl) rfl
theorem dX7_alike_96 : decode cX7_alike 96 = .ok (.iload_n 1, 1) := jo_27 (jw1 jdcX7_alike_48 10 rfl rfl)
theorem dX7_alike_97 : decode cX7_alike 97 = .ok (.iaload, 1) := jo_46 (jw1 jdcX7_alike_48 11 rfl rfl)
theorem dX7_alike_98 : decode cX7_alike 98 = .ok (.invokevirtual 174, 3) := jo_182 (a := 0) (b := 174) (jw3 jdcX7_alike_48 12 rfl rfl) rfl
theorem dX7_alike_101 : decode cX7_alike 101 = .ok (.iload_n 3, 1) := jo_29 (jw1 jdcX7_alike_48 15 rfl rfl)
theorem dX7_alike_102 : decode cX7_alike 102 = .ok (.aload_n 0, 1) := jo_42 (jw1 jdcX7_alike_48 16 rfl rfl)
theorem dX7_alike_103 : decode cX7_alike 103 = .ok (.getfield 109, 3) := jo_180 (a := 0) (b := 109) (jw3 jdcX7_alike_48 17 rfl rfl) rfl
theorem dX7_alike_106 : decode cX7_alike 106 = .ok (.if_icmp .ne 7, 3) := jo_160 (a := 0) (b := 7) (jw3 jdcX7_alike_48 20 rfl rfl) rfl
theorem dX7_alike_109 : decode cX7_alike 109 = .ok (.iconst 1, 1) := jo_4 (jw1 jdcX7_alike_48 23 rfl rfl)
theorem dX7_alike_110 : decode cX7_alike 110 = .ok (.goto 4, 3) := jo_167 (a := 0) (b := 4) (jw3 jdcX7_alike_48 24 rfl rfl) rfl
theorem dX7_alike_113 : decode cX7_alike 113 = .ok (.iconst 0, 1) := jo_3 (jw1 jdcX7_alike_48 27 rfl rfl)
theorem jdcX7_alike_64 : jwk (cX7_alike.data.toList.drop 114) [54, 4, 3, 54, 5, 21, 5, 29, 162, 0, 38, 21, 4, 153, 0, 33, 42, 180, 0, 31, 21, 5, 46, 42, 180, 0, 34, 21, 5, 46] = true := by decide +kernel
theorem dX7_alike_114 : decode cX7_alike 114 = .ok (.istore 4, 2) := jo_54 (jw2 jdcX7_alike_64 0 rfl rfl)
theorem dX7_alike_116 : decode cX7_alike 116 = .ok (.iconst 0, 1) := jo_3 (jw1 jdcX7_alike_64 2 rfl rfl)
theorem dX7_alike_117 : decode cX7_alike 117 = .ok (.istore 5, 2) := jo_54 (jw2 jdcX7_alike_64 3 rfl rfl)
theorem dX7_alike_119 : decode cX7_alike 119 = .ok (.iload 5, 2) := jo_21 (jw2 jdcX7_alike_64 5 rfl rfl)
theorem dX7_alike_121 : decode cX7_alike 121 = .ok (.iload_n 3, 1) := jo_29 (jw1 jdcX7_alike_64 7 rfl rfl)
theorem dX7_alike_122 : decode cX7_alike 122 = .ok (.if_icmp .ge 38, 3) := jo_162 (a := 0) (b := 38) (jw3 jdcX7_alike_64 8 rfl rfl) rfl
theorem dX7_alike_125 : decode cX7_alike 125 = .ok (.iload 4, 2) := jo_21 (jw2 jdcX7_alike_64 11 rfl rfl)
theorem dX7_alike_127 : decode cX7_alike 127 = .ok (.ifCond .eq 33, 3) := jo_153 (a := 0) (b := 33) (jw3 jdcX7_alike_64 13 rfl rfl) rfl
theorem dX7_alike_130 : decode cX7_alike 130 = .ok (.aload_n 0, 1) := jo_42 (jw1 jdcX7_alike_64 16 rfl rfl)
theorem dX7_alike_131 : decode cX7_alike 131 = .ok (.getfield 31, 3) := jo_180 (a := 0) (b := 31) (jw3 jdcX7_alike_64 17 rfl rfl) rfl
theorem dX7_alike_134 : decode cX7_alike 134 = .ok (.iload 5, 2) := jo_21 (jw2 jdcX7_alike_64 20 rfl rfl)
theorem dX7_alike_136 : decode cX7_alike 136 = .ok (.iaload, 1) := jo_46 (jw1 jdcX7_alike_64 22 rfl rfl)
theorem dX7_alike_137 : decode cX7_alike 137 = .ok (.aload_n 0, 1) := jo_42 (jw1 jdcX7_alike_64 23 rfl rfl)
theorem dX7_alike_138 : decode cX7_alike 138 = .ok (.getfield 34, 3) := jo_180 (a := 0) (b := 34) (jw3 jdcX7_alike_64 24 rfl rfl) rfl
theorem dX7_alike_141 : decode cX7_alike 141 = .ok (.iload 5, 2) := jo_21 (jw2 jdcX7_alike_64 27 rfl rfl)
theorem dX7_alike_143 : decode cX7_alike 143 = .ok (.iaload, 1) := jo_46 (jw1 jdcX7_alike_64 29 rfl rfl)
theorem jdcX7_alike_80 : jwk (cX7_alike.data.toList.drop 144) [160, 0, 7, 4, 167, 0, 4, 3, 54, 4, 132, 5, 1, 167, 255, 218, 21, 4, 153, 0, 7, 4, 167, 0, 4, 3, 172] = true := by decide +kernel
theorem dX7_alike_144 : decode cX7_alike 144 = .ok (.if_icmp .ne 7, 3) := jo_160 (a := 0) (b := 7) (jw3 jdcX7_alike_80 0 rfl rfl) rfl
theorem dX7_alike_147 : decode cX7_alike 147 = .ok (.iconst 1, 1) := jo_4 (jw1 jdcX7_alike_80 3 rfl rfl)
theorem dX7_alike_148 : decode cX7_alike 148 = .ok (.goto 4, 3) := jo_167 (a := 0) (b := 4) (jw3 jdcX7_alike_80 4 rfl rfl) rfl
theorem dX7_alike_151 : decode cX7_alike 151 = .ok (.iconst 0, 1) := jo_3 (jw1 jdcX7_alike_80 7 rfl rfl)
theorem dX7_alike_152 : decode cX7_alike 152 = .ok (.istore 4, 2) := jo_54 (jw2 jdcX7_alike_80 8 rfl rfl)
theorem dX7_alike_154 : decode cX7_alike 154 = .ok (.iinc 5 1, 3) := jo_132 (a := 5) (b := 1) (jw3 jdcX7_alike_80 10 rfl rfl) rfl
theorem dX7_alike_157 : decode cX7_alike 157 = .ok (.goto (-38), 3) := jo_167 (a := 255) (b := 218) (jw3 jdcX7_alike_80 13 rfl rfl) rfl
theorem dX7_alike_160 : decode cX7_alike 160 = .ok (.iload 4, 2) := jo_21 (jw2 jdcX7_alike_80 16 rfl rfl)
theorem dX7_alike_162 : decode cX7_alike 162 = .ok (.ifCond .eq 7, 3) := jo_153 (a := 0) (b := 7) (jw3 jdcX7_alike_80 18 rfl rfl) rfl
theorem dX7_alike_165 : decode cX7_alike 165 = .ok (.iconst 1, 1) := jo_4 (jw1 jdcX7_alike_80 21 rfl rfl)
theorem dX7_alike_166 : decode cX7_alike 166 = .ok (.goto 4, 3) := jo_167 (a := 0) (b := 4) (jw3 jdcX7_alike_80 22 rfl rfl) rfl
theorem dX7_alike_169 : decode cX7_alike 169 = .ok (.iconst 0, 1) := jo_3 (jw1 jdcX7_alike_80 25 rfl rfl)
theorem dX7_alike_170 : decode cX7_alike 170 = .ok (.ireturn, 1) := jo_172 (jw1 jdcX7_alike_80 26 rfl rfl)
theorem jdcX7_spot_0 : jwk (cX7_spot.data.toList.drop 0) [26, 16, 21, 96, 16, 43, 27, 16, 21, 96, 104, 96, 17, 7, 57, 28, 16, 21, 96, 104, 96, 172] = true := by decide +kernel
theorem dX7_spot_0 : decode cX7_spot 0 = .ok (.iload_n 0, 1) := jo_26 (jw1 jdcX7_spot_0 0 rfl rfl)
theorem dX7_spot_1 : decode cX7_spot 1 = .ok (.bipush 21, 2) := jo_16 (a := 21) (jw2 jdcX7_spot_0 1 rfl rfl) rfl
theorem dX7_spot_3 : decode cX7_spot 3 = .ok (.iadd, 1) := jo_96 (jw1 jdcX7_spot_0 3 rfl rfl)
theorem dX7_spot_4 : decode cX7_spot 4 = .ok (.bipush 43, 2) := jo_16 (a := 43) (jw2 jdcX7_spot_0 4 rfl rfl) rfl
theorem dX7_spot_6 : decode cX7_spot 6 = .ok (.iload_n 1, 1) := jo_27 (jw1 jdcX7_spot_0 6 rfl rfl)
theorem dX7_spot_7 : decode cX7_spot 7 = .ok (.bipush 21, 2) := jo_16 (a := 21) (jw2 jdcX7_spot_0 7 rfl rfl) rfl
theorem dX7_spot_9 : decode cX7_spot 9 = .ok (.iadd, 1) := jo_96 (jw1 jdcX7_spot_0 9 rfl rfl)
theorem dX7_spot_10 : decode cX7_spot 10 = .ok (.imul, 1) := jo_104 (jw1 jdcX7_spot_0 10 rfl rfl)
theorem dX7_spot_11 : decode cX7_spot 11 = .ok (.iadd, 1) := jo_96 (jw1 jdcX7_spot_0 11 rfl rfl)
theorem dX7_spot_12 : decode cX7_spot 12 = .ok (.sipush 1849, 3) := jo_17 (a := 7) (b := 57) (jw3 jdcX7_spot_0 12 rfl rfl) rfl
theorem dX7_spot_15 : decode cX7_spot 15 = .ok (.iload_n 2, 1) := jo_28 (jw1 jdcX7_spot_0 15 rfl rfl)
theorem dX7_spot_16 : decode cX7_spot 16 = .ok (.bipush 21, 2) := jo_16 (a := 21) (jw2 jdcX7_spot_0 16 rfl rfl) rfl
theorem dX7_spot_18 : decode cX7_spot 18 = .ok (.iadd, 1) := jo_96 (jw1 jdcX7_spot_0 18 rfl rfl)
theorem dX7_spot_19 : decode cX7_spot 19 = .ok (.imul, 1) := jo_104 (jw1 jdcX7_spot_0 19 rfl rfl)
theorem dX7_spot_20 : decode cX7_spot 20 = .ok (.iadd, 1) := jo_96 (jw1 jdcX7_spot_0 20 rfl rfl)
theorem dX7_spot_21 : decode cX7_spot 21 = .ok (.ireturn, 1) := jo_172 (jw1 jdcX7_spot_0 21 rfl rfl)
theorem jdcX7_counts_0 : jwk (cX7_counts.data.toList.drop 0) [16, 21, 27, 104, 28, 96, 62, 42, 180, 0, 37, 29, 51, 153, 0, 4, 177, 42, 180, 0, 37, 29, 4] = true := by decide +kernel
theorem dX7_counts_0 : decode cX7_counts 0 = .ok (.bipush 21, 2) := jo_16 (a := 21) (jw2 jdcX7_counts_0 0 rfl rfl) rfl
theorem dX7_counts_2 : decode cX7_counts 2 = .ok (.iload_n 1, 1) := jo_27 (jw1 jdcX7_counts_0 2 rfl rfl)
theorem dX7_counts_3 : decode cX7_counts 3 = .ok (.imul, 1) := jo_104 (jw1 jdcX7_counts_0 3 rfl rfl)
theorem dX7_counts_4 : decode cX7_counts 4 = .ok (.iload_n 2, 1) := jo_28 (jw1 jdcX7_counts_0 4 rfl rfl)
theorem dX7_counts_5 : decode cX7_counts 5 = .ok (.iadd, 1) := jo_96 (jw1 jdcX7_counts_0 5 rfl rfl)
theorem dX7_counts_6 : decode cX7_counts 6 = .ok (.istore_n 3, 1) := jo_62 (jw1 jdcX7_counts_0 6 rfl rfl)
theorem dX7_counts_7 : decode cX7_counts 7 = .ok (.aload_n 0, 1) := jo_42 (jw1 jdcX7_counts_0 7 rfl rfl)
theorem dX7_counts_8 : decode cX7_counts 8 = .ok (.getfield 37, 3) := jo_180 (a := 0) (b := 37) (jw3 jdcX7_counts_0 8 rfl rfl) rfl
theorem dX7_counts_11 : decode cX7_counts 11 = .ok (.iload_n 3, 1) := jo_29 (jw1 jdcX7_counts_0 11 rfl rfl)
theorem dX7_counts_12 : decode cX7_counts 12 = .ok (.baload, 1) := jo_51 (jw1 jdcX7_counts_0 12 rfl rfl)
theorem dX7_counts_13 : decode cX7_counts 13 = .ok (.ifCond .eq 4, 3) := jo_153 (a := 0) (b := 4) (jw3 jdcX7_counts_0 13 rfl rfl) rfl
theorem dX7_counts_16 : decode cX7_counts 16 = .ok (.return_, 1) := jo_177 (jw1 jdcX7_counts_0 16 rfl rfl)
theorem dX7_counts_17 : decode cX7_counts 17 = .ok (.aload_n 0, 1) := jo_42 (jw1 jdcX7_counts_0 17 rfl rfl)
theorem dX7_counts_18 : decode cX7_counts 18 = .ok (.getfield 37, 3) := jo_180 (a := 0) (b := 37) (jw3 jdcX7_counts_0 18 rfl rfl) rfl
theorem dX7_counts_21 : decode cX7_counts 21 = .ok (.iload_n 3, 1) := jo_29 (jw1 jdcX7_counts_0 21 rfl rfl)
theorem dX7_counts_22 : decode cX7_counts 22 = .ok (.iconst 1, 1) := jo_4 (jw1 jdcX7_counts_0 22 rfl rfl)
theorem jdcX7_counts_16 : jwk (cX7_counts.data.toList.drop 23) [84, 42, 180, 0, 41, 29, 28, 154, 0, 7, 4, 167, 0, 4, 3, 79, 3, 54, 4, 3, 54, 5, 42, 180, 0, 19] = true := by decide +kernel
theorem dX7_counts_23 : decode cX7_counts 23 = .ok (.bastore, 1) := jo_84 (jw1 jdcX7_counts_16 0 rfl rfl)
theorem dX7_counts_24 : decode cX7_counts 24 = .ok (.aload_n 0, 1) := jo_42 (jw1 jdcX7_counts_16 1 rfl rfl)
theorem dX7_counts_25 : decode cX7_counts 25 = .ok (.getfield 41, 3) := jo_180 (a := 0) (b := 41) (jw3 jdcX7_counts_16 2 rfl rfl) rfl
theorem dX7_counts_28 : decode cX7_counts 28 = .ok (.iload_n 3, 1) := jo_29 (jw1 jdcX7_counts_16 5 rfl rfl)
theorem dX7_counts_29 : decode cX7_counts 29 = .ok (.iload_n 2, 1) := jo_28 (jw1 jdcX7_counts_16 6 rfl rfl)
theorem dX7_counts_30 : decode cX7_counts 30 = .ok (.ifCond .ne 7, 3) := jo_154 (a := 0) (b := 7) (jw3 jdcX7_counts_16 7 rfl rfl) rfl
theorem dX7_counts_33 : decode cX7_counts 33 = .ok (.iconst 1, 1) := jo_4 (jw1 jdcX7_counts_16 10 rfl rfl)
theorem dX7_counts_34 : decode cX7_counts 34 = .ok (.goto 4, 3) := jo_167 (a := 0) (b := 4) (jw3 jdcX7_counts_16 11 rfl rfl) rfl
theorem dX7_counts_37 : decode cX7_counts 37 = .ok (.iconst 0, 1) := jo_3 (jw1 jdcX7_counts_16 14 rfl rfl)
theorem dX7_counts_38 : decode cX7_counts 38 = .ok (.iastore, 1) := jo_79 (jw1 jdcX7_counts_16 15 rfl rfl)
theorem dX7_counts_39 : decode cX7_counts 39 = .ok (.iconst 0, 1) := jo_3 (jw1 jdcX7_counts_16 16 rfl rfl)
theorem dX7_counts_40 : decode cX7_counts 40 = .ok (.istore 4, 2) := jo_54 (jw2 jdcX7_counts_16 17 rfl rfl)
theorem dX7_counts_42 : decode cX7_counts 42 = .ok (.iconst 0, 1) := jo_3 (jw1 jdcX7_counts_16 19 rfl rfl)
theorem dX7_counts_43 : decode cX7_counts 43 = .ok (.istore 5, 2) := jo_54 (jw2 jdcX7_counts_16 20 rfl rfl)
theorem dX7_counts_45 : decode cX7_counts 45 = .ok (.aload_n 0, 1) := jo_42 (jw1 jdcX7_counts_16 22 rfl rfl)
theorem dX7_counts_46 : decode cX7_counts 46 = .ok (.getfield 19, 3) := jo_180 (a := 0) (b := 19) (jw3 jdcX7_counts_16 23 rfl rfl) rfl
theorem jdcX7_counts_32 : jwk (cX7_counts.data.toList.drop 49) [3, 2, 79, 42, 180, 0, 22, 3, 3, 79, 42, 180, 0, 25, 3, 3, 79, 42, 180, 0, 28, 3] = true := by decide +kernel
theorem dX7_counts_49 : decode cX7_counts 49 = .ok (.iconst 0, 1) := jo_3 (jw1 jdcX7_counts_32 0 rfl rfl)
theorem dX7_counts_50 : decode cX7_counts 50 = .ok (.iconst (-1), 1) := jo_2 (jw1 jdcX7_counts_32 1 rfl rfl)
theorem dX7_counts_51 : decode cX7_counts 51 = .ok (.iastore, 1) := jo_79 (jw1 jdcX7_counts_32 2 rfl rfl)
theorem dX7_counts_52 : decode cX7_counts 52 = .ok (.aload_n 0, 1) := jo_42 (jw1 jdcX7_counts_32 3 rfl rfl)
theorem dX7_counts_53 : decode cX7_counts 53 = .ok (.getfield 22, 3) := jo_180 (a := 0) (b := 22) (jw3 jdcX7_counts_32 4 rfl rfl) rfl
theorem dX7_counts_56 : decode cX7_counts 56 = .ok (.iconst 0, 1) := jo_3 (jw1 jdcX7_counts_32 7 rfl rfl)
theorem dX7_counts_57 : decode cX7_counts 57 = .ok (.iconst 0, 1) := jo_3 (jw1 jdcX7_counts_32 8 rfl rfl)
theorem dX7_counts_58 : decode cX7_counts 58 = .ok (.iastore, 1) := jo_79 (jw1 jdcX7_counts_32 9 rfl rfl)
theorem dX7_counts_59 : decode cX7_counts 59 = .ok (.aload_n 0, 1) := jo_42 (jw1 jdcX7_counts_32 10 rfl rfl)
theorem dX7_counts_60 : decode cX7_counts 60 = .ok (.getfield 25, 3) := jo_180 (a := 0) (b := 25) (jw3 jdcX7_counts_32 11 rfl rfl) rfl
theorem dX7_counts_63 : decode cX7_counts 63 = .ok (.iconst 0, 1) := jo_3 (jw1 jdcX7_counts_32 14 rfl rfl)
theorem dX7_counts_64 : decode cX7_counts 64 = .ok (.iconst 0, 1) := jo_3 (jw1 jdcX7_counts_32 15 rfl rfl)
theorem dX7_counts_65 : decode cX7_counts 65 = .ok (.iastore, 1) := jo_79 (jw1 jdcX7_counts_32 16 rfl rfl)
theorem dX7_counts_66 : decode cX7_counts 66 = .ok (.aload_n 0, 1) := jo_42 (jw1 jdcX7_counts_32 17 rfl rfl)
theorem dX7_counts_67 : decode cX7_counts 67 = .ok (.getfield 28, 3) := jo_180 (a := 0) (b := 28) (jw3 jdcX7_counts_32 18 rfl rfl) rfl
theorem dX7_counts_70 : decode cX7_counts 70 = .ok (.iconst 0, 1) := jo_3 (jw1 jdcX7_counts_32 21 rfl rfl)
theorem jdcX7_counts_48 : jwk (cX7_counts.data.toList.drop 71) [3, 79, 42, 180, 0, 55, 3, 3, 3, 184, 0, 177, 4, 84, 42, 180, 0, 58, 3, 3, 79, 21, 5] = true := by decide +kernel
theorem dX7_counts_71 : decode cX7_counts 71 = .ok (.iconst 0, 1) := jo_3 (jw1 jdcX7_counts_48 0 rfl rfl)
theorem dX7_counts_72 : decode cX7_counts 72 = .ok (.iastore, 1) := jo_79 (jw1 jdcX7_counts_48 1 rfl rfl)
theorem dX7_counts_73 : decode cX7_counts 73 = .ok (.aload_n 0, 1) := jo_42 (jw1 jdcX7_counts_48 2 rfl rfl)
theorem dX7_counts_74 : decode cX7_counts 74 = .ok (.getfield 55, 3) := jo_180 (a := 0) (b := 55) (jw3 jdcX7_counts_48 3 rfl rfl) rfl
theorem dX7_counts_77 : decode cX7_counts 77 = .ok (.iconst 0, 1) := jo_3 (jw1 jdcX7_counts_48 6 rfl rfl)
theorem dX7_counts_78 : decode cX7_counts 78 = .ok (.iconst 0, 1) := jo_3 (jw1 jdcX7_counts_48 7 rfl rfl)
theorem dX7_counts_79 : decode cX7_counts 79 = .ok (.iconst 0, 1) := jo_3 (jw1 jdcX7_counts_48 8 rfl rfl)
theorem dX7_counts_80 : decode cX7_counts 80 = .ok (.invokestatic 177, 3) := jo_184 (a := 0) (b := 177) (jw3 jdcX7_counts_48 9 rfl rfl) rfl
theorem dX7_counts_83 : decode cX7_counts 83 = .ok (.iconst 1, 1) := jo_4 (jw1 jdcX7_counts_48 12 rfl rfl)
theorem dX7_counts_84 : decode cX7_counts 84 = .ok (.bastore, 1) := jo_84 (jw1 jdcX7_counts_48 13 rfl rfl)
theorem dX7_counts_85 : decode cX7_counts 85 = .ok (.aload_n 0, 1) := jo_42 (jw1 jdcX7_counts_48 14 rfl rfl)
theorem dX7_counts_86 : decode cX7_counts 86 = .ok (.getfield 58, 3) := jo_180 (a := 0) (b := 58) (jw3 jdcX7_counts_48 15 rfl rfl) rfl
theorem dX7_counts_89 : decode cX7_counts 89 = .ok (.iconst 0, 1) := jo_3 (jw1 jdcX7_counts_48 18 rfl rfl)
theorem dX7_counts_90 : decode cX7_counts 90 = .ok (.iconst 0, 1) := jo_3 (jw1 jdcX7_counts_48 19 rfl rfl)
theorem dX7_counts_91 : decode cX7_counts 91 = .ok (.iastore, 1) := jo_79 (jw1 jdcX7_counts_48 20 rfl rfl)
theorem dX7_counts_92 : decode cX7_counts 92 = .ok (.iload 5, 2) := jo_21 (jw2 jdcX7_counts_48 21 rfl rfl)
theorem jdcX7_counts_64 : jwk (cX7_counts.data.toList.drop 94) [155, 1, 138, 28, 158, 1, 134, 42, 180, 0, 19, 21, 5, 92, 46, 4, 96, 79, 42, 180, 0, 19, 21, 5, 46, 27] = true := by decide +kernel
theorem dX7_counts_94 : decode cX7_counts 94 = .ok (.ifCond .lt 394, 3) := jo_155 (a := 1) (b := 138) (jw3 jdcX7_counts_64 0 rfl rfl) rfl
theorem dX7_counts_97 : decode cX7_counts 97 = .ok (.iload_n 2, 1) := jo_28 (jw1 jdcX7_counts_64 3 rfl rfl)
theorem dX7_counts_98 : decode cX7_counts 98 = .ok (.ifCond .le 390, 3) := jo_158 (a := 1) (b := 134) (jw3 jdcX7_counts_64 4 rfl rfl) rfl
theorem dX7_counts_101 : decode cX7_counts 101 = .ok (.aload_n 0, 1) := jo_42 (jw1 jdcX7_counts_64 7 rfl rfl)
theorem dX7_counts_102 : decode cX7_counts 102 = .ok (.getfield 19, 3) := jo_180 (a := 0) (b := 19) (jw3 jdcX7_counts_64 8 rfl rfl) rfl
theorem dX7_counts_105 : decode cX7_counts 105 = .ok (.iload 5, 2) := jo_21 (jw2 jdcX7_counts_64 11 rfl rfl)
theorem dX7_counts_107 : decode cX7_counts 107 = .ok (.dup2, 1) := jo_92 (jw1 jdcX7_counts_64 13 rfl rfl)
theorem dX7_counts_108 : decode cX7_counts 108 = .ok (.iaload, 1) := jo_46 (jw1 jdcX7_counts_64 14 rfl rfl)
theorem dX7_counts_109 : decode cX7_counts 109 = .ok (.iconst 1, 1) := jo_4 (jw1 jdcX7_counts_64 15 rfl rfl)
theorem dX7_counts_110 : decode cX7_counts 110 = .ok (.iadd, 1) := jo_96 (jw1 jdcX7_counts_64 16 rfl rfl)
theorem dX7_counts_111 : decode cX7_counts 111 = .ok (.iastore, 1) := jo_79 (jw1 jdcX7_counts_64 17 rfl rfl)
theorem dX7_counts_112 : decode cX7_counts 112 = .ok (.aload_n 0, 1) := jo_42 (jw1 jdcX7_counts_64 18 rfl rfl)
theorem dX7_counts_113 : decode cX7_counts 113 = .ok (.getfield 19, 3) := jo_180 (a := 0) (b := 19) (jw3 jdcX7_counts_64 19 rfl rfl) rfl
theorem dX7_counts_116 : decode cX7_counts 116 = .ok (.iload 5, 2) := jo_21 (jw2 jdcX7_counts_64 22 rfl rfl)
theorem dX7_counts_118 : decode cX7_counts 118 = .ok (.iaload, 1) := jo_46 (jw1 jdcX7_counts_64 24 rfl rfl)
theorem dX7_counts_119 : decode cX7_counts 119 = .ok (.iload_n 1, 1) := jo_27 (jw1 jdcX7_counts_64 25 rfl rfl)
theorem jdcX7_counts_80 : jwk (cX7_counts.data.toList.drop 120) [184, 0, 133, 160, 0, 39, 42, 180, 0, 55, 42, 180, 0, 22, 21, 5, 46, 42, 180, 0, 25, 21, 5, 46, 42, 180, 0, 28, 21, 5, 46] = true := by decide +kernel
theorem dX7_counts_120 : decode cX7_counts 120 = .ok (.invokestatic 133, 3) := jo_184 (a := 0) (b := 133) (jw3 jdcX7_counts_80 0 rfl rfl) rfl
theorem dX7_counts_123 : decode cX7_counts 123 = .ok (.if_icmp .ne 39, 3) := jo_160 (a := 0) (b := 39) (jw3 jdcX7_counts_80 3 rfl rfl) rfl
theorem dX7_counts_126 : decode cX7_counts 126 = .ok (.aload_n 0, 1) := jo_42 (jw1 jdcX7_counts_80 6 rfl rfl)
theorem dX7_counts_127 : decode cX7_counts 127 = .ok (.getfield 55, 3) := jo_180 (a := 0) (b := 55) (jw3 jdcX7_counts_80 7 rfl rfl) rfl
theorem dX7_counts_130 : decode cX7_counts 130 = .ok (.aload_n 0, 1) := jo_42 (jw1 jdcX7_counts_80 10 rfl rfl)
theorem dX7_counts_131 : decode cX7_counts 131 = .ok (.getfield 22, 3) := jo_180 (a := 0) (b := 22) (jw3 jdcX7_counts_80 11 rfl rfl) rfl
theorem dX7_counts_134 : decode cX7_counts 134 = .ok (.iload 5, 2) := jo_21 (jw2 jdcX7_counts_80 14 rfl rfl)
theorem dX7_counts_136 : decode cX7_counts 136 = .ok (.iaload, 1) := jo_46 (jw1 jdcX7_counts_80 16 rfl rfl)
theorem dX7_counts_137 : decode cX7_counts 137 = .ok (.aload_n 0, 1) := jo_42 (jw1 jdcX7_counts_80 17 rfl rfl)
theorem dX7_counts_138 : decode cX7_counts 138 = .ok (.getfield 25, 3) := jo_180 (a := 0) (b := 25) (jw3 jdcX7_counts_80 18 rfl rfl) rfl
theorem dX7_counts_141 : decode cX7_counts 141 = .ok (.iload 5, 2) := jo_21 (jw2 jdcX7_counts_80 21 rfl rfl)
theorem dX7_counts_143 : decode cX7_counts 143 = .ok (.iaload, 1) := jo_46 (jw1 jdcX7_counts_80 23 rfl rfl)
theorem dX7_counts_144 : decode cX7_counts 144 = .ok (.aload_n 0, 1) := jo_42 (jw1 jdcX7_counts_80 24 rfl rfl)
theorem dX7_counts_145 : decode cX7_counts 145 = .ok (.getfield 28, 3) := jo_180 (a := 0) (b := 28) (jw3 jdcX7_counts_80 25 rfl rfl) rfl
theorem dX7_counts_148 : decode cX7_counts 148 = .ok (.iload 5, 2) := jo_21 (jw2 jdcX7_counts_80 28 rfl rfl)
theorem dX7_counts_150 : decode cX7_counts 150 = .ok (.iaload, 1) := jo_46 (jw1 jdcX7_counts_80 30 rfl rfl)
theorem jdcX7_counts_96 : jwk (cX7_counts.data.toList.drop 151) [184, 0, 177, 3, 84, 132, 5, 255, 167, 255, 189, 42, 180, 0, 19, 21, 5, 46, 54, 6, 42, 180, 0, 22, 21, 5, 46, 27, 21, 6] = true := by decide +kernel
theorem dX7_counts_151 : decode cX7_counts 151 = .ok (.invokestatic 177, 3) := jo_184 (a := 0) (b := 177) (jw3 jdcX7_counts_96 0 rfl rfl) rfl
theorem dX7_counts_154 : decode cX7_counts 154 = .ok (.iconst 0, 1) := jo_3 (jw1 jdcX7_counts_96 3 rfl rfl)
theorem dX7_counts_155 : decode cX7_counts 155 = .ok (.bastore, 1) := jo_84 (jw1 jdcX7_counts_96 4 rfl rfl)
theorem dX7_counts_156 : decode cX7_counts 156 = .ok (.iinc 5 (-1), 3) := jo_132 (a := 5) (b := 255) (jw3 jdcX7_counts_96 5 rfl rfl) rfl
theorem dX7_counts_159 : decode cX7_counts 159 = .ok (.goto (-67), 3) := jo_167 (a := 255) (b := 189) (jw3 jdcX7_counts_96 8 rfl rfl) rfl
theorem dX7_counts_162 : decode cX7_counts 162 = .ok (.aload_n 0, 1) := jo_42 (jw1 jdcX7_counts_96 11 rfl rfl)
theorem dX7_counts_163 : decode cX7_counts 163 = .ok (.getfield 19, 3) := jo_180 (a := 0) (b := 19) (jw3 jdcX7_counts_96 12 rfl rfl) rfl
theorem dX7_counts_166 : decode cX7_counts 166 = .ok (.iload 5, 2) := jo_21 (jw2 jdcX7_counts_96 15 rfl rfl)
theorem dX7_counts_168 : decode cX7_counts 168 = .ok (.iaload, 1) := jo_46 (jw1 jdcX7_counts_96 17 rfl rfl)
theorem dX7_counts_169 : decode cX7_counts 169 = .ok (.istore 6, 2) := jo_54 (jw2 jdcX7_counts_96 18 rfl rfl)
theorem dX7_counts_171 : decode cX7_counts 171 = .ok (.aload_n 0, 1) := jo_42 (jw1 jdcX7_counts_96 20 rfl rfl)
theorem dX7_counts_172 : decode cX7_counts 172 = .ok (.getfield 22, 3) := jo_180 (a := 0) (b := 22) (jw3 jdcX7_counts_96 21 rfl rfl) rfl
theorem dX7_counts_175 : decode cX7_counts 175 = .ok (.iload 5, 2) := jo_21 (jw2 jdcX7_counts_96 24 rfl rfl)
theorem dX7_counts_177 : decode cX7_counts 177 = .ok (.iaload, 1) := jo_46 (jw1 jdcX7_counts_96 26 rfl rfl)
theorem dX7_counts_178 : decode cX7_counts 178 = .ok (.iload_n 1, 1) := jo_27 (jw1 jdcX7_counts_96 27 rfl rfl)
theorem dX7_counts_179 : decode cX7_counts 179 = .ok (.iload 6, 2) := jo_21 (jw2 jdcX7_counts_96 28 rfl rfl)
theorem jdcX7_counts_112 : jwk (cX7_counts.data.toList.drop 181) [184, 0, 112, 96, 54, 7, 42, 180, 0, 25, 21, 5, 46, 27, 21, 6, 42, 180, 0, 22, 21, 5, 46, 42, 180, 0, 25, 21, 5] = true := by decide +kernel
theorem dX7_counts_181 : decode cX7_counts 181 = .ok (.invokestatic 112, 3) := jo_184 (a := 0) (b := 112) (jw3 jdcX7_counts_112 0 rfl rfl) rfl
theorem dX7_counts_184 : decode cX7_counts 184 = .ok (.iadd, 1) := jo_96 (jw1 jdcX7_counts_112 3 rfl rfl)
theorem dX7_counts_185 : decode cX7_counts 185 = .ok (.istore 7, 2) := jo_54 (jw2 jdcX7_counts_112 4 rfl rfl)
theorem dX7_counts_187 : decode cX7_counts 187 = .ok (.aload_n 0, 1) := jo_42 (jw1 jdcX7_counts_112 6 rfl rfl)
theorem dX7_counts_188 : decode cX7_counts 188 = .ok (.getfield 25, 3) := jo_180 (a := 0) (b := 25) (jw3 jdcX7_counts_112 7 rfl rfl) rfl
theorem dX7_counts_191 : decode cX7_counts 191 = .ok (.iload 5, 2) := jo_21 (jw2 jdcX7_counts_112 10 rfl rfl)
theorem dX7_counts_193 : decode cX7_counts 193 = .ok (.iaload, 1) := jo_46 (jw1 jdcX7_counts_112 12 rfl rfl)
theorem dX7_counts_194 : decode cX7_counts 194 = .ok (.iload_n 1, 1) := jo_27 (jw1 jdcX7_counts_112 13 rfl rfl)
theorem dX7_counts_195 : decode cX7_counts 195 = .ok (.iload 6, 2) := jo_21 (jw2 jdcX7_counts_112 14 rfl rfl)
theorem dX7_counts_197 : decode cX7_counts 197 = .ok (.aload_n 0, 1) := jo_42 (jw1 jdcX7_counts_112 16 rfl rfl)
theorem dX7_counts_198 : decode cX7_counts 198 = .ok (.getfield 22, 3) := jo_180 (a := 0) (b := 22) (jw3 jdcX7_counts_112 17 rfl rfl) rfl
theorem dX7_counts_201 : decode cX7_counts 201 = .ok (.iload 5, 2) := jo_21 (jw2 jdcX7_counts_112 20 rfl rfl)
theorem dX7_counts_203 : decode cX7_counts 203 = .ok (.iaload, 1) := jo_46 (jw1 jdcX7_counts_112 22 rfl rfl)
theorem dX7_counts_204 : decode cX7_counts 204 = .ok (.aload_n 0, 1) := jo_42 (jw1 jdcX7_counts_112 23 rfl rfl)
theorem dX7_counts_205 : decode cX7_counts 205 = .ok (.getfield 25, 3) := jo_180 (a := 0) (b := 25) (jw3 jdcX7_counts_112 24 rfl rfl) rfl
theorem dX7_counts_208 : decode cX7_counts 208 = .ok (.iload 5, 2) := jo_21 (jw2 jdcX7_counts_112 27 rfl rfl)
theorem jdcX7_counts_128 : jwk (cX7_counts.data.toList.drop 210) [46, 96, 184, 0, 115, 96, 54, 8, 42, 180, 0, 28, 21, 5, 46, 27, 21, 6, 184, 0, 119, 96, 54, 9, 42, 180, 0, 55] = true := by decide +kernel
theorem dX7_counts_210 : decode cX7_counts 210 = .ok (.iaload, 1) := jo_46 (jw1 jdcX7_counts_128 0 rfl rfl)
theorem dX7_counts_211 : decode cX7_counts 211 = .ok (.iadd, 1) := jo_96 (jw1 jdcX7_counts_128 1 rfl rfl)
theorem dX7_counts_212 : decode cX7_counts 212 = .ok (.invokestatic 115, 3) := jo_184 (a := 0) (b := 115) (jw3 jdcX7_counts_128 2 rfl rfl) rfl
theorem dX7_counts_215 : decode cX7_counts 215 = .ok (.iadd, 1) := jo_96 (jw1 jdcX7_counts_128 5 rfl rfl)
theorem dX7_counts_216 : decode cX7_counts 216 = .ok (.istore 8, 2) := jo_54 (jw2 jdcX7_counts_128 6 rfl rfl)
theorem dX7_counts_218 : decode cX7_counts 218 = .ok (.aload_n 0, 1) := jo_42 (jw1 jdcX7_counts_128 8 rfl rfl)
theorem dX7_counts_219 : decode cX7_counts 219 = .ok (.getfield 28, 3) := jo_180 (a := 0) (b := 28) (jw3 jdcX7_counts_128 9 rfl rfl) rfl
theorem dX7_counts_222 : decode cX7_counts 222 = .ok (.iload 5, 2) := jo_21 (jw2 jdcX7_counts_128 12 rfl rfl)
theorem dX7_counts_224 : decode cX7_counts 224 = .ok (.iaload, 1) := jo_46 (jw1 jdcX7_counts_128 14 rfl rfl)
theorem dX7_counts_225 : decode cX7_counts 225 = .ok (.iload_n 1, 1) := jo_27 (jw1 jdcX7_counts_128 15 rfl rfl)
theorem dX7_counts_226 : decode cX7_counts 226 = .ok (.iload 6, 2) := jo_21 (jw2 jdcX7_counts_128 16 rfl rfl)
theorem dX7_counts_228 : decode cX7_counts 228 = .ok (.invokestatic 119, 3) := jo_184 (a := 0) (b := 119) (jw3 jdcX7_counts_128 18 rfl rfl) rfl
theorem dX7_counts_231 : decode cX7_counts 231 = .ok (.iadd, 1) := jo_96 (jw1 jdcX7_counts_128 21 rfl rfl)
theorem dX7_counts_232 : decode cX7_counts 232 = .ok (.istore 9, 2) := jo_54 (jw2 jdcX7_counts_128 22 rfl rfl)
theorem dX7_counts_234 : decode cX7_counts 234 = .ok (.aload_n 0, 1) := jo_42 (jw1 jdcX7_counts_128 24 rfl rfl)
theorem dX7_counts_235 : decode cX7_counts 235 = .ok (.getfield 55, 3) := jo_180 (a := 0) (b := 55) (jw3 jdcX7_counts_128 25 rfl rfl) rfl
theorem jdcX7_counts_144 : jwk (cX7_counts.data.toList.drop 238) [21, 7, 21, 8, 21, 9, 184, 0, 177, 51, 154, 0, 237, 132, 4, 1, 21, 4, 18, 180, 164, 0, 18, 42, 180, 0, 41, 29, 16, 251, 79, 42] = true := by decide +kernel
theorem dX7_counts_238 : decode cX7_counts 238 = .ok (.iload 7, 2) := jo_21 (jw2 jdcX7_counts_144 0 rfl rfl)
theorem dX7_counts_240 : decode cX7_counts 240 = .ok (.iload 8, 2) := jo_21 (jw2 jdcX7_counts_144 2 rfl rfl)
theorem dX7_counts_242 : decode cX7_counts 242 = .ok (.iload 9, 2) := jo_21 (jw2 jdcX7_counts_144 4 rfl rfl)
theorem dX7_counts_244 : decode cX7_counts 244 = .ok (.invokestatic 177, 3) := jo_184 (a := 0) (b := 177) (jw3 jdcX7_counts_144 6 rfl rfl) rfl
theorem dX7_counts_247 : decode cX7_counts 247 = .ok (.baload, 1) := jo_51 (jw1 jdcX7_counts_144 9 rfl rfl)
theorem dX7_counts_248 : decode cX7_counts 248 = .ok (.ifCond .ne 237, 3) := jo_154 (a := 0) (b := 237) (jw3 jdcX7_counts_144 10 rfl rfl) rfl
theorem dX7_counts_251 : decode cX7_counts 251 = .ok (.iinc 4 1, 3) := jo_132 (a := 4) (b := 1) (jw3 jdcX7_counts_144 13 rfl rfl) rfl
theorem dX7_counts_254 : decode cX7_counts 254 = .ok (.iload 4, 2) := jo_21 (jw2 jdcX7_counts_144 16 rfl rfl)
theorem dX7_counts_256 : decode cX7_counts 256 = .ok (.ldc 180, 2) := jo_18 (jw2 jdcX7_counts_144 18 rfl rfl)
theorem dX7_counts_258 : decode cX7_counts 258 = .ok (.if_icmp .le 18, 3) := jo_164 (a := 0) (b := 18) (jw3 jdcX7_counts_144 20 rfl rfl) rfl
theorem dX7_counts_261 : decode cX7_counts 261 = .ok (.aload_n 0, 1) := jo_42 (jw1 jdcX7_counts_144 23 rfl rfl)
theorem dX7_counts_262 : decode cX7_counts 262 = .ok (.getfield 41, 3) := jo_180 (a := 0) (b := 41) (jw3 jdcX7_counts_144 24 rfl rfl) rfl
theorem dX7_counts_265 : decode cX7_counts 265 = .ok (.iload_n 3, 1) := jo_29 (jw1 jdcX7_counts_144 27 rfl rfl)
theorem dX7_counts_266 : decode cX7_counts 266 = .ok (.bipush (-5), 2) := jo_16 (a := 251) (jw2 jdcX7_counts_144 28 rfl rfl) rfl
theorem dX7_counts_268 : decode cX7_counts 268 = .ok (.iastore, 1) := jo_79 (jw1 jdcX7_counts_144 30 rfl rfl)
theorem dX7_counts_269 : decode cX7_counts 269 = .ok (.aload_n 0, 1) := jo_42 (jw1 jdcX7_counts_144 31 rfl rfl)
theorem jdcX7_counts_160 : jwk (cX7_counts.data.toList.drop 270) [21, 5, 182, 0, 181, 177, 42, 180, 0, 22, 21, 5, 4, 96, 21, 7, 79, 42, 180, 0, 25, 21, 5, 4, 96, 21, 8] = true := by decide +kernel
theorem dX7_counts_270 : decode cX7_counts 270 = .ok (.iload 5, 2) := jo_21 (jw2 jdcX7_counts_160 0 rfl rfl)
theorem dX7_counts_272 : decode cX7_counts 272 = .ok (.invokevirtual 181, 3) := jo_182 (a := 0) (b := 181) (jw3 jdcX7_counts_160 2 rfl rfl) rfl
theorem dX7_counts_275 : decode cX7_counts 275 = .ok (.return_, 1) := jo_177 (jw1 jdcX7_counts_160 5 rfl rfl)
theorem dX7_counts_276 : decode cX7_counts 276 = .ok (.aload_n 0, 1) := jo_42 (jw1 jdcX7_counts_160 6 rfl rfl)
theorem dX7_counts_277 : decode cX7_counts 277 = .ok (.getfield 22, 3) := jo_180 (a := 0) (b := 22) (jw3 jdcX7_counts_160 7 rfl rfl) rfl
theorem dX7_counts_280 : decode cX7_counts 280 = .ok (.iload 5, 2) := jo_21 (jw2 jdcX7_counts_160 10 rfl rfl)
theorem dX7_counts_282 : decode cX7_counts 282 = .ok (.iconst 1, 1) := jo_4 (jw1 jdcX7_counts_160 12 rfl rfl)
theorem dX7_counts_283 : decode cX7_counts 283 = .ok (.iadd, 1) := jo_96 (jw1 jdcX7_counts_160 13 rfl rfl)
theorem dX7_counts_284 : decode cX7_counts 284 = .ok (.iload 7, 2) := jo_21 (jw2 jdcX7_counts_160 14 rfl rfl)
theorem dX7_counts_286 : decode cX7_counts 286 = .ok (.iastore, 1) := jo_79 (jw1 jdcX7_counts_160 16 rfl rfl)
theorem dX7_counts_287 : decode cX7_counts 287 = .ok (.aload_n 0, 1) := jo_42 (jw1 jdcX7_counts_160 17 rfl rfl)
theorem dX7_counts_288 : decode cX7_counts 288 = .ok (.getfield 25, 3) := jo_180 (a := 0) (b := 25) (jw3 jdcX7_counts_160 18 rfl rfl) rfl
theorem dX7_counts_291 : decode cX7_counts 291 = .ok (.iload 5, 2) := jo_21 (jw2 jdcX7_counts_160 21 rfl rfl)
theorem dX7_counts_293 : decode cX7_counts 293 = .ok (.iconst 1, 1) := jo_4 (jw1 jdcX7_counts_160 23 rfl rfl)
theorem dX7_counts_294 : decode cX7_counts 294 = .ok (.iadd, 1) := jo_96 (jw1 jdcX7_counts_160 24 rfl rfl)
theorem dX7_counts_295 : decode cX7_counts 295 = .ok (.iload 8, 2) := jo_21 (jw2 jdcX7_counts_160 25 rfl rfl)
theorem jdcX7_counts_176 : jwk (cX7_counts.data.toList.drop 297) [79, 42, 180, 0, 28, 21, 5, 4, 96, 21, 9, 79, 42, 180, 0, 58, 21, 5, 4, 96, 21, 7, 158, 0, 13, 42] = true := by decide +kernel
theorem dX7_counts_297 : decode cX7_counts 297 = .ok (.iastore, 1) := jo_79 (jw1 jdcX7_counts_176 0 rfl rfl)
theorem dX7_counts_298 : decode cX7_counts 298 = .ok (.aload_n 0, 1) := jo_42 (jw1 jdcX7_counts_176 1 rfl rfl)
theorem dX7_counts_299 : decode cX7_counts 299 = .ok (.getfield 28, 3) := jo_180 (a := 0) (b := 28) (jw3 jdcX7_counts_176 2 rfl rfl) rfl
theorem dX7_counts_302 : decode cX7_counts 302 = .ok (.iload 5, 2) := jo_21 (jw2 jdcX7_counts_176 5 rfl rfl)
theorem dX7_counts_304 : decode cX7_counts 304 = .ok (.iconst 1, 1) := jo_4 (jw1 jdcX7_counts_176 7 rfl rfl)
theorem dX7_counts_305 : decode cX7_counts 305 = .ok (.iadd, 1) := jo_96 (jw1 jdcX7_counts_176 8 rfl rfl)
theorem dX7_counts_306 : decode cX7_counts 306 = .ok (.iload 9, 2) := jo_21 (jw2 jdcX7_counts_176 9 rfl rfl)
theorem dX7_counts_308 : decode cX7_counts 308 = .ok (.iastore, 1) := jo_79 (jw1 jdcX7_counts_176 11 rfl rfl)
theorem dX7_counts_309 : decode cX7_counts 309 = .ok (.aload_n 0, 1) := jo_42 (jw1 jdcX7_counts_176 12 rfl rfl)
theorem dX7_counts_310 : decode cX7_counts 310 = .ok (.getfield 58, 3) := jo_180 (a := 0) (b := 58) (jw3 jdcX7_counts_176 13 rfl rfl) rfl
theorem dX7_counts_313 : decode cX7_counts 313 = .ok (.iload 5, 2) := jo_21 (jw2 jdcX7_counts_176 16 rfl rfl)
theorem dX7_counts_315 : decode cX7_counts 315 = .ok (.iconst 1, 1) := jo_4 (jw1 jdcX7_counts_176 18 rfl rfl)
theorem dX7_counts_316 : decode cX7_counts 316 = .ok (.iadd, 1) := jo_96 (jw1 jdcX7_counts_176 19 rfl rfl)
theorem dX7_counts_317 : decode cX7_counts 317 = .ok (.iload 7, 2) := jo_21 (jw2 jdcX7_counts_176 20 rfl rfl)
theorem dX7_counts_319 : decode cX7_counts 319 = .ok (.ifCond .le 13, 3) := jo_158 (a := 0) (b := 13) (jw3 jdcX7_counts_176 22 rfl rfl) rfl
theorem dX7_counts_322 : decode cX7_counts 322 = .ok (.aload_n 0, 1) := jo_42 (jw1 jdcX7_counts_176 25 rfl rfl)
theorem jdcX7_counts_192 : jwk (cX7_counts.data.toList.drop 323) [180, 0, 58, 21, 5, 46, 156, 0, 7, 2, 167, 0, 27, 21, 7, 42, 180, 0, 58, 21, 5, 46, 164, 0, 8, 21, 7, 167, 0, 10, 42, 180, 0, 58] = true := by decide +kernel
theorem dX7_counts_323 : decode cX7_counts 323 = .ok (.getfield 58, 3) := jo_180 (a := 0) (b := 58) (jw3 jdcX7_counts_192 0 rfl rfl) rfl
theorem dX7_counts_326 : decode cX7_counts 326 = .ok (.iload 5, 2) := jo_21 (jw2 jdcX7_counts_192 3 rfl rfl)
theorem dX7_counts_328 : decode cX7_counts 328 = .ok (.iaload, 1) := jo_46 (jw1 jdcX7_counts_192 5 rfl rfl)
theorem dX7_counts_329 : decode cX7_counts 329 = .ok (.ifCond .ge 7, 3) := jo_156 (a := 0) (b := 7) (jw3 jdcX7_counts_192 6 rfl rfl) rfl
theorem dX7_counts_332 : decode cX7_counts 332 = .ok (.iconst (-1), 1) := jo_2 (jw1 jdcX7_counts_192 9 rfl rfl)
theorem dX7_counts_333 : decode cX7_counts 333 = .ok (.goto 27, 3) := jo_167 (a := 0) (b := 27) (jw3 jdcX7_counts_192 10 rfl rfl) rfl
theorem dX7_counts_336 : decode cX7_counts 336 = .ok (.iload 7, 2) := jo_21 (jw2 jdcX7_counts_192 13 rfl rfl)
theorem dX7_counts_338 : decode cX7_counts 338 = .ok (.aload_n 0, 1) := jo_42 (jw1 jdcX7_counts_192 15 rfl rfl)
theorem dX7_counts_339 : decode cX7_counts 339 = .ok (.getfield 58, 3) := jo_180 (a := 0) (b := 58) (jw3 jdcX7_counts_192 16 rfl rfl) rfl
theorem dX7_counts_342 : decode cX7_counts 342 = .ok (.iload 5, 2) := jo_21 (jw2 jdcX7_counts_192 19 rfl rfl)
theorem dX7_counts_344 : decode cX7_counts 344 = .ok (.iaload, 1) := jo_46 (jw1 jdcX7_counts_192 21 rfl rfl)
theorem dX7_counts_345 : decode cX7_counts 345 = .ok (.if_icmp .le 8, 3) := jo_164 (a := 0) (b := 8) (jw3 jdcX7_counts_192 22 rfl rfl) rfl
theorem dX7_counts_348 : decode cX7_counts 348 = .ok (.iload 7, 2) := jo_21 (jw2 jdcX7_counts_192 25 rfl rfl)
theorem dX7_counts_350 : decode cX7_counts 350 = .ok (.goto 10, 3) := jo_167 (a := 0) (b := 10) (jw3 jdcX7_counts_192 27 rfl rfl) rfl
theorem dX7_counts_353 : decode cX7_counts 353 = .ok (.aload_n 0, 1) := jo_42 (jw1 jdcX7_counts_192 30 rfl rfl)
theorem dX7_counts_354 : decode cX7_counts 354 = .ok (.getfield 58, 3) := jo_180 (a := 0) (b := 58) (jw3 jdcX7_counts_192 31 rfl rfl) rfl
theorem jdcX7_counts_208 : jwk (cX7_counts.data.toList.drop 357) [21, 5, 46, 79, 21, 5, 4, 96, 28, 160, 0, 93, 42, 28, 181, 0, 109, 42, 180, 0, 41, 29, 92, 46] = true := by decide +kernel
theorem dX7_counts_357 : decode cX7_counts 357 = .ok (.iload 5, 2) := jo_21 (jw2 jdcX7_counts_208 0 rfl rfl)
theorem dX7_counts_359 : decode cX7_counts 359 = .ok (.iaload, 1) := jo_46 (jw1 jdcX7_counts_208 2 rfl rfl)
theorem dX7_counts_360 : decode cX7_counts 360 = .ok (.iastore, 1) := jo_79 (jw1 jdcX7_counts_208 3 rfl rfl)
theorem dX7_counts_361 : decode cX7_counts 361 = .ok (.iload 5, 2) := jo_21 (jw2 jdcX7_counts_208 4 rfl rfl)
theorem dX7_counts_363 : decode cX7_counts 363 = .ok (.iconst 1, 1) := jo_4 (jw1 jdcX7_counts_208 6 rfl rfl)
theorem dX7_counts_364 : decode cX7_counts 364 = .ok (.iadd, 1) := jo_96 (jw1 jdcX7_counts_208 7 rfl rfl)
theorem dX7_counts_365 : decode cX7_counts 365 = .ok (.iload_n 2, 1) := jo_28 (jw1 jdcX7_counts_208 8 rfl rfl)
theorem dX7_counts_366 : decode cX7_counts 366 = .ok (.if_icmp .ne 93, 3) := jo_160 (a := 0) (b := 93) (jw3 jdcX7_counts_208 9 rfl rfl) rfl
theorem dX7_counts_369 : decode cX7_counts 369 = .ok (.aload_n 0, 1) := jo_42 (jw1 jdcX7_counts_208 12 rfl rfl)
theorem dX7_counts_370 : decode cX7_counts 370 = .ok (.iload_n 2, 1) := jo_28 (jw1 jdcX7_counts_208 13 rfl rfl)
theorem dX7_counts_371 : decode cX7_counts 371 = .ok (.putfield 109, 3) := jo_181 (a := 0) (b := 109) (jw3 jdcX7_counts_208 14 rfl rfl) rfl
theorem dX7_counts_374 : decode cX7_counts 374 = .ok (.aload_n 0, 1) := jo_42 (jw1 jdcX7_counts_208 17 rfl rfl)
theorem dX7_counts_375 : decode cX7_counts 375 = .ok (.getfield 41, 3) := jo_180 (a := 0) (b := 41) (jw3 jdcX7_counts_208 18 rfl rfl) rfl
theorem dX7_counts_378 : decode cX7_counts 378 = .ok (.iload_n 3, 1) := jo_29 (jw1 jdcX7_counts_208 21 rfl rfl)
theorem dX7_counts_379 : decode cX7_counts 379 = .ok (.dup2, 1) := jo_92 (jw1 jdcX7_counts_208 22 rfl rfl)
theorem dX7_counts_380 : decode cX7_counts 380 = .ok (.iaload, 1) := jo_46 (jw1 jdcX7_counts_208 23 rfl rfl)
theorem jdcX7_counts_224 : jwk (cX7_counts.data.toList.drop 381) [4, 96, 79, 42, 180, 0, 44, 29, 92, 47, 27, 21, 7, 21, 8, 21, 9, 184, 0, 152, 133, 97, 80] = true := by decide +kernel
theorem dX7_counts_381 : decode cX7_counts 381 = .ok (.iconst 1, 1) := jo_4 (jw1 jdcX7_counts_224 0 rfl rfl)
theorem dX7_counts_382 : decode cX7_counts 382 = .ok (.iadd, 1) := jo_96 (jw1 jdcX7_counts_224 1 rfl rfl)
theorem dX7_counts_383 : decode cX7_counts 383 = .ok (.iastore, 1) := jo_79 (jw1 jdcX7_counts_224 2 rfl rfl)
theorem dX7_counts_384 : decode cX7_counts 384 = .ok (.aload_n 0, 1) := jo_42 (jw1 jdcX7_counts_224 3 rfl rfl)
theorem dX7_counts_385 : decode cX7_counts 385 = .ok (.getfield 44, 3) := jo_180 (a := 0) (b := 44) (jw3 jdcX7_counts_224 4 rfl rfl) rfl
theorem dX7_counts_388 : decode cX7_counts 388 = .ok (.iload_n 3, 1) := jo_29 (jw1 jdcX7_counts_224 7 rfl rfl)
theorem dX7_counts_389 : decode cX7_counts 389 = .ok (.dup2, 1) := jo_92 (jw1 jdcX7_counts_224 8 rfl rfl)
theorem dX7_counts_390 : decode cX7_counts 390 = .ok (.laload, 1) := jo_47 (jw1 jdcX7_counts_224 9 rfl rfl)
theorem dX7_counts_391 : decode cX7_counts 391 = .ok (.iload_n 1, 1) := jo_27 (jw1 jdcX7_counts_224 10 rfl rfl)
theorem dX7_counts_392 : decode cX7_counts 392 = .ok (.iload 7, 2) := jo_21 (jw2 jdcX7_counts_224 11 rfl rfl)
theorem dX7_counts_394 : decode cX7_counts 394 = .ok (.iload 8, 2) := jo_21 (jw2 jdcX7_counts_224 13 rfl rfl)
theorem dX7_counts_396 : decode cX7_counts 396 = .ok (.iload 9, 2) := jo_21 (jw2 jdcX7_counts_224 15 rfl rfl)
theorem dX7_counts_398 : decode cX7_counts 398 = .ok (.invokestatic 152, 3) := jo_184 (a := 0) (b := 152) (jw3 jdcX7_counts_224 17 rfl rfl) rfl
theorem dX7_counts_401 : decode cX7_counts 401 = .ok (.i2l, 1) := jo_133 (jw1 jdcX7_counts_224 20 rfl rfl)
theorem dX7_counts_402 : decode cX7_counts 402 = .ok (.ladd, 1) := jo_97 (jw1 jdcX7_counts_224 21 rfl rfl)
theorem dX7_counts_403 : decode cX7_counts 403 = .ok (.lastore, 1) := jo_80 (jw1 jdcX7_counts_224 22 rfl rfl)
theorem jdcX7_counts_240 : jwk (cX7_counts.data.toList.drop 404) [42, 180, 0, 48, 29, 92, 46, 42, 27, 182, 0, 156, 153, 0, 7, 4, 167, 0, 4, 3, 96, 79, 42, 180, 0, 51] = true := by decide +kernel
theorem dX7_counts_404 : decode cX7_counts 404 = .ok (.aload_n 0, 1) := jo_42 (jw1 jdcX7_counts_240 0 rfl rfl)
theorem dX7_counts_405 : decode cX7_counts 405 = .ok (.getfield 48, 3) := jo_180 (a := 0) (b := 48) (jw3 jdcX7_counts_240 1 rfl rfl) rfl
theorem dX7_counts_408 : decode cX7_counts 408 = .ok (.iload_n 3, 1) := jo_29 (jw1 jdcX7_counts_240 4 rfl rfl)
theorem dX7_counts_409 : decode cX7_counts 409 = .ok (.dup2, 1) := jo_92 (jw1 jdcX7_counts_240 5 rfl rfl)
theorem dX7_counts_410 : decode cX7_counts 410 = .ok (.iaload, 1) := jo_46 (jw1 jdcX7_counts_240 6 rfl rfl)
theorem dX7_counts_411 : decode cX7_counts 411 = .ok (.aload_n 0, 1) := jo_42 (jw1 jdcX7_counts_240 7 rfl rfl)
theorem dX7_counts_412 : decode cX7_counts 412 = .ok (.iload_n 1, 1) := jo_27 (jw1 jdcX7_counts_240 8 rfl rfl)
theorem dX7_counts_413 : decode cX7_counts 413 = .ok (.invokevirtual 156, 3) := jo_182 (a := 0) (b := 156) (jw3 jdcX7_counts_240 9 rfl rfl) rfl
theorem dX7_counts_416 : decode cX7_counts 416 = .ok (.ifCond .eq 7, 3) := jo_153 (a := 0) (b := 7) (jw3 jdcX7_counts_240 12 rfl rfl) rfl
theorem dX7_counts_419 : decode cX7_counts 419 = .ok (.iconst 1, 1) := jo_4 (jw1 jdcX7_counts_240 15 rfl rfl)
theorem dX7_counts_420 : decode cX7_counts 420 = .ok (.goto 4, 3) := jo_167 (a := 0) (b := 4) (jw3 jdcX7_counts_240 16 rfl rfl) rfl
theorem dX7_counts_423 : decode cX7_counts 423 = .ok (.iconst 0, 1) := jo_3 (jw1 jdcX7_counts_240 19 rfl rfl)
theorem dX7_counts_424 : decode cX7_counts 424 = .ok (.iadd, 1) := jo_96 (jw1 jdcX7_counts_240 20 rfl rfl)
theorem dX7_counts_425 : decode cX7_counts 425 = .ok (.iastore, 1) := jo_79 (jw1 jdcX7_counts_240 21 rfl rfl)
theorem dX7_counts_426 : decode cX7_counts 426 = .ok (.aload_n 0, 1) := jo_42 (jw1 jdcX7_counts_240 22 rfl rfl)
theorem dX7_counts_427 : decode cX7_counts 427 = .ok (.getfield 51, 3) := jo_180 (a := 0) (b := 51) (jw3 jdcX7_counts_240 23 rfl rfl) rfl
theorem jdcX7_counts_256 : jwk (cX7_counts.data.toList.drop 430) [29, 92, 46, 21, 7, 158, 0, 18, 42, 180, 0, 58, 28, 46, 21, 7, 160, 0, 7, 4, 167, 0, 4, 3, 96, 79] = true := by decide +kernel
theorem dX7_counts_430 : decode cX7_counts 430 = .ok (.iload_n 3, 1) := jo_29 (jw1 jdcX7_counts_256 0 rfl rfl)
theorem dX7_counts_431 : decode cX7_counts 431 = .ok (.dup2, 1) := jo_92 (jw1 jdcX7_counts_256 1 rfl rfl)
theorem dX7_counts_432 : decode cX7_counts 432 = .ok (.iaload, 1) := jo_46 (jw1 jdcX7_counts_256 2 rfl rfl)
theorem dX7_counts_433 : decode cX7_counts 433 = .ok (.iload 7, 2) := jo_21 (jw2 jdcX7_counts_256 3 rfl rfl)
theorem dX7_counts_435 : decode cX7_counts 435 = .ok (.ifCond .le 18, 3) := jo_158 (a := 0) (b := 18) (jw3 jdcX7_counts_256 5 rfl rfl) rfl
theorem dX7_counts_438 : decode cX7_counts 438 = .ok (.aload_n 0, 1) := jo_42 (jw1 jdcX7_counts_256 8 rfl rfl)
theorem dX7_counts_439 : decode cX7_counts 439 = .ok (.getfield 58, 3) := jo_180 (a := 0) (b := 58) (jw3 jdcX7_counts_256 9 rfl rfl) rfl
theorem dX7_counts_442 : decode cX7_counts 442 = .ok (.iload_n 2, 1) := jo_28 (jw1 jdcX7_counts_256 12 rfl rfl)
theorem dX7_counts_443 : decode cX7_counts 443 = .ok (.iaload, 1) := jo_46 (jw1 jdcX7_counts_256 13 rfl rfl)
theorem dX7_counts_444 : decode cX7_counts 444 = .ok (.iload 7, 2) := jo_21 (jw2 jdcX7_counts_256 14 rfl rfl)
theorem dX7_counts_446 : decode cX7_counts 446 = .ok (.if_icmp .ne 7, 3) := jo_160 (a := 0) (b := 7) (jw3 jdcX7_counts_256 16 rfl rfl) rfl
theorem dX7_counts_449 : decode cX7_counts 449 = .ok (.iconst 1, 1) := jo_4 (jw1 jdcX7_counts_256 19 rfl rfl)
theorem dX7_counts_450 : decode cX7_counts 450 = .ok (.goto 4, 3) := jo_167 (a := 0) (b := 4) (jw3 jdcX7_counts_256 20 rfl rfl) rfl
theorem dX7_counts_453 : decode cX7_counts 453 = .ok (.iconst 0, 1) := jo_3 (jw1 jdcX7_counts_256 23 rfl rfl)
theorem dX7_counts_454 : decode cX7_counts 454 = .ok (.iadd, 1) := jo_96 (jw1 jdcX7_counts_256 24 rfl rfl)
theorem dX7_counts_455 : decode cX7_counts 455 = .ok (.iastore, 1) := jo_79 (jw1 jdcX7_counts_256 25 rfl rfl)
theorem jdcX7_counts_272 : jwk (cX7_counts.data.toList.drop 456) [167, 0, 29, 132, 5, 1, 42, 180, 0, 19, 21, 5, 2, 79, 42, 180, 0, 55, 21, 7, 21, 8, 21, 9, 184, 0, 177, 4, 84, 167, 254, 119] = true := by decide +kernel
theorem dX7_counts_456 : decode cX7_counts 456 = .ok (.goto 29, 3) := jo_167 (a := 0) (b := 29) (jw3 jdcX7_counts_272 0 rfl rfl) rfl
theorem dX7_counts_459 : decode cX7_counts 459 = .ok (.iinc 5 1, 3) := jo_132 (a := 5) (b := 1) (jw3 jdcX7_counts_272 3 rfl rfl) rfl
theorem dX7_counts_462 : decode cX7_counts 462 = .ok (.aload_n 0, 1) := jo_42 (jw1 jdcX7_counts_272 6 rfl rfl)
theorem dX7_counts_463 : decode cX7_counts 463 = .ok (.getfield 19, 3) := jo_180 (a := 0) (b := 19) (jw3 jdcX7_counts_272 7 rfl rfl) rfl
theorem dX7_counts_466 : decode cX7_counts 466 = .ok (.iload 5, 2) := jo_21 (jw2 jdcX7_counts_272 10 rfl rfl)
theorem dX7_counts_468 : decode cX7_counts 468 = .ok (.iconst (-1), 1) := jo_2 (jw1 jdcX7_counts_272 12 rfl rfl)
theorem dX7_counts_469 : decode cX7_counts 469 = .ok (.iastore, 1) := jo_79 (jw1 jdcX7_counts_272 13 rfl rfl)
theorem dX7_counts_470 : decode cX7_counts 470 = .ok (.aload_n 0, 1) := jo_42 (jw1 jdcX7_counts_272 14 rfl rfl)
theorem dX7_counts_471 : decode cX7_counts 471 = .ok (.getfield 55, 3) := jo_180 (a := 0) (b := 55) (jw3 jdcX7_counts_272 15 rfl rfl) rfl
theorem dX7_counts_474 : decode cX7_counts 474 = .ok (.iload 7, 2) := jo_21 (jw2 jdcX7_counts_272 18 rfl rfl)
theorem dX7_counts_476 : decode cX7_counts 476 = .ok (.iload 8, 2) := jo_21 (jw2 jdcX7_counts_272 20 rfl rfl)
theorem dX7_counts_478 : decode cX7_counts 478 = .ok (.iload 9, 2) := jo_21 (jw2 jdcX7_counts_272 22 rfl rfl)
theorem dX7_counts_480 : decode cX7_counts 480 = .ok (.invokestatic 177, 3) := jo_184 (a := 0) (b := 177) (jw3 jdcX7_counts_272 24 rfl rfl) rfl
theorem dX7_counts_483 : decode cX7_counts 483 = .ok (.iconst 1, 1) := jo_4 (jw1 jdcX7_counts_272 27 rfl rfl)
theorem dX7_counts_484 : decode cX7_counts 484 = .ok (.bastore, 1) := jo_84 (jw1 jdcX7_counts_272 28 rfl rfl)
theorem dX7_counts_485 : decode cX7_counts 485 = .ok (.goto (-393), 3) := jo_167 (a := 254) (b := 119) (jw3 jdcX7_counts_272 29 rfl rfl) rfl
theorem jdcX7_counts_288 : jwk (cX7_counts.data.toList.drop 488) [42, 180, 0, 55, 3, 3, 3, 184, 0, 177, 3, 84, 177] = true := by decide +kernel
theorem dX7_counts_488 : decode cX7_counts 488 = .ok (.aload_n 0, 1) := jo_42 (jw1 jdcX7_counts_288 0 rfl rfl)
theorem dX7_counts_489 : decode cX7_counts 489 = .ok (.getfield 55, 3) := jo_180 (a := 0) (b := 55) (jw3 jdcX7_counts_288 1 rfl rfl) rfl
theorem dX7_counts_492 : decode cX7_counts 492 = .ok (.iconst 0, 1) := jo_3 (jw1 jdcX7_counts_288 4 rfl rfl)
theorem dX7_counts_493 : decode cX7_counts 493 = .ok (.iconst 0, 1) := jo_3 (jw1 jdcX7_counts_288 5 rfl rfl)
theorem dX7_counts_494 : decode cX7_counts 494 = .ok (.iconst 0, 1) := jo_3 (jw1 jdcX7_counts_288 6 rfl rfl)
theorem dX7_counts_495 : decode cX7_counts 495 = .ok (.invokestatic 177, 3) := jo_184 (a := 0) (b := 177) (jw3 jdcX7_counts_288 7 rfl rfl) rfl
theorem dX7_counts_498 : decode cX7_counts 498 = .ok (.iconst 0, 1) := jo_3 (jw1 jdcX7_counts_288 10 rfl rfl)
theorem dX7_counts_499 : decode cX7_counts 499 = .ok (.bastore, 1) := jo_84 (jw1 jdcX7_counts_288 11 rfl rfl)
theorem dX7_counts_500 : decode cX7_counts 500 = .ok (.return_, 1) := jo_177 (jw1 jdcX7_counts_288 12 rfl rfl)
theorem jdcX7_forgets_0 : jwk (cX7_forgets.data.toList.drop 0) [3, 61, 28, 27, 163, 0, 36, 42, 180, 0, 55, 42, 180, 0, 22, 28, 46, 42, 180, 0, 25, 28, 46, 42] = true := by decide +kernel
theorem dX7_forgets_0 : decode cX7_forgets 0 = .ok (.iconst 0, 1) := jo_3 (jw1 jdcX7_forgets_0 0 rfl rfl)
theorem dX7_forgets_1 : decode cX7_forgets 1 = .ok (.istore_n 2, 1) := jo_61 (jw1 jdcX7_forgets_0 1 rfl rfl)
theorem dX7_forgets_2 : decode cX7_forgets 2 = .ok (.iload_n 2, 1) := jo_28 (jw1 jdcX7_forgets_0 2 rfl rfl)
theorem dX7_forgets_3 : decode cX7_forgets 3 = .ok (.iload_n 1, 1) := jo_27 (jw1 jdcX7_forgets_0 3 rfl rfl)
theorem dX7_forgets_4 : decode cX7_forgets 4 = .ok (.if_icmp .gt 36, 3) := jo_163 (a := 0) (b := 36) (jw3 jdcX7_forgets_0 4 rfl rfl) rfl
theorem dX7_forgets_7 : decode cX7_forgets 7 = .ok (.aload_n 0, 1) := jo_42 (jw1 jdcX7_forgets_0 7 rfl rfl)
theorem dX7_forgets_8 : decode cX7_forgets 8 = .ok (.getfield 55, 3) := jo_180 (a := 0) (b := 55) (jw3 jdcX7_forgets_0 8 rfl rfl) rfl
theorem dX7_forgets_11 : decode cX7_forgets 11 = .ok (.aload_n 0, 1) := jo_42 (jw1 jdcX7_forgets_0 11 rfl rfl)
theorem dX7_forgets_12 : decode cX7_forgets 12 = .ok (.getfield 22, 3) := jo_180 (a := 0) (b := 22) (jw3 jdcX7_forgets_0 12 rfl rfl) rfl
theorem dX7_forgets_15 : decode cX7_forgets 15 = .ok (.iload_n 2, 1) := jo_28 (jw1 jdcX7_forgets_0 15 rfl rfl)
theorem dX7_forgets_16 : decode cX7_forgets 16 = .ok (.iaload, 1) := jo_46 (jw1 jdcX7_forgets_0 16 rfl rfl)
theorem dX7_forgets_17 : decode cX7_forgets 17 = .ok (.aload_n 0, 1) := jo_42 (jw1 jdcX7_forgets_0 17 rfl rfl)
theorem dX7_forgets_18 : decode cX7_forgets 18 = .ok (.getfield 25, 3) := jo_180 (a := 0) (b := 25) (jw3 jdcX7_forgets_0 18 rfl rfl) rfl
theorem dX7_forgets_21 : decode cX7_forgets 21 = .ok (.iload_n 2, 1) := jo_28 (jw1 jdcX7_forgets_0 21 rfl rfl)
theorem dX7_forgets_22 : decode cX7_forgets 22 = .ok (.iaload, 1) := jo_46 (jw1 jdcX7_forgets_0 22 rfl rfl)
theorem dX7_forgets_23 : decode cX7_forgets 23 = .ok (.aload_n 0, 1) := jo_42 (jw1 jdcX7_forgets_0 23 rfl rfl)
theorem jdcX7_forgets_16 : jwk (cX7_forgets.data.toList.drop 24) [180, 0, 28, 28, 46, 184, 0, 177, 3, 84, 132, 2, 1, 167, 255, 221, 177] = true := by decide +kernel
theorem dX7_forgets_24 : decode cX7_forgets 24 = .ok (.getfield 28, 3) := jo_180 (a := 0) (b := 28) (jw3 jdcX7_forgets_16 0 rfl rfl) rfl
theorem dX7_forgets_27 : decode cX7_forgets 27 = .ok (.iload_n 2, 1) := jo_28 (jw1 jdcX7_forgets_16 3 rfl rfl)
theorem dX7_forgets_28 : decode cX7_forgets 28 = .ok (.iaload, 1) := jo_46 (jw1 jdcX7_forgets_16 4 rfl rfl)
theorem dX7_forgets_29 : decode cX7_forgets 29 = .ok (.invokestatic 177, 3) := jo_184 (a := 0) (b := 177) (jw3 jdcX7_forgets_16 5 rfl rfl) rfl
theorem dX7_forgets_32 : decode cX7_forgets 32 = .ok (.iconst 0, 1) := jo_3 (jw1 jdcX7_forgets_16 8 rfl rfl)
theorem dX7_forgets_33 : decode cX7_forgets 33 = .ok (.bastore, 1) := jo_84 (jw1 jdcX7_forgets_16 9 rfl rfl)
theorem dX7_forgets_34 : decode cX7_forgets 34 = .ok (.iinc 2 1, 3) := jo_132 (a := 2) (b := 1) (jw3 jdcX7_forgets_16 10 rfl rfl) rfl
theorem dX7_forgets_37 : decode cX7_forgets 37 = .ok (.goto (-35), 3) := jo_167 (a := 255) (b := 221) (jw3 jdcX7_forgets_16 13 rfl rfl) rfl
theorem dX7_forgets_40 : decode cX7_forgets 40 = .ok (.return_, 1) := jo_177 (jw1 jdcX7_forgets_16 16 rfl rfl)
theorem jdcX7_isGround_0 : jwk (cX7_isGround.data.toList.drop 0) [26, 3, 6, 184, 0, 105, 172] = true := by decide +kernel
theorem dX7_isGround_0 : decode cX7_isGround 0 = .ok (.iload_n 0, 1) := jo_26 (jw1 jdcX7_isGround_0 0 rfl rfl)
theorem dX7_isGround_1 : decode cX7_isGround 1 = .ok (.iconst 0, 1) := jo_3 (jw1 jdcX7_isGround_0 1 rfl rfl)
theorem dX7_isGround_2 : decode cX7_isGround 2 = .ok (.iconst 3, 1) := jo_6 (jw1 jdcX7_isGround_0 2 rfl rfl)
theorem dX7_isGround_3 : decode cX7_isGround 3 = .ok (.invokestatic 105, 3) := jo_184 (a := 0) (b := 105) (jw3 jdcX7_isGround_0 3 rfl rfl) rfl
theorem dX7_isGround_6 : decode cX7_isGround 6 = .ok (.ireturn, 1) := jo_172 (jw1 jdcX7_isGround_0 6 rfl rfl)
theorem jdcX7_walks_0 : jwk (cX7_walks.data.toList.drop 0) [27, 184, 0, 184, 153, 0, 13, 28, 3, 16, 20, 184, 0, 105, 154, 0, 6, 16, 254, 172, 42, 27, 28, 182, 0, 187, 42, 180, 0, 41] = true := by decide +kernel
theorem dX7_walks_0 : decode cX7_walks 0 = .ok (.iload_n 1, 1) := jo_27 (jw1 jdcX7_walks_0 0 rfl rfl)
theorem dX7_walks_1 : decode cX7_walks 1 = .ok (.invokestatic 184, 3) := jo_184 (a := 0) (b := 184) (jw3 jdcX7_walks_0 1 rfl rfl) rfl
theorem dX7_walks_4 : decode cX7_walks 4 = .ok (.ifCond .eq 13, 3) := jo_153 (a := 0) (b := 13) (jw3 jdcX7_walks_0 4 rfl rfl) rfl
theorem dX7_walks_7 : decode cX7_walks 7 = .ok (.iload_n 2, 1) := jo_28 (jw1 jdcX7_walks_0 7 rfl rfl)
theorem dX7_walks_8 : decode cX7_walks 8 = .ok (.iconst 0, 1) := jo_3 (jw1 jdcX7_walks_0 8 rfl rfl)
theorem dX7_walks_9 : decode cX7_walks 9 = .ok (.bipush 20, 2) := jo_16 (a := 20) (jw2 jdcX7_walks_0 9 rfl rfl) rfl
theorem dX7_walks_11 : decode cX7_walks 11 = .ok (.invokestatic 105, 3) := jo_184 (a := 0) (b := 105) (jw3 jdcX7_walks_0 11 rfl rfl) rfl
theorem dX7_walks_14 : decode cX7_walks 14 = .ok (.ifCond .ne 6, 3) := jo_154 (a := 0) (b := 6) (jw3 jdcX7_walks_0 14 rfl rfl) rfl
theorem dX7_walks_17 : decode cX7_walks 17 = .ok (.bipush (-2), 2) := jo_16 (a := 254) (jw2 jdcX7_walks_0 17 rfl rfl) rfl
theorem dX7_walks_19 : decode cX7_walks 19 = .ok (.ireturn, 1) := jo_172 (jw1 jdcX7_walks_0 19 rfl rfl)
theorem dX7_walks_20 : decode cX7_walks 20 = .ok (.aload_n 0, 1) := jo_42 (jw1 jdcX7_walks_0 20 rfl rfl)
theorem dX7_walks_21 : decode cX7_walks 21 = .ok (.iload_n 1, 1) := jo_27 (jw1 jdcX7_walks_0 21 rfl rfl)
theorem dX7_walks_22 : decode cX7_walks 22 = .ok (.iload_n 2, 1) := jo_28 (jw1 jdcX7_walks_0 22 rfl rfl)
theorem dX7_walks_23 : decode cX7_walks 23 = .ok (.invokevirtual 187, 3) := jo_182 (a := 0) (b := 187) (jw3 jdcX7_walks_0 23 rfl rfl) rfl
theorem dX7_walks_26 : decode cX7_walks 26 = .ok (.aload_n 0, 1) := jo_42 (jw1 jdcX7_walks_0 26 rfl rfl)
theorem dX7_walks_27 : decode cX7_walks 27 = .ok (.getfield 41, 3) := jo_180 (a := 0) (b := 41) (jw3 jdcX7_walks_0 27 rfl rfl) rfl
theorem jdcX7_walks_16 : jwk (cX7_walks.data.toList.drop 30) [16, 21, 27, 104, 28, 96, 46, 172] = true := by decide +kernel
theorem dX7_walks_30 : decode cX7_walks 30 = .ok (.bipush 21, 2) := jo_16 (a := 21) (jw2 jdcX7_walks_16 0 rfl rfl) rfl
theorem dX7_walks_32 : decode cX7_walks 32 = .ok (.iload_n 1, 1) := jo_27 (jw1 jdcX7_walks_16 2 rfl rfl)
theorem dX7_walks_33 : decode cX7_walks 33 = .ok (.imul, 1) := jo_104 (jw1 jdcX7_walks_16 3 rfl rfl)
theorem dX7_walks_34 : decode cX7_walks 34 = .ok (.iload_n 2, 1) := jo_28 (jw1 jdcX7_walks_16 4 rfl rfl)
theorem dX7_walks_35 : decode cX7_walks 35 = .ok (.iadd, 1) := jo_96 (jw1 jdcX7_walks_16 5 rfl rfl)
theorem dX7_walks_36 : decode cX7_walks 36 = .ok (.iaload, 1) := jo_46 (jw1 jdcX7_walks_16 6 rfl rfl)
theorem dX7_walks_37 : decode cX7_walks 37 = .ok (.ireturn, 1) := jo_172 (jw1 jdcX7_walks_16 7 rfl rfl)
theorem jdcX7_squares_0 : jwk (cX7_squares.data.toList.drop 0) [27, 184, 0, 184, 153, 0, 13, 28, 3, 16, 20, 184, 0, 105, 154, 0, 7, 20, 0, 191, 173, 42, 27, 28, 182, 0, 187, 42, 180, 0, 41] = true := by decide +kernel
theorem dX7_squares_0 : decode cX7_squares 0 = .ok (.iload_n 1, 1) := jo_27 (jw1 jdcX7_squares_0 0 rfl rfl)
theorem dX7_squares_1 : decode cX7_squares 1 = .ok (.invokestatic 184, 3) := jo_184 (a := 0) (b := 184) (jw3 jdcX7_squares_0 1 rfl rfl) rfl
theorem dX7_squares_4 : decode cX7_squares 4 = .ok (.ifCond .eq 13, 3) := jo_153 (a := 0) (b := 13) (jw3 jdcX7_squares_0 4 rfl rfl) rfl
theorem dX7_squares_7 : decode cX7_squares 7 = .ok (.iload_n 2, 1) := jo_28 (jw1 jdcX7_squares_0 7 rfl rfl)
theorem dX7_squares_8 : decode cX7_squares 8 = .ok (.iconst 0, 1) := jo_3 (jw1 jdcX7_squares_0 8 rfl rfl)
theorem dX7_squares_9 : decode cX7_squares 9 = .ok (.bipush 20, 2) := jo_16 (a := 20) (jw2 jdcX7_squares_0 9 rfl rfl) rfl
theorem dX7_squares_11 : decode cX7_squares 11 = .ok (.invokestatic 105, 3) := jo_184 (a := 0) (b := 105) (jw3 jdcX7_squares_0 11 rfl rfl) rfl
theorem dX7_squares_14 : decode cX7_squares 14 = .ok (.ifCond .ne 7, 3) := jo_154 (a := 0) (b := 7) (jw3 jdcX7_squares_0 14 rfl rfl) rfl
theorem dX7_squares_17 : decode cX7_squares 17 = .ok (.ldc2_w 191, 3) := jo_20 (a := 0) (b := 191) (jw3 jdcX7_squares_0 17 rfl rfl) rfl
theorem dX7_squares_20 : decode cX7_squares 20 = .ok (.lreturn, 1) := jo_173 (jw1 jdcX7_squares_0 20 rfl rfl)
theorem dX7_squares_21 : decode cX7_squares 21 = .ok (.aload_n 0, 1) := jo_42 (jw1 jdcX7_squares_0 21 rfl rfl)
theorem dX7_squares_22 : decode cX7_squares 22 = .ok (.iload_n 1, 1) := jo_27 (jw1 jdcX7_squares_0 22 rfl rfl)
theorem dX7_squares_23 : decode cX7_squares 23 = .ok (.iload_n 2, 1) := jo_28 (jw1 jdcX7_squares_0 23 rfl rfl)
theorem dX7_squares_24 : decode cX7_squares 24 = .ok (.invokevirtual 187, 3) := jo_182 (a := 0) (b := 187) (jw3 jdcX7_squares_0 24 rfl rfl) rfl
theorem dX7_squares_27 : decode cX7_squares 27 = .ok (.aload_n 0, 1) := jo_42 (jw1 jdcX7_squares_0 27 rfl rfl)
theorem dX7_squares_28 : decode cX7_squares 28 = .ok (.getfield 41, 3) := jo_180 (a := 0) (b := 41) (jw3 jdcX7_squares_0 28 rfl rfl) rfl
theorem jdcX7_squares_16 : jwk (cX7_squares.data.toList.drop 31) [16, 21, 27, 104, 28, 96, 46, 16, 251, 160, 0, 9, 20, 0, 193, 167, 0, 14, 42, 180, 0, 44, 16, 21, 27, 104, 28] = true := by decide +kernel
theorem dX7_squares_31 : decode cX7_squares 31 = .ok (.bipush 21, 2) := jo_16 (a := 21) (jw2 jdcX7_squares_16 0 rfl rfl) rfl
theorem dX7_squares_33 : decode cX7_squares 33 = .ok (.iload_n 1, 1) := jo_27 (jw1 jdcX7_squares_16 2 rfl rfl)
theorem dX7_squares_34 : decode cX7_squares 34 = .ok (.imul, 1) := jo_104 (jw1 jdcX7_squares_16 3 rfl rfl)
theorem dX7_squares_35 : decode cX7_squares 35 = .ok (.iload_n 2, 1) := jo_28 (jw1 jdcX7_squares_16 4 rfl rfl)
theorem dX7_squares_36 : decode cX7_squares 36 = .ok (.iadd, 1) := jo_96 (jw1 jdcX7_squares_16 5 rfl rfl)
theorem dX7_squares_37 : decode cX7_squares 37 = .ok (.iaload, 1) := jo_46 (jw1 jdcX7_squares_16 6 rfl rfl)
theorem dX7_squares_38 : decode cX7_squares 38 = .ok (.bipush (-5), 2) := jo_16 (a := 251) (jw2 jdcX7_squares_16 7 rfl rfl) rfl
theorem dX7_squares_40 : decode cX7_squares 40 = .ok (.if_icmp .ne 9, 3) := jo_160 (a := 0) (b := 9) (jw3 jdcX7_squares_16 9 rfl rfl) rfl
theorem dX7_squares_43 : decode cX7_squares 43 = .ok (.ldc2_w 193, 3) := jo_20 (a := 0) (b := 193) (jw3 jdcX7_squares_16 12 rfl rfl) rfl
theorem dX7_squares_46 : decode cX7_squares 46 = .ok (.goto 14, 3) := jo_167 (a := 0) (b := 14) (jw3 jdcX7_squares_16 15 rfl rfl) rfl
theorem dX7_squares_49 : decode cX7_squares 49 = .ok (.aload_n 0, 1) := jo_42 (jw1 jdcX7_squares_16 18 rfl rfl)
theorem dX7_squares_50 : decode cX7_squares 50 = .ok (.getfield 44, 3) := jo_180 (a := 0) (b := 44) (jw3 jdcX7_squares_16 19 rfl rfl) rfl
theorem dX7_squares_53 : decode cX7_squares 53 = .ok (.bipush 21, 2) := jo_16 (a := 21) (jw2 jdcX7_squares_16 22 rfl rfl) rfl
theorem dX7_squares_55 : decode cX7_squares 55 = .ok (.iload_n 1, 1) := jo_27 (jw1 jdcX7_squares_16 24 rfl rfl)
theorem dX7_squares_56 : decode cX7_squares 56 = .ok (.imul, 1) := jo_104 (jw1 jdcX7_squares_16 25 rfl rfl)
theorem dX7_squares_57 : decode cX7_squares 57 = .ok (.iload_n 2, 1) := jo_28 (jw1 jdcX7_squares_16 26 rfl rfl)
theorem jdcX7_squares_32 : jwk (cX7_squares.data.toList.drop 58) [96, 47, 173] = true := by decide +kernel
theorem dX7_squares_58 : decode cX7_squares 58 = .ok (.iadd, 1) := jo_96 (jw1 jdcX7_squares_32 0 rfl rfl)
theorem dX7_squares_59 : decode cX7_squares 59 = .ok (.laload, 1) := jo_47 (jw1 jdcX7_squares_32 1 rfl rfl)
theorem dX7_squares_60 : decode cX7_squares 60 = .ok (.lreturn, 1) := jo_173 (jw1 jdcX7_squares_32 2 rfl rfl)
theorem jdcX7_rings_0 : jwk (cX7_rings.data.toList.drop 0) [27, 184, 0, 184, 153, 0, 13, 28, 6, 16, 20, 184, 0, 105, 154, 0, 6, 16, 254, 172, 42, 27, 28, 4, 100, 182, 0, 187] = true := by decide +kernel
theorem dX7_rings_0 : decode cX7_rings 0 = .ok (.iload_n 1, 1) := jo_27 (jw1 jdcX7_rings_0 0 rfl rfl)
theorem dX7_rings_1 : decode cX7_rings 1 = .ok (.invokestatic 184, 3) := jo_184 (a := 0) (b := 184) (jw3 jdcX7_rings_0 1 rfl rfl) rfl
theorem dX7_rings_4 : decode cX7_rings 4 = .ok (.ifCond .eq 13, 3) := jo_153 (a := 0) (b := 13) (jw3 jdcX7_rings_0 4 rfl rfl) rfl
theorem dX7_rings_7 : decode cX7_rings 7 = .ok (.iload_n 2, 1) := jo_28 (jw1 jdcX7_rings_0 7 rfl rfl)
theorem dX7_rings_8 : decode cX7_rings 8 = .ok (.iconst 3, 1) := jo_6 (jw1 jdcX7_rings_0 8 rfl rfl)
theorem dX7_rings_9 : decode cX7_rings 9 = .ok (.bipush 20, 2) := jo_16 (a := 20) (jw2 jdcX7_rings_0 9 rfl rfl) rfl
theorem dX7_rings_11 : decode cX7_rings 11 = .ok (.invokestatic 105, 3) := jo_184 (a := 0) (b := 105) (jw3 jdcX7_rings_0 11 rfl rfl) rfl
theorem dX7_rings_14 : decode cX7_rings 14 = .ok (.ifCond .ne 6, 3) := jo_154 (a := 0) (b := 6) (jw3 jdcX7_rings_0 14 rfl rfl) rfl
theorem dX7_rings_17 : decode cX7_rings 17 = .ok (.bipush (-2), 2) := jo_16 (a := 254) (jw2 jdcX7_rings_0 17 rfl rfl) rfl
theorem dX7_rings_19 : decode cX7_rings 19 = .ok (.ireturn, 1) := jo_172 (jw1 jdcX7_rings_0 19 rfl rfl)
theorem dX7_rings_20 : decode cX7_rings 20 = .ok (.aload_n 0, 1) := jo_42 (jw1 jdcX7_rings_0 20 rfl rfl)
theorem dX7_rings_21 : decode cX7_rings 21 = .ok (.iload_n 1, 1) := jo_27 (jw1 jdcX7_rings_0 21 rfl rfl)
theorem dX7_rings_22 : decode cX7_rings 22 = .ok (.iload_n 2, 1) := jo_28 (jw1 jdcX7_rings_0 22 rfl rfl)
theorem dX7_rings_23 : decode cX7_rings 23 = .ok (.iconst 1, 1) := jo_4 (jw1 jdcX7_rings_0 23 rfl rfl)
theorem dX7_rings_24 : decode cX7_rings 24 = .ok (.isub, 1) := jo_100 (jw1 jdcX7_rings_0 24 rfl rfl)
theorem dX7_rings_25 : decode cX7_rings 25 = .ok (.invokevirtual 187, 3) := jo_182 (a := 0) (b := 187) (jw3 jdcX7_rings_0 25 rfl rfl) rfl
theorem jdcX7_rings_16 : jwk (cX7_rings.data.toList.drop 28) [42, 180, 0, 41, 16, 21, 27, 104, 28, 96, 4, 100, 46, 16, 251, 160, 0, 8, 16, 251, 167, 0, 16, 42, 180, 0, 48] = true := by decide +kernel
theorem dX7_rings_28 : decode cX7_rings 28 = .ok (.aload_n 0, 1) := jo_42 (jw1 jdcX7_rings_16 0 rfl rfl)
theorem dX7_rings_29 : decode cX7_rings 29 = .ok (.getfield 41, 3) := jo_180 (a := 0) (b := 41) (jw3 jdcX7_rings_16 1 rfl rfl) rfl
theorem dX7_rings_32 : decode cX7_rings 32 = .ok (.bipush 21, 2) := jo_16 (a := 21) (jw2 jdcX7_rings_16 4 rfl rfl) rfl
theorem dX7_rings_34 : decode cX7_rings 34 = .ok (.iload_n 1, 1) := jo_27 (jw1 jdcX7_rings_16 6 rfl rfl)
theorem dX7_rings_35 : decode cX7_rings 35 = .ok (.imul, 1) := jo_104 (jw1 jdcX7_rings_16 7 rfl rfl)
theorem dX7_rings_36 : decode cX7_rings 36 = .ok (.iload_n 2, 1) := jo_28 (jw1 jdcX7_rings_16 8 rfl rfl)
theorem dX7_rings_37 : decode cX7_rings 37 = .ok (.iadd, 1) := jo_96 (jw1 jdcX7_rings_16 9 rfl rfl)
theorem dX7_rings_38 : decode cX7_rings 38 = .ok (.iconst 1, 1) := jo_4 (jw1 jdcX7_rings_16 10 rfl rfl)
theorem dX7_rings_39 : decode cX7_rings 39 = .ok (.isub, 1) := jo_100 (jw1 jdcX7_rings_16 11 rfl rfl)
theorem dX7_rings_40 : decode cX7_rings 40 = .ok (.iaload, 1) := jo_46 (jw1 jdcX7_rings_16 12 rfl rfl)
theorem dX7_rings_41 : decode cX7_rings 41 = .ok (.bipush (-5), 2) := jo_16 (a := 251) (jw2 jdcX7_rings_16 13 rfl rfl) rfl
theorem dX7_rings_43 : decode cX7_rings 43 = .ok (.if_icmp .ne 8, 3) := jo_160 (a := 0) (b := 8) (jw3 jdcX7_rings_16 15 rfl rfl) rfl
theorem dX7_rings_46 : decode cX7_rings 46 = .ok (.bipush (-5), 2) := jo_16 (a := 251) (jw2 jdcX7_rings_16 18 rfl rfl) rfl
theorem dX7_rings_48 : decode cX7_rings 48 = .ok (.goto 16, 3) := jo_167 (a := 0) (b := 16) (jw3 jdcX7_rings_16 20 rfl rfl) rfl
theorem dX7_rings_51 : decode cX7_rings 51 = .ok (.aload_n 0, 1) := jo_42 (jw1 jdcX7_rings_16 23 rfl rfl)
theorem dX7_rings_52 : decode cX7_rings 52 = .ok (.getfield 48, 3) := jo_180 (a := 0) (b := 48) (jw3 jdcX7_rings_16 24 rfl rfl) rfl
theorem jdcX7_rings_32 : jwk (cX7_rings.data.toList.drop 55) [16, 21, 27, 104, 28, 96, 4, 100, 46, 172] = true := by decide +kernel
theorem dX7_rings_55 : decode cX7_rings 55 = .ok (.bipush 21, 2) := jo_16 (a := 21) (jw2 jdcX7_rings_32 0 rfl rfl) rfl
theorem dX7_rings_57 : decode cX7_rings 57 = .ok (.iload_n 1, 1) := jo_27 (jw1 jdcX7_rings_32 2 rfl rfl)
theorem dX7_rings_58 : decode cX7_rings 58 = .ok (.imul, 1) := jo_104 (jw1 jdcX7_rings_32 3 rfl rfl)
theorem dX7_rings_59 : decode cX7_rings 59 = .ok (.iload_n 2, 1) := jo_28 (jw1 jdcX7_rings_32 4 rfl rfl)
theorem dX7_rings_60 : decode cX7_rings 60 = .ok (.iadd, 1) := jo_96 (jw1 jdcX7_rings_32 5 rfl rfl)
theorem dX7_rings_61 : decode cX7_rings 61 = .ok (.iconst 1, 1) := jo_4 (jw1 jdcX7_rings_32 6 rfl rfl)
theorem dX7_rings_62 : decode cX7_rings 62 = .ok (.isub, 1) := jo_100 (jw1 jdcX7_rings_32 7 rfl rfl)
theorem dX7_rings_63 : decode cX7_rings 63 = .ok (.iaload, 1) := jo_46 (jw1 jdcX7_rings_32 8 rfl rfl)
theorem dX7_rings_64 : decode cX7_rings 64 = .ok (.ireturn, 1) := jo_172 (jw1 jdcX7_rings_32 9 rfl rfl)
theorem jdcX7_bridges_0 : jwk (cX7_bridges.data.toList.drop 0) [27, 184, 0, 184, 153, 0, 13, 28, 4, 16, 20, 184, 0, 105, 154, 0, 6, 16, 254, 172, 42, 27, 28, 182, 0, 187, 42, 180, 0, 41] = true := by decide +kernel
theorem dX7_bridges_0 : decode cX7_bridges 0 = .ok (.iload_n 1, 1) := jo_27 (jw1 jdcX7_bridges_0 0 rfl rfl)
theorem dX7_bridges_1 : decode cX7_bridges 1 = .ok (.invokestatic 184, 3) := jo_184 (a := 0) (b := 184) (jw3 jdcX7_bridges_0 1 rfl rfl) rfl
theorem dX7_bridges_4 : decode cX7_bridges 4 = .ok (.ifCond .eq 13, 3) := jo_153 (a := 0) (b := 13) (jw3 jdcX7_bridges_0 4 rfl rfl) rfl
theorem dX7_bridges_7 : decode cX7_bridges 7 = .ok (.iload_n 2, 1) := jo_28 (jw1 jdcX7_bridges_0 7 rfl rfl)
theorem dX7_bridges_8 : decode cX7_bridges 8 = .ok (.iconst 1, 1) := jo_4 (jw1 jdcX7_bridges_0 8 rfl rfl)
theorem dX7_bridges_9 : decode cX7_bridges 9 = .ok (.bipush 20, 2) := jo_16 (a := 20) (jw2 jdcX7_bridges_0 9 rfl rfl) rfl
theorem dX7_bridges_11 : decode cX7_bridges 11 = .ok (.invokestatic 105, 3) := jo_184 (a := 0) (b := 105) (jw3 jdcX7_bridges_0 11 rfl rfl) rfl
theorem dX7_bridges_14 : decode cX7_bridges 14 = .ok (.ifCond .ne 6, 3) := jo_154 (a := 0) (b := 6) (jw3 jdcX7_bridges_0 14 rfl rfl) rfl
theorem dX7_bridges_17 : decode cX7_bridges 17 = .ok (.bipush (-2), 2) := jo_16 (a := 254) (jw2 jdcX7_bridges_0 17 rfl rfl) rfl
theorem dX7_bridges_19 : decode cX7_bridges 19 = .ok (.ireturn, 1) := jo_172 (jw1 jdcX7_bridges_0 19 rfl rfl)
theorem dX7_bridges_20 : decode cX7_bridges 20 = .ok (.aload_n 0, 1) := jo_42 (jw1 jdcX7_bridges_0 20 rfl rfl)
theorem dX7_bridges_21 : decode cX7_bridges 21 = .ok (.iload_n 1, 1) := jo_27 (jw1 jdcX7_bridges_0 21 rfl rfl)
theorem dX7_bridges_22 : decode cX7_bridges 22 = .ok (.iload_n 2, 1) := jo_28 (jw1 jdcX7_bridges_0 22 rfl rfl)
theorem dX7_bridges_23 : decode cX7_bridges 23 = .ok (.invokevirtual 187, 3) := jo_182 (a := 0) (b := 187) (jw3 jdcX7_bridges_0 23 rfl rfl) rfl
theorem dX7_bridges_26 : decode cX7_bridges 26 = .ok (.aload_n 0, 1) := jo_42 (jw1 jdcX7_bridges_0 26 rfl rfl)
theorem dX7_bridges_27 : decode cX7_bridges 27 = .ok (.getfield 41, 3) := jo_180 (a := 0) (b := 41) (jw3 jdcX7_bridges_0 27 rfl rfl) rfl
theorem jdcX7_bridges_16 : jwk (cX7_bridges.data.toList.drop 30) [16, 21, 27, 104, 28, 96, 46, 16, 251, 160, 0, 8, 16, 251, 167, 0, 14, 42, 180, 0, 51, 16, 21, 27, 104, 28] = true := by decide +kernel
theorem dX7_bridges_30 : decode cX7_bridges 30 = .ok (.bipush 21, 2) := jo_16 (a := 21) (jw2 jdcX7_bridges_16 0 rfl rfl) rfl
theorem dX7_bridges_32 : decode cX7_bridges 32 = .ok (.iload_n 1, 1) := jo_27 (jw1 jdcX7_bridges_16 2 rfl rfl)
theorem dX7_bridges_33 : decode cX7_bridges 33 = .ok (.imul, 1) := jo_104 (jw1 jdcX7_bridges_16 3 rfl rfl)
theorem dX7_bridges_34 : decode cX7_bridges 34 = .ok (.iload_n 2, 1) := jo_28 (jw1 jdcX7_bridges_16 4 rfl rfl)
theorem dX7_bridges_35 : decode cX7_bridges 35 = .ok (.iadd, 1) := jo_96 (jw1 jdcX7_bridges_16 5 rfl rfl)
theorem dX7_bridges_36 : decode cX7_bridges 36 = .ok (.iaload, 1) := jo_46 (jw1 jdcX7_bridges_16 6 rfl rfl)
theorem dX7_bridges_37 : decode cX7_bridges 37 = .ok (.bipush (-5), 2) := jo_16 (a := 251) (jw2 jdcX7_bridges_16 7 rfl rfl) rfl
theorem dX7_bridges_39 : decode cX7_bridges 39 = .ok (.if_icmp .ne 8, 3) := jo_160 (a := 0) (b := 8) (jw3 jdcX7_bridges_16 9 rfl rfl) rfl
theorem dX7_bridges_42 : decode cX7_bridges 42 = .ok (.bipush (-5), 2) := jo_16 (a := 251) (jw2 jdcX7_bridges_16 12 rfl rfl) rfl
theorem dX7_bridges_44 : decode cX7_bridges 44 = .ok (.goto 14, 3) := jo_167 (a := 0) (b := 14) (jw3 jdcX7_bridges_16 14 rfl rfl) rfl
theorem dX7_bridges_47 : decode cX7_bridges 47 = .ok (.aload_n 0, 1) := jo_42 (jw1 jdcX7_bridges_16 17 rfl rfl)
theorem dX7_bridges_48 : decode cX7_bridges 48 = .ok (.getfield 51, 3) := jo_180 (a := 0) (b := 51) (jw3 jdcX7_bridges_16 18 rfl rfl) rfl
theorem dX7_bridges_51 : decode cX7_bridges 51 = .ok (.bipush 21, 2) := jo_16 (a := 21) (jw2 jdcX7_bridges_16 21 rfl rfl) rfl
theorem dX7_bridges_53 : decode cX7_bridges 53 = .ok (.iload_n 1, 1) := jo_27 (jw1 jdcX7_bridges_16 23 rfl rfl)
theorem dX7_bridges_54 : decode cX7_bridges 54 = .ok (.imul, 1) := jo_104 (jw1 jdcX7_bridges_16 24 rfl rfl)
theorem dX7_bridges_55 : decode cX7_bridges 55 = .ok (.iload_n 2, 1) := jo_28 (jw1 jdcX7_bridges_16 25 rfl rfl)
theorem jdcX7_bridges_32 : jwk (cX7_bridges.data.toList.drop 56) [96, 46, 172] = true := by decide +kernel
theorem dX7_bridges_56 : decode cX7_bridges 56 = .ok (.iadd, 1) := jo_96 (jw1 jdcX7_bridges_32 0 rfl rfl)
theorem dX7_bridges_57 : decode cX7_bridges 57 = .ok (.iaload, 1) := jo_46 (jw1 jdcX7_bridges_32 1 rfl rfl)
theorem dX7_bridges_58 : decode cX7_bridges 58 = .ok (.ireturn, 1) := jo_172 (jw1 jdcX7_bridges_32 2 rfl rfl)
theorem jdcX7_isForm_0 : jwk (cX7_isForm.data.toList.drop 0) [42, 27, 182, 0, 174, 3, 61, 28, 42, 180, 0, 109, 162, 0, 26, 42, 180, 0, 31, 28, 46, 42, 180, 0, 19, 28] = true := by decide +kernel
theorem dX7_isForm_0 : decode cX7_isForm 0 = .ok (.aload_n 0, 1) := jo_42 (jw1 jdcX7_isForm_0 0 rfl rfl)
theorem dX7_isForm_1 : decode cX7_isForm 1 = .ok (.iload_n 1, 1) := jo_27 (jw1 jdcX7_isForm_0 1 rfl rfl)
theorem dX7_isForm_2 : decode cX7_isForm 2 = .ok (.invokevirtual 174, 3) := jo_182 (a := 0) (b := 174) (jw3 jdcX7_isForm_0 2 rfl rfl) rfl
theorem dX7_isForm_5 : decode cX7_isForm 5 = .ok (.iconst 0, 1) := jo_3 (jw1 jdcX7_isForm_0 5 rfl rfl)
theorem dX7_isForm_6 : decode cX7_isForm 6 = .ok (.istore_n 2, 1) := jo_61 (jw1 jdcX7_isForm_0 6 rfl rfl)
theorem dX7_isForm_7 : decode cX7_isForm 7 = .ok (.iload_n 2, 1) := jo_28 (jw1 jdcX7_isForm_0 7 rfl rfl)
theorem dX7_isForm_8 : decode cX7_isForm 8 = .ok (.aload_n 0, 1) := jo_42 (jw1 jdcX7_isForm_0 8 rfl rfl)
theorem dX7_isForm_9 : decode cX7_isForm 9 = .ok (.getfield 109, 3) := jo_180 (a := 0) (b := 109) (jw3 jdcX7_isForm_0 9 rfl rfl) rfl
theorem dX7_isForm_12 : decode cX7_isForm 12 = .ok (.if_icmp .ge 26, 3) := jo_162 (a := 0) (b := 26) (jw3 jdcX7_isForm_0 12 rfl rfl) rfl
theorem dX7_isForm_15 : decode cX7_isForm 15 = .ok (.aload_n 0, 1) := jo_42 (jw1 jdcX7_isForm_0 15 rfl rfl)
theorem dX7_isForm_16 : decode cX7_isForm 16 = .ok (.getfield 31, 3) := jo_180 (a := 0) (b := 31) (jw3 jdcX7_isForm_0 16 rfl rfl) rfl
theorem dX7_isForm_19 : decode cX7_isForm 19 = .ok (.iload_n 2, 1) := jo_28 (jw1 jdcX7_isForm_0 19 rfl rfl)
theorem dX7_isForm_20 : decode cX7_isForm 20 = .ok (.iaload, 1) := jo_46 (jw1 jdcX7_isForm_0 20 rfl rfl)
theorem dX7_isForm_21 : decode cX7_isForm 21 = .ok (.aload_n 0, 1) := jo_42 (jw1 jdcX7_isForm_0 21 rfl rfl)
theorem dX7_isForm_22 : decode cX7_isForm 22 = .ok (.getfield 19, 3) := jo_180 (a := 0) (b := 19) (jw3 jdcX7_isForm_0 22 rfl rfl) rfl
theorem dX7_isForm_25 : decode cX7_isForm 25 = .ok (.iload_n 2, 1) := jo_28 (jw1 jdcX7_isForm_0 25 rfl rfl)
theorem jdcX7_isForm_16 : jwk (cX7_isForm.data.toList.drop 26) [46, 159, 0, 5, 3, 172, 132, 2, 1, 167, 255, 228, 4, 172] = true := by decide +kernel
theorem dX7_isForm_26 : decode cX7_isForm 26 = .ok (.iaload, 1) := jo_46 (jw1 jdcX7_isForm_16 0 rfl rfl)
theorem dX7_isForm_27 : decode cX7_isForm 27 = .ok (.if_icmp .eq 5, 3) := jo_159 (a := 0) (b := 5) (jw3 jdcX7_isForm_16 1 rfl rfl) rfl
theorem dX7_isForm_30 : decode cX7_isForm 30 = .ok (.iconst 0, 1) := jo_3 (jw1 jdcX7_isForm_16 4 rfl rfl)
theorem dX7_isForm_31 : decode cX7_isForm 31 = .ok (.ireturn, 1) := jo_172 (jw1 jdcX7_isForm_16 5 rfl rfl)
theorem dX7_isForm_32 : decode cX7_isForm 32 = .ok (.iinc 2 1, 3) := jo_132 (a := 2) (b := 1) (jw3 jdcX7_isForm_16 6 rfl rfl) rfl
theorem dX7_isForm_35 : decode cX7_isForm 35 = .ok (.goto (-28), 3) := jo_167 (a := 255) (b := 228) (jw3 jdcX7_isForm_16 9 rfl rfl) rfl
theorem dX7_isForm_38 : decode cX7_isForm 38 = .ok (.iconst 1, 1) := jo_4 (jw1 jdcX7_isForm_16 12 rfl rfl)
theorem dX7_isForm_39 : decode cX7_isForm 39 = .ok (.ireturn, 1) := jo_172 (jw1 jdcX7_isForm_16 13 rfl rfl)
theorem jdcX7_power_0 : jwk (cX7_power.data.toList.drop 0) [4, 61, 3, 62, 29, 27, 162, 0, 13, 28, 26, 104, 61, 132, 3, 1, 167, 255, 244, 28, 172] = true := by decide +kernel
theorem dX7_power_0 : decode cX7_power 0 = .ok (.iconst 1, 1) := jo_4 (jw1 jdcX7_power_0 0 rfl rfl)
theorem dX7_power_1 : decode cX7_power 1 = .ok (.istore_n 2, 1) := jo_61 (jw1 jdcX7_power_0 1 rfl rfl)
theorem dX7_power_2 : decode cX7_power 2 = .ok (.iconst 0, 1) := jo_3 (jw1 jdcX7_power_0 2 rfl rfl)
theorem dX7_power_3 : decode cX7_power 3 = .ok (.istore_n 3, 1) := jo_62 (jw1 jdcX7_power_0 3 rfl rfl)
theorem dX7_power_4 : decode cX7_power 4 = .ok (.iload_n 3, 1) := jo_29 (jw1 jdcX7_power_0 4 rfl rfl)
theorem dX7_power_5 : decode cX7_power 5 = .ok (.iload_n 1, 1) := jo_27 (jw1 jdcX7_power_0 5 rfl rfl)
theorem dX7_power_6 : decode cX7_power 6 = .ok (.if_icmp .ge 13, 3) := jo_162 (a := 0) (b := 13) (jw3 jdcX7_power_0 6 rfl rfl) rfl
theorem dX7_power_9 : decode cX7_power 9 = .ok (.iload_n 2, 1) := jo_28 (jw1 jdcX7_power_0 9 rfl rfl)
theorem dX7_power_10 : decode cX7_power 10 = .ok (.iload_n 0, 1) := jo_26 (jw1 jdcX7_power_0 10 rfl rfl)
theorem dX7_power_11 : decode cX7_power 11 = .ok (.imul, 1) := jo_104 (jw1 jdcX7_power_0 11 rfl rfl)
theorem dX7_power_12 : decode cX7_power 12 = .ok (.istore_n 2, 1) := jo_61 (jw1 jdcX7_power_0 12 rfl rfl)
theorem dX7_power_13 : decode cX7_power 13 = .ok (.iinc 3 1, 3) := jo_132 (a := 3) (b := 1) (jw3 jdcX7_power_0 13 rfl rfl) rfl
theorem dX7_power_16 : decode cX7_power 16 = .ok (.goto (-12), 3) := jo_167 (a := 255) (b := 244) (jw3 jdcX7_power_0 16 rfl rfl) rfl
theorem dX7_power_19 : decode cX7_power 19 = .ok (.iload_n 2, 1) := jo_28 (jw1 jdcX7_power_0 19 rfl rfl)
theorem dX7_power_20 : decode cX7_power 20 = .ok (.ireturn, 1) := jo_172 (jw1 jdcX7_power_0 20 rfl rfl)
theorem jdcX7_rowOf_0 : jwk (cX7_rowOf.data.toList.drop 0) [42, 28, 181, 0, 109, 29, 54, 4, 28, 4, 100, 54, 5, 21, 5, 155, 0, 32, 42, 180, 0, 19, 21, 5, 21, 4, 27] = true := by decide +kernel
theorem dX7_rowOf_0 : decode cX7_rowOf 0 = .ok (.aload_n 0, 1) := jo_42 (jw1 jdcX7_rowOf_0 0 rfl rfl)
theorem dX7_rowOf_1 : decode cX7_rowOf 1 = .ok (.iload_n 2, 1) := jo_28 (jw1 jdcX7_rowOf_0 1 rfl rfl)
theorem dX7_rowOf_2 : decode cX7_rowOf 2 = .ok (.putfield 109, 3) := jo_181 (a := 0) (b := 109) (jw3 jdcX7_rowOf_0 2 rfl rfl) rfl
theorem dX7_rowOf_5 : decode cX7_rowOf 5 = .ok (.iload_n 3, 1) := jo_29 (jw1 jdcX7_rowOf_0 5 rfl rfl)
theorem dX7_rowOf_6 : decode cX7_rowOf 6 = .ok (.istore 4, 2) := jo_54 (jw2 jdcX7_rowOf_0 6 rfl rfl)
theorem dX7_rowOf_8 : decode cX7_rowOf 8 = .ok (.iload_n 2, 1) := jo_28 (jw1 jdcX7_rowOf_0 8 rfl rfl)
theorem dX7_rowOf_9 : decode cX7_rowOf 9 = .ok (.iconst 1, 1) := jo_4 (jw1 jdcX7_rowOf_0 9 rfl rfl)
theorem dX7_rowOf_10 : decode cX7_rowOf 10 = .ok (.isub, 1) := jo_100 (jw1 jdcX7_rowOf_0 10 rfl rfl)
theorem dX7_rowOf_11 : decode cX7_rowOf 11 = .ok (.istore 5, 2) := jo_54 (jw2 jdcX7_rowOf_0 11 rfl rfl)
theorem dX7_rowOf_13 : decode cX7_rowOf 13 = .ok (.iload 5, 2) := jo_21 (jw2 jdcX7_rowOf_0 13 rfl rfl)
theorem dX7_rowOf_15 : decode cX7_rowOf 15 = .ok (.ifCond .lt 32, 3) := jo_155 (a := 0) (b := 32) (jw3 jdcX7_rowOf_0 15 rfl rfl) rfl
theorem dX7_rowOf_18 : decode cX7_rowOf 18 = .ok (.aload_n 0, 1) := jo_42 (jw1 jdcX7_rowOf_0 18 rfl rfl)
theorem dX7_rowOf_19 : decode cX7_rowOf 19 = .ok (.getfield 19, 3) := jo_180 (a := 0) (b := 19) (jw3 jdcX7_rowOf_0 19 rfl rfl) rfl
theorem dX7_rowOf_22 : decode cX7_rowOf 22 = .ok (.iload 5, 2) := jo_21 (jw2 jdcX7_rowOf_0 22 rfl rfl)
theorem dX7_rowOf_24 : decode cX7_rowOf 24 = .ok (.iload 4, 2) := jo_21 (jw2 jdcX7_rowOf_0 24 rfl rfl)
theorem dX7_rowOf_26 : decode cX7_rowOf 26 = .ok (.iload_n 1, 1) := jo_27 (jw1 jdcX7_rowOf_0 26 rfl rfl)
theorem jdcX7_rowOf_16 : jwk (cX7_rowOf.data.toList.drop 27) [184, 0, 133, 112, 79, 21, 4, 27, 184, 0, 133, 108, 54, 4, 132, 5, 255, 167, 255, 225, 177] = true := by decide +kernel
theorem dX7_rowOf_27 : decode cX7_rowOf 27 = .ok (.invokestatic 133, 3) := jo_184 (a := 0) (b := 133) (jw3 jdcX7_rowOf_16 0 rfl rfl) rfl
theorem dX7_rowOf_30 : decode cX7_rowOf 30 = .ok (.irem, 1) := jo_112 (jw1 jdcX7_rowOf_16 3 rfl rfl)
theorem dX7_rowOf_31 : decode cX7_rowOf 31 = .ok (.iastore, 1) := jo_79 (jw1 jdcX7_rowOf_16 4 rfl rfl)
theorem dX7_rowOf_32 : decode cX7_rowOf 32 = .ok (.iload 4, 2) := jo_21 (jw2 jdcX7_rowOf_16 5 rfl rfl)
theorem dX7_rowOf_34 : decode cX7_rowOf 34 = .ok (.iload_n 1, 1) := jo_27 (jw1 jdcX7_rowOf_16 7 rfl rfl)
theorem dX7_rowOf_35 : decode cX7_rowOf 35 = .ok (.invokestatic 133, 3) := jo_184 (a := 0) (b := 133) (jw3 jdcX7_rowOf_16 8 rfl rfl) rfl
theorem dX7_rowOf_38 : decode cX7_rowOf 38 = .ok (.idiv, 1) := jo_108 (jw1 jdcX7_rowOf_16 11 rfl rfl)
theorem dX7_rowOf_39 : decode cX7_rowOf 39 = .ok (.istore 4, 2) := jo_54 (jw2 jdcX7_rowOf_16 12 rfl rfl)
theorem dX7_rowOf_41 : decode cX7_rowOf 41 = .ok (.iinc 5 (-1), 3) := jo_132 (a := 5) (b := 255) (jw3 jdcX7_rowOf_16 14 rfl rfl) rfl
theorem dX7_rowOf_44 : decode cX7_rowOf 44 = .ok (.goto (-31), 3) := jo_167 (a := 255) (b := 225) (jw3 jdcX7_rowOf_16 17 rfl rfl) rfl
theorem dX7_rowOf_47 : decode cX7_rowOf 47 = .ok (.return_, 1) := jo_177 (jw1 jdcX7_rowOf_16 20 rfl rfl)
theorem jdcX7_forms_0 : jwk (cX7_forms.data.toList.drop 0) [27, 184, 0, 184, 153, 0, 13, 28, 3, 16, 7, 184, 0, 105, 154, 0, 6, 16, 254, 172, 42, 27, 28, 182, 0, 187, 42, 180, 0, 41] = true := by decide +kernel
theorem dX7_forms_0 : decode cX7_forms 0 = .ok (.iload_n 1, 1) := jo_27 (jw1 jdcX7_forms_0 0 rfl rfl)
theorem dX7_forms_1 : decode cX7_forms 1 = .ok (.invokestatic 184, 3) := jo_184 (a := 0) (b := 184) (jw3 jdcX7_forms_0 1 rfl rfl) rfl
theorem dX7_forms_4 : decode cX7_forms 4 = .ok (.ifCond .eq 13, 3) := jo_153 (a := 0) (b := 13) (jw3 jdcX7_forms_0 4 rfl rfl) rfl
theorem dX7_forms_7 : decode cX7_forms 7 = .ok (.iload_n 2, 1) := jo_28 (jw1 jdcX7_forms_0 7 rfl rfl)
theorem dX7_forms_8 : decode cX7_forms 8 = .ok (.iconst 0, 1) := jo_3 (jw1 jdcX7_forms_0 8 rfl rfl)
theorem dX7_forms_9 : decode cX7_forms 9 = .ok (.bipush 7, 2) := jo_16 (a := 7) (jw2 jdcX7_forms_0 9 rfl rfl) rfl
theorem dX7_forms_11 : decode cX7_forms 11 = .ok (.invokestatic 105, 3) := jo_184 (a := 0) (b := 105) (jw3 jdcX7_forms_0 11 rfl rfl) rfl
theorem dX7_forms_14 : decode cX7_forms 14 = .ok (.ifCond .ne 6, 3) := jo_154 (a := 0) (b := 6) (jw3 jdcX7_forms_0 14 rfl rfl) rfl
theorem dX7_forms_17 : decode cX7_forms 17 = .ok (.bipush (-2), 2) := jo_16 (a := 254) (jw2 jdcX7_forms_0 17 rfl rfl) rfl
theorem dX7_forms_19 : decode cX7_forms 19 = .ok (.ireturn, 1) := jo_172 (jw1 jdcX7_forms_0 19 rfl rfl)
theorem dX7_forms_20 : decode cX7_forms 20 = .ok (.aload_n 0, 1) := jo_42 (jw1 jdcX7_forms_0 20 rfl rfl)
theorem dX7_forms_21 : decode cX7_forms 21 = .ok (.iload_n 1, 1) := jo_27 (jw1 jdcX7_forms_0 21 rfl rfl)
theorem dX7_forms_22 : decode cX7_forms 22 = .ok (.iload_n 2, 1) := jo_28 (jw1 jdcX7_forms_0 22 rfl rfl)
theorem dX7_forms_23 : decode cX7_forms 23 = .ok (.invokevirtual 187, 3) := jo_182 (a := 0) (b := 187) (jw3 jdcX7_forms_0 23 rfl rfl) rfl
theorem dX7_forms_26 : decode cX7_forms 26 = .ok (.aload_n 0, 1) := jo_42 (jw1 jdcX7_forms_0 26 rfl rfl)
theorem dX7_forms_27 : decode cX7_forms 27 = .ok (.getfield 41, 3) := jo_180 (a := 0) (b := 41) (jw3 jdcX7_forms_0 27 rfl rfl) rfl
theorem jdcX7_forms_16 : jwk (cX7_forms.data.toList.drop 30) [16, 21, 27, 104, 28, 96, 46, 16, 251, 159, 0, 20, 42, 180, 0, 41, 16, 21, 27, 104, 28, 96, 46] = true := by decide +kernel
theorem dX7_forms_30 : decode cX7_forms 30 = .ok (.bipush 21, 2) := jo_16 (a := 21) (jw2 jdcX7_forms_16 0 rfl rfl) rfl
theorem dX7_forms_32 : decode cX7_forms 32 = .ok (.iload_n 1, 1) := jo_27 (jw1 jdcX7_forms_16 2 rfl rfl)
theorem dX7_forms_33 : decode cX7_forms 33 = .ok (.imul, 1) := jo_104 (jw1 jdcX7_forms_16 3 rfl rfl)
theorem dX7_forms_34 : decode cX7_forms 34 = .ok (.iload_n 2, 1) := jo_28 (jw1 jdcX7_forms_16 4 rfl rfl)
theorem dX7_forms_35 : decode cX7_forms 35 = .ok (.iadd, 1) := jo_96 (jw1 jdcX7_forms_16 5 rfl rfl)
theorem dX7_forms_36 : decode cX7_forms 36 = .ok (.iaload, 1) := jo_46 (jw1 jdcX7_forms_16 6 rfl rfl)
theorem dX7_forms_37 : decode cX7_forms 37 = .ok (.bipush (-5), 2) := jo_16 (a := 251) (jw2 jdcX7_forms_16 7 rfl rfl) rfl
theorem dX7_forms_39 : decode cX7_forms 39 = .ok (.if_icmp .eq 20, 3) := jo_159 (a := 0) (b := 20) (jw3 jdcX7_forms_16 9 rfl rfl) rfl
theorem dX7_forms_42 : decode cX7_forms 42 = .ok (.aload_n 0, 1) := jo_42 (jw1 jdcX7_forms_16 12 rfl rfl)
theorem dX7_forms_43 : decode cX7_forms 43 = .ok (.getfield 41, 3) := jo_180 (a := 0) (b := 41) (jw3 jdcX7_forms_16 13 rfl rfl) rfl
theorem dX7_forms_46 : decode cX7_forms 46 = .ok (.bipush 21, 2) := jo_16 (a := 21) (jw2 jdcX7_forms_16 16 rfl rfl) rfl
theorem dX7_forms_48 : decode cX7_forms 48 = .ok (.iload_n 1, 1) := jo_27 (jw1 jdcX7_forms_16 18 rfl rfl)
theorem dX7_forms_49 : decode cX7_forms 49 = .ok (.imul, 1) := jo_104 (jw1 jdcX7_forms_16 19 rfl rfl)
theorem dX7_forms_50 : decode cX7_forms 50 = .ok (.iload_n 2, 1) := jo_28 (jw1 jdcX7_forms_16 20 rfl rfl)
theorem dX7_forms_51 : decode cX7_forms 51 = .ok (.iadd, 1) := jo_96 (jw1 jdcX7_forms_16 21 rfl rfl)
theorem dX7_forms_52 : decode cX7_forms 52 = .ok (.iaload, 1) := jo_46 (jw1 jdcX7_forms_16 22 rfl rfl)
theorem jdcX7_forms_32 : jwk (cX7_forms.data.toList.drop 53) [17, 11, 184, 164, 0, 6, 16, 251, 172, 16, 8, 27, 104, 28, 96, 62, 42, 180, 0, 61, 29, 46, 154, 0, 67, 27] = true := by decide +kernel
theorem dX7_forms_53 : decode cX7_forms 53 = .ok (.sipush 3000, 3) := jo_17 (a := 11) (b := 184) (jw3 jdcX7_forms_32 0 rfl rfl) rfl
theorem dX7_forms_56 : decode cX7_forms 56 = .ok (.if_icmp .le 6, 3) := jo_164 (a := 0) (b := 6) (jw3 jdcX7_forms_32 3 rfl rfl) rfl
theorem dX7_forms_59 : decode cX7_forms 59 = .ok (.bipush (-5), 2) := jo_16 (a := 251) (jw2 jdcX7_forms_32 6 rfl rfl) rfl
theorem dX7_forms_61 : decode cX7_forms 61 = .ok (.ireturn, 1) := jo_172 (jw1 jdcX7_forms_32 8 rfl rfl)
theorem dX7_forms_62 : decode cX7_forms 62 = .ok (.bipush 8, 2) := jo_16 (a := 8) (jw2 jdcX7_forms_32 9 rfl rfl) rfl
theorem dX7_forms_64 : decode cX7_forms 64 = .ok (.iload_n 1, 1) := jo_27 (jw1 jdcX7_forms_32 11 rfl rfl)
theorem dX7_forms_65 : decode cX7_forms 65 = .ok (.imul, 1) := jo_104 (jw1 jdcX7_forms_32 12 rfl rfl)
theorem dX7_forms_66 : decode cX7_forms 66 = .ok (.iload_n 2, 1) := jo_28 (jw1 jdcX7_forms_32 13 rfl rfl)
theorem dX7_forms_67 : decode cX7_forms 67 = .ok (.iadd, 1) := jo_96 (jw1 jdcX7_forms_32 14 rfl rfl)
theorem dX7_forms_68 : decode cX7_forms 68 = .ok (.istore_n 3, 1) := jo_62 (jw1 jdcX7_forms_32 15 rfl rfl)
theorem dX7_forms_69 : decode cX7_forms 69 = .ok (.aload_n 0, 1) := jo_42 (jw1 jdcX7_forms_32 16 rfl rfl)
theorem dX7_forms_70 : decode cX7_forms 70 = .ok (.getfield 61, 3) := jo_180 (a := 0) (b := 61) (jw3 jdcX7_forms_32 17 rfl rfl) rfl
theorem dX7_forms_73 : decode cX7_forms 73 = .ok (.iload_n 3, 1) := jo_29 (jw1 jdcX7_forms_32 20 rfl rfl)
theorem dX7_forms_74 : decode cX7_forms 74 = .ok (.iaload, 1) := jo_46 (jw1 jdcX7_forms_32 21 rfl rfl)
theorem dX7_forms_75 : decode cX7_forms 75 = .ok (.ifCond .ne 67, 3) := jo_154 (a := 0) (b := 67) (jw3 jdcX7_forms_32 22 rfl rfl) rfl
theorem dX7_forms_78 : decode cX7_forms 78 = .ok (.iload_n 1, 1) := jo_27 (jw1 jdcX7_forms_32 25 rfl rfl)
theorem jdcX7_forms_48 : jwk (cX7_forms.data.toList.drop 79) [184, 0, 133, 28, 184, 0, 195, 54, 4, 3, 54, 5, 21, 5, 21, 4, 162, 0, 47, 42, 27, 28, 21, 5, 182, 0, 198, 42, 180, 0, 61] = true := by decide +kernel
theorem dX7_forms_79 : decode cX7_forms 79 = .ok (.invokestatic 133, 3) := jo_184 (a := 0) (b := 133) (jw3 jdcX7_forms_48 0 rfl rfl) rfl
theorem dX7_forms_82 : decode cX7_forms 82 = .ok (.iload_n 2, 1) := jo_28 (jw1 jdcX7_forms_48 3 rfl rfl)
theorem dX7_forms_83 : decode cX7_forms 83 = .ok (.invokestatic 195, 3) := jo_184 (a := 0) (b := 195) (jw3 jdcX7_forms_48 4 rfl rfl) rfl
theorem dX7_forms_86 : decode cX7_forms 86 = .ok (.istore 4, 2) := jo_54 (jw2 jdcX7_forms_48 7 rfl rfl)
theorem dX7_forms_88 : decode cX7_forms 88 = .ok (.iconst 0, 1) := jo_3 (jw1 jdcX7_forms_48 9 rfl rfl)
theorem dX7_forms_89 : decode cX7_forms 89 = .ok (.istore 5, 2) := jo_54 (jw2 jdcX7_forms_48 10 rfl rfl)
theorem dX7_forms_91 : decode cX7_forms 91 = .ok (.iload 5, 2) := jo_21 (jw2 jdcX7_forms_48 12 rfl rfl)
theorem dX7_forms_93 : decode cX7_forms 93 = .ok (.iload 4, 2) := jo_21 (jw2 jdcX7_forms_48 14 rfl rfl)
theorem dX7_forms_95 : decode cX7_forms 95 = .ok (.if_icmp .ge 47, 3) := jo_162 (a := 0) (b := 47) (jw3 jdcX7_forms_48 16 rfl rfl) rfl
theorem dX7_forms_98 : decode cX7_forms 98 = .ok (.aload_n 0, 1) := jo_42 (jw1 jdcX7_forms_48 19 rfl rfl)
theorem dX7_forms_99 : decode cX7_forms 99 = .ok (.iload_n 1, 1) := jo_27 (jw1 jdcX7_forms_48 20 rfl rfl)
theorem dX7_forms_100 : decode cX7_forms 100 = .ok (.iload_n 2, 1) := jo_28 (jw1 jdcX7_forms_48 21 rfl rfl)
theorem dX7_forms_101 : decode cX7_forms 101 = .ok (.iload 5, 2) := jo_21 (jw2 jdcX7_forms_48 22 rfl rfl)
theorem dX7_forms_103 : decode cX7_forms 103 = .ok (.invokevirtual 198, 3) := jo_182 (a := 0) (b := 198) (jw3 jdcX7_forms_48 24 rfl rfl) rfl
theorem dX7_forms_106 : decode cX7_forms 106 = .ok (.aload_n 0, 1) := jo_42 (jw1 jdcX7_forms_48 27 rfl rfl)
theorem dX7_forms_107 : decode cX7_forms 107 = .ok (.getfield 61, 3) := jo_180 (a := 0) (b := 61) (jw3 jdcX7_forms_48 28 rfl rfl) rfl
theorem jdcX7_forms_64 : jwk (cX7_forms.data.toList.drop 110) [29, 92, 46, 42, 27, 182, 0, 122, 153, 0, 15, 42, 27, 182, 0, 202, 153, 0, 7, 4, 167, 0, 4, 3, 96, 79] = true := by decide +kernel
theorem dX7_forms_110 : decode cX7_forms 110 = .ok (.iload_n 3, 1) := jo_29 (jw1 jdcX7_forms_64 0 rfl rfl)
theorem dX7_forms_111 : decode cX7_forms 111 = .ok (.dup2, 1) := jo_92 (jw1 jdcX7_forms_64 1 rfl rfl)
theorem dX7_forms_112 : decode cX7_forms 112 = .ok (.iaload, 1) := jo_46 (jw1 jdcX7_forms_64 2 rfl rfl)
theorem dX7_forms_113 : decode cX7_forms 113 = .ok (.aload_n 0, 1) := jo_42 (jw1 jdcX7_forms_64 3 rfl rfl)
theorem dX7_forms_114 : decode cX7_forms 114 = .ok (.iload_n 1, 1) := jo_27 (jw1 jdcX7_forms_64 4 rfl rfl)
theorem dX7_forms_115 : decode cX7_forms 115 = .ok (.invokevirtual 122, 3) := jo_182 (a := 0) (b := 122) (jw3 jdcX7_forms_64 5 rfl rfl) rfl
theorem dX7_forms_118 : decode cX7_forms 118 = .ok (.ifCond .eq 15, 3) := jo_153 (a := 0) (b := 15) (jw3 jdcX7_forms_64 8 rfl rfl) rfl
theorem dX7_forms_121 : decode cX7_forms 121 = .ok (.aload_n 0, 1) := jo_42 (jw1 jdcX7_forms_64 11 rfl rfl)
theorem dX7_forms_122 : decode cX7_forms 122 = .ok (.iload_n 1, 1) := jo_27 (jw1 jdcX7_forms_64 12 rfl rfl)
theorem dX7_forms_123 : decode cX7_forms 123 = .ok (.invokevirtual 202, 3) := jo_182 (a := 0) (b := 202) (jw3 jdcX7_forms_64 13 rfl rfl) rfl
theorem dX7_forms_126 : decode cX7_forms 126 = .ok (.ifCond .eq 7, 3) := jo_153 (a := 0) (b := 7) (jw3 jdcX7_forms_64 16 rfl rfl) rfl
theorem dX7_forms_129 : decode cX7_forms 129 = .ok (.iconst 1, 1) := jo_4 (jw1 jdcX7_forms_64 19 rfl rfl)
theorem dX7_forms_130 : decode cX7_forms 130 = .ok (.goto 4, 3) := jo_167 (a := 0) (b := 4) (jw3 jdcX7_forms_64 20 rfl rfl) rfl
theorem dX7_forms_133 : decode cX7_forms 133 = .ok (.iconst 0, 1) := jo_3 (jw1 jdcX7_forms_64 23 rfl rfl)
theorem dX7_forms_134 : decode cX7_forms 134 = .ok (.iadd, 1) := jo_96 (jw1 jdcX7_forms_64 24 rfl rfl)
theorem dX7_forms_135 : decode cX7_forms 135 = .ok (.iastore, 1) := jo_79 (jw1 jdcX7_forms_64 25 rfl rfl)
theorem jdcX7_forms_80 : jwk (cX7_forms.data.toList.drop 136) [132, 5, 1, 167, 255, 208, 42, 180, 0, 61, 29, 46, 172] = true := by decide +kernel
theorem dX7_forms_136 : decode cX7_forms 136 = .ok (.iinc 5 1, 3) := jo_132 (a := 5) (b := 1) (jw3 jdcX7_forms_80 0 rfl rfl) rfl
theorem dX7_forms_139 : decode cX7_forms 139 = .ok (.goto (-48), 3) := jo_167 (a := 255) (b := 208) (jw3 jdcX7_forms_80 3 rfl rfl) rfl
theorem dX7_forms_142 : decode cX7_forms 142 = .ok (.aload_n 0, 1) := jo_42 (jw1 jdcX7_forms_80 6 rfl rfl)
theorem dX7_forms_143 : decode cX7_forms 143 = .ok (.getfield 61, 3) := jo_180 (a := 0) (b := 61) (jw3 jdcX7_forms_80 7 rfl rfl) rfl
theorem dX7_forms_146 : decode cX7_forms 146 = .ok (.iload_n 3, 1) := jo_29 (jw1 jdcX7_forms_80 10 rfl rfl)
theorem dX7_forms_147 : decode cX7_forms 147 = .ok (.iaload, 1) := jo_46 (jw1 jdcX7_forms_80 11 rfl rfl)
theorem dX7_forms_148 : decode cX7_forms 148 = .ok (.ireturn, 1) := jo_172 (jw1 jdcX7_forms_80 12 rfl rfl)
theorem jdcX7_meets_0 : jwk (cX7_meets.data.toList.drop 0) [42, 180, 0, 67, 27, 51, 154, 0, 30, 42, 180, 0, 67, 27, 4, 84, 42, 180, 0, 70, 42, 180, 0, 205, 27, 79] = true := by decide +kernel
theorem dX7_meets_0 : decode cX7_meets 0 = .ok (.aload_n 0, 1) := jo_42 (jw1 jdcX7_meets_0 0 rfl rfl)
theorem dX7_meets_1 : decode cX7_meets 1 = .ok (.getfield 67, 3) := jo_180 (a := 0) (b := 67) (jw3 jdcX7_meets_0 1 rfl rfl) rfl
theorem dX7_meets_4 : decode cX7_meets 4 = .ok (.iload_n 1, 1) := jo_27 (jw1 jdcX7_meets_0 4 rfl rfl)
theorem dX7_meets_5 : decode cX7_meets 5 = .ok (.baload, 1) := jo_51 (jw1 jdcX7_meets_0 5 rfl rfl)
theorem dX7_meets_6 : decode cX7_meets 6 = .ok (.ifCond .ne 30, 3) := jo_154 (a := 0) (b := 30) (jw3 jdcX7_meets_0 6 rfl rfl) rfl
theorem dX7_meets_9 : decode cX7_meets 9 = .ok (.aload_n 0, 1) := jo_42 (jw1 jdcX7_meets_0 9 rfl rfl)
theorem dX7_meets_10 : decode cX7_meets 10 = .ok (.getfield 67, 3) := jo_180 (a := 0) (b := 67) (jw3 jdcX7_meets_0 10 rfl rfl) rfl
theorem dX7_meets_13 : decode cX7_meets 13 = .ok (.iload_n 1, 1) := jo_27 (jw1 jdcX7_meets_0 13 rfl rfl)
theorem dX7_meets_14 : decode cX7_meets 14 = .ok (.iconst 1, 1) := jo_4 (jw1 jdcX7_meets_0 14 rfl rfl)
theorem dX7_meets_15 : decode cX7_meets 15 = .ok (.bastore, 1) := jo_84 (jw1 jdcX7_meets_0 15 rfl rfl)
theorem dX7_meets_16 : decode cX7_meets 16 = .ok (.aload_n 0, 1) := jo_42 (jw1 jdcX7_meets_0 16 rfl rfl)
theorem dX7_meets_17 : decode cX7_meets 17 = .ok (.getfield 70, 3) := jo_180 (a := 0) (b := 70) (jw3 jdcX7_meets_0 17 rfl rfl) rfl
theorem dX7_meets_20 : decode cX7_meets 20 = .ok (.aload_n 0, 1) := jo_42 (jw1 jdcX7_meets_0 20 rfl rfl)
theorem dX7_meets_21 : decode cX7_meets 21 = .ok (.getfield 205, 3) := jo_180 (a := 0) (b := 205) (jw3 jdcX7_meets_0 21 rfl rfl) rfl
theorem dX7_meets_24 : decode cX7_meets 24 = .ok (.iload_n 1, 1) := jo_27 (jw1 jdcX7_meets_0 24 rfl rfl)
theorem dX7_meets_25 : decode cX7_meets 25 = .ok (.iastore, 1) := jo_79 (jw1 jdcX7_meets_0 25 rfl rfl)
theorem jdcX7_meets_16 : jwk (cX7_meets.data.toList.drop 26) [42, 89, 180, 0, 205, 4, 96, 181, 0, 205, 177] = true := by decide +kernel
theorem dX7_meets_26 : decode cX7_meets 26 = .ok (.aload_n 0, 1) := jo_42 (jw1 jdcX7_meets_16 0 rfl rfl)
theorem dX7_meets_27 : decode cX7_meets 27 = .ok (.dup, 1) := jo_89 (jw1 jdcX7_meets_16 1 rfl rfl)
theorem dX7_meets_28 : decode cX7_meets 28 = .ok (.getfield 205, 3) := jo_180 (a := 0) (b := 205) (jw3 jdcX7_meets_16 2 rfl rfl) rfl
theorem dX7_meets_31 : decode cX7_meets 31 = .ok (.iconst 1, 1) := jo_4 (jw1 jdcX7_meets_16 5 rfl rfl)
theorem dX7_meets_32 : decode cX7_meets 32 = .ok (.iadd, 1) := jo_96 (jw1 jdcX7_meets_16 6 rfl rfl)
theorem dX7_meets_33 : decode cX7_meets 33 = .ok (.putfield 205, 3) := jo_181 (a := 0) (b := 205) (jw3 jdcX7_meets_16 7 rfl rfl) rfl
theorem dX7_meets_36 : decode cX7_meets 36 = .ok (.return_, 1) := jo_177 (jw1 jdcX7_meets_16 10 rfl rfl)
theorem jdcX7_turnsAll_0 : jwk (cX7_turnsAll.data.toList.drop 0) [3, 54, 4, 21, 4, 28, 162, 0, 130, 3, 54, 5, 21, 5, 27, 184, 0, 143, 162, 0, 112, 42, 27, 28, 29, 182, 0, 198] = true := by decide +kernel
theorem dX7_turnsAll_0 : decode cX7_turnsAll 0 = .ok (.iconst 0, 1) := jo_3 (jw1 jdcX7_turnsAll_0 0 rfl rfl)
theorem dX7_turnsAll_1 : decode cX7_turnsAll 1 = .ok (.istore 4, 2) := jo_54 (jw2 jdcX7_turnsAll_0 1 rfl rfl)
theorem dX7_turnsAll_3 : decode cX7_turnsAll 3 = .ok (.iload 4, 2) := jo_21 (jw2 jdcX7_turnsAll_0 3 rfl rfl)
theorem dX7_turnsAll_5 : decode cX7_turnsAll 5 = .ok (.iload_n 2, 1) := jo_28 (jw1 jdcX7_turnsAll_0 5 rfl rfl)
theorem dX7_turnsAll_6 : decode cX7_turnsAll 6 = .ok (.if_icmp .ge 130, 3) := jo_162 (a := 0) (b := 130) (jw3 jdcX7_turnsAll_0 6 rfl rfl) rfl
theorem dX7_turnsAll_9 : decode cX7_turnsAll 9 = .ok (.iconst 0, 1) := jo_3 (jw1 jdcX7_turnsAll_0 9 rfl rfl)
theorem dX7_turnsAll_10 : decode cX7_turnsAll 10 = .ok (.istore 5, 2) := jo_54 (jw2 jdcX7_turnsAll_0 10 rfl rfl)
theorem dX7_turnsAll_12 : decode cX7_turnsAll 12 = .ok (.iload 5, 2) := jo_21 (jw2 jdcX7_turnsAll_0 12 rfl rfl)
theorem dX7_turnsAll_14 : decode cX7_turnsAll 14 = .ok (.iload_n 1, 1) := jo_27 (jw1 jdcX7_turnsAll_0 14 rfl rfl)
theorem dX7_turnsAll_15 : decode cX7_turnsAll 15 = .ok (.invokestatic 143, 3) := jo_184 (a := 0) (b := 143) (jw3 jdcX7_turnsAll_0 15 rfl rfl) rfl
theorem dX7_turnsAll_18 : decode cX7_turnsAll 18 = .ok (.if_icmp .ge 112, 3) := jo_162 (a := 0) (b := 112) (jw3 jdcX7_turnsAll_0 18 rfl rfl) rfl
theorem dX7_turnsAll_21 : decode cX7_turnsAll 21 = .ok (.aload_n 0, 1) := jo_42 (jw1 jdcX7_turnsAll_0 21 rfl rfl)
theorem dX7_turnsAll_22 : decode cX7_turnsAll 22 = .ok (.iload_n 1, 1) := jo_27 (jw1 jdcX7_turnsAll_0 22 rfl rfl)
theorem dX7_turnsAll_23 : decode cX7_turnsAll 23 = .ok (.iload_n 2, 1) := jo_28 (jw1 jdcX7_turnsAll_0 23 rfl rfl)
theorem dX7_turnsAll_24 : decode cX7_turnsAll 24 = .ok (.iload_n 3, 1) := jo_29 (jw1 jdcX7_turnsAll_0 24 rfl rfl)
theorem dX7_turnsAll_25 : decode cX7_turnsAll 25 = .ok (.invokevirtual 198, 3) := jo_182 (a := 0) (b := 198) (jw3 jdcX7_turnsAll_0 25 rfl rfl) rfl
theorem jdcX7_turnsAll_16 : jwk (cX7_turnsAll.data.toList.drop 28) [3, 54, 6, 3, 54, 7, 21, 7, 28, 162, 0, 63, 42, 180, 0, 19, 21, 7, 21, 7, 21, 4, 162, 0, 13, 42, 180, 0, 19, 21, 7] = true := by decide +kernel
theorem dX7_turnsAll_28 : decode cX7_turnsAll 28 = .ok (.iconst 0, 1) := jo_3 (jw1 jdcX7_turnsAll_16 0 rfl rfl)
theorem dX7_turnsAll_29 : decode cX7_turnsAll 29 = .ok (.istore 6, 2) := jo_54 (jw2 jdcX7_turnsAll_16 1 rfl rfl)
theorem dX7_turnsAll_31 : decode cX7_turnsAll 31 = .ok (.iconst 0, 1) := jo_3 (jw1 jdcX7_turnsAll_16 3 rfl rfl)
theorem dX7_turnsAll_32 : decode cX7_turnsAll 32 = .ok (.istore 7, 2) := jo_54 (jw2 jdcX7_turnsAll_16 4 rfl rfl)
theorem dX7_turnsAll_34 : decode cX7_turnsAll 34 = .ok (.iload 7, 2) := jo_21 (jw2 jdcX7_turnsAll_16 6 rfl rfl)
theorem dX7_turnsAll_36 : decode cX7_turnsAll 36 = .ok (.iload_n 2, 1) := jo_28 (jw1 jdcX7_turnsAll_16 8 rfl rfl)
theorem dX7_turnsAll_37 : decode cX7_turnsAll 37 = .ok (.if_icmp .ge 63, 3) := jo_162 (a := 0) (b := 63) (jw3 jdcX7_turnsAll_16 9 rfl rfl) rfl
theorem dX7_turnsAll_40 : decode cX7_turnsAll 40 = .ok (.aload_n 0, 1) := jo_42 (jw1 jdcX7_turnsAll_16 12 rfl rfl)
theorem dX7_turnsAll_41 : decode cX7_turnsAll 41 = .ok (.getfield 19, 3) := jo_180 (a := 0) (b := 19) (jw3 jdcX7_turnsAll_16 13 rfl rfl) rfl
theorem dX7_turnsAll_44 : decode cX7_turnsAll 44 = .ok (.iload 7, 2) := jo_21 (jw2 jdcX7_turnsAll_16 16 rfl rfl)
theorem dX7_turnsAll_46 : decode cX7_turnsAll 46 = .ok (.iload 7, 2) := jo_21 (jw2 jdcX7_turnsAll_16 18 rfl rfl)
theorem dX7_turnsAll_48 : decode cX7_turnsAll 48 = .ok (.iload 4, 2) := jo_21 (jw2 jdcX7_turnsAll_16 20 rfl rfl)
theorem dX7_turnsAll_50 : decode cX7_turnsAll 50 = .ok (.if_icmp .ge 13, 3) := jo_162 (a := 0) (b := 13) (jw3 jdcX7_turnsAll_16 22 rfl rfl) rfl
theorem dX7_turnsAll_53 : decode cX7_turnsAll 53 = .ok (.aload_n 0, 1) := jo_42 (jw1 jdcX7_turnsAll_16 25 rfl rfl)
theorem dX7_turnsAll_54 : decode cX7_turnsAll 54 = .ok (.getfield 19, 3) := jo_180 (a := 0) (b := 19) (jw3 jdcX7_turnsAll_16 26 rfl rfl) rfl
theorem dX7_turnsAll_57 : decode cX7_turnsAll 57 = .ok (.iload 7, 2) := jo_21 (jw2 jdcX7_turnsAll_16 29 rfl rfl)
theorem jdcX7_turnsAll_32 : jwk (cX7_turnsAll.data.toList.drop 59) [46, 167, 0, 16, 27, 21, 5, 42, 180, 0, 19, 21, 7, 46, 184, 0, 146, 79, 27, 184, 0, 133, 21, 6, 104, 42, 180, 0, 19] = true := by decide +kernel
theorem dX7_turnsAll_59 : decode cX7_turnsAll 59 = .ok (.iaload, 1) := jo_46 (jw1 jdcX7_turnsAll_32 0 rfl rfl)
theorem dX7_turnsAll_60 : decode cX7_turnsAll 60 = .ok (.goto 16, 3) := jo_167 (a := 0) (b := 16) (jw3 jdcX7_turnsAll_32 1 rfl rfl) rfl
theorem dX7_turnsAll_63 : decode cX7_turnsAll 63 = .ok (.iload_n 1, 1) := jo_27 (jw1 jdcX7_turnsAll_32 4 rfl rfl)
theorem dX7_turnsAll_64 : decode cX7_turnsAll 64 = .ok (.iload 5, 2) := jo_21 (jw2 jdcX7_turnsAll_32 5 rfl rfl)
theorem dX7_turnsAll_66 : decode cX7_turnsAll 66 = .ok (.aload_n 0, 1) := jo_42 (jw1 jdcX7_turnsAll_32 7 rfl rfl)
theorem dX7_turnsAll_67 : decode cX7_turnsAll 67 = .ok (.getfield 19, 3) := jo_180 (a := 0) (b := 19) (jw3 jdcX7_turnsAll_32 8 rfl rfl) rfl
theorem dX7_turnsAll_70 : decode cX7_turnsAll 70 = .ok (.iload 7, 2) := jo_21 (jw2 jdcX7_turnsAll_32 11 rfl rfl)
theorem dX7_turnsAll_72 : decode cX7_turnsAll 72 = .ok (.iaload, 1) := jo_46 (jw1 jdcX7_turnsAll_32 13 rfl rfl)
theorem dX7_turnsAll_73 : decode cX7_turnsAll 73 = .ok (.invokestatic 146, 3) := jo_184 (a := 0) (b := 146) (jw3 jdcX7_turnsAll_32 14 rfl rfl) rfl
theorem dX7_turnsAll_76 : decode cX7_turnsAll 76 = .ok (.iastore, 1) := jo_79 (jw1 jdcX7_turnsAll_32 17 rfl rfl)
theorem dX7_turnsAll_77 : decode cX7_turnsAll 77 = .ok (.iload_n 1, 1) := jo_27 (jw1 jdcX7_turnsAll_32 18 rfl rfl)
theorem dX7_turnsAll_78 : decode cX7_turnsAll 78 = .ok (.invokestatic 133, 3) := jo_184 (a := 0) (b := 133) (jw3 jdcX7_turnsAll_32 19 rfl rfl) rfl
theorem dX7_turnsAll_81 : decode cX7_turnsAll 81 = .ok (.iload 6, 2) := jo_21 (jw2 jdcX7_turnsAll_32 22 rfl rfl)
theorem dX7_turnsAll_83 : decode cX7_turnsAll 83 = .ok (.imul, 1) := jo_104 (jw1 jdcX7_turnsAll_32 24 rfl rfl)
theorem dX7_turnsAll_84 : decode cX7_turnsAll 84 = .ok (.aload_n 0, 1) := jo_42 (jw1 jdcX7_turnsAll_32 25 rfl rfl)
theorem dX7_turnsAll_85 : decode cX7_turnsAll 85 = .ok (.getfield 19, 3) := jo_180 (a := 0) (b := 19) (jw3 jdcX7_turnsAll_32 26 rfl rfl) rfl
theorem jdcX7_turnsAll_48 : jwk (cX7_turnsAll.data.toList.drop 88) [21, 7, 46, 96, 54, 6, 132, 7, 1, 167, 255, 193, 42, 180, 0, 67, 21, 6, 51, 154, 0, 17, 42, 27, 182, 0, 122, 153, 0, 9, 42] = true := by decide +kernel
theorem dX7_turnsAll_88 : decode cX7_turnsAll 88 = .ok (.iload 7, 2) := jo_21 (jw2 jdcX7_turnsAll_48 0 rfl rfl)
theorem dX7_turnsAll_90 : decode cX7_turnsAll 90 = .ok (.iaload, 1) := jo_46 (jw1 jdcX7_turnsAll_48 2 rfl rfl)
theorem dX7_turnsAll_91 : decode cX7_turnsAll 91 = .ok (.iadd, 1) := jo_96 (jw1 jdcX7_turnsAll_48 3 rfl rfl)
theorem dX7_turnsAll_92 : decode cX7_turnsAll 92 = .ok (.istore 6, 2) := jo_54 (jw2 jdcX7_turnsAll_48 4 rfl rfl)
theorem dX7_turnsAll_94 : decode cX7_turnsAll 94 = .ok (.iinc 7 1, 3) := jo_132 (a := 7) (b := 1) (jw3 jdcX7_turnsAll_48 6 rfl rfl) rfl
theorem dX7_turnsAll_97 : decode cX7_turnsAll 97 = .ok (.goto (-63), 3) := jo_167 (a := 255) (b := 193) (jw3 jdcX7_turnsAll_48 9 rfl rfl) rfl
theorem dX7_turnsAll_100 : decode cX7_turnsAll 100 = .ok (.aload_n 0, 1) := jo_42 (jw1 jdcX7_turnsAll_48 12 rfl rfl)
theorem dX7_turnsAll_101 : decode cX7_turnsAll 101 = .ok (.getfield 67, 3) := jo_180 (a := 0) (b := 67) (jw3 jdcX7_turnsAll_48 13 rfl rfl) rfl
theorem dX7_turnsAll_104 : decode cX7_turnsAll 104 = .ok (.iload 6, 2) := jo_21 (jw2 jdcX7_turnsAll_48 16 rfl rfl)
theorem dX7_turnsAll_106 : decode cX7_turnsAll 106 = .ok (.baload, 1) := jo_51 (jw1 jdcX7_turnsAll_48 18 rfl rfl)
theorem dX7_turnsAll_107 : decode cX7_turnsAll 107 = .ok (.ifCond .ne 17, 3) := jo_154 (a := 0) (b := 17) (jw3 jdcX7_turnsAll_48 19 rfl rfl) rfl
theorem dX7_turnsAll_110 : decode cX7_turnsAll 110 = .ok (.aload_n 0, 1) := jo_42 (jw1 jdcX7_turnsAll_48 22 rfl rfl)
theorem dX7_turnsAll_111 : decode cX7_turnsAll 111 = .ok (.iload_n 1, 1) := jo_27 (jw1 jdcX7_turnsAll_48 23 rfl rfl)
theorem dX7_turnsAll_112 : decode cX7_turnsAll 112 = .ok (.invokevirtual 122, 3) := jo_182 (a := 0) (b := 122) (jw3 jdcX7_turnsAll_48 24 rfl rfl) rfl
theorem dX7_turnsAll_115 : decode cX7_turnsAll 115 = .ok (.ifCond .eq 9, 3) := jo_153 (a := 0) (b := 9) (jw3 jdcX7_turnsAll_48 27 rfl rfl) rfl
theorem dX7_turnsAll_118 : decode cX7_turnsAll 118 = .ok (.aload_n 0, 1) := jo_42 (jw1 jdcX7_turnsAll_48 30 rfl rfl)
theorem jdcX7_turnsAll_64 : jwk (cX7_turnsAll.data.toList.drop 119) [21, 6, 182, 0, 208, 132, 5, 1, 167, 255, 141, 132, 4, 1, 167, 255, 126, 177] = true := by decide +kernel
theorem dX7_turnsAll_119 : decode cX7_turnsAll 119 = .ok (.iload 6, 2) := jo_21 (jw2 jdcX7_turnsAll_64 0 rfl rfl)
theorem dX7_turnsAll_121 : decode cX7_turnsAll 121 = .ok (.invokevirtual 208, 3) := jo_182 (a := 0) (b := 208) (jw3 jdcX7_turnsAll_64 2 rfl rfl) rfl
theorem dX7_turnsAll_124 : decode cX7_turnsAll 124 = .ok (.iinc 5 1, 3) := jo_132 (a := 5) (b := 1) (jw3 jdcX7_turnsAll_64 5 rfl rfl) rfl
theorem dX7_turnsAll_127 : decode cX7_turnsAll 127 = .ok (.goto (-115), 3) := jo_167 (a := 255) (b := 141) (jw3 jdcX7_turnsAll_64 8 rfl rfl) rfl
theorem dX7_turnsAll_130 : decode cX7_turnsAll 130 = .ok (.iinc 4 1, 3) := jo_132 (a := 4) (b := 1) (jw3 jdcX7_turnsAll_64 11 rfl rfl) rfl
theorem dX7_turnsAll_133 : decode cX7_turnsAll 133 = .ok (.goto (-130), 3) := jo_167 (a := 255) (b := 126) (jw3 jdcX7_turnsAll_64 14 rfl rfl) rfl
theorem dX7_turnsAll_136 : decode cX7_turnsAll 136 = .ok (.return_, 1) := jo_177 (jw1 jdcX7_turnsAll_64 17 rfl rfl)
theorem jdcX7_reach_0 : jwk (cX7_reach.data.toList.drop 0) [27, 184, 0, 184, 153, 0, 18, 27, 5, 159, 0, 13, 28, 4, 16, 6, 184, 0, 105, 154, 0, 6, 16, 254, 172, 27, 184, 0, 133, 28] = true := by decide +kernel
theorem dX7_reach_0 : decode cX7_reach 0 = .ok (.iload_n 1, 1) := jo_27 (jw1 jdcX7_reach_0 0 rfl rfl)
theorem dX7_reach_1 : decode cX7_reach 1 = .ok (.invokestatic 184, 3) := jo_184 (a := 0) (b := 184) (jw3 jdcX7_reach_0 1 rfl rfl) rfl
theorem dX7_reach_4 : decode cX7_reach 4 = .ok (.ifCond .eq 18, 3) := jo_153 (a := 0) (b := 18) (jw3 jdcX7_reach_0 4 rfl rfl) rfl
theorem dX7_reach_7 : decode cX7_reach 7 = .ok (.iload_n 1, 1) := jo_27 (jw1 jdcX7_reach_0 7 rfl rfl)
theorem dX7_reach_8 : decode cX7_reach 8 = .ok (.iconst 2, 1) := jo_5 (jw1 jdcX7_reach_0 8 rfl rfl)
theorem dX7_reach_9 : decode cX7_reach 9 = .ok (.if_icmp .eq 13, 3) := jo_159 (a := 0) (b := 13) (jw3 jdcX7_reach_0 9 rfl rfl) rfl
theorem dX7_reach_12 : decode cX7_reach 12 = .ok (.iload_n 2, 1) := jo_28 (jw1 jdcX7_reach_0 12 rfl rfl)
theorem dX7_reach_13 : decode cX7_reach 13 = .ok (.iconst 1, 1) := jo_4 (jw1 jdcX7_reach_0 13 rfl rfl)
theorem dX7_reach_14 : decode cX7_reach 14 = .ok (.bipush 6, 2) := jo_16 (a := 6) (jw2 jdcX7_reach_0 14 rfl rfl) rfl
theorem dX7_reach_16 : decode cX7_reach 16 = .ok (.invokestatic 105, 3) := jo_184 (a := 0) (b := 105) (jw3 jdcX7_reach_0 16 rfl rfl) rfl
theorem dX7_reach_19 : decode cX7_reach 19 = .ok (.ifCond .ne 6, 3) := jo_154 (a := 0) (b := 6) (jw3 jdcX7_reach_0 19 rfl rfl) rfl
theorem dX7_reach_22 : decode cX7_reach 22 = .ok (.bipush (-2), 2) := jo_16 (a := 254) (jw2 jdcX7_reach_0 22 rfl rfl) rfl
theorem dX7_reach_24 : decode cX7_reach 24 = .ok (.ireturn, 1) := jo_172 (jw1 jdcX7_reach_0 24 rfl rfl)
theorem dX7_reach_25 : decode cX7_reach 25 = .ok (.iload_n 1, 1) := jo_27 (jw1 jdcX7_reach_0 25 rfl rfl)
theorem dX7_reach_26 : decode cX7_reach 26 = .ok (.invokestatic 133, 3) := jo_184 (a := 0) (b := 133) (jw3 jdcX7_reach_0 26 rfl rfl) rfl
theorem dX7_reach_29 : decode cX7_reach 29 = .ok (.iload_n 2, 1) := jo_28 (jw1 jdcX7_reach_0 29 rfl rfl)
theorem jdcX7_reach_16 : jwk (cX7_reach.data.toList.drop 30) [184, 0, 195, 62, 29, 17, 39, 16, 164, 0, 6, 16, 251, 172, 42, 180, 0, 64, 16, 7, 27, 104, 28, 96, 46, 154, 0, 82] = true := by decide +kernel
theorem dX7_reach_30 : decode cX7_reach 30 = .ok (.invokestatic 195, 3) := jo_184 (a := 0) (b := 195) (jw3 jdcX7_reach_16 0 rfl rfl) rfl
theorem dX7_reach_33 : decode cX7_reach 33 = .ok (.istore_n 3, 1) := jo_62 (jw1 jdcX7_reach_16 3 rfl rfl)
theorem dX7_reach_34 : decode cX7_reach 34 = .ok (.iload_n 3, 1) := jo_29 (jw1 jdcX7_reach_16 4 rfl rfl)
theorem dX7_reach_35 : decode cX7_reach 35 = .ok (.sipush 10000, 3) := jo_17 (a := 39) (b := 16) (jw3 jdcX7_reach_16 5 rfl rfl) rfl
theorem dX7_reach_38 : decode cX7_reach 38 = .ok (.if_icmp .le 6, 3) := jo_164 (a := 0) (b := 6) (jw3 jdcX7_reach_16 8 rfl rfl) rfl
theorem dX7_reach_41 : decode cX7_reach 41 = .ok (.bipush (-5), 2) := jo_16 (a := 251) (jw2 jdcX7_reach_16 11 rfl rfl) rfl
theorem dX7_reach_43 : decode cX7_reach 43 = .ok (.ireturn, 1) := jo_172 (jw1 jdcX7_reach_16 13 rfl rfl)
theorem dX7_reach_44 : decode cX7_reach 44 = .ok (.aload_n 0, 1) := jo_42 (jw1 jdcX7_reach_16 14 rfl rfl)
theorem dX7_reach_45 : decode cX7_reach 45 = .ok (.getfield 64, 3) := jo_180 (a := 0) (b := 64) (jw3 jdcX7_reach_16 15 rfl rfl) rfl
theorem dX7_reach_48 : decode cX7_reach 48 = .ok (.bipush 7, 2) := jo_16 (a := 7) (jw2 jdcX7_reach_16 18 rfl rfl) rfl
theorem dX7_reach_50 : decode cX7_reach 50 = .ok (.iload_n 1, 1) := jo_27 (jw1 jdcX7_reach_16 20 rfl rfl)
theorem dX7_reach_51 : decode cX7_reach 51 = .ok (.imul, 1) := jo_104 (jw1 jdcX7_reach_16 21 rfl rfl)
theorem dX7_reach_52 : decode cX7_reach 52 = .ok (.iload_n 2, 1) := jo_28 (jw1 jdcX7_reach_16 22 rfl rfl)
theorem dX7_reach_53 : decode cX7_reach 53 = .ok (.iadd, 1) := jo_96 (jw1 jdcX7_reach_16 23 rfl rfl)
theorem dX7_reach_54 : decode cX7_reach 54 = .ok (.iaload, 1) := jo_46 (jw1 jdcX7_reach_16 24 rfl rfl)
theorem dX7_reach_55 : decode cX7_reach 55 = .ok (.ifCond .ne 82, 3) := jo_154 (a := 0) (b := 82) (jw3 jdcX7_reach_16 25 rfl rfl) rfl
theorem jdcX7_reach_32 : jwk (cX7_reach.data.toList.drop 58) [3, 54, 4, 21, 4, 29, 162, 0, 17, 42, 180, 0, 67, 21, 4, 3, 84, 132, 4, 1, 167, 255, 239, 42, 3, 181, 0, 205, 42] = true := by decide +kernel
theorem dX7_reach_58 : decode cX7_reach 58 = .ok (.iconst 0, 1) := jo_3 (jw1 jdcX7_reach_32 0 rfl rfl)
theorem dX7_reach_59 : decode cX7_reach 59 = .ok (.istore 4, 2) := jo_54 (jw2 jdcX7_reach_32 1 rfl rfl)
theorem dX7_reach_61 : decode cX7_reach 61 = .ok (.iload 4, 2) := jo_21 (jw2 jdcX7_reach_32 3 rfl rfl)
theorem dX7_reach_63 : decode cX7_reach 63 = .ok (.iload_n 3, 1) := jo_29 (jw1 jdcX7_reach_32 5 rfl rfl)
theorem dX7_reach_64 : decode cX7_reach 64 = .ok (.if_icmp .ge 17, 3) := jo_162 (a := 0) (b := 17) (jw3 jdcX7_reach_32 6 rfl rfl) rfl
theorem dX7_reach_67 : decode cX7_reach 67 = .ok (.aload_n 0, 1) := jo_42 (jw1 jdcX7_reach_32 9 rfl rfl)
theorem dX7_reach_68 : decode cX7_reach 68 = .ok (.getfield 67, 3) := jo_180 (a := 0) (b := 67) (jw3 jdcX7_reach_32 10 rfl rfl) rfl
theorem dX7_reach_71 : decode cX7_reach 71 = .ok (.iload 4, 2) := jo_21 (jw2 jdcX7_reach_32 13 rfl rfl)
theorem dX7_reach_73 : decode cX7_reach 73 = .ok (.iconst 0, 1) := jo_3 (jw1 jdcX7_reach_32 15 rfl rfl)
theorem dX7_reach_74 : decode cX7_reach 74 = .ok (.bastore, 1) := jo_84 (jw1 jdcX7_reach_32 16 rfl rfl)
theorem dX7_reach_75 : decode cX7_reach 75 = .ok (.iinc 4 1, 3) := jo_132 (a := 4) (b := 1) (jw3 jdcX7_reach_32 17 rfl rfl) rfl
theorem dX7_reach_78 : decode cX7_reach 78 = .ok (.goto (-17), 3) := jo_167 (a := 255) (b := 239) (jw3 jdcX7_reach_32 20 rfl rfl) rfl
theorem dX7_reach_81 : decode cX7_reach 81 = .ok (.aload_n 0, 1) := jo_42 (jw1 jdcX7_reach_32 23 rfl rfl)
theorem dX7_reach_82 : decode cX7_reach 82 = .ok (.iconst 0, 1) := jo_3 (jw1 jdcX7_reach_32 24 rfl rfl)
theorem dX7_reach_83 : decode cX7_reach 83 = .ok (.putfield 205, 3) := jo_181 (a := 0) (b := 205) (jw3 jdcX7_reach_32 25 rfl rfl) rfl
theorem dX7_reach_86 : decode cX7_reach 86 = .ok (.aload_n 0, 1) := jo_42 (jw1 jdcX7_reach_32 28 rfl rfl)
theorem jdcX7_reach_48 : jwk (cX7_reach.data.toList.drop 87) [3, 182, 0, 208, 3, 54, 4, 21, 4, 42, 180, 0, 205, 162, 0, 22, 42, 27, 28, 42, 180, 0, 70, 21, 4, 46, 182, 0, 211] = true := by decide +kernel
theorem dX7_reach_87 : decode cX7_reach 87 = .ok (.iconst 0, 1) := jo_3 (jw1 jdcX7_reach_48 0 rfl rfl)
theorem dX7_reach_88 : decode cX7_reach 88 = .ok (.invokevirtual 208, 3) := jo_182 (a := 0) (b := 208) (jw3 jdcX7_reach_48 1 rfl rfl) rfl
theorem dX7_reach_91 : decode cX7_reach 91 = .ok (.iconst 0, 1) := jo_3 (jw1 jdcX7_reach_48 4 rfl rfl)
theorem dX7_reach_92 : decode cX7_reach 92 = .ok (.istore 4, 2) := jo_54 (jw2 jdcX7_reach_48 5 rfl rfl)
theorem dX7_reach_94 : decode cX7_reach 94 = .ok (.iload 4, 2) := jo_21 (jw2 jdcX7_reach_48 7 rfl rfl)
theorem dX7_reach_96 : decode cX7_reach 96 = .ok (.aload_n 0, 1) := jo_42 (jw1 jdcX7_reach_48 9 rfl rfl)
theorem dX7_reach_97 : decode cX7_reach 97 = .ok (.getfield 205, 3) := jo_180 (a := 0) (b := 205) (jw3 jdcX7_reach_48 10 rfl rfl) rfl
theorem dX7_reach_100 : decode cX7_reach 100 = .ok (.if_icmp .ge 22, 3) := jo_162 (a := 0) (b := 22) (jw3 jdcX7_reach_48 13 rfl rfl) rfl
theorem dX7_reach_103 : decode cX7_reach 103 = .ok (.aload_n 0, 1) := jo_42 (jw1 jdcX7_reach_48 16 rfl rfl)
theorem dX7_reach_104 : decode cX7_reach 104 = .ok (.iload_n 1, 1) := jo_27 (jw1 jdcX7_reach_48 17 rfl rfl)
theorem dX7_reach_105 : decode cX7_reach 105 = .ok (.iload_n 2, 1) := jo_28 (jw1 jdcX7_reach_48 18 rfl rfl)
theorem dX7_reach_106 : decode cX7_reach 106 = .ok (.aload_n 0, 1) := jo_42 (jw1 jdcX7_reach_48 19 rfl rfl)
theorem dX7_reach_107 : decode cX7_reach 107 = .ok (.getfield 70, 3) := jo_180 (a := 0) (b := 70) (jw3 jdcX7_reach_48 20 rfl rfl) rfl
theorem dX7_reach_110 : decode cX7_reach 110 = .ok (.iload 4, 2) := jo_21 (jw2 jdcX7_reach_48 23 rfl rfl)
theorem dX7_reach_112 : decode cX7_reach 112 = .ok (.iaload, 1) := jo_46 (jw1 jdcX7_reach_48 25 rfl rfl)
theorem dX7_reach_113 : decode cX7_reach 113 = .ok (.invokevirtual 211, 3) := jo_182 (a := 0) (b := 211) (jw3 jdcX7_reach_48 26 rfl rfl) rfl
theorem jdcX7_reach_64 : jwk (cX7_reach.data.toList.drop 116) [132, 4, 1, 167, 255, 231, 42, 180, 0, 64, 16, 7, 27, 104, 28, 96, 42, 180, 0, 205, 79, 42, 180, 0, 64, 16, 7, 27] = true := by decide +kernel
theorem dX7_reach_116 : decode cX7_reach 116 = .ok (.iinc 4 1, 3) := jo_132 (a := 4) (b := 1) (jw3 jdcX7_reach_64 0 rfl rfl) rfl
theorem dX7_reach_119 : decode cX7_reach 119 = .ok (.goto (-25), 3) := jo_167 (a := 255) (b := 231) (jw3 jdcX7_reach_64 3 rfl rfl) rfl
theorem dX7_reach_122 : decode cX7_reach 122 = .ok (.aload_n 0, 1) := jo_42 (jw1 jdcX7_reach_64 6 rfl rfl)
theorem dX7_reach_123 : decode cX7_reach 123 = .ok (.getfield 64, 3) := jo_180 (a := 0) (b := 64) (jw3 jdcX7_reach_64 7 rfl rfl) rfl
theorem dX7_reach_126 : decode cX7_reach 126 = .ok (.bipush 7, 2) := jo_16 (a := 7) (jw2 jdcX7_reach_64 10 rfl rfl) rfl
theorem dX7_reach_128 : decode cX7_reach 128 = .ok (.iload_n 1, 1) := jo_27 (jw1 jdcX7_reach_64 12 rfl rfl)
theorem dX7_reach_129 : decode cX7_reach 129 = .ok (.imul, 1) := jo_104 (jw1 jdcX7_reach_64 13 rfl rfl)
theorem dX7_reach_130 : decode cX7_reach 130 = .ok (.iload_n 2, 1) := jo_28 (jw1 jdcX7_reach_64 14 rfl rfl)
theorem dX7_reach_131 : decode cX7_reach 131 = .ok (.iadd, 1) := jo_96 (jw1 jdcX7_reach_64 15 rfl rfl)
theorem dX7_reach_132 : decode cX7_reach 132 = .ok (.aload_n 0, 1) := jo_42 (jw1 jdcX7_reach_64 16 rfl rfl)
theorem dX7_reach_133 : decode cX7_reach 133 = .ok (.getfield 205, 3) := jo_180 (a := 0) (b := 205) (jw3 jdcX7_reach_64 17 rfl rfl) rfl
theorem dX7_reach_136 : decode cX7_reach 136 = .ok (.iastore, 1) := jo_79 (jw1 jdcX7_reach_64 20 rfl rfl)
theorem dX7_reach_137 : decode cX7_reach 137 = .ok (.aload_n 0, 1) := jo_42 (jw1 jdcX7_reach_64 21 rfl rfl)
theorem dX7_reach_138 : decode cX7_reach 138 = .ok (.getfield 64, 3) := jo_180 (a := 0) (b := 64) (jw3 jdcX7_reach_64 22 rfl rfl) rfl
theorem dX7_reach_141 : decode cX7_reach 141 = .ok (.bipush 7, 2) := jo_16 (a := 7) (jw2 jdcX7_reach_64 25 rfl rfl) rfl
theorem dX7_reach_143 : decode cX7_reach 143 = .ok (.iload_n 1, 1) := jo_27 (jw1 jdcX7_reach_64 27 rfl rfl)
theorem jdcX7_reach_80 : jwk (cX7_reach.data.toList.drop 144) [104, 28, 96, 46, 172] = true := by decide +kernel
theorem dX7_reach_144 : decode cX7_reach 144 = .ok (.imul, 1) := jo_104 (jw1 jdcX7_reach_80 0 rfl rfl)
theorem dX7_reach_145 : decode cX7_reach 145 = .ok (.iload_n 2, 1) := jo_28 (jw1 jdcX7_reach_80 1 rfl rfl)
theorem dX7_reach_146 : decode cX7_reach 146 = .ok (.iadd, 1) := jo_96 (jw1 jdcX7_reach_80 2 rfl rfl)
theorem dX7_reach_147 : decode cX7_reach 147 = .ok (.iaload, 1) := jo_46 (jw1 jdcX7_reach_80 3 rfl rfl)
theorem dX7_reach_148 : decode cX7_reach 148 = .ok (.ireturn, 1) := jo_172 (jw1 jdcX7_reach_80 4 rfl rfl)
theorem jdcX7_board_0 : jwk (cX7_board.data.toList.drop 0) [27, 5, 16, 6, 184, 0, 105, 153, 0, 13, 28, 5, 16, 6, 184, 0, 105, 154, 0, 6, 16, 254, 172, 42, 27, 181, 0, 73, 42] = true := by decide +kernel
theorem dX7_board_0 : decode cX7_board 0 = .ok (.iload_n 1, 1) := jo_27 (jw1 jdcX7_board_0 0 rfl rfl)
theorem dX7_board_1 : decode cX7_board 1 = .ok (.iconst 2, 1) := jo_5 (jw1 jdcX7_board_0 1 rfl rfl)
theorem dX7_board_2 : decode cX7_board 2 = .ok (.bipush 6, 2) := jo_16 (a := 6) (jw2 jdcX7_board_0 2 rfl rfl) rfl
theorem dX7_board_4 : decode cX7_board 4 = .ok (.invokestatic 105, 3) := jo_184 (a := 0) (b := 105) (jw3 jdcX7_board_0 4 rfl rfl) rfl
theorem dX7_board_7 : decode cX7_board 7 = .ok (.ifCond .eq 13, 3) := jo_153 (a := 0) (b := 13) (jw3 jdcX7_board_0 7 rfl rfl) rfl
theorem dX7_board_10 : decode cX7_board 10 = .ok (.iload_n 2, 1) := jo_28 (jw1 jdcX7_board_0 10 rfl rfl)
theorem dX7_board_11 : decode cX7_board 11 = .ok (.iconst 2, 1) := jo_5 (jw1 jdcX7_board_0 11 rfl rfl)
theorem dX7_board_12 : decode cX7_board 12 = .ok (.bipush 6, 2) := jo_16 (a := 6) (jw2 jdcX7_board_0 12 rfl rfl) rfl
theorem dX7_board_14 : decode cX7_board 14 = .ok (.invokestatic 105, 3) := jo_184 (a := 0) (b := 105) (jw3 jdcX7_board_0 14 rfl rfl) rfl
theorem dX7_board_17 : decode cX7_board 17 = .ok (.ifCond .ne 6, 3) := jo_154 (a := 0) (b := 6) (jw3 jdcX7_board_0 17 rfl rfl) rfl
theorem dX7_board_20 : decode cX7_board 20 = .ok (.bipush (-2), 2) := jo_16 (a := 254) (jw2 jdcX7_board_0 20 rfl rfl) rfl
theorem dX7_board_22 : decode cX7_board 22 = .ok (.ireturn, 1) := jo_172 (jw1 jdcX7_board_0 22 rfl rfl)
theorem dX7_board_23 : decode cX7_board 23 = .ok (.aload_n 0, 1) := jo_42 (jw1 jdcX7_board_0 23 rfl rfl)
theorem dX7_board_24 : decode cX7_board 24 = .ok (.iload_n 1, 1) := jo_27 (jw1 jdcX7_board_0 24 rfl rfl)
theorem dX7_board_25 : decode cX7_board 25 = .ok (.putfield 73, 3) := jo_181 (a := 0) (b := 73) (jw3 jdcX7_board_0 25 rfl rfl) rfl
theorem dX7_board_28 : decode cX7_board 28 = .ok (.aload_n 0, 1) := jo_42 (jw1 jdcX7_board_0 28 rfl rfl)
theorem jdcX7_board_16 : jwk (cX7_board.data.toList.drop 29) [28, 181, 0, 77, 3, 62, 29, 16, 36, 162, 0, 16, 42, 180, 0, 80, 29, 3, 84, 132, 3, 1, 167, 255, 240, 42, 3] = true := by decide +kernel
theorem dX7_board_29 : decode cX7_board 29 = .ok (.iload_n 2, 1) := jo_28 (jw1 jdcX7_board_16 0 rfl rfl)
theorem dX7_board_30 : decode cX7_board 30 = .ok (.putfield 77, 3) := jo_181 (a := 0) (b := 77) (jw3 jdcX7_board_16 1 rfl rfl) rfl
theorem dX7_board_33 : decode cX7_board 33 = .ok (.iconst 0, 1) := jo_3 (jw1 jdcX7_board_16 4 rfl rfl)
theorem dX7_board_34 : decode cX7_board 34 = .ok (.istore_n 3, 1) := jo_62 (jw1 jdcX7_board_16 5 rfl rfl)
theorem dX7_board_35 : decode cX7_board 35 = .ok (.iload_n 3, 1) := jo_29 (jw1 jdcX7_board_16 6 rfl rfl)
theorem dX7_board_36 : decode cX7_board 36 = .ok (.bipush 36, 2) := jo_16 (a := 36) (jw2 jdcX7_board_16 7 rfl rfl) rfl
theorem dX7_board_38 : decode cX7_board 38 = .ok (.if_icmp .ge 16, 3) := jo_162 (a := 0) (b := 16) (jw3 jdcX7_board_16 9 rfl rfl) rfl
theorem dX7_board_41 : decode cX7_board 41 = .ok (.aload_n 0, 1) := jo_42 (jw1 jdcX7_board_16 12 rfl rfl)
theorem dX7_board_42 : decode cX7_board 42 = .ok (.getfield 80, 3) := jo_180 (a := 0) (b := 80) (jw3 jdcX7_board_16 13 rfl rfl) rfl
theorem dX7_board_45 : decode cX7_board 45 = .ok (.iload_n 3, 1) := jo_29 (jw1 jdcX7_board_16 16 rfl rfl)
theorem dX7_board_46 : decode cX7_board 46 = .ok (.iconst 0, 1) := jo_3 (jw1 jdcX7_board_16 17 rfl rfl)
theorem dX7_board_47 : decode cX7_board 47 = .ok (.bastore, 1) := jo_84 (jw1 jdcX7_board_16 18 rfl rfl)
theorem dX7_board_48 : decode cX7_board 48 = .ok (.iinc 3 1, 3) := jo_132 (a := 3) (b := 1) (jw3 jdcX7_board_16 19 rfl rfl) rfl
theorem dX7_board_51 : decode cX7_board 51 = .ok (.goto (-16), 3) := jo_167 (a := 255) (b := 240) (jw3 jdcX7_board_16 22 rfl rfl) rfl
theorem dX7_board_54 : decode cX7_board 54 = .ok (.aload_n 0, 1) := jo_42 (jw1 jdcX7_board_16 25 rfl rfl)
theorem dX7_board_55 : decode cX7_board 55 = .ok (.iconst 0, 1) := jo_3 (jw1 jdcX7_board_16 26 rfl rfl)
theorem jdcX7_board_32 : jwk (cX7_board.data.toList.drop 56) [181, 0, 214, 4, 172] = true := by decide +kernel
theorem dX7_board_56 : decode cX7_board 56 = .ok (.putfield 214, 3) := jo_181 (a := 0) (b := 214) (jw3 jdcX7_board_32 0 rfl rfl) rfl
theorem dX7_board_59 : decode cX7_board 59 = .ok (.iconst 1, 1) := jo_4 (jw1 jdcX7_board_32 3 rfl rfl)
theorem dX7_board_60 : decode cX7_board 60 = .ok (.ireturn, 1) := jo_172 (jw1 jdcX7_board_32 4 rfl rfl)
theorem jdcX7_hole_0 : jwk (cX7_hole.data.toList.drop 0) [27, 3, 42, 180, 0, 73, 4, 100, 184, 0, 105, 153, 0, 17, 28, 3, 42, 180, 0, 77, 4, 100, 184, 0, 105, 154, 0, 6] = true := by decide +kernel
theorem dX7_hole_0 : decode cX7_hole 0 = .ok (.iload_n 1, 1) := jo_27 (jw1 jdcX7_hole_0 0 rfl rfl)
theorem dX7_hole_1 : decode cX7_hole 1 = .ok (.iconst 0, 1) := jo_3 (jw1 jdcX7_hole_0 1 rfl rfl)
theorem dX7_hole_2 : decode cX7_hole 2 = .ok (.aload_n 0, 1) := jo_42 (jw1 jdcX7_hole_0 2 rfl rfl)
theorem dX7_hole_3 : decode cX7_hole 3 = .ok (.getfield 73, 3) := jo_180 (a := 0) (b := 73) (jw3 jdcX7_hole_0 3 rfl rfl) rfl
theorem dX7_hole_6 : decode cX7_hole 6 = .ok (.iconst 1, 1) := jo_4 (jw1 jdcX7_hole_0 6 rfl rfl)
theorem dX7_hole_7 : decode cX7_hole 7 = .ok (.isub, 1) := jo_100 (jw1 jdcX7_hole_0 7 rfl rfl)
theorem dX7_hole_8 : decode cX7_hole 8 = .ok (.invokestatic 105, 3) := jo_184 (a := 0) (b := 105) (jw3 jdcX7_hole_0 8 rfl rfl) rfl
theorem dX7_hole_11 : decode cX7_hole 11 = .ok (.ifCond .eq 17, 3) := jo_153 (a := 0) (b := 17) (jw3 jdcX7_hole_0 11 rfl rfl) rfl
theorem dX7_hole_14 : decode cX7_hole 14 = .ok (.iload_n 2, 1) := jo_28 (jw1 jdcX7_hole_0 14 rfl rfl)
theorem dX7_hole_15 : decode cX7_hole 15 = .ok (.iconst 0, 1) := jo_3 (jw1 jdcX7_hole_0 15 rfl rfl)
theorem dX7_hole_16 : decode cX7_hole 16 = .ok (.aload_n 0, 1) := jo_42 (jw1 jdcX7_hole_0 16 rfl rfl)
theorem dX7_hole_17 : decode cX7_hole 17 = .ok (.getfield 77, 3) := jo_180 (a := 0) (b := 77) (jw3 jdcX7_hole_0 17 rfl rfl) rfl
theorem dX7_hole_20 : decode cX7_hole 20 = .ok (.iconst 1, 1) := jo_4 (jw1 jdcX7_hole_0 20 rfl rfl)
theorem dX7_hole_21 : decode cX7_hole 21 = .ok (.isub, 1) := jo_100 (jw1 jdcX7_hole_0 21 rfl rfl)
theorem dX7_hole_22 : decode cX7_hole 22 = .ok (.invokestatic 105, 3) := jo_184 (a := 0) (b := 105) (jw3 jdcX7_hole_0 22 rfl rfl) rfl
theorem dX7_hole_25 : decode cX7_hole 25 = .ok (.ifCond .ne 6, 3) := jo_154 (a := 0) (b := 6) (jw3 jdcX7_hole_0 25 rfl rfl) rfl
theorem jdcX7_hole_16 : jwk (cX7_hole.data.toList.drop 28) [16, 254, 172, 27, 42, 180, 0, 73, 28, 104, 96, 54, 4, 42, 180, 0, 80, 21, 4, 51, 29, 159, 0, 24, 21, 4] = true := by decide +kernel
theorem dX7_hole_28 : decode cX7_hole 28 = .ok (.bipush (-2), 2) := jo_16 (a := 254) (jw2 jdcX7_hole_16 0 rfl rfl) rfl
theorem dX7_hole_30 : decode cX7_hole 30 = .ok (.ireturn, 1) := jo_172 (jw1 jdcX7_hole_16 2 rfl rfl)
theorem dX7_hole_31 : decode cX7_hole 31 = .ok (.iload_n 1, 1) := jo_27 (jw1 jdcX7_hole_16 3 rfl rfl)
theorem dX7_hole_32 : decode cX7_hole 32 = .ok (.aload_n 0, 1) := jo_42 (jw1 jdcX7_hole_16 4 rfl rfl)
theorem dX7_hole_33 : decode cX7_hole 33 = .ok (.getfield 73, 3) := jo_180 (a := 0) (b := 73) (jw3 jdcX7_hole_16 5 rfl rfl) rfl
theorem dX7_hole_36 : decode cX7_hole 36 = .ok (.iload_n 2, 1) := jo_28 (jw1 jdcX7_hole_16 8 rfl rfl)
theorem dX7_hole_37 : decode cX7_hole 37 = .ok (.imul, 1) := jo_104 (jw1 jdcX7_hole_16 9 rfl rfl)
theorem dX7_hole_38 : decode cX7_hole 38 = .ok (.iadd, 1) := jo_96 (jw1 jdcX7_hole_16 10 rfl rfl)
theorem dX7_hole_39 : decode cX7_hole 39 = .ok (.istore 4, 2) := jo_54 (jw2 jdcX7_hole_16 11 rfl rfl)
theorem dX7_hole_41 : decode cX7_hole 41 = .ok (.aload_n 0, 1) := jo_42 (jw1 jdcX7_hole_16 13 rfl rfl)
theorem dX7_hole_42 : decode cX7_hole 42 = .ok (.getfield 80, 3) := jo_180 (a := 0) (b := 80) (jw3 jdcX7_hole_16 14 rfl rfl) rfl
theorem dX7_hole_45 : decode cX7_hole 45 = .ok (.iload 4, 2) := jo_21 (jw2 jdcX7_hole_16 17 rfl rfl)
theorem dX7_hole_47 : decode cX7_hole 47 = .ok (.baload, 1) := jo_51 (jw1 jdcX7_hole_16 19 rfl rfl)
theorem dX7_hole_48 : decode cX7_hole 48 = .ok (.iload_n 3, 1) := jo_29 (jw1 jdcX7_hole_16 20 rfl rfl)
theorem dX7_hole_49 : decode cX7_hole 49 = .ok (.if_icmp .eq 24, 3) := jo_159 (a := 0) (b := 24) (jw3 jdcX7_hole_16 21 rfl rfl) rfl
theorem dX7_hole_52 : decode cX7_hole 52 = .ok (.iload 4, 2) := jo_21 (jw2 jdcX7_hole_16 24 rfl rfl)
theorem jdcX7_hole_32 : jwk (cX7_hole.data.toList.drop 54) [153, 0, 19, 21, 4, 42, 180, 0, 73, 42, 180, 0, 77, 104, 4, 100, 160, 0, 6, 16, 253, 172, 42, 180, 0, 80, 21, 4, 29] = true := by decide +kernel
theorem dX7_hole_54 : decode cX7_hole 54 = .ok (.ifCond .eq 19, 3) := jo_153 (a := 0) (b := 19) (jw3 jdcX7_hole_32 0 rfl rfl) rfl
theorem dX7_hole_57 : decode cX7_hole 57 = .ok (.iload 4, 2) := jo_21 (jw2 jdcX7_hole_32 3 rfl rfl)
theorem dX7_hole_59 : decode cX7_hole 59 = .ok (.aload_n 0, 1) := jo_42 (jw1 jdcX7_hole_32 5 rfl rfl)
theorem dX7_hole_60 : decode cX7_hole 60 = .ok (.getfield 73, 3) := jo_180 (a := 0) (b := 73) (jw3 jdcX7_hole_32 6 rfl rfl) rfl
theorem dX7_hole_63 : decode cX7_hole 63 = .ok (.aload_n 0, 1) := jo_42 (jw1 jdcX7_hole_32 9 rfl rfl)
theorem dX7_hole_64 : decode cX7_hole 64 = .ok (.getfield 77, 3) := jo_180 (a := 0) (b := 77) (jw3 jdcX7_hole_32 10 rfl rfl) rfl
theorem dX7_hole_67 : decode cX7_hole 67 = .ok (.imul, 1) := jo_104 (jw1 jdcX7_hole_32 13 rfl rfl)
theorem dX7_hole_68 : decode cX7_hole 68 = .ok (.iconst 1, 1) := jo_4 (jw1 jdcX7_hole_32 14 rfl rfl)
theorem dX7_hole_69 : decode cX7_hole 69 = .ok (.isub, 1) := jo_100 (jw1 jdcX7_hole_32 15 rfl rfl)
theorem dX7_hole_70 : decode cX7_hole 70 = .ok (.if_icmp .ne 6, 3) := jo_160 (a := 0) (b := 6) (jw3 jdcX7_hole_32 16 rfl rfl) rfl
theorem dX7_hole_73 : decode cX7_hole 73 = .ok (.bipush (-3), 2) := jo_16 (a := 253) (jw2 jdcX7_hole_32 19 rfl rfl) rfl
theorem dX7_hole_75 : decode cX7_hole 75 = .ok (.ireturn, 1) := jo_172 (jw1 jdcX7_hole_32 21 rfl rfl)
theorem dX7_hole_76 : decode cX7_hole 76 = .ok (.aload_n 0, 1) := jo_42 (jw1 jdcX7_hole_32 22 rfl rfl)
theorem dX7_hole_77 : decode cX7_hole 77 = .ok (.getfield 80, 3) := jo_180 (a := 0) (b := 80) (jw3 jdcX7_hole_32 23 rfl rfl) rfl
theorem dX7_hole_80 : decode cX7_hole 80 = .ok (.iload 4, 2) := jo_21 (jw2 jdcX7_hole_32 26 rfl rfl)
theorem dX7_hole_82 : decode cX7_hole 82 = .ok (.iload_n 3, 1) := jo_29 (jw1 jdcX7_hole_32 28 rfl rfl)
theorem jdcX7_hole_48 : jwk (cX7_hole.data.toList.drop 83) [84, 42, 3, 181, 0, 214, 4, 172] = true := by decide +kernel
theorem dX7_hole_83 : decode cX7_hole 83 = .ok (.bastore, 1) := jo_84 (jw1 jdcX7_hole_48 0 rfl rfl)
theorem dX7_hole_84 : decode cX7_hole 84 = .ok (.aload_n 0, 1) := jo_42 (jw1 jdcX7_hole_48 1 rfl rfl)
theorem dX7_hole_85 : decode cX7_hole 85 = .ok (.iconst 0, 1) := jo_3 (jw1 jdcX7_hole_48 2 rfl rfl)
theorem dX7_hole_86 : decode cX7_hole 86 = .ok (.putfield 214, 3) := jo_181 (a := 0) (b := 214) (jw3 jdcX7_hole_48 3 rfl rfl) rfl
theorem dX7_hole_89 : decode cX7_hole 89 = .ok (.iconst 1, 1) := jo_4 (jw1 jdcX7_hole_48 6 rfl rfl)
theorem dX7_hole_90 : decode cX7_hole 90 = .ok (.ireturn, 1) := jo_172 (jw1 jdcX7_hole_48 7 rfl rfl)
theorem jdcX7_open_0 : jwk (cX7_open.data.toList.drop 0) [3, 60, 3, 61, 28, 42, 180, 0, 73, 42, 180, 0, 77, 104, 162, 0, 26, 27, 42, 180, 0, 80, 28, 51] = true := by decide +kernel
theorem dX7_open_0 : decode cX7_open 0 = .ok (.iconst 0, 1) := jo_3 (jw1 jdcX7_open_0 0 rfl rfl)
theorem dX7_open_1 : decode cX7_open 1 = .ok (.istore_n 1, 1) := jo_60 (jw1 jdcX7_open_0 1 rfl rfl)
theorem dX7_open_2 : decode cX7_open 2 = .ok (.iconst 0, 1) := jo_3 (jw1 jdcX7_open_0 2 rfl rfl)
theorem dX7_open_3 : decode cX7_open 3 = .ok (.istore_n 2, 1) := jo_61 (jw1 jdcX7_open_0 3 rfl rfl)
theorem dX7_open_4 : decode cX7_open 4 = .ok (.iload_n 2, 1) := jo_28 (jw1 jdcX7_open_0 4 rfl rfl)
theorem dX7_open_5 : decode cX7_open 5 = .ok (.aload_n 0, 1) := jo_42 (jw1 jdcX7_open_0 5 rfl rfl)
theorem dX7_open_6 : decode cX7_open 6 = .ok (.getfield 73, 3) := jo_180 (a := 0) (b := 73) (jw3 jdcX7_open_0 6 rfl rfl) rfl
theorem dX7_open_9 : decode cX7_open 9 = .ok (.aload_n 0, 1) := jo_42 (jw1 jdcX7_open_0 9 rfl rfl)
theorem dX7_open_10 : decode cX7_open 10 = .ok (.getfield 77, 3) := jo_180 (a := 0) (b := 77) (jw3 jdcX7_open_0 10 rfl rfl) rfl
theorem dX7_open_13 : decode cX7_open 13 = .ok (.imul, 1) := jo_104 (jw1 jdcX7_open_0 13 rfl rfl)
theorem dX7_open_14 : decode cX7_open 14 = .ok (.if_icmp .ge 26, 3) := jo_162 (a := 0) (b := 26) (jw3 jdcX7_open_0 14 rfl rfl) rfl
theorem dX7_open_17 : decode cX7_open 17 = .ok (.iload_n 1, 1) := jo_27 (jw1 jdcX7_open_0 17 rfl rfl)
theorem dX7_open_18 : decode cX7_open 18 = .ok (.aload_n 0, 1) := jo_42 (jw1 jdcX7_open_0 18 rfl rfl)
theorem dX7_open_19 : decode cX7_open 19 = .ok (.getfield 80, 3) := jo_180 (a := 0) (b := 80) (jw3 jdcX7_open_0 19 rfl rfl) rfl
theorem dX7_open_22 : decode cX7_open 22 = .ok (.iload_n 2, 1) := jo_28 (jw1 jdcX7_open_0 22 rfl rfl)
theorem dX7_open_23 : decode cX7_open 23 = .ok (.baload, 1) := jo_51 (jw1 jdcX7_open_0 23 rfl rfl)
theorem jdcX7_open_16 : jwk (cX7_open.data.toList.drop 24) [153, 0, 7, 3, 167, 0, 4, 4, 96, 60, 132, 2, 1, 167, 255, 223, 27, 172] = true := by decide +kernel
theorem dX7_open_24 : decode cX7_open 24 = .ok (.ifCond .eq 7, 3) := jo_153 (a := 0) (b := 7) (jw3 jdcX7_open_16 0 rfl rfl) rfl
theorem dX7_open_27 : decode cX7_open 27 = .ok (.iconst 0, 1) := jo_3 (jw1 jdcX7_open_16 3 rfl rfl)
theorem dX7_open_28 : decode cX7_open 28 = .ok (.goto 4, 3) := jo_167 (a := 0) (b := 4) (jw3 jdcX7_open_16 4 rfl rfl) rfl
theorem dX7_open_31 : decode cX7_open 31 = .ok (.iconst 1, 1) := jo_4 (jw1 jdcX7_open_16 7 rfl rfl)
theorem dX7_open_32 : decode cX7_open 32 = .ok (.iadd, 1) := jo_96 (jw1 jdcX7_open_16 8 rfl rfl)
theorem dX7_open_33 : decode cX7_open 33 = .ok (.istore_n 1, 1) := jo_60 (jw1 jdcX7_open_16 9 rfl rfl)
theorem dX7_open_34 : decode cX7_open 34 = .ok (.iinc 2 1, 3) := jo_132 (a := 2) (b := 1) (jw3 jdcX7_open_16 10 rfl rfl) rfl
theorem dX7_open_37 : decode cX7_open 37 = .ok (.goto (-33), 3) := jo_167 (a := 255) (b := 223) (jw3 jdcX7_open_16 13 rfl rfl) rfl
theorem dX7_open_40 : decode cX7_open 40 = .ok (.iload_n 1, 1) := jo_27 (jw1 jdcX7_open_16 16 rfl rfl)
theorem dX7_open_41 : decode cX7_open 41 = .ok (.ireturn, 1) := jo_172 (jw1 jdcX7_open_16 17 rfl rfl)
theorem jdcX7_next_0 : jwk (cX7_next.data.toList.drop 0) [27, 42, 180, 0, 73, 112, 3, 28, 184, 0, 112, 96, 62, 27, 42, 180, 0, 73, 108, 3, 28, 3] = true := by decide +kernel
theorem dX7_next_0 : decode cX7_next 0 = .ok (.iload_n 1, 1) := jo_27 (jw1 jdcX7_next_0 0 rfl rfl)
theorem dX7_next_1 : decode cX7_next 1 = .ok (.aload_n 0, 1) := jo_42 (jw1 jdcX7_next_0 1 rfl rfl)
theorem dX7_next_2 : decode cX7_next 2 = .ok (.getfield 73, 3) := jo_180 (a := 0) (b := 73) (jw3 jdcX7_next_0 2 rfl rfl) rfl
theorem dX7_next_5 : decode cX7_next 5 = .ok (.irem, 1) := jo_112 (jw1 jdcX7_next_0 5 rfl rfl)
theorem dX7_next_6 : decode cX7_next 6 = .ok (.iconst 0, 1) := jo_3 (jw1 jdcX7_next_0 6 rfl rfl)
theorem dX7_next_7 : decode cX7_next 7 = .ok (.iload_n 2, 1) := jo_28 (jw1 jdcX7_next_0 7 rfl rfl)
theorem dX7_next_8 : decode cX7_next 8 = .ok (.invokestatic 112, 3) := jo_184 (a := 0) (b := 112) (jw3 jdcX7_next_0 8 rfl rfl) rfl
theorem dX7_next_11 : decode cX7_next 11 = .ok (.iadd, 1) := jo_96 (jw1 jdcX7_next_0 11 rfl rfl)
theorem dX7_next_12 : decode cX7_next 12 = .ok (.istore_n 3, 1) := jo_62 (jw1 jdcX7_next_0 12 rfl rfl)
theorem dX7_next_13 : decode cX7_next 13 = .ok (.iload_n 1, 1) := jo_27 (jw1 jdcX7_next_0 13 rfl rfl)
theorem dX7_next_14 : decode cX7_next 14 = .ok (.aload_n 0, 1) := jo_42 (jw1 jdcX7_next_0 14 rfl rfl)
theorem dX7_next_15 : decode cX7_next 15 = .ok (.getfield 73, 3) := jo_180 (a := 0) (b := 73) (jw3 jdcX7_next_0 15 rfl rfl) rfl
theorem dX7_next_18 : decode cX7_next 18 = .ok (.idiv, 1) := jo_108 (jw1 jdcX7_next_0 18 rfl rfl)
theorem dX7_next_19 : decode cX7_next 19 = .ok (.iconst 0, 1) := jo_3 (jw1 jdcX7_next_0 19 rfl rfl)
theorem dX7_next_20 : decode cX7_next 20 = .ok (.iload_n 2, 1) := jo_28 (jw1 jdcX7_next_0 20 rfl rfl)
theorem dX7_next_21 : decode cX7_next 21 = .ok (.iconst 0, 1) := jo_3 (jw1 jdcX7_next_0 21 rfl rfl)
theorem jdcX7_next_16 : jwk (cX7_next.data.toList.drop 22) [184, 0, 115, 96, 54, 4, 29, 3, 42, 180, 0, 73, 4, 100, 184, 0, 105, 153, 0, 47, 21, 4, 3, 42, 180, 0, 77, 4] = true := by decide +kernel
theorem dX7_next_22 : decode cX7_next 22 = .ok (.invokestatic 115, 3) := jo_184 (a := 0) (b := 115) (jw3 jdcX7_next_16 0 rfl rfl) rfl
theorem dX7_next_25 : decode cX7_next 25 = .ok (.iadd, 1) := jo_96 (jw1 jdcX7_next_16 3 rfl rfl)
theorem dX7_next_26 : decode cX7_next 26 = .ok (.istore 4, 2) := jo_54 (jw2 jdcX7_next_16 4 rfl rfl)
theorem dX7_next_28 : decode cX7_next 28 = .ok (.iload_n 3, 1) := jo_29 (jw1 jdcX7_next_16 6 rfl rfl)
theorem dX7_next_29 : decode cX7_next 29 = .ok (.iconst 0, 1) := jo_3 (jw1 jdcX7_next_16 7 rfl rfl)
theorem dX7_next_30 : decode cX7_next 30 = .ok (.aload_n 0, 1) := jo_42 (jw1 jdcX7_next_16 8 rfl rfl)
theorem dX7_next_31 : decode cX7_next 31 = .ok (.getfield 73, 3) := jo_180 (a := 0) (b := 73) (jw3 jdcX7_next_16 9 rfl rfl) rfl
theorem dX7_next_34 : decode cX7_next 34 = .ok (.iconst 1, 1) := jo_4 (jw1 jdcX7_next_16 12 rfl rfl)
theorem dX7_next_35 : decode cX7_next 35 = .ok (.isub, 1) := jo_100 (jw1 jdcX7_next_16 13 rfl rfl)
theorem dX7_next_36 : decode cX7_next 36 = .ok (.invokestatic 105, 3) := jo_184 (a := 0) (b := 105) (jw3 jdcX7_next_16 14 rfl rfl) rfl
theorem dX7_next_39 : decode cX7_next 39 = .ok (.ifCond .eq 47, 3) := jo_153 (a := 0) (b := 47) (jw3 jdcX7_next_16 17 rfl rfl) rfl
theorem dX7_next_42 : decode cX7_next 42 = .ok (.iload 4, 2) := jo_21 (jw2 jdcX7_next_16 20 rfl rfl)
theorem dX7_next_44 : decode cX7_next 44 = .ok (.iconst 0, 1) := jo_3 (jw1 jdcX7_next_16 22 rfl rfl)
theorem dX7_next_45 : decode cX7_next 45 = .ok (.aload_n 0, 1) := jo_42 (jw1 jdcX7_next_16 23 rfl rfl)
theorem dX7_next_46 : decode cX7_next 46 = .ok (.getfield 77, 3) := jo_180 (a := 0) (b := 77) (jw3 jdcX7_next_16 24 rfl rfl) rfl
theorem dX7_next_49 : decode cX7_next 49 = .ok (.iconst 1, 1) := jo_4 (jw1 jdcX7_next_16 27 rfl rfl)
theorem jdcX7_next_32 : jwk (cX7_next.data.toList.drop 50) [100, 184, 0, 105, 153, 0, 32, 42, 180, 0, 80, 29, 42, 180, 0, 73, 21, 4, 104, 96, 51, 154, 0, 15, 29, 42, 180, 0, 73] = true := by decide +kernel
theorem dX7_next_50 : decode cX7_next 50 = .ok (.isub, 1) := jo_100 (jw1 jdcX7_next_32 0 rfl rfl)
theorem dX7_next_51 : decode cX7_next 51 = .ok (.invokestatic 105, 3) := jo_184 (a := 0) (b := 105) (jw3 jdcX7_next_32 1 rfl rfl) rfl
theorem dX7_next_54 : decode cX7_next 54 = .ok (.ifCond .eq 32, 3) := jo_153 (a := 0) (b := 32) (jw3 jdcX7_next_32 4 rfl rfl) rfl
theorem dX7_next_57 : decode cX7_next 57 = .ok (.aload_n 0, 1) := jo_42 (jw1 jdcX7_next_32 7 rfl rfl)
theorem dX7_next_58 : decode cX7_next 58 = .ok (.getfield 80, 3) := jo_180 (a := 0) (b := 80) (jw3 jdcX7_next_32 8 rfl rfl) rfl
theorem dX7_next_61 : decode cX7_next 61 = .ok (.iload_n 3, 1) := jo_29 (jw1 jdcX7_next_32 11 rfl rfl)
theorem dX7_next_62 : decode cX7_next 62 = .ok (.aload_n 0, 1) := jo_42 (jw1 jdcX7_next_32 12 rfl rfl)
theorem dX7_next_63 : decode cX7_next 63 = .ok (.getfield 73, 3) := jo_180 (a := 0) (b := 73) (jw3 jdcX7_next_32 13 rfl rfl) rfl
theorem dX7_next_66 : decode cX7_next 66 = .ok (.iload 4, 2) := jo_21 (jw2 jdcX7_next_32 16 rfl rfl)
theorem dX7_next_68 : decode cX7_next 68 = .ok (.imul, 1) := jo_104 (jw1 jdcX7_next_32 18 rfl rfl)
theorem dX7_next_69 : decode cX7_next 69 = .ok (.iadd, 1) := jo_96 (jw1 jdcX7_next_32 19 rfl rfl)
theorem dX7_next_70 : decode cX7_next 70 = .ok (.baload, 1) := jo_51 (jw1 jdcX7_next_32 20 rfl rfl)
theorem dX7_next_71 : decode cX7_next 71 = .ok (.ifCond .ne 15, 3) := jo_154 (a := 0) (b := 15) (jw3 jdcX7_next_32 21 rfl rfl) rfl
theorem dX7_next_74 : decode cX7_next 74 = .ok (.iload_n 3, 1) := jo_29 (jw1 jdcX7_next_32 24 rfl rfl)
theorem dX7_next_75 : decode cX7_next 75 = .ok (.aload_n 0, 1) := jo_42 (jw1 jdcX7_next_32 25 rfl rfl)
theorem dX7_next_76 : decode cX7_next 76 = .ok (.getfield 73, 3) := jo_180 (a := 0) (b := 73) (jw3 jdcX7_next_32 26 rfl rfl) rfl
theorem jdcX7_next_48 : jwk (cX7_next.data.toList.drop 79) [21, 4, 104, 96, 167, 0, 4, 2, 172] = true := by decide +kernel
theorem dX7_next_79 : decode cX7_next 79 = .ok (.iload 4, 2) := jo_21 (jw2 jdcX7_next_48 0 rfl rfl)
theorem dX7_next_81 : decode cX7_next 81 = .ok (.imul, 1) := jo_104 (jw1 jdcX7_next_48 2 rfl rfl)
theorem dX7_next_82 : decode cX7_next 82 = .ok (.iadd, 1) := jo_96 (jw1 jdcX7_next_48 3 rfl rfl)
theorem dX7_next_83 : decode cX7_next 83 = .ok (.goto 4, 3) := jo_167 (a := 0) (b := 4) (jw3 jdcX7_next_48 4 rfl rfl) rfl
theorem dX7_next_86 : decode cX7_next 86 = .ok (.iconst (-1), 1) := jo_2 (jw1 jdcX7_next_48 7 rfl rfl)
theorem dX7_next_87 : decode cX7_next 87 = .ok (.ireturn, 1) := jo_172 (jw1 jdcX7_next_48 8 rfl rfl)
theorem jdcX7_countWays_0 : jwk (cX7_countWays.data.toList.drop 0) [42, 180, 0, 214, 153, 0, 4, 177, 42, 4, 181, 0, 214, 42, 3, 181, 0, 218, 42, 3, 181, 0, 221, 3, 60, 27] = true := by decide +kernel
theorem dX7_countWays_0 : decode cX7_countWays 0 = .ok (.aload_n 0, 1) := jo_42 (jw1 jdcX7_countWays_0 0 rfl rfl)
theorem dX7_countWays_1 : decode cX7_countWays 1 = .ok (.getfield 214, 3) := jo_180 (a := 0) (b := 214) (jw3 jdcX7_countWays_0 1 rfl rfl) rfl
theorem dX7_countWays_4 : decode cX7_countWays 4 = .ok (.ifCond .eq 4, 3) := jo_153 (a := 0) (b := 4) (jw3 jdcX7_countWays_0 4 rfl rfl) rfl
theorem dX7_countWays_7 : decode cX7_countWays 7 = .ok (.return_, 1) := jo_177 (jw1 jdcX7_countWays_0 7 rfl rfl)
theorem dX7_countWays_8 : decode cX7_countWays 8 = .ok (.aload_n 0, 1) := jo_42 (jw1 jdcX7_countWays_0 8 rfl rfl)
theorem dX7_countWays_9 : decode cX7_countWays 9 = .ok (.iconst 1, 1) := jo_4 (jw1 jdcX7_countWays_0 9 rfl rfl)
theorem dX7_countWays_10 : decode cX7_countWays 10 = .ok (.putfield 214, 3) := jo_181 (a := 0) (b := 214) (jw3 jdcX7_countWays_0 10 rfl rfl) rfl
theorem dX7_countWays_13 : decode cX7_countWays 13 = .ok (.aload_n 0, 1) := jo_42 (jw1 jdcX7_countWays_0 13 rfl rfl)
theorem dX7_countWays_14 : decode cX7_countWays 14 = .ok (.iconst 0, 1) := jo_3 (jw1 jdcX7_countWays_0 14 rfl rfl)
theorem dX7_countWays_15 : decode cX7_countWays 15 = .ok (.putfield 218, 3) := jo_181 (a := 0) (b := 218) (jw3 jdcX7_countWays_0 15 rfl rfl) rfl
theorem dX7_countWays_18 : decode cX7_countWays 18 = .ok (.aload_n 0, 1) := jo_42 (jw1 jdcX7_countWays_0 18 rfl rfl)
theorem dX7_countWays_19 : decode cX7_countWays 19 = .ok (.iconst 0, 1) := jo_3 (jw1 jdcX7_countWays_0 19 rfl rfl)
theorem dX7_countWays_20 : decode cX7_countWays 20 = .ok (.putfield 221, 3) := jo_181 (a := 0) (b := 221) (jw3 jdcX7_countWays_0 20 rfl rfl) rfl
theorem dX7_countWays_23 : decode cX7_countWays 23 = .ok (.iconst 0, 1) := jo_3 (jw1 jdcX7_countWays_0 23 rfl rfl)
theorem dX7_countWays_24 : decode cX7_countWays 24 = .ok (.istore_n 1, 1) := jo_60 (jw1 jdcX7_countWays_0 24 rfl rfl)
theorem dX7_countWays_25 : decode cX7_countWays 25 = .ok (.iload_n 1, 1) := jo_27 (jw1 jdcX7_countWays_0 25 rfl rfl)
theorem jdcX7_countWays_16 : jwk (cX7_countWays.data.toList.drop 26) [16, 36, 162, 0, 23, 42, 180, 0, 83, 27, 3, 79, 42, 180, 0, 86, 27, 3, 84, 132, 1, 1, 167, 255, 233, 3, 60] = true := by decide +kernel
theorem dX7_countWays_26 : decode cX7_countWays 26 = .ok (.bipush 36, 2) := jo_16 (a := 36) (jw2 jdcX7_countWays_16 0 rfl rfl) rfl
theorem dX7_countWays_28 : decode cX7_countWays 28 = .ok (.if_icmp .ge 23, 3) := jo_162 (a := 0) (b := 23) (jw3 jdcX7_countWays_16 2 rfl rfl) rfl
theorem dX7_countWays_31 : decode cX7_countWays 31 = .ok (.aload_n 0, 1) := jo_42 (jw1 jdcX7_countWays_16 5 rfl rfl)
theorem dX7_countWays_32 : decode cX7_countWays 32 = .ok (.getfield 83, 3) := jo_180 (a := 0) (b := 83) (jw3 jdcX7_countWays_16 6 rfl rfl) rfl
theorem dX7_countWays_35 : decode cX7_countWays 35 = .ok (.iload_n 1, 1) := jo_27 (jw1 jdcX7_countWays_16 9 rfl rfl)
theorem dX7_countWays_36 : decode cX7_countWays 36 = .ok (.iconst 0, 1) := jo_3 (jw1 jdcX7_countWays_16 10 rfl rfl)
theorem dX7_countWays_37 : decode cX7_countWays 37 = .ok (.iastore, 1) := jo_79 (jw1 jdcX7_countWays_16 11 rfl rfl)
theorem dX7_countWays_38 : decode cX7_countWays 38 = .ok (.aload_n 0, 1) := jo_42 (jw1 jdcX7_countWays_16 12 rfl rfl)
theorem dX7_countWays_39 : decode cX7_countWays 39 = .ok (.getfield 86, 3) := jo_180 (a := 0) (b := 86) (jw3 jdcX7_countWays_16 13 rfl rfl) rfl
theorem dX7_countWays_42 : decode cX7_countWays 42 = .ok (.iload_n 1, 1) := jo_27 (jw1 jdcX7_countWays_16 16 rfl rfl)
theorem dX7_countWays_43 : decode cX7_countWays 43 = .ok (.iconst 0, 1) := jo_3 (jw1 jdcX7_countWays_16 17 rfl rfl)
theorem dX7_countWays_44 : decode cX7_countWays 44 = .ok (.bastore, 1) := jo_84 (jw1 jdcX7_countWays_16 18 rfl rfl)
theorem dX7_countWays_45 : decode cX7_countWays 45 = .ok (.iinc 1 1, 3) := jo_132 (a := 1) (b := 1) (jw3 jdcX7_countWays_16 19 rfl rfl) rfl
theorem dX7_countWays_48 : decode cX7_countWays 48 = .ok (.goto (-23), 3) := jo_167 (a := 255) (b := 233) (jw3 jdcX7_countWays_16 22 rfl rfl) rfl
theorem dX7_countWays_51 : decode cX7_countWays 51 = .ok (.iconst 0, 1) := jo_3 (jw1 jdcX7_countWays_16 25 rfl rfl)
theorem dX7_countWays_52 : decode cX7_countWays 52 = .ok (.istore_n 1, 1) := jo_60 (jw1 jdcX7_countWays_16 26 rfl rfl)
theorem jdcX7_countWays_32 : jwk (cX7_countWays.data.toList.drop 53) [3, 61, 42, 182, 0, 224, 62, 42, 180, 0, 89, 3, 3, 79, 42, 180, 0, 86, 3, 4, 84, 42] = true := by decide +kernel
theorem dX7_countWays_53 : decode cX7_countWays 53 = .ok (.iconst 0, 1) := jo_3 (jw1 jdcX7_countWays_32 0 rfl rfl)
theorem dX7_countWays_54 : decode cX7_countWays 54 = .ok (.istore_n 2, 1) := jo_61 (jw1 jdcX7_countWays_32 1 rfl rfl)
theorem dX7_countWays_55 : decode cX7_countWays 55 = .ok (.aload_n 0, 1) := jo_42 (jw1 jdcX7_countWays_32 2 rfl rfl)
theorem dX7_countWays_56 : decode cX7_countWays 56 = .ok (.invokevirtual 224, 3) := jo_182 (a := 0) (b := 224) (jw3 jdcX7_countWays_32 3 rfl rfl) rfl
theorem dX7_countWays_59 : decode cX7_countWays 59 = .ok (.istore_n 3, 1) := jo_62 (jw1 jdcX7_countWays_32 6 rfl rfl)
theorem dX7_countWays_60 : decode cX7_countWays 60 = .ok (.aload_n 0, 1) := jo_42 (jw1 jdcX7_countWays_32 7 rfl rfl)
theorem dX7_countWays_61 : decode cX7_countWays 61 = .ok (.getfield 89, 3) := jo_180 (a := 0) (b := 89) (jw3 jdcX7_countWays_32 8 rfl rfl) rfl
theorem dX7_countWays_64 : decode cX7_countWays 64 = .ok (.iconst 0, 1) := jo_3 (jw1 jdcX7_countWays_32 11 rfl rfl)
theorem dX7_countWays_65 : decode cX7_countWays 65 = .ok (.iconst 0, 1) := jo_3 (jw1 jdcX7_countWays_32 12 rfl rfl)
theorem dX7_countWays_66 : decode cX7_countWays 66 = .ok (.iastore, 1) := jo_79 (jw1 jdcX7_countWays_32 13 rfl rfl)
theorem dX7_countWays_67 : decode cX7_countWays 67 = .ok (.aload_n 0, 1) := jo_42 (jw1 jdcX7_countWays_32 14 rfl rfl)
theorem dX7_countWays_68 : decode cX7_countWays 68 = .ok (.getfield 86, 3) := jo_180 (a := 0) (b := 86) (jw3 jdcX7_countWays_32 15 rfl rfl) rfl
theorem dX7_countWays_71 : decode cX7_countWays 71 = .ok (.iconst 0, 1) := jo_3 (jw1 jdcX7_countWays_32 18 rfl rfl)
theorem dX7_countWays_72 : decode cX7_countWays 72 = .ok (.iconst 1, 1) := jo_4 (jw1 jdcX7_countWays_32 19 rfl rfl)
theorem dX7_countWays_73 : decode cX7_countWays 73 = .ok (.bastore, 1) := jo_84 (jw1 jdcX7_countWays_32 20 rfl rfl)
theorem dX7_countWays_74 : decode cX7_countWays 74 = .ok (.aload_n 0, 1) := jo_42 (jw1 jdcX7_countWays_32 21 rfl rfl)
theorem jdcX7_countWays_48 : jwk (cX7_countWays.data.toList.drop 75) [180, 0, 92, 3, 2, 79, 28, 155, 0, 166, 42, 180, 0, 92, 28, 92, 46, 4, 96, 79, 42, 180, 0, 92] = true := by decide +kernel
theorem dX7_countWays_75 : decode cX7_countWays 75 = .ok (.getfield 92, 3) := jo_180 (a := 0) (b := 92) (jw3 jdcX7_countWays_48 0 rfl rfl) rfl
theorem dX7_countWays_78 : decode cX7_countWays 78 = .ok (.iconst 0, 1) := jo_3 (jw1 jdcX7_countWays_48 3 rfl rfl)
theorem dX7_countWays_79 : decode cX7_countWays 79 = .ok (.iconst (-1), 1) := jo_2 (jw1 jdcX7_countWays_48 4 rfl rfl)
theorem dX7_countWays_80 : decode cX7_countWays 80 = .ok (.iastore, 1) := jo_79 (jw1 jdcX7_countWays_48 5 rfl rfl)
theorem dX7_countWays_81 : decode cX7_countWays 81 = .ok (.iload_n 2, 1) := jo_28 (jw1 jdcX7_countWays_48 6 rfl rfl)
theorem dX7_countWays_82 : decode cX7_countWays 82 = .ok (.ifCond .lt 166, 3) := jo_155 (a := 0) (b := 166) (jw3 jdcX7_countWays_48 7 rfl rfl) rfl
theorem dX7_countWays_85 : decode cX7_countWays 85 = .ok (.aload_n 0, 1) := jo_42 (jw1 jdcX7_countWays_48 10 rfl rfl)
theorem dX7_countWays_86 : decode cX7_countWays 86 = .ok (.getfield 92, 3) := jo_180 (a := 0) (b := 92) (jw3 jdcX7_countWays_48 11 rfl rfl) rfl
theorem dX7_countWays_89 : decode cX7_countWays 89 = .ok (.iload_n 2, 1) := jo_28 (jw1 jdcX7_countWays_48 14 rfl rfl)
theorem dX7_countWays_90 : decode cX7_countWays 90 = .ok (.dup2, 1) := jo_92 (jw1 jdcX7_countWays_48 15 rfl rfl)
theorem dX7_countWays_91 : decode cX7_countWays 91 = .ok (.iaload, 1) := jo_46 (jw1 jdcX7_countWays_48 16 rfl rfl)
theorem dX7_countWays_92 : decode cX7_countWays 92 = .ok (.iconst 1, 1) := jo_4 (jw1 jdcX7_countWays_48 17 rfl rfl)
theorem dX7_countWays_93 : decode cX7_countWays 93 = .ok (.iadd, 1) := jo_96 (jw1 jdcX7_countWays_48 18 rfl rfl)
theorem dX7_countWays_94 : decode cX7_countWays 94 = .ok (.iastore, 1) := jo_79 (jw1 jdcX7_countWays_48 19 rfl rfl)
theorem dX7_countWays_95 : decode cX7_countWays 95 = .ok (.aload_n 0, 1) := jo_42 (jw1 jdcX7_countWays_48 20 rfl rfl)
theorem dX7_countWays_96 : decode cX7_countWays 96 = .ok (.getfield 92, 3) := jo_180 (a := 0) (b := 92) (jw3 jdcX7_countWays_48 21 rfl rfl) rfl
theorem jdcX7_countWays_64 : jwk (cX7_countWays.data.toList.drop 99) [28, 46, 7, 160, 0, 21, 42, 180, 0, 86, 42, 180, 0, 89, 28, 46, 3, 84, 132, 2, 255, 167, 255, 217, 42, 42] = true := by decide +kernel
theorem dX7_countWays_99 : decode cX7_countWays 99 = .ok (.iload_n 2, 1) := jo_28 (jw1 jdcX7_countWays_64 0 rfl rfl)
theorem dX7_countWays_100 : decode cX7_countWays 100 = .ok (.iaload, 1) := jo_46 (jw1 jdcX7_countWays_64 1 rfl rfl)
theorem dX7_countWays_101 : decode cX7_countWays 101 = .ok (.iconst 4, 1) := jo_7 (jw1 jdcX7_countWays_64 2 rfl rfl)
theorem dX7_countWays_102 : decode cX7_countWays 102 = .ok (.if_icmp .ne 21, 3) := jo_160 (a := 0) (b := 21) (jw3 jdcX7_countWays_64 3 rfl rfl) rfl
theorem dX7_countWays_105 : decode cX7_countWays 105 = .ok (.aload_n 0, 1) := jo_42 (jw1 jdcX7_countWays_64 6 rfl rfl)
theorem dX7_countWays_106 : decode cX7_countWays 106 = .ok (.getfield 86, 3) := jo_180 (a := 0) (b := 86) (jw3 jdcX7_countWays_64 7 rfl rfl) rfl
theorem dX7_countWays_109 : decode cX7_countWays 109 = .ok (.aload_n 0, 1) := jo_42 (jw1 jdcX7_countWays_64 10 rfl rfl)
theorem dX7_countWays_110 : decode cX7_countWays 110 = .ok (.getfield 89, 3) := jo_180 (a := 0) (b := 89) (jw3 jdcX7_countWays_64 11 rfl rfl) rfl
theorem dX7_countWays_113 : decode cX7_countWays 113 = .ok (.iload_n 2, 1) := jo_28 (jw1 jdcX7_countWays_64 14 rfl rfl)
theorem dX7_countWays_114 : decode cX7_countWays 114 = .ok (.iaload, 1) := jo_46 (jw1 jdcX7_countWays_64 15 rfl rfl)
theorem dX7_countWays_115 : decode cX7_countWays 115 = .ok (.iconst 0, 1) := jo_3 (jw1 jdcX7_countWays_64 16 rfl rfl)
theorem dX7_countWays_116 : decode cX7_countWays 116 = .ok (.bastore, 1) := jo_84 (jw1 jdcX7_countWays_64 17 rfl rfl)
theorem dX7_countWays_117 : decode cX7_countWays 117 = .ok (.iinc 2 (-1), 3) := jo_132 (a := 2) (b := 255) (jw3 jdcX7_countWays_64 18 rfl rfl) rfl
theorem dX7_countWays_120 : decode cX7_countWays 120 = .ok (.goto (-39), 3) := jo_167 (a := 255) (b := 217) (jw3 jdcX7_countWays_64 21 rfl rfl) rfl
theorem dX7_countWays_123 : decode cX7_countWays 123 = .ok (.aload_n 0, 1) := jo_42 (jw1 jdcX7_countWays_64 24 rfl rfl)
theorem dX7_countWays_124 : decode cX7_countWays 124 = .ok (.aload_n 0, 1) := jo_42 (jw1 jdcX7_countWays_64 25 rfl rfl)
theorem jdcX7_countWays_80 : jwk (cX7_countWays.data.toList.drop 125) [180, 0, 89, 28, 46, 42, 180, 0, 92, 28, 46, 182, 0, 227, 54, 4, 21, 4, 2, 159, 0, 101, 42, 180, 0, 86, 21, 4, 51] = true := by decide +kernel
theorem dX7_countWays_125 : decode cX7_countWays 125 = .ok (.getfield 89, 3) := jo_180 (a := 0) (b := 89) (jw3 jdcX7_countWays_80 0 rfl rfl) rfl
theorem dX7_countWays_128 : decode cX7_countWays 128 = .ok (.iload_n 2, 1) := jo_28 (jw1 jdcX7_countWays_80 3 rfl rfl)
theorem dX7_countWays_129 : decode cX7_countWays 129 = .ok (.iaload, 1) := jo_46 (jw1 jdcX7_countWays_80 4 rfl rfl)
theorem dX7_countWays_130 : decode cX7_countWays 130 = .ok (.aload_n 0, 1) := jo_42 (jw1 jdcX7_countWays_80 5 rfl rfl)
theorem dX7_countWays_131 : decode cX7_countWays 131 = .ok (.getfield 92, 3) := jo_180 (a := 0) (b := 92) (jw3 jdcX7_countWays_80 6 rfl rfl) rfl
theorem dX7_countWays_134 : decode cX7_countWays 134 = .ok (.iload_n 2, 1) := jo_28 (jw1 jdcX7_countWays_80 9 rfl rfl)
theorem dX7_countWays_135 : decode cX7_countWays 135 = .ok (.iaload, 1) := jo_46 (jw1 jdcX7_countWays_80 10 rfl rfl)
theorem dX7_countWays_136 : decode cX7_countWays 136 = .ok (.invokevirtual 227, 3) := jo_182 (a := 0) (b := 227) (jw3 jdcX7_countWays_80 11 rfl rfl) rfl
theorem dX7_countWays_139 : decode cX7_countWays 139 = .ok (.istore 4, 2) := jo_54 (jw2 jdcX7_countWays_80 14 rfl rfl)
theorem dX7_countWays_141 : decode cX7_countWays 141 = .ok (.iload 4, 2) := jo_21 (jw2 jdcX7_countWays_80 16 rfl rfl)
theorem dX7_countWays_143 : decode cX7_countWays 143 = .ok (.iconst (-1), 1) := jo_2 (jw1 jdcX7_countWays_80 18 rfl rfl)
theorem dX7_countWays_144 : decode cX7_countWays 144 = .ok (.if_icmp .eq 101, 3) := jo_159 (a := 0) (b := 101) (jw3 jdcX7_countWays_80 19 rfl rfl) rfl
theorem dX7_countWays_147 : decode cX7_countWays 147 = .ok (.aload_n 0, 1) := jo_42 (jw1 jdcX7_countWays_80 22 rfl rfl)
theorem dX7_countWays_148 : decode cX7_countWays 148 = .ok (.getfield 86, 3) := jo_180 (a := 0) (b := 86) (jw3 jdcX7_countWays_80 23 rfl rfl) rfl
theorem dX7_countWays_151 : decode cX7_countWays 151 = .ok (.iload 4, 2) := jo_21 (jw2 jdcX7_countWays_80 26 rfl rfl)
theorem dX7_countWays_153 : decode cX7_countWays 153 = .ok (.baload, 1) := jo_51 (jw1 jdcX7_countWays_80 28 rfl rfl)
theorem jdcX7_countWays_96 : jwk (cX7_countWays.data.toList.drop 154) [154, 0, 91, 132, 1, 1, 27, 18, 180, 164, 0, 9, 42, 4, 181, 0, 218, 177, 132, 2, 1, 42, 180, 0, 89, 28, 21, 4, 79, 42] = true := by decide +kernel
theorem dX7_countWays_154 : decode cX7_countWays 154 = .ok (.ifCond .ne 91, 3) := jo_154 (a := 0) (b := 91) (jw3 jdcX7_countWays_96 0 rfl rfl) rfl
theorem dX7_countWays_157 : decode cX7_countWays 157 = .ok (.iinc 1 1, 3) := jo_132 (a := 1) (b := 1) (jw3 jdcX7_countWays_96 3 rfl rfl) rfl
theorem dX7_countWays_160 : decode cX7_countWays 160 = .ok (.iload_n 1, 1) := jo_27 (jw1 jdcX7_countWays_96 6 rfl rfl)
theorem dX7_countWays_161 : decode cX7_countWays 161 = .ok (.ldc 180, 2) := jo_18 (jw2 jdcX7_countWays_96 7 rfl rfl)
theorem dX7_countWays_163 : decode cX7_countWays 163 = .ok (.if_icmp .le 9, 3) := jo_164 (a := 0) (b := 9) (jw3 jdcX7_countWays_96 9 rfl rfl) rfl
theorem dX7_countWays_166 : decode cX7_countWays 166 = .ok (.aload_n 0, 1) := jo_42 (jw1 jdcX7_countWays_96 12 rfl rfl)
theorem dX7_countWays_167 : decode cX7_countWays 167 = .ok (.iconst 1, 1) := jo_4 (jw1 jdcX7_countWays_96 13 rfl rfl)
theorem dX7_countWays_168 : decode cX7_countWays 168 = .ok (.putfield 218, 3) := jo_181 (a := 0) (b := 218) (jw3 jdcX7_countWays_96 14 rfl rfl) rfl
theorem dX7_countWays_171 : decode cX7_countWays 171 = .ok (.return_, 1) := jo_177 (jw1 jdcX7_countWays_96 17 rfl rfl)
theorem dX7_countWays_172 : decode cX7_countWays 172 = .ok (.iinc 2 1, 3) := jo_132 (a := 2) (b := 1) (jw3 jdcX7_countWays_96 18 rfl rfl) rfl
theorem dX7_countWays_175 : decode cX7_countWays 175 = .ok (.aload_n 0, 1) := jo_42 (jw1 jdcX7_countWays_96 21 rfl rfl)
theorem dX7_countWays_176 : decode cX7_countWays 176 = .ok (.getfield 89, 3) := jo_180 (a := 0) (b := 89) (jw3 jdcX7_countWays_96 22 rfl rfl) rfl
theorem dX7_countWays_179 : decode cX7_countWays 179 = .ok (.iload_n 2, 1) := jo_28 (jw1 jdcX7_countWays_96 25 rfl rfl)
theorem dX7_countWays_180 : decode cX7_countWays 180 = .ok (.iload 4, 2) := jo_21 (jw2 jdcX7_countWays_96 26 rfl rfl)
theorem dX7_countWays_182 : decode cX7_countWays 182 = .ok (.iastore, 1) := jo_79 (jw1 jdcX7_countWays_96 28 rfl rfl)
theorem dX7_countWays_183 : decode cX7_countWays 183 = .ok (.aload_n 0, 1) := jo_42 (jw1 jdcX7_countWays_96 29 rfl rfl)
theorem jdcX7_countWays_112 : jwk (cX7_countWays.data.toList.drop 184) [180, 0, 86, 21, 4, 4, 84, 42, 180, 0, 92, 28, 2, 79, 21, 4, 42, 180, 0, 73, 42, 180, 0, 77, 104, 4] = true := by decide +kernel
theorem dX7_countWays_184 : decode cX7_countWays 184 = .ok (.getfield 86, 3) := jo_180 (a := 0) (b := 86) (jw3 jdcX7_countWays_112 0 rfl rfl) rfl
theorem dX7_countWays_187 : decode cX7_countWays 187 = .ok (.iload 4, 2) := jo_21 (jw2 jdcX7_countWays_112 3 rfl rfl)
theorem dX7_countWays_189 : decode cX7_countWays 189 = .ok (.iconst 1, 1) := jo_4 (jw1 jdcX7_countWays_112 5 rfl rfl)
theorem dX7_countWays_190 : decode cX7_countWays 190 = .ok (.bastore, 1) := jo_84 (jw1 jdcX7_countWays_112 6 rfl rfl)
theorem dX7_countWays_191 : decode cX7_countWays 191 = .ok (.aload_n 0, 1) := jo_42 (jw1 jdcX7_countWays_112 7 rfl rfl)
theorem dX7_countWays_192 : decode cX7_countWays 192 = .ok (.getfield 92, 3) := jo_180 (a := 0) (b := 92) (jw3 jdcX7_countWays_112 8 rfl rfl) rfl
theorem dX7_countWays_195 : decode cX7_countWays 195 = .ok (.iload_n 2, 1) := jo_28 (jw1 jdcX7_countWays_112 11 rfl rfl)
theorem dX7_countWays_196 : decode cX7_countWays 196 = .ok (.iconst (-1), 1) := jo_2 (jw1 jdcX7_countWays_112 12 rfl rfl)
theorem dX7_countWays_197 : decode cX7_countWays 197 = .ok (.iastore, 1) := jo_79 (jw1 jdcX7_countWays_112 13 rfl rfl)
theorem dX7_countWays_198 : decode cX7_countWays 198 = .ok (.iload 4, 2) := jo_21 (jw2 jdcX7_countWays_112 14 rfl rfl)
theorem dX7_countWays_200 : decode cX7_countWays 200 = .ok (.aload_n 0, 1) := jo_42 (jw1 jdcX7_countWays_112 16 rfl rfl)
theorem dX7_countWays_201 : decode cX7_countWays 201 = .ok (.getfield 73, 3) := jo_180 (a := 0) (b := 73) (jw3 jdcX7_countWays_112 17 rfl rfl) rfl
theorem dX7_countWays_204 : decode cX7_countWays 204 = .ok (.aload_n 0, 1) := jo_42 (jw1 jdcX7_countWays_112 20 rfl rfl)
theorem dX7_countWays_205 : decode cX7_countWays 205 = .ok (.getfield 77, 3) := jo_180 (a := 0) (b := 77) (jw3 jdcX7_countWays_112 21 rfl rfl) rfl
theorem dX7_countWays_208 : decode cX7_countWays 208 = .ok (.imul, 1) := jo_104 (jw1 jdcX7_countWays_112 24 rfl rfl)
theorem dX7_countWays_209 : decode cX7_countWays 209 = .ok (.iconst 1, 1) := jo_4 (jw1 jdcX7_countWays_112 25 rfl rfl)
theorem jdcX7_countWays_128 : jwk (cX7_countWays.data.toList.drop 210) [100, 160, 0, 34, 42, 180, 0, 83, 28, 92, 46, 4, 96, 79, 42, 89, 180, 0, 221, 28, 4, 96] = true := by decide +kernel
theorem dX7_countWays_210 : decode cX7_countWays 210 = .ok (.isub, 1) := jo_100 (jw1 jdcX7_countWays_128 0 rfl rfl)
theorem dX7_countWays_211 : decode cX7_countWays 211 = .ok (.if_icmp .ne 34, 3) := jo_160 (a := 0) (b := 34) (jw3 jdcX7_countWays_128 1 rfl rfl) rfl
theorem dX7_countWays_214 : decode cX7_countWays 214 = .ok (.aload_n 0, 1) := jo_42 (jw1 jdcX7_countWays_128 4 rfl rfl)
theorem dX7_countWays_215 : decode cX7_countWays 215 = .ok (.getfield 83, 3) := jo_180 (a := 0) (b := 83) (jw3 jdcX7_countWays_128 5 rfl rfl) rfl
theorem dX7_countWays_218 : decode cX7_countWays 218 = .ok (.iload_n 2, 1) := jo_28 (jw1 jdcX7_countWays_128 8 rfl rfl)
theorem dX7_countWays_219 : decode cX7_countWays 219 = .ok (.dup2, 1) := jo_92 (jw1 jdcX7_countWays_128 9 rfl rfl)
theorem dX7_countWays_220 : decode cX7_countWays 220 = .ok (.iaload, 1) := jo_46 (jw1 jdcX7_countWays_128 10 rfl rfl)
theorem dX7_countWays_221 : decode cX7_countWays 221 = .ok (.iconst 1, 1) := jo_4 (jw1 jdcX7_countWays_128 11 rfl rfl)
theorem dX7_countWays_222 : decode cX7_countWays 222 = .ok (.iadd, 1) := jo_96 (jw1 jdcX7_countWays_128 12 rfl rfl)
theorem dX7_countWays_223 : decode cX7_countWays 223 = .ok (.iastore, 1) := jo_79 (jw1 jdcX7_countWays_128 13 rfl rfl)
theorem dX7_countWays_224 : decode cX7_countWays 224 = .ok (.aload_n 0, 1) := jo_42 (jw1 jdcX7_countWays_128 14 rfl rfl)
theorem dX7_countWays_225 : decode cX7_countWays 225 = .ok (.dup, 1) := jo_89 (jw1 jdcX7_countWays_128 15 rfl rfl)
theorem dX7_countWays_226 : decode cX7_countWays 226 = .ok (.getfield 221, 3) := jo_180 (a := 0) (b := 221) (jw3 jdcX7_countWays_128 16 rfl rfl) rfl
theorem dX7_countWays_229 : decode cX7_countWays 229 = .ok (.iload_n 2, 1) := jo_28 (jw1 jdcX7_countWays_128 19 rfl rfl)
theorem dX7_countWays_230 : decode cX7_countWays 230 = .ok (.iconst 1, 1) := jo_4 (jw1 jdcX7_countWays_128 20 rfl rfl)
theorem dX7_countWays_231 : decode cX7_countWays 231 = .ok (.iadd, 1) := jo_96 (jw1 jdcX7_countWays_128 21 rfl rfl)
theorem jdcX7_countWays_144 : jwk (cX7_countWays.data.toList.drop 232) [29, 160, 0, 7, 4, 167, 0, 4, 3, 96, 181, 0, 221, 167, 255, 92, 177] = true := by decide +kernel
theorem dX7_countWays_232 : decode cX7_countWays 232 = .ok (.iload_n 3, 1) := jo_29 (jw1 jdcX7_countWays_144 0 rfl rfl)
theorem dX7_countWays_233 : decode cX7_countWays 233 = .ok (.if_icmp .ne 7, 3) := jo_160 (a := 0) (b := 7) (jw3 jdcX7_countWays_144 1 rfl rfl) rfl
theorem dX7_countWays_236 : decode cX7_countWays 236 = .ok (.iconst 1, 1) := jo_4 (jw1 jdcX7_countWays_144 4 rfl rfl)
theorem dX7_countWays_237 : decode cX7_countWays 237 = .ok (.goto 4, 3) := jo_167 (a := 0) (b := 4) (jw3 jdcX7_countWays_144 5 rfl rfl) rfl
theorem dX7_countWays_240 : decode cX7_countWays 240 = .ok (.iconst 0, 1) := jo_3 (jw1 jdcX7_countWays_144 8 rfl rfl)
theorem dX7_countWays_241 : decode cX7_countWays 241 = .ok (.iadd, 1) := jo_96 (jw1 jdcX7_countWays_144 9 rfl rfl)
theorem dX7_countWays_242 : decode cX7_countWays 242 = .ok (.putfield 221, 3) := jo_181 (a := 0) (b := 221) (jw3 jdcX7_countWays_144 10 rfl rfl) rfl
theorem dX7_countWays_245 : decode cX7_countWays 245 = .ok (.goto (-164), 3) := jo_167 (a := 255) (b := 92) (jw3 jdcX7_countWays_144 13 rfl rfl) rfl
theorem dX7_countWays_248 : decode cX7_countWays 248 = .ok (.return_, 1) := jo_177 (jw1 jdcX7_countWays_144 16 rfl rfl)
theorem jdcX7_ways_0 : jwk (cX7_ways.data.toList.drop 0) [42, 182, 0, 230, 42, 180, 0, 218, 153, 0, 6, 16, 251, 172, 3, 61, 3, 62, 29, 16, 36, 162, 0, 18, 28, 42] = true := by decide +kernel
theorem dX7_ways_0 : decode cX7_ways 0 = .ok (.aload_n 0, 1) := jo_42 (jw1 jdcX7_ways_0 0 rfl rfl)
theorem dX7_ways_1 : decode cX7_ways 1 = .ok (.invokevirtual 230, 3) := jo_182 (a := 0) (b := 230) (jw3 jdcX7_ways_0 1 rfl rfl) rfl
theorem dX7_ways_4 : decode cX7_ways 4 = .ok (.aload_n 0, 1) := jo_42 (jw1 jdcX7_ways_0 4 rfl rfl)
theorem dX7_ways_5 : decode cX7_ways 5 = .ok (.getfield 218, 3) := jo_180 (a := 0) (b := 218) (jw3 jdcX7_ways_0 5 rfl rfl) rfl
theorem dX7_ways_8 : decode cX7_ways 8 = .ok (.ifCond .eq 6, 3) := jo_153 (a := 0) (b := 6) (jw3 jdcX7_ways_0 8 rfl rfl) rfl
theorem dX7_ways_11 : decode cX7_ways 11 = .ok (.bipush (-5), 2) := jo_16 (a := 251) (jw2 jdcX7_ways_0 11 rfl rfl) rfl
theorem dX7_ways_13 : decode cX7_ways 13 = .ok (.ireturn, 1) := jo_172 (jw1 jdcX7_ways_0 13 rfl rfl)
theorem dX7_ways_14 : decode cX7_ways 14 = .ok (.iconst 0, 1) := jo_3 (jw1 jdcX7_ways_0 14 rfl rfl)
theorem dX7_ways_15 : decode cX7_ways 15 = .ok (.istore_n 2, 1) := jo_61 (jw1 jdcX7_ways_0 15 rfl rfl)
theorem dX7_ways_16 : decode cX7_ways 16 = .ok (.iconst 0, 1) := jo_3 (jw1 jdcX7_ways_0 16 rfl rfl)
theorem dX7_ways_17 : decode cX7_ways 17 = .ok (.istore_n 3, 1) := jo_62 (jw1 jdcX7_ways_0 17 rfl rfl)
theorem dX7_ways_18 : decode cX7_ways 18 = .ok (.iload_n 3, 1) := jo_29 (jw1 jdcX7_ways_0 18 rfl rfl)
theorem dX7_ways_19 : decode cX7_ways 19 = .ok (.bipush 36, 2) := jo_16 (a := 36) (jw2 jdcX7_ways_0 19 rfl rfl) rfl
theorem dX7_ways_21 : decode cX7_ways 21 = .ok (.if_icmp .ge 18, 3) := jo_162 (a := 0) (b := 18) (jw3 jdcX7_ways_0 21 rfl rfl) rfl
theorem dX7_ways_24 : decode cX7_ways 24 = .ok (.iload_n 2, 1) := jo_28 (jw1 jdcX7_ways_0 24 rfl rfl)
theorem dX7_ways_25 : decode cX7_ways 25 = .ok (.aload_n 0, 1) := jo_42 (jw1 jdcX7_ways_0 25 rfl rfl)
theorem jdcX7_ways_16 : jwk (cX7_ways.data.toList.drop 26) [180, 0, 83, 29, 46, 96, 61, 132, 3, 1, 167, 255, 238, 27, 153, 0, 10, 42, 180, 0, 221, 167, 0, 4, 28, 172] = true := by decide +kernel
theorem dX7_ways_26 : decode cX7_ways 26 = .ok (.getfield 83, 3) := jo_180 (a := 0) (b := 83) (jw3 jdcX7_ways_16 0 rfl rfl) rfl
theorem dX7_ways_29 : decode cX7_ways 29 = .ok (.iload_n 3, 1) := jo_29 (jw1 jdcX7_ways_16 3 rfl rfl)
theorem dX7_ways_30 : decode cX7_ways 30 = .ok (.iaload, 1) := jo_46 (jw1 jdcX7_ways_16 4 rfl rfl)
theorem dX7_ways_31 : decode cX7_ways 31 = .ok (.iadd, 1) := jo_96 (jw1 jdcX7_ways_16 5 rfl rfl)
theorem dX7_ways_32 : decode cX7_ways 32 = .ok (.istore_n 2, 1) := jo_61 (jw1 jdcX7_ways_16 6 rfl rfl)
theorem dX7_ways_33 : decode cX7_ways 33 = .ok (.iinc 3 1, 3) := jo_132 (a := 3) (b := 1) (jw3 jdcX7_ways_16 7 rfl rfl) rfl
theorem dX7_ways_36 : decode cX7_ways 36 = .ok (.goto (-18), 3) := jo_167 (a := 255) (b := 238) (jw3 jdcX7_ways_16 10 rfl rfl) rfl
theorem dX7_ways_39 : decode cX7_ways 39 = .ok (.iload_n 1, 1) := jo_27 (jw1 jdcX7_ways_16 13 rfl rfl)
theorem dX7_ways_40 : decode cX7_ways 40 = .ok (.ifCond .eq 10, 3) := jo_153 (a := 0) (b := 10) (jw3 jdcX7_ways_16 14 rfl rfl) rfl
theorem dX7_ways_43 : decode cX7_ways 43 = .ok (.aload_n 0, 1) := jo_42 (jw1 jdcX7_ways_16 17 rfl rfl)
theorem dX7_ways_44 : decode cX7_ways 44 = .ok (.getfield 221, 3) := jo_180 (a := 0) (b := 221) (jw3 jdcX7_ways_16 18 rfl rfl) rfl
theorem dX7_ways_47 : decode cX7_ways 47 = .ok (.goto 4, 3) := jo_167 (a := 0) (b := 4) (jw3 jdcX7_ways_16 21 rfl rfl) rfl
theorem dX7_ways_50 : decode cX7_ways 50 = .ok (.iload_n 2, 1) := jo_28 (jw1 jdcX7_ways_16 24 rfl rfl)
theorem dX7_ways_51 : decode cX7_ways 51 = .ok (.ireturn, 1) := jo_172 (jw1 jdcX7_ways_16 25 rfl rfl)
theorem jdcX7_waysOf_0 : jwk (cX7_waysOf.data.toList.drop 0) [27, 156, 0, 6, 16, 254, 172, 42, 182, 0, 230, 42, 180, 0, 218, 153, 0, 8, 16, 251, 167, 0, 19, 27, 16, 36, 162, 0, 12, 42, 180, 0, 83] = true := by decide +kernel
theorem dX7_waysOf_0 : decode cX7_waysOf 0 = .ok (.iload_n 1, 1) := jo_27 (jw1 jdcX7_waysOf_0 0 rfl rfl)
theorem dX7_waysOf_1 : decode cX7_waysOf 1 = .ok (.ifCond .ge 6, 3) := jo_156 (a := 0) (b := 6) (jw3 jdcX7_waysOf_0 1 rfl rfl) rfl
theorem dX7_waysOf_4 : decode cX7_waysOf 4 = .ok (.bipush (-2), 2) := jo_16 (a := 254) (jw2 jdcX7_waysOf_0 4 rfl rfl) rfl
theorem dX7_waysOf_6 : decode cX7_waysOf 6 = .ok (.ireturn, 1) := jo_172 (jw1 jdcX7_waysOf_0 6 rfl rfl)
theorem dX7_waysOf_7 : decode cX7_waysOf 7 = .ok (.aload_n 0, 1) := jo_42 (jw1 jdcX7_waysOf_0 7 rfl rfl)
theorem dX7_waysOf_8 : decode cX7_waysOf 8 = .ok (.invokevirtual 230, 3) := jo_182 (a := 0) (b := 230) (jw3 jdcX7_waysOf_0 8 rfl rfl) rfl
theorem dX7_waysOf_11 : decode cX7_waysOf 11 = .ok (.aload_n 0, 1) := jo_42 (jw1 jdcX7_waysOf_0 11 rfl rfl)
theorem dX7_waysOf_12 : decode cX7_waysOf 12 = .ok (.getfield 218, 3) := jo_180 (a := 0) (b := 218) (jw3 jdcX7_waysOf_0 12 rfl rfl) rfl
theorem dX7_waysOf_15 : decode cX7_waysOf 15 = .ok (.ifCond .eq 8, 3) := jo_153 (a := 0) (b := 8) (jw3 jdcX7_waysOf_0 15 rfl rfl) rfl
theorem dX7_waysOf_18 : decode cX7_waysOf 18 = .ok (.bipush (-5), 2) := jo_16 (a := 251) (jw2 jdcX7_waysOf_0 18 rfl rfl) rfl
theorem dX7_waysOf_20 : decode cX7_waysOf 20 = .ok (.goto 19, 3) := jo_167 (a := 0) (b := 19) (jw3 jdcX7_waysOf_0 20 rfl rfl) rfl
theorem dX7_waysOf_23 : decode cX7_waysOf 23 = .ok (.iload_n 1, 1) := jo_27 (jw1 jdcX7_waysOf_0 23 rfl rfl)
theorem dX7_waysOf_24 : decode cX7_waysOf 24 = .ok (.bipush 36, 2) := jo_16 (a := 36) (jw2 jdcX7_waysOf_0 24 rfl rfl) rfl
theorem dX7_waysOf_26 : decode cX7_waysOf 26 = .ok (.if_icmp .ge 12, 3) := jo_162 (a := 0) (b := 12) (jw3 jdcX7_waysOf_0 26 rfl rfl) rfl
theorem dX7_waysOf_29 : decode cX7_waysOf 29 = .ok (.aload_n 0, 1) := jo_42 (jw1 jdcX7_waysOf_0 29 rfl rfl)
theorem dX7_waysOf_30 : decode cX7_waysOf 30 = .ok (.getfield 83, 3) := jo_180 (a := 0) (b := 83) (jw3 jdcX7_waysOf_0 30 rfl rfl) rfl
theorem jdcX7_waysOf_16 : jwk (cX7_waysOf.data.toList.drop 33) [27, 46, 167, 0, 4, 3, 172] = true := by decide +kernel
theorem dX7_waysOf_33 : decode cX7_waysOf 33 = .ok (.iload_n 1, 1) := jo_27 (jw1 jdcX7_waysOf_16 0 rfl rfl)
theorem dX7_waysOf_34 : decode cX7_waysOf 34 = .ok (.iaload, 1) := jo_46 (jw1 jdcX7_waysOf_16 1 rfl rfl)
theorem dX7_waysOf_35 : decode cX7_waysOf 35 = .ok (.goto 4, 3) := jo_167 (a := 0) (b := 4) (jw3 jdcX7_waysOf_16 2 rfl rfl) rfl
theorem dX7_waysOf_38 : decode cX7_waysOf 38 = .ok (.iconst 0, 1) := jo_3 (jw1 jdcX7_waysOf_16 5 rfl rfl)
theorem dX7_waysOf_39 : decode cX7_waysOf 39 = .ok (.ireturn, 1) := jo_172 (jw1 jdcX7_waysOf_16 6 rfl rfl)
theorem jdcX7_shortest_0 : jwk (cX7_shortest.data.toList.drop 0) [3, 60, 27, 16, 36, 162, 0, 24, 42, 180, 0, 95, 27, 27, 154, 0, 7, 3, 167, 0, 4, 2, 79, 132, 1, 1, 167, 255, 232] = true := by decide +kernel
theorem dX7_shortest_0 : decode cX7_shortest 0 = .ok (.iconst 0, 1) := jo_3 (jw1 jdcX7_shortest_0 0 rfl rfl)
theorem dX7_shortest_1 : decode cX7_shortest 1 = .ok (.istore_n 1, 1) := jo_60 (jw1 jdcX7_shortest_0 1 rfl rfl)
theorem dX7_shortest_2 : decode cX7_shortest 2 = .ok (.iload_n 1, 1) := jo_27 (jw1 jdcX7_shortest_0 2 rfl rfl)
theorem dX7_shortest_3 : decode cX7_shortest 3 = .ok (.bipush 36, 2) := jo_16 (a := 36) (jw2 jdcX7_shortest_0 3 rfl rfl) rfl
theorem dX7_shortest_5 : decode cX7_shortest 5 = .ok (.if_icmp .ge 24, 3) := jo_162 (a := 0) (b := 24) (jw3 jdcX7_shortest_0 5 rfl rfl) rfl
theorem dX7_shortest_8 : decode cX7_shortest 8 = .ok (.aload_n 0, 1) := jo_42 (jw1 jdcX7_shortest_0 8 rfl rfl)
theorem dX7_shortest_9 : decode cX7_shortest 9 = .ok (.getfield 95, 3) := jo_180 (a := 0) (b := 95) (jw3 jdcX7_shortest_0 9 rfl rfl) rfl
theorem dX7_shortest_12 : decode cX7_shortest 12 = .ok (.iload_n 1, 1) := jo_27 (jw1 jdcX7_shortest_0 12 rfl rfl)
theorem dX7_shortest_13 : decode cX7_shortest 13 = .ok (.iload_n 1, 1) := jo_27 (jw1 jdcX7_shortest_0 13 rfl rfl)
theorem dX7_shortest_14 : decode cX7_shortest 14 = .ok (.ifCond .ne 7, 3) := jo_154 (a := 0) (b := 7) (jw3 jdcX7_shortest_0 14 rfl rfl) rfl
theorem dX7_shortest_17 : decode cX7_shortest 17 = .ok (.iconst 0, 1) := jo_3 (jw1 jdcX7_shortest_0 17 rfl rfl)
theorem dX7_shortest_18 : decode cX7_shortest 18 = .ok (.goto 4, 3) := jo_167 (a := 0) (b := 4) (jw3 jdcX7_shortest_0 18 rfl rfl) rfl
theorem dX7_shortest_21 : decode cX7_shortest 21 = .ok (.iconst (-1), 1) := jo_2 (jw1 jdcX7_shortest_0 21 rfl rfl)
theorem dX7_shortest_22 : decode cX7_shortest 22 = .ok (.iastore, 1) := jo_79 (jw1 jdcX7_shortest_0 22 rfl rfl)
theorem dX7_shortest_23 : decode cX7_shortest 23 = .ok (.iinc 1 1, 3) := jo_132 (a := 1) (b := 1) (jw3 jdcX7_shortest_0 23 rfl rfl) rfl
theorem dX7_shortest_26 : decode cX7_shortest 26 = .ok (.goto (-24), 3) := jo_167 (a := 255) (b := 232) (jw3 jdcX7_shortest_0 26 rfl rfl) rfl
theorem jdcX7_shortest_16 : jwk (cX7_shortest.data.toList.drop 29) [42, 4, 181, 0, 205, 42, 180, 0, 70, 3, 3, 79, 3, 60, 27, 42, 180, 0, 205, 162, 0, 88, 3, 61] = true := by decide +kernel
theorem dX7_shortest_29 : decode cX7_shortest 29 = .ok (.aload_n 0, 1) := jo_42 (jw1 jdcX7_shortest_16 0 rfl rfl)
theorem dX7_shortest_30 : decode cX7_shortest 30 = .ok (.iconst 1, 1) := jo_4 (jw1 jdcX7_shortest_16 1 rfl rfl)
theorem dX7_shortest_31 : decode cX7_shortest 31 = .ok (.putfield 205, 3) := jo_181 (a := 0) (b := 205) (jw3 jdcX7_shortest_16 2 rfl rfl) rfl
theorem dX7_shortest_34 : decode cX7_shortest 34 = .ok (.aload_n 0, 1) := jo_42 (jw1 jdcX7_shortest_16 5 rfl rfl)
theorem dX7_shortest_35 : decode cX7_shortest 35 = .ok (.getfield 70, 3) := jo_180 (a := 0) (b := 70) (jw3 jdcX7_shortest_16 6 rfl rfl) rfl
theorem dX7_shortest_38 : decode cX7_shortest 38 = .ok (.iconst 0, 1) := jo_3 (jw1 jdcX7_shortest_16 9 rfl rfl)
theorem dX7_shortest_39 : decode cX7_shortest 39 = .ok (.iconst 0, 1) := jo_3 (jw1 jdcX7_shortest_16 10 rfl rfl)
theorem dX7_shortest_40 : decode cX7_shortest 40 = .ok (.iastore, 1) := jo_79 (jw1 jdcX7_shortest_16 11 rfl rfl)
theorem dX7_shortest_41 : decode cX7_shortest 41 = .ok (.iconst 0, 1) := jo_3 (jw1 jdcX7_shortest_16 12 rfl rfl)
theorem dX7_shortest_42 : decode cX7_shortest 42 = .ok (.istore_n 1, 1) := jo_60 (jw1 jdcX7_shortest_16 13 rfl rfl)
theorem dX7_shortest_43 : decode cX7_shortest 43 = .ok (.iload_n 1, 1) := jo_27 (jw1 jdcX7_shortest_16 14 rfl rfl)
theorem dX7_shortest_44 : decode cX7_shortest 44 = .ok (.aload_n 0, 1) := jo_42 (jw1 jdcX7_shortest_16 15 rfl rfl)
theorem dX7_shortest_45 : decode cX7_shortest 45 = .ok (.getfield 205, 3) := jo_180 (a := 0) (b := 205) (jw3 jdcX7_shortest_16 16 rfl rfl) rfl
theorem dX7_shortest_48 : decode cX7_shortest 48 = .ok (.if_icmp .ge 88, 3) := jo_162 (a := 0) (b := 88) (jw3 jdcX7_shortest_16 19 rfl rfl) rfl
theorem dX7_shortest_51 : decode cX7_shortest 51 = .ok (.iconst 0, 1) := jo_3 (jw1 jdcX7_shortest_16 22 rfl rfl)
theorem dX7_shortest_52 : decode cX7_shortest 52 = .ok (.istore_n 2, 1) := jo_61 (jw1 jdcX7_shortest_16 23 rfl rfl)
theorem jdcX7_shortest_32 : jwk (cX7_shortest.data.toList.drop 53) [28, 7, 162, 0, 75, 42, 42, 180, 0, 70, 27, 46, 28, 182, 0, 227, 62, 29, 2, 159, 0, 52, 42, 180, 0, 95] = true := by decide +kernel
theorem dX7_shortest_53 : decode cX7_shortest 53 = .ok (.iload_n 2, 1) := jo_28 (jw1 jdcX7_shortest_32 0 rfl rfl)
theorem dX7_shortest_54 : decode cX7_shortest 54 = .ok (.iconst 4, 1) := jo_7 (jw1 jdcX7_shortest_32 1 rfl rfl)
theorem dX7_shortest_55 : decode cX7_shortest 55 = .ok (.if_icmp .ge 75, 3) := jo_162 (a := 0) (b := 75) (jw3 jdcX7_shortest_32 2 rfl rfl) rfl
theorem dX7_shortest_58 : decode cX7_shortest 58 = .ok (.aload_n 0, 1) := jo_42 (jw1 jdcX7_shortest_32 5 rfl rfl)
theorem dX7_shortest_59 : decode cX7_shortest 59 = .ok (.aload_n 0, 1) := jo_42 (jw1 jdcX7_shortest_32 6 rfl rfl)
theorem dX7_shortest_60 : decode cX7_shortest 60 = .ok (.getfield 70, 3) := jo_180 (a := 0) (b := 70) (jw3 jdcX7_shortest_32 7 rfl rfl) rfl
theorem dX7_shortest_63 : decode cX7_shortest 63 = .ok (.iload_n 1, 1) := jo_27 (jw1 jdcX7_shortest_32 10 rfl rfl)
theorem dX7_shortest_64 : decode cX7_shortest 64 = .ok (.iaload, 1) := jo_46 (jw1 jdcX7_shortest_32 11 rfl rfl)
theorem dX7_shortest_65 : decode cX7_shortest 65 = .ok (.iload_n 2, 1) := jo_28 (jw1 jdcX7_shortest_32 12 rfl rfl)
theorem dX7_shortest_66 : decode cX7_shortest 66 = .ok (.invokevirtual 227, 3) := jo_182 (a := 0) (b := 227) (jw3 jdcX7_shortest_32 13 rfl rfl) rfl
theorem dX7_shortest_69 : decode cX7_shortest 69 = .ok (.istore_n 3, 1) := jo_62 (jw1 jdcX7_shortest_32 16 rfl rfl)
theorem dX7_shortest_70 : decode cX7_shortest 70 = .ok (.iload_n 3, 1) := jo_29 (jw1 jdcX7_shortest_32 17 rfl rfl)
theorem dX7_shortest_71 : decode cX7_shortest 71 = .ok (.iconst (-1), 1) := jo_2 (jw1 jdcX7_shortest_32 18 rfl rfl)
theorem dX7_shortest_72 : decode cX7_shortest 72 = .ok (.if_icmp .eq 52, 3) := jo_159 (a := 0) (b := 52) (jw3 jdcX7_shortest_32 19 rfl rfl) rfl
theorem dX7_shortest_75 : decode cX7_shortest 75 = .ok (.aload_n 0, 1) := jo_42 (jw1 jdcX7_shortest_32 22 rfl rfl)
theorem dX7_shortest_76 : decode cX7_shortest 76 = .ok (.getfield 95, 3) := jo_180 (a := 0) (b := 95) (jw3 jdcX7_shortest_32 23 rfl rfl) rfl
theorem jdcX7_shortest_48 : jwk (cX7_shortest.data.toList.drop 79) [29, 46, 2, 160, 0, 42, 42, 180, 0, 95, 29, 42, 180, 0, 95, 42, 180, 0, 70, 27, 46, 46, 4, 96] = true := by decide +kernel
theorem dX7_shortest_79 : decode cX7_shortest 79 = .ok (.iload_n 3, 1) := jo_29 (jw1 jdcX7_shortest_48 0 rfl rfl)
theorem dX7_shortest_80 : decode cX7_shortest 80 = .ok (.iaload, 1) := jo_46 (jw1 jdcX7_shortest_48 1 rfl rfl)
theorem dX7_shortest_81 : decode cX7_shortest 81 = .ok (.iconst (-1), 1) := jo_2 (jw1 jdcX7_shortest_48 2 rfl rfl)
theorem dX7_shortest_82 : decode cX7_shortest 82 = .ok (.if_icmp .ne 42, 3) := jo_160 (a := 0) (b := 42) (jw3 jdcX7_shortest_48 3 rfl rfl) rfl
theorem dX7_shortest_85 : decode cX7_shortest 85 = .ok (.aload_n 0, 1) := jo_42 (jw1 jdcX7_shortest_48 6 rfl rfl)
theorem dX7_shortest_86 : decode cX7_shortest 86 = .ok (.getfield 95, 3) := jo_180 (a := 0) (b := 95) (jw3 jdcX7_shortest_48 7 rfl rfl) rfl
theorem dX7_shortest_89 : decode cX7_shortest 89 = .ok (.iload_n 3, 1) := jo_29 (jw1 jdcX7_shortest_48 10 rfl rfl)
theorem dX7_shortest_90 : decode cX7_shortest 90 = .ok (.aload_n 0, 1) := jo_42 (jw1 jdcX7_shortest_48 11 rfl rfl)
theorem dX7_shortest_91 : decode cX7_shortest 91 = .ok (.getfield 95, 3) := jo_180 (a := 0) (b := 95) (jw3 jdcX7_shortest_48 12 rfl rfl) rfl
theorem dX7_shortest_94 : decode cX7_shortest 94 = .ok (.aload_n 0, 1) := jo_42 (jw1 jdcX7_shortest_48 15 rfl rfl)
theorem dX7_shortest_95 : decode cX7_shortest 95 = .ok (.getfield 70, 3) := jo_180 (a := 0) (b := 70) (jw3 jdcX7_shortest_48 16 rfl rfl) rfl
theorem dX7_shortest_98 : decode cX7_shortest 98 = .ok (.iload_n 1, 1) := jo_27 (jw1 jdcX7_shortest_48 19 rfl rfl)
theorem dX7_shortest_99 : decode cX7_shortest 99 = .ok (.iaload, 1) := jo_46 (jw1 jdcX7_shortest_48 20 rfl rfl)
theorem dX7_shortest_100 : decode cX7_shortest 100 = .ok (.iaload, 1) := jo_46 (jw1 jdcX7_shortest_48 21 rfl rfl)
theorem dX7_shortest_101 : decode cX7_shortest 101 = .ok (.iconst 1, 1) := jo_4 (jw1 jdcX7_shortest_48 22 rfl rfl)
theorem dX7_shortest_102 : decode cX7_shortest 102 = .ok (.iadd, 1) := jo_96 (jw1 jdcX7_shortest_48 23 rfl rfl)
theorem jdcX7_shortest_64 : jwk (cX7_shortest.data.toList.drop 103) [79, 42, 180, 0, 70, 42, 180, 0, 205, 29, 79, 42, 89, 180, 0, 205, 4, 96, 181, 0, 205, 132, 2, 1, 167, 255, 182, 132, 1, 1] = true := by decide +kernel
theorem dX7_shortest_103 : decode cX7_shortest 103 = .ok (.iastore, 1) := jo_79 (jw1 jdcX7_shortest_64 0 rfl rfl)
theorem dX7_shortest_104 : decode cX7_shortest 104 = .ok (.aload_n 0, 1) := jo_42 (jw1 jdcX7_shortest_64 1 rfl rfl)
theorem dX7_shortest_105 : decode cX7_shortest 105 = .ok (.getfield 70, 3) := jo_180 (a := 0) (b := 70) (jw3 jdcX7_shortest_64 2 rfl rfl) rfl
theorem dX7_shortest_108 : decode cX7_shortest 108 = .ok (.aload_n 0, 1) := jo_42 (jw1 jdcX7_shortest_64 5 rfl rfl)
theorem dX7_shortest_109 : decode cX7_shortest 109 = .ok (.getfield 205, 3) := jo_180 (a := 0) (b := 205) (jw3 jdcX7_shortest_64 6 rfl rfl) rfl
theorem dX7_shortest_112 : decode cX7_shortest 112 = .ok (.iload_n 3, 1) := jo_29 (jw1 jdcX7_shortest_64 9 rfl rfl)
theorem dX7_shortest_113 : decode cX7_shortest 113 = .ok (.iastore, 1) := jo_79 (jw1 jdcX7_shortest_64 10 rfl rfl)
theorem dX7_shortest_114 : decode cX7_shortest 114 = .ok (.aload_n 0, 1) := jo_42 (jw1 jdcX7_shortest_64 11 rfl rfl)
theorem dX7_shortest_115 : decode cX7_shortest 115 = .ok (.dup, 1) := jo_89 (jw1 jdcX7_shortest_64 12 rfl rfl)
theorem dX7_shortest_116 : decode cX7_shortest 116 = .ok (.getfield 205, 3) := jo_180 (a := 0) (b := 205) (jw3 jdcX7_shortest_64 13 rfl rfl) rfl
theorem dX7_shortest_119 : decode cX7_shortest 119 = .ok (.iconst 1, 1) := jo_4 (jw1 jdcX7_shortest_64 16 rfl rfl)
theorem dX7_shortest_120 : decode cX7_shortest 120 = .ok (.iadd, 1) := jo_96 (jw1 jdcX7_shortest_64 17 rfl rfl)
theorem dX7_shortest_121 : decode cX7_shortest 121 = .ok (.putfield 205, 3) := jo_181 (a := 0) (b := 205) (jw3 jdcX7_shortest_64 18 rfl rfl) rfl
theorem dX7_shortest_124 : decode cX7_shortest 124 = .ok (.iinc 2 1, 3) := jo_132 (a := 2) (b := 1) (jw3 jdcX7_shortest_64 21 rfl rfl) rfl
theorem dX7_shortest_127 : decode cX7_shortest 127 = .ok (.goto (-74), 3) := jo_167 (a := 255) (b := 182) (jw3 jdcX7_shortest_64 24 rfl rfl) rfl
theorem dX7_shortest_130 : decode cX7_shortest 130 = .ok (.iinc 1 1, 3) := jo_132 (a := 1) (b := 1) (jw3 jdcX7_shortest_64 27 rfl rfl) rfl
theorem jdcX7_shortest_80 : jwk (cX7_shortest.data.toList.drop 133) [167, 255, 166, 42, 180, 0, 95, 42, 180, 0, 73, 42, 180, 0, 77, 104, 4, 100, 46, 172] = true := by decide +kernel
theorem dX7_shortest_133 : decode cX7_shortest 133 = .ok (.goto (-90), 3) := jo_167 (a := 255) (b := 166) (jw3 jdcX7_shortest_80 0 rfl rfl) rfl
theorem dX7_shortest_136 : decode cX7_shortest 136 = .ok (.aload_n 0, 1) := jo_42 (jw1 jdcX7_shortest_80 3 rfl rfl)
theorem dX7_shortest_137 : decode cX7_shortest 137 = .ok (.getfield 95, 3) := jo_180 (a := 0) (b := 95) (jw3 jdcX7_shortest_80 4 rfl rfl) rfl
theorem dX7_shortest_140 : decode cX7_shortest 140 = .ok (.aload_n 0, 1) := jo_42 (jw1 jdcX7_shortest_80 7 rfl rfl)
theorem dX7_shortest_141 : decode cX7_shortest 141 = .ok (.getfield 73, 3) := jo_180 (a := 0) (b := 73) (jw3 jdcX7_shortest_80 8 rfl rfl) rfl
theorem dX7_shortest_144 : decode cX7_shortest 144 = .ok (.aload_n 0, 1) := jo_42 (jw1 jdcX7_shortest_80 11 rfl rfl)
theorem dX7_shortest_145 : decode cX7_shortest 145 = .ok (.getfield 77, 3) := jo_180 (a := 0) (b := 77) (jw3 jdcX7_shortest_80 12 rfl rfl) rfl
theorem dX7_shortest_148 : decode cX7_shortest 148 = .ok (.imul, 1) := jo_104 (jw1 jdcX7_shortest_80 15 rfl rfl)
theorem dX7_shortest_149 : decode cX7_shortest 149 = .ok (.iconst 1, 1) := jo_4 (jw1 jdcX7_shortest_80 16 rfl rfl)
theorem dX7_shortest_150 : decode cX7_shortest 150 = .ok (.isub, 1) := jo_100 (jw1 jdcX7_shortest_80 17 rfl rfl)
theorem dX7_shortest_151 : decode cX7_shortest 151 = .ok (.iaload, 1) := jo_46 (jw1 jdcX7_shortest_80 18 rfl rfl)
theorem dX7_shortest_152 : decode cX7_shortest 152 = .ok (.ireturn, 1) := jo_172 (jw1 jdcX7_shortest_80 19 rfl rfl)
theorem jdcX7_count_0 : jwk (cX7_count.data.toList.drop 0) [27, 154, 0, 10, 42, 180, 0, 102, 167, 0, 41, 27, 4, 160, 0, 10, 42, 182, 0, 224, 167, 0, 29, 27, 5, 160, 0, 10, 42, 180, 0, 73] = true := by decide +kernel
theorem dX7_count_0 : decode cX7_count 0 = .ok (.iload_n 1, 1) := jo_27 (jw1 jdcX7_count_0 0 rfl rfl)
theorem dX7_count_1 : decode cX7_count 1 = .ok (.ifCond .ne 10, 3) := jo_154 (a := 0) (b := 10) (jw3 jdcX7_count_0 1 rfl rfl) rfl
theorem dX7_count_4 : decode cX7_count 4 = .ok (.aload_n 0, 1) := jo_42 (jw1 jdcX7_count_0 4 rfl rfl)
theorem dX7_count_5 : decode cX7_count 5 = .ok (.getfield 102, 3) := jo_180 (a := 0) (b := 102) (jw3 jdcX7_count_0 5 rfl rfl) rfl
theorem dX7_count_8 : decode cX7_count 8 = .ok (.goto 41, 3) := jo_167 (a := 0) (b := 41) (jw3 jdcX7_count_0 8 rfl rfl) rfl
theorem dX7_count_11 : decode cX7_count 11 = .ok (.iload_n 1, 1) := jo_27 (jw1 jdcX7_count_0 11 rfl rfl)
theorem dX7_count_12 : decode cX7_count 12 = .ok (.iconst 1, 1) := jo_4 (jw1 jdcX7_count_0 12 rfl rfl)
theorem dX7_count_13 : decode cX7_count 13 = .ok (.if_icmp .ne 10, 3) := jo_160 (a := 0) (b := 10) (jw3 jdcX7_count_0 13 rfl rfl) rfl
theorem dX7_count_16 : decode cX7_count 16 = .ok (.aload_n 0, 1) := jo_42 (jw1 jdcX7_count_0 16 rfl rfl)
theorem dX7_count_17 : decode cX7_count 17 = .ok (.invokevirtual 224, 3) := jo_182 (a := 0) (b := 224) (jw3 jdcX7_count_0 17 rfl rfl) rfl
theorem dX7_count_20 : decode cX7_count 20 = .ok (.goto 29, 3) := jo_167 (a := 0) (b := 29) (jw3 jdcX7_count_0 20 rfl rfl) rfl
theorem dX7_count_23 : decode cX7_count 23 = .ok (.iload_n 1, 1) := jo_27 (jw1 jdcX7_count_0 23 rfl rfl)
theorem dX7_count_24 : decode cX7_count 24 = .ok (.iconst 2, 1) := jo_5 (jw1 jdcX7_count_0 24 rfl rfl)
theorem dX7_count_25 : decode cX7_count 25 = .ok (.if_icmp .ne 10, 3) := jo_160 (a := 0) (b := 10) (jw3 jdcX7_count_0 25 rfl rfl) rfl
theorem dX7_count_28 : decode cX7_count 28 = .ok (.aload_n 0, 1) := jo_42 (jw1 jdcX7_count_0 28 rfl rfl)
theorem dX7_count_29 : decode cX7_count 29 = .ok (.getfield 73, 3) := jo_180 (a := 0) (b := 73) (jw3 jdcX7_count_0 29 rfl rfl) rfl
theorem jdcX7_count_16 : jwk (cX7_count.data.toList.drop 32) [167, 0, 17, 27, 6, 160, 0, 10, 42, 180, 0, 77, 167, 0, 5, 16, 254, 172] = true := by decide +kernel
theorem dX7_count_32 : decode cX7_count 32 = .ok (.goto 17, 3) := jo_167 (a := 0) (b := 17) (jw3 jdcX7_count_16 0 rfl rfl) rfl
theorem dX7_count_35 : decode cX7_count 35 = .ok (.iload_n 1, 1) := jo_27 (jw1 jdcX7_count_16 3 rfl rfl)
theorem dX7_count_36 : decode cX7_count 36 = .ok (.iconst 3, 1) := jo_6 (jw1 jdcX7_count_16 4 rfl rfl)
theorem dX7_count_37 : decode cX7_count 37 = .ok (.if_icmp .ne 10, 3) := jo_160 (a := 0) (b := 10) (jw3 jdcX7_count_16 5 rfl rfl) rfl
theorem dX7_count_40 : decode cX7_count 40 = .ok (.aload_n 0, 1) := jo_42 (jw1 jdcX7_count_16 8 rfl rfl)
theorem dX7_count_41 : decode cX7_count 41 = .ok (.getfield 77, 3) := jo_180 (a := 0) (b := 77) (jw3 jdcX7_count_16 9 rfl rfl) rfl
theorem dX7_count_44 : decode cX7_count 44 = .ok (.goto 5, 3) := jo_167 (a := 0) (b := 5) (jw3 jdcX7_count_16 12 rfl rfl) rfl
theorem dX7_count_47 : decode cX7_count 47 = .ok (.bipush (-2), 2) := jo_16 (a := 254) (jw2 jdcX7_count_16 15 rfl rfl) rfl
theorem dX7_count_49 : decode cX7_count 49 = .ok (.ireturn, 1) := jo_172 (jw1 jdcX7_count_16 17 rfl rfl)
theorem jdcX7_digest_0 : jwk (cX7_digest.data.toList.drop 0) [20, 0, 233, 64, 3, 62, 29, 7, 162, 0, 22, 20, 0, 235, 31, 105, 42, 29, 182, 0, 237, 133, 97, 64] = true := by decide +kernel
theorem dX7_digest_0 : decode cX7_digest 0 = .ok (.ldc2_w 233, 3) := jo_20 (a := 0) (b := 233) (jw3 jdcX7_digest_0 0 rfl rfl) rfl
theorem dX7_digest_3 : decode cX7_digest 3 = .ok (.lstore_n 1, 1) := jo_64 (jw1 jdcX7_digest_0 3 rfl rfl)
theorem dX7_digest_4 : decode cX7_digest 4 = .ok (.iconst 0, 1) := jo_3 (jw1 jdcX7_digest_0 4 rfl rfl)
theorem dX7_digest_5 : decode cX7_digest 5 = .ok (.istore_n 3, 1) := jo_62 (jw1 jdcX7_digest_0 5 rfl rfl)
theorem dX7_digest_6 : decode cX7_digest 6 = .ok (.iload_n 3, 1) := jo_29 (jw1 jdcX7_digest_0 6 rfl rfl)
theorem dX7_digest_7 : decode cX7_digest 7 = .ok (.iconst 4, 1) := jo_7 (jw1 jdcX7_digest_0 7 rfl rfl)
theorem dX7_digest_8 : decode cX7_digest 8 = .ok (.if_icmp .ge 22, 3) := jo_162 (a := 0) (b := 22) (jw3 jdcX7_digest_0 8 rfl rfl) rfl
theorem dX7_digest_11 : decode cX7_digest 11 = .ok (.ldc2_w 235, 3) := jo_20 (a := 0) (b := 235) (jw3 jdcX7_digest_0 11 rfl rfl) rfl
theorem dX7_digest_14 : decode cX7_digest 14 = .ok (.lload_n 1, 1) := jo_31 (jw1 jdcX7_digest_0 14 rfl rfl)
theorem dX7_digest_15 : decode cX7_digest 15 = .ok (.lmul, 1) := jo_105 (jw1 jdcX7_digest_0 15 rfl rfl)
theorem dX7_digest_16 : decode cX7_digest 16 = .ok (.aload_n 0, 1) := jo_42 (jw1 jdcX7_digest_0 16 rfl rfl)
theorem dX7_digest_17 : decode cX7_digest 17 = .ok (.iload_n 3, 1) := jo_29 (jw1 jdcX7_digest_0 17 rfl rfl)
theorem dX7_digest_18 : decode cX7_digest 18 = .ok (.invokevirtual 237, 3) := jo_182 (a := 0) (b := 237) (jw3 jdcX7_digest_0 18 rfl rfl) rfl
theorem dX7_digest_21 : decode cX7_digest 21 = .ok (.i2l, 1) := jo_133 (jw1 jdcX7_digest_0 21 rfl rfl)
theorem dX7_digest_22 : decode cX7_digest 22 = .ok (.ladd, 1) := jo_97 (jw1 jdcX7_digest_0 22 rfl rfl)
theorem dX7_digest_23 : decode cX7_digest 23 = .ok (.lstore_n 1, 1) := jo_64 (jw1 jdcX7_digest_0 23 rfl rfl)
theorem jdcX7_digest_16 : jwk (cX7_digest.data.toList.drop 24) [132, 3, 1, 167, 255, 235, 3, 62, 29, 42, 180, 0, 102, 162, 0, 63, 20, 0, 235, 31, 105, 42, 180, 0, 7, 29, 46, 133] = true := by decide +kernel
theorem dX7_digest_24 : decode cX7_digest 24 = .ok (.iinc 3 1, 3) := jo_132 (a := 3) (b := 1) (jw3 jdcX7_digest_16 0 rfl rfl) rfl
theorem dX7_digest_27 : decode cX7_digest 27 = .ok (.goto (-21), 3) := jo_167 (a := 255) (b := 235) (jw3 jdcX7_digest_16 3 rfl rfl) rfl
theorem dX7_digest_30 : decode cX7_digest 30 = .ok (.iconst 0, 1) := jo_3 (jw1 jdcX7_digest_16 6 rfl rfl)
theorem dX7_digest_31 : decode cX7_digest 31 = .ok (.istore_n 3, 1) := jo_62 (jw1 jdcX7_digest_16 7 rfl rfl)
theorem dX7_digest_32 : decode cX7_digest 32 = .ok (.iload_n 3, 1) := jo_29 (jw1 jdcX7_digest_16 8 rfl rfl)
theorem dX7_digest_33 : decode cX7_digest 33 = .ok (.aload_n 0, 1) := jo_42 (jw1 jdcX7_digest_16 9 rfl rfl)
theorem dX7_digest_34 : decode cX7_digest 34 = .ok (.getfield 102, 3) := jo_180 (a := 0) (b := 102) (jw3 jdcX7_digest_16 10 rfl rfl) rfl
theorem dX7_digest_37 : decode cX7_digest 37 = .ok (.if_icmp .ge 63, 3) := jo_162 (a := 0) (b := 63) (jw3 jdcX7_digest_16 13 rfl rfl) rfl
theorem dX7_digest_40 : decode cX7_digest 40 = .ok (.ldc2_w 235, 3) := jo_20 (a := 0) (b := 235) (jw3 jdcX7_digest_16 16 rfl rfl) rfl
theorem dX7_digest_43 : decode cX7_digest 43 = .ok (.lload_n 1, 1) := jo_31 (jw1 jdcX7_digest_16 19 rfl rfl)
theorem dX7_digest_44 : decode cX7_digest 44 = .ok (.lmul, 1) := jo_105 (jw1 jdcX7_digest_16 20 rfl rfl)
theorem dX7_digest_45 : decode cX7_digest 45 = .ok (.aload_n 0, 1) := jo_42 (jw1 jdcX7_digest_16 21 rfl rfl)
theorem dX7_digest_46 : decode cX7_digest 46 = .ok (.getfield 7, 3) := jo_180 (a := 0) (b := 7) (jw3 jdcX7_digest_16 22 rfl rfl) rfl
theorem dX7_digest_49 : decode cX7_digest 49 = .ok (.iload_n 3, 1) := jo_29 (jw1 jdcX7_digest_16 25 rfl rfl)
theorem dX7_digest_50 : decode cX7_digest 50 = .ok (.iaload, 1) := jo_46 (jw1 jdcX7_digest_16 26 rfl rfl)
theorem dX7_digest_51 : decode cX7_digest 51 = .ok (.i2l, 1) := jo_133 (jw1 jdcX7_digest_16 27 rfl rfl)
theorem jdcX7_digest_32 : jwk (cX7_digest.data.toList.drop 52) [97, 64, 3, 54, 4, 21, 4, 42, 180, 0, 13, 29, 46, 162, 0, 29, 20, 0, 235, 31, 105, 42, 180, 0, 16, 16, 60] = true := by decide +kernel
theorem dX7_digest_52 : decode cX7_digest 52 = .ok (.ladd, 1) := jo_97 (jw1 jdcX7_digest_32 0 rfl rfl)
theorem dX7_digest_53 : decode cX7_digest 53 = .ok (.lstore_n 1, 1) := jo_64 (jw1 jdcX7_digest_32 1 rfl rfl)
theorem dX7_digest_54 : decode cX7_digest 54 = .ok (.iconst 0, 1) := jo_3 (jw1 jdcX7_digest_32 2 rfl rfl)
theorem dX7_digest_55 : decode cX7_digest 55 = .ok (.istore 4, 2) := jo_54 (jw2 jdcX7_digest_32 3 rfl rfl)
theorem dX7_digest_57 : decode cX7_digest 57 = .ok (.iload 4, 2) := jo_21 (jw2 jdcX7_digest_32 5 rfl rfl)
theorem dX7_digest_59 : decode cX7_digest 59 = .ok (.aload_n 0, 1) := jo_42 (jw1 jdcX7_digest_32 7 rfl rfl)
theorem dX7_digest_60 : decode cX7_digest 60 = .ok (.getfield 13, 3) := jo_180 (a := 0) (b := 13) (jw3 jdcX7_digest_32 8 rfl rfl) rfl
theorem dX7_digest_63 : decode cX7_digest 63 = .ok (.iload_n 3, 1) := jo_29 (jw1 jdcX7_digest_32 11 rfl rfl)
theorem dX7_digest_64 : decode cX7_digest 64 = .ok (.iaload, 1) := jo_46 (jw1 jdcX7_digest_32 12 rfl rfl)
theorem dX7_digest_65 : decode cX7_digest 65 = .ok (.if_icmp .ge 29, 3) := jo_162 (a := 0) (b := 29) (jw3 jdcX7_digest_32 13 rfl rfl) rfl
theorem dX7_digest_68 : decode cX7_digest 68 = .ok (.ldc2_w 235, 3) := jo_20 (a := 0) (b := 235) (jw3 jdcX7_digest_32 16 rfl rfl) rfl
theorem dX7_digest_71 : decode cX7_digest 71 = .ok (.lload_n 1, 1) := jo_31 (jw1 jdcX7_digest_32 19 rfl rfl)
theorem dX7_digest_72 : decode cX7_digest 72 = .ok (.lmul, 1) := jo_105 (jw1 jdcX7_digest_32 20 rfl rfl)
theorem dX7_digest_73 : decode cX7_digest 73 = .ok (.aload_n 0, 1) := jo_42 (jw1 jdcX7_digest_32 21 rfl rfl)
theorem dX7_digest_74 : decode cX7_digest 74 = .ok (.getfield 16, 3) := jo_180 (a := 0) (b := 16) (jw3 jdcX7_digest_32 22 rfl rfl) rfl
theorem dX7_digest_77 : decode cX7_digest 77 = .ok (.bipush 60, 2) := jo_16 (a := 60) (jw2 jdcX7_digest_32 25 rfl rfl) rfl
theorem jdcX7_digest_48 : jwk (cX7_digest.data.toList.drop 79) [29, 104, 21, 4, 96, 46, 133, 97, 64, 132, 4, 1, 167, 255, 222, 132, 3, 1, 167, 255, 191, 3, 62, 29, 42] = true := by decide +kernel
theorem dX7_digest_79 : decode cX7_digest 79 = .ok (.iload_n 3, 1) := jo_29 (jw1 jdcX7_digest_48 0 rfl rfl)
theorem dX7_digest_80 : decode cX7_digest 80 = .ok (.imul, 1) := jo_104 (jw1 jdcX7_digest_48 1 rfl rfl)
theorem dX7_digest_81 : decode cX7_digest 81 = .ok (.iload 4, 2) := jo_21 (jw2 jdcX7_digest_48 2 rfl rfl)
theorem dX7_digest_83 : decode cX7_digest 83 = .ok (.iadd, 1) := jo_96 (jw1 jdcX7_digest_48 4 rfl rfl)
theorem dX7_digest_84 : decode cX7_digest 84 = .ok (.iaload, 1) := jo_46 (jw1 jdcX7_digest_48 5 rfl rfl)
theorem dX7_digest_85 : decode cX7_digest 85 = .ok (.i2l, 1) := jo_133 (jw1 jdcX7_digest_48 6 rfl rfl)
theorem dX7_digest_86 : decode cX7_digest 86 = .ok (.ladd, 1) := jo_97 (jw1 jdcX7_digest_48 7 rfl rfl)
theorem dX7_digest_87 : decode cX7_digest 87 = .ok (.lstore_n 1, 1) := jo_64 (jw1 jdcX7_digest_48 8 rfl rfl)
theorem dX7_digest_88 : decode cX7_digest 88 = .ok (.iinc 4 1, 3) := jo_132 (a := 4) (b := 1) (jw3 jdcX7_digest_48 9 rfl rfl) rfl
theorem dX7_digest_91 : decode cX7_digest 91 = .ok (.goto (-34), 3) := jo_167 (a := 255) (b := 222) (jw3 jdcX7_digest_48 12 rfl rfl) rfl
theorem dX7_digest_94 : decode cX7_digest 94 = .ok (.iinc 3 1, 3) := jo_132 (a := 3) (b := 1) (jw3 jdcX7_digest_48 15 rfl rfl) rfl
theorem dX7_digest_97 : decode cX7_digest 97 = .ok (.goto (-65), 3) := jo_167 (a := 255) (b := 191) (jw3 jdcX7_digest_48 18 rfl rfl) rfl
theorem dX7_digest_100 : decode cX7_digest 100 = .ok (.iconst 0, 1) := jo_3 (jw1 jdcX7_digest_48 21 rfl rfl)
theorem dX7_digest_101 : decode cX7_digest 101 = .ok (.istore_n 3, 1) := jo_62 (jw1 jdcX7_digest_48 22 rfl rfl)
theorem dX7_digest_102 : decode cX7_digest 102 = .ok (.iload_n 3, 1) := jo_29 (jw1 jdcX7_digest_48 23 rfl rfl)
theorem dX7_digest_103 : decode cX7_digest 103 = .ok (.aload_n 0, 1) := jo_42 (jw1 jdcX7_digest_48 24 rfl rfl)
theorem jdcX7_digest_64 : jwk (cX7_digest.data.toList.drop 104) [180, 0, 73, 42, 180, 0, 77, 104, 162, 0, 31, 42, 180, 0, 80, 29, 51, 153, 0, 14, 20, 0, 235, 31, 105, 29, 133, 97] = true := by decide +kernel
theorem dX7_digest_104 : decode cX7_digest 104 = .ok (.getfield 73, 3) := jo_180 (a := 0) (b := 73) (jw3 jdcX7_digest_64 0 rfl rfl) rfl
theorem dX7_digest_107 : decode cX7_digest 107 = .ok (.aload_n 0, 1) := jo_42 (jw1 jdcX7_digest_64 3 rfl rfl)
theorem dX7_digest_108 : decode cX7_digest 108 = .ok (.getfield 77, 3) := jo_180 (a := 0) (b := 77) (jw3 jdcX7_digest_64 4 rfl rfl) rfl
theorem dX7_digest_111 : decode cX7_digest 111 = .ok (.imul, 1) := jo_104 (jw1 jdcX7_digest_64 7 rfl rfl)
theorem dX7_digest_112 : decode cX7_digest 112 = .ok (.if_icmp .ge 31, 3) := jo_162 (a := 0) (b := 31) (jw3 jdcX7_digest_64 8 rfl rfl) rfl
theorem dX7_digest_115 : decode cX7_digest 115 = .ok (.aload_n 0, 1) := jo_42 (jw1 jdcX7_digest_64 11 rfl rfl)
theorem dX7_digest_116 : decode cX7_digest 116 = .ok (.getfield 80, 3) := jo_180 (a := 0) (b := 80) (jw3 jdcX7_digest_64 12 rfl rfl) rfl
theorem dX7_digest_119 : decode cX7_digest 119 = .ok (.iload_n 3, 1) := jo_29 (jw1 jdcX7_digest_64 15 rfl rfl)
theorem dX7_digest_120 : decode cX7_digest 120 = .ok (.baload, 1) := jo_51 (jw1 jdcX7_digest_64 16 rfl rfl)
theorem dX7_digest_121 : decode cX7_digest 121 = .ok (.ifCond .eq 14, 3) := jo_153 (a := 0) (b := 14) (jw3 jdcX7_digest_64 17 rfl rfl) rfl
theorem dX7_digest_124 : decode cX7_digest 124 = .ok (.ldc2_w 235, 3) := jo_20 (a := 0) (b := 235) (jw3 jdcX7_digest_64 20 rfl rfl) rfl
theorem dX7_digest_127 : decode cX7_digest 127 = .ok (.lload_n 1, 1) := jo_31 (jw1 jdcX7_digest_64 23 rfl rfl)
theorem dX7_digest_128 : decode cX7_digest 128 = .ok (.lmul, 1) := jo_105 (jw1 jdcX7_digest_64 24 rfl rfl)
theorem dX7_digest_129 : decode cX7_digest 129 = .ok (.iload_n 3, 1) := jo_29 (jw1 jdcX7_digest_64 25 rfl rfl)
theorem dX7_digest_130 : decode cX7_digest 130 = .ok (.i2l, 1) := jo_133 (jw1 jdcX7_digest_64 26 rfl rfl)
theorem dX7_digest_131 : decode cX7_digest 131 = .ok (.ladd, 1) := jo_97 (jw1 jdcX7_digest_64 27 rfl rfl)
theorem jdcX7_digest_80 : jwk (cX7_digest.data.toList.drop 132) [167, 0, 4, 31, 64, 132, 3, 1, 167, 255, 218, 31, 173] = true := by decide +kernel
theorem dX7_digest_132 : decode cX7_digest 132 = .ok (.goto 4, 3) := jo_167 (a := 0) (b := 4) (jw3 jdcX7_digest_80 0 rfl rfl) rfl
theorem dX7_digest_135 : decode cX7_digest 135 = .ok (.lload_n 1, 1) := jo_31 (jw1 jdcX7_digest_80 3 rfl rfl)
theorem dX7_digest_136 : decode cX7_digest 136 = .ok (.lstore_n 1, 1) := jo_64 (jw1 jdcX7_digest_80 4 rfl rfl)
theorem dX7_digest_137 : decode cX7_digest 137 = .ok (.iinc 3 1, 3) := jo_132 (a := 3) (b := 1) (jw3 jdcX7_digest_80 5 rfl rfl) rfl
theorem dX7_digest_140 : decode cX7_digest 140 = .ok (.goto (-38), 3) := jo_167 (a := 255) (b := 218) (jw3 jdcX7_digest_80 8 rfl rfl) rfl
theorem dX7_digest_143 : decode cX7_digest 143 = .ok (.lload_n 1, 1) := jo_31 (jw1 jdcX7_digest_80 11 rfl rfl)
theorem dX7_digest_144 : decode cX7_digest 144 = .ok (.lreturn, 1) := jo_173 (jw1 jdcX7_digest_80 12 rfl rfl)
theorem jdcJ13_bitCount_95d88_0 : jwk (cJ13_bitCount_95d88.data.toList.drop 0) [30, 30, 4, 125, 20, 1, 58, 127, 101, 63, 30, 20, 1, 60, 127, 30, 5, 125, 20, 1, 60, 127] = true := by decide +kernel
theorem dJ13_bitCount_95d88_0 : decode cJ13_bitCount_95d88 0 = .ok (.lload_n 0, 1) := jo_30 (jw1 jdcJ13_bitCount_95d88_0 0 rfl rfl)
theorem dJ13_bitCount_95d88_1 : decode cJ13_bitCount_95d88 1 = .ok (.lload_n 0, 1) := jo_30 (jw1 jdcJ13_bitCount_95d88_0 1 rfl rfl)
theorem dJ13_bitCount_95d88_2 : decode cJ13_bitCount_95d88 2 = .ok (.iconst 1, 1) := jo_4 (jw1 jdcJ13_bitCount_95d88_0 2 rfl rfl)
theorem dJ13_bitCount_95d88_3 : decode cJ13_bitCount_95d88 3 = .ok (.lushr, 1) := jo_125 (jw1 jdcJ13_bitCount_95d88_0 3 rfl rfl)
theorem dJ13_bitCount_95d88_4 : decode cJ13_bitCount_95d88 4 = .ok (.ldc2_w 314, 3) := jo_20 (a := 1) (b := 58) (jw3 jdcJ13_bitCount_95d88_0 4 rfl rfl) rfl
theorem dJ13_bitCount_95d88_7 : decode cJ13_bitCount_95d88 7 = .ok (.land, 1) := jo_127 (jw1 jdcJ13_bitCount_95d88_0 7 rfl rfl)
theorem dJ13_bitCount_95d88_8 : decode cJ13_bitCount_95d88 8 = .ok (.lsub, 1) := jo_101 (jw1 jdcJ13_bitCount_95d88_0 8 rfl rfl)
theorem dJ13_bitCount_95d88_9 : decode cJ13_bitCount_95d88 9 = .ok (.lstore_n 0, 1) := jo_63 (jw1 jdcJ13_bitCount_95d88_0 9 rfl rfl)
theorem dJ13_bitCount_95d88_10 : decode cJ13_bitCount_95d88 10 = .ok (.lload_n 0, 1) := jo_30 (jw1 jdcJ13_bitCount_95d88_0 10 rfl rfl)
theorem dJ13_bitCount_95d88_11 : decode cJ13_bitCount_95d88 11 = .ok (.ldc2_w 316, 3) := jo_20 (a := 1) (b := 60) (jw3 jdcJ13_bitCount_95d88_0 11 rfl rfl) rfl
theorem dJ13_bitCount_95d88_14 : decode cJ13_bitCount_95d88 14 = .ok (.land, 1) := jo_127 (jw1 jdcJ13_bitCount_95d88_0 14 rfl rfl)
theorem dJ13_bitCount_95d88_15 : decode cJ13_bitCount_95d88 15 = .ok (.lload_n 0, 1) := jo_30 (jw1 jdcJ13_bitCount_95d88_0 15 rfl rfl)
theorem dJ13_bitCount_95d88_16 : decode cJ13_bitCount_95d88 16 = .ok (.iconst 2, 1) := jo_5 (jw1 jdcJ13_bitCount_95d88_0 16 rfl rfl)
theorem dJ13_bitCount_95d88_17 : decode cJ13_bitCount_95d88 17 = .ok (.lushr, 1) := jo_125 (jw1 jdcJ13_bitCount_95d88_0 17 rfl rfl)
theorem dJ13_bitCount_95d88_18 : decode cJ13_bitCount_95d88 18 = .ok (.ldc2_w 316, 3) := jo_20 (a := 1) (b := 60) (jw3 jdcJ13_bitCount_95d88_0 18 rfl rfl) rfl
theorem dJ13_bitCount_95d88_21 : decode cJ13_bitCount_95d88 21 = .ok (.land, 1) := jo_127 (jw1 jdcJ13_bitCount_95d88_0 21 rfl rfl)
theorem jdcJ13_bitCount_95d88_16 : jwk (cJ13_bitCount_95d88.data.toList.drop 22) [97, 63, 30, 30, 7, 125, 97, 20, 1, 62, 127, 63, 30, 30, 16, 8, 125, 97, 63] = true := by decide +kernel
theorem dJ13_bitCount_95d88_22 : decode cJ13_bitCount_95d88 22 = .ok (.ladd, 1) := jo_97 (jw1 jdcJ13_bitCount_95d88_16 0 rfl rfl)
theorem dJ13_bitCount_95d88_23 : decode cJ13_bitCount_95d88 23 = .ok (.lstore_n 0, 1) := jo_63 (jw1 jdcJ13_bitCount_95d88_16 1 rfl rfl)
theorem dJ13_bitCount_95d88_24 : decode cJ13_bitCount_95d88 24 = .ok (.lload_n 0, 1) := jo_30 (jw1 jdcJ13_bitCount_95d88_16 2 rfl rfl)
theorem dJ13_bitCount_95d88_25 : decode cJ13_bitCount_95d88 25 = .ok (.lload_n 0, 1) := jo_30 (jw1 jdcJ13_bitCount_95d88_16 3 rfl rfl)
theorem dJ13_bitCount_95d88_26 : decode cJ13_bitCount_95d88 26 = .ok (.iconst 4, 1) := jo_7 (jw1 jdcJ13_bitCount_95d88_16 4 rfl rfl)
theorem dJ13_bitCount_95d88_27 : decode cJ13_bitCount_95d88 27 = .ok (.lushr, 1) := jo_125 (jw1 jdcJ13_bitCount_95d88_16 5 rfl rfl)
theorem dJ13_bitCount_95d88_28 : decode cJ13_bitCount_95d88 28 = .ok (.ladd, 1) := jo_97 (jw1 jdcJ13_bitCount_95d88_16 6 rfl rfl)
theorem dJ13_bitCount_95d88_29 : decode cJ13_bitCount_95d88 29 = .ok (.ldc2_w 318, 3) := jo_20 (a := 1) (b := 62) (jw3 jdcJ13_bitCount_95d88_16 7 rfl rfl) rfl
theorem dJ13_bitCount_95d88_32 : decode cJ13_bitCount_95d88 32 = .ok (.land, 1) := jo_127 (jw1 jdcJ13_bitCount_95d88_16 10 rfl rfl)
theorem dJ13_bitCount_95d88_33 : decode cJ13_bitCount_95d88 33 = .ok (.lstore_n 0, 1) := jo_63 (jw1 jdcJ13_bitCount_95d88_16 11 rfl rfl)
theorem dJ13_bitCount_95d88_34 : decode cJ13_bitCount_95d88 34 = .ok (.lload_n 0, 1) := jo_30 (jw1 jdcJ13_bitCount_95d88_16 12 rfl rfl)
theorem dJ13_bitCount_95d88_35 : decode cJ13_bitCount_95d88 35 = .ok (.lload_n 0, 1) := jo_30 (jw1 jdcJ13_bitCount_95d88_16 13 rfl rfl)
theorem dJ13_bitCount_95d88_36 : decode cJ13_bitCount_95d88 36 = .ok (.bipush 8, 2) := jo_16 (a := 8) (jw2 jdcJ13_bitCount_95d88_16 14 rfl rfl) rfl
theorem dJ13_bitCount_95d88_38 : decode cJ13_bitCount_95d88 38 = .ok (.lushr, 1) := jo_125 (jw1 jdcJ13_bitCount_95d88_16 16 rfl rfl)
theorem dJ13_bitCount_95d88_39 : decode cJ13_bitCount_95d88 39 = .ok (.ladd, 1) := jo_97 (jw1 jdcJ13_bitCount_95d88_16 17 rfl rfl)
theorem dJ13_bitCount_95d88_40 : decode cJ13_bitCount_95d88 40 = .ok (.lstore_n 0, 1) := jo_63 (jw1 jdcJ13_bitCount_95d88_16 18 rfl rfl)
theorem jdcJ13_bitCount_95d88_32 : jwk (cJ13_bitCount_95d88.data.toList.drop 41) [30, 30, 16, 16, 125, 97, 63, 30, 30, 16, 32, 125, 97, 63, 30, 136, 16, 127, 126] = true := by decide +kernel
theorem dJ13_bitCount_95d88_41 : decode cJ13_bitCount_95d88 41 = .ok (.lload_n 0, 1) := jo_30 (jw1 jdcJ13_bitCount_95d88_32 0 rfl rfl)
theorem dJ13_bitCount_95d88_42 : decode cJ13_bitCount_95d88 42 = .ok (.lload_n 0, 1) := jo_30 (jw1 jdcJ13_bitCount_95d88_32 1 rfl rfl)
theorem dJ13_bitCount_95d88_43 : decode cJ13_bitCount_95d88 43 = .ok (.bipush 16, 2) := jo_16 (a := 16) (jw2 jdcJ13_bitCount_95d88_32 2 rfl rfl) rfl
theorem dJ13_bitCount_95d88_45 : decode cJ13_bitCount_95d88 45 = .ok (.lushr, 1) := jo_125 (jw1 jdcJ13_bitCount_95d88_32 4 rfl rfl)
theorem dJ13_bitCount_95d88_46 : decode cJ13_bitCount_95d88 46 = .ok (.ladd, 1) := jo_97 (jw1 jdcJ13_bitCount_95d88_32 5 rfl rfl)
theorem dJ13_bitCount_95d88_47 : decode cJ13_bitCount_95d88 47 = .ok (.lstore_n 0, 1) := jo_63 (jw1 jdcJ13_bitCount_95d88_32 6 rfl rfl)
theorem dJ13_bitCount_95d88_48 : decode cJ13_bitCount_95d88 48 = .ok (.lload_n 0, 1) := jo_30 (jw1 jdcJ13_bitCount_95d88_32 7 rfl rfl)
theorem dJ13_bitCount_95d88_49 : decode cJ13_bitCount_95d88 49 = .ok (.lload_n 0, 1) := jo_30 (jw1 jdcJ13_bitCount_95d88_32 8 rfl rfl)
theorem dJ13_bitCount_95d88_50 : decode cJ13_bitCount_95d88 50 = .ok (.bipush 32, 2) := jo_16 (a := 32) (jw2 jdcJ13_bitCount_95d88_32 9 rfl rfl) rfl
theorem dJ13_bitCount_95d88_52 : decode cJ13_bitCount_95d88 52 = .ok (.lushr, 1) := jo_125 (jw1 jdcJ13_bitCount_95d88_32 11 rfl rfl)
theorem dJ13_bitCount_95d88_53 : decode cJ13_bitCount_95d88 53 = .ok (.ladd, 1) := jo_97 (jw1 jdcJ13_bitCount_95d88_32 12 rfl rfl)
theorem dJ13_bitCount_95d88_54 : decode cJ13_bitCount_95d88 54 = .ok (.lstore_n 0, 1) := jo_63 (jw1 jdcJ13_bitCount_95d88_32 13 rfl rfl)
theorem dJ13_bitCount_95d88_55 : decode cJ13_bitCount_95d88 55 = .ok (.lload_n 0, 1) := jo_30 (jw1 jdcJ13_bitCount_95d88_32 14 rfl rfl)
theorem dJ13_bitCount_95d88_56 : decode cJ13_bitCount_95d88 56 = .ok (.l2i, 1) := jo_136 (jw1 jdcJ13_bitCount_95d88_32 15 rfl rfl)
theorem dJ13_bitCount_95d88_57 : decode cJ13_bitCount_95d88 57 = .ok (.bipush 127, 2) := jo_16 (a := 127) (jw2 jdcJ13_bitCount_95d88_32 16 rfl rfl) rfl
theorem dJ13_bitCount_95d88_59 : decode cJ13_bitCount_95d88 59 = .ok (.iand, 1) := jo_126 (jw1 jdcJ13_bitCount_95d88_32 18 rfl rfl)
theorem jdcJ13_bitCount_95d88_48 : jwk (cJ13_bitCount_95d88.data.toList.drop 60) [172] = true := by decide +kernel
theorem dJ13_bitCount_95d88_60 : decode cJ13_bitCount_95d88 60 = .ok (.ireturn, 1) := jo_172 (jw1 jdcJ13_bitCount_95d88_48 0 rfl rfl)
theorem jdcJ9_abs_0f7a4_0 : jwk (cJ9_abs_0f7a4.data.toList.drop 0) [26, 156, 0, 8, 26, 116, 167, 0, 4, 26, 172] = true := by decide +kernel
theorem dJ9_abs_0f7a4_0 : decode cJ9_abs_0f7a4 0 = .ok (.iload_n 0, 1) := jo_26 (jw1 jdcJ9_abs_0f7a4_0 0 rfl rfl)
theorem dJ9_abs_0f7a4_1 : decode cJ9_abs_0f7a4 1 = .ok (.ifCond .ge 8, 3) := jo_156 (a := 0) (b := 8) (jw3 jdcJ9_abs_0f7a4_0 1 rfl rfl) rfl
theorem dJ9_abs_0f7a4_4 : decode cJ9_abs_0f7a4 4 = .ok (.iload_n 0, 1) := jo_26 (jw1 jdcJ9_abs_0f7a4_0 4 rfl rfl)
theorem dJ9_abs_0f7a4_5 : decode cJ9_abs_0f7a4 5 = .ok (.ineg, 1) := jo_116 (jw1 jdcJ9_abs_0f7a4_0 5 rfl rfl)
theorem dJ9_abs_0f7a4_6 : decode cJ9_abs_0f7a4 6 = .ok (.goto 4, 3) := jo_167 (a := 0) (b := 4) (jw3 jdcJ9_abs_0f7a4_0 6 rfl rfl) rfl
theorem dJ9_abs_0f7a4_9 : decode cJ9_abs_0f7a4 9 = .ok (.iload_n 0, 1) := jo_26 (jw1 jdcJ9_abs_0f7a4_0 9 rfl rfl)
theorem dJ9_abs_0f7a4_10 : decode cJ9_abs_0f7a4 10 = .ok (.ireturn, 1) := jo_172 (jw1 jdcJ9_abs_0f7a4_0 10 rfl rfl)
theorem jdcJ9_max_7cf53_0 : jwk (cJ9_max_7cf53.data.toList.drop 0) [26, 27, 161, 0, 7, 26, 167, 0, 4, 27, 172] = true := by decide +kernel
theorem dJ9_max_7cf53_0 : decode cJ9_max_7cf53 0 = .ok (.iload_n 0, 1) := jo_26 (jw1 jdcJ9_max_7cf53_0 0 rfl rfl)
theorem dJ9_max_7cf53_1 : decode cJ9_max_7cf53 1 = .ok (.iload_n 1, 1) := jo_27 (jw1 jdcJ9_max_7cf53_0 1 rfl rfl)
theorem dJ9_max_7cf53_2 : decode cJ9_max_7cf53 2 = .ok (.if_icmp .lt 7, 3) := jo_161 (a := 0) (b := 7) (jw3 jdcJ9_max_7cf53_0 2 rfl rfl) rfl
theorem dJ9_max_7cf53_5 : decode cJ9_max_7cf53 5 = .ok (.iload_n 0, 1) := jo_26 (jw1 jdcJ9_max_7cf53_0 5 rfl rfl)
theorem dJ9_max_7cf53_6 : decode cJ9_max_7cf53 6 = .ok (.goto 4, 3) := jo_167 (a := 0) (b := 4) (jw3 jdcJ9_max_7cf53_0 6 rfl rfl) rfl
theorem dJ9_max_7cf53_9 : decode cJ9_max_7cf53 9 = .ok (.iload_n 1, 1) := jo_27 (jw1 jdcJ9_max_7cf53_0 9 rfl rfl)
theorem dJ9_max_7cf53_10 : decode cJ9_max_7cf53 10 = .ok (.ireturn, 1) := jo_172 (jw1 jdcJ9_max_7cf53_0 10 rfl rfl)
theorem jdcJ9_min_7cf53_0 : jwk (cJ9_min_7cf53.data.toList.drop 0) [26, 27, 163, 0, 7, 26, 167, 0, 4, 27, 172] = true := by decide +kernel
theorem dJ9_min_7cf53_0 : decode cJ9_min_7cf53 0 = .ok (.iload_n 0, 1) := jo_26 (jw1 jdcJ9_min_7cf53_0 0 rfl rfl)
theorem dJ9_min_7cf53_1 : decode cJ9_min_7cf53 1 = .ok (.iload_n 1, 1) := jo_27 (jw1 jdcJ9_min_7cf53_0 1 rfl rfl)
theorem dJ9_min_7cf53_2 : decode cJ9_min_7cf53 2 = .ok (.if_icmp .gt 7, 3) := jo_163 (a := 0) (b := 7) (jw3 jdcJ9_min_7cf53_0 2 rfl rfl) rfl
theorem dJ9_min_7cf53_5 : decode cJ9_min_7cf53 5 = .ok (.iload_n 0, 1) := jo_26 (jw1 jdcJ9_min_7cf53_0 5 rfl rfl)
theorem dJ9_min_7cf53_6 : decode cJ9_min_7cf53 6 = .ok (.goto 4, 3) := jo_167 (a := 0) (b := 4) (jw3 jdcJ9_min_7cf53_0 6 rfl rfl) rfl
theorem dJ9_min_7cf53_9 : decode cJ9_min_7cf53 9 = .ok (.iload_n 1, 1) := jo_27 (jw1 jdcJ9_min_7cf53_0 9 rfl rfl)
theorem dJ9_min_7cf53_10 : decode cJ9_min_7cf53 10 = .ok (.ireturn, 1) := jo_172 (jw1 jdcJ9_min_7cf53_0 10 rfl rfl)
theorem jdcL_law_0 : jwk (cL_law.data.toList.drop 0) [187, 0, 7, 89, 183, 0, 9, 76, 187, 0, 10, 89, 183, 0, 12, 77, 3, 62, 29, 42, 190, 7, 100, 163, 3, 123] = true := by decide +kernel
theorem dL_law_0 : decode cL_law 0 = .ok (.new 7, 3) := jo_187 (a := 0) (b := 7) (jw3 jdcL_law_0 0 rfl rfl) rfl
theorem dL_law_3 : decode cL_law 3 = .ok (.dup, 1) := jo_89 (jw1 jdcL_law_0 3 rfl rfl)
theorem dL_law_4 : decode cL_law 4 = .ok (.invokespecial 9, 3) := jo_183 (a := 0) (b := 9) (jw3 jdcL_law_0 4 rfl rfl) rfl
theorem dL_law_7 : decode cL_law 7 = .ok (.astore_n 1, 1) := jo_76 (jw1 jdcL_law_0 7 rfl rfl)
theorem dL_law_8 : decode cL_law 8 = .ok (.new 10, 3) := jo_187 (a := 0) (b := 10) (jw3 jdcL_law_0 8 rfl rfl) rfl
theorem dL_law_11 : decode cL_law 11 = .ok (.dup, 1) := jo_89 (jw1 jdcL_law_0 11 rfl rfl)
theorem dL_law_12 : decode cL_law 12 = .ok (.invokespecial 12, 3) := jo_183 (a := 0) (b := 12) (jw3 jdcL_law_0 12 rfl rfl) rfl
theorem dL_law_15 : decode cL_law 15 = .ok (.astore_n 2, 1) := jo_77 (jw1 jdcL_law_0 15 rfl rfl)
theorem dL_law_16 : decode cL_law 16 = .ok (.iconst 0, 1) := jo_3 (jw1 jdcL_law_0 16 rfl rfl)
theorem dL_law_17 : decode cL_law 17 = .ok (.istore_n 3, 1) := jo_62 (jw1 jdcL_law_0 17 rfl rfl)
theorem dL_law_18 : decode cL_law 18 = .ok (.iload_n 3, 1) := jo_29 (jw1 jdcL_law_0 18 rfl rfl)
theorem dL_law_19 : decode cL_law 19 = .ok (.aload_n 0, 1) := jo_42 (jw1 jdcL_law_0 19 rfl rfl)
theorem dL_law_20 : decode cL_law 20 = .ok (.arraylength, 1) := jo_190 (jw1 jdcL_law_0 20 rfl rfl)
theorem dL_law_21 : decode cL_law 21 = .ok (.iconst 4, 1) := jo_7 (jw1 jdcL_law_0 21 rfl rfl)
theorem dL_law_22 : decode cL_law 22 = .ok (.isub, 1) := jo_100 (jw1 jdcL_law_0 22 rfl rfl)
theorem dL_law_23 : decode cL_law 23 = .ok (.if_icmp .gt 891, 3) := jo_163 (a := 3) (b := 123) (jw3 jdcL_law_0 23 rfl rfl) rfl
theorem jdcL_law_16 : jwk (cL_law.data.toList.drop 26) [42, 29, 46, 16, 31, 126, 170, 0, 0, 0, 0, 0, 3, 108, 0, 0, 0, 0, 0, 0, 0, 23, 0, 0, 0, 112, 0, 0, 0, 135, 0, 0, 0, 168, 0, 0, 0, 201, 0, 0, 0, 244, 0, 0, 1, 21, 0, 0, 1, 44, 0, 0, 1, 77, 0, 0, 1, 120, 0, 0, 1, 153, 0, 0, 1, 186, 0, 0, 1, 219, 0, 0, 1, 252, 0, 0, 2, 29, 0, 0, 2, 62, 0, 0, 2, 95, 0, 0, 2, 128, 0, 0, 2, 161, 0, 0, 2, 194, 0, 0, 2, 253, 0, 0, 3, 36, 0, 0, 3, 59, 0, 0, 3, 72, 0, 0, 3, 95, 43, 42, 29, 4, 96, 46, 182, 0, 13, 87, 44, 42, 29] = true := by decide +kernel
theorem dL_law_26 : decode cL_law 26 = .ok (.aload_n 0, 1) := jo_42 (jw1 jdcL_law_16 0 rfl rfl)
theorem dL_law_27 : decode cL_law 27 = .ok (.iload_n 3, 1) := jo_29 (jw1 jdcL_law_16 1 rfl rfl)
theorem dL_law_28 : decode cL_law 28 = .ok (.iaload, 1) := jo_46 (jw1 jdcL_law_16 2 rfl rfl)
theorem dL_law_29 : decode cL_law 29 = .ok (.bipush 31, 2) := jo_16 (a := 31) (jw2 jdcL_law_16 3 rfl rfl) rfl
theorem dL_law_31 : decode cL_law 31 = .ok (.iand, 1) := jo_126 (jw1 jdcL_law_16 5 rfl rfl)
theorem dL_law_144 : decode cL_law 144 = .ok (.aload_n 1, 1) := jo_43 (jw1 jdcL_law_16 118 rfl rfl)
theorem dL_law_145 : decode cL_law 145 = .ok (.aload_n 0, 1) := jo_42 (jw1 jdcL_law_16 119 rfl rfl)
theorem dL_law_146 : decode cL_law 146 = .ok (.iload_n 3, 1) := jo_29 (jw1 jdcL_law_16 120 rfl rfl)
theorem dL_law_147 : decode cL_law 147 = .ok (.iconst 1, 1) := jo_4 (jw1 jdcL_law_16 121 rfl rfl)
theorem dL_law_148 : decode cL_law 148 = .ok (.iadd, 1) := jo_96 (jw1 jdcL_law_16 122 rfl rfl)
theorem dL_law_149 : decode cL_law 149 = .ok (.iaload, 1) := jo_46 (jw1 jdcL_law_16 123 rfl rfl)
theorem dL_law_150 : decode cL_law 150 = .ok (.invokevirtual 13, 3) := jo_182 (a := 0) (b := 13) (jw3 jdcL_law_16 124 rfl rfl) rfl
theorem dL_law_153 : decode cL_law 153 = .ok (.pop, 1) := jo_87 (jw1 jdcL_law_16 127 rfl rfl)
theorem dL_law_154 : decode cL_law 154 = .ok (.aload_n 2, 1) := jo_44 (jw1 jdcL_law_16 128 rfl rfl)
theorem dL_law_155 : decode cL_law 155 = .ok (.aload_n 0, 1) := jo_42 (jw1 jdcL_law_16 129 rfl rfl)
theorem dL_law_156 : decode cL_law 156 = .ok (.iload_n 3, 1) := jo_29 (jw1 jdcL_law_16 130 rfl rfl)
theorem jdcL_law_32 : jwk (cL_law.data.toList.drop 157) [4, 96, 46, 182, 0, 17, 87, 167, 2, 232, 43, 42, 29, 4, 96, 46, 42, 29, 5, 96] = true := by decide +kernel
theorem dL_law_157 : decode cL_law 157 = .ok (.iconst 1, 1) := jo_4 (jw1 jdcL_law_32 0 rfl rfl)
theorem dL_law_158 : decode cL_law 158 = .ok (.iadd, 1) := jo_96 (jw1 jdcL_law_32 1 rfl rfl)
theorem dL_law_159 : decode cL_law 159 = .ok (.iaload, 1) := jo_46 (jw1 jdcL_law_32 2 rfl rfl)
theorem dL_law_160 : decode cL_law 160 = .ok (.invokevirtual 17, 3) := jo_182 (a := 0) (b := 17) (jw3 jdcL_law_32 3 rfl rfl) rfl
theorem dL_law_163 : decode cL_law 163 = .ok (.pop, 1) := jo_87 (jw1 jdcL_law_32 6 rfl rfl)
theorem dL_law_164 : decode cL_law 164 = .ok (.goto 744, 3) := jo_167 (a := 2) (b := 232) (jw3 jdcL_law_32 7 rfl rfl) rfl
theorem dL_law_167 : decode cL_law 167 = .ok (.aload_n 1, 1) := jo_43 (jw1 jdcL_law_32 10 rfl rfl)
theorem dL_law_168 : decode cL_law 168 = .ok (.aload_n 0, 1) := jo_42 (jw1 jdcL_law_32 11 rfl rfl)
theorem dL_law_169 : decode cL_law 169 = .ok (.iload_n 3, 1) := jo_29 (jw1 jdcL_law_32 12 rfl rfl)
theorem dL_law_170 : decode cL_law 170 = .ok (.iconst 1, 1) := jo_4 (jw1 jdcL_law_32 13 rfl rfl)
theorem dL_law_171 : decode cL_law 171 = .ok (.iadd, 1) := jo_96 (jw1 jdcL_law_32 14 rfl rfl)
theorem dL_law_172 : decode cL_law 172 = .ok (.iaload, 1) := jo_46 (jw1 jdcL_law_32 15 rfl rfl)
theorem dL_law_173 : decode cL_law 173 = .ok (.aload_n 0, 1) := jo_42 (jw1 jdcL_law_32 16 rfl rfl)
theorem dL_law_174 : decode cL_law 174 = .ok (.iload_n 3, 1) := jo_29 (jw1 jdcL_law_32 17 rfl rfl)
theorem dL_law_175 : decode cL_law 175 = .ok (.iconst 2, 1) := jo_5 (jw1 jdcL_law_32 18 rfl rfl)
theorem dL_law_176 : decode cL_law 176 = .ok (.iadd, 1) := jo_96 (jw1 jdcL_law_32 19 rfl rfl)
theorem jdcL_law_48 : jwk (cL_law.data.toList.drop 177) [46, 182, 0, 18, 87, 44, 42, 29, 4, 96, 46, 42, 29, 5, 96, 46, 182, 0, 22, 87] = true := by decide +kernel
theorem dL_law_177 : decode cL_law 177 = .ok (.iaload, 1) := jo_46 (jw1 jdcL_law_48 0 rfl rfl)
theorem dL_law_178 : decode cL_law 178 = .ok (.invokevirtual 18, 3) := jo_182 (a := 0) (b := 18) (jw3 jdcL_law_48 1 rfl rfl) rfl
theorem dL_law_181 : decode cL_law 181 = .ok (.pop, 1) := jo_87 (jw1 jdcL_law_48 4 rfl rfl)
theorem dL_law_182 : decode cL_law 182 = .ok (.aload_n 2, 1) := jo_44 (jw1 jdcL_law_48 5 rfl rfl)
theorem dL_law_183 : decode cL_law 183 = .ok (.aload_n 0, 1) := jo_42 (jw1 jdcL_law_48 6 rfl rfl)
theorem dL_law_184 : decode cL_law 184 = .ok (.iload_n 3, 1) := jo_29 (jw1 jdcL_law_48 7 rfl rfl)
theorem dL_law_185 : decode cL_law 185 = .ok (.iconst 1, 1) := jo_4 (jw1 jdcL_law_48 8 rfl rfl)
theorem dL_law_186 : decode cL_law 186 = .ok (.iadd, 1) := jo_96 (jw1 jdcL_law_48 9 rfl rfl)
theorem dL_law_187 : decode cL_law 187 = .ok (.iaload, 1) := jo_46 (jw1 jdcL_law_48 10 rfl rfl)
theorem dL_law_188 : decode cL_law 188 = .ok (.aload_n 0, 1) := jo_42 (jw1 jdcL_law_48 11 rfl rfl)
theorem dL_law_189 : decode cL_law 189 = .ok (.iload_n 3, 1) := jo_29 (jw1 jdcL_law_48 12 rfl rfl)
theorem dL_law_190 : decode cL_law 190 = .ok (.iconst 2, 1) := jo_5 (jw1 jdcL_law_48 13 rfl rfl)
theorem dL_law_191 : decode cL_law 191 = .ok (.iadd, 1) := jo_96 (jw1 jdcL_law_48 14 rfl rfl)
theorem dL_law_192 : decode cL_law 192 = .ok (.iaload, 1) := jo_46 (jw1 jdcL_law_48 15 rfl rfl)
theorem dL_law_193 : decode cL_law 193 = .ok (.invokevirtual 22, 3) := jo_182 (a := 0) (b := 22) (jw3 jdcL_law_48 16 rfl rfl) rfl
theorem dL_law_196 : decode cL_law 196 = .ok (.pop, 1) := jo_87 (jw1 jdcL_law_48 19 rfl rfl)
theorem jdcL_law_64 : jwk (cL_law.data.toList.drop 197) [167, 2, 199, 43, 42, 29, 4, 96, 46, 42, 29, 5, 96, 46, 182, 0, 23, 87, 44, 42] = true := by decide +kernel
theorem dL_law_197 : decode cL_law 197 = .ok (.goto 711, 3) := jo_167 (a := 2) (b := 199) (jw3 jdcL_law_64 0 rfl rfl) rfl
theorem dL_law_200 : decode cL_law 200 = .ok (.aload_n 1, 1) := jo_43 (jw1 jdcL_law_64 3 rfl rfl)
theorem dL_law_201 : decode cL_law 201 = .ok (.aload_n 0, 1) := jo_42 (jw1 jdcL_law_64 4 rfl rfl)
theorem dL_law_202 : decode cL_law 202 = .ok (.iload_n 3, 1) := jo_29 (jw1 jdcL_law_64 5 rfl rfl)
theorem dL_law_203 : decode cL_law 203 = .ok (.iconst 1, 1) := jo_4 (jw1 jdcL_law_64 6 rfl rfl)
theorem dL_law_204 : decode cL_law 204 = .ok (.iadd, 1) := jo_96 (jw1 jdcL_law_64 7 rfl rfl)
theorem dL_law_205 : decode cL_law 205 = .ok (.iaload, 1) := jo_46 (jw1 jdcL_law_64 8 rfl rfl)
theorem dL_law_206 : decode cL_law 206 = .ok (.aload_n 0, 1) := jo_42 (jw1 jdcL_law_64 9 rfl rfl)
theorem dL_law_207 : decode cL_law 207 = .ok (.iload_n 3, 1) := jo_29 (jw1 jdcL_law_64 10 rfl rfl)
theorem dL_law_208 : decode cL_law 208 = .ok (.iconst 2, 1) := jo_5 (jw1 jdcL_law_64 11 rfl rfl)
theorem dL_law_209 : decode cL_law 209 = .ok (.iadd, 1) := jo_96 (jw1 jdcL_law_64 12 rfl rfl)
theorem dL_law_210 : decode cL_law 210 = .ok (.iaload, 1) := jo_46 (jw1 jdcL_law_64 13 rfl rfl)
theorem dL_law_211 : decode cL_law 211 = .ok (.invokevirtual 23, 3) := jo_182 (a := 0) (b := 23) (jw3 jdcL_law_64 14 rfl rfl) rfl
theorem dL_law_214 : decode cL_law 214 = .ok (.pop, 1) := jo_87 (jw1 jdcL_law_64 17 rfl rfl)
theorem dL_law_215 : decode cL_law 215 = .ok (.aload_n 2, 1) := jo_44 (jw1 jdcL_law_64 18 rfl rfl)
theorem dL_law_216 : decode cL_law 216 = .ok (.aload_n 0, 1) := jo_42 (jw1 jdcL_law_64 19 rfl rfl)
theorem jdcL_law_80 : jwk (cL_law.data.toList.drop 217) [29, 4, 96, 46, 42, 29, 5, 96, 46, 182, 0, 26, 87, 167, 2, 166, 43, 42, 29, 4] = true := by decide +kernel
theorem dL_law_217 : decode cL_law 217 = .ok (.iload_n 3, 1) := jo_29 (jw1 jdcL_law_80 0 rfl rfl)
theorem dL_law_218 : decode cL_law 218 = .ok (.iconst 1, 1) := jo_4 (jw1 jdcL_law_80 1 rfl rfl)
theorem dL_law_219 : decode cL_law 219 = .ok (.iadd, 1) := jo_96 (jw1 jdcL_law_80 2 rfl rfl)
theorem dL_law_220 : decode cL_law 220 = .ok (.iaload, 1) := jo_46 (jw1 jdcL_law_80 3 rfl rfl)
theorem dL_law_221 : decode cL_law 221 = .ok (.aload_n 0, 1) := jo_42 (jw1 jdcL_law_80 4 rfl rfl)
theorem dL_law_222 : decode cL_law 222 = .ok (.iload_n 3, 1) := jo_29 (jw1 jdcL_law_80 5 rfl rfl)
theorem dL_law_223 : decode cL_law 223 = .ok (.iconst 2, 1) := jo_5 (jw1 jdcL_law_80 6 rfl rfl)
theorem dL_law_224 : decode cL_law 224 = .ok (.iadd, 1) := jo_96 (jw1 jdcL_law_80 7 rfl rfl)
theorem dL_law_225 : decode cL_law 225 = .ok (.iaload, 1) := jo_46 (jw1 jdcL_law_80 8 rfl rfl)
theorem dL_law_226 : decode cL_law 226 = .ok (.invokevirtual 26, 3) := jo_182 (a := 0) (b := 26) (jw3 jdcL_law_80 9 rfl rfl) rfl
theorem dL_law_229 : decode cL_law 229 = .ok (.pop, 1) := jo_87 (jw1 jdcL_law_80 12 rfl rfl)
theorem dL_law_230 : decode cL_law 230 = .ok (.goto 678, 3) := jo_167 (a := 2) (b := 166) (jw3 jdcL_law_80 13 rfl rfl) rfl
theorem dL_law_233 : decode cL_law 233 = .ok (.aload_n 1, 1) := jo_43 (jw1 jdcL_law_80 16 rfl rfl)
theorem dL_law_234 : decode cL_law 234 = .ok (.aload_n 0, 1) := jo_42 (jw1 jdcL_law_80 17 rfl rfl)
theorem dL_law_235 : decode cL_law 235 = .ok (.iload_n 3, 1) := jo_29 (jw1 jdcL_law_80 18 rfl rfl)
theorem dL_law_236 : decode cL_law 236 = .ok (.iconst 1, 1) := jo_4 (jw1 jdcL_law_80 19 rfl rfl)
theorem jdcL_law_96 : jwk (cL_law.data.toList.drop 237) [96, 46, 42, 29, 5, 96, 46, 42, 29, 6, 96, 46, 182, 0, 27, 87, 44, 42] = true := by decide +kernel
theorem dL_law_237 : decode cL_law 237 = .ok (.iadd, 1) := jo_96 (jw1 jdcL_law_96 0 rfl rfl)
theorem dL_law_238 : decode cL_law 238 = .ok (.iaload, 1) := jo_46 (jw1 jdcL_law_96 1 rfl rfl)
theorem dL_law_239 : decode cL_law 239 = .ok (.aload_n 0, 1) := jo_42 (jw1 jdcL_law_96 2 rfl rfl)
theorem dL_law_240 : decode cL_law 240 = .ok (.iload_n 3, 1) := jo_29 (jw1 jdcL_law_96 3 rfl rfl)
theorem dL_law_241 : decode cL_law 241 = .ok (.iconst 2, 1) := jo_5 (jw1 jdcL_law_96 4 rfl rfl)
theorem dL_law_242 : decode cL_law 242 = .ok (.iadd, 1) := jo_96 (jw1 jdcL_law_96 5 rfl rfl)
theorem dL_law_243 : decode cL_law 243 = .ok (.iaload, 1) := jo_46 (jw1 jdcL_law_96 6 rfl rfl)
theorem dL_law_244 : decode cL_law 244 = .ok (.aload_n 0, 1) := jo_42 (jw1 jdcL_law_96 7 rfl rfl)
theorem dL_law_245 : decode cL_law 245 = .ok (.iload_n 3, 1) := jo_29 (jw1 jdcL_law_96 8 rfl rfl)
theorem dL_law_246 : decode cL_law 246 = .ok (.iconst 3, 1) := jo_6 (jw1 jdcL_law_96 9 rfl rfl)
theorem dL_law_247 : decode cL_law 247 = .ok (.iadd, 1) := jo_96 (jw1 jdcL_law_96 10 rfl rfl)
theorem dL_law_248 : decode cL_law 248 = .ok (.iaload, 1) := jo_46 (jw1 jdcL_law_96 11 rfl rfl)
theorem dL_law_249 : decode cL_law 249 = .ok (.invokevirtual 27, 3) := jo_182 (a := 0) (b := 27) (jw3 jdcL_law_96 12 rfl rfl) rfl
theorem dL_law_252 : decode cL_law 252 = .ok (.pop, 1) := jo_87 (jw1 jdcL_law_96 15 rfl rfl)
theorem dL_law_253 : decode cL_law 253 = .ok (.aload_n 2, 1) := jo_44 (jw1 jdcL_law_96 16 rfl rfl)
theorem dL_law_254 : decode cL_law 254 = .ok (.aload_n 0, 1) := jo_42 (jw1 jdcL_law_96 17 rfl rfl)
theorem jdcL_law_112 : jwk (cL_law.data.toList.drop 255) [29, 4, 96, 46, 42, 29, 5, 96, 46, 42, 29, 6, 96, 46, 182, 0, 31, 87] = true := by decide +kernel
theorem dL_law_255 : decode cL_law 255 = .ok (.iload_n 3, 1) := jo_29 (jw1 jdcL_law_112 0 rfl rfl)
theorem dL_law_256 : decode cL_law 256 = .ok (.iconst 1, 1) := jo_4 (jw1 jdcL_law_112 1 rfl rfl)
theorem dL_law_257 : decode cL_law 257 = .ok (.iadd, 1) := jo_96 (jw1 jdcL_law_112 2 rfl rfl)
theorem dL_law_258 : decode cL_law 258 = .ok (.iaload, 1) := jo_46 (jw1 jdcL_law_112 3 rfl rfl)
theorem dL_law_259 : decode cL_law 259 = .ok (.aload_n 0, 1) := jo_42 (jw1 jdcL_law_112 4 rfl rfl)
theorem dL_law_260 : decode cL_law 260 = .ok (.iload_n 3, 1) := jo_29 (jw1 jdcL_law_112 5 rfl rfl)
theorem dL_law_261 : decode cL_law 261 = .ok (.iconst 2, 1) := jo_5 (jw1 jdcL_law_112 6 rfl rfl)
theorem dL_law_262 : decode cL_law 262 = .ok (.iadd, 1) := jo_96 (jw1 jdcL_law_112 7 rfl rfl)
theorem dL_law_263 : decode cL_law 263 = .ok (.iaload, 1) := jo_46 (jw1 jdcL_law_112 8 rfl rfl)
theorem dL_law_264 : decode cL_law 264 = .ok (.aload_n 0, 1) := jo_42 (jw1 jdcL_law_112 9 rfl rfl)
theorem dL_law_265 : decode cL_law 265 = .ok (.iload_n 3, 1) := jo_29 (jw1 jdcL_law_112 10 rfl rfl)
theorem dL_law_266 : decode cL_law 266 = .ok (.iconst 3, 1) := jo_6 (jw1 jdcL_law_112 11 rfl rfl)
theorem dL_law_267 : decode cL_law 267 = .ok (.iadd, 1) := jo_96 (jw1 jdcL_law_112 12 rfl rfl)
theorem dL_law_268 : decode cL_law 268 = .ok (.iaload, 1) := jo_46 (jw1 jdcL_law_112 13 rfl rfl)
theorem dL_law_269 : decode cL_law 269 = .ok (.invokevirtual 31, 3) := jo_182 (a := 0) (b := 31) (jw3 jdcL_law_112 14 rfl rfl) rfl
theorem dL_law_272 : decode cL_law 272 = .ok (.pop, 1) := jo_87 (jw1 jdcL_law_112 17 rfl rfl)
theorem jdcL_law_128 : jwk (cL_law.data.toList.drop 273) [167, 2, 123, 43, 42, 29, 4, 96, 46, 42, 29, 5, 96, 46, 182, 0, 32, 87, 44, 42] = true := by decide +kernel
theorem dL_law_273 : decode cL_law 273 = .ok (.goto 635, 3) := jo_167 (a := 2) (b := 123) (jw3 jdcL_law_128 0 rfl rfl) rfl
theorem dL_law_276 : decode cL_law 276 = .ok (.aload_n 1, 1) := jo_43 (jw1 jdcL_law_128 3 rfl rfl)
theorem dL_law_277 : decode cL_law 277 = .ok (.aload_n 0, 1) := jo_42 (jw1 jdcL_law_128 4 rfl rfl)
theorem dL_law_278 : decode cL_law 278 = .ok (.iload_n 3, 1) := jo_29 (jw1 jdcL_law_128 5 rfl rfl)
theorem dL_law_279 : decode cL_law 279 = .ok (.iconst 1, 1) := jo_4 (jw1 jdcL_law_128 6 rfl rfl)
theorem dL_law_280 : decode cL_law 280 = .ok (.iadd, 1) := jo_96 (jw1 jdcL_law_128 7 rfl rfl)
theorem dL_law_281 : decode cL_law 281 = .ok (.iaload, 1) := jo_46 (jw1 jdcL_law_128 8 rfl rfl)
theorem dL_law_282 : decode cL_law 282 = .ok (.aload_n 0, 1) := jo_42 (jw1 jdcL_law_128 9 rfl rfl)
theorem dL_law_283 : decode cL_law 283 = .ok (.iload_n 3, 1) := jo_29 (jw1 jdcL_law_128 10 rfl rfl)
theorem dL_law_284 : decode cL_law 284 = .ok (.iconst 2, 1) := jo_5 (jw1 jdcL_law_128 11 rfl rfl)
theorem dL_law_285 : decode cL_law 285 = .ok (.iadd, 1) := jo_96 (jw1 jdcL_law_128 12 rfl rfl)
theorem dL_law_286 : decode cL_law 286 = .ok (.iaload, 1) := jo_46 (jw1 jdcL_law_128 13 rfl rfl)
theorem dL_law_287 : decode cL_law 287 = .ok (.invokevirtual 32, 3) := jo_182 (a := 0) (b := 32) (jw3 jdcL_law_128 14 rfl rfl) rfl
theorem dL_law_290 : decode cL_law 290 = .ok (.pop, 1) := jo_87 (jw1 jdcL_law_128 17 rfl rfl)
theorem dL_law_291 : decode cL_law 291 = .ok (.aload_n 2, 1) := jo_44 (jw1 jdcL_law_128 18 rfl rfl)
theorem dL_law_292 : decode cL_law 292 = .ok (.aload_n 0, 1) := jo_42 (jw1 jdcL_law_128 19 rfl rfl)
theorem jdcL_law_144 : jwk (cL_law.data.toList.drop 293) [29, 4, 96, 46, 42, 29, 5, 96, 46, 182, 0, 35, 87, 167, 2, 90, 43, 42, 29, 4] = true := by decide +kernel
theorem dL_law_293 : decode cL_law 293 = .ok (.iload_n 3, 1) := jo_29 (jw1 jdcL_law_144 0 rfl rfl)
theorem dL_law_294 : decode cL_law 294 = .ok (.iconst 1, 1) := jo_4 (jw1 jdcL_law_144 1 rfl rfl)
theorem dL_law_295 : decode cL_law 295 = .ok (.iadd, 1) := jo_96 (jw1 jdcL_law_144 2 rfl rfl)
theorem dL_law_296 : decode cL_law 296 = .ok (.iaload, 1) := jo_46 (jw1 jdcL_law_144 3 rfl rfl)
theorem dL_law_297 : decode cL_law 297 = .ok (.aload_n 0, 1) := jo_42 (jw1 jdcL_law_144 4 rfl rfl)
theorem dL_law_298 : decode cL_law 298 = .ok (.iload_n 3, 1) := jo_29 (jw1 jdcL_law_144 5 rfl rfl)
theorem dL_law_299 : decode cL_law 299 = .ok (.iconst 2, 1) := jo_5 (jw1 jdcL_law_144 6 rfl rfl)
theorem dL_law_300 : decode cL_law 300 = .ok (.iadd, 1) := jo_96 (jw1 jdcL_law_144 7 rfl rfl)
theorem dL_law_301 : decode cL_law 301 = .ok (.iaload, 1) := jo_46 (jw1 jdcL_law_144 8 rfl rfl)
theorem dL_law_302 : decode cL_law 302 = .ok (.invokevirtual 35, 3) := jo_182 (a := 0) (b := 35) (jw3 jdcL_law_144 9 rfl rfl) rfl
theorem dL_law_305 : decode cL_law 305 = .ok (.pop, 1) := jo_87 (jw1 jdcL_law_144 12 rfl rfl)
theorem dL_law_306 : decode cL_law 306 = .ok (.goto 602, 3) := jo_167 (a := 2) (b := 90) (jw3 jdcL_law_144 13 rfl rfl) rfl
theorem dL_law_309 : decode cL_law 309 = .ok (.aload_n 1, 1) := jo_43 (jw1 jdcL_law_144 16 rfl rfl)
theorem dL_law_310 : decode cL_law 310 = .ok (.aload_n 0, 1) := jo_42 (jw1 jdcL_law_144 17 rfl rfl)
theorem dL_law_311 : decode cL_law 311 = .ok (.iload_n 3, 1) := jo_29 (jw1 jdcL_law_144 18 rfl rfl)
theorem dL_law_312 : decode cL_law 312 = .ok (.iconst 1, 1) := jo_4 (jw1 jdcL_law_144 19 rfl rfl)
theorem jdcL_law_160 : jwk (cL_law.data.toList.drop 313) [96, 46, 182, 0, 36, 87, 44, 42, 29, 4, 96, 46, 182, 0, 39, 87, 167, 2, 67, 43, 42, 29] = true := by decide +kernel
theorem dL_law_313 : decode cL_law 313 = .ok (.iadd, 1) := jo_96 (jw1 jdcL_law_160 0 rfl rfl)
theorem dL_law_314 : decode cL_law 314 = .ok (.iaload, 1) := jo_46 (jw1 jdcL_law_160 1 rfl rfl)
theorem dL_law_315 : decode cL_law 315 = .ok (.invokevirtual 36, 3) := jo_182 (a := 0) (b := 36) (jw3 jdcL_law_160 2 rfl rfl) rfl
theorem dL_law_318 : decode cL_law 318 = .ok (.pop, 1) := jo_87 (jw1 jdcL_law_160 5 rfl rfl)
theorem dL_law_319 : decode cL_law 319 = .ok (.aload_n 2, 1) := jo_44 (jw1 jdcL_law_160 6 rfl rfl)
theorem dL_law_320 : decode cL_law 320 = .ok (.aload_n 0, 1) := jo_42 (jw1 jdcL_law_160 7 rfl rfl)
theorem dL_law_321 : decode cL_law 321 = .ok (.iload_n 3, 1) := jo_29 (jw1 jdcL_law_160 8 rfl rfl)
theorem dL_law_322 : decode cL_law 322 = .ok (.iconst 1, 1) := jo_4 (jw1 jdcL_law_160 9 rfl rfl)
theorem dL_law_323 : decode cL_law 323 = .ok (.iadd, 1) := jo_96 (jw1 jdcL_law_160 10 rfl rfl)
theorem dL_law_324 : decode cL_law 324 = .ok (.iaload, 1) := jo_46 (jw1 jdcL_law_160 11 rfl rfl)
theorem dL_law_325 : decode cL_law 325 = .ok (.invokevirtual 39, 3) := jo_182 (a := 0) (b := 39) (jw3 jdcL_law_160 12 rfl rfl) rfl
theorem dL_law_328 : decode cL_law 328 = .ok (.pop, 1) := jo_87 (jw1 jdcL_law_160 15 rfl rfl)
theorem dL_law_329 : decode cL_law 329 = .ok (.goto 579, 3) := jo_167 (a := 2) (b := 67) (jw3 jdcL_law_160 16 rfl rfl) rfl
theorem dL_law_332 : decode cL_law 332 = .ok (.aload_n 1, 1) := jo_43 (jw1 jdcL_law_160 19 rfl rfl)
theorem dL_law_333 : decode cL_law 333 = .ok (.aload_n 0, 1) := jo_42 (jw1 jdcL_law_160 20 rfl rfl)
theorem dL_law_334 : decode cL_law 334 = .ok (.iload_n 3, 1) := jo_29 (jw1 jdcL_law_160 21 rfl rfl)
theorem jdcL_law_176 : jwk (cL_law.data.toList.drop 335) [4, 96, 46, 42, 29, 5, 96, 46, 182, 0, 40, 87, 44, 42, 29, 4, 96, 46] = true := by decide +kernel
theorem dL_law_335 : decode cL_law 335 = .ok (.iconst 1, 1) := jo_4 (jw1 jdcL_law_176 0 rfl rfl)
theorem dL_law_336 : decode cL_law 336 = .ok (.iadd, 1) := jo_96 (jw1 jdcL_law_176 1 rfl rfl)
theorem dL_law_337 : decode cL_law 337 = .ok (.iaload, 1) := jo_46 (jw1 jdcL_law_176 2 rfl rfl)
theorem dL_law_338 : decode cL_law 338 = .ok (.aload_n 0, 1) := jo_42 (jw1 jdcL_law_176 3 rfl rfl)
theorem dL_law_339 : decode cL_law 339 = .ok (.iload_n 3, 1) := jo_29 (jw1 jdcL_law_176 4 rfl rfl)
theorem dL_law_340 : decode cL_law 340 = .ok (.iconst 2, 1) := jo_5 (jw1 jdcL_law_176 5 rfl rfl)
theorem dL_law_341 : decode cL_law 341 = .ok (.iadd, 1) := jo_96 (jw1 jdcL_law_176 6 rfl rfl)
theorem dL_law_342 : decode cL_law 342 = .ok (.iaload, 1) := jo_46 (jw1 jdcL_law_176 7 rfl rfl)
theorem dL_law_343 : decode cL_law 343 = .ok (.invokevirtual 40, 3) := jo_182 (a := 0) (b := 40) (jw3 jdcL_law_176 8 rfl rfl) rfl
theorem dL_law_346 : decode cL_law 346 = .ok (.pop, 1) := jo_87 (jw1 jdcL_law_176 11 rfl rfl)
theorem dL_law_347 : decode cL_law 347 = .ok (.aload_n 2, 1) := jo_44 (jw1 jdcL_law_176 12 rfl rfl)
theorem dL_law_348 : decode cL_law 348 = .ok (.aload_n 0, 1) := jo_42 (jw1 jdcL_law_176 13 rfl rfl)
theorem dL_law_349 : decode cL_law 349 = .ok (.iload_n 3, 1) := jo_29 (jw1 jdcL_law_176 14 rfl rfl)
theorem dL_law_350 : decode cL_law 350 = .ok (.iconst 1, 1) := jo_4 (jw1 jdcL_law_176 15 rfl rfl)
theorem dL_law_351 : decode cL_law 351 = .ok (.iadd, 1) := jo_96 (jw1 jdcL_law_176 16 rfl rfl)
theorem dL_law_352 : decode cL_law 352 = .ok (.iaload, 1) := jo_46 (jw1 jdcL_law_176 17 rfl rfl)
theorem jdcL_law_192 : jwk (cL_law.data.toList.drop 353) [42, 29, 5, 96, 46, 182, 0, 43, 87, 167, 2, 34, 43, 42, 29, 4, 96, 46, 42, 29] = true := by decide +kernel
theorem dL_law_353 : decode cL_law 353 = .ok (.aload_n 0, 1) := jo_42 (jw1 jdcL_law_192 0 rfl rfl)
theorem dL_law_354 : decode cL_law 354 = .ok (.iload_n 3, 1) := jo_29 (jw1 jdcL_law_192 1 rfl rfl)
theorem dL_law_355 : decode cL_law 355 = .ok (.iconst 2, 1) := jo_5 (jw1 jdcL_law_192 2 rfl rfl)
theorem dL_law_356 : decode cL_law 356 = .ok (.iadd, 1) := jo_96 (jw1 jdcL_law_192 3 rfl rfl)
theorem dL_law_357 : decode cL_law 357 = .ok (.iaload, 1) := jo_46 (jw1 jdcL_law_192 4 rfl rfl)
theorem dL_law_358 : decode cL_law 358 = .ok (.invokevirtual 43, 3) := jo_182 (a := 0) (b := 43) (jw3 jdcL_law_192 5 rfl rfl) rfl
theorem dL_law_361 : decode cL_law 361 = .ok (.pop, 1) := jo_87 (jw1 jdcL_law_192 8 rfl rfl)
theorem dL_law_362 : decode cL_law 362 = .ok (.goto 546, 3) := jo_167 (a := 2) (b := 34) (jw3 jdcL_law_192 9 rfl rfl) rfl
theorem dL_law_365 : decode cL_law 365 = .ok (.aload_n 1, 1) := jo_43 (jw1 jdcL_law_192 12 rfl rfl)
theorem dL_law_366 : decode cL_law 366 = .ok (.aload_n 0, 1) := jo_42 (jw1 jdcL_law_192 13 rfl rfl)
theorem dL_law_367 : decode cL_law 367 = .ok (.iload_n 3, 1) := jo_29 (jw1 jdcL_law_192 14 rfl rfl)
theorem dL_law_368 : decode cL_law 368 = .ok (.iconst 1, 1) := jo_4 (jw1 jdcL_law_192 15 rfl rfl)
theorem dL_law_369 : decode cL_law 369 = .ok (.iadd, 1) := jo_96 (jw1 jdcL_law_192 16 rfl rfl)
theorem dL_law_370 : decode cL_law 370 = .ok (.iaload, 1) := jo_46 (jw1 jdcL_law_192 17 rfl rfl)
theorem dL_law_371 : decode cL_law 371 = .ok (.aload_n 0, 1) := jo_42 (jw1 jdcL_law_192 18 rfl rfl)
theorem dL_law_372 : decode cL_law 372 = .ok (.iload_n 3, 1) := jo_29 (jw1 jdcL_law_192 19 rfl rfl)
theorem jdcL_law_208 : jwk (cL_law.data.toList.drop 373) [5, 96, 46, 42, 29, 6, 96, 46, 182, 0, 44, 87, 44, 42, 29, 4, 96, 46] = true := by decide +kernel
theorem dL_law_373 : decode cL_law 373 = .ok (.iconst 2, 1) := jo_5 (jw1 jdcL_law_208 0 rfl rfl)
theorem dL_law_374 : decode cL_law 374 = .ok (.iadd, 1) := jo_96 (jw1 jdcL_law_208 1 rfl rfl)
theorem dL_law_375 : decode cL_law 375 = .ok (.iaload, 1) := jo_46 (jw1 jdcL_law_208 2 rfl rfl)
theorem dL_law_376 : decode cL_law 376 = .ok (.aload_n 0, 1) := jo_42 (jw1 jdcL_law_208 3 rfl rfl)
theorem dL_law_377 : decode cL_law 377 = .ok (.iload_n 3, 1) := jo_29 (jw1 jdcL_law_208 4 rfl rfl)
theorem dL_law_378 : decode cL_law 378 = .ok (.iconst 3, 1) := jo_6 (jw1 jdcL_law_208 5 rfl rfl)
theorem dL_law_379 : decode cL_law 379 = .ok (.iadd, 1) := jo_96 (jw1 jdcL_law_208 6 rfl rfl)
theorem dL_law_380 : decode cL_law 380 = .ok (.iaload, 1) := jo_46 (jw1 jdcL_law_208 7 rfl rfl)
theorem dL_law_381 : decode cL_law 381 = .ok (.invokevirtual 44, 3) := jo_182 (a := 0) (b := 44) (jw3 jdcL_law_208 8 rfl rfl) rfl
theorem dL_law_384 : decode cL_law 384 = .ok (.pop, 1) := jo_87 (jw1 jdcL_law_208 11 rfl rfl)
theorem dL_law_385 : decode cL_law 385 = .ok (.aload_n 2, 1) := jo_44 (jw1 jdcL_law_208 12 rfl rfl)
theorem dL_law_386 : decode cL_law 386 = .ok (.aload_n 0, 1) := jo_42 (jw1 jdcL_law_208 13 rfl rfl)
theorem dL_law_387 : decode cL_law 387 = .ok (.iload_n 3, 1) := jo_29 (jw1 jdcL_law_208 14 rfl rfl)
theorem dL_law_388 : decode cL_law 388 = .ok (.iconst 1, 1) := jo_4 (jw1 jdcL_law_208 15 rfl rfl)
theorem dL_law_389 : decode cL_law 389 = .ok (.iadd, 1) := jo_96 (jw1 jdcL_law_208 16 rfl rfl)
theorem dL_law_390 : decode cL_law 390 = .ok (.iaload, 1) := jo_46 (jw1 jdcL_law_208 17 rfl rfl)
theorem jdcL_law_224 : jwk (cL_law.data.toList.drop 391) [42, 29, 5, 96, 46, 42, 29, 6, 96, 46, 182, 0, 47, 87, 167, 1, 247, 43, 42, 29] = true := by decide +kernel
theorem dL_law_391 : decode cL_law 391 = .ok (.aload_n 0, 1) := jo_42 (jw1 jdcL_law_224 0 rfl rfl)
theorem dL_law_392 : decode cL_law 392 = .ok (.iload_n 3, 1) := jo_29 (jw1 jdcL_law_224 1 rfl rfl)
theorem dL_law_393 : decode cL_law 393 = .ok (.iconst 2, 1) := jo_5 (jw1 jdcL_law_224 2 rfl rfl)
theorem dL_law_394 : decode cL_law 394 = .ok (.iadd, 1) := jo_96 (jw1 jdcL_law_224 3 rfl rfl)
theorem dL_law_395 : decode cL_law 395 = .ok (.iaload, 1) := jo_46 (jw1 jdcL_law_224 4 rfl rfl)
theorem dL_law_396 : decode cL_law 396 = .ok (.aload_n 0, 1) := jo_42 (jw1 jdcL_law_224 5 rfl rfl)
theorem dL_law_397 : decode cL_law 397 = .ok (.iload_n 3, 1) := jo_29 (jw1 jdcL_law_224 6 rfl rfl)
theorem dL_law_398 : decode cL_law 398 = .ok (.iconst 3, 1) := jo_6 (jw1 jdcL_law_224 7 rfl rfl)
theorem dL_law_399 : decode cL_law 399 = .ok (.iadd, 1) := jo_96 (jw1 jdcL_law_224 8 rfl rfl)
theorem dL_law_400 : decode cL_law 400 = .ok (.iaload, 1) := jo_46 (jw1 jdcL_law_224 9 rfl rfl)
theorem dL_law_401 : decode cL_law 401 = .ok (.invokevirtual 47, 3) := jo_182 (a := 0) (b := 47) (jw3 jdcL_law_224 10 rfl rfl) rfl
theorem dL_law_404 : decode cL_law 404 = .ok (.pop, 1) := jo_87 (jw1 jdcL_law_224 13 rfl rfl)
theorem dL_law_405 : decode cL_law 405 = .ok (.goto 503, 3) := jo_167 (a := 1) (b := 247) (jw3 jdcL_law_224 14 rfl rfl) rfl
theorem dL_law_408 : decode cL_law 408 = .ok (.aload_n 1, 1) := jo_43 (jw1 jdcL_law_224 17 rfl rfl)
theorem dL_law_409 : decode cL_law 409 = .ok (.aload_n 0, 1) := jo_42 (jw1 jdcL_law_224 18 rfl rfl)
theorem dL_law_410 : decode cL_law 410 = .ok (.iload_n 3, 1) := jo_29 (jw1 jdcL_law_224 19 rfl rfl)
theorem jdcL_law_240 : jwk (cL_law.data.toList.drop 411) [4, 96, 46, 42, 29, 5, 96, 46, 182, 0, 48, 87, 44, 42, 29, 4, 96, 46] = true := by decide +kernel
theorem dL_law_411 : decode cL_law 411 = .ok (.iconst 1, 1) := jo_4 (jw1 jdcL_law_240 0 rfl rfl)
theorem dL_law_412 : decode cL_law 412 = .ok (.iadd, 1) := jo_96 (jw1 jdcL_law_240 1 rfl rfl)
theorem dL_law_413 : decode cL_law 413 = .ok (.iaload, 1) := jo_46 (jw1 jdcL_law_240 2 rfl rfl)
theorem dL_law_414 : decode cL_law 414 = .ok (.aload_n 0, 1) := jo_42 (jw1 jdcL_law_240 3 rfl rfl)
theorem dL_law_415 : decode cL_law 415 = .ok (.iload_n 3, 1) := jo_29 (jw1 jdcL_law_240 4 rfl rfl)
theorem dL_law_416 : decode cL_law 416 = .ok (.iconst 2, 1) := jo_5 (jw1 jdcL_law_240 5 rfl rfl)
theorem dL_law_417 : decode cL_law 417 = .ok (.iadd, 1) := jo_96 (jw1 jdcL_law_240 6 rfl rfl)
theorem dL_law_418 : decode cL_law 418 = .ok (.iaload, 1) := jo_46 (jw1 jdcL_law_240 7 rfl rfl)
theorem dL_law_419 : decode cL_law 419 = .ok (.invokevirtual 48, 3) := jo_182 (a := 0) (b := 48) (jw3 jdcL_law_240 8 rfl rfl) rfl
theorem dL_law_422 : decode cL_law 422 = .ok (.pop, 1) := jo_87 (jw1 jdcL_law_240 11 rfl rfl)
theorem dL_law_423 : decode cL_law 423 = .ok (.aload_n 2, 1) := jo_44 (jw1 jdcL_law_240 12 rfl rfl)
theorem dL_law_424 : decode cL_law 424 = .ok (.aload_n 0, 1) := jo_42 (jw1 jdcL_law_240 13 rfl rfl)
theorem dL_law_425 : decode cL_law 425 = .ok (.iload_n 3, 1) := jo_29 (jw1 jdcL_law_240 14 rfl rfl)
theorem dL_law_426 : decode cL_law 426 = .ok (.iconst 1, 1) := jo_4 (jw1 jdcL_law_240 15 rfl rfl)
theorem dL_law_427 : decode cL_law 427 = .ok (.iadd, 1) := jo_96 (jw1 jdcL_law_240 16 rfl rfl)
theorem dL_law_428 : decode cL_law 428 = .ok (.iaload, 1) := jo_46 (jw1 jdcL_law_240 17 rfl rfl)
theorem jdcL_law_256 : jwk (cL_law.data.toList.drop 429) [42, 29, 5, 96, 46, 182, 0, 51, 87, 167, 1, 214, 43, 42, 29, 4, 96, 46, 42, 29] = true := by decide +kernel
theorem dL_law_429 : decode cL_law 429 = .ok (.aload_n 0, 1) := jo_42 (jw1 jdcL_law_256 0 rfl rfl)
theorem dL_law_430 : decode cL_law 430 = .ok (.iload_n 3, 1) := jo_29 (jw1 jdcL_law_256 1 rfl rfl)
theorem dL_law_431 : decode cL_law 431 = .ok (.iconst 2, 1) := jo_5 (jw1 jdcL_law_256 2 rfl rfl)
theorem dL_law_432 : decode cL_law 432 = .ok (.iadd, 1) := jo_96 (jw1 jdcL_law_256 3 rfl rfl)
theorem dL_law_433 : decode cL_law 433 = .ok (.iaload, 1) := jo_46 (jw1 jdcL_law_256 4 rfl rfl)
theorem dL_law_434 : decode cL_law 434 = .ok (.invokevirtual 51, 3) := jo_182 (a := 0) (b := 51) (jw3 jdcL_law_256 5 rfl rfl) rfl
theorem dL_law_437 : decode cL_law 437 = .ok (.pop, 1) := jo_87 (jw1 jdcL_law_256 8 rfl rfl)
theorem dL_law_438 : decode cL_law 438 = .ok (.goto 470, 3) := jo_167 (a := 1) (b := 214) (jw3 jdcL_law_256 9 rfl rfl) rfl
theorem dL_law_441 : decode cL_law 441 = .ok (.aload_n 1, 1) := jo_43 (jw1 jdcL_law_256 12 rfl rfl)
theorem dL_law_442 : decode cL_law 442 = .ok (.aload_n 0, 1) := jo_42 (jw1 jdcL_law_256 13 rfl rfl)
theorem dL_law_443 : decode cL_law 443 = .ok (.iload_n 3, 1) := jo_29 (jw1 jdcL_law_256 14 rfl rfl)
theorem dL_law_444 : decode cL_law 444 = .ok (.iconst 1, 1) := jo_4 (jw1 jdcL_law_256 15 rfl rfl)
theorem dL_law_445 : decode cL_law 445 = .ok (.iadd, 1) := jo_96 (jw1 jdcL_law_256 16 rfl rfl)
theorem dL_law_446 : decode cL_law 446 = .ok (.iaload, 1) := jo_46 (jw1 jdcL_law_256 17 rfl rfl)
theorem dL_law_447 : decode cL_law 447 = .ok (.aload_n 0, 1) := jo_42 (jw1 jdcL_law_256 18 rfl rfl)
theorem dL_law_448 : decode cL_law 448 = .ok (.iload_n 3, 1) := jo_29 (jw1 jdcL_law_256 19 rfl rfl)
theorem jdcL_law_272 : jwk (cL_law.data.toList.drop 449) [5, 96, 46, 182, 0, 52, 87, 44, 42, 29, 4, 96, 46, 42, 29, 5, 96, 46] = true := by decide +kernel
theorem dL_law_449 : decode cL_law 449 = .ok (.iconst 2, 1) := jo_5 (jw1 jdcL_law_272 0 rfl rfl)
theorem dL_law_450 : decode cL_law 450 = .ok (.iadd, 1) := jo_96 (jw1 jdcL_law_272 1 rfl rfl)
theorem dL_law_451 : decode cL_law 451 = .ok (.iaload, 1) := jo_46 (jw1 jdcL_law_272 2 rfl rfl)
theorem dL_law_452 : decode cL_law 452 = .ok (.invokevirtual 52, 3) := jo_182 (a := 0) (b := 52) (jw3 jdcL_law_272 3 rfl rfl) rfl
theorem dL_law_455 : decode cL_law 455 = .ok (.pop, 1) := jo_87 (jw1 jdcL_law_272 6 rfl rfl)
theorem dL_law_456 : decode cL_law 456 = .ok (.aload_n 2, 1) := jo_44 (jw1 jdcL_law_272 7 rfl rfl)
theorem dL_law_457 : decode cL_law 457 = .ok (.aload_n 0, 1) := jo_42 (jw1 jdcL_law_272 8 rfl rfl)
theorem dL_law_458 : decode cL_law 458 = .ok (.iload_n 3, 1) := jo_29 (jw1 jdcL_law_272 9 rfl rfl)
theorem dL_law_459 : decode cL_law 459 = .ok (.iconst 1, 1) := jo_4 (jw1 jdcL_law_272 10 rfl rfl)
theorem dL_law_460 : decode cL_law 460 = .ok (.iadd, 1) := jo_96 (jw1 jdcL_law_272 11 rfl rfl)
theorem dL_law_461 : decode cL_law 461 = .ok (.iaload, 1) := jo_46 (jw1 jdcL_law_272 12 rfl rfl)
theorem dL_law_462 : decode cL_law 462 = .ok (.aload_n 0, 1) := jo_42 (jw1 jdcL_law_272 13 rfl rfl)
theorem dL_law_463 : decode cL_law 463 = .ok (.iload_n 3, 1) := jo_29 (jw1 jdcL_law_272 14 rfl rfl)
theorem dL_law_464 : decode cL_law 464 = .ok (.iconst 2, 1) := jo_5 (jw1 jdcL_law_272 15 rfl rfl)
theorem dL_law_465 : decode cL_law 465 = .ok (.iadd, 1) := jo_96 (jw1 jdcL_law_272 16 rfl rfl)
theorem dL_law_466 : decode cL_law 466 = .ok (.iaload, 1) := jo_46 (jw1 jdcL_law_272 17 rfl rfl)
theorem jdcL_law_288 : jwk (cL_law.data.toList.drop 467) [182, 0, 55, 87, 167, 1, 181, 43, 42, 29, 4, 96, 46, 42, 29, 5, 96, 46, 182, 0, 56, 87] = true := by decide +kernel
theorem dL_law_467 : decode cL_law 467 = .ok (.invokevirtual 55, 3) := jo_182 (a := 0) (b := 55) (jw3 jdcL_law_288 0 rfl rfl) rfl
theorem dL_law_470 : decode cL_law 470 = .ok (.pop, 1) := jo_87 (jw1 jdcL_law_288 3 rfl rfl)
theorem dL_law_471 : decode cL_law 471 = .ok (.goto 437, 3) := jo_167 (a := 1) (b := 181) (jw3 jdcL_law_288 4 rfl rfl) rfl
theorem dL_law_474 : decode cL_law 474 = .ok (.aload_n 1, 1) := jo_43 (jw1 jdcL_law_288 7 rfl rfl)
theorem dL_law_475 : decode cL_law 475 = .ok (.aload_n 0, 1) := jo_42 (jw1 jdcL_law_288 8 rfl rfl)
theorem dL_law_476 : decode cL_law 476 = .ok (.iload_n 3, 1) := jo_29 (jw1 jdcL_law_288 9 rfl rfl)
theorem dL_law_477 : decode cL_law 477 = .ok (.iconst 1, 1) := jo_4 (jw1 jdcL_law_288 10 rfl rfl)
theorem dL_law_478 : decode cL_law 478 = .ok (.iadd, 1) := jo_96 (jw1 jdcL_law_288 11 rfl rfl)
theorem dL_law_479 : decode cL_law 479 = .ok (.iaload, 1) := jo_46 (jw1 jdcL_law_288 12 rfl rfl)
theorem dL_law_480 : decode cL_law 480 = .ok (.aload_n 0, 1) := jo_42 (jw1 jdcL_law_288 13 rfl rfl)
theorem dL_law_481 : decode cL_law 481 = .ok (.iload_n 3, 1) := jo_29 (jw1 jdcL_law_288 14 rfl rfl)
theorem dL_law_482 : decode cL_law 482 = .ok (.iconst 2, 1) := jo_5 (jw1 jdcL_law_288 15 rfl rfl)
theorem dL_law_483 : decode cL_law 483 = .ok (.iadd, 1) := jo_96 (jw1 jdcL_law_288 16 rfl rfl)
theorem dL_law_484 : decode cL_law 484 = .ok (.iaload, 1) := jo_46 (jw1 jdcL_law_288 17 rfl rfl)
theorem dL_law_485 : decode cL_law 485 = .ok (.invokevirtual 56, 3) := jo_182 (a := 0) (b := 56) (jw3 jdcL_law_288 18 rfl rfl) rfl
theorem dL_law_488 : decode cL_law 488 = .ok (.pop, 1) := jo_87 (jw1 jdcL_law_288 21 rfl rfl)
theorem jdcL_law_304 : jwk (cL_law.data.toList.drop 489) [44, 42, 29, 4, 96, 46, 42, 29, 5, 96, 46, 182, 0, 59, 87, 167, 1, 148, 43, 42] = true := by decide +kernel
theorem dL_law_489 : decode cL_law 489 = .ok (.aload_n 2, 1) := jo_44 (jw1 jdcL_law_304 0 rfl rfl)
theorem dL_law_490 : decode cL_law 490 = .ok (.aload_n 0, 1) := jo_42 (jw1 jdcL_law_304 1 rfl rfl)
theorem dL_law_491 : decode cL_law 491 = .ok (.iload_n 3, 1) := jo_29 (jw1 jdcL_law_304 2 rfl rfl)
theorem dL_law_492 : decode cL_law 492 = .ok (.iconst 1, 1) := jo_4 (jw1 jdcL_law_304 3 rfl rfl)
theorem dL_law_493 : decode cL_law 493 = .ok (.iadd, 1) := jo_96 (jw1 jdcL_law_304 4 rfl rfl)
theorem dL_law_494 : decode cL_law 494 = .ok (.iaload, 1) := jo_46 (jw1 jdcL_law_304 5 rfl rfl)
theorem dL_law_495 : decode cL_law 495 = .ok (.aload_n 0, 1) := jo_42 (jw1 jdcL_law_304 6 rfl rfl)
theorem dL_law_496 : decode cL_law 496 = .ok (.iload_n 3, 1) := jo_29 (jw1 jdcL_law_304 7 rfl rfl)
theorem dL_law_497 : decode cL_law 497 = .ok (.iconst 2, 1) := jo_5 (jw1 jdcL_law_304 8 rfl rfl)
theorem dL_law_498 : decode cL_law 498 = .ok (.iadd, 1) := jo_96 (jw1 jdcL_law_304 9 rfl rfl)
theorem dL_law_499 : decode cL_law 499 = .ok (.iaload, 1) := jo_46 (jw1 jdcL_law_304 10 rfl rfl)
theorem dL_law_500 : decode cL_law 500 = .ok (.invokevirtual 59, 3) := jo_182 (a := 0) (b := 59) (jw3 jdcL_law_304 11 rfl rfl) rfl
theorem dL_law_503 : decode cL_law 503 = .ok (.pop, 1) := jo_87 (jw1 jdcL_law_304 14 rfl rfl)
theorem dL_law_504 : decode cL_law 504 = .ok (.goto 404, 3) := jo_167 (a := 1) (b := 148) (jw3 jdcL_law_304 15 rfl rfl) rfl
theorem dL_law_507 : decode cL_law 507 = .ok (.aload_n 1, 1) := jo_43 (jw1 jdcL_law_304 18 rfl rfl)
theorem dL_law_508 : decode cL_law 508 = .ok (.aload_n 0, 1) := jo_42 (jw1 jdcL_law_304 19 rfl rfl)
theorem jdcL_law_320 : jwk (cL_law.data.toList.drop 509) [29, 4, 96, 46, 42, 29, 5, 96, 46, 182, 0, 60, 87, 44, 42, 29, 4, 96] = true := by decide +kernel
theorem dL_law_509 : decode cL_law 509 = .ok (.iload_n 3, 1) := jo_29 (jw1 jdcL_law_320 0 rfl rfl)
theorem dL_law_510 : decode cL_law 510 = .ok (.iconst 1, 1) := jo_4 (jw1 jdcL_law_320 1 rfl rfl)
theorem dL_law_511 : decode cL_law 511 = .ok (.iadd, 1) := jo_96 (jw1 jdcL_law_320 2 rfl rfl)
theorem dL_law_512 : decode cL_law 512 = .ok (.iaload, 1) := jo_46 (jw1 jdcL_law_320 3 rfl rfl)
theorem dL_law_513 : decode cL_law 513 = .ok (.aload_n 0, 1) := jo_42 (jw1 jdcL_law_320 4 rfl rfl)
theorem dL_law_514 : decode cL_law 514 = .ok (.iload_n 3, 1) := jo_29 (jw1 jdcL_law_320 5 rfl rfl)
theorem dL_law_515 : decode cL_law 515 = .ok (.iconst 2, 1) := jo_5 (jw1 jdcL_law_320 6 rfl rfl)
theorem dL_law_516 : decode cL_law 516 = .ok (.iadd, 1) := jo_96 (jw1 jdcL_law_320 7 rfl rfl)
theorem dL_law_517 : decode cL_law 517 = .ok (.iaload, 1) := jo_46 (jw1 jdcL_law_320 8 rfl rfl)
theorem dL_law_518 : decode cL_law 518 = .ok (.invokevirtual 60, 3) := jo_182 (a := 0) (b := 60) (jw3 jdcL_law_320 9 rfl rfl) rfl
theorem dL_law_521 : decode cL_law 521 = .ok (.pop, 1) := jo_87 (jw1 jdcL_law_320 12 rfl rfl)
theorem dL_law_522 : decode cL_law 522 = .ok (.aload_n 2, 1) := jo_44 (jw1 jdcL_law_320 13 rfl rfl)
theorem dL_law_523 : decode cL_law 523 = .ok (.aload_n 0, 1) := jo_42 (jw1 jdcL_law_320 14 rfl rfl)
theorem dL_law_524 : decode cL_law 524 = .ok (.iload_n 3, 1) := jo_29 (jw1 jdcL_law_320 15 rfl rfl)
theorem dL_law_525 : decode cL_law 525 = .ok (.iconst 1, 1) := jo_4 (jw1 jdcL_law_320 16 rfl rfl)
theorem dL_law_526 : decode cL_law 526 = .ok (.iadd, 1) := jo_96 (jw1 jdcL_law_320 17 rfl rfl)
theorem jdcL_law_336 : jwk (cL_law.data.toList.drop 527) [46, 42, 29, 5, 96, 46, 182, 0, 63, 87, 167, 1, 115, 43, 42, 29, 4, 96, 46, 42] = true := by decide +kernel
theorem dL_law_527 : decode cL_law 527 = .ok (.iaload, 1) := jo_46 (jw1 jdcL_law_336 0 rfl rfl)
theorem dL_law_528 : decode cL_law 528 = .ok (.aload_n 0, 1) := jo_42 (jw1 jdcL_law_336 1 rfl rfl)
theorem dL_law_529 : decode cL_law 529 = .ok (.iload_n 3, 1) := jo_29 (jw1 jdcL_law_336 2 rfl rfl)
theorem dL_law_530 : decode cL_law 530 = .ok (.iconst 2, 1) := jo_5 (jw1 jdcL_law_336 3 rfl rfl)
theorem dL_law_531 : decode cL_law 531 = .ok (.iadd, 1) := jo_96 (jw1 jdcL_law_336 4 rfl rfl)
theorem dL_law_532 : decode cL_law 532 = .ok (.iaload, 1) := jo_46 (jw1 jdcL_law_336 5 rfl rfl)
theorem dL_law_533 : decode cL_law 533 = .ok (.invokevirtual 63, 3) := jo_182 (a := 0) (b := 63) (jw3 jdcL_law_336 6 rfl rfl) rfl
theorem dL_law_536 : decode cL_law 536 = .ok (.pop, 1) := jo_87 (jw1 jdcL_law_336 9 rfl rfl)
theorem dL_law_537 : decode cL_law 537 = .ok (.goto 371, 3) := jo_167 (a := 1) (b := 115) (jw3 jdcL_law_336 10 rfl rfl) rfl
theorem dL_law_540 : decode cL_law 540 = .ok (.aload_n 1, 1) := jo_43 (jw1 jdcL_law_336 13 rfl rfl)
theorem dL_law_541 : decode cL_law 541 = .ok (.aload_n 0, 1) := jo_42 (jw1 jdcL_law_336 14 rfl rfl)
theorem dL_law_542 : decode cL_law 542 = .ok (.iload_n 3, 1) := jo_29 (jw1 jdcL_law_336 15 rfl rfl)
theorem dL_law_543 : decode cL_law 543 = .ok (.iconst 1, 1) := jo_4 (jw1 jdcL_law_336 16 rfl rfl)
theorem dL_law_544 : decode cL_law 544 = .ok (.iadd, 1) := jo_96 (jw1 jdcL_law_336 17 rfl rfl)
theorem dL_law_545 : decode cL_law 545 = .ok (.iaload, 1) := jo_46 (jw1 jdcL_law_336 18 rfl rfl)
theorem dL_law_546 : decode cL_law 546 = .ok (.aload_n 0, 1) := jo_42 (jw1 jdcL_law_336 19 rfl rfl)
theorem jdcL_law_352 : jwk (cL_law.data.toList.drop 547) [29, 5, 96, 46, 182, 0, 64, 88, 44, 42, 29, 4, 96, 46, 42, 29, 5, 96] = true := by decide +kernel
theorem dL_law_547 : decode cL_law 547 = .ok (.iload_n 3, 1) := jo_29 (jw1 jdcL_law_352 0 rfl rfl)
theorem dL_law_548 : decode cL_law 548 = .ok (.iconst 2, 1) := jo_5 (jw1 jdcL_law_352 1 rfl rfl)
theorem dL_law_549 : decode cL_law 549 = .ok (.iadd, 1) := jo_96 (jw1 jdcL_law_352 2 rfl rfl)
theorem dL_law_550 : decode cL_law 550 = .ok (.iaload, 1) := jo_46 (jw1 jdcL_law_352 3 rfl rfl)
theorem dL_law_551 : decode cL_law 551 = .ok (.invokevirtual 64, 3) := jo_182 (a := 0) (b := 64) (jw3 jdcL_law_352 4 rfl rfl) rfl
theorem dL_law_554 : decode cL_law 554 = .ok (.pop2, 1) := jo_88 (jw1 jdcL_law_352 7 rfl rfl)
theorem dL_law_555 : decode cL_law 555 = .ok (.aload_n 2, 1) := jo_44 (jw1 jdcL_law_352 8 rfl rfl)
theorem dL_law_556 : decode cL_law 556 = .ok (.aload_n 0, 1) := jo_42 (jw1 jdcL_law_352 9 rfl rfl)
theorem dL_law_557 : decode cL_law 557 = .ok (.iload_n 3, 1) := jo_29 (jw1 jdcL_law_352 10 rfl rfl)
theorem dL_law_558 : decode cL_law 558 = .ok (.iconst 1, 1) := jo_4 (jw1 jdcL_law_352 11 rfl rfl)
theorem dL_law_559 : decode cL_law 559 = .ok (.iadd, 1) := jo_96 (jw1 jdcL_law_352 12 rfl rfl)
theorem dL_law_560 : decode cL_law 560 = .ok (.iaload, 1) := jo_46 (jw1 jdcL_law_352 13 rfl rfl)
theorem dL_law_561 : decode cL_law 561 = .ok (.aload_n 0, 1) := jo_42 (jw1 jdcL_law_352 14 rfl rfl)
theorem dL_law_562 : decode cL_law 562 = .ok (.iload_n 3, 1) := jo_29 (jw1 jdcL_law_352 15 rfl rfl)
theorem dL_law_563 : decode cL_law 563 = .ok (.iconst 2, 1) := jo_5 (jw1 jdcL_law_352 16 rfl rfl)
theorem dL_law_564 : decode cL_law 564 = .ok (.iadd, 1) := jo_96 (jw1 jdcL_law_352 17 rfl rfl)
theorem jdcL_law_368 : jwk (cL_law.data.toList.drop 565) [46, 182, 0, 68, 88, 167, 1, 82, 43, 42, 29, 4, 96, 46, 42, 29, 5, 96, 46, 182, 0, 69] = true := by decide +kernel
theorem dL_law_565 : decode cL_law 565 = .ok (.iaload, 1) := jo_46 (jw1 jdcL_law_368 0 rfl rfl)
theorem dL_law_566 : decode cL_law 566 = .ok (.invokevirtual 68, 3) := jo_182 (a := 0) (b := 68) (jw3 jdcL_law_368 1 rfl rfl) rfl
theorem dL_law_569 : decode cL_law 569 = .ok (.pop2, 1) := jo_88 (jw1 jdcL_law_368 4 rfl rfl)
theorem dL_law_570 : decode cL_law 570 = .ok (.goto 338, 3) := jo_167 (a := 1) (b := 82) (jw3 jdcL_law_368 5 rfl rfl) rfl
theorem dL_law_573 : decode cL_law 573 = .ok (.aload_n 1, 1) := jo_43 (jw1 jdcL_law_368 8 rfl rfl)
theorem dL_law_574 : decode cL_law 574 = .ok (.aload_n 0, 1) := jo_42 (jw1 jdcL_law_368 9 rfl rfl)
theorem dL_law_575 : decode cL_law 575 = .ok (.iload_n 3, 1) := jo_29 (jw1 jdcL_law_368 10 rfl rfl)
theorem dL_law_576 : decode cL_law 576 = .ok (.iconst 1, 1) := jo_4 (jw1 jdcL_law_368 11 rfl rfl)
theorem dL_law_577 : decode cL_law 577 = .ok (.iadd, 1) := jo_96 (jw1 jdcL_law_368 12 rfl rfl)
theorem dL_law_578 : decode cL_law 578 = .ok (.iaload, 1) := jo_46 (jw1 jdcL_law_368 13 rfl rfl)
theorem dL_law_579 : decode cL_law 579 = .ok (.aload_n 0, 1) := jo_42 (jw1 jdcL_law_368 14 rfl rfl)
theorem dL_law_580 : decode cL_law 580 = .ok (.iload_n 3, 1) := jo_29 (jw1 jdcL_law_368 15 rfl rfl)
theorem dL_law_581 : decode cL_law 581 = .ok (.iconst 2, 1) := jo_5 (jw1 jdcL_law_368 16 rfl rfl)
theorem dL_law_582 : decode cL_law 582 = .ok (.iadd, 1) := jo_96 (jw1 jdcL_law_368 17 rfl rfl)
theorem dL_law_583 : decode cL_law 583 = .ok (.iaload, 1) := jo_46 (jw1 jdcL_law_368 18 rfl rfl)
theorem dL_law_584 : decode cL_law 584 = .ok (.invokevirtual 69, 3) := jo_182 (a := 0) (b := 69) (jw3 jdcL_law_368 19 rfl rfl) rfl
theorem jdcL_law_384 : jwk (cL_law.data.toList.drop 587) [87, 44, 42, 29, 4, 96, 46, 42, 29, 5, 96, 46, 182, 0, 72, 87, 167, 1, 49, 43] = true := by decide +kernel
theorem dL_law_587 : decode cL_law 587 = .ok (.pop, 1) := jo_87 (jw1 jdcL_law_384 0 rfl rfl)
theorem dL_law_588 : decode cL_law 588 = .ok (.aload_n 2, 1) := jo_44 (jw1 jdcL_law_384 1 rfl rfl)
theorem dL_law_589 : decode cL_law 589 = .ok (.aload_n 0, 1) := jo_42 (jw1 jdcL_law_384 2 rfl rfl)
theorem dL_law_590 : decode cL_law 590 = .ok (.iload_n 3, 1) := jo_29 (jw1 jdcL_law_384 3 rfl rfl)
theorem dL_law_591 : decode cL_law 591 = .ok (.iconst 1, 1) := jo_4 (jw1 jdcL_law_384 4 rfl rfl)
theorem dL_law_592 : decode cL_law 592 = .ok (.iadd, 1) := jo_96 (jw1 jdcL_law_384 5 rfl rfl)
theorem dL_law_593 : decode cL_law 593 = .ok (.iaload, 1) := jo_46 (jw1 jdcL_law_384 6 rfl rfl)
theorem dL_law_594 : decode cL_law 594 = .ok (.aload_n 0, 1) := jo_42 (jw1 jdcL_law_384 7 rfl rfl)
theorem dL_law_595 : decode cL_law 595 = .ok (.iload_n 3, 1) := jo_29 (jw1 jdcL_law_384 8 rfl rfl)
theorem dL_law_596 : decode cL_law 596 = .ok (.iconst 2, 1) := jo_5 (jw1 jdcL_law_384 9 rfl rfl)
theorem dL_law_597 : decode cL_law 597 = .ok (.iadd, 1) := jo_96 (jw1 jdcL_law_384 10 rfl rfl)
theorem dL_law_598 : decode cL_law 598 = .ok (.iaload, 1) := jo_46 (jw1 jdcL_law_384 11 rfl rfl)
theorem dL_law_599 : decode cL_law 599 = .ok (.invokevirtual 72, 3) := jo_182 (a := 0) (b := 72) (jw3 jdcL_law_384 12 rfl rfl) rfl
theorem dL_law_602 : decode cL_law 602 = .ok (.pop, 1) := jo_87 (jw1 jdcL_law_384 15 rfl rfl)
theorem dL_law_603 : decode cL_law 603 = .ok (.goto 305, 3) := jo_167 (a := 1) (b := 49) (jw3 jdcL_law_384 16 rfl rfl) rfl
theorem dL_law_606 : decode cL_law 606 = .ok (.aload_n 1, 1) := jo_43 (jw1 jdcL_law_384 19 rfl rfl)
theorem jdcL_law_400 : jwk (cL_law.data.toList.drop 607) [42, 29, 4, 96, 46, 42, 29, 5, 96, 46, 182, 0, 73, 87, 44, 42, 29, 4] = true := by decide +kernel
theorem dL_law_607 : decode cL_law 607 = .ok (.aload_n 0, 1) := jo_42 (jw1 jdcL_law_400 0 rfl rfl)
theorem dL_law_608 : decode cL_law 608 = .ok (.iload_n 3, 1) := jo_29 (jw1 jdcL_law_400 1 rfl rfl)
theorem dL_law_609 : decode cL_law 609 = .ok (.iconst 1, 1) := jo_4 (jw1 jdcL_law_400 2 rfl rfl)
theorem dL_law_610 : decode cL_law 610 = .ok (.iadd, 1) := jo_96 (jw1 jdcL_law_400 3 rfl rfl)
theorem dL_law_611 : decode cL_law 611 = .ok (.iaload, 1) := jo_46 (jw1 jdcL_law_400 4 rfl rfl)
theorem dL_law_612 : decode cL_law 612 = .ok (.aload_n 0, 1) := jo_42 (jw1 jdcL_law_400 5 rfl rfl)
theorem dL_law_613 : decode cL_law 613 = .ok (.iload_n 3, 1) := jo_29 (jw1 jdcL_law_400 6 rfl rfl)
theorem dL_law_614 : decode cL_law 614 = .ok (.iconst 2, 1) := jo_5 (jw1 jdcL_law_400 7 rfl rfl)
theorem dL_law_615 : decode cL_law 615 = .ok (.iadd, 1) := jo_96 (jw1 jdcL_law_400 8 rfl rfl)
theorem dL_law_616 : decode cL_law 616 = .ok (.iaload, 1) := jo_46 (jw1 jdcL_law_400 9 rfl rfl)
theorem dL_law_617 : decode cL_law 617 = .ok (.invokevirtual 73, 3) := jo_182 (a := 0) (b := 73) (jw3 jdcL_law_400 10 rfl rfl) rfl
theorem dL_law_620 : decode cL_law 620 = .ok (.pop, 1) := jo_87 (jw1 jdcL_law_400 13 rfl rfl)
theorem dL_law_621 : decode cL_law 621 = .ok (.aload_n 2, 1) := jo_44 (jw1 jdcL_law_400 14 rfl rfl)
theorem dL_law_622 : decode cL_law 622 = .ok (.aload_n 0, 1) := jo_42 (jw1 jdcL_law_400 15 rfl rfl)
theorem dL_law_623 : decode cL_law 623 = .ok (.iload_n 3, 1) := jo_29 (jw1 jdcL_law_400 16 rfl rfl)
theorem dL_law_624 : decode cL_law 624 = .ok (.iconst 1, 1) := jo_4 (jw1 jdcL_law_400 17 rfl rfl)
theorem jdcL_law_416 : jwk (cL_law.data.toList.drop 625) [96, 46, 42, 29, 5, 96, 46, 182, 0, 76, 87, 167, 1, 16, 43, 42, 29, 4, 96, 46] = true := by decide +kernel
theorem dL_law_625 : decode cL_law 625 = .ok (.iadd, 1) := jo_96 (jw1 jdcL_law_416 0 rfl rfl)
theorem dL_law_626 : decode cL_law 626 = .ok (.iaload, 1) := jo_46 (jw1 jdcL_law_416 1 rfl rfl)
theorem dL_law_627 : decode cL_law 627 = .ok (.aload_n 0, 1) := jo_42 (jw1 jdcL_law_416 2 rfl rfl)
theorem dL_law_628 : decode cL_law 628 = .ok (.iload_n 3, 1) := jo_29 (jw1 jdcL_law_416 3 rfl rfl)
theorem dL_law_629 : decode cL_law 629 = .ok (.iconst 2, 1) := jo_5 (jw1 jdcL_law_416 4 rfl rfl)
theorem dL_law_630 : decode cL_law 630 = .ok (.iadd, 1) := jo_96 (jw1 jdcL_law_416 5 rfl rfl)
theorem dL_law_631 : decode cL_law 631 = .ok (.iaload, 1) := jo_46 (jw1 jdcL_law_416 6 rfl rfl)
theorem dL_law_632 : decode cL_law 632 = .ok (.invokevirtual 76, 3) := jo_182 (a := 0) (b := 76) (jw3 jdcL_law_416 7 rfl rfl) rfl
theorem dL_law_635 : decode cL_law 635 = .ok (.pop, 1) := jo_87 (jw1 jdcL_law_416 10 rfl rfl)
theorem dL_law_636 : decode cL_law 636 = .ok (.goto 272, 3) := jo_167 (a := 1) (b := 16) (jw3 jdcL_law_416 11 rfl rfl) rfl
theorem dL_law_639 : decode cL_law 639 = .ok (.aload_n 1, 1) := jo_43 (jw1 jdcL_law_416 14 rfl rfl)
theorem dL_law_640 : decode cL_law 640 = .ok (.aload_n 0, 1) := jo_42 (jw1 jdcL_law_416 15 rfl rfl)
theorem dL_law_641 : decode cL_law 641 = .ok (.iload_n 3, 1) := jo_29 (jw1 jdcL_law_416 16 rfl rfl)
theorem dL_law_642 : decode cL_law 642 = .ok (.iconst 1, 1) := jo_4 (jw1 jdcL_law_416 17 rfl rfl)
theorem dL_law_643 : decode cL_law 643 = .ok (.iadd, 1) := jo_96 (jw1 jdcL_law_416 18 rfl rfl)
theorem dL_law_644 : decode cL_law 644 = .ok (.iaload, 1) := jo_46 (jw1 jdcL_law_416 19 rfl rfl)
theorem jdcL_law_432 : jwk (cL_law.data.toList.drop 645) [42, 29, 5, 96, 46, 182, 0, 77, 87, 44, 42, 29, 4, 96, 46, 42, 29, 5] = true := by decide +kernel
theorem dL_law_645 : decode cL_law 645 = .ok (.aload_n 0, 1) := jo_42 (jw1 jdcL_law_432 0 rfl rfl)
theorem dL_law_646 : decode cL_law 646 = .ok (.iload_n 3, 1) := jo_29 (jw1 jdcL_law_432 1 rfl rfl)
theorem dL_law_647 : decode cL_law 647 = .ok (.iconst 2, 1) := jo_5 (jw1 jdcL_law_432 2 rfl rfl)
theorem dL_law_648 : decode cL_law 648 = .ok (.iadd, 1) := jo_96 (jw1 jdcL_law_432 3 rfl rfl)
theorem dL_law_649 : decode cL_law 649 = .ok (.iaload, 1) := jo_46 (jw1 jdcL_law_432 4 rfl rfl)
theorem dL_law_650 : decode cL_law 650 = .ok (.invokevirtual 77, 3) := jo_182 (a := 0) (b := 77) (jw3 jdcL_law_432 5 rfl rfl) rfl
theorem dL_law_653 : decode cL_law 653 = .ok (.pop, 1) := jo_87 (jw1 jdcL_law_432 8 rfl rfl)
theorem dL_law_654 : decode cL_law 654 = .ok (.aload_n 2, 1) := jo_44 (jw1 jdcL_law_432 9 rfl rfl)
theorem dL_law_655 : decode cL_law 655 = .ok (.aload_n 0, 1) := jo_42 (jw1 jdcL_law_432 10 rfl rfl)
theorem dL_law_656 : decode cL_law 656 = .ok (.iload_n 3, 1) := jo_29 (jw1 jdcL_law_432 11 rfl rfl)
theorem dL_law_657 : decode cL_law 657 = .ok (.iconst 1, 1) := jo_4 (jw1 jdcL_law_432 12 rfl rfl)
theorem dL_law_658 : decode cL_law 658 = .ok (.iadd, 1) := jo_96 (jw1 jdcL_law_432 13 rfl rfl)
theorem dL_law_659 : decode cL_law 659 = .ok (.iaload, 1) := jo_46 (jw1 jdcL_law_432 14 rfl rfl)
theorem dL_law_660 : decode cL_law 660 = .ok (.aload_n 0, 1) := jo_42 (jw1 jdcL_law_432 15 rfl rfl)
theorem dL_law_661 : decode cL_law 661 = .ok (.iload_n 3, 1) := jo_29 (jw1 jdcL_law_432 16 rfl rfl)
theorem dL_law_662 : decode cL_law 662 = .ok (.iconst 2, 1) := jo_5 (jw1 jdcL_law_432 17 rfl rfl)
theorem jdcL_law_448 : jwk (cL_law.data.toList.drop 663) [96, 46, 182, 0, 80, 87, 167, 0, 239, 43, 42, 29, 4, 96, 46, 42, 29, 5, 96, 46] = true := by decide +kernel
theorem dL_law_663 : decode cL_law 663 = .ok (.iadd, 1) := jo_96 (jw1 jdcL_law_448 0 rfl rfl)
theorem dL_law_664 : decode cL_law 664 = .ok (.iaload, 1) := jo_46 (jw1 jdcL_law_448 1 rfl rfl)
theorem dL_law_665 : decode cL_law 665 = .ok (.invokevirtual 80, 3) := jo_182 (a := 0) (b := 80) (jw3 jdcL_law_448 2 rfl rfl) rfl
theorem dL_law_668 : decode cL_law 668 = .ok (.pop, 1) := jo_87 (jw1 jdcL_law_448 5 rfl rfl)
theorem dL_law_669 : decode cL_law 669 = .ok (.goto 239, 3) := jo_167 (a := 0) (b := 239) (jw3 jdcL_law_448 6 rfl rfl) rfl
theorem dL_law_672 : decode cL_law 672 = .ok (.aload_n 1, 1) := jo_43 (jw1 jdcL_law_448 9 rfl rfl)
theorem dL_law_673 : decode cL_law 673 = .ok (.aload_n 0, 1) := jo_42 (jw1 jdcL_law_448 10 rfl rfl)
theorem dL_law_674 : decode cL_law 674 = .ok (.iload_n 3, 1) := jo_29 (jw1 jdcL_law_448 11 rfl rfl)
theorem dL_law_675 : decode cL_law 675 = .ok (.iconst 1, 1) := jo_4 (jw1 jdcL_law_448 12 rfl rfl)
theorem dL_law_676 : decode cL_law 676 = .ok (.iadd, 1) := jo_96 (jw1 jdcL_law_448 13 rfl rfl)
theorem dL_law_677 : decode cL_law 677 = .ok (.iaload, 1) := jo_46 (jw1 jdcL_law_448 14 rfl rfl)
theorem dL_law_678 : decode cL_law 678 = .ok (.aload_n 0, 1) := jo_42 (jw1 jdcL_law_448 15 rfl rfl)
theorem dL_law_679 : decode cL_law 679 = .ok (.iload_n 3, 1) := jo_29 (jw1 jdcL_law_448 16 rfl rfl)
theorem dL_law_680 : decode cL_law 680 = .ok (.iconst 2, 1) := jo_5 (jw1 jdcL_law_448 17 rfl rfl)
theorem dL_law_681 : decode cL_law 681 = .ok (.iadd, 1) := jo_96 (jw1 jdcL_law_448 18 rfl rfl)
theorem dL_law_682 : decode cL_law 682 = .ok (.iaload, 1) := jo_46 (jw1 jdcL_law_448 19 rfl rfl)
theorem jdcL_law_464 : jwk (cL_law.data.toList.drop 683) [182, 0, 81, 44, 42, 29, 4, 96, 46, 42, 29, 5, 96, 46, 182, 0, 84, 159, 0, 208, 3, 172] = true := by decide +kernel
theorem dL_law_683 : decode cL_law 683 = .ok (.invokevirtual 81, 3) := jo_182 (a := 0) (b := 81) (jw3 jdcL_law_464 0 rfl rfl) rfl
theorem dL_law_686 : decode cL_law 686 = .ok (.aload_n 2, 1) := jo_44 (jw1 jdcL_law_464 3 rfl rfl)
theorem dL_law_687 : decode cL_law 687 = .ok (.aload_n 0, 1) := jo_42 (jw1 jdcL_law_464 4 rfl rfl)
theorem dL_law_688 : decode cL_law 688 = .ok (.iload_n 3, 1) := jo_29 (jw1 jdcL_law_464 5 rfl rfl)
theorem dL_law_689 : decode cL_law 689 = .ok (.iconst 1, 1) := jo_4 (jw1 jdcL_law_464 6 rfl rfl)
theorem dL_law_690 : decode cL_law 690 = .ok (.iadd, 1) := jo_96 (jw1 jdcL_law_464 7 rfl rfl)
theorem dL_law_691 : decode cL_law 691 = .ok (.iaload, 1) := jo_46 (jw1 jdcL_law_464 8 rfl rfl)
theorem dL_law_692 : decode cL_law 692 = .ok (.aload_n 0, 1) := jo_42 (jw1 jdcL_law_464 9 rfl rfl)
theorem dL_law_693 : decode cL_law 693 = .ok (.iload_n 3, 1) := jo_29 (jw1 jdcL_law_464 10 rfl rfl)
theorem dL_law_694 : decode cL_law 694 = .ok (.iconst 2, 1) := jo_5 (jw1 jdcL_law_464 11 rfl rfl)
theorem dL_law_695 : decode cL_law 695 = .ok (.iadd, 1) := jo_96 (jw1 jdcL_law_464 12 rfl rfl)
theorem dL_law_696 : decode cL_law 696 = .ok (.iaload, 1) := jo_46 (jw1 jdcL_law_464 13 rfl rfl)
theorem dL_law_697 : decode cL_law 697 = .ok (.invokevirtual 84, 3) := jo_182 (a := 0) (b := 84) (jw3 jdcL_law_464 14 rfl rfl) rfl
theorem dL_law_700 : decode cL_law 700 = .ok (.if_icmp .eq 208, 3) := jo_159 (a := 0) (b := 208) (jw3 jdcL_law_464 17 rfl rfl) rfl
theorem dL_law_703 : decode cL_law 703 = .ok (.iconst 0, 1) := jo_3 (jw1 jdcL_law_464 20 rfl rfl)
theorem dL_law_704 : decode cL_law 704 = .ok (.ireturn, 1) := jo_172 (jw1 jdcL_law_464 21 rfl rfl)
theorem jdcL_law_480 : jwk (cL_law.data.toList.drop 705) [43, 42, 29, 4, 96, 46, 42, 29, 5, 96, 46, 182, 0, 85, 87, 44, 42, 29] = true := by decide +kernel
theorem dL_law_705 : decode cL_law 705 = .ok (.aload_n 1, 1) := jo_43 (jw1 jdcL_law_480 0 rfl rfl)
theorem dL_law_706 : decode cL_law 706 = .ok (.aload_n 0, 1) := jo_42 (jw1 jdcL_law_480 1 rfl rfl)
theorem dL_law_707 : decode cL_law 707 = .ok (.iload_n 3, 1) := jo_29 (jw1 jdcL_law_480 2 rfl rfl)
theorem dL_law_708 : decode cL_law 708 = .ok (.iconst 1, 1) := jo_4 (jw1 jdcL_law_480 3 rfl rfl)
theorem dL_law_709 : decode cL_law 709 = .ok (.iadd, 1) := jo_96 (jw1 jdcL_law_480 4 rfl rfl)
theorem dL_law_710 : decode cL_law 710 = .ok (.iaload, 1) := jo_46 (jw1 jdcL_law_480 5 rfl rfl)
theorem dL_law_711 : decode cL_law 711 = .ok (.aload_n 0, 1) := jo_42 (jw1 jdcL_law_480 6 rfl rfl)
theorem dL_law_712 : decode cL_law 712 = .ok (.iload_n 3, 1) := jo_29 (jw1 jdcL_law_480 7 rfl rfl)
theorem dL_law_713 : decode cL_law 713 = .ok (.iconst 2, 1) := jo_5 (jw1 jdcL_law_480 8 rfl rfl)
theorem dL_law_714 : decode cL_law 714 = .ok (.iadd, 1) := jo_96 (jw1 jdcL_law_480 9 rfl rfl)
theorem dL_law_715 : decode cL_law 715 = .ok (.iaload, 1) := jo_46 (jw1 jdcL_law_480 10 rfl rfl)
theorem dL_law_716 : decode cL_law 716 = .ok (.invokevirtual 85, 3) := jo_182 (a := 0) (b := 85) (jw3 jdcL_law_480 11 rfl rfl) rfl
theorem dL_law_719 : decode cL_law 719 = .ok (.pop, 1) := jo_87 (jw1 jdcL_law_480 14 rfl rfl)
theorem dL_law_720 : decode cL_law 720 = .ok (.aload_n 2, 1) := jo_44 (jw1 jdcL_law_480 15 rfl rfl)
theorem dL_law_721 : decode cL_law 721 = .ok (.aload_n 0, 1) := jo_42 (jw1 jdcL_law_480 16 rfl rfl)
theorem dL_law_722 : decode cL_law 722 = .ok (.iload_n 3, 1) := jo_29 (jw1 jdcL_law_480 17 rfl rfl)
theorem jdcL_law_496 : jwk (cL_law.data.toList.drop 723) [4, 96, 46, 42, 29, 5, 96, 46, 182, 0, 88, 87, 167, 0, 173, 43, 42, 29, 4, 96] = true := by decide +kernel
theorem dL_law_723 : decode cL_law 723 = .ok (.iconst 1, 1) := jo_4 (jw1 jdcL_law_496 0 rfl rfl)
theorem dL_law_724 : decode cL_law 724 = .ok (.iadd, 1) := jo_96 (jw1 jdcL_law_496 1 rfl rfl)
theorem dL_law_725 : decode cL_law 725 = .ok (.iaload, 1) := jo_46 (jw1 jdcL_law_496 2 rfl rfl)
theorem dL_law_726 : decode cL_law 726 = .ok (.aload_n 0, 1) := jo_42 (jw1 jdcL_law_496 3 rfl rfl)
theorem dL_law_727 : decode cL_law 727 = .ok (.iload_n 3, 1) := jo_29 (jw1 jdcL_law_496 4 rfl rfl)
theorem dL_law_728 : decode cL_law 728 = .ok (.iconst 2, 1) := jo_5 (jw1 jdcL_law_496 5 rfl rfl)
theorem dL_law_729 : decode cL_law 729 = .ok (.iadd, 1) := jo_96 (jw1 jdcL_law_496 6 rfl rfl)
theorem dL_law_730 : decode cL_law 730 = .ok (.iaload, 1) := jo_46 (jw1 jdcL_law_496 7 rfl rfl)
theorem dL_law_731 : decode cL_law 731 = .ok (.invokevirtual 88, 3) := jo_182 (a := 0) (b := 88) (jw3 jdcL_law_496 8 rfl rfl) rfl
theorem dL_law_734 : decode cL_law 734 = .ok (.pop, 1) := jo_87 (jw1 jdcL_law_496 11 rfl rfl)
theorem dL_law_735 : decode cL_law 735 = .ok (.goto 173, 3) := jo_167 (a := 0) (b := 173) (jw3 jdcL_law_496 12 rfl rfl) rfl
theorem dL_law_738 : decode cL_law 738 = .ok (.aload_n 1, 1) := jo_43 (jw1 jdcL_law_496 15 rfl rfl)
theorem dL_law_739 : decode cL_law 739 = .ok (.aload_n 0, 1) := jo_42 (jw1 jdcL_law_496 16 rfl rfl)
theorem dL_law_740 : decode cL_law 740 = .ok (.iload_n 3, 1) := jo_29 (jw1 jdcL_law_496 17 rfl rfl)
theorem dL_law_741 : decode cL_law 741 = .ok (.iconst 1, 1) := jo_4 (jw1 jdcL_law_496 18 rfl rfl)
theorem dL_law_742 : decode cL_law 742 = .ok (.iadd, 1) := jo_96 (jw1 jdcL_law_496 19 rfl rfl)
theorem jdcL_law_512 : jwk (cL_law.data.toList.drop 743) [46, 42, 29, 5, 96, 46, 42, 29, 6, 96, 46, 153, 0, 7, 4, 167, 0, 4, 3, 182, 0, 89] = true := by decide +kernel
theorem dL_law_743 : decode cL_law 743 = .ok (.iaload, 1) := jo_46 (jw1 jdcL_law_512 0 rfl rfl)
theorem dL_law_744 : decode cL_law 744 = .ok (.aload_n 0, 1) := jo_42 (jw1 jdcL_law_512 1 rfl rfl)
theorem dL_law_745 : decode cL_law 745 = .ok (.iload_n 3, 1) := jo_29 (jw1 jdcL_law_512 2 rfl rfl)
theorem dL_law_746 : decode cL_law 746 = .ok (.iconst 2, 1) := jo_5 (jw1 jdcL_law_512 3 rfl rfl)
theorem dL_law_747 : decode cL_law 747 = .ok (.iadd, 1) := jo_96 (jw1 jdcL_law_512 4 rfl rfl)
theorem dL_law_748 : decode cL_law 748 = .ok (.iaload, 1) := jo_46 (jw1 jdcL_law_512 5 rfl rfl)
theorem dL_law_749 : decode cL_law 749 = .ok (.aload_n 0, 1) := jo_42 (jw1 jdcL_law_512 6 rfl rfl)
theorem dL_law_750 : decode cL_law 750 = .ok (.iload_n 3, 1) := jo_29 (jw1 jdcL_law_512 7 rfl rfl)
theorem dL_law_751 : decode cL_law 751 = .ok (.iconst 3, 1) := jo_6 (jw1 jdcL_law_512 8 rfl rfl)
theorem dL_law_752 : decode cL_law 752 = .ok (.iadd, 1) := jo_96 (jw1 jdcL_law_512 9 rfl rfl)
theorem dL_law_753 : decode cL_law 753 = .ok (.iaload, 1) := jo_46 (jw1 jdcL_law_512 10 rfl rfl)
theorem dL_law_754 : decode cL_law 754 = .ok (.ifCond .eq 7, 3) := jo_153 (a := 0) (b := 7) (jw3 jdcL_law_512 11 rfl rfl) rfl
theorem dL_law_757 : decode cL_law 757 = .ok (.iconst 1, 1) := jo_4 (jw1 jdcL_law_512 14 rfl rfl)
theorem dL_law_758 : decode cL_law 758 = .ok (.goto 4, 3) := jo_167 (a := 0) (b := 4) (jw3 jdcL_law_512 15 rfl rfl) rfl
theorem dL_law_761 : decode cL_law 761 = .ok (.iconst 0, 1) := jo_3 (jw1 jdcL_law_512 18 rfl rfl)
theorem dL_law_762 : decode cL_law 762 = .ok (.invokevirtual 89, 3) := jo_182 (a := 0) (b := 89) (jw3 jdcL_law_512 19 rfl rfl) rfl
theorem jdcL_law_528 : jwk (cL_law.data.toList.drop 765) [87, 44, 42, 29, 4, 96, 46, 42, 29, 5, 96, 46, 42, 29, 6, 96] = true := by decide +kernel
theorem dL_law_765 : decode cL_law 765 = .ok (.pop, 1) := jo_87 (jw1 jdcL_law_528 0 rfl rfl)
theorem dL_law_766 : decode cL_law 766 = .ok (.aload_n 2, 1) := jo_44 (jw1 jdcL_law_528 1 rfl rfl)
theorem dL_law_767 : decode cL_law 767 = .ok (.aload_n 0, 1) := jo_42 (jw1 jdcL_law_528 2 rfl rfl)
theorem dL_law_768 : decode cL_law 768 = .ok (.iload_n 3, 1) := jo_29 (jw1 jdcL_law_528 3 rfl rfl)
theorem dL_law_769 : decode cL_law 769 = .ok (.iconst 1, 1) := jo_4 (jw1 jdcL_law_528 4 rfl rfl)
theorem dL_law_770 : decode cL_law 770 = .ok (.iadd, 1) := jo_96 (jw1 jdcL_law_528 5 rfl rfl)
theorem dL_law_771 : decode cL_law 771 = .ok (.iaload, 1) := jo_46 (jw1 jdcL_law_528 6 rfl rfl)
theorem dL_law_772 : decode cL_law 772 = .ok (.aload_n 0, 1) := jo_42 (jw1 jdcL_law_528 7 rfl rfl)
theorem dL_law_773 : decode cL_law 773 = .ok (.iload_n 3, 1) := jo_29 (jw1 jdcL_law_528 8 rfl rfl)
theorem dL_law_774 : decode cL_law 774 = .ok (.iconst 2, 1) := jo_5 (jw1 jdcL_law_528 9 rfl rfl)
theorem dL_law_775 : decode cL_law 775 = .ok (.iadd, 1) := jo_96 (jw1 jdcL_law_528 10 rfl rfl)
theorem dL_law_776 : decode cL_law 776 = .ok (.iaload, 1) := jo_46 (jw1 jdcL_law_528 11 rfl rfl)
theorem dL_law_777 : decode cL_law 777 = .ok (.aload_n 0, 1) := jo_42 (jw1 jdcL_law_528 12 rfl rfl)
theorem dL_law_778 : decode cL_law 778 = .ok (.iload_n 3, 1) := jo_29 (jw1 jdcL_law_528 13 rfl rfl)
theorem dL_law_779 : decode cL_law 779 = .ok (.iconst 3, 1) := jo_6 (jw1 jdcL_law_528 14 rfl rfl)
theorem dL_law_780 : decode cL_law 780 = .ok (.iadd, 1) := jo_96 (jw1 jdcL_law_528 15 rfl rfl)
theorem jdcL_law_544 : jwk (cL_law.data.toList.drop 781) [46, 153, 0, 7, 4, 167, 0, 4, 3, 182, 0, 93, 87, 167, 0, 114, 43, 42, 29, 4, 96, 46, 153, 0, 7, 4] = true := by decide +kernel
theorem dL_law_781 : decode cL_law 781 = .ok (.iaload, 1) := jo_46 (jw1 jdcL_law_544 0 rfl rfl)
theorem dL_law_782 : decode cL_law 782 = .ok (.ifCond .eq 7, 3) := jo_153 (a := 0) (b := 7) (jw3 jdcL_law_544 1 rfl rfl) rfl
theorem dL_law_785 : decode cL_law 785 = .ok (.iconst 1, 1) := jo_4 (jw1 jdcL_law_544 4 rfl rfl)
theorem dL_law_786 : decode cL_law 786 = .ok (.goto 4, 3) := jo_167 (a := 0) (b := 4) (jw3 jdcL_law_544 5 rfl rfl) rfl
theorem dL_law_789 : decode cL_law 789 = .ok (.iconst 0, 1) := jo_3 (jw1 jdcL_law_544 8 rfl rfl)
theorem dL_law_790 : decode cL_law 790 = .ok (.invokevirtual 93, 3) := jo_182 (a := 0) (b := 93) (jw3 jdcL_law_544 9 rfl rfl) rfl
theorem dL_law_793 : decode cL_law 793 = .ok (.pop, 1) := jo_87 (jw1 jdcL_law_544 12 rfl rfl)
theorem dL_law_794 : decode cL_law 794 = .ok (.goto 114, 3) := jo_167 (a := 0) (b := 114) (jw3 jdcL_law_544 13 rfl rfl) rfl
theorem dL_law_797 : decode cL_law 797 = .ok (.aload_n 1, 1) := jo_43 (jw1 jdcL_law_544 16 rfl rfl)
theorem dL_law_798 : decode cL_law 798 = .ok (.aload_n 0, 1) := jo_42 (jw1 jdcL_law_544 17 rfl rfl)
theorem dL_law_799 : decode cL_law 799 = .ok (.iload_n 3, 1) := jo_29 (jw1 jdcL_law_544 18 rfl rfl)
theorem dL_law_800 : decode cL_law 800 = .ok (.iconst 1, 1) := jo_4 (jw1 jdcL_law_544 19 rfl rfl)
theorem dL_law_801 : decode cL_law 801 = .ok (.iadd, 1) := jo_96 (jw1 jdcL_law_544 20 rfl rfl)
theorem dL_law_802 : decode cL_law 802 = .ok (.iaload, 1) := jo_46 (jw1 jdcL_law_544 21 rfl rfl)
theorem dL_law_803 : decode cL_law 803 = .ok (.ifCond .eq 7, 3) := jo_153 (a := 0) (b := 7) (jw3 jdcL_law_544 22 rfl rfl) rfl
theorem dL_law_806 : decode cL_law 806 = .ok (.iconst 1, 1) := jo_4 (jw1 jdcL_law_544 25 rfl rfl)
theorem jdcL_law_560 : jwk (cL_law.data.toList.drop 807) [167, 0, 4, 3, 182, 0, 94, 87, 44, 42, 29, 4, 96, 46, 153, 0, 7, 4, 167, 0, 4, 3, 182, 0, 98, 87] = true := by decide +kernel
theorem dL_law_807 : decode cL_law 807 = .ok (.goto 4, 3) := jo_167 (a := 0) (b := 4) (jw3 jdcL_law_560 0 rfl rfl) rfl
theorem dL_law_810 : decode cL_law 810 = .ok (.iconst 0, 1) := jo_3 (jw1 jdcL_law_560 3 rfl rfl)
theorem dL_law_811 : decode cL_law 811 = .ok (.invokevirtual 94, 3) := jo_182 (a := 0) (b := 94) (jw3 jdcL_law_560 4 rfl rfl) rfl
theorem dL_law_814 : decode cL_law 814 = .ok (.pop, 1) := jo_87 (jw1 jdcL_law_560 7 rfl rfl)
theorem dL_law_815 : decode cL_law 815 = .ok (.aload_n 2, 1) := jo_44 (jw1 jdcL_law_560 8 rfl rfl)
theorem dL_law_816 : decode cL_law 816 = .ok (.aload_n 0, 1) := jo_42 (jw1 jdcL_law_560 9 rfl rfl)
theorem dL_law_817 : decode cL_law 817 = .ok (.iload_n 3, 1) := jo_29 (jw1 jdcL_law_560 10 rfl rfl)
theorem dL_law_818 : decode cL_law 818 = .ok (.iconst 1, 1) := jo_4 (jw1 jdcL_law_560 11 rfl rfl)
theorem dL_law_819 : decode cL_law 819 = .ok (.iadd, 1) := jo_96 (jw1 jdcL_law_560 12 rfl rfl)
theorem dL_law_820 : decode cL_law 820 = .ok (.iaload, 1) := jo_46 (jw1 jdcL_law_560 13 rfl rfl)
theorem dL_law_821 : decode cL_law 821 = .ok (.ifCond .eq 7, 3) := jo_153 (a := 0) (b := 7) (jw3 jdcL_law_560 14 rfl rfl) rfl
theorem dL_law_824 : decode cL_law 824 = .ok (.iconst 1, 1) := jo_4 (jw1 jdcL_law_560 17 rfl rfl)
theorem dL_law_825 : decode cL_law 825 = .ok (.goto 4, 3) := jo_167 (a := 0) (b := 4) (jw3 jdcL_law_560 18 rfl rfl) rfl
theorem dL_law_828 : decode cL_law 828 = .ok (.iconst 0, 1) := jo_3 (jw1 jdcL_law_560 21 rfl rfl)
theorem dL_law_829 : decode cL_law 829 = .ok (.invokevirtual 98, 3) := jo_182 (a := 0) (b := 98) (jw3 jdcL_law_560 22 rfl rfl) rfl
theorem dL_law_832 : decode cL_law 832 = .ok (.pop, 1) := jo_87 (jw1 jdcL_law_560 25 rfl rfl)
theorem jdcL_law_576 : jwk (cL_law.data.toList.drop 833) [167, 0, 75, 43, 42, 29, 4, 96, 46, 182, 0, 99, 87, 44, 42, 29, 4, 96, 46, 182, 0, 102] = true := by decide +kernel
theorem dL_law_833 : decode cL_law 833 = .ok (.goto 75, 3) := jo_167 (a := 0) (b := 75) (jw3 jdcL_law_576 0 rfl rfl) rfl
theorem dL_law_836 : decode cL_law 836 = .ok (.aload_n 1, 1) := jo_43 (jw1 jdcL_law_576 3 rfl rfl)
theorem dL_law_837 : decode cL_law 837 = .ok (.aload_n 0, 1) := jo_42 (jw1 jdcL_law_576 4 rfl rfl)
theorem dL_law_838 : decode cL_law 838 = .ok (.iload_n 3, 1) := jo_29 (jw1 jdcL_law_576 5 rfl rfl)
theorem dL_law_839 : decode cL_law 839 = .ok (.iconst 1, 1) := jo_4 (jw1 jdcL_law_576 6 rfl rfl)
theorem dL_law_840 : decode cL_law 840 = .ok (.iadd, 1) := jo_96 (jw1 jdcL_law_576 7 rfl rfl)
theorem dL_law_841 : decode cL_law 841 = .ok (.iaload, 1) := jo_46 (jw1 jdcL_law_576 8 rfl rfl)
theorem dL_law_842 : decode cL_law 842 = .ok (.invokevirtual 99, 3) := jo_182 (a := 0) (b := 99) (jw3 jdcL_law_576 9 rfl rfl) rfl
theorem dL_law_845 : decode cL_law 845 = .ok (.pop, 1) := jo_87 (jw1 jdcL_law_576 12 rfl rfl)
theorem dL_law_846 : decode cL_law 846 = .ok (.aload_n 2, 1) := jo_44 (jw1 jdcL_law_576 13 rfl rfl)
theorem dL_law_847 : decode cL_law 847 = .ok (.aload_n 0, 1) := jo_42 (jw1 jdcL_law_576 14 rfl rfl)
theorem dL_law_848 : decode cL_law 848 = .ok (.iload_n 3, 1) := jo_29 (jw1 jdcL_law_576 15 rfl rfl)
theorem dL_law_849 : decode cL_law 849 = .ok (.iconst 1, 1) := jo_4 (jw1 jdcL_law_576 16 rfl rfl)
theorem dL_law_850 : decode cL_law 850 = .ok (.iadd, 1) := jo_96 (jw1 jdcL_law_576 17 rfl rfl)
theorem dL_law_851 : decode cL_law 851 = .ok (.iaload, 1) := jo_46 (jw1 jdcL_law_576 18 rfl rfl)
theorem dL_law_852 : decode cL_law 852 = .ok (.invokevirtual 102, 3) := jo_182 (a := 0) (b := 102) (jw3 jdcL_law_576 19 rfl rfl) rfl
theorem jdcL_law_592 : jwk (cL_law.data.toList.drop 855) [87, 167, 0, 52, 43, 182, 0, 103, 87, 44, 182, 0, 107, 87, 167, 0, 39, 43, 42, 29, 4, 96, 46, 182, 0, 108] = true := by decide +kernel
theorem dL_law_855 : decode cL_law 855 = .ok (.pop, 1) := jo_87 (jw1 jdcL_law_592 0 rfl rfl)
theorem dL_law_856 : decode cL_law 856 = .ok (.goto 52, 3) := jo_167 (a := 0) (b := 52) (jw3 jdcL_law_592 1 rfl rfl) rfl
theorem dL_law_859 : decode cL_law 859 = .ok (.aload_n 1, 1) := jo_43 (jw1 jdcL_law_592 4 rfl rfl)
theorem dL_law_860 : decode cL_law 860 = .ok (.invokevirtual 103, 3) := jo_182 (a := 0) (b := 103) (jw3 jdcL_law_592 5 rfl rfl) rfl
theorem dL_law_863 : decode cL_law 863 = .ok (.pop, 1) := jo_87 (jw1 jdcL_law_592 8 rfl rfl)
theorem dL_law_864 : decode cL_law 864 = .ok (.aload_n 2, 1) := jo_44 (jw1 jdcL_law_592 9 rfl rfl)
theorem dL_law_865 : decode cL_law 865 = .ok (.invokevirtual 107, 3) := jo_182 (a := 0) (b := 107) (jw3 jdcL_law_592 10 rfl rfl) rfl
theorem dL_law_868 : decode cL_law 868 = .ok (.pop, 1) := jo_87 (jw1 jdcL_law_592 13 rfl rfl)
theorem dL_law_869 : decode cL_law 869 = .ok (.goto 39, 3) := jo_167 (a := 0) (b := 39) (jw3 jdcL_law_592 14 rfl rfl) rfl
theorem dL_law_872 : decode cL_law 872 = .ok (.aload_n 1, 1) := jo_43 (jw1 jdcL_law_592 17 rfl rfl)
theorem dL_law_873 : decode cL_law 873 = .ok (.aload_n 0, 1) := jo_42 (jw1 jdcL_law_592 18 rfl rfl)
theorem dL_law_874 : decode cL_law 874 = .ok (.iload_n 3, 1) := jo_29 (jw1 jdcL_law_592 19 rfl rfl)
theorem dL_law_875 : decode cL_law 875 = .ok (.iconst 1, 1) := jo_4 (jw1 jdcL_law_592 20 rfl rfl)
theorem dL_law_876 : decode cL_law 876 = .ok (.iadd, 1) := jo_96 (jw1 jdcL_law_592 21 rfl rfl)
theorem dL_law_877 : decode cL_law 877 = .ok (.iaload, 1) := jo_46 (jw1 jdcL_law_592 22 rfl rfl)
theorem dL_law_878 : decode cL_law 878 = .ok (.invokevirtual 108, 3) := jo_182 (a := 0) (b := 108) (jw3 jdcL_law_592 23 rfl rfl) rfl
theorem jdcL_law_608 : jwk (cL_law.data.toList.drop 881) [87, 44, 42, 29, 4, 96, 46, 182, 0, 111, 87, 167, 0, 16, 43, 182, 0, 112, 88, 44, 182, 0, 116, 88] = true := by decide +kernel
theorem dL_law_881 : decode cL_law 881 = .ok (.pop, 1) := jo_87 (jw1 jdcL_law_608 0 rfl rfl)
theorem dL_law_882 : decode cL_law 882 = .ok (.aload_n 2, 1) := jo_44 (jw1 jdcL_law_608 1 rfl rfl)
theorem dL_law_883 : decode cL_law 883 = .ok (.aload_n 0, 1) := jo_42 (jw1 jdcL_law_608 2 rfl rfl)
theorem dL_law_884 : decode cL_law 884 = .ok (.iload_n 3, 1) := jo_29 (jw1 jdcL_law_608 3 rfl rfl)
theorem dL_law_885 : decode cL_law 885 = .ok (.iconst 1, 1) := jo_4 (jw1 jdcL_law_608 4 rfl rfl)
theorem dL_law_886 : decode cL_law 886 = .ok (.iadd, 1) := jo_96 (jw1 jdcL_law_608 5 rfl rfl)
theorem dL_law_887 : decode cL_law 887 = .ok (.iaload, 1) := jo_46 (jw1 jdcL_law_608 6 rfl rfl)
theorem dL_law_888 : decode cL_law 888 = .ok (.invokevirtual 111, 3) := jo_182 (a := 0) (b := 111) (jw3 jdcL_law_608 7 rfl rfl) rfl
theorem dL_law_891 : decode cL_law 891 = .ok (.pop, 1) := jo_87 (jw1 jdcL_law_608 10 rfl rfl)
theorem dL_law_892 : decode cL_law 892 = .ok (.goto 16, 3) := jo_167 (a := 0) (b := 16) (jw3 jdcL_law_608 11 rfl rfl) rfl
theorem dL_law_895 : decode cL_law 895 = .ok (.aload_n 1, 1) := jo_43 (jw1 jdcL_law_608 14 rfl rfl)
theorem dL_law_896 : decode cL_law 896 = .ok (.invokevirtual 112, 3) := jo_182 (a := 0) (b := 112) (jw3 jdcL_law_608 15 rfl rfl) rfl
theorem dL_law_899 : decode cL_law 899 = .ok (.pop2, 1) := jo_88 (jw1 jdcL_law_608 18 rfl rfl)
theorem dL_law_900 : decode cL_law 900 = .ok (.aload_n 2, 1) := jo_44 (jw1 jdcL_law_608 19 rfl rfl)
theorem dL_law_901 : decode cL_law 901 = .ok (.invokevirtual 116, 3) := jo_182 (a := 0) (b := 116) (jw3 jdcL_law_608 20 rfl rfl) rfl
theorem dL_law_904 : decode cL_law 904 = .ok (.pop2, 1) := jo_88 (jw1 jdcL_law_608 23 rfl rfl)
theorem jdcL_law_624 : jwk (cL_law.data.toList.drop 905) [167, 0, 3, 132, 3, 4, 167, 252, 131, 4, 172] = true := by decide +kernel
theorem dL_law_905 : decode cL_law 905 = .ok (.goto 3, 3) := jo_167 (a := 0) (b := 3) (jw3 jdcL_law_624 0 rfl rfl) rfl
theorem dL_law_908 : decode cL_law 908 = .ok (.iinc 3 4, 3) := jo_132 (a := 3) (b := 4) (jw3 jdcL_law_624 3 rfl rfl) rfl
theorem dL_law_911 : decode cL_law 911 = .ok (.goto (-893), 3) := jo_167 (a := 252) (b := 131) (jw3 jdcL_law_624 6 rfl rfl) rfl
theorem dL_law_914 : decode cL_law 914 = .ok (.iconst 1, 1) := jo_4 (jw1 jdcL_law_624 9 rfl rfl)
theorem dL_law_915 : decode cL_law 915 = .ok (.ireturn, 1) := jo_172 (jw1 jdcL_law_624 10 rfl rfl)
abbrev vwCl : List vw_C := [(RX2, TX2, 9), (RX3, TX3, 7), (RX4, TX4, 14), (RX5, TX5, 7), (RX6, TX6, 7), (RX7, TX7, 34)]
