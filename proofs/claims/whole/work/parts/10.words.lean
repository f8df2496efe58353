/-! methods, classes, words: written by a program out of the printed names -/
section MWS
theorem mz_in1 {w : Cond} (h : w ∈ lw_tbl) (g : goodWord w = true) : w ∈ mz_GW := List.mem_filter.mpr ⟨h, g⟩
theorem mz_sp {q : MethodName × Nat} (h : q ∈ lw_privs) : Cond.selects q.1.cls q.1 q.1 ∈ lw_tbl := List.mem_append_left _ (List.mem_map.mpr ⟨q, h, rfl⟩)
theorem mz_t1 {w : Cond} (h : w ∈ tables_1_1) : w ∈ lw_tbl := List.mem_append_right _ (show w ∈ tables_1 from (List.mem_append_left _ h))
theorem mz_t2 {w : Cond} (h : w ∈ tables_1_2) : w ∈ lw_tbl := List.mem_append_right _ (show w ∈ tables_1 from (List.mem_append_right _ (List.mem_append_left _ h)))
theorem mz_t3 {w : Cond} (h : w ∈ tables_1_3) : w ∈ lw_tbl := List.mem_append_right _ (show w ∈ tables_1 from (List.mem_append_right _ (List.mem_append_right _ (List.mem_append_left _ h))))
theorem mz_t4 {w : Cond} (h : w ∈ tables_1_4) : w ∈ lw_tbl := List.mem_append_right _ (show w ∈ tables_1 from (List.mem_append_right _ (List.mem_append_right _ (List.mem_append_right _ (List.mem_append_left _ h)))))
theorem mz_t5 {w : Cond} (h : w ∈ tables_1_5) : w ∈ lw_tbl := List.mem_append_right _ (show w ∈ tables_1 from (List.mem_append_right _ (List.mem_append_right _ (List.mem_append_right _ (List.mem_append_right _ (List.mem_append_left _ h))))))
theorem mz_t6 {w : Cond} (h : w ∈ tables_1_6) : w ∈ lw_tbl := List.mem_append_right _ (show w ∈ tables_1 from (List.mem_append_right _ (List.mem_append_right _ (List.mem_append_right _ (List.mem_append_right _ (List.mem_append_right _ (List.mem_append_left _ h)))))))
theorem mz_t7 {w : Cond} (h : w ∈ tables_1_7) : w ∈ lw_tbl := List.mem_append_right _ (show w ∈ tables_1 from (List.mem_append_right _ (List.mem_append_right _ (List.mem_append_right _ (List.mem_append_right _ (List.mem_append_right _ (List.mem_append_right _ (List.mem_append_left _ h))))))))
theorem mz_t8 {w : Cond} (h : w ∈ tables_1_8) : w ∈ lw_tbl := List.mem_append_right _ (show w ∈ tables_1 from (List.mem_append_right _ (List.mem_append_right _ (List.mem_append_right _ (List.mem_append_right _ (List.mem_append_right _ (List.mem_append_right _ (List.mem_append_right _ h))))))))
theorem mz_p1 {q : MethodName × Nat} (h : q ∈ lw_privs_1) : q ∈ lw_privs := (List.mem_append_left _ h)
theorem mz_p2 {q : MethodName × Nat} (h : q ∈ lw_privs_2) : q ∈ lw_privs := (List.mem_append_right _ (List.mem_append_left _ h))
theorem mz_p3 {q : MethodName × Nat} (h : q ∈ lw_privs_3) : q ∈ lw_privs := (List.mem_append_right _ (List.mem_append_right _ (List.mem_append_left _ h)))
theorem mz_p4 {q : MethodName × Nat} (h : q ∈ lw_privs_4) : q ∈ lw_privs := (List.mem_append_right _ (List.mem_append_right _ (List.mem_append_right _ (List.mem_append_left _ h))))
theorem mz_p5 {q : MethodName × Nat} (h : q ∈ lw_privs_5) : q ∈ lw_privs := (List.mem_append_right _ (List.mem_append_right _ (List.mem_append_right _ (List.mem_append_right _ h))))
theorem mw_0 : Cond.selects "FallingBlocks$Finesse" ⟨"FallingBlocks$Finesse", "explore", "(I)V"⟩ ⟨"FallingBlocks$Finesse", "explore", "(I)V"⟩ ∈ mz_GW := mz_in1 (mz_sp (mz_p1 (List.mem_of_getElem? (i := 0) rfl))) rfl
theorem mw_1 : Cond.selects "FallingBlocks$Finesse" ⟨"FallingBlocks$Finesse", "reach", "(I)V"⟩ ⟨"FallingBlocks$Finesse", "reach", "(I)V"⟩ ∈ mz_GW := mz_in1 (mz_sp (mz_p1 (List.mem_of_getElem? (i := 1) rfl))) rfl
theorem mw_2 : Cond.selects "FallingBlocks$Finesse" ⟨"FallingBlocks$Finesse", "goTo", "(I)V"⟩ ⟨"FallingBlocks$Finesse", "goTo", "(I)V"⟩ ∈ mz_GW := mz_in1 (mz_sp (mz_p1 (List.mem_of_getElem? (i := 2) rfl))) rfl
theorem mw_3 : Cond.selects "FallingBlocks$Bags" ⟨"FallingBlocks$Bags", "draw", "()I"⟩ ⟨"FallingBlocks$Bags", "draw", "()I"⟩ ∈ mz_GW := mz_in1 (mz_sp (mz_p1 (List.mem_of_getElem? (i := 3) rfl))) rfl
theorem mw_4 : Cond.selects "FallingBlocks$Engine" ⟨"FallingBlocks$Engine", "appear", "(I)V"⟩ ⟨"FallingBlocks$Engine", "appear", "(I)V"⟩ ∈ mz_GW := mz_in1 (mz_sp (mz_p1 (List.mem_of_getElem? (i := 4) rfl))) rfl
theorem mw_6 : Cond.selects "FallingBlocks" ⟨"FallingBlocks", "needRange", "(III)V"⟩ ⟨"FallingBlocks", "needRange", "(III)V"⟩ ∈ mz_GW := mz_in1 (mz_sp (mz_p1 (List.mem_of_getElem? (i := 6) rfl))) rfl
theorem mw_7 : Cond.selects "FallingBlocks" ⟨"FallingBlocks", "needPresentPiece", "()V"⟩ ⟨"FallingBlocks", "needPresentPiece", "()V"⟩ ∈ mz_GW := mz_in1 (mz_sp (mz_p1 (List.mem_of_getElem? (i := 7) rfl))) rfl
theorem mw_8 : Cond.selects "FallingBlocks$Engine" ⟨"FallingBlocks$Engine", "sinkAsFarAsPossible", "()I"⟩ ⟨"FallingBlocks$Engine", "sinkAsFarAsPossible", "()I"⟩ ∈ mz_GW := mz_in1 (mz_sp (mz_p1 (List.mem_of_getElem? (i := 8) rfl))) rfl
theorem mw_9 : Cond.selects "FallingBlocks" ⟨"FallingBlocks", "needCell", "(II)V"⟩ ⟨"FallingBlocks", "needCell", "(II)V"⟩ ∈ mz_GW := mz_in1 (mz_sp (mz_p1 (List.mem_of_getElem? (i := 9) rfl))) rfl
theorem mw_10 : Cond.selects "FallingBlocks" ⟨"FallingBlocks", "needDirection", "(I)V"⟩ ⟨"FallingBlocks", "needDirection", "(I)V"⟩ ∈ mz_GW := mz_in1 (mz_sp (mz_p1 (List.mem_of_getElem? (i := 10) rfl))) rfl
theorem mw_11 : Cond.selects "FallingBlocks$Piece" ⟨"FallingBlocks$Piece", "noteRow", "()V"⟩ ⟨"FallingBlocks$Piece", "noteRow", "()V"⟩ ∈ mz_GW := mz_in1 (mz_sp (mz_p1 (List.mem_of_getElem? (i := 11) rfl))) rfl
theorem mw_12 : Cond.selects "FallingBlocks$Engine" ⟨"FallingBlocks$Engine", "lock", "()I"⟩ ⟨"FallingBlocks$Engine", "lock", "()I"⟩ ∈ mz_GW := mz_in1 (mz_sp (mz_p1 (List.mem_of_getElem? (i := 12) rfl))) rfl
theorem mw_13 : Cond.selects "FallingBlocks$Engine" ⟨"FallingBlocks$Engine", "findSpin", "()I"⟩ ⟨"FallingBlocks$Engine", "findSpin", "()I"⟩ ∈ mz_GW := mz_in1 (mz_sp (mz_p1 (List.mem_of_getElem? (i := 13) rfl))) rfl
theorem mw_14 : Cond.selects "FallingBlocks$Engine" ⟨"FallingBlocks$Engine", "isCornerFilled", "(I)Z"⟩ ⟨"FallingBlocks$Engine", "isCornerFilled", "(I)Z"⟩ ∈ mz_GW := mz_in1 (mz_sp (mz_p1 (List.mem_of_getElem? (i := 14) rfl))) rfl
theorem mw_15 : Cond.selects "FallingBlocks$Field" ⟨"FallingBlocks$Field", "countTransitionsIn", "(I)I"⟩ ⟨"FallingBlocks$Field", "countTransitionsIn", "(I)I"⟩ ∈ mz_GW := mz_in1 (mz_sp (mz_p1 (List.mem_of_getElem? (i := 15) rfl))) rfl
theorem mw_16 : Cond.selects "FallingBlocks$Search" ⟨"FallingBlocks$Search", "explore", "()V"⟩ ⟨"FallingBlocks$Search", "explore", "()V"⟩ ∈ mz_GW := mz_in1 (mz_sp (mz_p2 (List.mem_of_getElem? (i := 0) rfl))) rfl
theorem mw_17 : Cond.selects "FallingBlocks$Search" ⟨"FallingBlocks$Search", "reach", "()V"⟩ ⟨"FallingBlocks$Search", "reach", "()V"⟩ ∈ mz_GW := mz_in1 (mz_sp (mz_p2 (List.mem_of_getElem? (i := 1) rfl))) rfl
theorem mw_18 : Cond.selects "FallingBlocks$Search" ⟨"FallingBlocks$Search", "keyOfPlacement", "()J"⟩ ⟨"FallingBlocks$Search", "keyOfPlacement", "()J"⟩ ∈ mz_GW := mz_in1 (mz_sp (mz_p2 (List.mem_of_getElem? (i := 2) rfl))) rfl
theorem mw_19 : Cond.selects "FallingBlocks$Search" ⟨"FallingBlocks$Search", "insert", "(JI)V"⟩ ⟨"FallingBlocks$Search", "insert", "(JI)V"⟩ ∈ mz_GW := mz_in1 (mz_sp (mz_p2 (List.mem_of_getElem? (i := 3) rfl))) rfl
theorem mw_20 : Cond.selects "FallingBlocks$InputText" ⟨"FallingBlocks$InputText", "findFault", "()I"⟩ ⟨"FallingBlocks$InputText", "findFault", "()I"⟩ ∈ mz_GW := mz_in1 (mz_sp (mz_p2 (List.mem_of_getElem? (i := 4) rfl))) rfl
theorem mw_21 : Cond.selects "FallingBlocks" ⟨"FallingBlocks", "carryOut", "(C)Z"⟩ ⟨"FallingBlocks", "carryOut", "(C)Z"⟩ ∈ mz_GW := mz_in1 (mz_sp (mz_p2 (List.mem_of_getElem? (i := 5) rfl))) rfl
theorem mw_22 : Cond.selects "FallingBlocksModel" ⟨"FallingBlocksModel", "begins", "(I)V"⟩ ⟨"FallingBlocksModel", "begins", "(I)V"⟩ ∈ mz_GW := mz_in1 (mz_sp (mz_p2 (List.mem_of_getElem? (i := 6) rfl))) rfl
theorem mw_23 : Cond.selects "FallingBlocksModel" ⟨"FallingBlocksModel", "draws", "()I"⟩ ⟨"FallingBlocksModel", "draws", "()I"⟩ ∈ mz_GW := mz_in1 (mz_sp (mz_p2 (List.mem_of_getElem? (i := 7) rfl))) rfl
theorem mw_24 : Cond.selects "FallingBlocksModel" ⟨"FallingBlocksModel", "appears", "(I)V"⟩ ⟨"FallingBlocksModel", "appears", "(I)V"⟩ ∈ mz_GW := mz_in1 (mz_sp (mz_p2 (List.mem_of_getElem? (i := 8) rfl))) rfl
theorem mw_25 : Cond.selects "FallingBlocksModel" ⟨"FallingBlocksModel", "fitsAt", "(II)Z"⟩ ⟨"FallingBlocksModel", "fitsAt", "(II)Z"⟩ ∈ mz_GW := mz_in1 (mz_sp (mz_p2 (List.mem_of_getElem? (i := 9) rfl))) rfl
theorem mw_26 : Cond.selects "FallingBlocksModel" ⟨"FallingBlocksModel", "fits", "(IIII)Z"⟩ ⟨"FallingBlocksModel", "fits", "(IIII)Z"⟩ ∈ mz_GW := mz_in1 (mz_sp (mz_p2 (List.mem_of_getElem? (i := 10) rfl))) rfl
theorem mw_27 : Cond.selects "FallingBlocksModel" ⟨"FallingBlocksModel", "boxed", "(IIII)I"⟩ ⟨"FallingBlocksModel", "boxed", "(IIII)I"⟩ ∈ mz_GW := mz_in1 (mz_sp (mz_p2 (List.mem_of_getElem? (i := 11) rfl))) rfl
theorem mw_28 : Cond.selects "FallingBlocksModel" ⟨"FallingBlocksModel", "isEmpty", "(II)Z"⟩ ⟨"FallingBlocksModel", "isEmpty", "(II)Z"⟩ ∈ mz_GW := mz_in1 (mz_sp (mz_p2 (List.mem_of_getElem? (i := 12) rfl))) rfl
theorem mw_29 : Cond.selects "FallingBlocksModel" ⟨"FallingBlocksModel", "records", "()V"⟩ ⟨"FallingBlocksModel", "records", "()V"⟩ ∈ mz_GW := mz_in1 (mz_sp (mz_p2 (List.mem_of_getElem? (i := 13) rfl))) rfl
theorem mw_30 : Cond.selects "FallingBlocksModel" ⟨"FallingBlocksModel", "fails", "(I)I"⟩ ⟨"FallingBlocksModel", "fails", "(I)I"⟩ ∈ mz_GW := mz_in1 (mz_sp (mz_p2 (List.mem_of_getElem? (i := 14) rfl))) rfl
theorem mw_31 : Cond.selects "FallingBlocksModel" ⟨"FallingBlocksModel", "done", "(I)I"⟩ ⟨"FallingBlocksModel", "done", "(I)I"⟩ ∈ mz_GW := mz_in1 (mz_sp (mz_p2 (List.mem_of_getElem? (i := 15) rfl))) rfl
theorem mw_32 : Cond.selects "FallingBlocksModel" ⟨"FallingBlocksModel", "room", "()I"⟩ ⟨"FallingBlocksModel", "room", "()I"⟩ ∈ mz_GW := mz_in1 (mz_sp (mz_p3 (List.mem_of_getElem? (i := 0) rfl))) rfl
theorem mw_33 : Cond.selects "FallingBlocksModel" ⟨"FallingBlocksModel", "lacks", "(I)I"⟩ ⟨"FallingBlocksModel", "lacks", "(I)I"⟩ ∈ mz_GW := mz_in1 (mz_sp (mz_p3 (List.mem_of_getElem? (i := 1) rfl))) rfl
theorem mw_34 : Cond.selects "FallingBlocksModel" ⟨"FallingBlocksModel", "shifts", "(I)Z"⟩ ⟨"FallingBlocksModel", "shifts", "(I)Z"⟩ ∈ mz_GW := mz_in1 (mz_sp (mz_p3 (List.mem_of_getElem? (i := 2) rfl))) rfl
theorem mw_35 : Cond.selects "FallingBlocksModel" ⟨"FallingBlocksModel", "canFall", "()Z"⟩ ⟨"FallingBlocksModel", "canFall", "()Z"⟩ ∈ mz_GW := mz_in1 (mz_sp (mz_p3 (List.mem_of_getElem? (i := 3) rfl))) rfl
theorem mw_36 : Cond.selects "FallingBlocksModel" ⟨"FallingBlocksModel", "settles", "(Z)V"⟩ ⟨"FallingBlocksModel", "settles", "(Z)V"⟩ ∈ mz_GW := mz_in1 (mz_sp (mz_p3 (List.mem_of_getElem? (i := 4) rfl))) rfl
theorem mw_37 : Cond.selects "FallingBlocksModel" ⟨"FallingBlocksModel", "slides", "(I)I"⟩ ⟨"FallingBlocksModel", "slides", "(I)I"⟩ ∈ mz_GW := mz_in1 (mz_sp (mz_p3 (List.mem_of_getElem? (i := 5) rfl))) rfl
theorem mw_38 : Cond.selects "FallingBlocksModel" ⟨"FallingBlocksModel", "rotates", "(I)I"⟩ ⟨"FallingBlocksModel", "rotates", "(I)I"⟩ ∈ mz_GW := mz_in1 (mz_sp (mz_p3 (List.mem_of_getElem? (i := 6) rfl))) rfl
theorem mw_39 : Cond.selects "FallingBlocksModel" ⟨"FallingBlocksModel", "kickMany", "(I)I"⟩ ⟨"FallingBlocksModel", "kickMany", "(I)I"⟩ ∈ mz_GW := mz_in1 (mz_sp (mz_p3 (List.mem_of_getElem? (i := 7) rfl))) rfl
theorem mw_40 : Cond.selects "FallingBlocksModel" ⟨"FallingBlocksModel", "kick", "(IIII)I"⟩ ⟨"FallingBlocksModel", "kick", "(IIII)I"⟩ ∈ mz_GW := mz_in1 (mz_sp (mz_p3 (List.mem_of_getElem? (i := 8) rfl))) rfl
theorem mw_41 : Cond.selects "FallingBlocksModel" ⟨"FallingBlocksModel", "fallsByHand", "()Z"⟩ ⟨"FallingBlocksModel", "fallsByHand", "()Z"⟩ ∈ mz_GW := mz_in1 (mz_sp (mz_p3 (List.mem_of_getElem? (i := 9) rfl))) rfl
theorem mw_42 : Cond.selects "FallingBlocksModel" ⟨"FallingBlocksModel", "falls", "()V"⟩ ⟨"FallingBlocksModel", "falls", "()V"⟩ ∈ mz_GW := mz_in1 (mz_sp (mz_p3 (List.mem_of_getElem? (i := 10) rfl))) rfl
theorem mw_43 : Cond.selects "FallingBlocksModel" ⟨"FallingBlocksModel", "drops", "()I"⟩ ⟨"FallingBlocksModel", "drops", "()I"⟩ ∈ mz_GW := mz_in1 (mz_sp (mz_p3 (List.mem_of_getElem? (i := 11) rfl))) rfl
theorem mw_44 : Cond.selects "FallingBlocksModel" ⟨"FallingBlocksModel", "locks", "()I"⟩ ⟨"FallingBlocksModel", "locks", "()I"⟩ ∈ mz_GW := mz_in1 (mz_sp (mz_p3 (List.mem_of_getElem? (i := 12) rfl))) rfl
theorem mw_45 : Cond.selects "FallingBlocksModel" ⟨"FallingBlocksModel", "leastOf", "(III)I"⟩ ⟨"FallingBlocksModel", "leastOf", "(III)I"⟩ ∈ mz_GW := mz_in1 (mz_sp (mz_p3 (List.mem_of_getElem? (i := 13) rfl))) rfl
theorem mw_46 : Cond.selects "FallingBlocksModel" ⟨"FallingBlocksModel", "tellSteps", "(I)V"⟩ ⟨"FallingBlocksModel", "tellSteps", "(I)V"⟩ ∈ mz_GW := mz_in1 (mz_sp (mz_p3 (List.mem_of_getElem? (i := 14) rfl))) rfl
theorem mw_47 : Cond.selects "FallingBlocksModel" ⟨"FallingBlocksModel", "spreads", "(III)Z"⟩ ⟨"FallingBlocksModel", "spreads", "(III)Z"⟩ ∈ mz_GW := mz_in1 (mz_sp (mz_p3 (List.mem_of_getElem? (i := 15) rfl))) rfl
theorem mw_48 : Cond.selects "FallingBlocksModel" ⟨"FallingBlocksModel", "isWithin", "(III)Z"⟩ ⟨"FallingBlocksModel", "isWithin", "(III)Z"⟩ ∈ mz_GW := mz_in1 (mz_sp (mz_p4 (List.mem_of_getElem? (i := 0) rfl))) rfl
theorem mw_49 : Cond.selects "FallingBlocksModel" ⟨"FallingBlocksModel", "improves", "(III)Z"⟩ ⟨"FallingBlocksModel", "improves", "(III)Z"⟩ ∈ mz_GW := mz_in1 (mz_sp (mz_p4 (List.mem_of_getElem? (i := 1) rfl))) rfl
theorem mw_50 : Cond.selects "FallingBlocksModel" ⟨"FallingBlocksModel", "areLike", "(IIIII)Z"⟩ ⟨"FallingBlocksModel", "areLike", "(IIIII)Z"⟩ ∈ mz_GW := mz_in1 (mz_sp (mz_p4 (List.mem_of_getElem? (i := 2) rfl))) rfl
theorem mw_51 : Cond.selects "FallingBlocksModel" ⟨"FallingBlocksModel", "lowest", "(II)I"⟩ ⟨"FallingBlocksModel", "lowest", "(II)I"⟩ ∈ mz_GW := mz_in1 (mz_sp (mz_p4 (List.mem_of_getElem? (i := 3) rfl))) rfl
theorem mw_52 : Cond.selects "FallingBlocksModel" ⟨"FallingBlocksModel", "spin", "()I"⟩ ⟨"FallingBlocksModel", "spin", "()I"⟩ ∈ mz_GW := mz_in1 (mz_sp (mz_p4 (List.mem_of_getElem? (i := 4) rfl))) rfl
theorem mw_53 : Cond.selects "FallingBlocksModel" ⟨"FallingBlocksModel", "isFilled", "(II)Z"⟩ ⟨"FallingBlocksModel", "isFilled", "(II)Z"⟩ ∈ mz_GW := mz_in1 (mz_sp (mz_p4 (List.mem_of_getElem? (i := 5) rfl))) rfl
theorem mw_54 : Cond.selects "FallingBlocksModel" ⟨"FallingBlocksModel", "fills", "()V"⟩ ⟨"FallingBlocksModel", "fills", "()V"⟩ ∈ mz_GW := mz_in1 (mz_sp (mz_p4 (List.mem_of_getElem? (i := 6) rfl))) rfl
theorem mw_55 : Cond.selects "FallingBlocksModel" ⟨"FallingBlocksModel", "clearsRows", "()I"⟩ ⟨"FallingBlocksModel", "clearsRows", "()I"⟩ ∈ mz_GW := mz_in1 (mz_sp (mz_p4 (List.mem_of_getElem? (i := 7) rfl))) rfl
theorem mw_56 : Cond.selects "FallingBlocksModel" ⟨"FallingBlocksModel", "isFull", "(I)Z"⟩ ⟨"FallingBlocksModel", "isFull", "(I)Z"⟩ ∈ mz_GW := mz_in1 (mz_sp (mz_p4 (List.mem_of_getElem? (i := 8) rfl))) rfl
theorem mw_57 : Cond.selects "FallingBlocksModel" ⟨"FallingBlocksModel", "scores", "(III)V"⟩ ⟨"FallingBlocksModel", "scores", "(III)V"⟩ ∈ mz_GW := mz_in1 (mz_sp (mz_p4 (List.mem_of_getElem? (i := 9) rfl))) rfl
theorem mw_58 : Cond.selects "FallingBlocksModel" ⟨"FallingBlocksModel", "filled", "()I"⟩ ⟨"FallingBlocksModel", "filled", "()I"⟩ ∈ mz_GW := mz_in1 (mz_sp (mz_p4 (List.mem_of_getElem? (i := 10) rfl))) rfl
theorem mw_59 : Cond.selects "FallingBlocksModel" ⟨"FallingBlocksModel", "holds", "()I"⟩ ⟨"FallingBlocksModel", "holds", "()I"⟩ ∈ mz_GW := mz_in1 (mz_sp (mz_p4 (List.mem_of_getElem? (i := 11) rfl))) rfl
theorem mw_60 : Cond.selects "FallingBlocksModel" ⟨"FallingBlocksModel", "ticksOnce", "()Z"⟩ ⟨"FallingBlocksModel", "ticksOnce", "()Z"⟩ ∈ mz_GW := mz_in1 (mz_sp (mz_p4 (List.mem_of_getElem? (i := 12) rfl))) rfl
theorem mw_61 : Cond.selects "FallingBlocksModel" ⟨"FallingBlocksModel", "holes", "()I"⟩ ⟨"FallingBlocksModel", "holes", "()I"⟩ ∈ mz_GW := mz_in1 (mz_sp (mz_p4 (List.mem_of_getElem? (i := 13) rfl))) rfl
theorem mw_62 : Cond.selects "FallingBlocksModel" ⟨"FallingBlocksModel", "heightOf", "(I)I"⟩ ⟨"FallingBlocksModel", "heightOf", "(I)I"⟩ ∈ mz_GW := mz_in1 (mz_sp (mz_p4 (List.mem_of_getElem? (i := 14) rfl))) rfl
theorem mw_63 : Cond.selects "FallingBlocksModel" ⟨"FallingBlocksModel", "totalHeight", "()I"⟩ ⟨"FallingBlocksModel", "totalHeight", "()I"⟩ ∈ mz_GW := mz_in1 (mz_sp (mz_p4 (List.mem_of_getElem? (i := 15) rfl))) rfl
theorem mw_64 : Cond.selects "FallingBlocksModel" ⟨"FallingBlocksModel", "roughness", "()I"⟩ ⟨"FallingBlocksModel", "roughness", "()I"⟩ ∈ mz_GW := mz_in1 (mz_sp (mz_p5 (List.mem_of_getElem? (i := 0) rfl))) rfl
theorem mw_65 : Cond.selects "FallingBlocksModel" ⟨"FallingBlocksModel", "transitions", "()I"⟩ ⟨"FallingBlocksModel", "transitions", "()I"⟩ ∈ mz_GW := mz_in1 (mz_sp (mz_p5 (List.mem_of_getElem? (i := 1) rfl))) rfl
theorem mw_66 : Cond.selects "FallingBlocksModel" ⟨"FallingBlocksModel", "well", "()I"⟩ ⟨"FallingBlocksModel", "well", "()I"⟩ ∈ mz_GW := mz_in1 (mz_sp (mz_p5 (List.mem_of_getElem? (i := 2) rfl))) rfl
theorem mw_67 : Cond.selects "FallingBlocksModel" ⟨"FallingBlocksModel", "tellPlacements", "()V"⟩ ⟨"FallingBlocksModel", "tellPlacements", "()V"⟩ ∈ mz_GW := mz_in1 (mz_sp (mz_p5 (List.mem_of_getElem? (i := 3) rfl))) rfl
theorem mw_68 : Cond.selects "FallingBlocksModel" ⟨"FallingBlocksModel", "reaches", "(III)V"⟩ ⟨"FallingBlocksModel", "reaches", "(III)V"⟩ ∈ mz_GW := mz_in1 (mz_sp (mz_p5 (List.mem_of_getElem? (i := 4) rfl))) rfl
theorem mw_69 : Cond.selects "FallingBlocksModel" ⟨"FallingBlocksModel", "turns", "(IIII)V"⟩ ⟨"FallingBlocksModel", "turns", "(IIII)V"⟩ ∈ mz_GW := mz_in1 (mz_sp (mz_p5 (List.mem_of_getElem? (i := 5) rfl))) rfl
theorem mw_70 : Cond.selects "FallingBlocksModel" ⟨"FallingBlocksModel", "comes", "(III)V"⟩ ⟨"FallingBlocksModel", "comes", "(III)V"⟩ ∈ mz_GW := mz_in1 (mz_sp (mz_p5 (List.mem_of_getElem? (i := 6) rfl))) rfl
theorem mw_71 : Cond.selects "FallingBlocksModel" ⟨"FallingBlocksModel", "sorts", "(III)V"⟩ ⟨"FallingBlocksModel", "sorts", "(III)V"⟩ ∈ mz_GW := mz_in1 (mz_sp (mz_p5 (List.mem_of_getElem? (i := 7) rfl))) rfl
theorem mw_72 : Cond.selects "FallingBlocksModel" ⟨"FallingBlocksModel", "isPlaced", "()Z"⟩ ⟨"FallingBlocksModel", "isPlaced", "()Z"⟩ ∈ mz_GW := mz_in1 (mz_sp (mz_p5 (List.mem_of_getElem? (i := 8) rfl))) rfl
theorem mw_73 : Cond.selects "FallingBlocksModel" ⟨"FallingBlocksModel", "ranked", "(I)I"⟩ ⟨"FallingBlocksModel", "ranked", "(I)I"⟩ ∈ mz_GW := mz_in1 (mz_sp (mz_p5 (List.mem_of_getElem? (i := 9) rfl))) rfl
theorem mw_74 : Cond.selects "FallingBlocksModel" ⟨"FallingBlocksModel", "isBetter", "(II)Z"⟩ ⟨"FallingBlocksModel", "isBetter", "(II)Z"⟩ ∈ mz_GW := mz_in1 (mz_sp (mz_p5 (List.mem_of_getElem? (i := 10) rfl))) rfl
theorem mw_75 : Cond.selects "FallingBlocksModel" ⟨"FallingBlocksModel", "errsAt", "()I"⟩ ⟨"FallingBlocksModel", "errsAt", "()I"⟩ ∈ mz_GW := mz_in1 (mz_sp (mz_p5 (List.mem_of_getElem? (i := 11) rfl))) rfl
theorem mw_76 : Cond.selects "FallingBlocksModel" ⟨"FallingBlocksModel", "does", "(I)Z"⟩ ⟨"FallingBlocksModel", "does", "(I)Z"⟩ ∈ mz_GW := mz_in1 (mz_sp (mz_p5 (List.mem_of_getElem? (i := 12) rfl))) rfl
theorem mw_77 : Cond.initialized "FallingBlocksLaw" ∈ mz_GW := mz_in1 (mz_t1 (List.mem_of_getElem? (i := 0) rfl)) rfl
theorem mw_78 : Cond.initialized "FallingBlocks" ∈ mz_GW := mz_in1 (mz_t1 (List.mem_of_getElem? (i := 1) rfl)) rfl
theorem mw_79 : Cond.initialized "FallingBlocks$Engine" ∈ mz_GW := mz_in1 (mz_t1 (List.mem_of_getElem? (i := 2) rfl)) rfl
theorem mw_80 : Cond.initialized "FallingBlocks$Game" ∈ mz_GW := mz_in1 (mz_t1 (List.mem_of_getElem? (i := 3) rfl)) rfl
theorem mw_81 : Cond.initialized "FallingBlocks$Field" ∈ mz_GW := mz_in1 (mz_t1 (List.mem_of_getElem? (i := 4) rfl)) rfl
theorem mw_82 : Cond.initialized "java/util/Arrays" ∈ mz_GW := mz_in1 (mz_t1 (List.mem_of_getElem? (i := 5) rfl)) rfl
theorem mw_83 : Cond.initialized "FallingBlocks$Piece" ∈ mz_GW := mz_in1 (mz_t1 (List.mem_of_getElem? (i := 6) rfl)) rfl
theorem mw_84 : Cond.initialized "FallingBlocks$Position" ∈ mz_GW := mz_in1 (mz_t1 (List.mem_of_getElem? (i := 7) rfl)) rfl
theorem mw_85 : Cond.initialized "FallingBlocks$Bags" ∈ mz_GW := mz_in1 (mz_t1 (List.mem_of_getElem? (i := 8) rfl)) rfl
theorem mw_86 : Cond.initialized "FallingBlocks$Score" ∈ mz_GW := mz_in1 (mz_t1 (List.mem_of_getElem? (i := 9) rfl)) rfl
theorem mw_87 : Cond.initialized "FallingBlocks$Memory" ∈ mz_GW := mz_in1 (mz_t1 (List.mem_of_getElem? (i := 10) rfl)) rfl
theorem mw_88 : Cond.initialized "FallingBlocks$Finesse" ∈ mz_GW := mz_in1 (mz_t1 (List.mem_of_getElem? (i := 11) rfl)) rfl
theorem mw_89 : Cond.initialized "FallingBlocks$Search" ∈ mz_GW := mz_in1 (mz_t1 (List.mem_of_getElem? (i := 12) rfl)) rfl
theorem mw_90 : Cond.initialized "FallingBlocks$InputText" ∈ mz_GW := mz_in1 (mz_t1 (List.mem_of_getElem? (i := 13) rfl)) rfl
theorem mw_91 : Cond.initialized "java/lang/Integer" ∈ mz_GW := mz_in1 (mz_t1 (List.mem_of_getElem? (i := 14) rfl)) rfl
theorem mw_92 : Cond.initialized "java/lang/Math" ∈ mz_GW := mz_in1 (mz_t1 (List.mem_of_getElem? (i := 15) rfl)) rfl
theorem mw_93 : Cond.initialized "java/lang/System" ∈ mz_GW := mz_in1 (mz_t1 (List.mem_of_getElem? (i := 16) rfl)) rfl
theorem mw_94 : Cond.initialized "FallingBlocksModel" ∈ mz_GW := mz_in1 (mz_t1 (List.mem_of_getElem? (i := 17) rfl)) rfl
theorem mw_95 : Cond.initialized "java/lang/Throwable" ∈ mz_GW := mz_in1 (mz_t1 (List.mem_of_getElem? (i := 18) rfl)) rfl
theorem mw_98 : Cond.initialized "java/lang/IllegalArgumentException" ∈ mz_GW := mz_in1 (mz_t1 (List.mem_of_getElem? (i := 21) rfl)) rfl
theorem mw_99 : Cond.initialized "java/lang/IllegalStateException" ∈ mz_GW := mz_in1 (mz_t1 (List.mem_of_getElem? (i := 22) rfl)) rfl
theorem mw_100 : Cond.initialized "java/lang/IndexOutOfBoundsException" ∈ mz_GW := mz_in1 (mz_t1 (List.mem_of_getElem? (i := 23) rfl)) rfl
theorem mw_103 : Cond.initialized "java/lang/UnsupportedOperationException" ∈ mz_GW := mz_in1 (mz_t1 (List.mem_of_getElem? (i := 26) rfl)) rfl
theorem mw_104 : Cond.initialized "java/util/NoSuchElementException" ∈ mz_GW := mz_in1 (mz_t1 (List.mem_of_getElem? (i := 27) rfl)) rfl
theorem mw_105 : Cond.initialized "java/lang/ArithmeticException" ∈ mz_GW := mz_in1 (mz_t1 (List.mem_of_getElem? (i := 28) rfl)) rfl
theorem mw_106 : Cond.classLink "FallingBlocksLaw" 8 "FallingBlocks" ∈ mz_GW := mz_in1 (mz_t1 (List.mem_of_getElem? (i := 29) rfl)) rfl
theorem mw_107 : Cond.instantiable "FallingBlocks" 3 ∈ mz_GW := mz_in1 (mz_t1 (List.mem_of_getElem? (i := 30) rfl)) rfl
theorem mw_108 : Cond.methodLink "FallingBlocksLaw" 117 ⟨"FallingBlocks", "<init>", "()V"⟩ ∈ mz_GW := mz_in1 (mz_t1 (List.mem_of_getElem? (i := 31) rfl)) rfl
theorem mw_109 : Cond.instanceMethod ⟨"FallingBlocks", "<init>", "()V"⟩ ∈ mz_GW := mz_in1 (mz_t1 (List.mem_of_getElem? (i := 32) rfl)) rfl
theorem mw_110 : Cond.code ⟨"FallingBlocks", "<init>", "()V"⟩ prog_1_method_1_code 1 none ∈ mz_GW := mz_in1 (mz_t1 (List.mem_of_getElem? (i := 33) rfl)) rfl
theorem mw_111 : Cond.methodLink "FallingBlocks" 1 ⟨"java/lang/Object", "<init>", "()V"⟩ ∈ mz_GW := mz_in1 (mz_t1 (List.mem_of_getElem? (i := 34) rfl)) rfl
theorem mw_112 : Cond.instanceMethod ⟨"java/lang/Object", "<init>", "()V"⟩ ∈ mz_GW := mz_in1 (mz_t1 (List.mem_of_getElem? (i := 35) rfl)) rfl
theorem mw_113 : Cond.code ⟨"java/lang/Object", "<init>", "()V"⟩ object_method_1_code 1 none ∈ mz_GW := mz_in1 (mz_t1 (List.mem_of_getElem? (i := 36) rfl)) rfl
theorem mw_114 : Cond.classLink "FallingBlocks" 7 "FallingBlocks$Engine" ∈ mz_GW := mz_in1 (mz_t1 (List.mem_of_getElem? (i := 37) rfl)) rfl
theorem mw_115 : Cond.instantiable "FallingBlocks$Engine" 5 ∈ mz_GW := mz_in1 (mz_t1 (List.mem_of_getElem? (i := 38) rfl)) rfl
theorem mn_116 : Cond.methodLinkNest "FallingBlocks" 9 ⟨"FallingBlocks$Engine", "<init>", "()V"⟩ "FallingBlocks" ∈ lw_tbl := mz_t1 (List.mem_of_getElem? (i := 39) rfl)
theorem mw_117 : Cond.instanceMethod ⟨"FallingBlocks$Engine", "<init>", "()V"⟩ ∈ mz_GW := mz_in1 (mz_t1 (List.mem_of_getElem? (i := 40) rfl)) rfl
theorem mw_118 : Cond.code ⟨"FallingBlocks$Engine", "<init>", "()V"⟩ prog_3_method_1_code 1 none ∈ mz_GW := mz_in1 (mz_t1 (List.mem_of_getElem? (i := 41) rfl)) rfl
theorem mw_119 : Cond.methodLink "FallingBlocks$Engine" 3 ⟨"java/lang/Object", "<init>", "()V"⟩ ∈ mz_GW := mz_in1 (mz_t1 (List.mem_of_getElem? (i := 42) rfl)) rfl
theorem mw_120 : Cond.classLink "FallingBlocks$Engine" 9 "FallingBlocks$Game" ∈ mz_GW := mz_in1 (mz_t1 (List.mem_of_getElem? (i := 43) rfl)) rfl
theorem mw_121 : Cond.instantiable "FallingBlocks$Game" 9 ∈ mz_GW := mz_in1 (mz_t1 (List.mem_of_getElem? (i := 44) rfl)) rfl
theorem mn_122 : Cond.methodLinkNest "FallingBlocks$Engine" 11 ⟨"FallingBlocks$Game", "<init>", "()V"⟩ "FallingBlocks" ∈ lw_tbl := mz_t1 (List.mem_of_getElem? (i := 45) rfl)
theorem mw_123 : Cond.instanceMethod ⟨"FallingBlocks$Game", "<init>", "()V"⟩ ∈ mz_GW := mz_in1 (mz_t1 (List.mem_of_getElem? (i := 46) rfl)) rfl
theorem mw_124 : Cond.code ⟨"FallingBlocks$Game", "<init>", "()V"⟩ prog_6_method_1_code 1 none ∈ mz_GW := mz_in1 (mz_t1 (List.mem_of_getElem? (i := 47) rfl)) rfl
theorem mw_125 : Cond.methodLink "FallingBlocks$Game" 3 ⟨"java/lang/Object", "<init>", "()V"⟩ ∈ mz_GW := mz_in1 (mz_t1 (List.mem_of_getElem? (i := 48) rfl)) rfl
theorem mw_126 : Cond.classLink "FallingBlocks$Game" 9 "FallingBlocks$Field" ∈ mz_GW := mz_in1 (mz_t1 (List.mem_of_getElem? (i := 49) rfl)) rfl
theorem mw_127 : Cond.instantiable "FallingBlocks$Field" 1 ∈ mz_GW := mz_in1 (mz_t1 (List.mem_of_getElem? (i := 50) rfl)) rfl
theorem mw_128 : Cond.methodLink "FallingBlocks$Game" 11 ⟨"FallingBlocks$Field", "<init>", "()V"⟩ ∈ mz_GW := mz_in1 (mz_t1 (List.mem_of_getElem? (i := 51) rfl)) rfl
theorem mw_129 : Cond.instanceMethod ⟨"FallingBlocks$Field", "<init>", "()V"⟩ ∈ mz_GW := mz_in1 (mz_t1 (List.mem_of_getElem? (i := 52) rfl)) rfl
theorem mw_130 : Cond.code ⟨"FallingBlocks$Field", "<init>", "()V"⟩ prog_4_method_1_code 1 none ∈ mz_GW := mz_in1 (mz_t1 (List.mem_of_getElem? (i := 53) rfl)) rfl
theorem mw_131 : Cond.methodLink "FallingBlocks$Field" 3 ⟨"java/lang/Object", "<init>", "()V"⟩ ∈ mz_GW := mz_in1 (mz_t1 (List.mem_of_getElem? (i := 54) rfl)) rfl
theorem mw_132 : Cond.methodLink "FallingBlocks$Field" 15 ⟨"FallingBlocks$Field", "makeEmpty", "()V"⟩ ∈ mz_GW := mz_in1 (mz_t1 (List.mem_of_getElem? (i := 55) rfl)) rfl
theorem mw_133 : Cond.instanceMethod ⟨"FallingBlocks$Field", "makeEmpty", "()V"⟩ ∈ mz_GW := mz_in1 (mz_t1 (List.mem_of_getElem? (i := 56) rfl)) rfl
theorem mw_134 : Cond.selects "FallingBlocks$Field" ⟨"FallingBlocks$Field", "makeEmpty", "()V"⟩ ⟨"FallingBlocks$Field", "makeEmpty", "()V"⟩ ∈ mz_GW := mz_in1 (mz_t1 (List.mem_of_getElem? (i := 57) rfl)) rfl
theorem mw_135 : Cond.code ⟨"FallingBlocks$Field", "makeEmpty", "()V"⟩ prog_4_method_2_code 1 none ∈ mz_GW := mz_in1 (mz_t1 (List.mem_of_getElem? (i := 58) rfl)) rfl
theorem mw_136 : Cond.methodLink "FallingBlocks$Field" 18 ⟨"java/util/Arrays", "fill", "([II)V"⟩ ∈ mz_GW := mz_in1 (mz_t1 (List.mem_of_getElem? (i := 59) rfl)) rfl
theorem mw_137 : Cond.static ⟨"java/util/Arrays", "fill", "([II)V"⟩ ∈ mz_GW := mz_in1 (mz_t1 (List.mem_of_getElem? (i := 60) rfl)) rfl
theorem mw_138 : Cond.code ⟨"java/util/Arrays", "fill", "([II)V"⟩ prog_29_method_103_code 4 none ∈ mz_GW := mz_in1 (mz_t1 (List.mem_of_getElem? (i := 61) rfl)) rfl
theorem mw_139 : Cond.fieldLink "FallingBlocks$Field" 9 "FallingBlocks$Field" "kinds" "[I" ∈ mz_GW := mz_in1 (mz_t1 (List.mem_of_getElem? (i := 62) rfl)) rfl
theorem mw_140 : Cond.fieldLink "FallingBlocks" 122 "FallingBlocks$Field" "kinds" "[I" ∈ mz_GW := mz_in1 (mz_t1 (List.mem_of_getElem? (i := 63) rfl)) rfl
theorem mw_141 : Cond.laysFinal "FallingBlocks$Field" "FallingBlocks$Field" "kinds" "[I" ∈ mz_GW := mz_in1 (mz_t1 (List.mem_of_getElem? (i := 64) rfl)) rfl
theorem mw_144 : Cond.arrayClass .int ∈ mz_GW := mz_in1 (mz_t1 (List.mem_of_getElem? (i := 67) rfl)) rfl
theorem mw_145 : Cond.classLink "FallingBlocks$Game" 18 "FallingBlocks$Piece" ∈ mz_GW := mz_in1 (mz_t1 (List.mem_of_getElem? (i := 68) rfl)) rfl
theorem mw_146 : Cond.instantiable "FallingBlocks$Piece" 7 ∈ mz_GW := mz_in1 (mz_t1 (List.mem_of_getElem? (i := 69) rfl)) rfl
theorem mn_147 : Cond.methodLinkNest "FallingBlocks$Game" 20 ⟨"FallingBlocks$Piece", "<init>", "()V"⟩ "FallingBlocks" ∈ lw_tbl := mz_t1 (List.mem_of_getElem? (i := 70) rfl)
theorem mw_148 : Cond.instanceMethod ⟨"FallingBlocks$Piece", "<init>", "()V"⟩ ∈ mz_GW := mz_in1 (mz_t1 (List.mem_of_getElem? (i := 71) rfl)) rfl
theorem mw_149 : Cond.code ⟨"FallingBlocks$Piece", "<init>", "()V"⟩ prog_9_method_1_code 1 none ∈ mz_GW := mz_in1 (mz_t1 (List.mem_of_getElem? (i := 72) rfl)) rfl
theorem mw_150 : Cond.methodLink "FallingBlocks$Piece" 3 ⟨"java/lang/Object", "<init>", "()V"⟩ ∈ mz_GW := mz_in1 (mz_t1 (List.mem_of_getElem? (i := 73) rfl)) rfl
theorem mw_151 : Cond.classLink "FallingBlocks$Piece" 9 "FallingBlocks$Position" ∈ mz_GW := mz_in1 (mz_t1 (List.mem_of_getElem? (i := 74) rfl)) rfl
theorem mw_152 : Cond.instantiable "FallingBlocks$Position" 4 ∈ mz_GW := mz_in1 (mz_t1 (List.mem_of_getElem? (i := 75) rfl)) rfl
theorem mn_153 : Cond.methodLinkNest "FallingBlocks$Piece" 11 ⟨"FallingBlocks$Position", "<init>", "()V"⟩ "FallingBlocks" ∈ lw_tbl := mz_t1 (List.mem_of_getElem? (i := 76) rfl)
theorem mw_154 : Cond.instanceMethod ⟨"FallingBlocks$Position", "<init>", "()V"⟩ ∈ mz_GW := mz_in1 (mz_t1 (List.mem_of_getElem? (i := 77) rfl)) rfl
theorem mw_155 : Cond.code ⟨"FallingBlocks$Position", "<init>", "()V"⟩ prog_10_method_1_code 1 none ∈ mz_GW := mz_in1 (mz_t1 (List.mem_of_getElem? (i := 78) rfl)) rfl
theorem mw_156 : Cond.methodLink "FallingBlocks$Position" 3 ⟨"java/lang/Object", "<init>", "()V"⟩ ∈ mz_GW := mz_in1 (mz_t1 (List.mem_of_getElem? (i := 79) rfl)) rfl
theorem mw_157 : Cond.fieldLink "FallingBlocks$Position" 9 "FallingBlocks$Position" "kind" "I" ∈ mz_GW := mz_in1 (mz_t1 (List.mem_of_getElem? (i := 80) rfl)) rfl
theorem mw_158 : Cond.fieldLink "FallingBlocks" 51 "FallingBlocks$Position" "kind" "I" ∈ mz_GW := mz_in1 (mz_t1 (List.mem_of_getElem? (i := 81) rfl)) rfl
theorem mw_159 : Cond.fieldLink "FallingBlocks$Finesse" 46 "FallingBlocks$Position" "kind" "I" ∈ mz_GW := mz_in1 (mz_t1 (List.mem_of_getElem? (i := 82) rfl)) rfl
theorem mw_160 : Cond.fieldLink "FallingBlocks$Field" 36 "FallingBlocks$Position" "kind" "I" ∈ mz_GW := mz_in1 (mz_t1 (List.mem_of_getElem? (i := 83) rfl)) rfl
theorem mw_161 : Cond.fieldLink "FallingBlocks$Engine" 155 "FallingBlocks$Position" "kind" "I" ∈ mz_GW := mz_in1 (mz_t1 (List.mem_of_getElem? (i := 84) rfl)) rfl
theorem mw_162 : Cond.fieldLink "FallingBlocks$Position" 15 "FallingBlocks$Position" "state" "I" ∈ mz_GW := mz_in1 (mz_t1 (List.mem_of_getElem? (i := 85) rfl)) rfl
theorem mw_163 : Cond.fieldLink "FallingBlocks$Finesse" 50 "FallingBlocks$Position" "state" "I" ∈ mz_GW := mz_in1 (mz_t1 (List.mem_of_getElem? (i := 86) rfl)) rfl
theorem mw_164 : Cond.fieldLink "FallingBlocks" 74 "FallingBlocks$Position" "state" "I" ∈ mz_GW := mz_in1 (mz_t1 (List.mem_of_getElem? (i := 87) rfl)) rfl
theorem mw_165 : Cond.fieldLink "FallingBlocks$Search" 112 "FallingBlocks$Position" "state" "I" ∈ mz_GW := mz_in1 (mz_t1 (List.mem_of_getElem? (i := 88) rfl)) rfl
theorem mw_166 : Cond.fieldLink "FallingBlocks$Engine" 220 "FallingBlocks$Position" "state" "I" ∈ mz_GW := mz_in1 (mz_t1 (List.mem_of_getElem? (i := 89) rfl)) rfl
theorem mw_167 : Cond.fieldLink "FallingBlocks$Position" 18 "FallingBlocks$Position" "column" "I" ∈ mz_GW := mz_in1 (mz_t1 (List.mem_of_getElem? (i := 90) rfl)) rfl
theorem mw_168 : Cond.fieldLink "FallingBlocks$Finesse" 57 "FallingBlocks$Position" "column" "I" ∈ mz_GW := mz_in1 (mz_t1 (List.mem_of_getElem? (i := 91) rfl)) rfl
theorem mw_169 : Cond.fieldLink "FallingBlocks" 77 "FallingBlocks$Position" "column" "I" ∈ mz_GW := mz_in1 (mz_t1 (List.mem_of_getElem? (i := 92) rfl)) rfl
theorem mw_170 : Cond.fieldLink "FallingBlocks$Search" 115 "FallingBlocks$Position" "column" "I" ∈ mz_GW := mz_in1 (mz_t1 (List.mem_of_getElem? (i := 93) rfl)) rfl
theorem mw_171 : Cond.fieldLink "FallingBlocks$Engine" 223 "FallingBlocks$Position" "column" "I" ∈ mz_GW := mz_in1 (mz_t1 (List.mem_of_getElem? (i := 94) rfl)) rfl
theorem mw_172 : Cond.fieldLink "FallingBlocks$Piece" 35 "FallingBlocks$Position" "row" "I" ∈ mz_GW := mz_in1 (mz_t1 (List.mem_of_getElem? (i := 95) rfl)) rfl
theorem mw_173 : Cond.fieldLink "FallingBlocks$Position" 21 "FallingBlocks$Position" "row" "I" ∈ mz_GW := mz_in1 (mz_t1 (List.mem_of_getElem? (i := 96) rfl)) rfl
theorem mw_174 : Cond.fieldLink "FallingBlocks$Engine" 116 "FallingBlocks$Position" "row" "I" ∈ mz_GW := mz_in1 (mz_t1 (List.mem_of_getElem? (i := 97) rfl)) rfl
theorem mw_175 : Cond.fieldLink "FallingBlocks" 80 "FallingBlocks$Position" "row" "I" ∈ mz_GW := mz_in1 (mz_t1 (List.mem_of_getElem? (i := 98) rfl)) rfl
theorem mw_176 : Cond.fieldLink "FallingBlocks$Search" 118 "FallingBlocks$Position" "row" "I" ∈ mz_GW := mz_in1 (mz_t1 (List.mem_of_getElem? (i := 99) rfl)) rfl
theorem mw_177 : Cond.fieldLink "FallingBlocks$Finesse" 93 "FallingBlocks$Position" "row" "I" ∈ mz_GW := mz_in1 (mz_t1 (List.mem_of_getElem? (i := 100) rfl)) rfl
theorem mw_178 : Cond.lays "FallingBlocks$Position" "FallingBlocks$Position" "kind" "I" ∈ mz_GW := mz_in1 (mz_t1 (List.mem_of_getElem? (i := 101) rfl)) rfl
theorem mw_180 : Cond.lays "FallingBlocks$Position" "FallingBlocks$Position" "state" "I" ∈ mz_GW := mz_in1 (mz_t1 (List.mem_of_getElem? (i := 103) rfl)) rfl
theorem mw_182 : Cond.lays "FallingBlocks$Position" "FallingBlocks$Position" "column" "I" ∈ mz_GW := mz_in1 (mz_t1 (List.mem_of_getElem? (i := 105) rfl)) rfl
theorem mw_184 : Cond.lays "FallingBlocks$Position" "FallingBlocks$Position" "row" "I" ∈ mz_GW := mz_in1 (mz_t1 (List.mem_of_getElem? (i := 107) rfl)) rfl
theorem mw_187 : Cond.fieldLink "FallingBlocks$Piece" 12 "FallingBlocks$Piece" "at" "LFallingBlocks$Position;" ∈ mz_GW := mz_in1 (mz_t1 (List.mem_of_getElem? (i := 110) rfl)) rfl
theorem mw_188 : Cond.fieldLink "FallingBlocks$Search" 48 "FallingBlocks$Piece" "at" "LFallingBlocks$Position;" ∈ mz_GW := mz_in1 (mz_t1 (List.mem_of_getElem? (i := 111) rfl)) rfl
theorem mw_189 : Cond.fieldLink "FallingBlocks" 45 "FallingBlocks$Piece" "at" "LFallingBlocks$Position;" ∈ mz_GW := mz_in1 (mz_t1 (List.mem_of_getElem? (i := 112) rfl)) rfl
theorem mw_190 : Cond.fieldLink "FallingBlocks$Engine" 98 "FallingBlocks$Piece" "at" "LFallingBlocks$Position;" ∈ mz_GW := mz_in1 (mz_t1 (List.mem_of_getElem? (i := 113) rfl)) rfl
theorem mw_191 : Cond.fieldLink "FallingBlocks$Piece" 22 "FallingBlocks$Piece" "fallCounter" "I" ∈ mz_GW := mz_in1 (mz_t1 (List.mem_of_getElem? (i := 114) rfl)) rfl
theorem mw_192 : Cond.fieldLink "FallingBlocks" 83 "FallingBlocks$Piece" "fallCounter" "I" ∈ mz_GW := mz_in1 (mz_t1 (List.mem_of_getElem? (i := 115) rfl)) rfl
theorem mw_193 : Cond.fieldLink "FallingBlocks$Engine" 161 "FallingBlocks$Piece" "fallCounter" "I" ∈ mz_GW := mz_in1 (mz_t1 (List.mem_of_getElem? (i := 116) rfl)) rfl
theorem mw_194 : Cond.fieldLink "FallingBlocks$Piece" 26 "FallingBlocks$Piece" "restCounter" "I" ∈ mz_GW := mz_in1 (mz_t1 (List.mem_of_getElem? (i := 117) rfl)) rfl
theorem mw_195 : Cond.fieldLink "FallingBlocks" 86 "FallingBlocks$Piece" "restCounter" "I" ∈ mz_GW := mz_in1 (mz_t1 (List.mem_of_getElem? (i := 118) rfl)) rfl
theorem mw_196 : Cond.fieldLink "FallingBlocks$Engine" 167 "FallingBlocks$Piece" "restCounter" "I" ∈ mz_GW := mz_in1 (mz_t1 (List.mem_of_getElem? (i := 119) rfl)) rfl
theorem mw_197 : Cond.fieldLink "FallingBlocks$Piece" 29 "FallingBlocks$Piece" "resetCounter" "I" ∈ mz_GW := mz_in1 (mz_t1 (List.mem_of_getElem? (i := 120) rfl)) rfl
theorem mw_198 : Cond.fieldLink "FallingBlocks" 89 "FallingBlocks$Piece" "resetCounter" "I" ∈ mz_GW := mz_in1 (mz_t1 (List.mem_of_getElem? (i := 121) rfl)) rfl
theorem mw_199 : Cond.fieldLink "FallingBlocks$Piece" 32 "FallingBlocks$Piece" "inputs" "I" ∈ mz_GW := mz_in1 (mz_t1 (List.mem_of_getElem? (i := 122) rfl)) rfl
theorem mw_200 : Cond.fieldLink "FallingBlocks" 92 "FallingBlocks$Piece" "inputs" "I" ∈ mz_GW := mz_in1 (mz_t1 (List.mem_of_getElem? (i := 123) rfl)) rfl
theorem mw_201 : Cond.fieldLink "FallingBlocks$Engine" 129 "FallingBlocks$Piece" "inputs" "I" ∈ mz_GW := mz_in1 (mz_t1 (List.mem_of_getElem? (i := 124) rfl)) rfl
theorem mw_202 : Cond.fieldLink "FallingBlocks$Piece" 38 "FallingBlocks$Piece" "lowestRow" "I" ∈ mz_GW := mz_in1 (mz_t1 (List.mem_of_getElem? (i := 125) rfl)) rfl
theorem mw_203 : Cond.fieldLink "FallingBlocks$Piece" 41 "FallingBlocks$Piece" "lastKick" "I" ∈ mz_GW := mz_in1 (mz_t1 (List.mem_of_getElem? (i := 126) rfl)) rfl
theorem mw_204 : Cond.fieldLink "FallingBlocks$Engine" 214 "FallingBlocks$Piece" "lastKick" "I" ∈ mz_GW := mz_in1 (mz_t1 (List.mem_of_getElem? (i := 127) rfl)) rfl
theorem mw_205 : Cond.laysFinal "FallingBlocks$Piece" "FallingBlocks$Piece" "at" "LFallingBlocks$Position;" ∈ mz_GW := mz_in1 (mz_t1 (List.mem_of_getElem? (i := 128) rfl)) rfl
theorem mw_207 : Cond.lays "FallingBlocks$Piece" "FallingBlocks$Piece" "fallCounter" "I" ∈ mz_GW := mz_in1 (mz_t1 (List.mem_of_getElem? (i := 130) rfl)) rfl
theorem mw_209 : Cond.lays "FallingBlocks$Piece" "FallingBlocks$Piece" "restCounter" "I" ∈ mz_GW := mz_in1 (mz_t1 (List.mem_of_getElem? (i := 132) rfl)) rfl
theorem mw_211 : Cond.lays "FallingBlocks$Piece" "FallingBlocks$Piece" "resetCounter" "I" ∈ mz_GW := mz_in1 (mz_t1 (List.mem_of_getElem? (i := 134) rfl)) rfl
theorem mw_213 : Cond.lays "FallingBlocks$Piece" "FallingBlocks$Piece" "inputs" "I" ∈ mz_GW := mz_in1 (mz_t1 (List.mem_of_getElem? (i := 136) rfl)) rfl
theorem mw_215 : Cond.lays "FallingBlocks$Piece" "FallingBlocks$Piece" "lowestRow" "I" ∈ mz_GW := mz_in1 (mz_t1 (List.mem_of_getElem? (i := 138) rfl)) rfl
theorem mw_217 : Cond.lays "FallingBlocks$Piece" "FallingBlocks$Piece" "lastKick" "I" ∈ mz_GW := mz_in1 (mz_t1 (List.mem_of_getElem? (i := 140) rfl)) rfl
theorem mw_220 : Cond.classLink "FallingBlocks$Game" 25 "FallingBlocks$Bags" ∈ mz_GW := mz_in1 (mz_t1 (List.mem_of_getElem? (i := 143) rfl)) rfl
theorem mw_221 : Cond.instantiable "FallingBlocks$Bags" 3 ∈ mz_GW := mz_in1 (mz_t1 (List.mem_of_getElem? (i := 144) rfl)) rfl
theorem mn_222 : Cond.methodLinkNest "FallingBlocks$Game" 27 ⟨"FallingBlocks$Bags", "<init>", "()V"⟩ "FallingBlocks" ∈ lw_tbl := mz_t1 (List.mem_of_getElem? (i := 145) rfl)
theorem mw_223 : Cond.instanceMethod ⟨"FallingBlocks$Bags", "<init>", "()V"⟩ ∈ mz_GW := mz_in1 (mz_t1 (List.mem_of_getElem? (i := 146) rfl)) rfl
theorem mw_224 : Cond.code ⟨"FallingBlocks$Bags", "<init>", "()V"⟩ prog_2_method_1_code 1 none ∈ mz_GW := mz_in1 (mz_t1 (List.mem_of_getElem? (i := 147) rfl)) rfl
theorem mw_225 : Cond.methodLink "FallingBlocks$Bags" 3 ⟨"java/lang/Object", "<init>", "()V"⟩ ∈ mz_GW := mz_in1 (mz_t1 (List.mem_of_getElem? (i := 148) rfl)) rfl
theorem mw_226 : Cond.fieldLink "FallingBlocks$Bags" 9 "FallingBlocks$Bags" "preview" "[I" ∈ mz_GW := mz_in1 (mz_t1 (List.mem_of_getElem? (i := 149) rfl)) rfl
theorem mw_227 : Cond.fieldLink "FallingBlocks" 108 "FallingBlocks$Bags" "preview" "[I" ∈ mz_GW := mz_in1 (mz_t1 (List.mem_of_getElem? (i := 150) rfl)) rfl
theorem mw_228 : Cond.fieldLink "FallingBlocks$Bags" 15 "FallingBlocks$Bags" "number" "J" ∈ mz_GW := mz_in1 (mz_t1 (List.mem_of_getElem? (i := 151) rfl)) rfl
theorem mw_229 : Cond.fieldLink "FallingBlocks$Bags" 19 "FallingBlocks$Bags" "bag" "I" ∈ mz_GW := mz_in1 (mz_t1 (List.mem_of_getElem? (i := 152) rfl)) rfl
theorem mw_230 : Cond.laysFinal "FallingBlocks$Bags" "FallingBlocks$Bags" "preview" "[I" ∈ mz_GW := mz_in1 (mz_t1 (List.mem_of_getElem? (i := 153) rfl)) rfl
theorem mw_232 : Cond.lays "FallingBlocks$Bags" "FallingBlocks$Bags" "number" "J" ∈ mz_GW := mz_in1 (mz_t1 (List.mem_of_getElem? (i := 155) rfl)) rfl
theorem mw_234 : Cond.lays "FallingBlocks$Bags" "FallingBlocks$Bags" "bag" "I" ∈ mz_GW := mz_in1 (mz_t1 (List.mem_of_getElem? (i := 157) rfl)) rfl
theorem mw_237 : Cond.classLink "FallingBlocks$Game" 32 "FallingBlocks$Score" ∈ mz_GW := mz_in1 (mz_t1 (List.mem_of_getElem? (i := 160) rfl)) rfl
theorem mw_238 : Cond.instantiable "FallingBlocks$Score" 11 ∈ mz_GW := mz_in1 (mz_t1 (List.mem_of_getElem? (i := 161) rfl)) rfl
theorem mn_239 : Cond.methodLinkNest "FallingBlocks$Game" 34 ⟨"FallingBlocks$Score", "<init>", "()V"⟩ "FallingBlocks" ∈ lw_tbl := mz_t1 (List.mem_of_getElem? (i := 162) rfl)
theorem mw_240 : Cond.instanceMethod ⟨"FallingBlocks$Score", "<init>", "()V"⟩ ∈ mz_GW := mz_in1 (mz_t1 (List.mem_of_getElem? (i := 163) rfl)) rfl
theorem mw_241 : Cond.code ⟨"FallingBlocks$Score", "<init>", "()V"⟩ prog_11_method_1_code 1 none ∈ mz_GW := mz_in1 (mz_t1 (List.mem_of_getElem? (i := 164) rfl)) rfl
theorem mw_242 : Cond.methodLink "FallingBlocks$Score" 1 ⟨"java/lang/Object", "<init>", "()V"⟩ ∈ mz_GW := mz_in1 (mz_t1 (List.mem_of_getElem? (i := 165) rfl)) rfl
theorem mw_243 : Cond.fieldLink "FallingBlocks$Score" 25 "FallingBlocks$Score" "points" "I" ∈ mz_GW := mz_in1 (mz_t1 (List.mem_of_getElem? (i := 166) rfl)) rfl
theorem mw_244 : Cond.fieldLink "FallingBlocks$Engine" 146 "FallingBlocks$Score" "points" "I" ∈ mz_GW := mz_in1 (mz_t1 (List.mem_of_getElem? (i := 167) rfl)) rfl
theorem mw_245 : Cond.fieldLink "FallingBlocks" 214 "FallingBlocks$Score" "points" "I" ∈ mz_GW := mz_in1 (mz_t1 (List.mem_of_getElem? (i := 168) rfl)) rfl
theorem mw_246 : Cond.fieldLink "FallingBlocks$Score" 29 "FallingBlocks$Score" "rows" "I" ∈ mz_GW := mz_in1 (mz_t1 (List.mem_of_getElem? (i := 169) rfl)) rfl
theorem mw_247 : Cond.fieldLink "FallingBlocks" 220 "FallingBlocks$Score" "rows" "I" ∈ mz_GW := mz_in1 (mz_t1 (List.mem_of_getElem? (i := 170) rfl)) rfl
theorem mw_248 : Cond.fieldLink "FallingBlocks$Score" 32 "FallingBlocks$Score" "pieces" "I" ∈ mz_GW := mz_in1 (mz_t1 (List.mem_of_getElem? (i := 171) rfl)) rfl
theorem mw_249 : Cond.fieldLink "FallingBlocks" 174 "FallingBlocks$Score" "pieces" "I" ∈ mz_GW := mz_in1 (mz_t1 (List.mem_of_getElem? (i := 172) rfl)) rfl
theorem mw_250 : Cond.fieldLink "FallingBlocks$Score" 35 "FallingBlocks$Score" "combo" "I" ∈ mz_GW := mz_in1 (mz_t1 (List.mem_of_getElem? (i := 173) rfl)) rfl
theorem mw_251 : Cond.fieldLink "FallingBlocks" 223 "FallingBlocks$Score" "combo" "I" ∈ mz_GW := mz_in1 (mz_t1 (List.mem_of_getElem? (i := 174) rfl)) rfl
theorem mw_252 : Cond.fieldLink "FallingBlocks$Score" 38 "FallingBlocks$Score" "greatestCombo" "I" ∈ mz_GW := mz_in1 (mz_t1 (List.mem_of_getElem? (i := 175) rfl)) rfl
theorem mw_253 : Cond.fieldLink "FallingBlocks" 226 "FallingBlocks$Score" "greatestCombo" "I" ∈ mz_GW := mz_in1 (mz_t1 (List.mem_of_getElem? (i := 176) rfl)) rfl
theorem mw_254 : Cond.fieldLink "FallingBlocks$Score" 41 "FallingBlocks$Score" "faults" "I" ∈ mz_GW := mz_in1 (mz_t1 (List.mem_of_getElem? (i := 177) rfl)) rfl
theorem mw_255 : Cond.fieldLink "FallingBlocks" 229 "FallingBlocks$Score" "faults" "I" ∈ mz_GW := mz_in1 (mz_t1 (List.mem_of_getElem? (i := 178) rfl)) rfl
theorem mw_256 : Cond.fieldLink "FallingBlocks$Score" 44 "FallingBlocks$Score" "inputs" "I" ∈ mz_GW := mz_in1 (mz_t1 (List.mem_of_getElem? (i := 179) rfl)) rfl
theorem mw_257 : Cond.fieldLink "FallingBlocks" 232 "FallingBlocks$Score" "inputs" "I" ∈ mz_GW := mz_in1 (mz_t1 (List.mem_of_getElem? (i := 180) rfl)) rfl
theorem mw_258 : Cond.fieldLink "FallingBlocks$Score" 47 "FallingBlocks$Score" "ticks" "I" ∈ mz_GW := mz_in1 (mz_t1 (List.mem_of_getElem? (i := 181) rfl)) rfl
theorem mw_259 : Cond.fieldLink "FallingBlocks$Engine" 158 "FallingBlocks$Score" "ticks" "I" ∈ mz_GW := mz_in1 (mz_t1 (List.mem_of_getElem? (i := 182) rfl)) rfl
theorem mw_260 : Cond.fieldLink "FallingBlocks" 233 "FallingBlocks$Score" "ticks" "I" ∈ mz_GW := mz_in1 (mz_t1 (List.mem_of_getElem? (i := 183) rfl)) rfl
theorem mw_261 : Cond.fieldLink "FallingBlocks$Score" 50 "FallingBlocks$Score" "wasHard" "Z" ∈ mz_GW := mz_in1 (mz_t1 (List.mem_of_getElem? (i := 184) rfl)) rfl
theorem mw_262 : Cond.fieldLink "FallingBlocks$Score" 7 "FallingBlocks$Score" "lockCounts" "[I" ∈ mz_GW := mz_in1 (mz_t1 (List.mem_of_getElem? (i := 185) rfl)) rfl
theorem mw_263 : Cond.fieldLink "FallingBlocks" 236 "FallingBlocks$Score" "lockCounts" "[I" ∈ mz_GW := mz_in1 (mz_t1 (List.mem_of_getElem? (i := 186) rfl)) rfl
theorem mw_264 : Cond.fieldLink "FallingBlocks$Score" 13 "FallingBlocks$Score" "latestLock" "[I" ∈ mz_GW := mz_in1 (mz_t1 (List.mem_of_getElem? (i := 187) rfl)) rfl
theorem mw_265 : Cond.fieldLink "FallingBlocks" 245 "FallingBlocks$Score" "latestLock" "[I" ∈ mz_GW := mz_in1 (mz_t1 (List.mem_of_getElem? (i := 188) rfl)) rfl
theorem mw_266 : Cond.lays "FallingBlocks$Score" "FallingBlocks$Score" "points" "I" ∈ mz_GW := mz_in1 (mz_t1 (List.mem_of_getElem? (i := 189) rfl)) rfl
theorem mw_268 : Cond.lays "FallingBlocks$Score" "FallingBlocks$Score" "rows" "I" ∈ mz_GW := mz_in1 (mz_t1 (List.mem_of_getElem? (i := 191) rfl)) rfl
theorem mw_270 : Cond.lays "FallingBlocks$Score" "FallingBlocks$Score" "pieces" "I" ∈ mz_GW := mz_in1 (mz_t1 (List.mem_of_getElem? (i := 193) rfl)) rfl
theorem mw_272 : Cond.lays "FallingBlocks$Score" "FallingBlocks$Score" "combo" "I" ∈ mz_GW := mz_in1 (mz_t1 (List.mem_of_getElem? (i := 195) rfl)) rfl
theorem mw_274 : Cond.lays "FallingBlocks$Score" "FallingBlocks$Score" "greatestCombo" "I" ∈ mz_GW := mz_in1 (mz_t1 (List.mem_of_getElem? (i := 197) rfl)) rfl
theorem mw_276 : Cond.lays "FallingBlocks$Score" "FallingBlocks$Score" "faults" "I" ∈ mz_GW := mz_in1 (mz_t1 (List.mem_of_getElem? (i := 199) rfl)) rfl
theorem mw_278 : Cond.lays "FallingBlocks$Score" "FallingBlocks$Score" "inputs" "I" ∈ mz_GW := mz_in1 (mz_t1 (List.mem_of_getElem? (i := 201) rfl)) rfl
theorem mw_280 : Cond.lays "FallingBlocks$Score" "FallingBlocks$Score" "ticks" "I" ∈ mz_GW := mz_in1 (mz_t1 (List.mem_of_getElem? (i := 203) rfl)) rfl
theorem mw_282 : Cond.lays "FallingBlocks$Score" "FallingBlocks$Score" "wasHard" "Z" ∈ mz_GW := mz_in1 (mz_t1 (List.mem_of_getElem? (i := 205) rfl)) rfl
theorem mw_284 : Cond.laysFinal "FallingBlocks$Score" "FallingBlocks$Score" "lockCounts" "[I" ∈ mz_GW := mz_in1 (mz_t1 (List.mem_of_getElem? (i := 207) rfl)) rfl
theorem mw_286 : Cond.laysFinal "FallingBlocks$Score" "FallingBlocks$Score" "latestLock" "[I" ∈ mz_GW := mz_in1 (mz_t1 (List.mem_of_getElem? (i := 209) rfl)) rfl
theorem mw_289 : Cond.fieldLink "FallingBlocks$Game" 12 "FallingBlocks$Game" "field" "LFallingBlocks$Field;" ∈ mz_GW := mz_in1 (mz_t1 (List.mem_of_getElem? (i := 212) rfl)) rfl
theorem mw_290 : Cond.fieldLink "FallingBlocks$Engine" 49 "FallingBlocks$Game" "field" "LFallingBlocks$Field;" ∈ mz_GW := mz_in1 (mz_t1 (List.mem_of_getElem? (i := 213) rfl)) rfl
theorem mw_291 : Cond.fieldLink "FallingBlocks$Search" 59 "FallingBlocks$Game" "field" "LFallingBlocks$Field;" ∈ mz_GW := mz_in1 (mz_t1 (List.mem_of_getElem? (i := 214) rfl)) rfl
theorem mw_292 : Cond.fieldLink "FallingBlocks" 118 "FallingBlocks$Game" "field" "LFallingBlocks$Field;" ∈ mz_GW := mz_in1 (mz_t1 (List.mem_of_getElem? (i := 215) rfl)) rfl
theorem mw_293 : Cond.fieldLink "FallingBlocks$Game" 21 "FallingBlocks$Game" "present" "LFallingBlocks$Piece;" ∈ mz_GW := mz_in1 (mz_t1 (List.mem_of_getElem? (i := 216) rfl)) rfl
theorem mw_294 : Cond.fieldLink "FallingBlocks$Search" 42 "FallingBlocks$Game" "present" "LFallingBlocks$Piece;" ∈ mz_GW := mz_in1 (mz_t1 (List.mem_of_getElem? (i := 217) rfl)) rfl
theorem mw_295 : Cond.fieldLink "FallingBlocks" 39 "FallingBlocks$Game" "present" "LFallingBlocks$Piece;" ∈ mz_GW := mz_in1 (mz_t1 (List.mem_of_getElem? (i := 218) rfl)) rfl
theorem mw_296 : Cond.fieldLink "FallingBlocks$Engine" 91 "FallingBlocks$Game" "present" "LFallingBlocks$Piece;" ∈ mz_GW := mz_in1 (mz_t1 (List.mem_of_getElem? (i := 219) rfl)) rfl
theorem mw_297 : Cond.fieldLink "FallingBlocks$Game" 28 "FallingBlocks$Game" "bags" "LFallingBlocks$Bags;" ∈ mz_GW := mz_in1 (mz_t1 (List.mem_of_getElem? (i := 220) rfl)) rfl
theorem mw_298 : Cond.fieldLink "FallingBlocks$Engine" 55 "FallingBlocks$Game" "bags" "LFallingBlocks$Bags;" ∈ mz_GW := mz_in1 (mz_t1 (List.mem_of_getElem? (i := 221) rfl)) rfl
theorem mw_299 : Cond.fieldLink "FallingBlocks" 104 "FallingBlocks$Game" "bags" "LFallingBlocks$Bags;" ∈ mz_GW := mz_in1 (mz_t1 (List.mem_of_getElem? (i := 222) rfl)) rfl
theorem mw_300 : Cond.fieldLink "FallingBlocks$Game" 35 "FallingBlocks$Game" "score" "LFallingBlocks$Score;" ∈ mz_GW := mz_in1 (mz_t1 (List.mem_of_getElem? (i := 223) rfl)) rfl
theorem mw_301 : Cond.fieldLink "FallingBlocks$Engine" 65 "FallingBlocks$Game" "score" "LFallingBlocks$Score;" ∈ mz_GW := mz_in1 (mz_t1 (List.mem_of_getElem? (i := 224) rfl)) rfl
theorem mw_302 : Cond.fieldLink "FallingBlocks" 170 "FallingBlocks$Game" "score" "LFallingBlocks$Score;" ∈ mz_GW := mz_in1 (mz_t1 (List.mem_of_getElem? (i := 225) rfl)) rfl
theorem mw_303 : Cond.fieldLink "FallingBlocks$Game" 39 "FallingBlocks$Game" "heldKind" "I" ∈ mz_GW := mz_in1 (mz_t1 (List.mem_of_getElem? (i := 226) rfl)) rfl
theorem mw_304 : Cond.fieldLink "FallingBlocks$Engine" 73 "FallingBlocks$Game" "heldKind" "I" ∈ mz_GW := mz_in1 (mz_t1 (List.mem_of_getElem? (i := 227) rfl)) rfl
theorem mw_305 : Cond.fieldLink "FallingBlocks" 162 "FallingBlocks$Game" "heldKind" "I" ∈ mz_GW := mz_in1 (mz_t1 (List.mem_of_getElem? (i := 228) rfl)) rfl
theorem mw_306 : Cond.fieldLink "FallingBlocks$Engine" 77 "FallingBlocks$Game" "holdUsed" "Z" ∈ mz_GW := mz_in1 (mz_t1 (List.mem_of_getElem? (i := 229) rfl)) rfl
theorem mw_307 : Cond.fieldLink "FallingBlocks$Game" 62 "FallingBlocks$Game" "holdUsed" "Z" ∈ mz_GW := mz_in1 (mz_t1 (List.mem_of_getElem? (i := 230) rfl)) rfl
theorem mw_308 : Cond.fieldLink "FallingBlocks" 151 "FallingBlocks$Game" "holdUsed" "Z" ∈ mz_GW := mz_in1 (mz_t1 (List.mem_of_getElem? (i := 231) rfl)) rfl
theorem mw_309 : Cond.fieldLink "FallingBlocks$Engine" 81 "FallingBlocks$Game" "over" "Z" ∈ mz_GW := mz_in1 (mz_t1 (List.mem_of_getElem? (i := 232) rfl)) rfl
theorem mw_310 : Cond.fieldLink "FallingBlocks$Game" 66 "FallingBlocks$Game" "over" "Z" ∈ mz_GW := mz_in1 (mz_t1 (List.mem_of_getElem? (i := 233) rfl)) rfl
theorem mw_311 : Cond.fieldLink "FallingBlocks$Memory" 36 "FallingBlocks$Game" "over" "Z" ∈ mz_GW := mz_in1 (mz_t1 (List.mem_of_getElem? (i := 234) rfl)) rfl
theorem mw_312 : Cond.fieldLink "FallingBlocks" 67 "FallingBlocks$Game" "over" "Z" ∈ mz_GW := mz_in1 (mz_t1 (List.mem_of_getElem? (i := 235) rfl)) rfl
theorem mw_313 : Cond.fieldLink "FallingBlocks$Game" 43 "FallingBlocks$Game" "lockDelay" "I" ∈ mz_GW := mz_in1 (mz_t1 (List.mem_of_getElem? (i := 236) rfl)) rfl
theorem mw_314 : Cond.fieldLink "FallingBlocks" 61 "FallingBlocks$Game" "lockDelay" "I" ∈ mz_GW := mz_in1 (mz_t1 (List.mem_of_getElem? (i := 237) rfl)) rfl
theorem mw_315 : Cond.fieldLink "FallingBlocks$Engine" 170 "FallingBlocks$Game" "lockDelay" "I" ∈ mz_GW := mz_in1 (mz_t1 (List.mem_of_getElem? (i := 238) rfl)) rfl
theorem mw_316 : Cond.fieldLink "FallingBlocks$Game" 46 "FallingBlocks$Game" "resetLimit" "I" ∈ mz_GW := mz_in1 (mz_t1 (List.mem_of_getElem? (i := 239) rfl)) rfl
theorem mw_317 : Cond.fieldLink "FallingBlocks" 64 "FallingBlocks$Game" "resetLimit" "I" ∈ mz_GW := mz_in1 (mz_t2 (List.mem_of_getElem? (i := 0) rfl)) rfl
theorem mw_318 : Cond.fieldLink "FallingBlocks$Engine" 132 "FallingBlocks$Game" "resetLimit" "I" ∈ mz_GW := mz_in1 (mz_t2 (List.mem_of_getElem? (i := 1) rfl)) rfl
theorem mw_319 : Cond.laysFinal "FallingBlocks$Game" "FallingBlocks$Game" "field" "LFallingBlocks$Field;" ∈ mz_GW := mz_in1 (mz_t2 (List.mem_of_getElem? (i := 2) rfl)) rfl
theorem mw_321 : Cond.laysFinal "FallingBlocks$Game" "FallingBlocks$Game" "present" "LFallingBlocks$Piece;" ∈ mz_GW := mz_in1 (mz_t2 (List.mem_of_getElem? (i := 4) rfl)) rfl
theorem mw_323 : Cond.laysFinal "FallingBlocks$Game" "FallingBlocks$Game" "bags" "LFallingBlocks$Bags;" ∈ mz_GW := mz_in1 (mz_t2 (List.mem_of_getElem? (i := 6) rfl)) rfl
theorem mw_325 : Cond.laysFinal "FallingBlocks$Game" "FallingBlocks$Game" "score" "LFallingBlocks$Score;" ∈ mz_GW := mz_in1 (mz_t2 (List.mem_of_getElem? (i := 8) rfl)) rfl
theorem mw_327 : Cond.lays "FallingBlocks$Game" "FallingBlocks$Game" "heldKind" "I" ∈ mz_GW := mz_in1 (mz_t2 (List.mem_of_getElem? (i := 10) rfl)) rfl
theorem mw_329 : Cond.lays "FallingBlocks$Game" "FallingBlocks$Game" "holdUsed" "Z" ∈ mz_GW := mz_in1 (mz_t2 (List.mem_of_getElem? (i := 12) rfl)) rfl
theorem mw_331 : Cond.lays "FallingBlocks$Game" "FallingBlocks$Game" "over" "Z" ∈ mz_GW := mz_in1 (mz_t2 (List.mem_of_getElem? (i := 14) rfl)) rfl
theorem mw_333 : Cond.lays "FallingBlocks$Game" "FallingBlocks$Game" "lockDelay" "I" ∈ mz_GW := mz_in1 (mz_t2 (List.mem_of_getElem? (i := 16) rfl)) rfl
theorem mw_335 : Cond.lays "FallingBlocks$Game" "FallingBlocks$Game" "resetLimit" "I" ∈ mz_GW := mz_in1 (mz_t2 (List.mem_of_getElem? (i := 18) rfl)) rfl
theorem mw_338 : Cond.classLink "FallingBlocks$Engine" 18 "FallingBlocks$Memory" ∈ mz_GW := mz_in1 (mz_t2 (List.mem_of_getElem? (i := 21) rfl)) rfl
theorem mw_339 : Cond.instantiable "FallingBlocks$Memory" 5 ∈ mz_GW := mz_in1 (mz_t2 (List.mem_of_getElem? (i := 22) rfl)) rfl
theorem mw_340 : Cond.methodLink "FallingBlocks$Engine" 20 ⟨"FallingBlocks$Memory", "<init>", "()V"⟩ ∈ mz_GW := mz_in1 (mz_t2 (List.mem_of_getElem? (i := 23) rfl)) rfl
theorem mw_341 : Cond.instanceMethod ⟨"FallingBlocks$Memory", "<init>", "()V"⟩ ∈ mz_GW := mz_in1 (mz_t2 (List.mem_of_getElem? (i := 24) rfl)) rfl
theorem mw_342 : Cond.code ⟨"FallingBlocks$Memory", "<init>", "()V"⟩ prog_8_method_1_code 2 none ∈ mz_GW := mz_in1 (mz_t2 (List.mem_of_getElem? (i := 25) rfl)) rfl
theorem mw_343 : Cond.methodLink "FallingBlocks$Memory" 1 ⟨"java/lang/Object", "<init>", "()V"⟩ ∈ mz_GW := mz_in1 (mz_t2 (List.mem_of_getElem? (i := 26) rfl)) rfl
theorem mw_344 : Cond.classLink "FallingBlocks$Memory" 9 "FallingBlocks$Game" ∈ mz_GW := mz_in1 (mz_t2 (List.mem_of_getElem? (i := 27) rfl)) rfl
theorem mn_346 : Cond.methodLinkNest "FallingBlocks$Memory" 15 ⟨"FallingBlocks$Game", "<init>", "()V"⟩ "FallingBlocks" ∈ lw_tbl := mz_t2 (List.mem_of_getElem? (i := 29) rfl)
theorem mw_347 : Cond.fieldLink "FallingBlocks$Memory" 11 "FallingBlocks$Memory" "records" "[LFallingBlocks$Game;" ∈ mz_GW := mz_in1 (mz_t2 (List.mem_of_getElem? (i := 30) rfl)) rfl
theorem mw_348 : Cond.fieldLink "FallingBlocks$Memory" 24 "FallingBlocks$Memory" "newest" "I" ∈ mz_GW := mz_in1 (mz_t2 (List.mem_of_getElem? (i := 31) rfl)) rfl
theorem mw_349 : Cond.fieldLink "FallingBlocks$Memory" 20 "FallingBlocks$Memory" "kept" "I" ∈ mz_GW := mz_in1 (mz_t2 (List.mem_of_getElem? (i := 32) rfl)) rfl
theorem mw_350 : Cond.fieldLink "FallingBlocks$Memory" 16 "FallingBlocks$Memory" "snapshot" "LFallingBlocks$Game;" ∈ mz_GW := mz_in1 (mz_t2 (List.mem_of_getElem? (i := 33) rfl)) rfl
theorem mw_351 : Cond.fieldLink "FallingBlocks$Memory" 47 "FallingBlocks$Memory" "hasSnapshot" "Z" ∈ mz_GW := mz_in1 (mz_t2 (List.mem_of_getElem? (i := 34) rfl)) rfl
theorem mw_352 : Cond.laysFinal "FallingBlocks$Memory" "FallingBlocks$Memory" "records" "[LFallingBlocks$Game;" ∈ mz_GW := mz_in1 (mz_t2 (List.mem_of_getElem? (i := 35) rfl)) rfl
theorem mw_354 : Cond.lays "FallingBlocks$Memory" "FallingBlocks$Memory" "newest" "I" ∈ mz_GW := mz_in1 (mz_t2 (List.mem_of_getElem? (i := 37) rfl)) rfl
theorem mw_356 : Cond.lays "FallingBlocks$Memory" "FallingBlocks$Memory" "kept" "I" ∈ mz_GW := mz_in1 (mz_t2 (List.mem_of_getElem? (i := 39) rfl)) rfl
theorem mw_358 : Cond.laysFinal "FallingBlocks$Memory" "FallingBlocks$Memory" "snapshot" "LFallingBlocks$Game;" ∈ mz_GW := mz_in1 (mz_t2 (List.mem_of_getElem? (i := 41) rfl)) rfl
theorem mw_360 : Cond.lays "FallingBlocks$Memory" "FallingBlocks$Memory" "hasSnapshot" "Z" ∈ mz_GW := mz_in1 (mz_t2 (List.mem_of_getElem? (i := 43) rfl)) rfl
theorem mw_363 : Cond.classLink "FallingBlocks$Engine" 25 "FallingBlocks$Finesse" ∈ mz_GW := mz_in1 (mz_t2 (List.mem_of_getElem? (i := 46) rfl)) rfl
theorem mw_364 : Cond.instantiable "FallingBlocks$Finesse" 5 ∈ mz_GW := mz_in1 (mz_t2 (List.mem_of_getElem? (i := 47) rfl)) rfl
theorem mw_365 : Cond.methodLink "FallingBlocks$Engine" 27 ⟨"FallingBlocks$Finesse", "<init>", "()V"⟩ ∈ mz_GW := mz_in1 (mz_t2 (List.mem_of_getElem? (i := 48) rfl)) rfl
theorem mw_366 : Cond.instanceMethod ⟨"FallingBlocks$Finesse", "<init>", "()V"⟩ ∈ mz_GW := mz_in1 (mz_t2 (List.mem_of_getElem? (i := 49) rfl)) rfl
theorem mw_367 : Cond.code ⟨"FallingBlocks$Finesse", "<init>", "()V"⟩ prog_5_method_1_code 2 none ∈ mz_GW := mz_in1 (mz_t2 (List.mem_of_getElem? (i := 50) rfl)) rfl
theorem mw_368 : Cond.methodLink "FallingBlocks$Finesse" 3 ⟨"java/lang/Object", "<init>", "()V"⟩ ∈ mz_GW := mz_in1 (mz_t2 (List.mem_of_getElem? (i := 51) rfl)) rfl
theorem mw_369 : Cond.classLink "FallingBlocks$Finesse" 18 "FallingBlocks$Field" ∈ mz_GW := mz_in1 (mz_t2 (List.mem_of_getElem? (i := 52) rfl)) rfl
theorem mw_370 : Cond.methodLink "FallingBlocks$Finesse" 20 ⟨"FallingBlocks$Field", "<init>", "()V"⟩ ∈ mz_GW := mz_in1 (mz_t2 (List.mem_of_getElem? (i := 53) rfl)) rfl
theorem mw_371 : Cond.classLink "FallingBlocks$Finesse" 25 "FallingBlocks$Position" ∈ mz_GW := mz_in1 (mz_t2 (List.mem_of_getElem? (i := 54) rfl)) rfl
theorem mn_372 : Cond.methodLinkNest "FallingBlocks$Finesse" 27 ⟨"FallingBlocks$Position", "<init>", "()V"⟩ "FallingBlocks" ∈ lw_tbl := mz_t2 (List.mem_of_getElem? (i := 55) rfl)
theorem mw_373 : Cond.methodLink "FallingBlocks$Finesse" 32 ⟨"java/util/Arrays", "fill", "([II)V"⟩ ∈ mz_GW := mz_in1 (mz_t2 (List.mem_of_getElem? (i := 56) rfl)) rfl
theorem mw_374 : Cond.methodLink "FallingBlocks$Finesse" 38 ⟨"FallingBlocks$Finesse", "explore", "(I)V"⟩ ∈ mz_GW := mz_in1 (mz_t2 (List.mem_of_getElem? (i := 57) rfl)) rfl
theorem mw_376 : Cond.instanceMethod ⟨"FallingBlocks$Finesse", "explore", "(I)V"⟩ ∈ mz_GW := mz_in1 (mz_t2 (List.mem_of_getElem? (i := 59) rfl)) rfl
theorem mw_377 : Cond.code ⟨"FallingBlocks$Finesse", "explore", "(I)V"⟩ prog_5_method_7_code 6 none ∈ mz_GW := mz_in1 (mz_t2 (List.mem_of_getElem? (i := 60) rfl)) rfl
theorem mw_378 : Cond.methodLink "FallingBlocks$Finesse" 73 ⟨"FallingBlocks$Position", "appear", "(I)V"⟩ ∈ mz_GW := mz_in1 (mz_t2 (List.mem_of_getElem? (i := 61) rfl)) rfl
theorem mw_379 : Cond.instanceMethod ⟨"FallingBlocks$Position", "appear", "(I)V"⟩ ∈ mz_GW := mz_in1 (mz_t2 (List.mem_of_getElem? (i := 62) rfl)) rfl
theorem mw_380 : Cond.selects "FallingBlocks$Position" ⟨"FallingBlocks$Position", "appear", "(I)V"⟩ ⟨"FallingBlocks$Position", "appear", "(I)V"⟩ ∈ mz_GW := mz_in1 (mz_t2 (List.mem_of_getElem? (i := 63) rfl)) rfl
theorem mw_381 : Cond.code ⟨"FallingBlocks$Position", "appear", "(I)V"⟩ prog_10_method_2_code 2 none ∈ mz_GW := mz_in1 (mz_t2 (List.mem_of_getElem? (i := 64) rfl)) rfl
theorem mw_382 : Cond.methodLink "FallingBlocks$Finesse" 76 ⟨"FallingBlocks$Finesse", "reach", "(I)V"⟩ ∈ mz_GW := mz_in1 (mz_t2 (List.mem_of_getElem? (i := 65) rfl)) rfl
theorem mw_384 : Cond.instanceMethod ⟨"FallingBlocks$Finesse", "reach", "(I)V"⟩ ∈ mz_GW := mz_in1 (mz_t2 (List.mem_of_getElem? (i := 67) rfl)) rfl
theorem mw_385 : Cond.code ⟨"FallingBlocks$Finesse", "reach", "(I)V"⟩ prog_5_method_9_code 4 none ∈ mz_GW := mz_in1 (mz_t2 (List.mem_of_getElem? (i := 68) rfl)) rfl
theorem mw_386 : Cond.methodLink "FallingBlocks$Finesse" 42 ⟨"FallingBlocks$Finesse", "indexOf", "(III)I"⟩ ∈ mz_GW := mz_in1 (mz_t2 (List.mem_of_getElem? (i := 69) rfl)) rfl
theorem mw_387 : Cond.static ⟨"FallingBlocks$Finesse", "indexOf", "(III)I"⟩ ∈ mz_GW := mz_in1 (mz_t2 (List.mem_of_getElem? (i := 70) rfl)) rfl
theorem mw_388 : Cond.code ⟨"FallingBlocks$Finesse", "indexOf", "(III)I"⟩ prog_5_method_3_code 6 (some .int) ∈ mz_GW := mz_in1 (mz_t2 (List.mem_of_getElem? (i := 71) rfl)) rfl
theorem mw_389 : Cond.methodLink "FallingBlocks$Finesse" 79 ⟨"FallingBlocks$Finesse", "goTo", "(I)V"⟩ ∈ mz_GW := mz_in1 (mz_t2 (List.mem_of_getElem? (i := 72) rfl)) rfl
theorem mw_391 : Cond.instanceMethod ⟨"FallingBlocks$Finesse", "goTo", "(I)V"⟩ ∈ mz_GW := mz_in1 (mz_t2 (List.mem_of_getElem? (i := 74) rfl)) rfl
theorem mw_392 : Cond.code ⟨"FallingBlocks$Finesse", "goTo", "(I)V"⟩ prog_5_method_8_code 2 none ∈ mz_GW := mz_in1 (mz_t2 (List.mem_of_getElem? (i := 75) rfl)) rfl
theorem mw_393 : Cond.methodLink "FallingBlocks$Finesse" 60 ⟨"FallingBlocks$Finesse", "leastTo", "(III)I"⟩ ∈ mz_GW := mz_in1 (mz_t2 (List.mem_of_getElem? (i := 76) rfl)) rfl
theorem mw_394 : Cond.instanceMethod ⟨"FallingBlocks$Finesse", "leastTo", "(III)I"⟩ ∈ mz_GW := mz_in1 (mz_t2 (List.mem_of_getElem? (i := 77) rfl)) rfl
theorem mw_395 : Cond.selects "FallingBlocks$Finesse" ⟨"FallingBlocks$Finesse", "leastTo", "(III)I"⟩ ⟨"FallingBlocks$Finesse", "leastTo", "(III)I"⟩ ∈ mz_GW := mz_in1 (mz_t2 (List.mem_of_getElem? (i := 78) rfl)) rfl
theorem mw_396 : Cond.code ⟨"FallingBlocks$Finesse", "leastTo", "(III)I"⟩ prog_5_method_2_code 5 (some .int) ∈ mz_GW := mz_in1 (mz_t2 (List.mem_of_getElem? (i := 79) rfl)) rfl
theorem mw_397 : Cond.methodLink "FallingBlocks$Finesse" 82 ⟨"FallingBlocks$Position", "moveBy", "(IILFallingBlocks$Field;)Z"⟩ ∈ mz_GW := mz_in1 (mz_t2 (List.mem_of_getElem? (i := 80) rfl)) rfl
theorem mw_398 : Cond.instanceMethod ⟨"FallingBlocks$Position", "moveBy", "(IILFallingBlocks$Field;)Z"⟩ ∈ mz_GW := mz_in1 (mz_t2 (List.mem_of_getElem? (i := 81) rfl)) rfl
theorem mw_399 : Cond.selects "FallingBlocks$Position" ⟨"FallingBlocks$Position", "moveBy", "(IILFallingBlocks$Field;)Z"⟩ ⟨"FallingBlocks$Position", "moveBy", "(IILFallingBlocks$Field;)Z"⟩ ∈ mz_GW := mz_in1 (mz_t2 (List.mem_of_getElem? (i := 82) rfl)) rfl
theorem mw_400 : Cond.code ⟨"FallingBlocks$Position", "moveBy", "(IILFallingBlocks$Field;)Z"⟩ prog_10_method_10_code 4 (some .boolean) ∈ mz_GW := mz_in1 (mz_t2 (List.mem_of_getElem? (i := 83) rfl)) rfl
theorem mw_401 : Cond.methodLink "FallingBlocks$Position" 42 ⟨"FallingBlocks$Position", "fits", "(LFallingBlocks$Field;)Z"⟩ ∈ mz_GW := mz_in1 (mz_t2 (List.mem_of_getElem? (i := 84) rfl)) rfl
theorem mw_402 : Cond.instanceMethod ⟨"FallingBlocks$Position", "fits", "(LFallingBlocks$Field;)Z"⟩ ∈ mz_GW := mz_in1 (mz_t2 (List.mem_of_getElem? (i := 85) rfl)) rfl
theorem mw_403 : Cond.selects "FallingBlocks$Position" ⟨"FallingBlocks$Position", "fits", "(LFallingBlocks$Field;)Z"⟩ ⟨"FallingBlocks$Position", "fits", "(LFallingBlocks$Field;)Z"⟩ ∈ mz_GW := mz_in1 (mz_t2 (List.mem_of_getElem? (i := 86) rfl)) rfl
theorem mw_404 : Cond.code ⟨"FallingBlocks$Position", "fits", "(LFallingBlocks$Field;)Z"⟩ prog_10_method_9_code 4 (some .boolean) ∈ mz_GW := mz_in1 (mz_t2 (List.mem_of_getElem? (i := 87) rfl)) rfl
theorem mw_405 : Cond.methodLink "FallingBlocks$Position" 28 ⟨"FallingBlocks$Position", "cellOf", "(III)I"⟩ ∈ mz_GW := mz_in1 (mz_t2 (List.mem_of_getElem? (i := 88) rfl)) rfl
theorem mw_406 : Cond.static ⟨"FallingBlocks$Position", "cellOf", "(III)I"⟩ ∈ mz_GW := mz_in1 (mz_t2 (List.mem_of_getElem? (i := 89) rfl)) rfl
theorem mw_407 : Cond.code ⟨"FallingBlocks$Position", "cellOf", "(III)I"⟩ prog_10_method_5_code 4 (some .int) ∈ mz_GW := mz_in1 (mz_t2 (List.mem_of_getElem? (i := 90) rfl)) rfl
theorem mn_408 : Cond.fieldLinkNest "FallingBlocks$Position" 24 "FallingBlocks" "CELLS" "[I" "FallingBlocks" ∈ lw_tbl := mz_t2 (List.mem_of_getElem? (i := 91) rfl)
theorem mw_410 : Cond.methodLink "FallingBlocks$Position" 36 ⟨"FallingBlocks$Field", "isFilled", "(II)Z"⟩ ∈ mz_GW := mz_in1 (mz_t2 (List.mem_of_getElem? (i := 93) rfl)) rfl
theorem mw_411 : Cond.instanceMethod ⟨"FallingBlocks$Field", "isFilled", "(II)Z"⟩ ∈ mz_GW := mz_in1 (mz_t2 (List.mem_of_getElem? (i := 94) rfl)) rfl
theorem mw_412 : Cond.selects "FallingBlocks$Field" ⟨"FallingBlocks$Field", "isFilled", "(II)Z"⟩ ⟨"FallingBlocks$Field", "isFilled", "(II)Z"⟩ ∈ mz_GW := mz_in1 (mz_t2 (List.mem_of_getElem? (i := 95) rfl)) rfl
theorem mw_413 : Cond.code ⟨"FallingBlocks$Field", "isFilled", "(II)Z"⟩ prog_4_method_5_code 4 (some .boolean) ∈ mz_GW := mz_in1 (mz_t2 (List.mem_of_getElem? (i := 96) rfl)) rfl
theorem mw_414 : Cond.methodLink "FallingBlocks$Finesse" 86 ⟨"FallingBlocks$Position", "slideBy", "(ILFallingBlocks$Field;)I"⟩ ∈ mz_GW := mz_in1 (mz_t2 (List.mem_of_getElem? (i := 97) rfl)) rfl
theorem mw_415 : Cond.instanceMethod ⟨"FallingBlocks$Position", "slideBy", "(ILFallingBlocks$Field;)I"⟩ ∈ mz_GW := mz_in1 (mz_t2 (List.mem_of_getElem? (i := 98) rfl)) rfl
theorem mw_416 : Cond.selects "FallingBlocks$Position" ⟨"FallingBlocks$Position", "slideBy", "(ILFallingBlocks$Field;)I"⟩ ⟨"FallingBlocks$Position", "slideBy", "(ILFallingBlocks$Field;)I"⟩ ∈ mz_GW := mz_in1 (mz_t2 (List.mem_of_getElem? (i := 99) rfl)) rfl
theorem mw_417 : Cond.code ⟨"FallingBlocks$Position", "slideBy", "(ILFallingBlocks$Field;)I"⟩ prog_10_method_11_code 4 (some .int) ∈ mz_GW := mz_in1 (mz_t2 (List.mem_of_getElem? (i := 100) rfl)) rfl
theorem mw_418 : Cond.methodLink "FallingBlocks$Finesse" 90 ⟨"FallingBlocks$Position", "turnBy", "(ILFallingBlocks$Field;)I"⟩ ∈ mz_GW := mz_in1 (mz_t2 (List.mem_of_getElem? (i := 101) rfl)) rfl
theorem mw_419 : Cond.instanceMethod ⟨"FallingBlocks$Position", "turnBy", "(ILFallingBlocks$Field;)I"⟩ ∈ mz_GW := mz_in1 (mz_t2 (List.mem_of_getElem? (i := 102) rfl)) rfl
theorem mw_420 : Cond.selects "FallingBlocks$Position" ⟨"FallingBlocks$Position", "turnBy", "(ILFallingBlocks$Field;)I"⟩ ⟨"FallingBlocks$Position", "turnBy", "(ILFallingBlocks$Field;)I"⟩ ∈ mz_GW := mz_in1 (mz_t2 (List.mem_of_getElem? (i := 103) rfl)) rfl
theorem mw_421 : Cond.code ⟨"FallingBlocks$Position", "turnBy", "(ILFallingBlocks$Field;)I"⟩ prog_10_method_12_code 8 (some .int) ∈ mz_GW := mz_in1 (mz_t2 (List.mem_of_getElem? (i := 104) rfl)) rfl
theorem mn_422 : Cond.fieldLinkNest "FallingBlocks$Position" 46 "FallingBlocks" "LONG_KICKS" "[I" "FallingBlocks" ∈ lw_tbl := mz_t2 (List.mem_of_getElem? (i := 105) rfl)
theorem mn_424 : Cond.fieldLinkNest "FallingBlocks$Position" 49 "FallingBlocks" "KICKS" "[I" "FallingBlocks" ∈ lw_tbl := mz_t2 (List.mem_of_getElem? (i := 107) rfl)
theorem mw_426 : Cond.fieldLink "FallingBlocks$Finesse" 11 "FallingBlocks$Finesse" "least" "[I" ∈ mz_GW := mz_in1 (mz_t2 (List.mem_of_getElem? (i := 109) rfl)) rfl
theorem mw_427 : Cond.fieldLink "FallingBlocks$Finesse" 15 "FallingBlocks$Finesse" "queue" "[I" ∈ mz_GW := mz_in1 (mz_t2 (List.mem_of_getElem? (i := 110) rfl)) rfl
theorem mw_428 : Cond.fieldLink "FallingBlocks$Finesse" 21 "FallingBlocks$Finesse" "open" "LFallingBlocks$Field;" ∈ mz_GW := mz_in1 (mz_t2 (List.mem_of_getElem? (i := 111) rfl)) rfl
theorem mw_429 : Cond.fieldLink "FallingBlocks$Finesse" 28 "FallingBlocks$Finesse" "at" "LFallingBlocks$Position;" ∈ mz_GW := mz_in1 (mz_t2 (List.mem_of_getElem? (i := 112) rfl)) rfl
theorem mw_430 : Cond.fieldLink "FallingBlocks$Finesse" 70 "FallingBlocks$Finesse" "reached" "I" ∈ mz_GW := mz_in1 (mz_t2 (List.mem_of_getElem? (i := 113) rfl)) rfl
theorem mw_431 : Cond.laysFinal "FallingBlocks$Finesse" "FallingBlocks$Finesse" "least" "[I" ∈ mz_GW := mz_in1 (mz_t2 (List.mem_of_getElem? (i := 114) rfl)) rfl
theorem mw_433 : Cond.laysFinal "FallingBlocks$Finesse" "FallingBlocks$Finesse" "queue" "[I" ∈ mz_GW := mz_in1 (mz_t2 (List.mem_of_getElem? (i := 116) rfl)) rfl
theorem mw_435 : Cond.laysFinal "FallingBlocks$Finesse" "FallingBlocks$Finesse" "open" "LFallingBlocks$Field;" ∈ mz_GW := mz_in1 (mz_t2 (List.mem_of_getElem? (i := 118) rfl)) rfl
theorem mw_437 : Cond.laysFinal "FallingBlocks$Finesse" "FallingBlocks$Finesse" "at" "LFallingBlocks$Position;" ∈ mz_GW := mz_in1 (mz_t2 (List.mem_of_getElem? (i := 120) rfl)) rfl
theorem mw_439 : Cond.lays "FallingBlocks$Finesse" "FallingBlocks$Finesse" "reached" "I" ∈ mz_GW := mz_in1 (mz_t2 (List.mem_of_getElem? (i := 122) rfl)) rfl
theorem mw_442 : Cond.classLink "FallingBlocks$Engine" 32 "FallingBlocks$Search" ∈ mz_GW := mz_in1 (mz_t2 (List.mem_of_getElem? (i := 125) rfl)) rfl
theorem mw_443 : Cond.instantiable "FallingBlocks$Search" 11 ∈ mz_GW := mz_in1 (mz_t2 (List.mem_of_getElem? (i := 126) rfl)) rfl
theorem mn_444 : Cond.methodLinkNest "FallingBlocks$Engine" 34 ⟨"FallingBlocks$Search", "<init>", "()V"⟩ "FallingBlocks" ∈ lw_tbl := mz_t2 (List.mem_of_getElem? (i := 127) rfl)
theorem mw_445 : Cond.instanceMethod ⟨"FallingBlocks$Search", "<init>", "()V"⟩ ∈ mz_GW := mz_in1 (mz_t2 (List.mem_of_getElem? (i := 128) rfl)) rfl
theorem mw_446 : Cond.code ⟨"FallingBlocks$Search", "<init>", "()V"⟩ prog_12_method_1_code 1 none ∈ mz_GW := mz_in1 (mz_t2 (List.mem_of_getElem? (i := 129) rfl)) rfl
theorem mw_447 : Cond.methodLink "FallingBlocks$Search" 3 ⟨"java/lang/Object", "<init>", "()V"⟩ ∈ mz_GW := mz_in1 (mz_t2 (List.mem_of_getElem? (i := 130) rfl)) rfl
theorem mw_448 : Cond.classLink "FallingBlocks$Search" 9 "FallingBlocks$Field" ∈ mz_GW := mz_in1 (mz_t2 (List.mem_of_getElem? (i := 131) rfl)) rfl
theorem mw_449 : Cond.methodLink "FallingBlocks$Search" 11 ⟨"FallingBlocks$Field", "<init>", "()V"⟩ ∈ mz_GW := mz_in1 (mz_t2 (List.mem_of_getElem? (i := 132) rfl)) rfl
theorem mw_450 : Cond.classLink "FallingBlocks$Search" 21 "FallingBlocks$Position" ∈ mz_GW := mz_in1 (mz_t2 (List.mem_of_getElem? (i := 133) rfl)) rfl
theorem mn_451 : Cond.methodLinkNest "FallingBlocks$Search" 23 ⟨"FallingBlocks$Position", "<init>", "()V"⟩ "FallingBlocks" ∈ lw_tbl := mz_t2 (List.mem_of_getElem? (i := 134) rfl)
theorem mw_452 : Cond.fieldLink "FallingBlocks$Search" 73 "FallingBlocks$Search" "found" "I" ∈ mz_GW := mz_in1 (mz_t2 (List.mem_of_getElem? (i := 135) rfl)) rfl
theorem mw_453 : Cond.fieldLink "FallingBlocks" 275 "FallingBlocks$Search" "found" "I" ∈ mz_GW := mz_in1 (mz_t2 (List.mem_of_getElem? (i := 136) rfl)) rfl
theorem mw_454 : Cond.fieldLink "FallingBlocks$Search" 51 "FallingBlocks$Search" "known" "Z" ∈ mz_GW := mz_in1 (mz_t2 (List.mem_of_getElem? (i := 137) rfl)) rfl
theorem mw_455 : Cond.fieldLink "FallingBlocks$Search" 12 "FallingBlocks$Search" "field" "LFallingBlocks$Field;" ∈ mz_GW := mz_in1 (mz_t2 (List.mem_of_getElem? (i := 138) rfl)) rfl
theorem mw_456 : Cond.fieldLink "FallingBlocks$Search" 18 "FallingBlocks$Search" "after" "LFallingBlocks$Field;" ∈ mz_GW := mz_in1 (mz_t2 (List.mem_of_getElem? (i := 139) rfl)) rfl
theorem mw_457 : Cond.fieldLink "FallingBlocks$Search" 24 "FallingBlocks$Search" "from" "LFallingBlocks$Position;" ∈ mz_GW := mz_in1 (mz_t2 (List.mem_of_getElem? (i := 140) rfl)) rfl
theorem mw_458 : Cond.fieldLink "FallingBlocks$Search" 28 "FallingBlocks$Search" "at" "LFallingBlocks$Position;" ∈ mz_GW := mz_in1 (mz_t2 (List.mem_of_getElem? (i := 141) rfl)) rfl
theorem mw_459 : Cond.fieldLink "FallingBlocks$Search" 31 "FallingBlocks$Search" "seen" "[I" ∈ mz_GW := mz_in1 (mz_t2 (List.mem_of_getElem? (i := 142) rfl)) rfl
theorem mw_460 : Cond.fieldLink "FallingBlocks$Search" 35 "FallingBlocks$Search" "queue" "[I" ∈ mz_GW := mz_in1 (mz_t2 (List.mem_of_getElem? (i := 143) rfl)) rfl
theorem mw_461 : Cond.fieldLink "FallingBlocks$Search" 90 "FallingBlocks$Search" "reached" "I" ∈ mz_GW := mz_in1 (mz_t2 (List.mem_of_getElem? (i := 144) rfl)) rfl
theorem mw_462 : Cond.fieldLink "FallingBlocks$Search" 38 "FallingBlocks$Search" "keys" "[J" ∈ mz_GW := mz_in1 (mz_t2 (List.mem_of_getElem? (i := 145) rfl)) rfl
theorem mw_463 : Cond.fieldLink "FallingBlocks$Search" 77 "FallingBlocks$Search" "best" "I" ∈ mz_GW := mz_in1 (mz_t2 (List.mem_of_getElem? (i := 146) rfl)) rfl
theorem mw_464 : Cond.lays "FallingBlocks$Search" "FallingBlocks$Search" "found" "I" ∈ mz_GW := mz_in1 (mz_t2 (List.mem_of_getElem? (i := 147) rfl)) rfl
theorem mw_466 : Cond.lays "FallingBlocks$Search" "FallingBlocks$Search" "known" "Z" ∈ mz_GW := mz_in1 (mz_t2 (List.mem_of_getElem? (i := 149) rfl)) rfl
theorem mw_468 : Cond.laysFinal "FallingBlocks$Search" "FallingBlocks$Search" "field" "LFallingBlocks$Field;" ∈ mz_GW := mz_in1 (mz_t2 (List.mem_of_getElem? (i := 151) rfl)) rfl
theorem mw_470 : Cond.laysFinal "FallingBlocks$Search" "FallingBlocks$Search" "after" "LFallingBlocks$Field;" ∈ mz_GW := mz_in1 (mz_t2 (List.mem_of_getElem? (i := 153) rfl)) rfl
theorem mw_472 : Cond.laysFinal "FallingBlocks$Search" "FallingBlocks$Search" "from" "LFallingBlocks$Position;" ∈ mz_GW := mz_in1 (mz_t2 (List.mem_of_getElem? (i := 155) rfl)) rfl
theorem mw_474 : Cond.laysFinal "FallingBlocks$Search" "FallingBlocks$Search" "at" "LFallingBlocks$Position;" ∈ mz_GW := mz_in1 (mz_t2 (List.mem_of_getElem? (i := 157) rfl)) rfl
theorem mw_476 : Cond.laysFinal "FallingBlocks$Search" "FallingBlocks$Search" "seen" "[I" ∈ mz_GW := mz_in1 (mz_t2 (List.mem_of_getElem? (i := 159) rfl)) rfl
theorem mw_478 : Cond.laysFinal "FallingBlocks$Search" "FallingBlocks$Search" "queue" "[I" ∈ mz_GW := mz_in1 (mz_t2 (List.mem_of_getElem? (i := 161) rfl)) rfl
theorem mw_480 : Cond.lays "FallingBlocks$Search" "FallingBlocks$Search" "reached" "I" ∈ mz_GW := mz_in1 (mz_t2 (List.mem_of_getElem? (i := 163) rfl)) rfl
theorem mw_482 : Cond.laysFinal "FallingBlocks$Search" "FallingBlocks$Search" "keys" "[J" ∈ mz_GW := mz_in1 (mz_t2 (List.mem_of_getElem? (i := 165) rfl)) rfl
theorem mw_484 : Cond.lays "FallingBlocks$Search" "FallingBlocks$Search" "best" "I" ∈ mz_GW := mz_in1 (mz_t2 (List.mem_of_getElem? (i := 167) rfl)) rfl
theorem mw_487 : Cond.arrayClass .long ∈ mz_GW := mz_in1 (mz_t2 (List.mem_of_getElem? (i := 170) rfl)) rfl
theorem mw_488 : Cond.classLink "FallingBlocks$Engine" 39 "FallingBlocks$Field" ∈ mz_GW := mz_in1 (mz_t2 (List.mem_of_getElem? (i := 171) rfl)) rfl
theorem mw_489 : Cond.methodLink "FallingBlocks$Engine" 41 ⟨"FallingBlocks$Field", "<init>", "()V"⟩ ∈ mz_GW := mz_in1 (mz_t2 (List.mem_of_getElem? (i := 172) rfl)) rfl
theorem mw_490 : Cond.fieldLink "FallingBlocks$Engine" 12 "FallingBlocks$Engine" "game" "LFallingBlocks$Game;" ∈ mz_GW := mz_in1 (mz_t2 (List.mem_of_getElem? (i := 173) rfl)) rfl
theorem mw_491 : Cond.fieldLink "FallingBlocks" 16 "FallingBlocks$Engine" "game" "LFallingBlocks$Game;" ∈ mz_GW := mz_in1 (mz_t2 (List.mem_of_getElem? (i := 174) rfl)) rfl
theorem mw_492 : Cond.fieldLink "FallingBlocks$Engine" 21 "FallingBlocks$Engine" "memory" "LFallingBlocks$Memory;" ∈ mz_GW := mz_in1 (mz_t2 (List.mem_of_getElem? (i := 175) rfl)) rfl
theorem mw_493 : Cond.fieldLink "FallingBlocks" 316 "FallingBlocks$Engine" "memory" "LFallingBlocks$Memory;" ∈ mz_GW := mz_in1 (mz_t2 (List.mem_of_getElem? (i := 176) rfl)) rfl
theorem mw_494 : Cond.fieldLink "FallingBlocks$Engine" 28 "FallingBlocks$Engine" "finesse" "LFallingBlocks$Finesse;" ∈ mz_GW := mz_in1 (mz_t2 (List.mem_of_getElem? (i := 177) rfl)) rfl
theorem mw_495 : Cond.fieldLink "FallingBlocks" 253 "FallingBlocks$Engine" "finesse" "LFallingBlocks$Finesse;" ∈ mz_GW := mz_in1 (mz_t2 (List.mem_of_getElem? (i := 178) rfl)) rfl
theorem mw_496 : Cond.fieldLink "FallingBlocks$Engine" 35 "FallingBlocks$Engine" "search" "LFallingBlocks$Search;" ∈ mz_GW := mz_in1 (mz_t2 (List.mem_of_getElem? (i := 179) rfl)) rfl
theorem mw_497 : Cond.fieldLink "FallingBlocks" 265 "FallingBlocks$Engine" "search" "LFallingBlocks$Search;" ∈ mz_GW := mz_in1 (mz_t2 (List.mem_of_getElem? (i := 180) rfl)) rfl
theorem mw_498 : Cond.fieldLink "FallingBlocks$Engine" 42 "FallingBlocks$Engine" "raised" "LFallingBlocks$Field;" ∈ mz_GW := mz_in1 (mz_t2 (List.mem_of_getElem? (i := 181) rfl)) rfl
theorem mw_499 : Cond.laysFinal "FallingBlocks$Engine" "FallingBlocks$Engine" "game" "LFallingBlocks$Game;" ∈ mz_GW := mz_in1 (mz_t2 (List.mem_of_getElem? (i := 182) rfl)) rfl
theorem mw_501 : Cond.laysFinal "FallingBlocks$Engine" "FallingBlocks$Engine" "memory" "LFallingBlocks$Memory;" ∈ mz_GW := mz_in1 (mz_t2 (List.mem_of_getElem? (i := 184) rfl)) rfl
theorem mw_503 : Cond.laysFinal "FallingBlocks$Engine" "FallingBlocks$Engine" "finesse" "LFallingBlocks$Finesse;" ∈ mz_GW := mz_in1 (mz_t2 (List.mem_of_getElem? (i := 186) rfl)) rfl
theorem mw_505 : Cond.laysFinal "FallingBlocks$Engine" "FallingBlocks$Engine" "search" "LFallingBlocks$Search;" ∈ mz_GW := mz_in1 (mz_t2 (List.mem_of_getElem? (i := 188) rfl)) rfl
theorem mw_507 : Cond.laysFinal "FallingBlocks$Engine" "FallingBlocks$Engine" "raised" "LFallingBlocks$Field;" ∈ mz_GW := mz_in1 (mz_t2 (List.mem_of_getElem? (i := 190) rfl)) rfl
theorem mw_510 : Cond.classLink "FallingBlocks" 21 "FallingBlocks$InputText" ∈ mz_GW := mz_in1 (mz_t2 (List.mem_of_getElem? (i := 193) rfl)) rfl
theorem mw_511 : Cond.instantiable "FallingBlocks$InputText" 4 ∈ mz_GW := mz_in1 (mz_t2 (List.mem_of_getElem? (i := 194) rfl)) rfl
theorem mn_512 : Cond.methodLinkNest "FallingBlocks" 23 ⟨"FallingBlocks$InputText", "<init>", "()V"⟩ "FallingBlocks" ∈ lw_tbl := mz_t2 (List.mem_of_getElem? (i := 195) rfl)
theorem mw_513 : Cond.instanceMethod ⟨"FallingBlocks$InputText", "<init>", "()V"⟩ ∈ mz_GW := mz_in1 (mz_t2 (List.mem_of_getElem? (i := 196) rfl)) rfl
theorem mw_514 : Cond.code ⟨"FallingBlocks$InputText", "<init>", "()V"⟩ prog_7_method_1_code 1 none ∈ mz_GW := mz_in1 (mz_t2 (List.mem_of_getElem? (i := 197) rfl)) rfl
theorem mw_515 : Cond.methodLink "FallingBlocks$InputText" 3 ⟨"java/lang/Object", "<init>", "()V"⟩ ∈ mz_GW := mz_in1 (mz_t2 (List.mem_of_getElem? (i := 198) rfl)) rfl
theorem mw_516 : Cond.fieldLink "FallingBlocks$InputText" 9 "FallingBlocks$InputText" "signs" "[C" ∈ mz_GW := mz_in1 (mz_t2 (List.mem_of_getElem? (i := 199) rfl)) rfl
theorem mw_517 : Cond.fieldLink "FallingBlocks" 306 "FallingBlocks$InputText" "signs" "[C" ∈ mz_GW := mz_in1 (mz_t2 (List.mem_of_getElem? (i := 200) rfl)) rfl
theorem mw_518 : Cond.fieldLink "FallingBlocks$InputText" 22 "FallingBlocks$InputText" "size" "I" ∈ mz_GW := mz_in1 (mz_t2 (List.mem_of_getElem? (i := 201) rfl)) rfl
theorem mw_519 : Cond.fieldLink "FallingBlocks" 300 "FallingBlocks$InputText" "size" "I" ∈ mz_GW := mz_in1 (mz_t2 (List.mem_of_getElem? (i := 202) rfl)) rfl
theorem mw_520 : Cond.fieldLink "FallingBlocks$InputText" 15 "FallingBlocks$InputText" "fault" "I" ∈ mz_GW := mz_in1 (mz_t2 (List.mem_of_getElem? (i := 203) rfl)) rfl
theorem mw_521 : Cond.fieldLink "FallingBlocks" 313 "FallingBlocks$InputText" "fault" "I" ∈ mz_GW := mz_in1 (mz_t2 (List.mem_of_getElem? (i := 204) rfl)) rfl
theorem mw_522 : Cond.fieldLink "FallingBlocks$InputText" 19 "FallingBlocks$InputText" "added" "I" ∈ mz_GW := mz_in1 (mz_t2 (List.mem_of_getElem? (i := 205) rfl)) rfl
theorem mw_523 : Cond.laysFinal "FallingBlocks$InputText" "FallingBlocks$InputText" "signs" "[C" ∈ mz_GW := mz_in1 (mz_t2 (List.mem_of_getElem? (i := 206) rfl)) rfl
theorem mw_525 : Cond.lays "FallingBlocks$InputText" "FallingBlocks$InputText" "size" "I" ∈ mz_GW := mz_in1 (mz_t2 (List.mem_of_getElem? (i := 208) rfl)) rfl
theorem mw_527 : Cond.lays "FallingBlocks$InputText" "FallingBlocks$InputText" "fault" "I" ∈ mz_GW := mz_in1 (mz_t2 (List.mem_of_getElem? (i := 210) rfl)) rfl
theorem mw_529 : Cond.lays "FallingBlocks$InputText" "FallingBlocks$InputText" "added" "I" ∈ mz_GW := mz_in1 (mz_t2 (List.mem_of_getElem? (i := 212) rfl)) rfl
theorem mw_532 : Cond.arrayClass .char ∈ mz_GW := mz_in1 (mz_t2 (List.mem_of_getElem? (i := 215) rfl)) rfl
theorem mw_533 : Cond.methodLink "FallingBlocks" 28 ⟨"FallingBlocks$Engine", "begin", "(I)V"⟩ ∈ mz_GW := mz_in1 (mz_t2 (List.mem_of_getElem? (i := 216) rfl)) rfl
theorem mw_534 : Cond.instanceMethod ⟨"FallingBlocks$Engine", "begin", "(I)V"⟩ ∈ mz_GW := mz_in1 (mz_t2 (List.mem_of_getElem? (i := 217) rfl)) rfl
theorem mw_535 : Cond.selects "FallingBlocks$Engine" ⟨"FallingBlocks$Engine", "begin", "(I)V"⟩ ⟨"FallingBlocks$Engine", "begin", "(I)V"⟩ ∈ mz_GW := mz_in1 (mz_t2 (List.mem_of_getElem? (i := 218) rfl)) rfl
theorem mw_536 : Cond.code ⟨"FallingBlocks$Engine", "begin", "(I)V"⟩ prog_3_method_2_code 2 none ∈ mz_GW := mz_in1 (mz_t2 (List.mem_of_getElem? (i := 219) rfl)) rfl
theorem mw_537 : Cond.methodLink "FallingBlocks$Engine" 46 ⟨"FallingBlocks$Memory", "forgetRecords", "()V"⟩ ∈ mz_GW := mz_in1 (mz_t2 (List.mem_of_getElem? (i := 220) rfl)) rfl
theorem mw_538 : Cond.instanceMethod ⟨"FallingBlocks$Memory", "forgetRecords", "()V"⟩ ∈ mz_GW := mz_in1 (mz_t2 (List.mem_of_getElem? (i := 221) rfl)) rfl
theorem mw_539 : Cond.selects "FallingBlocks$Memory" ⟨"FallingBlocks$Memory", "forgetRecords", "()V"⟩ ⟨"FallingBlocks$Memory", "forgetRecords", "()V"⟩ ∈ mz_GW := mz_in1 (mz_t2 (List.mem_of_getElem? (i := 222) rfl)) rfl
theorem mw_540 : Cond.code ⟨"FallingBlocks$Memory", "forgetRecords", "()V"⟩ prog_8_method_2_code 1 none ∈ mz_GW := mz_in1 (mz_t2 (List.mem_of_getElem? (i := 223) rfl)) rfl
theorem mw_541 : Cond.methodLink "FallingBlocks$Engine" 52 ⟨"FallingBlocks$Field", "makeEmpty", "()V"⟩ ∈ mz_GW := mz_in1 (mz_t2 (List.mem_of_getElem? (i := 224) rfl)) rfl
theorem mw_542 : Cond.methodLink "FallingBlocks$Engine" 59 ⟨"FallingBlocks$Bags", "begin", "(I)V"⟩ ∈ mz_GW := mz_in1 (mz_t2 (List.mem_of_getElem? (i := 225) rfl)) rfl
theorem mw_543 : Cond.instanceMethod ⟨"FallingBlocks$Bags", "begin", "(I)V"⟩ ∈ mz_GW := mz_in1 (mz_t2 (List.mem_of_getElem? (i := 226) rfl)) rfl
theorem mw_544 : Cond.selects "FallingBlocks$Bags" ⟨"FallingBlocks$Bags", "begin", "(I)V"⟩ ⟨"FallingBlocks$Bags", "begin", "(I)V"⟩ ∈ mz_GW := mz_in1 (mz_t2 (List.mem_of_getElem? (i := 227) rfl)) rfl
theorem mw_545 : Cond.code ⟨"FallingBlocks$Bags", "begin", "(I)V"⟩ prog_2_method_2_code 3 none ∈ mz_GW := mz_in1 (mz_t2 (List.mem_of_getElem? (i := 228) rfl)) rfl
theorem mw_546 : Cond.methodLink "FallingBlocks$Bags" 23 ⟨"FallingBlocks$Bags", "draw", "()I"⟩ ∈ mz_GW := mz_in1 (mz_t2 (List.mem_of_getElem? (i := 229) rfl)) rfl
theorem mw_548 : Cond.instanceMethod ⟨"FallingBlocks$Bags", "draw", "()I"⟩ ∈ mz_GW := mz_in1 (mz_t2 (List.mem_of_getElem? (i := 231) rfl)) rfl
theorem mw_549 : Cond.code ⟨"FallingBlocks$Bags", "draw", "()I"⟩ prog_2_method_5_code 4 (some .int) ∈ mz_GW := mz_in1 (mz_t2 (List.mem_of_getElem? (i := 232) rfl)) rfl
theorem mw_550 : Cond.constantLong "FallingBlocks$Bags" 33 (1103515245 : Int64) ∈ mz_GW := mz_in1 (mz_t2 (List.mem_of_getElem? (i := 233) rfl)) rfl
theorem mw_551 : Cond.constantLong "FallingBlocks$Bags" 35 (12345 : Int64) ∈ mz_GW := mz_in1 (mz_t2 (List.mem_of_getElem? (i := 234) rfl)) rfl
theorem mw_552 : Cond.constantLong "FallingBlocks$Bags" 37 (2147483647 : Int64) ∈ mz_GW := mz_in1 (mz_t2 (List.mem_of_getElem? (i := 235) rfl)) rfl
theorem mw_553 : Cond.constantLong "FallingBlocks$Bags" 39 (65536 : Int64) ∈ mz_GW := mz_in1 (mz_t2 (List.mem_of_getElem? (i := 236) rfl)) rfl
theorem mw_554 : Cond.methodLink "FallingBlocks$Bags" 41 ⟨"java/lang/Integer", "bitCount", "(I)I"⟩ ∈ mz_GW := mz_in1 (mz_t2 (List.mem_of_getElem? (i := 237) rfl)) rfl
theorem mw_555 : Cond.static ⟨"java/lang/Integer", "bitCount", "(I)I"⟩ ∈ mz_GW := mz_in1 (mz_t2 (List.mem_of_getElem? (i := 238) rfl)) rfl
theorem mw_556 : Cond.code ⟨"java/lang/Integer", "bitCount", "(I)I"⟩ prog_22_method_49_code 1 (some .int) ∈ mz_GW := mz_in1 (mz_t2 (List.mem_of_getElem? (i := 239) rfl)) rfl
theorem mw_557 : Cond.constant "java/lang/Integer" 265 (1431655765 : Int32) ∈ mz_GW := mz_in1 (mz_t3 (List.mem_of_getElem? (i := 0) rfl)) rfl
theorem mw_558 : Cond.constant "java/lang/Integer" 266 (858993459 : Int32) ∈ mz_GW := mz_in1 (mz_t3 (List.mem_of_getElem? (i := 1) rfl)) rfl
theorem mw_559 : Cond.constant "java/lang/Integer" 267 (252645135 : Int32) ∈ mz_GW := mz_in1 (mz_t3 (List.mem_of_getElem? (i := 2) rfl)) rfl
theorem mw_560 : Cond.methodLink "FallingBlocks$Bags" 47 ⟨"java/lang/Math", "floorMod", "(II)I"⟩ ∈ mz_GW := mz_in1 (mz_t3 (List.mem_of_getElem? (i := 3) rfl)) rfl
theorem mw_561 : Cond.static ⟨"java/lang/Math", "floorMod", "(II)I"⟩ ∈ mz_GW := mz_in1 (mz_t3 (List.mem_of_getElem? (i := 4) rfl)) rfl
theorem mw_562 : Cond.code ⟨"java/lang/Math", "floorMod", "(II)I"⟩ prog_23_method_50_code 3 (some .int) ∈ mz_GW := mz_in1 (mz_t3 (List.mem_of_getElem? (i := 5) rfl)) rfl
theorem mw_563 : Cond.methodLink "FallingBlocks$Engine" 69 ⟨"FallingBlocks$Score", "begin", "()V"⟩ ∈ mz_GW := mz_in1 (mz_t3 (List.mem_of_getElem? (i := 6) rfl)) rfl
theorem mw_564 : Cond.instanceMethod ⟨"FallingBlocks$Score", "begin", "()V"⟩ ∈ mz_GW := mz_in1 (mz_t3 (List.mem_of_getElem? (i := 7) rfl)) rfl
theorem mw_565 : Cond.selects "FallingBlocks$Score" ⟨"FallingBlocks$Score", "begin", "()V"⟩ ⟨"FallingBlocks$Score", "begin", "()V"⟩ ∈ mz_GW := mz_in1 (mz_t3 (List.mem_of_getElem? (i := 8) rfl)) rfl
theorem mw_566 : Cond.code ⟨"FallingBlocks$Score", "begin", "()V"⟩ prog_11_method_3_code 1 none ∈ mz_GW := mz_in1 (mz_t3 (List.mem_of_getElem? (i := 9) rfl)) rfl
theorem mw_567 : Cond.methodLink "FallingBlocks$Score" 54 ⟨"java/util/Arrays", "fill", "([II)V"⟩ ∈ mz_GW := mz_in1 (mz_t3 (List.mem_of_getElem? (i := 10) rfl)) rfl
theorem mw_568 : Cond.methodLink "FallingBlocks$Engine" 84 ⟨"FallingBlocks$Bags", "take", "()I"⟩ ∈ mz_GW := mz_in1 (mz_t3 (List.mem_of_getElem? (i := 11) rfl)) rfl
theorem mw_569 : Cond.instanceMethod ⟨"FallingBlocks$Bags", "take", "()I"⟩ ∈ mz_GW := mz_in1 (mz_t3 (List.mem_of_getElem? (i := 12) rfl)) rfl
theorem mw_570 : Cond.selects "FallingBlocks$Bags" ⟨"FallingBlocks$Bags", "take", "()I"⟩ ⟨"FallingBlocks$Bags", "take", "()I"⟩ ∈ mz_GW := mz_in1 (mz_t3 (List.mem_of_getElem? (i := 13) rfl)) rfl
theorem mw_571 : Cond.code ⟨"FallingBlocks$Bags", "take", "()I"⟩ prog_2_method_4_code 3 (some .int) ∈ mz_GW := mz_in1 (mz_t3 (List.mem_of_getElem? (i := 14) rfl)) rfl
theorem mw_572 : Cond.methodLink "FallingBlocks$Engine" 88 ⟨"FallingBlocks$Engine", "appear", "(I)V"⟩ ∈ mz_GW := mz_in1 (mz_t3 (List.mem_of_getElem? (i := 15) rfl)) rfl
theorem mw_574 : Cond.instanceMethod ⟨"FallingBlocks$Engine", "appear", "(I)V"⟩ ∈ mz_GW := mz_in1 (mz_t3 (List.mem_of_getElem? (i := 17) rfl)) rfl
theorem mw_575 : Cond.code ⟨"FallingBlocks$Engine", "appear", "(I)V"⟩ prog_3_method_3_code 2 none ∈ mz_GW := mz_in1 (mz_t3 (List.mem_of_getElem? (i := 18) rfl)) rfl
theorem mw_576 : Cond.methodLink "FallingBlocks$Engine" 95 ⟨"FallingBlocks$Piece", "appear", "(I)V"⟩ ∈ mz_GW := mz_in1 (mz_t3 (List.mem_of_getElem? (i := 19) rfl)) rfl
theorem mw_577 : Cond.instanceMethod ⟨"FallingBlocks$Piece", "appear", "(I)V"⟩ ∈ mz_GW := mz_in1 (mz_t3 (List.mem_of_getElem? (i := 20) rfl)) rfl
theorem mw_578 : Cond.selects "FallingBlocks$Piece" ⟨"FallingBlocks$Piece", "appear", "(I)V"⟩ ⟨"FallingBlocks$Piece", "appear", "(I)V"⟩ ∈ mz_GW := mz_in1 (mz_t3 (List.mem_of_getElem? (i := 21) rfl)) rfl
theorem mw_579 : Cond.code ⟨"FallingBlocks$Piece", "appear", "(I)V"⟩ prog_9_method_2_code 2 none ∈ mz_GW := mz_in1 (mz_t3 (List.mem_of_getElem? (i := 22) rfl)) rfl
theorem mw_580 : Cond.methodLink "FallingBlocks$Piece" 18 ⟨"FallingBlocks$Position", "appear", "(I)V"⟩ ∈ mz_GW := mz_in1 (mz_t3 (List.mem_of_getElem? (i := 23) rfl)) rfl
theorem mw_581 : Cond.methodLink "FallingBlocks$Engine" 102 ⟨"FallingBlocks$Position", "fits", "(LFallingBlocks$Field;)Z"⟩ ∈ mz_GW := mz_in1 (mz_t3 (List.mem_of_getElem? (i := 24) rfl)) rfl
theorem mw_582 : Cond.methodLink "FallingBlocks$Engine" 108 ⟨"FallingBlocks$Memory", "nextRecord", "()LFallingBlocks$Game;"⟩ ∈ mz_GW := mz_in1 (mz_t3 (List.mem_of_getElem? (i := 25) rfl)) rfl
theorem mw_583 : Cond.instanceMethod ⟨"FallingBlocks$Memory", "nextRecord", "()LFallingBlocks$Game;"⟩ ∈ mz_GW := mz_in1 (mz_t3 (List.mem_of_getElem? (i := 26) rfl)) rfl
theorem mw_584 : Cond.selects "FallingBlocks$Memory" ⟨"FallingBlocks$Memory", "nextRecord", "()LFallingBlocks$Game;"⟩ ⟨"FallingBlocks$Memory", "nextRecord", "()LFallingBlocks$Game;"⟩ ∈ mz_GW := mz_in1 (mz_t3 (List.mem_of_getElem? (i := 27) rfl)) rfl
theorem mw_585 : Cond.code ⟨"FallingBlocks$Memory", "nextRecord", "()LFallingBlocks$Game;"⟩ prog_8_method_3_code 1 (some (.object "FallingBlocks$Game")) ∈ mz_GW := mz_in1 (mz_t3 (List.mem_of_getElem? (i := 28) rfl)) rfl
theorem mw_586 : Cond.methodLink "FallingBlocks$Memory" 27 ⟨"java/lang/Math", "floorMod", "(II)I"⟩ ∈ mz_GW := mz_in1 (mz_t3 (List.mem_of_getElem? (i := 29) rfl)) rfl
theorem mw_587 : Cond.methodLink "FallingBlocks$Memory" 33 ⟨"java/lang/Math", "min", "(II)I"⟩ ∈ mz_GW := mz_in1 (mz_t3 (List.mem_of_getElem? (i := 30) rfl)) rfl
theorem mw_588 : Cond.static ⟨"java/lang/Math", "min", "(II)I"⟩ ∈ mz_GW := mz_in1 (mz_t3 (List.mem_of_getElem? (i := 31) rfl)) rfl
theorem mw_589 : Cond.code ⟨"java/lang/Math", "min", "(II)I"⟩ prog_23_method_69_code 2 (some .int) ∈ mz_GW := mz_in1 (mz_t3 (List.mem_of_getElem? (i := 32) rfl)) rfl
theorem mw_590 : Cond.methodLink "FallingBlocks$Engine" 112 ⟨"FallingBlocks$Game", "copyFrom", "(LFallingBlocks$Game;)V"⟩ ∈ mz_GW := mz_in1 (mz_t3 (List.mem_of_getElem? (i := 33) rfl)) rfl
theorem mw_591 : Cond.instanceMethod ⟨"FallingBlocks$Game", "copyFrom", "(LFallingBlocks$Game;)V"⟩ ∈ mz_GW := mz_in1 (mz_t3 (List.mem_of_getElem? (i := 34) rfl)) rfl
theorem mw_592 : Cond.selects "FallingBlocks$Game" ⟨"FallingBlocks$Game", "copyFrom", "(LFallingBlocks$Game;)V"⟩ ⟨"FallingBlocks$Game", "copyFrom", "(LFallingBlocks$Game;)V"⟩ ∈ mz_GW := mz_in1 (mz_t3 (List.mem_of_getElem? (i := 35) rfl)) rfl
theorem mw_593 : Cond.code ⟨"FallingBlocks$Game", "copyFrom", "(LFallingBlocks$Game;)V"⟩ prog_6_method_2_code 2 none ∈ mz_GW := mz_in1 (mz_t3 (List.mem_of_getElem? (i := 36) rfl)) rfl
theorem mw_594 : Cond.methodLink "FallingBlocks$Game" 49 ⟨"FallingBlocks$Field", "copyFrom", "(LFallingBlocks$Field;)V"⟩ ∈ mz_GW := mz_in1 (mz_t3 (List.mem_of_getElem? (i := 37) rfl)) rfl
theorem mw_595 : Cond.instanceMethod ⟨"FallingBlocks$Field", "copyFrom", "(LFallingBlocks$Field;)V"⟩ ∈ mz_GW := mz_in1 (mz_t3 (List.mem_of_getElem? (i := 38) rfl)) rfl
theorem mw_596 : Cond.selects "FallingBlocks$Field" ⟨"FallingBlocks$Field", "copyFrom", "(LFallingBlocks$Field;)V"⟩ ⟨"FallingBlocks$Field", "copyFrom", "(LFallingBlocks$Field;)V"⟩ ∈ mz_GW := mz_in1 (mz_t3 (List.mem_of_getElem? (i := 39) rfl)) rfl
theorem mw_597 : Cond.code ⟨"FallingBlocks$Field", "copyFrom", "(LFallingBlocks$Field;)V"⟩ prog_4_method_3_code 2 none ∈ mz_GW := mz_in1 (mz_t3 (List.mem_of_getElem? (i := 40) rfl)) rfl
theorem mw_598 : Cond.methodLink "FallingBlocks$Field" 24 ⟨"java/lang/System", "arraycopy", "(Ljava/lang/Object;ILjava/lang/Object;II)V"⟩ ∈ mz_GW := mz_in1 (mz_t3 (List.mem_of_getElem? (i := 41) rfl)) rfl
theorem mw_599 : Cond.static ⟨"java/lang/System", "arraycopy", "(Ljava/lang/Object;ILjava/lang/Object;II)V"⟩ ∈ mz_GW := mz_in1 (mz_t3 (List.mem_of_getElem? (i := 42) rfl)) rfl
theorem mw_600 : Cond.native ⟨"java/lang/System", "arraycopy", "(Ljava/lang/Object;ILjava/lang/Object;II)V"⟩ ∈ mz_GW := mz_in1 (mz_t3 (List.mem_of_getElem? (i := 43) rfl)) rfl
theorem mw_601 : Cond.methodLink "FallingBlocks$Game" 53 ⟨"FallingBlocks$Piece", "copyFrom", "(LFallingBlocks$Piece;)V"⟩ ∈ mz_GW := mz_in1 (mz_t3 (List.mem_of_getElem? (i := 44) rfl)) rfl
theorem mw_602 : Cond.instanceMethod ⟨"FallingBlocks$Piece", "copyFrom", "(LFallingBlocks$Piece;)V"⟩ ∈ mz_GW := mz_in1 (mz_t3 (List.mem_of_getElem? (i := 45) rfl)) rfl
theorem mw_603 : Cond.selects "FallingBlocks$Piece" ⟨"FallingBlocks$Piece", "copyFrom", "(LFallingBlocks$Piece;)V"⟩ ⟨"FallingBlocks$Piece", "copyFrom", "(LFallingBlocks$Piece;)V"⟩ ∈ mz_GW := mz_in1 (mz_t3 (List.mem_of_getElem? (i := 46) rfl)) rfl
theorem mw_604 : Cond.code ⟨"FallingBlocks$Piece", "copyFrom", "(LFallingBlocks$Piece;)V"⟩ prog_9_method_3_code 2 none ∈ mz_GW := mz_in1 (mz_t3 (List.mem_of_getElem? (i := 47) rfl)) rfl
theorem mw_605 : Cond.methodLink "FallingBlocks$Piece" 44 ⟨"FallingBlocks$Position", "copyFrom", "(LFallingBlocks$Position;)V"⟩ ∈ mz_GW := mz_in1 (mz_t3 (List.mem_of_getElem? (i := 48) rfl)) rfl
theorem mw_606 : Cond.instanceMethod ⟨"FallingBlocks$Position", "copyFrom", "(LFallingBlocks$Position;)V"⟩ ∈ mz_GW := mz_in1 (mz_t3 (List.mem_of_getElem? (i := 49) rfl)) rfl
theorem mw_607 : Cond.selects "FallingBlocks$Position" ⟨"FallingBlocks$Position", "copyFrom", "(LFallingBlocks$Position;)V"⟩ ⟨"FallingBlocks$Position", "copyFrom", "(LFallingBlocks$Position;)V"⟩ ∈ mz_GW := mz_in1 (mz_t3 (List.mem_of_getElem? (i := 50) rfl)) rfl
theorem mw_608 : Cond.code ⟨"FallingBlocks$Position", "copyFrom", "(LFallingBlocks$Position;)V"⟩ prog_10_method_3_code 2 none ∈ mz_GW := mz_in1 (mz_t3 (List.mem_of_getElem? (i := 51) rfl)) rfl
theorem mw_609 : Cond.methodLink "FallingBlocks$Game" 56 ⟨"FallingBlocks$Bags", "copyFrom", "(LFallingBlocks$Bags;)V"⟩ ∈ mz_GW := mz_in1 (mz_t3 (List.mem_of_getElem? (i := 52) rfl)) rfl
theorem mw_610 : Cond.instanceMethod ⟨"FallingBlocks$Bags", "copyFrom", "(LFallingBlocks$Bags;)V"⟩ ∈ mz_GW := mz_in1 (mz_t3 (List.mem_of_getElem? (i := 53) rfl)) rfl
theorem mw_611 : Cond.selects "FallingBlocks$Bags" ⟨"FallingBlocks$Bags", "copyFrom", "(LFallingBlocks$Bags;)V"⟩ ⟨"FallingBlocks$Bags", "copyFrom", "(LFallingBlocks$Bags;)V"⟩ ∈ mz_GW := mz_in1 (mz_t3 (List.mem_of_getElem? (i := 54) rfl)) rfl
theorem mw_612 : Cond.code ⟨"FallingBlocks$Bags", "copyFrom", "(LFallingBlocks$Bags;)V"⟩ prog_2_method_3_code 2 none ∈ mz_GW := mz_in1 (mz_t3 (List.mem_of_getElem? (i := 55) rfl)) rfl
theorem mw_613 : Cond.methodLink "FallingBlocks$Bags" 27 ⟨"java/lang/System", "arraycopy", "(Ljava/lang/Object;ILjava/lang/Object;II)V"⟩ ∈ mz_GW := mz_in1 (mz_t3 (List.mem_of_getElem? (i := 56) rfl)) rfl
theorem mw_614 : Cond.methodLink "FallingBlocks$Game" 59 ⟨"FallingBlocks$Score", "copyFrom", "(LFallingBlocks$Score;)V"⟩ ∈ mz_GW := mz_in1 (mz_t3 (List.mem_of_getElem? (i := 57) rfl)) rfl
theorem mw_615 : Cond.instanceMethod ⟨"FallingBlocks$Score", "copyFrom", "(LFallingBlocks$Score;)V"⟩ ∈ mz_GW := mz_in1 (mz_t3 (List.mem_of_getElem? (i := 58) rfl)) rfl
theorem mw_616 : Cond.selects "FallingBlocks$Score" ⟨"FallingBlocks$Score", "copyFrom", "(LFallingBlocks$Score;)V"⟩ ⟨"FallingBlocks$Score", "copyFrom", "(LFallingBlocks$Score;)V"⟩ ∈ mz_GW := mz_in1 (mz_t3 (List.mem_of_getElem? (i := 59) rfl)) rfl
theorem mw_617 : Cond.code ⟨"FallingBlocks$Score", "copyFrom", "(LFallingBlocks$Score;)V"⟩ prog_11_method_4_code 2 none ∈ mz_GW := mz_in1 (mz_t3 (List.mem_of_getElem? (i := 60) rfl)) rfl
theorem mw_618 : Cond.methodLink "FallingBlocks$Score" 60 ⟨"java/lang/System", "arraycopy", "(Ljava/lang/Object;ILjava/lang/Object;II)V"⟩ ∈ mz_GW := mz_in1 (mz_t3 (List.mem_of_getElem? (i := 61) rfl)) rfl
theorem mw_619 : Cond.fieldLink "FallingBlocks" 10 "FallingBlocks" "engine" "LFallingBlocks$Engine;" ∈ mz_GW := mz_in1 (mz_t3 (List.mem_of_getElem? (i := 62) rfl)) rfl
theorem mw_620 : Cond.fieldLink "FallingBlocks" 20 "FallingBlocks" "game" "LFallingBlocks$Game;" ∈ mz_GW := mz_in1 (mz_t3 (List.mem_of_getElem? (i := 63) rfl)) rfl
theorem mw_621 : Cond.fieldLink "FallingBlocks" 24 "FallingBlocks" "text" "LFallingBlocks$InputText;" ∈ mz_GW := mz_in1 (mz_t3 (List.mem_of_getElem? (i := 64) rfl)) rfl
theorem mw_622 : Cond.laysFinal "FallingBlocks" "FallingBlocks" "engine" "LFallingBlocks$Engine;" ∈ mz_GW := mz_in1 (mz_t3 (List.mem_of_getElem? (i := 65) rfl)) rfl
theorem mw_624 : Cond.laysFinal "FallingBlocks" "FallingBlocks" "game" "LFallingBlocks$Game;" ∈ mz_GW := mz_in1 (mz_t3 (List.mem_of_getElem? (i := 67) rfl)) rfl
theorem mw_626 : Cond.laysFinal "FallingBlocks" "FallingBlocks" "text" "LFallingBlocks$InputText;" ∈ mz_GW := mz_in1 (mz_t3 (List.mem_of_getElem? (i := 69) rfl)) rfl
theorem mw_629 : Cond.methodLink "FallingBlocksLaw" 134 ⟨"FallingBlocks", "isOver", "()Z"⟩ ∈ mz_GW := mz_in1 (mz_t3 (List.mem_of_getElem? (i := 72) rfl)) rfl
theorem mw_630 : Cond.instanceMethod ⟨"FallingBlocks", "isOver", "()Z"⟩ ∈ mz_GW := mz_in1 (mz_t3 (List.mem_of_getElem? (i := 73) rfl)) rfl
theorem mw_631 : Cond.selects "FallingBlocks" ⟨"FallingBlocks", "isOver", "()Z"⟩ ⟨"FallingBlocks", "isOver", "()Z"⟩ ∈ mz_GW := mz_in1 (mz_t3 (List.mem_of_getElem? (i := 74) rfl)) rfl
theorem mw_632 : Cond.code ⟨"FallingBlocks", "isOver", "()Z"⟩ prog_1_method_4_code 1 (some .boolean) ∈ mz_GW := mz_in1 (mz_t3 (List.mem_of_getElem? (i := 75) rfl)) rfl
theorem mw_633 : Cond.methodLink "FallingBlocksLaw" 217 ⟨"FallingBlocks", "faultPosition", "()I"⟩ ∈ mz_GW := mz_in1 (mz_t3 (List.mem_of_getElem? (i := 76) rfl)) rfl
theorem mw_634 : Cond.instanceMethod ⟨"FallingBlocks", "faultPosition", "()I"⟩ ∈ mz_GW := mz_in1 (mz_t3 (List.mem_of_getElem? (i := 77) rfl)) rfl
theorem mw_635 : Cond.selects "FallingBlocks" ⟨"FallingBlocks", "faultPosition", "()I"⟩ ⟨"FallingBlocks", "faultPosition", "()I"⟩ ∈ mz_GW := mz_in1 (mz_t3 (List.mem_of_getElem? (i := 78) rfl)) rfl
theorem mw_636 : Cond.code ⟨"FallingBlocks", "faultPosition", "()I"⟩ prog_1_method_30_code 1 (some .int) ∈ mz_GW := mz_in1 (mz_t3 (List.mem_of_getElem? (i := 79) rfl)) rfl
theorem mw_637 : Cond.methodLink "FallingBlocksLaw" 224 ⟨"FallingBlocks", "save", "()V"⟩ ∈ mz_GW := mz_in1 (mz_t3 (List.mem_of_getElem? (i := 80) rfl)) rfl
theorem mw_638 : Cond.instanceMethod ⟨"FallingBlocks", "save", "()V"⟩ ∈ mz_GW := mz_in1 (mz_t3 (List.mem_of_getElem? (i := 81) rfl)) rfl
theorem mw_639 : Cond.selects "FallingBlocks" ⟨"FallingBlocks", "save", "()V"⟩ ⟨"FallingBlocks", "save", "()V"⟩ ∈ mz_GW := mz_in1 (mz_t3 (List.mem_of_getElem? (i := 82) rfl)) rfl
theorem mw_640 : Cond.code ⟨"FallingBlocks", "save", "()V"⟩ prog_1_method_32_code 1 none ∈ mz_GW := mz_in1 (mz_t3 (List.mem_of_getElem? (i := 83) rfl)) rfl
theorem mw_641 : Cond.methodLink "FallingBlocks" 328 ⟨"FallingBlocks$Memory", "keepSnapshot", "(LFallingBlocks$Game;)V"⟩ ∈ mz_GW := mz_in1 (mz_t3 (List.mem_of_getElem? (i := 84) rfl)) rfl
theorem mw_642 : Cond.instanceMethod ⟨"FallingBlocks$Memory", "keepSnapshot", "(LFallingBlocks$Game;)V"⟩ ∈ mz_GW := mz_in1 (mz_t3 (List.mem_of_getElem? (i := 85) rfl)) rfl
theorem mw_643 : Cond.selects "FallingBlocks$Memory" ⟨"FallingBlocks$Memory", "keepSnapshot", "(LFallingBlocks$Game;)V"⟩ ⟨"FallingBlocks$Memory", "keepSnapshot", "(LFallingBlocks$Game;)V"⟩ ∈ mz_GW := mz_in1 (mz_t3 (List.mem_of_getElem? (i := 86) rfl)) rfl
theorem mw_644 : Cond.code ⟨"FallingBlocks$Memory", "keepSnapshot", "(LFallingBlocks$Game;)V"⟩ prog_8_method_5_code 2 none ∈ mz_GW := mz_in1 (mz_t3 (List.mem_of_getElem? (i := 87) rfl)) rfl
theorem mw_645 : Cond.methodLink "FallingBlocks$Memory" 40 ⟨"FallingBlocks$Game", "copyFrom", "(LFallingBlocks$Game;)V"⟩ ∈ mz_GW := mz_in1 (mz_t3 (List.mem_of_getElem? (i := 88) rfl)) rfl
theorem mw_646 : Cond.methodLink "FallingBlocks$Memory" 44 ⟨"FallingBlocks$Game", "copySettingsFrom", "(LFallingBlocks$Game;)V"⟩ ∈ mz_GW := mz_in1 (mz_t3 (List.mem_of_getElem? (i := 89) rfl)) rfl
theorem mw_647 : Cond.instanceMethod ⟨"FallingBlocks$Game", "copySettingsFrom", "(LFallingBlocks$Game;)V"⟩ ∈ mz_GW := mz_in1 (mz_t3 (List.mem_of_getElem? (i := 90) rfl)) rfl
theorem mw_648 : Cond.selects "FallingBlocks$Game" ⟨"FallingBlocks$Game", "copySettingsFrom", "(LFallingBlocks$Game;)V"⟩ ⟨"FallingBlocks$Game", "copySettingsFrom", "(LFallingBlocks$Game;)V"⟩ ∈ mz_GW := mz_in1 (mz_t3 (List.mem_of_getElem? (i := 91) rfl)) rfl
theorem mw_649 : Cond.code ⟨"FallingBlocks$Game", "copySettingsFrom", "(LFallingBlocks$Game;)V"⟩ prog_6_method_3_code 2 none ∈ mz_GW := mz_in1 (mz_t3 (List.mem_of_getElem? (i := 92) rfl)) rfl
theorem mw_650 : Cond.methodLink "FallingBlocksLaw" 121 ⟨"FallingBlocksLaw", "start", "(LFallingBlocks;I[J)I"⟩ ∈ mz_GW := mz_in1 (mz_t3 (List.mem_of_getElem? (i := 93) rfl)) rfl
theorem mw_651 : Cond.static ⟨"FallingBlocksLaw", "start", "(LFallingBlocks;I[J)I"⟩ ∈ mz_GW := mz_in1 (mz_t3 (List.mem_of_getElem? (i := 94) rfl)) rfl
theorem mw_652 : Cond.codeWith ⟨"FallingBlocksLaw", "start", "(LFallingBlocks;I[J)I"⟩ method_3_code 4 (some .int) [(0, 9, 12, 13)] ∈ mz_GW := mz_in1 (mz_t3 (List.mem_of_getElem? (i := 95) rfl)) rfl
theorem mw_653 : Cond.classLink "FallingBlocksLaw" 13 "java/lang/IllegalArgumentException" ∈ mz_GW := mz_in1 (mz_t3 (List.mem_of_getElem? (i := 96) rfl)) rfl
theorem mw_654 : Cond.methodLink "FallingBlocksLaw" 7 ⟨"FallingBlocks", "start", "(I)I"⟩ ∈ mz_GW := mz_in1 (mz_t3 (List.mem_of_getElem? (i := 97) rfl)) rfl
theorem mw_655 : Cond.instanceMethod ⟨"FallingBlocks", "start", "(I)I"⟩ ∈ mz_GW := mz_in1 (mz_t3 (List.mem_of_getElem? (i := 98) rfl)) rfl
theorem mw_656 : Cond.selects "FallingBlocks" ⟨"FallingBlocks", "start", "(I)I"⟩ ⟨"FallingBlocks", "start", "(I)I"⟩ ∈ mz_GW := mz_in1 (mz_t3 (List.mem_of_getElem? (i := 99) rfl)) rfl
theorem mw_657 : Cond.code ⟨"FallingBlocks", "start", "(I)I"⟩ prog_1_method_2_code 2 (some .int) ∈ mz_GW := mz_in1 (mz_t3 (List.mem_of_getElem? (i := 100) rfl)) rfl
theorem mw_658 : Cond.classLink "FallingBlocks" 32 "java/lang/IllegalArgumentException" ∈ mz_GW := mz_in1 (mz_t3 (List.mem_of_getElem? (i := 101) rfl)) rfl
theorem mw_659 : Cond.instantiable "java/lang/IllegalArgumentException" 6 ∈ mz_GW := mz_in1 (mz_t3 (List.mem_of_getElem? (i := 102) rfl)) rfl
theorem mn_660 : Cond.castable "java/lang/IllegalArgumentException" "java/lang/IllegalArgumentException" ∈ lw_tbl := mz_t3 (List.mem_of_getElem? (i := 103) rfl)
theorem mn_662 : Cond.declares ⟨"java/lang/RuntimeException", "<init>", "(Ljava/lang/String;)V"⟩ ∈ lw_tbl := mz_t3 (List.mem_of_getElem? (i := 105) rfl)
theorem mn_664 : Cond.declares ⟨"java/lang/Exception", "<init>", "(Ljava/lang/String;)V"⟩ ∈ lw_tbl := mz_t3 (List.mem_of_getElem? (i := 107) rfl)
theorem mn_666 : Cond.declares ⟨"java/lang/Throwable", "<init>", "(Ljava/lang/String;)V"⟩ ∈ lw_tbl := mz_t3 (List.mem_of_getElem? (i := 109) rfl)
theorem mw_667 : Cond.selects "java/lang/IllegalArgumentException" ⟨"java/lang/Throwable", "fillInStackTrace", "(I)Ljava/lang/Throwable;"⟩ ⟨"java/lang/Throwable", "fillInStackTrace", "(I)Ljava/lang/Throwable;"⟩ ∈ mz_GW := mz_in1 (mz_t3 (List.mem_of_getElem? (i := 110) rfl)) rfl
theorem mw_668 : Cond.selects "java/lang/IllegalArgumentException" ⟨"java/lang/Throwable", "fillInStackTrace", "()Ljava/lang/Throwable;"⟩ ⟨"java/lang/Throwable", "fillInStackTrace", "()Ljava/lang/Throwable;"⟩ ∈ mz_GW := mz_in1 (mz_t3 (List.mem_of_getElem? (i := 111) rfl)) rfl
theorem mw_669 : Cond.lays "java/lang/IllegalArgumentException" "java/lang/Throwable" "cause" "Ljava/lang/Throwable;" ∈ mz_GW := mz_in1 (mz_t3 (List.mem_of_getElem? (i := 112) rfl)) rfl
theorem mw_670 : Cond.lays "java/lang/Throwable" "java/lang/Throwable" "cause" "Ljava/lang/Throwable;" ∈ mz_GW := mz_in1 (mz_t3 (List.mem_of_getElem? (i := 113) rfl)) rfl
theorem mw_671 : Cond.lays "java/lang/IllegalArgumentException" "java/lang/Throwable" "stackTrace" "[Ljava/lang/StackTraceElement;" ∈ mz_GW := mz_in1 (mz_t3 (List.mem_of_getElem? (i := 114) rfl)) rfl
theorem mw_672 : Cond.lays "java/lang/Throwable" "java/lang/Throwable" "stackTrace" "[Ljava/lang/StackTraceElement;" ∈ mz_GW := mz_in1 (mz_t3 (List.mem_of_getElem? (i := 115) rfl)) rfl
theorem mw_673 : Cond.lays "java/lang/IllegalArgumentException" "java/lang/Throwable" "suppressedExceptions" "Ljava/util/List;" ∈ mz_GW := mz_in1 (mz_t3 (List.mem_of_getElem? (i := 116) rfl)) rfl
theorem mw_674 : Cond.lays "java/lang/Throwable" "java/lang/Throwable" "suppressedExceptions" "Ljava/util/List;" ∈ mz_GW := mz_in1 (mz_t3 (List.mem_of_getElem? (i := 117) rfl)) rfl
theorem mw_675 : Cond.lays "java/lang/IllegalArgumentException" "java/lang/Throwable" "detailMessage" "Ljava/lang/String;" ∈ mz_GW := mz_in1 (mz_t3 (List.mem_of_getElem? (i := 118) rfl)) rfl
theorem mw_676 : Cond.lays "java/lang/Throwable" "java/lang/Throwable" "detailMessage" "Ljava/lang/String;" ∈ mz_GW := mz_in1 (mz_t3 (List.mem_of_getElem? (i := 119) rfl)) rfl
theorem mw_677 : Cond.lays "java/lang/IllegalArgumentException" "java/lang/Throwable" "backtrace" "Ljava/lang/Object;" ∈ mz_GW := mz_in1 (mz_t3 (List.mem_of_getElem? (i := 120) rfl)) rfl
theorem mw_678 : Cond.lays "java/lang/Throwable" "java/lang/Throwable" "backtrace" "Ljava/lang/Object;" ∈ mz_GW := mz_in1 (mz_t3 (List.mem_of_getElem? (i := 121) rfl)) rfl
theorem mw_679 : Cond.fieldLink "java/lang/Throwable" 198 "java/lang/Throwable" "backtrace" "Ljava/lang/Object;" ∈ mz_GW := mz_in1 (mz_t3 (List.mem_of_getElem? (i := 122) rfl)) rfl
theorem mw_680 : Cond.superclass "java/lang/Throwable" "java/lang/Object" ∈ mz_GW := mz_in1 (mz_t3 (List.mem_of_getElem? (i := 123) rfl)) rfl
theorem mw_681 : Cond.instanceMethod ⟨"java/lang/Throwable", "<init>", "()V"⟩ ∈ mz_GW := mz_in1 (mz_t3 (List.mem_of_getElem? (i := 124) rfl)) rfl
theorem mw_682 : Cond.code ⟨"java/lang/Throwable", "<init>", "()V"⟩ prog_27_method_1_code 1 none ∈ mz_GW := mz_in1 (mz_t3 (List.mem_of_getElem? (i := 125) rfl)) rfl
theorem mw_683 : Cond.methodLink "java/lang/Throwable" 1 ⟨"java/lang/Object", "<init>", "()V"⟩ ∈ mz_GW := mz_in1 (mz_t3 (List.mem_of_getElem? (i := 126) rfl)) rfl
theorem mw_684 : Cond.fieldLink "java/lang/Throwable" 13 "java/lang/Throwable" "UNASSIGNED_STACK" "[Ljava/lang/StackTraceElement;" ∈ mz_GW := mz_in1 (mz_t3 (List.mem_of_getElem? (i := 127) rfl)) rfl
theorem mw_686 : Cond.fieldLink "java/lang/Throwable" 20 "java/lang/Throwable" "SUPPRESSED_SENTINEL" "Ljava/util/List;" ∈ mz_GW := mz_in1 (mz_t3 (List.mem_of_getElem? (i := 129) rfl)) rfl
theorem mw_688 : Cond.methodLink "java/lang/Throwable" 27 ⟨"java/lang/Throwable", "fillInStackTrace", "()Ljava/lang/Throwable;"⟩ ∈ mz_GW := mz_in1 (mz_t3 (List.mem_of_getElem? (i := 131) rfl)) rfl
theorem mw_689 : Cond.instanceMethod ⟨"java/lang/Throwable", "fillInStackTrace", "()Ljava/lang/Throwable;"⟩ ∈ mz_GW := mz_in1 (mz_t3 (List.mem_of_getElem? (i := 132) rfl)) rfl
theorem mw_691 : Cond.selects "java/lang/ArithmeticException" ⟨"java/lang/Throwable", "fillInStackTrace", "()Ljava/lang/Throwable;"⟩ ⟨"java/lang/Throwable", "fillInStackTrace", "()Ljava/lang/Throwable;"⟩ ∈ mz_GW := mz_in1 (mz_t3 (List.mem_of_getElem? (i := 134) rfl)) rfl
theorem mw_693 : Cond.selects "java/lang/IllegalStateException" ⟨"java/lang/Throwable", "fillInStackTrace", "()Ljava/lang/Throwable;"⟩ ⟨"java/lang/Throwable", "fillInStackTrace", "()Ljava/lang/Throwable;"⟩ ∈ mz_GW := mz_in1 (mz_t3 (List.mem_of_getElem? (i := 136) rfl)) rfl
theorem mw_694 : Cond.selects "java/lang/IndexOutOfBoundsException" ⟨"java/lang/Throwable", "fillInStackTrace", "()Ljava/lang/Throwable;"⟩ ⟨"java/lang/Throwable", "fillInStackTrace", "()Ljava/lang/Throwable;"⟩ ∈ mz_GW := mz_in1 (mz_t3 (List.mem_of_getElem? (i := 137) rfl)) rfl
theorem mw_695 : Cond.selects "java/lang/UnsupportedOperationException" ⟨"java/lang/Throwable", "fillInStackTrace", "()Ljava/lang/Throwable;"⟩ ⟨"java/lang/Throwable", "fillInStackTrace", "()Ljava/lang/Throwable;"⟩ ∈ mz_GW := mz_in1 (mz_t3 (List.mem_of_getElem? (i := 138) rfl)) rfl
theorem mw_696 : Cond.selects "java/util/NoSuchElementException" ⟨"java/lang/Throwable", "fillInStackTrace", "()Ljava/lang/Throwable;"⟩ ⟨"java/lang/Throwable", "fillInStackTrace", "()Ljava/lang/Throwable;"⟩ ∈ mz_GW := mz_in1 (mz_t3 (List.mem_of_getElem? (i := 139) rfl)) rfl
theorem mw_697 : Cond.codeSync ⟨"java/lang/Throwable", "fillInStackTrace", "()Ljava/lang/Throwable;"⟩ prog_27_method_18_code 1 (some (.object "java/lang/Throwable")) ∈ mz_GW := mz_in1 (mz_t3 (List.mem_of_getElem? (i := 140) rfl)) rfl
theorem mw_698 : Cond.methodLink "java/lang/Throwable" 202 ⟨"java/lang/Throwable", "fillInStackTrace", "(I)Ljava/lang/Throwable;"⟩ ∈ mz_GW := mz_in1 (mz_t3 (List.mem_of_getElem? (i := 141) rfl)) rfl
theorem mw_700 : Cond.instanceMethod ⟨"java/lang/Throwable", "fillInStackTrace", "(I)Ljava/lang/Throwable;"⟩ ∈ mz_GW := mz_in1 (mz_t3 (List.mem_of_getElem? (i := 143) rfl)) rfl
theorem mw_702 : Cond.native ⟨"java/lang/Throwable", "fillInStackTrace", "(I)Ljava/lang/Throwable;"⟩ ∈ mz_GW := mz_in1 (mz_t3 (List.mem_of_getElem? (i := 145) rfl)) rfl
theorem mw_704 : Cond.methodLink "FallingBlocks" 36 ⟨"java/lang/IllegalArgumentException", "<init>", "(Ljava/lang/String;)V"⟩ ∈ mz_GW := mz_in1 (mz_t3 (List.mem_of_getElem? (i := 147) rfl)) rfl
theorem mw_705 : Cond.instanceMethod ⟨"java/lang/IllegalArgumentException", "<init>", "(Ljava/lang/String;)V"⟩ ∈ mz_GW := mz_in1 (mz_t3 (List.mem_of_getElem? (i := 148) rfl)) rfl
theorem mw_706 : Cond.code ⟨"java/lang/IllegalArgumentException", "<init>", "(Ljava/lang/String;)V"⟩ prog_19_method_2_code 2 none ∈ mz_GW := mz_in1 (mz_t3 (List.mem_of_getElem? (i := 149) rfl)) rfl
theorem mw_707 : Cond.methodLink "java/lang/IllegalArgumentException" 7 ⟨"java/lang/RuntimeException", "<init>", "(Ljava/lang/String;)V"⟩ ∈ mz_GW := mz_in1 (mz_t3 (List.mem_of_getElem? (i := 150) rfl)) rfl
theorem mw_708 : Cond.instanceMethod ⟨"java/lang/RuntimeException", "<init>", "(Ljava/lang/String;)V"⟩ ∈ mz_GW := mz_in1 (mz_t3 (List.mem_of_getElem? (i := 151) rfl)) rfl
theorem mw_709 : Cond.code ⟨"java/lang/RuntimeException", "<init>", "(Ljava/lang/String;)V"⟩ prog_24_method_2_code 2 none ∈ mz_GW := mz_in1 (mz_t3 (List.mem_of_getElem? (i := 152) rfl)) rfl
theorem mw_710 : Cond.methodLink "java/lang/RuntimeException" 7 ⟨"java/lang/Exception", "<init>", "(Ljava/lang/String;)V"⟩ ∈ mz_GW := mz_in1 (mz_t3 (List.mem_of_getElem? (i := 153) rfl)) rfl
theorem mw_711 : Cond.instanceMethod ⟨"java/lang/Exception", "<init>", "(Ljava/lang/String;)V"⟩ ∈ mz_GW := mz_in1 (mz_t3 (List.mem_of_getElem? (i := 154) rfl)) rfl
theorem mw_712 : Cond.code ⟨"java/lang/Exception", "<init>", "(Ljava/lang/String;)V"⟩ prog_18_method_2_code 2 none ∈ mz_GW := mz_in1 (mz_t3 (List.mem_of_getElem? (i := 155) rfl)) rfl
theorem mw_713 : Cond.methodLink "java/lang/Exception" 7 ⟨"java/lang/Throwable", "<init>", "(Ljava/lang/String;)V"⟩ ∈ mz_GW := mz_in1 (mz_t3 (List.mem_of_getElem? (i := 156) rfl)) rfl
theorem mw_714 : Cond.instanceMethod ⟨"java/lang/Throwable", "<init>", "(Ljava/lang/String;)V"⟩ ∈ mz_GW := mz_in1 (mz_t3 (List.mem_of_getElem? (i := 157) rfl)) rfl
theorem mw_715 : Cond.code ⟨"java/lang/Throwable", "<init>", "(Ljava/lang/String;)V"⟩ prog_27_method_2_code 2 none ∈ mz_GW := mz_in1 (mz_t3 (List.mem_of_getElem? (i := 158) rfl)) rfl
theorem mw_717 : Cond.fieldLink "java/lang/Throwable" 31 "java/lang/Throwable" "detailMessage" "Ljava/lang/String;" ∈ mz_GW := mz_in1 (mz_t3 (List.mem_of_getElem? (i := 160) rfl)) rfl
theorem mw_718 : Cond.fieldLink "java/lang/Throwable" 7 "java/lang/Throwable" "cause" "Ljava/lang/Throwable;" ∈ mz_GW := mz_in1 (mz_t3 (List.mem_of_getElem? (i := 161) rfl)) rfl
theorem mw_719 : Cond.fieldLink "java/lang/Throwable" 17 "java/lang/Throwable" "stackTrace" "[Ljava/lang/StackTraceElement;" ∈ mz_GW := mz_in1 (mz_t3 (List.mem_of_getElem? (i := 162) rfl)) rfl
theorem mw_720 : Cond.fieldLink "java/lang/Throwable" 24 "java/lang/Throwable" "suppressedExceptions" "Ljava/util/List;" ∈ mz_GW := mz_in1 (mz_t3 (List.mem_of_getElem? (i := 163) rfl)) rfl
theorem mw_730 : Cond.methodLink "FallingBlocksLaw" 130 ⟨"FallingBlocksLaw", "set", "(LFallingBlocks;II[J)I"⟩ ∈ mz_GW := mz_in1 (mz_t3 (List.mem_of_getElem? (i := 173) rfl)) rfl
theorem mw_731 : Cond.static ⟨"FallingBlocksLaw", "set", "(LFallingBlocks;II[J)I"⟩ ∈ mz_GW := mz_in1 (mz_t3 (List.mem_of_getElem? (i := 174) rfl)) rfl
theorem mw_732 : Cond.codeWith ⟨"FallingBlocksLaw", "set", "(LFallingBlocks;II[J)I"⟩ method_4_code 5 (some .int) [(0, 10, 13, 13)] ∈ mz_GW := mz_in1 (mz_t3 (List.mem_of_getElem? (i := 175) rfl)) rfl
theorem mw_733 : Cond.methodLink "FallingBlocksLaw" 15 ⟨"FallingBlocks", "set", "(II)I"⟩ ∈ mz_GW := mz_in1 (mz_t3 (List.mem_of_getElem? (i := 176) rfl)) rfl
theorem mw_734 : Cond.instanceMethod ⟨"FallingBlocks", "set", "(II)I"⟩ ∈ mz_GW := mz_in1 (mz_t3 (List.mem_of_getElem? (i := 177) rfl)) rfl
theorem mw_735 : Cond.selects "FallingBlocks" ⟨"FallingBlocks", "set", "(II)I"⟩ ⟨"FallingBlocks", "set", "(II)I"⟩ ∈ mz_GW := mz_in1 (mz_t3 (List.mem_of_getElem? (i := 178) rfl)) rfl
theorem mw_736 : Cond.code ⟨"FallingBlocks", "set", "(II)I"⟩ prog_1_method_3_code 4 (some .int) ∈ mz_GW := mz_in1 (mz_t3 (List.mem_of_getElem? (i := 179) rfl)) rfl
theorem mw_737 : Cond.methodLink "FallingBlocks" 57 ⟨"FallingBlocks", "needRange", "(III)V"⟩ ∈ mz_GW := mz_in1 (mz_t3 (List.mem_of_getElem? (i := 180) rfl)) rfl
theorem mw_739 : Cond.instanceMethod ⟨"FallingBlocks", "needRange", "(III)V"⟩ ∈ mz_GW := mz_in1 (mz_t3 (List.mem_of_getElem? (i := 182) rfl)) rfl
theorem mw_740 : Cond.code ⟨"FallingBlocks", "needRange", "(III)V"⟩ prog_1_method_35_code 4 none ∈ mz_GW := mz_in1 (mz_t3 (List.mem_of_getElem? (i := 183) rfl)) rfl
theorem mw_742 : Cond.methodLink "FallingBlocksLaw" 138 ⟨"FallingBlocksLaw", "piece", "(LFallingBlocks;I[J)I"⟩ ∈ mz_GW := mz_in1 (mz_t3 (List.mem_of_getElem? (i := 185) rfl)) rfl
theorem mw_743 : Cond.static ⟨"FallingBlocksLaw", "piece", "(LFallingBlocks;I[J)I"⟩ ∈ mz_GW := mz_in1 (mz_t3 (List.mem_of_getElem? (i := 186) rfl)) rfl
theorem mw_744 : Cond.codeWith ⟨"FallingBlocksLaw", "piece", "(LFallingBlocks;I[J)I"⟩ method_5_code 4 (some .int) [(0, 9, 12, 22), (0, 9, 15, 13)] ∈ mz_GW := mz_in1 (mz_t3 (List.mem_of_getElem? (i := 187) rfl)) rfl
theorem mw_745 : Cond.classLink "FallingBlocksLaw" 22 "java/lang/IllegalStateException" ∈ mz_GW := mz_in1 (mz_t3 (List.mem_of_getElem? (i := 188) rfl)) rfl
theorem mw_746 : Cond.methodLink "FallingBlocksLaw" 19 ⟨"FallingBlocks", "piece", "(I)I"⟩ ∈ mz_GW := mz_in1 (mz_t3 (List.mem_of_getElem? (i := 189) rfl)) rfl
theorem mw_747 : Cond.instanceMethod ⟨"FallingBlocks", "piece", "(I)I"⟩ ∈ mz_GW := mz_in1 (mz_t3 (List.mem_of_getElem? (i := 190) rfl)) rfl
theorem mw_748 : Cond.selects "FallingBlocks" ⟨"FallingBlocks", "piece", "(I)I"⟩ ⟨"FallingBlocks", "piece", "(I)I"⟩ ∈ mz_GW := mz_in1 (mz_t3 (List.mem_of_getElem? (i := 191) rfl)) rfl
theorem mw_749 : Cond.code ⟨"FallingBlocks", "piece", "(I)I"⟩ prog_1_method_5_code 3 (some .int) ∈ mz_GW := mz_in1 (mz_t3 (List.mem_of_getElem? (i := 192) rfl)) rfl
theorem mw_750 : Cond.methodLink "FallingBlocks" 71 ⟨"FallingBlocks", "needPresentPiece", "()V"⟩ ∈ mz_GW := mz_in1 (mz_t3 (List.mem_of_getElem? (i := 193) rfl)) rfl
theorem mw_752 : Cond.instanceMethod ⟨"FallingBlocks", "needPresentPiece", "()V"⟩ ∈ mz_GW := mz_in1 (mz_t3 (List.mem_of_getElem? (i := 195) rfl)) rfl
theorem mw_753 : Cond.code ⟨"FallingBlocks", "needPresentPiece", "()V"⟩ prog_1_method_34_code 1 none ∈ mz_GW := mz_in1 (mz_t3 (List.mem_of_getElem? (i := 196) rfl)) rfl
theorem mw_754 : Cond.classLink "FallingBlocks" 290 "java/lang/IllegalStateException" ∈ mz_GW := mz_in1 (mz_t3 (List.mem_of_getElem? (i := 197) rfl)) rfl
theorem mw_755 : Cond.instantiable "java/lang/IllegalStateException" 6 ∈ mz_GW := mz_in1 (mz_t3 (List.mem_of_getElem? (i := 198) rfl)) rfl
theorem mn_756 : Cond.castable "java/lang/IllegalStateException" "java/lang/IllegalStateException" ∈ lw_tbl := mz_t3 (List.mem_of_getElem? (i := 199) rfl)
theorem mw_757 : Cond.selects "java/lang/IllegalStateException" ⟨"java/lang/Throwable", "fillInStackTrace", "(I)Ljava/lang/Throwable;"⟩ ⟨"java/lang/Throwable", "fillInStackTrace", "(I)Ljava/lang/Throwable;"⟩ ∈ mz_GW := mz_in1 (mz_t3 (List.mem_of_getElem? (i := 200) rfl)) rfl
theorem mw_758 : Cond.lays "java/lang/IllegalStateException" "java/lang/Throwable" "cause" "Ljava/lang/Throwable;" ∈ mz_GW := mz_in1 (mz_t3 (List.mem_of_getElem? (i := 201) rfl)) rfl
theorem mw_759 : Cond.lays "java/lang/IllegalStateException" "java/lang/Throwable" "stackTrace" "[Ljava/lang/StackTraceElement;" ∈ mz_GW := mz_in1 (mz_t3 (List.mem_of_getElem? (i := 202) rfl)) rfl
theorem mw_760 : Cond.lays "java/lang/IllegalStateException" "java/lang/Throwable" "suppressedExceptions" "Ljava/util/List;" ∈ mz_GW := mz_in1 (mz_t3 (List.mem_of_getElem? (i := 203) rfl)) rfl
theorem mw_761 : Cond.lays "java/lang/IllegalStateException" "java/lang/Throwable" "detailMessage" "Ljava/lang/String;" ∈ mz_GW := mz_in1 (mz_t3 (List.mem_of_getElem? (i := 204) rfl)) rfl
theorem mw_762 : Cond.lays "java/lang/IllegalStateException" "java/lang/Throwable" "backtrace" "Ljava/lang/Object;" ∈ mz_GW := mz_in1 (mz_t3 (List.mem_of_getElem? (i := 205) rfl)) rfl
theorem mw_764 : Cond.methodLink "FallingBlocks" 294 ⟨"java/lang/IllegalStateException", "<init>", "(Ljava/lang/String;)V"⟩ ∈ mz_GW := mz_in1 (mz_t3 (List.mem_of_getElem? (i := 207) rfl)) rfl
theorem mw_765 : Cond.instanceMethod ⟨"java/lang/IllegalStateException", "<init>", "(Ljava/lang/String;)V"⟩ ∈ mz_GW := mz_in1 (mz_t3 (List.mem_of_getElem? (i := 208) rfl)) rfl
theorem mw_766 : Cond.code ⟨"java/lang/IllegalStateException", "<init>", "(Ljava/lang/String;)V"⟩ prog_20_method_2_code 2 none ∈ mz_GW := mz_in1 (mz_t3 (List.mem_of_getElem? (i := 209) rfl)) rfl
theorem mw_767 : Cond.methodLink "java/lang/IllegalStateException" 7 ⟨"java/lang/RuntimeException", "<init>", "(Ljava/lang/String;)V"⟩ ∈ mz_GW := mz_in1 (mz_t3 (List.mem_of_getElem? (i := 210) rfl)) rfl
theorem mw_770 : Cond.methodLink "FallingBlocks" 95 ⟨"FallingBlocks$Engine", "rowsToFall", "()I"⟩ ∈ mz_GW := mz_in1 (mz_t3 (List.mem_of_getElem? (i := 213) rfl)) rfl
theorem mw_771 : Cond.instanceMethod ⟨"FallingBlocks$Engine", "rowsToFall", "()I"⟩ ∈ mz_GW := mz_in1 (mz_t3 (List.mem_of_getElem? (i := 214) rfl)) rfl
theorem mw_772 : Cond.selects "FallingBlocks$Engine" ⟨"FallingBlocks$Engine", "rowsToFall", "()I"⟩ ⟨"FallingBlocks$Engine", "rowsToFall", "()I"⟩ ∈ mz_GW := mz_in1 (mz_t3 (List.mem_of_getElem? (i := 215) rfl)) rfl
theorem mw_773 : Cond.code ⟨"FallingBlocks$Engine", "rowsToFall", "()I"⟩ prog_3_method_4_code 4 (some .int) ∈ mz_GW := mz_in1 (mz_t3 (List.mem_of_getElem? (i := 216) rfl)) rfl
theorem mw_774 : Cond.methodLink "FallingBlocks$Engine" 119 ⟨"FallingBlocks$Engine", "sinkAsFarAsPossible", "()I"⟩ ∈ mz_GW := mz_in1 (mz_t3 (List.mem_of_getElem? (i := 217) rfl)) rfl
theorem mw_776 : Cond.instanceMethod ⟨"FallingBlocks$Engine", "sinkAsFarAsPossible", "()I"⟩ ∈ mz_GW := mz_in1 (mz_t3 (List.mem_of_getElem? (i := 219) rfl)) rfl
theorem mw_777 : Cond.code ⟨"FallingBlocks$Engine", "sinkAsFarAsPossible", "()I"⟩ prog_3_method_5_code 2 (some .int) ∈ mz_GW := mz_in1 (mz_t3 (List.mem_of_getElem? (i := 220) rfl)) rfl
theorem mw_778 : Cond.methodLink "FallingBlocks$Engine" 122 ⟨"FallingBlocks$Position", "moveBy", "(IILFallingBlocks$Field;)Z"⟩ ∈ mz_GW := mz_in1 (mz_t3 (List.mem_of_getElem? (i := 221) rfl)) rfl
theorem mw_779 : Cond.methodLink "FallingBlocksLaw" 141 ⟨"FallingBlocksLaw", "next", "(LFallingBlocks;I[J)I"⟩ ∈ mz_GW := mz_in1 (mz_t3 (List.mem_of_getElem? (i := 222) rfl)) rfl
theorem mw_780 : Cond.static ⟨"FallingBlocksLaw", "next", "(LFallingBlocks;I[J)I"⟩ ∈ mz_GW := mz_in1 (mz_t3 (List.mem_of_getElem? (i := 223) rfl)) rfl
theorem mw_781 : Cond.codeWith ⟨"FallingBlocksLaw", "next", "(LFallingBlocks;I[J)I"⟩ method_6_code 4 (some .int) [(0, 9, 12, 27)] ∈ mz_GW := mz_in1 (mz_t3 (List.mem_of_getElem? (i := 224) rfl)) rfl
theorem mw_782 : Cond.classLink "FallingBlocksLaw" 27 "java/lang/IndexOutOfBoundsException" ∈ mz_GW := mz_in1 (mz_t3 (List.mem_of_getElem? (i := 225) rfl)) rfl
theorem mw_787 : Cond.instanceMethod ⟨"java/lang/IndexOutOfBoundsException", "<init>", "(Ljava/lang/String;)V"⟩ ∈ mz_GW := mz_in1 (mz_t3 (List.mem_of_getElem? (i := 230) rfl)) rfl
theorem mw_788 : Cond.code ⟨"java/lang/IndexOutOfBoundsException", "<init>", "(Ljava/lang/String;)V"⟩ prog_21_method_2_code 2 none ∈ mz_GW := mz_in1 (mz_t3 (List.mem_of_getElem? (i := 231) rfl)) rfl
theorem mw_789 : Cond.methodLink "java/lang/IndexOutOfBoundsException" 7 ⟨"java/lang/RuntimeException", "<init>", "(Ljava/lang/String;)V"⟩ ∈ mz_GW := mz_in1 (mz_t3 (List.mem_of_getElem? (i := 232) rfl)) rfl
theorem mw_806 : Cond.methodLink "FallingBlocksLaw" 24 ⟨"FallingBlocks", "next", "(I)I"⟩ ∈ mz_GW := mz_in1 (mz_t4 (List.mem_of_getElem? (i := 9) rfl)) rfl
theorem mw_807 : Cond.instanceMethod ⟨"FallingBlocks", "next", "(I)I"⟩ ∈ mz_GW := mz_in1 (mz_t4 (List.mem_of_getElem? (i := 10) rfl)) rfl
theorem mw_808 : Cond.selects "FallingBlocks" ⟨"FallingBlocks", "next", "(I)I"⟩ ⟨"FallingBlocks", "next", "(I)I"⟩ ∈ mz_GW := mz_in1 (mz_t4 (List.mem_of_getElem? (i := 11) rfl)) rfl
theorem mw_809 : Cond.code ⟨"FallingBlocks", "next", "(I)I"⟩ prog_1_method_6_code 2 (some .int) ∈ mz_GW := mz_in1 (mz_t4 (List.mem_of_getElem? (i := 12) rfl)) rfl
theorem mw_810 : Cond.classLink "FallingBlocks" 99 "java/lang/IndexOutOfBoundsException" ∈ mz_GW := mz_in1 (mz_t4 (List.mem_of_getElem? (i := 13) rfl)) rfl
theorem mw_811 : Cond.instantiable "java/lang/IndexOutOfBoundsException" 6 ∈ mz_GW := mz_in1 (mz_t4 (List.mem_of_getElem? (i := 14) rfl)) rfl
theorem mn_812 : Cond.castable "java/lang/IndexOutOfBoundsException" "java/lang/IndexOutOfBoundsException" ∈ lw_tbl := mz_t4 (List.mem_of_getElem? (i := 15) rfl)
theorem mw_813 : Cond.selects "java/lang/IndexOutOfBoundsException" ⟨"java/lang/Throwable", "fillInStackTrace", "(I)Ljava/lang/Throwable;"⟩ ⟨"java/lang/Throwable", "fillInStackTrace", "(I)Ljava/lang/Throwable;"⟩ ∈ mz_GW := mz_in1 (mz_t4 (List.mem_of_getElem? (i := 16) rfl)) rfl
theorem mw_814 : Cond.lays "java/lang/IndexOutOfBoundsException" "java/lang/Throwable" "cause" "Ljava/lang/Throwable;" ∈ mz_GW := mz_in1 (mz_t4 (List.mem_of_getElem? (i := 17) rfl)) rfl
theorem mw_815 : Cond.lays "java/lang/IndexOutOfBoundsException" "java/lang/Throwable" "stackTrace" "[Ljava/lang/StackTraceElement;" ∈ mz_GW := mz_in1 (mz_t4 (List.mem_of_getElem? (i := 18) rfl)) rfl
theorem mw_816 : Cond.lays "java/lang/IndexOutOfBoundsException" "java/lang/Throwable" "suppressedExceptions" "Ljava/util/List;" ∈ mz_GW := mz_in1 (mz_t4 (List.mem_of_getElem? (i := 19) rfl)) rfl
theorem mw_817 : Cond.lays "java/lang/IndexOutOfBoundsException" "java/lang/Throwable" "detailMessage" "Ljava/lang/String;" ∈ mz_GW := mz_in1 (mz_t4 (List.mem_of_getElem? (i := 20) rfl)) rfl
theorem mw_818 : Cond.lays "java/lang/IndexOutOfBoundsException" "java/lang/Throwable" "backtrace" "Ljava/lang/Object;" ∈ mz_GW := mz_in1 (mz_t4 (List.mem_of_getElem? (i := 21) rfl)) rfl
theorem mw_820 : Cond.methodLink "FallingBlocks" 103 ⟨"java/lang/IndexOutOfBoundsException", "<init>", "(Ljava/lang/String;)V"⟩ ∈ mz_GW := mz_in1 (mz_t4 (List.mem_of_getElem? (i := 23) rfl)) rfl
theorem mw_823 : Cond.methodLink "FallingBlocksLaw" 144 ⟨"FallingBlocksLaw", "cell", "(LFallingBlocks;II[J)I"⟩ ∈ mz_GW := mz_in1 (mz_t4 (List.mem_of_getElem? (i := 26) rfl)) rfl
theorem mw_824 : Cond.static ⟨"FallingBlocksLaw", "cell", "(LFallingBlocks;II[J)I"⟩ ∈ mz_GW := mz_in1 (mz_t4 (List.mem_of_getElem? (i := 27) rfl)) rfl
theorem mw_825 : Cond.codeWith ⟨"FallingBlocksLaw", "cell", "(LFallingBlocks;II[J)I"⟩ method_7_code 5 (some .int) [(0, 10, 13, 27)] ∈ mz_GW := mz_in1 (mz_t4 (List.mem_of_getElem? (i := 28) rfl)) rfl
theorem mw_826 : Cond.methodLink "FallingBlocksLaw" 29 ⟨"FallingBlocks", "cell", "(II)I"⟩ ∈ mz_GW := mz_in1 (mz_t4 (List.mem_of_getElem? (i := 29) rfl)) rfl
theorem mw_827 : Cond.instanceMethod ⟨"FallingBlocks", "cell", "(II)I"⟩ ∈ mz_GW := mz_in1 (mz_t4 (List.mem_of_getElem? (i := 30) rfl)) rfl
theorem mw_828 : Cond.selects "FallingBlocks" ⟨"FallingBlocks", "cell", "(II)I"⟩ ⟨"FallingBlocks", "cell", "(II)I"⟩ ∈ mz_GW := mz_in1 (mz_t4 (List.mem_of_getElem? (i := 31) rfl)) rfl
theorem mw_829 : Cond.code ⟨"FallingBlocks", "cell", "(II)I"⟩ prog_1_method_7_code 3 (some .int) ∈ mz_GW := mz_in1 (mz_t4 (List.mem_of_getElem? (i := 32) rfl)) rfl
theorem mw_830 : Cond.methodLink "FallingBlocks" 114 ⟨"FallingBlocks", "needCell", "(II)V"⟩ ∈ mz_GW := mz_in1 (mz_t4 (List.mem_of_getElem? (i := 33) rfl)) rfl
theorem mw_832 : Cond.instanceMethod ⟨"FallingBlocks", "needCell", "(II)V"⟩ ∈ mz_GW := mz_in1 (mz_t4 (List.mem_of_getElem? (i := 35) rfl)) rfl
theorem mw_833 : Cond.code ⟨"FallingBlocks", "needCell", "(II)V"⟩ prog_1_method_37_code 3 none ∈ mz_GW := mz_in1 (mz_t4 (List.mem_of_getElem? (i := 36) rfl)) rfl
theorem mw_835 : Cond.methodLink "FallingBlocksLaw" 147 ⟨"FallingBlocksLaw", "covers", "(LFallingBlocks;II[J)I"⟩ ∈ mz_GW := mz_in1 (mz_t4 (List.mem_of_getElem? (i := 38) rfl)) rfl
theorem mw_836 : Cond.static ⟨"FallingBlocksLaw", "covers", "(LFallingBlocks;II[J)I"⟩ ∈ mz_GW := mz_in1 (mz_t4 (List.mem_of_getElem? (i := 39) rfl)) rfl
theorem mw_837 : Cond.codeWith ⟨"FallingBlocksLaw", "covers", "(LFallingBlocks;II[J)I"⟩ method_8_code 5 (some .int) [(0, 17, 20, 22), (0, 17, 24, 27)] ∈ mz_GW := mz_in1 (mz_t4 (List.mem_of_getElem? (i := 40) rfl)) rfl
theorem mw_838 : Cond.methodLink "FallingBlocksLaw" 32 ⟨"FallingBlocks", "covers", "(II)Z"⟩ ∈ mz_GW := mz_in1 (mz_t4 (List.mem_of_getElem? (i := 41) rfl)) rfl
theorem mw_839 : Cond.instanceMethod ⟨"FallingBlocks", "covers", "(II)Z"⟩ ∈ mz_GW := mz_in1 (mz_t4 (List.mem_of_getElem? (i := 42) rfl)) rfl
theorem mw_840 : Cond.selects "FallingBlocks" ⟨"FallingBlocks", "covers", "(II)Z"⟩ ⟨"FallingBlocks", "covers", "(II)Z"⟩ ∈ mz_GW := mz_in1 (mz_t4 (List.mem_of_getElem? (i := 43) rfl)) rfl
theorem mw_841 : Cond.code ⟨"FallingBlocks", "covers", "(II)Z"⟩ prog_1_method_8_code 3 (some .boolean) ∈ mz_GW := mz_in1 (mz_t4 (List.mem_of_getElem? (i := 44) rfl)) rfl
theorem mw_842 : Cond.methodLink "FallingBlocks" 127 ⟨"FallingBlocks$Position", "has", "(I)Z"⟩ ∈ mz_GW := mz_in1 (mz_t4 (List.mem_of_getElem? (i := 45) rfl)) rfl
theorem mw_843 : Cond.instanceMethod ⟨"FallingBlocks$Position", "has", "(I)Z"⟩ ∈ mz_GW := mz_in1 (mz_t4 (List.mem_of_getElem? (i := 46) rfl)) rfl
theorem mw_844 : Cond.selects "FallingBlocks$Position" ⟨"FallingBlocks$Position", "has", "(I)Z"⟩ ⟨"FallingBlocks$Position", "has", "(I)Z"⟩ ∈ mz_GW := mz_in1 (mz_t4 (List.mem_of_getElem? (i := 47) rfl)) rfl
theorem mw_845 : Cond.code ⟨"FallingBlocks$Position", "has", "(I)Z"⟩ prog_10_method_7_code 3 (some .boolean) ∈ mz_GW := mz_in1 (mz_t4 (List.mem_of_getElem? (i := 48) rfl)) rfl
theorem mw_846 : Cond.methodLink "FallingBlocks$Position" 32 ⟨"FallingBlocks$Position", "cellAt", "(I)I"⟩ ∈ mz_GW := mz_in1 (mz_t4 (List.mem_of_getElem? (i := 49) rfl)) rfl
theorem mw_847 : Cond.instanceMethod ⟨"FallingBlocks$Position", "cellAt", "(I)I"⟩ ∈ mz_GW := mz_in1 (mz_t4 (List.mem_of_getElem? (i := 50) rfl)) rfl
theorem mw_848 : Cond.selects "FallingBlocks$Position" ⟨"FallingBlocks$Position", "cellAt", "(I)I"⟩ ⟨"FallingBlocks$Position", "cellAt", "(I)I"⟩ ∈ mz_GW := mz_in1 (mz_t4 (List.mem_of_getElem? (i := 51) rfl)) rfl
theorem mw_849 : Cond.code ⟨"FallingBlocks$Position", "cellAt", "(I)I"⟩ prog_10_method_6_code 2 (some .int) ∈ mz_GW := mz_in1 (mz_t4 (List.mem_of_getElem? (i := 52) rfl)) rfl
theorem mw_850 : Cond.methodLink "FallingBlocksLaw" 150 ⟨"FallingBlocksLaw", "shift", "(LFallingBlocks;I[J)I"⟩ ∈ mz_GW := mz_in1 (mz_t4 (List.mem_of_getElem? (i := 53) rfl)) rfl
theorem mw_851 : Cond.static ⟨"FallingBlocksLaw", "shift", "(LFallingBlocks;I[J)I"⟩ ∈ mz_GW := mz_in1 (mz_t4 (List.mem_of_getElem? (i := 54) rfl)) rfl
theorem mw_852 : Cond.codeWith ⟨"FallingBlocksLaw", "shift", "(LFallingBlocks;I[J)I"⟩ method_9_code 4 (some .int) [(0, 16, 19, 22), (0, 16, 22, 13)] ∈ mz_GW := mz_in1 (mz_t4 (List.mem_of_getElem? (i := 55) rfl)) rfl
theorem mw_853 : Cond.methodLink "FallingBlocksLaw" 36 ⟨"FallingBlocks", "shift", "(I)Z"⟩ ∈ mz_GW := mz_in1 (mz_t4 (List.mem_of_getElem? (i := 56) rfl)) rfl
theorem mw_854 : Cond.instanceMethod ⟨"FallingBlocks", "shift", "(I)Z"⟩ ∈ mz_GW := mz_in1 (mz_t4 (List.mem_of_getElem? (i := 57) rfl)) rfl
theorem mw_855 : Cond.selects "FallingBlocks" ⟨"FallingBlocks", "shift", "(I)Z"⟩ ⟨"FallingBlocks", "shift", "(I)Z"⟩ ∈ mz_GW := mz_in1 (mz_t4 (List.mem_of_getElem? (i := 58) rfl)) rfl
theorem mw_856 : Cond.code ⟨"FallingBlocks", "shift", "(I)Z"⟩ prog_1_method_9_code 2 (some .boolean) ∈ mz_GW := mz_in1 (mz_t4 (List.mem_of_getElem? (i := 59) rfl)) rfl
theorem mw_857 : Cond.methodLink "FallingBlocks" 131 ⟨"FallingBlocks", "needDirection", "(I)V"⟩ ∈ mz_GW := mz_in1 (mz_t4 (List.mem_of_getElem? (i := 60) rfl)) rfl
theorem mw_859 : Cond.instanceMethod ⟨"FallingBlocks", "needDirection", "(I)V"⟩ ∈ mz_GW := mz_in1 (mz_t4 (List.mem_of_getElem? (i := 62) rfl)) rfl
theorem mw_860 : Cond.code ⟨"FallingBlocks", "needDirection", "(I)V"⟩ prog_1_method_36_code 2 none ∈ mz_GW := mz_in1 (mz_t4 (List.mem_of_getElem? (i := 63) rfl)) rfl
theorem mw_862 : Cond.methodLink "FallingBlocks" 134 ⟨"FallingBlocks$Engine", "shiftPiece", "(I)Z"⟩ ∈ mz_GW := mz_in1 (mz_t4 (List.mem_of_getElem? (i := 65) rfl)) rfl
theorem mw_863 : Cond.instanceMethod ⟨"FallingBlocks$Engine", "shiftPiece", "(I)Z"⟩ ∈ mz_GW := mz_in1 (mz_t4 (List.mem_of_getElem? (i := 66) rfl)) rfl
theorem mw_864 : Cond.selects "FallingBlocks$Engine" ⟨"FallingBlocks$Engine", "shiftPiece", "(I)Z"⟩ ⟨"FallingBlocks$Engine", "shiftPiece", "(I)Z"⟩ ∈ mz_GW := mz_in1 (mz_t4 (List.mem_of_getElem? (i := 67) rfl)) rfl
theorem mw_865 : Cond.code ⟨"FallingBlocks$Engine", "shiftPiece", "(I)Z"⟩ prog_3_method_6_code 5 (some .boolean) ∈ mz_GW := mz_in1 (mz_t4 (List.mem_of_getElem? (i := 68) rfl)) rfl
theorem mw_866 : Cond.methodLink "FallingBlocks$Engine" 126 ⟨"FallingBlocks$Position", "canFall", "(LFallingBlocks$Field;)Z"⟩ ∈ mz_GW := mz_in1 (mz_t4 (List.mem_of_getElem? (i := 69) rfl)) rfl
theorem mw_867 : Cond.instanceMethod ⟨"FallingBlocks$Position", "canFall", "(LFallingBlocks$Field;)Z"⟩ ∈ mz_GW := mz_in1 (mz_t4 (List.mem_of_getElem? (i := 70) rfl)) rfl
theorem mw_868 : Cond.selects "FallingBlocks$Position" ⟨"FallingBlocks$Position", "canFall", "(LFallingBlocks$Field;)Z"⟩ ⟨"FallingBlocks$Position", "canFall", "(LFallingBlocks$Field;)Z"⟩ ∈ mz_GW := mz_in1 (mz_t4 (List.mem_of_getElem? (i := 71) rfl)) rfl
theorem mw_869 : Cond.code ⟨"FallingBlocks$Position", "canFall", "(LFallingBlocks$Field;)Z"⟩ prog_10_method_13_code 3 (some .boolean) ∈ mz_GW := mz_in1 (mz_t4 (List.mem_of_getElem? (i := 72) rfl)) rfl
theorem mw_870 : Cond.methodLink "FallingBlocks$Engine" 135 ⟨"FallingBlocks$Piece", "noteInput", "(IZI)V"⟩ ∈ mz_GW := mz_in1 (mz_t4 (List.mem_of_getElem? (i := 73) rfl)) rfl
theorem mw_871 : Cond.instanceMethod ⟨"FallingBlocks$Piece", "noteInput", "(IZI)V"⟩ ∈ mz_GW := mz_in1 (mz_t4 (List.mem_of_getElem? (i := 74) rfl)) rfl
theorem mw_872 : Cond.selects "FallingBlocks$Piece" ⟨"FallingBlocks$Piece", "noteInput", "(IZI)V"⟩ ⟨"FallingBlocks$Piece", "noteInput", "(IZI)V"⟩ ∈ mz_GW := mz_in1 (mz_t4 (List.mem_of_getElem? (i := 75) rfl)) rfl
theorem mw_873 : Cond.code ⟨"FallingBlocks$Piece", "noteInput", "(IZI)V"⟩ prog_9_method_4_code 4 none ∈ mz_GW := mz_in1 (mz_t4 (List.mem_of_getElem? (i := 76) rfl)) rfl
theorem mw_874 : Cond.methodLink "FallingBlocks$Piece" 48 ⟨"FallingBlocks$Piece", "noteRow", "()V"⟩ ∈ mz_GW := mz_in1 (mz_t4 (List.mem_of_getElem? (i := 77) rfl)) rfl
theorem mw_876 : Cond.instanceMethod ⟨"FallingBlocks$Piece", "noteRow", "()V"⟩ ∈ mz_GW := mz_in1 (mz_t4 (List.mem_of_getElem? (i := 79) rfl)) rfl
theorem mw_877 : Cond.code ⟨"FallingBlocks$Piece", "noteRow", "()V"⟩ prog_9_method_6_code 1 none ∈ mz_GW := mz_in1 (mz_t4 (List.mem_of_getElem? (i := 80) rfl)) rfl
theorem mw_878 : Cond.methodLink "FallingBlocksLaw" 153 ⟨"FallingBlocksLaw", "slide", "(LFallingBlocks;I[J)I"⟩ ∈ mz_GW := mz_in1 (mz_t4 (List.mem_of_getElem? (i := 81) rfl)) rfl
theorem mw_879 : Cond.static ⟨"FallingBlocksLaw", "slide", "(LFallingBlocks;I[J)I"⟩ ∈ mz_GW := mz_in1 (mz_t4 (List.mem_of_getElem? (i := 82) rfl)) rfl
theorem mw_880 : Cond.codeWith ⟨"FallingBlocksLaw", "slide", "(LFallingBlocks;I[J)I"⟩ method_10_code 4 (some .int) [(0, 9, 12, 22), (0, 9, 15, 13)] ∈ mz_GW := mz_in1 (mz_t4 (List.mem_of_getElem? (i := 83) rfl)) rfl
theorem mw_881 : Cond.methodLink "FallingBlocksLaw" 40 ⟨"FallingBlocks", "slide", "(I)I"⟩ ∈ mz_GW := mz_in1 (mz_t4 (List.mem_of_getElem? (i := 84) rfl)) rfl
theorem mw_882 : Cond.instanceMethod ⟨"FallingBlocks", "slide", "(I)I"⟩ ∈ mz_GW := mz_in1 (mz_t4 (List.mem_of_getElem? (i := 85) rfl)) rfl
theorem mw_883 : Cond.selects "FallingBlocks" ⟨"FallingBlocks", "slide", "(I)I"⟩ ⟨"FallingBlocks", "slide", "(I)I"⟩ ∈ mz_GW := mz_in1 (mz_t4 (List.mem_of_getElem? (i := 86) rfl)) rfl
theorem mw_884 : Cond.code ⟨"FallingBlocks", "slide", "(I)I"⟩ prog_1_method_10_code 2 (some .int) ∈ mz_GW := mz_in1 (mz_t4 (List.mem_of_getElem? (i := 87) rfl)) rfl
theorem mw_885 : Cond.methodLink "FallingBlocks" 137 ⟨"FallingBlocks$Engine", "slidePiece", "(I)I"⟩ ∈ mz_GW := mz_in1 (mz_t4 (List.mem_of_getElem? (i := 88) rfl)) rfl
theorem mw_886 : Cond.instanceMethod ⟨"FallingBlocks$Engine", "slidePiece", "(I)I"⟩ ∈ mz_GW := mz_in1 (mz_t4 (List.mem_of_getElem? (i := 89) rfl)) rfl
theorem mw_887 : Cond.selects "FallingBlocks$Engine" ⟨"FallingBlocks$Engine", "slidePiece", "(I)I"⟩ ⟨"FallingBlocks$Engine", "slidePiece", "(I)I"⟩ ∈ mz_GW := mz_in1 (mz_t4 (List.mem_of_getElem? (i := 90) rfl)) rfl
theorem mw_888 : Cond.code ⟨"FallingBlocks$Engine", "slidePiece", "(I)I"⟩ prog_3_method_7_code 5 (some .int) ∈ mz_GW := mz_in1 (mz_t4 (List.mem_of_getElem? (i := 91) rfl)) rfl
theorem mw_889 : Cond.methodLink "FallingBlocks$Engine" 139 ⟨"FallingBlocks$Position", "slideBy", "(ILFallingBlocks$Field;)I"⟩ ∈ mz_GW := mz_in1 (mz_t4 (List.mem_of_getElem? (i := 92) rfl)) rfl
theorem mw_890 : Cond.methodLink "FallingBlocksLaw" 156 ⟨"FallingBlocksLaw", "rotate", "(LFallingBlocks;I[J)I"⟩ ∈ mz_GW := mz_in1 (mz_t4 (List.mem_of_getElem? (i := 93) rfl)) rfl
theorem mw_891 : Cond.static ⟨"FallingBlocksLaw", "rotate", "(LFallingBlocks;I[J)I"⟩ ∈ mz_GW := mz_in1 (mz_t4 (List.mem_of_getElem? (i := 94) rfl)) rfl
theorem mw_892 : Cond.codeWith ⟨"FallingBlocksLaw", "rotate", "(LFallingBlocks;I[J)I"⟩ method_11_code 4 (some .int) [(0, 9, 12, 22), (0, 9, 15, 13)] ∈ mz_GW := mz_in1 (mz_t4 (List.mem_of_getElem? (i := 95) rfl)) rfl
theorem mw_893 : Cond.methodLink "FallingBlocksLaw" 43 ⟨"FallingBlocks", "rotate", "(I)I"⟩ ∈ mz_GW := mz_in1 (mz_t4 (List.mem_of_getElem? (i := 96) rfl)) rfl
theorem mw_894 : Cond.instanceMethod ⟨"FallingBlocks", "rotate", "(I)I"⟩ ∈ mz_GW := mz_in1 (mz_t4 (List.mem_of_getElem? (i := 97) rfl)) rfl
theorem mw_895 : Cond.selects "FallingBlocks" ⟨"FallingBlocks", "rotate", "(I)I"⟩ ⟨"FallingBlocks", "rotate", "(I)I"⟩ ∈ mz_GW := mz_in1 (mz_t4 (List.mem_of_getElem? (i := 98) rfl)) rfl
theorem mw_896 : Cond.code ⟨"FallingBlocks", "rotate", "(I)I"⟩ prog_1_method_11_code 2 (some .int) ∈ mz_GW := mz_in1 (mz_t4 (List.mem_of_getElem? (i := 99) rfl)) rfl
theorem mw_897 : Cond.methodLink "FallingBlocks" 141 ⟨"FallingBlocks$Engine", "turnPiece", "(I)I"⟩ ∈ mz_GW := mz_in1 (mz_t4 (List.mem_of_getElem? (i := 100) rfl)) rfl
theorem mw_898 : Cond.instanceMethod ⟨"FallingBlocks$Engine", "turnPiece", "(I)I"⟩ ∈ mz_GW := mz_in1 (mz_t4 (List.mem_of_getElem? (i := 101) rfl)) rfl
theorem mw_899 : Cond.selects "FallingBlocks$Engine" ⟨"FallingBlocks$Engine", "turnPiece", "(I)I"⟩ ⟨"FallingBlocks$Engine", "turnPiece", "(I)I"⟩ ∈ mz_GW := mz_in1 (mz_t4 (List.mem_of_getElem? (i := 102) rfl)) rfl
theorem mw_900 : Cond.code ⟨"FallingBlocks$Engine", "turnPiece", "(I)I"⟩ prog_3_method_8_code 5 (some .int) ∈ mz_GW := mz_in1 (mz_t4 (List.mem_of_getElem? (i := 103) rfl)) rfl
theorem mw_901 : Cond.methodLink "FallingBlocks$Engine" 143 ⟨"FallingBlocks$Position", "turnBy", "(ILFallingBlocks$Field;)I"⟩ ∈ mz_GW := mz_in1 (mz_t4 (List.mem_of_getElem? (i := 104) rfl)) rfl
theorem mw_902 : Cond.methodLink "FallingBlocksLaw" 159 ⟨"FallingBlocksLaw", "fall", "(LFallingBlocks;[J)I"⟩ ∈ mz_GW := mz_in1 (mz_t4 (List.mem_of_getElem? (i := 105) rfl)) rfl
theorem mw_903 : Cond.static ⟨"FallingBlocksLaw", "fall", "(LFallingBlocks;[J)I"⟩ ∈ mz_GW := mz_in1 (mz_t4 (List.mem_of_getElem? (i := 106) rfl)) rfl
theorem mw_904 : Cond.codeWith ⟨"FallingBlocksLaw", "fall", "(LFallingBlocks;[J)I"⟩ method_12_code 3 (some .int) [(0, 15, 18, 22)] ∈ mz_GW := mz_in1 (mz_t4 (List.mem_of_getElem? (i := 107) rfl)) rfl
theorem mw_905 : Cond.methodLink "FallingBlocksLaw" 46 ⟨"FallingBlocks", "fall", "()Z"⟩ ∈ mz_GW := mz_in1 (mz_t4 (List.mem_of_getElem? (i := 108) rfl)) rfl
theorem mw_906 : Cond.instanceMethod ⟨"FallingBlocks", "fall", "()Z"⟩ ∈ mz_GW := mz_in1 (mz_t4 (List.mem_of_getElem? (i := 109) rfl)) rfl
theorem mw_907 : Cond.selects "FallingBlocks" ⟨"FallingBlocks", "fall", "()Z"⟩ ⟨"FallingBlocks", "fall", "()Z"⟩ ∈ mz_GW := mz_in1 (mz_t4 (List.mem_of_getElem? (i := 110) rfl)) rfl
theorem mw_908 : Cond.code ⟨"FallingBlocks", "fall", "()Z"⟩ prog_1_method_12_code 1 (some .boolean) ∈ mz_GW := mz_in1 (mz_t4 (List.mem_of_getElem? (i := 111) rfl)) rfl
theorem mw_909 : Cond.methodLink "FallingBlocks" 144 ⟨"FallingBlocks$Engine", "sinkPiece", "()Z"⟩ ∈ mz_GW := mz_in1 (mz_t4 (List.mem_of_getElem? (i := 112) rfl)) rfl
theorem mw_910 : Cond.instanceMethod ⟨"FallingBlocks$Engine", "sinkPiece", "()Z"⟩ ∈ mz_GW := mz_in1 (mz_t4 (List.mem_of_getElem? (i := 113) rfl)) rfl
theorem mw_911 : Cond.selects "FallingBlocks$Engine" ⟨"FallingBlocks$Engine", "sinkPiece", "()Z"⟩ ⟨"FallingBlocks$Engine", "sinkPiece", "()Z"⟩ ∈ mz_GW := mz_in1 (mz_t4 (List.mem_of_getElem? (i := 114) rfl)) rfl
theorem mw_912 : Cond.code ⟨"FallingBlocks$Engine", "sinkPiece", "()Z"⟩ prog_3_method_9_code 2 (some .boolean) ∈ mz_GW := mz_in1 (mz_t4 (List.mem_of_getElem? (i := 115) rfl)) rfl
theorem mw_913 : Cond.methodLink "FallingBlocks$Engine" 149 ⟨"FallingBlocks$Piece", "noteFall", "()V"⟩ ∈ mz_GW := mz_in1 (mz_t4 (List.mem_of_getElem? (i := 116) rfl)) rfl
theorem mw_914 : Cond.instanceMethod ⟨"FallingBlocks$Piece", "noteFall", "()V"⟩ ∈ mz_GW := mz_in1 (mz_t4 (List.mem_of_getElem? (i := 117) rfl)) rfl
theorem mw_915 : Cond.selects "FallingBlocks$Piece" ⟨"FallingBlocks$Piece", "noteFall", "()V"⟩ ⟨"FallingBlocks$Piece", "noteFall", "()V"⟩ ∈ mz_GW := mz_in1 (mz_t4 (List.mem_of_getElem? (i := 118) rfl)) rfl
theorem mw_916 : Cond.code ⟨"FallingBlocks$Piece", "noteFall", "()V"⟩ prog_9_method_5_code 1 none ∈ mz_GW := mz_in1 (mz_t4 (List.mem_of_getElem? (i := 119) rfl)) rfl
theorem mw_917 : Cond.methodLink "FallingBlocksLaw" 163 ⟨"FallingBlocksLaw", "drop", "(LFallingBlocks;[J)I"⟩ ∈ mz_GW := mz_in1 (mz_t4 (List.mem_of_getElem? (i := 120) rfl)) rfl
theorem mw_918 : Cond.static ⟨"FallingBlocksLaw", "drop", "(LFallingBlocks;[J)I"⟩ ∈ mz_GW := mz_in1 (mz_t4 (List.mem_of_getElem? (i := 121) rfl)) rfl
theorem mw_919 : Cond.codeWith ⟨"FallingBlocksLaw", "drop", "(LFallingBlocks;[J)I"⟩ method_13_code 3 (some .int) [(0, 8, 11, 22)] ∈ mz_GW := mz_in1 (mz_t4 (List.mem_of_getElem? (i := 122) rfl)) rfl
theorem mw_920 : Cond.methodLink "FallingBlocksLaw" 50 ⟨"FallingBlocks", "drop", "()I"⟩ ∈ mz_GW := mz_in1 (mz_t4 (List.mem_of_getElem? (i := 123) rfl)) rfl
theorem mw_921 : Cond.instanceMethod ⟨"FallingBlocks", "drop", "()I"⟩ ∈ mz_GW := mz_in1 (mz_t4 (List.mem_of_getElem? (i := 124) rfl)) rfl
theorem mw_922 : Cond.selects "FallingBlocks" ⟨"FallingBlocks", "drop", "()I"⟩ ⟨"FallingBlocks", "drop", "()I"⟩ ∈ mz_GW := mz_in1 (mz_t4 (List.mem_of_getElem? (i := 125) rfl)) rfl
theorem mw_923 : Cond.code ⟨"FallingBlocks", "drop", "()I"⟩ prog_1_method_13_code 1 (some .int) ∈ mz_GW := mz_in1 (mz_t4 (List.mem_of_getElem? (i := 126) rfl)) rfl
theorem mw_924 : Cond.methodLink "FallingBlocks" 148 ⟨"FallingBlocks$Engine", "dropPiece", "()I"⟩ ∈ mz_GW := mz_in1 (mz_t4 (List.mem_of_getElem? (i := 127) rfl)) rfl
theorem mw_925 : Cond.instanceMethod ⟨"FallingBlocks$Engine", "dropPiece", "()I"⟩ ∈ mz_GW := mz_in1 (mz_t4 (List.mem_of_getElem? (i := 128) rfl)) rfl
theorem mw_926 : Cond.selects "FallingBlocks$Engine" ⟨"FallingBlocks$Engine", "dropPiece", "()I"⟩ ⟨"FallingBlocks$Engine", "dropPiece", "()I"⟩ ∈ mz_GW := mz_in1 (mz_t4 (List.mem_of_getElem? (i := 129) rfl)) rfl
theorem mw_927 : Cond.code ⟨"FallingBlocks$Engine", "dropPiece", "()I"⟩ prog_3_method_10_code 2 (some .int) ∈ mz_GW := mz_in1 (mz_t4 (List.mem_of_getElem? (i := 130) rfl)) rfl
theorem mw_928 : Cond.methodLink "FallingBlocks$Engine" 152 ⟨"FallingBlocks$Engine", "lock", "()I"⟩ ∈ mz_GW := mz_in1 (mz_t4 (List.mem_of_getElem? (i := 131) rfl)) rfl
theorem mw_930 : Cond.instanceMethod ⟨"FallingBlocks$Engine", "lock", "()I"⟩ ∈ mz_GW := mz_in1 (mz_t4 (List.mem_of_getElem? (i := 133) rfl)) rfl
theorem mw_931 : Cond.code ⟨"FallingBlocks$Engine", "lock", "()I"⟩ prog_3_method_15_code 6 (some .int) ∈ mz_GW := mz_in1 (mz_t4 (List.mem_of_getElem? (i := 134) rfl)) rfl
theorem mw_932 : Cond.methodLink "FallingBlocks$Engine" 187 ⟨"FallingBlocks$Engine", "findSpin", "()I"⟩ ∈ mz_GW := mz_in1 (mz_t4 (List.mem_of_getElem? (i := 135) rfl)) rfl
theorem mw_934 : Cond.instanceMethod ⟨"FallingBlocks$Engine", "findSpin", "()I"⟩ ∈ mz_GW := mz_in1 (mz_t4 (List.mem_of_getElem? (i := 137) rfl)) rfl
theorem mw_935 : Cond.code ⟨"FallingBlocks$Engine", "findSpin", "()I"⟩ prog_3_method_16_code 5 (some .int) ∈ mz_GW := mz_in1 (mz_t4 (List.mem_of_getElem? (i := 138) rfl)) rfl
theorem mw_936 : Cond.methodLink "FallingBlocks$Engine" 217 ⟨"FallingBlocks$Engine", "isCornerFilled", "(I)Z"⟩ ∈ mz_GW := mz_in1 (mz_t4 (List.mem_of_getElem? (i := 139) rfl)) rfl
theorem mw_938 : Cond.instanceMethod ⟨"FallingBlocks$Engine", "isCornerFilled", "(I)Z"⟩ ∈ mz_GW := mz_in1 (mz_t4 (List.mem_of_getElem? (i := 141) rfl)) rfl
theorem mw_939 : Cond.code ⟨"FallingBlocks$Engine", "isCornerFilled", "(I)Z"⟩ prog_3_method_17_code 4 (some .boolean) ∈ mz_GW := mz_in1 (mz_t4 (List.mem_of_getElem? (i := 142) rfl)) rfl
theorem mw_940 : Cond.methodLink "FallingBlocks$Engine" 226 ⟨"FallingBlocks$Field", "isFilled", "(II)Z"⟩ ∈ mz_GW := mz_in1 (mz_t4 (List.mem_of_getElem? (i := 143) rfl)) rfl
theorem mw_941 : Cond.methodLink "FallingBlocks$Engine" 190 ⟨"FallingBlocks$Position", "isAllAtOrAbove", "(I)Z"⟩ ∈ mz_GW := mz_in1 (mz_t4 (List.mem_of_getElem? (i := 144) rfl)) rfl
theorem mw_942 : Cond.instanceMethod ⟨"FallingBlocks$Position", "isAllAtOrAbove", "(I)Z"⟩ ∈ mz_GW := mz_in1 (mz_t4 (List.mem_of_getElem? (i := 145) rfl)) rfl
theorem mw_943 : Cond.selects "FallingBlocks$Position" ⟨"FallingBlocks$Position", "isAllAtOrAbove", "(I)Z"⟩ ⟨"FallingBlocks$Position", "isAllAtOrAbove", "(I)Z"⟩ ∈ mz_GW := mz_in1 (mz_t4 (List.mem_of_getElem? (i := 146) rfl)) rfl
theorem mw_944 : Cond.code ⟨"FallingBlocks$Position", "isAllAtOrAbove", "(I)Z"⟩ prog_10_method_8_code 2 (some .boolean) ∈ mz_GW := mz_in1 (mz_t4 (List.mem_of_getElem? (i := 147) rfl)) rfl
theorem mw_945 : Cond.methodLink "FallingBlocks$Engine" 194 ⟨"FallingBlocks$Field", "fillWith", "(LFallingBlocks$Position;)V"⟩ ∈ mz_GW := mz_in1 (mz_t4 (List.mem_of_getElem? (i := 148) rfl)) rfl
theorem mw_946 : Cond.instanceMethod ⟨"FallingBlocks$Field", "fillWith", "(LFallingBlocks$Position;)V"⟩ ∈ mz_GW := mz_in1 (mz_t4 (List.mem_of_getElem? (i := 149) rfl)) rfl
theorem mw_947 : Cond.selects "FallingBlocks$Field" ⟨"FallingBlocks$Field", "fillWith", "(LFallingBlocks$Position;)V"⟩ ⟨"FallingBlocks$Field", "fillWith", "(LFallingBlocks$Position;)V"⟩ ∈ mz_GW := mz_in1 (mz_t4 (List.mem_of_getElem? (i := 150) rfl)) rfl
theorem mw_948 : Cond.code ⟨"FallingBlocks$Field", "fillWith", "(LFallingBlocks$Position;)V"⟩ prog_4_method_6_code 4 none ∈ mz_GW := mz_in1 (mz_t4 (List.mem_of_getElem? (i := 151) rfl)) rfl
theorem mw_949 : Cond.methodLink "FallingBlocks$Field" 30 ⟨"FallingBlocks$Position", "cellAt", "(I)I"⟩ ∈ mz_GW := mz_in1 (mz_t4 (List.mem_of_getElem? (i := 152) rfl)) rfl
theorem mw_950 : Cond.methodLink "FallingBlocks$Engine" 197 ⟨"FallingBlocks$Field", "clearFullRows", "()I"⟩ ∈ mz_GW := mz_in1 (mz_t4 (List.mem_of_getElem? (i := 153) rfl)) rfl
theorem mw_951 : Cond.instanceMethod ⟨"FallingBlocks$Field", "clearFullRows", "()I"⟩ ∈ mz_GW := mz_in1 (mz_t4 (List.mem_of_getElem? (i := 154) rfl)) rfl
theorem mw_952 : Cond.selects "FallingBlocks$Field" ⟨"FallingBlocks$Field", "clearFullRows", "()I"⟩ ⟨"FallingBlocks$Field", "clearFullRows", "()I"⟩ ∈ mz_GW := mz_in1 (mz_t4 (List.mem_of_getElem? (i := 155) rfl)) rfl
theorem mw_953 : Cond.code ⟨"FallingBlocks$Field", "clearFullRows", "()I"⟩ prog_4_method_7_code 3 (some .int) ∈ mz_GW := mz_in1 (mz_t4 (List.mem_of_getElem? (i := 156) rfl)) rfl
theorem mw_954 : Cond.methodLink "FallingBlocks$Field" 40 ⟨"FallingBlocks$Field", "countFilledInRow", "(I)I"⟩ ∈ mz_GW := mz_in1 (mz_t4 (List.mem_of_getElem? (i := 157) rfl)) rfl
theorem mw_955 : Cond.instanceMethod ⟨"FallingBlocks$Field", "countFilledInRow", "(I)I"⟩ ∈ mz_GW := mz_in1 (mz_t4 (List.mem_of_getElem? (i := 158) rfl)) rfl
theorem mw_956 : Cond.selects "FallingBlocks$Field" ⟨"FallingBlocks$Field", "countFilledInRow", "(I)I"⟩ ⟨"FallingBlocks$Field", "countFilledInRow", "(I)I"⟩ ∈ mz_GW := mz_in1 (mz_t4 (List.mem_of_getElem? (i := 159) rfl)) rfl
theorem mw_957 : Cond.code ⟨"FallingBlocks$Field", "countFilledInRow", "(I)I"⟩ prog_4_method_9_code 4 (some .int) ∈ mz_GW := mz_in1 (mz_t4 (List.mem_of_getElem? (i := 160) rfl)) rfl
theorem mw_958 : Cond.methodLink "FallingBlocks$Field" 43 ⟨"FallingBlocks$Field", "isFilled", "(II)Z"⟩ ∈ mz_GW := mz_in1 (mz_t4 (List.mem_of_getElem? (i := 161) rfl)) rfl
theorem mw_959 : Cond.methodLink "FallingBlocks$Engine" 200 ⟨"FallingBlocks$Field", "countFilled", "()I"⟩ ∈ mz_GW := mz_in1 (mz_t4 (List.mem_of_getElem? (i := 162) rfl)) rfl
theorem mw_960 : Cond.instanceMethod ⟨"FallingBlocks$Field", "countFilled", "()I"⟩ ∈ mz_GW := mz_in1 (mz_t4 (List.mem_of_getElem? (i := 163) rfl)) rfl
theorem mw_961 : Cond.selects "FallingBlocks$Field" ⟨"FallingBlocks$Field", "countFilled", "()I"⟩ ⟨"FallingBlocks$Field", "countFilled", "()I"⟩ ∈ mz_GW := mz_in1 (mz_t4 (List.mem_of_getElem? (i := 164) rfl)) rfl
theorem mw_962 : Cond.code ⟨"FallingBlocks$Field", "countFilled", "()I"⟩ prog_4_method_10_code 3 (some .int) ∈ mz_GW := mz_in1 (mz_t4 (List.mem_of_getElem? (i := 165) rfl)) rfl
theorem mw_963 : Cond.methodLink "FallingBlocks$Engine" 203 ⟨"FallingBlocks$Score", "noteLock", "(IIIZ)V"⟩ ∈ mz_GW := mz_in1 (mz_t4 (List.mem_of_getElem? (i := 166) rfl)) rfl
theorem mw_964 : Cond.instanceMethod ⟨"FallingBlocks$Score", "noteLock", "(IIIZ)V"⟩ ∈ mz_GW := mz_in1 (mz_t4 (List.mem_of_getElem? (i := 167) rfl)) rfl
theorem mw_965 : Cond.selects "FallingBlocks$Score" ⟨"FallingBlocks$Score", "noteLock", "(IIIZ)V"⟩ ⟨"FallingBlocks$Score", "noteLock", "(IIIZ)V"⟩ ∈ mz_GW := mz_in1 (mz_t4 (List.mem_of_getElem? (i := 168) rfl)) rfl
theorem mw_966 : Cond.code ⟨"FallingBlocks$Score", "noteLock", "(IIIZ)V"⟩ prog_11_method_6_code 8 none ∈ mz_GW := mz_in1 (mz_t4 (List.mem_of_getElem? (i := 169) rfl)) rfl
theorem mw_967 : Cond.fieldLink "FallingBlocks$Score" 66 "FallingBlocks$Score" "POINTS" "[I" ∈ mz_GW := mz_in1 (mz_t4 (List.mem_of_getElem? (i := 170) rfl)) rfl
theorem mw_969 : Cond.methodLink "FallingBlocks$Score" 69 ⟨"FallingBlocks$Score", "sortOf", "(II)I"⟩ ∈ mz_GW := mz_in1 (mz_t4 (List.mem_of_getElem? (i := 172) rfl)) rfl
theorem mw_970 : Cond.static ⟨"FallingBlocks$Score", "sortOf", "(II)I"⟩ ∈ mz_GW := mz_in1 (mz_t4 (List.mem_of_getElem? (i := 173) rfl)) rfl
theorem mw_971 : Cond.code ⟨"FallingBlocks$Score", "sortOf", "(II)I"⟩ prog_11_method_2_code 2 (some .int) ∈ mz_GW := mz_in1 (mz_t4 (List.mem_of_getElem? (i := 174) rfl)) rfl
theorem mw_972 : Cond.methodLink "FallingBlocks$Score" 16 ⟨"java/lang/Math", "min", "(II)I"⟩ ∈ mz_GW := mz_in1 (mz_t4 (List.mem_of_getElem? (i := 175) rfl)) rfl
theorem mw_973 : Cond.methodLink "FallingBlocks$Score" 22 ⟨"java/lang/Math", "max", "(II)I"⟩ ∈ mz_GW := mz_in1 (mz_t4 (List.mem_of_getElem? (i := 176) rfl)) rfl
theorem mw_974 : Cond.static ⟨"java/lang/Math", "max", "(II)I"⟩ ∈ mz_GW := mz_in1 (mz_t4 (List.mem_of_getElem? (i := 177) rfl)) rfl
theorem mw_975 : Cond.code ⟨"java/lang/Math", "max", "(II)I"⟩ prog_23_method_65_code 2 (some .int) ∈ mz_GW := mz_in1 (mz_t4 (List.mem_of_getElem? (i := 178) rfl)) rfl
theorem mw_976 : Cond.methodLink "FallingBlocks$Score" 72 ⟨"FallingBlocks$Score", "level", "()I"⟩ ∈ mz_GW := mz_in1 (mz_t4 (List.mem_of_getElem? (i := 179) rfl)) rfl
theorem mw_977 : Cond.instanceMethod ⟨"FallingBlocks$Score", "level", "()I"⟩ ∈ mz_GW := mz_in1 (mz_t4 (List.mem_of_getElem? (i := 180) rfl)) rfl
theorem mw_978 : Cond.selects "FallingBlocks$Score" ⟨"FallingBlocks$Score", "level", "()I"⟩ ⟨"FallingBlocks$Score", "level", "()I"⟩ ∈ mz_GW := mz_in1 (mz_t4 (List.mem_of_getElem? (i := 181) rfl)) rfl
theorem mw_979 : Cond.code ⟨"FallingBlocks$Score", "level", "()I"⟩ prog_11_method_5_code 1 (some .int) ∈ mz_GW := mz_in1 (mz_t4 (List.mem_of_getElem? (i := 182) rfl)) rfl
theorem mw_980 : Cond.methodLink "FallingBlocks$Engine" 207 ⟨"FallingBlocks$Finesse", "leastToCellsOf", "(LFallingBlocks$Position;)I"⟩ ∈ mz_GW := mz_in1 (mz_t4 (List.mem_of_getElem? (i := 183) rfl)) rfl
theorem mw_981 : Cond.instanceMethod ⟨"FallingBlocks$Finesse", "leastToCellsOf", "(LFallingBlocks$Position;)I"⟩ ∈ mz_GW := mz_in1 (mz_t4 (List.mem_of_getElem? (i := 184) rfl)) rfl
theorem mw_982 : Cond.selects "FallingBlocks$Finesse" ⟨"FallingBlocks$Finesse", "leastToCellsOf", "(LFallingBlocks$Position;)I"⟩ ⟨"FallingBlocks$Finesse", "leastToCellsOf", "(LFallingBlocks$Position;)I"⟩ ∈ mz_GW := mz_in1 (mz_t4 (List.mem_of_getElem? (i := 185) rfl)) rfl
theorem mw_983 : Cond.code ⟨"FallingBlocks$Finesse", "leastToCellsOf", "(LFallingBlocks$Position;)I"⟩ prog_5_method_4_code 7 (some .int) ∈ mz_GW := mz_in1 (mz_t4 (List.mem_of_getElem? (i := 186) rfl)) rfl
theorem mw_984 : Cond.methodLink "FallingBlocks$Finesse" 53 ⟨"FallingBlocks$Finesse", "firstColumn", "(II)I"⟩ ∈ mz_GW := mz_in1 (mz_t4 (List.mem_of_getElem? (i := 187) rfl)) rfl
theorem mw_985 : Cond.static ⟨"FallingBlocks$Finesse", "firstColumn", "(II)I"⟩ ∈ mz_GW := mz_in1 (mz_t4 (List.mem_of_getElem? (i := 188) rfl)) rfl
theorem mw_986 : Cond.code ⟨"FallingBlocks$Finesse", "firstColumn", "(II)I"⟩ prog_5_method_5_code 2 (some .int) ∈ mz_GW := mz_in1 (mz_t4 (List.mem_of_getElem? (i := 189) rfl)) rfl
theorem mw_987 : Cond.methodLink "FallingBlocks$Finesse" 67 ⟨"FallingBlocks$Position", "cellOf", "(III)I"⟩ ∈ mz_GW := mz_in1 (mz_t4 (List.mem_of_getElem? (i := 190) rfl)) rfl
theorem mw_988 : Cond.methodLink "FallingBlocks$Finesse" 63 ⟨"FallingBlocks$Finesse", "isSameShape", "(III)Z"⟩ ∈ mz_GW := mz_in1 (mz_t4 (List.mem_of_getElem? (i := 191) rfl)) rfl
theorem mw_989 : Cond.static ⟨"FallingBlocks$Finesse", "isSameShape", "(III)Z"⟩ ∈ mz_GW := mz_in1 (mz_t4 (List.mem_of_getElem? (i := 192) rfl)) rfl
theorem mw_990 : Cond.code ⟨"FallingBlocks$Finesse", "isSameShape", "(III)Z"⟩ prog_5_method_6_code 6 (some .boolean) ∈ mz_GW := mz_in1 (mz_t4 (List.mem_of_getElem? (i := 193) rfl)) rfl
theorem mw_991 : Cond.methodLink "FallingBlocks$Engine" 211 ⟨"FallingBlocks$Score", "noteFinesse", "(II)V"⟩ ∈ mz_GW := mz_in1 (mz_t4 (List.mem_of_getElem? (i := 194) rfl)) rfl
theorem mw_992 : Cond.instanceMethod ⟨"FallingBlocks$Score", "noteFinesse", "(II)V"⟩ ∈ mz_GW := mz_in1 (mz_t4 (List.mem_of_getElem? (i := 195) rfl)) rfl
theorem mw_993 : Cond.selects "FallingBlocks$Score" ⟨"FallingBlocks$Score", "noteFinesse", "(II)V"⟩ ⟨"FallingBlocks$Score", "noteFinesse", "(II)V"⟩ ∈ mz_GW := mz_in1 (mz_t4 (List.mem_of_getElem? (i := 196) rfl)) rfl
theorem mw_994 : Cond.code ⟨"FallingBlocks$Score", "noteFinesse", "(II)V"⟩ prog_11_method_7_code 3 none ∈ mz_GW := mz_in1 (mz_t4 (List.mem_of_getElem? (i := 197) rfl)) rfl
theorem mw_995 : Cond.methodLink "FallingBlocksLaw" 166 ⟨"FallingBlocksLaw", "hold", "(LFallingBlocks;[J)I"⟩ ∈ mz_GW := mz_in1 (mz_t4 (List.mem_of_getElem? (i := 198) rfl)) rfl
theorem mw_996 : Cond.static ⟨"FallingBlocksLaw", "hold", "(LFallingBlocks;[J)I"⟩ ∈ mz_GW := mz_in1 (mz_t4 (List.mem_of_getElem? (i := 199) rfl)) rfl
theorem mw_997 : Cond.codeWith ⟨"FallingBlocksLaw", "hold", "(LFallingBlocks;[J)I"⟩ method_14_code 3 (some .int) [(0, 8, 11, 22), (0, 8, 14, 57)] ∈ mz_GW := mz_in1 (mz_t4 (List.mem_of_getElem? (i := 200) rfl)) rfl
theorem mw_998 : Cond.classLink "FallingBlocksLaw" 57 "java/lang/UnsupportedOperationException" ∈ mz_GW := mz_in1 (mz_t4 (List.mem_of_getElem? (i := 201) rfl)) rfl
theorem mw_999 : Cond.methodLink "FallingBlocksLaw" 54 ⟨"FallingBlocks", "hold", "()I"⟩ ∈ mz_GW := mz_in1 (mz_t4 (List.mem_of_getElem? (i := 202) rfl)) rfl
theorem mw_1000 : Cond.instanceMethod ⟨"FallingBlocks", "hold", "()I"⟩ ∈ mz_GW := mz_in1 (mz_t4 (List.mem_of_getElem? (i := 203) rfl)) rfl
theorem mw_1001 : Cond.selects "FallingBlocks" ⟨"FallingBlocks", "hold", "()I"⟩ ⟨"FallingBlocks", "hold", "()I"⟩ ∈ mz_GW := mz_in1 (mz_t4 (List.mem_of_getElem? (i := 204) rfl)) rfl
theorem mw_1002 : Cond.code ⟨"FallingBlocks", "hold", "()I"⟩ prog_1_method_14_code 1 (some .int) ∈ mz_GW := mz_in1 (mz_t4 (List.mem_of_getElem? (i := 205) rfl)) rfl
theorem mw_1003 : Cond.classLink "FallingBlocks" 154 "java/lang/UnsupportedOperationException" ∈ mz_GW := mz_in1 (mz_t4 (List.mem_of_getElem? (i := 206) rfl)) rfl
theorem mw_1004 : Cond.instantiable "java/lang/UnsupportedOperationException" 6 ∈ mz_GW := mz_in1 (mz_t4 (List.mem_of_getElem? (i := 207) rfl)) rfl
theorem mn_1005 : Cond.castable "java/lang/UnsupportedOperationException" "java/lang/UnsupportedOperationException" ∈ lw_tbl := mz_t4 (List.mem_of_getElem? (i := 208) rfl)
theorem mw_1006 : Cond.selects "java/lang/UnsupportedOperationException" ⟨"java/lang/Throwable", "fillInStackTrace", "(I)Ljava/lang/Throwable;"⟩ ⟨"java/lang/Throwable", "fillInStackTrace", "(I)Ljava/lang/Throwable;"⟩ ∈ mz_GW := mz_in1 (mz_t4 (List.mem_of_getElem? (i := 209) rfl)) rfl
theorem mw_1007 : Cond.lays "java/lang/UnsupportedOperationException" "java/lang/Throwable" "cause" "Ljava/lang/Throwable;" ∈ mz_GW := mz_in1 (mz_t4 (List.mem_of_getElem? (i := 210) rfl)) rfl
theorem mw_1008 : Cond.lays "java/lang/UnsupportedOperationException" "java/lang/Throwable" "stackTrace" "[Ljava/lang/StackTraceElement;" ∈ mz_GW := mz_in1 (mz_t4 (List.mem_of_getElem? (i := 211) rfl)) rfl
theorem mw_1009 : Cond.lays "java/lang/UnsupportedOperationException" "java/lang/Throwable" "suppressedExceptions" "Ljava/util/List;" ∈ mz_GW := mz_in1 (mz_t4 (List.mem_of_getElem? (i := 212) rfl)) rfl
theorem mw_1010 : Cond.lays "java/lang/UnsupportedOperationException" "java/lang/Throwable" "detailMessage" "Ljava/lang/String;" ∈ mz_GW := mz_in1 (mz_t4 (List.mem_of_getElem? (i := 213) rfl)) rfl
theorem mw_1011 : Cond.lays "java/lang/UnsupportedOperationException" "java/lang/Throwable" "backtrace" "Ljava/lang/Object;" ∈ mz_GW := mz_in1 (mz_t4 (List.mem_of_getElem? (i := 214) rfl)) rfl
theorem mw_1013 : Cond.methodLink "FallingBlocks" 158 ⟨"java/lang/UnsupportedOperationException", "<init>", "(Ljava/lang/String;)V"⟩ ∈ mz_GW := mz_in1 (mz_t4 (List.mem_of_getElem? (i := 216) rfl)) rfl
theorem mw_1014 : Cond.instanceMethod ⟨"java/lang/UnsupportedOperationException", "<init>", "(Ljava/lang/String;)V"⟩ ∈ mz_GW := mz_in1 (mz_t4 (List.mem_of_getElem? (i := 217) rfl)) rfl
theorem mw_1015 : Cond.code ⟨"java/lang/UnsupportedOperationException", "<init>", "(Ljava/lang/String;)V"⟩ prog_28_method_2_code 2 none ∈ mz_GW := mz_in1 (mz_t4 (List.mem_of_getElem? (i := 218) rfl)) rfl
theorem mw_1016 : Cond.methodLink "java/lang/UnsupportedOperationException" 7 ⟨"java/lang/RuntimeException", "<init>", "(Ljava/lang/String;)V"⟩ ∈ mz_GW := mz_in1 (mz_t4 (List.mem_of_getElem? (i := 219) rfl)) rfl
theorem mw_1019 : Cond.methodLink "FallingBlocks" 159 ⟨"FallingBlocks$Engine", "swapWithHold", "()I"⟩ ∈ mz_GW := mz_in1 (mz_t4 (List.mem_of_getElem? (i := 222) rfl)) rfl
theorem mw_1020 : Cond.instanceMethod ⟨"FallingBlocks$Engine", "swapWithHold", "()I"⟩ ∈ mz_GW := mz_in1 (mz_t4 (List.mem_of_getElem? (i := 223) rfl)) rfl
theorem mw_1021 : Cond.selects "FallingBlocks$Engine" ⟨"FallingBlocks$Engine", "swapWithHold", "()I"⟩ ⟨"FallingBlocks$Engine", "swapWithHold", "()I"⟩ ∈ mz_GW := mz_in1 (mz_t4 (List.mem_of_getElem? (i := 224) rfl)) rfl
theorem mw_1022 : Cond.code ⟨"FallingBlocks$Engine", "swapWithHold", "()I"⟩ prog_3_method_11_code 2 (some .int) ∈ mz_GW := mz_in1 (mz_t4 (List.mem_of_getElem? (i := 225) rfl)) rfl
theorem mw_1023 : Cond.methodLink "FallingBlocksLaw" 169 ⟨"FallingBlocksLaw", "held", "(LFallingBlocks;[J)I"⟩ ∈ mz_GW := mz_in1 (mz_t4 (List.mem_of_getElem? (i := 226) rfl)) rfl
theorem mw_1024 : Cond.static ⟨"FallingBlocksLaw", "held", "(LFallingBlocks;[J)I"⟩ ∈ mz_GW := mz_in1 (mz_t4 (List.mem_of_getElem? (i := 227) rfl)) rfl
theorem mw_1025 : Cond.codeWith ⟨"FallingBlocksLaw", "held", "(LFallingBlocks;[J)I"⟩ method_15_code 3 (some .int) [(0, 8, 11, 62)] ∈ mz_GW := mz_in1 (mz_t4 (List.mem_of_getElem? (i := 228) rfl)) rfl
theorem mw_1026 : Cond.classLink "FallingBlocksLaw" 62 "java/util/NoSuchElementException" ∈ mz_GW := mz_in1 (mz_t4 (List.mem_of_getElem? (i := 229) rfl)) rfl
theorem mw_1027 : Cond.methodLink "FallingBlocksLaw" 59 ⟨"FallingBlocks", "held", "()I"⟩ ∈ mz_GW := mz_in1 (mz_t4 (List.mem_of_getElem? (i := 230) rfl)) rfl
theorem mw_1028 : Cond.instanceMethod ⟨"FallingBlocks", "held", "()I"⟩ ∈ mz_GW := mz_in1 (mz_t4 (List.mem_of_getElem? (i := 231) rfl)) rfl
theorem mw_1029 : Cond.selects "FallingBlocks" ⟨"FallingBlocks", "held", "()I"⟩ ⟨"FallingBlocks", "held", "()I"⟩ ∈ mz_GW := mz_in1 (mz_t4 (List.mem_of_getElem? (i := 232) rfl)) rfl
theorem mw_1030 : Cond.code ⟨"FallingBlocks", "held", "()I"⟩ prog_1_method_15_code 1 (some .int) ∈ mz_GW := mz_in1 (mz_t4 (List.mem_of_getElem? (i := 233) rfl)) rfl
theorem mw_1031 : Cond.classLink "FallingBlocks" 165 "java/util/NoSuchElementException" ∈ mz_GW := mz_in1 (mz_t4 (List.mem_of_getElem? (i := 234) rfl)) rfl
theorem mw_1032 : Cond.instantiable "java/util/NoSuchElementException" 6 ∈ mz_GW := mz_in1 (mz_t4 (List.mem_of_getElem? (i := 235) rfl)) rfl
theorem mn_1033 : Cond.castable "java/util/NoSuchElementException" "java/util/NoSuchElementException" ∈ lw_tbl := mz_t4 (List.mem_of_getElem? (i := 236) rfl)
theorem mw_1034 : Cond.selects "java/util/NoSuchElementException" ⟨"java/lang/Throwable", "fillInStackTrace", "(I)Ljava/lang/Throwable;"⟩ ⟨"java/lang/Throwable", "fillInStackTrace", "(I)Ljava/lang/Throwable;"⟩ ∈ mz_GW := mz_in1 (mz_t4 (List.mem_of_getElem? (i := 237) rfl)) rfl
theorem mw_1035 : Cond.lays "java/util/NoSuchElementException" "java/lang/Throwable" "cause" "Ljava/lang/Throwable;" ∈ mz_GW := mz_in1 (mz_t4 (List.mem_of_getElem? (i := 238) rfl)) rfl
theorem mw_1036 : Cond.lays "java/util/NoSuchElementException" "java/lang/Throwable" "stackTrace" "[Ljava/lang/StackTraceElement;" ∈ mz_GW := mz_in1 (mz_t4 (List.mem_of_getElem? (i := 239) rfl)) rfl
theorem mw_1037 : Cond.lays "java/util/NoSuchElementException" "java/lang/Throwable" "suppressedExceptions" "Ljava/util/List;" ∈ mz_GW := mz_in1 (mz_t5 (List.mem_of_getElem? (i := 0) rfl)) rfl
theorem mw_1038 : Cond.lays "java/util/NoSuchElementException" "java/lang/Throwable" "detailMessage" "Ljava/lang/String;" ∈ mz_GW := mz_in1 (mz_t5 (List.mem_of_getElem? (i := 1) rfl)) rfl
theorem mw_1039 : Cond.lays "java/util/NoSuchElementException" "java/lang/Throwable" "backtrace" "Ljava/lang/Object;" ∈ mz_GW := mz_in1 (mz_t5 (List.mem_of_getElem? (i := 2) rfl)) rfl
theorem mw_1041 : Cond.methodLink "FallingBlocks" 169 ⟨"java/util/NoSuchElementException", "<init>", "(Ljava/lang/String;)V"⟩ ∈ mz_GW := mz_in1 (mz_t5 (List.mem_of_getElem? (i := 4) rfl)) rfl
theorem mw_1042 : Cond.instanceMethod ⟨"java/util/NoSuchElementException", "<init>", "(Ljava/lang/String;)V"⟩ ∈ mz_GW := mz_in1 (mz_t5 (List.mem_of_getElem? (i := 5) rfl)) rfl
theorem mw_1043 : Cond.code ⟨"java/util/NoSuchElementException", "<init>", "(Ljava/lang/String;)V"⟩ prog_30_method_4_code 2 none ∈ mz_GW := mz_in1 (mz_t5 (List.mem_of_getElem? (i := 6) rfl)) rfl
theorem mw_1044 : Cond.methodLink "java/util/NoSuchElementException" 13 ⟨"java/lang/RuntimeException", "<init>", "(Ljava/lang/String;)V"⟩ ∈ mz_GW := mz_in1 (mz_t5 (List.mem_of_getElem? (i := 7) rfl)) rfl
theorem mw_1047 : Cond.methodLink "FallingBlocksLaw" 172 ⟨"FallingBlocksLaw", "tick", "(LFallingBlocks;I[J)I"⟩ ∈ mz_GW := mz_in1 (mz_t5 (List.mem_of_getElem? (i := 10) rfl)) rfl
theorem mw_1048 : Cond.static ⟨"FallingBlocksLaw", "tick", "(LFallingBlocks;I[J)I"⟩ ∈ mz_GW := mz_in1 (mz_t5 (List.mem_of_getElem? (i := 11) rfl)) rfl
theorem mw_1049 : Cond.codeWith ⟨"FallingBlocksLaw", "tick", "(LFallingBlocks;I[J)I"⟩ method_16_code 4 (some .int) [(0, 9, 12, 13), (0, 9, 15, 22)] ∈ mz_GW := mz_in1 (mz_t5 (List.mem_of_getElem? (i := 12) rfl)) rfl
theorem mw_1050 : Cond.methodLink "FallingBlocksLaw" 64 ⟨"FallingBlocks", "tick", "(I)I"⟩ ∈ mz_GW := mz_in1 (mz_t5 (List.mem_of_getElem? (i := 13) rfl)) rfl
theorem mw_1051 : Cond.instanceMethod ⟨"FallingBlocks", "tick", "(I)I"⟩ ∈ mz_GW := mz_in1 (mz_t5 (List.mem_of_getElem? (i := 14) rfl)) rfl
theorem mw_1052 : Cond.selects "FallingBlocks" ⟨"FallingBlocks", "tick", "(I)I"⟩ ⟨"FallingBlocks", "tick", "(I)I"⟩ ∈ mz_GW := mz_in1 (mz_t5 (List.mem_of_getElem? (i := 15) rfl)) rfl
theorem mw_1053 : Cond.code ⟨"FallingBlocks", "tick", "(I)I"⟩ prog_1_method_16_code 4 (some .int) ∈ mz_GW := mz_in1 (mz_t5 (List.mem_of_getElem? (i := 16) rfl)) rfl
theorem mw_1054 : Cond.methodLink "FallingBlocks" 179 ⟨"FallingBlocks$Engine", "passTick", "()V"⟩ ∈ mz_GW := mz_in1 (mz_t5 (List.mem_of_getElem? (i := 17) rfl)) rfl
theorem mw_1055 : Cond.instanceMethod ⟨"FallingBlocks$Engine", "passTick", "()V"⟩ ∈ mz_GW := mz_in1 (mz_t5 (List.mem_of_getElem? (i := 18) rfl)) rfl
theorem mw_1056 : Cond.selects "FallingBlocks$Engine" ⟨"FallingBlocks$Engine", "passTick", "()V"⟩ ⟨"FallingBlocks$Engine", "passTick", "()V"⟩ ∈ mz_GW := mz_in1 (mz_t5 (List.mem_of_getElem? (i := 19) rfl)) rfl
theorem mw_1057 : Cond.code ⟨"FallingBlocks$Engine", "passTick", "()V"⟩ prog_3_method_12_code 2 none ∈ mz_GW := mz_in1 (mz_t5 (List.mem_of_getElem? (i := 20) rfl)) rfl
theorem mw_1058 : Cond.methodLink "FallingBlocks$Engine" 164 ⟨"FallingBlocks$Score", "level", "()I"⟩ ∈ mz_GW := mz_in1 (mz_t5 (List.mem_of_getElem? (i := 21) rfl)) rfl
theorem mw_1059 : Cond.methodLink "FallingBlocksLaw" 175 ⟨"FallingBlocksLaw", "garbage", "(LFallingBlocks;II[J)I"⟩ ∈ mz_GW := mz_in1 (mz_t5 (List.mem_of_getElem? (i := 22) rfl)) rfl
theorem mw_1060 : Cond.static ⟨"FallingBlocksLaw", "garbage", "(LFallingBlocks;II[J)I"⟩ ∈ mz_GW := mz_in1 (mz_t5 (List.mem_of_getElem? (i := 23) rfl)) rfl
theorem mw_1061 : Cond.codeWith ⟨"FallingBlocksLaw", "garbage", "(LFallingBlocks;II[J)I"⟩ method_17_code 5 (some .int) [(0, 10, 13, 13), (0, 10, 17, 22), (0, 10, 21, 57)] ∈ mz_GW := mz_in1 (mz_t5 (List.mem_of_getElem? (i := 24) rfl)) rfl
theorem mw_1062 : Cond.methodLink "FallingBlocksLaw" 67 ⟨"FallingBlocks", "garbage", "(II)I"⟩ ∈ mz_GW := mz_in1 (mz_t5 (List.mem_of_getElem? (i := 25) rfl)) rfl
theorem mw_1063 : Cond.instanceMethod ⟨"FallingBlocks", "garbage", "(II)I"⟩ ∈ mz_GW := mz_in1 (mz_t5 (List.mem_of_getElem? (i := 26) rfl)) rfl
theorem mw_1064 : Cond.selects "FallingBlocks" ⟨"FallingBlocks", "garbage", "(II)I"⟩ ⟨"FallingBlocks", "garbage", "(II)I"⟩ ∈ mz_GW := mz_in1 (mz_t5 (List.mem_of_getElem? (i := 27) rfl)) rfl
theorem mw_1065 : Cond.code ⟨"FallingBlocks", "garbage", "(II)I"⟩ prog_1_method_17_code 3 (some .int) ∈ mz_GW := mz_in1 (mz_t5 (List.mem_of_getElem? (i := 28) rfl)) rfl
theorem mw_1066 : Cond.methodLink "FallingBlocks" 182 ⟨"FallingBlocks$Engine", "addGarbage", "(II)Z"⟩ ∈ mz_GW := mz_in1 (mz_t5 (List.mem_of_getElem? (i := 29) rfl)) rfl
theorem mw_1067 : Cond.instanceMethod ⟨"FallingBlocks$Engine", "addGarbage", "(II)Z"⟩ ∈ mz_GW := mz_in1 (mz_t5 (List.mem_of_getElem? (i := 30) rfl)) rfl
theorem mw_1068 : Cond.selects "FallingBlocks$Engine" ⟨"FallingBlocks$Engine", "addGarbage", "(II)Z"⟩ ⟨"FallingBlocks$Engine", "addGarbage", "(II)Z"⟩ ∈ mz_GW := mz_in1 (mz_t5 (List.mem_of_getElem? (i := 31) rfl)) rfl
theorem mw_1069 : Cond.code ⟨"FallingBlocks$Engine", "addGarbage", "(II)Z"⟩ prog_3_method_13_code 4 (some .boolean) ∈ mz_GW := mz_in1 (mz_t5 (List.mem_of_getElem? (i := 32) rfl)) rfl
theorem mw_1070 : Cond.methodLink "FallingBlocks$Engine" 173 ⟨"FallingBlocks$Field", "greatestHeight", "()I"⟩ ∈ mz_GW := mz_in1 (mz_t5 (List.mem_of_getElem? (i := 33) rfl)) rfl
theorem mw_1071 : Cond.instanceMethod ⟨"FallingBlocks$Field", "greatestHeight", "()I"⟩ ∈ mz_GW := mz_in1 (mz_t5 (List.mem_of_getElem? (i := 34) rfl)) rfl
theorem mw_1072 : Cond.selects "FallingBlocks$Field" ⟨"FallingBlocks$Field", "greatestHeight", "()I"⟩ ⟨"FallingBlocks$Field", "greatestHeight", "()I"⟩ ∈ mz_GW := mz_in1 (mz_t5 (List.mem_of_getElem? (i := 35) rfl)) rfl
theorem mw_1073 : Cond.code ⟨"FallingBlocks$Field", "greatestHeight", "()I"⟩ prog_4_method_14_code 3 (some .int) ∈ mz_GW := mz_in1 (mz_t5 (List.mem_of_getElem? (i := 36) rfl)) rfl
theorem mw_1074 : Cond.methodLink "FallingBlocks$Field" 47 ⟨"FallingBlocks$Field", "heightOf", "(I)I"⟩ ∈ mz_GW := mz_in1 (mz_t5 (List.mem_of_getElem? (i := 37) rfl)) rfl
theorem mw_1075 : Cond.instanceMethod ⟨"FallingBlocks$Field", "heightOf", "(I)I"⟩ ∈ mz_GW := mz_in1 (mz_t5 (List.mem_of_getElem? (i := 38) rfl)) rfl
theorem mw_1076 : Cond.selects "FallingBlocks$Field" ⟨"FallingBlocks$Field", "heightOf", "(I)I"⟩ ⟨"FallingBlocks$Field", "heightOf", "(I)I"⟩ ∈ mz_GW := mz_in1 (mz_t5 (List.mem_of_getElem? (i := 39) rfl)) rfl
theorem mw_1077 : Cond.code ⟨"FallingBlocks$Field", "heightOf", "(I)I"⟩ prog_4_method_12_code 3 (some .int) ∈ mz_GW := mz_in1 (mz_t5 (List.mem_of_getElem? (i := 40) rfl)) rfl
theorem mw_1078 : Cond.methodLink "FallingBlocks$Field" 50 ⟨"java/lang/Math", "max", "(II)I"⟩ ∈ mz_GW := mz_in1 (mz_t5 (List.mem_of_getElem? (i := 41) rfl)) rfl
theorem mw_1079 : Cond.methodLink "FallingBlocks$Engine" 176 ⟨"FallingBlocks$Field", "copyFrom", "(LFallingBlocks$Field;)V"⟩ ∈ mz_GW := mz_in1 (mz_t5 (List.mem_of_getElem? (i := 42) rfl)) rfl
theorem mw_1080 : Cond.methodLink "FallingBlocks$Engine" 179 ⟨"FallingBlocks$Field", "raise", "(II)V"⟩ ∈ mz_GW := mz_in1 (mz_t5 (List.mem_of_getElem? (i := 43) rfl)) rfl
theorem mw_1081 : Cond.instanceMethod ⟨"FallingBlocks$Field", "raise", "(II)V"⟩ ∈ mz_GW := mz_in1 (mz_t5 (List.mem_of_getElem? (i := 44) rfl)) rfl
theorem mw_1082 : Cond.selects "FallingBlocks$Field" ⟨"FallingBlocks$Field", "raise", "(II)V"⟩ ⟨"FallingBlocks$Field", "raise", "(II)V"⟩ ∈ mz_GW := mz_in1 (mz_t5 (List.mem_of_getElem? (i := 45) rfl)) rfl
theorem mw_1083 : Cond.code ⟨"FallingBlocks$Field", "raise", "(II)V"⟩ prog_4_method_8_code 5 none ∈ mz_GW := mz_in1 (mz_t5 (List.mem_of_getElem? (i := 46) rfl)) rfl
theorem mw_1085 : Cond.methodLink "FallingBlocks" 188 ⟨"FallingBlocks$Field", "countFilled", "()I"⟩ ∈ mz_GW := mz_in1 (mz_t5 (List.mem_of_getElem? (i := 48) rfl)) rfl
theorem mw_1086 : Cond.methodLink "FallingBlocksLaw" 178 ⟨"FallingBlocksLaw", "figure", "(LFallingBlocks;I[J)I"⟩ ∈ mz_GW := mz_in1 (mz_t5 (List.mem_of_getElem? (i := 49) rfl)) rfl
theorem mw_1087 : Cond.static ⟨"FallingBlocksLaw", "figure", "(LFallingBlocks;I[J)I"⟩ ∈ mz_GW := mz_in1 (mz_t5 (List.mem_of_getElem? (i := 50) rfl)) rfl
theorem mw_1088 : Cond.codeWith ⟨"FallingBlocksLaw", "figure", "(LFallingBlocks;I[J)I"⟩ method_18_code 4 (some .int) [(0, 9, 12, 13)] ∈ mz_GW := mz_in1 (mz_t5 (List.mem_of_getElem? (i := 51) rfl)) rfl
theorem mw_1089 : Cond.methodLink "FallingBlocksLaw" 70 ⟨"FallingBlocks", "figure", "(I)I"⟩ ∈ mz_GW := mz_in1 (mz_t5 (List.mem_of_getElem? (i := 52) rfl)) rfl
theorem mw_1090 : Cond.instanceMethod ⟨"FallingBlocks", "figure", "(I)I"⟩ ∈ mz_GW := mz_in1 (mz_t5 (List.mem_of_getElem? (i := 53) rfl)) rfl
theorem mw_1091 : Cond.selects "FallingBlocks" ⟨"FallingBlocks", "figure", "(I)I"⟩ ⟨"FallingBlocks", "figure", "(I)I"⟩ ∈ mz_GW := mz_in1 (mz_t5 (List.mem_of_getElem? (i := 54) rfl)) rfl
theorem mw_1092 : Cond.code ⟨"FallingBlocks", "figure", "(I)I"⟩ prog_1_method_18_code 3 (some .int) ∈ mz_GW := mz_in1 (mz_t5 (List.mem_of_getElem? (i := 55) rfl)) rfl
theorem mw_1093 : Cond.methodLink "FallingBlocks" 191 ⟨"FallingBlocks$Field", "countHoles", "()I"⟩ ∈ mz_GW := mz_in1 (mz_t5 (List.mem_of_getElem? (i := 56) rfl)) rfl
theorem mw_1094 : Cond.instanceMethod ⟨"FallingBlocks$Field", "countHoles", "()I"⟩ ∈ mz_GW := mz_in1 (mz_t5 (List.mem_of_getElem? (i := 57) rfl)) rfl
theorem mw_1095 : Cond.selects "FallingBlocks$Field" ⟨"FallingBlocks$Field", "countHoles", "()I"⟩ ⟨"FallingBlocks$Field", "countHoles", "()I"⟩ ∈ mz_GW := mz_in1 (mz_t5 (List.mem_of_getElem? (i := 58) rfl)) rfl
theorem mw_1096 : Cond.code ⟨"FallingBlocks$Field", "countHoles", "()I"⟩ prog_4_method_11_code 4 (some .int) ∈ mz_GW := mz_in1 (mz_t5 (List.mem_of_getElem? (i := 59) rfl)) rfl
theorem mw_1097 : Cond.methodLink "FallingBlocks" 194 ⟨"FallingBlocks$Field", "totalHeight", "()I"⟩ ∈ mz_GW := mz_in1 (mz_t5 (List.mem_of_getElem? (i := 60) rfl)) rfl
theorem mw_1098 : Cond.instanceMethod ⟨"FallingBlocks$Field", "totalHeight", "()I"⟩ ∈ mz_GW := mz_in1 (mz_t5 (List.mem_of_getElem? (i := 61) rfl)) rfl
theorem mw_1099 : Cond.selects "FallingBlocks$Field" ⟨"FallingBlocks$Field", "totalHeight", "()I"⟩ ⟨"FallingBlocks$Field", "totalHeight", "()I"⟩ ∈ mz_GW := mz_in1 (mz_t5 (List.mem_of_getElem? (i := 62) rfl)) rfl
theorem mw_1100 : Cond.code ⟨"FallingBlocks$Field", "totalHeight", "()I"⟩ prog_4_method_13_code 3 (some .int) ∈ mz_GW := mz_in1 (mz_t5 (List.mem_of_getElem? (i := 63) rfl)) rfl
theorem mw_1101 : Cond.methodLink "FallingBlocks" 197 ⟨"FallingBlocks$Field", "greatestHeight", "()I"⟩ ∈ mz_GW := mz_in1 (mz_t5 (List.mem_of_getElem? (i := 64) rfl)) rfl
theorem mw_1102 : Cond.methodLink "FallingBlocks" 200 ⟨"FallingBlocks$Field", "roughness", "()I"⟩ ∈ mz_GW := mz_in1 (mz_t5 (List.mem_of_getElem? (i := 65) rfl)) rfl
theorem mw_1103 : Cond.instanceMethod ⟨"FallingBlocks$Field", "roughness", "()I"⟩ ∈ mz_GW := mz_in1 (mz_t5 (List.mem_of_getElem? (i := 66) rfl)) rfl
theorem mw_1104 : Cond.selects "FallingBlocks$Field" ⟨"FallingBlocks$Field", "roughness", "()I"⟩ ⟨"FallingBlocks$Field", "roughness", "()I"⟩ ∈ mz_GW := mz_in1 (mz_t5 (List.mem_of_getElem? (i := 67) rfl)) rfl
theorem mw_1105 : Cond.code ⟨"FallingBlocks$Field", "roughness", "()I"⟩ prog_4_method_15_code 3 (some .int) ∈ mz_GW := mz_in1 (mz_t5 (List.mem_of_getElem? (i := 68) rfl)) rfl
theorem mw_1106 : Cond.methodLink "FallingBlocks$Field" 56 ⟨"java/lang/Math", "abs", "(I)I"⟩ ∈ mz_GW := mz_in1 (mz_t5 (List.mem_of_getElem? (i := 69) rfl)) rfl
theorem mw_1107 : Cond.static ⟨"java/lang/Math", "abs", "(I)I"⟩ ∈ mz_GW := mz_in1 (mz_t5 (List.mem_of_getElem? (i := 70) rfl)) rfl
theorem mw_1108 : Cond.code ⟨"java/lang/Math", "abs", "(I)I"⟩ prog_23_method_59_code 1 (some .int) ∈ mz_GW := mz_in1 (mz_t5 (List.mem_of_getElem? (i := 71) rfl)) rfl
theorem mw_1109 : Cond.methodLink "FallingBlocks" 203 ⟨"FallingBlocks$Field", "countRowTransitions", "()I"⟩ ∈ mz_GW := mz_in1 (mz_t5 (List.mem_of_getElem? (i := 72) rfl)) rfl
theorem mw_1110 : Cond.instanceMethod ⟨"FallingBlocks$Field", "countRowTransitions", "()I"⟩ ∈ mz_GW := mz_in1 (mz_t5 (List.mem_of_getElem? (i := 73) rfl)) rfl
theorem mw_1111 : Cond.selects "FallingBlocks$Field" ⟨"FallingBlocks$Field", "countRowTransitions", "()I"⟩ ⟨"FallingBlocks$Field", "countRowTransitions", "()I"⟩ ∈ mz_GW := mz_in1 (mz_t5 (List.mem_of_getElem? (i := 74) rfl)) rfl
theorem mw_1112 : Cond.code ⟨"FallingBlocks$Field", "countRowTransitions", "()I"⟩ prog_4_method_16_code 3 (some .int) ∈ mz_GW := mz_in1 (mz_t5 (List.mem_of_getElem? (i := 75) rfl)) rfl
theorem mw_1113 : Cond.methodLink "FallingBlocks$Field" 59 ⟨"FallingBlocks$Field", "countTransitionsIn", "(I)I"⟩ ∈ mz_GW := mz_in1 (mz_t5 (List.mem_of_getElem? (i := 76) rfl)) rfl
theorem mw_1115 : Cond.instanceMethod ⟨"FallingBlocks$Field", "countTransitionsIn", "(I)I"⟩ ∈ mz_GW := mz_in1 (mz_t5 (List.mem_of_getElem? (i := 78) rfl)) rfl
theorem mw_1116 : Cond.code ⟨"FallingBlocks$Field", "countTransitionsIn", "(I)I"⟩ prog_4_method_17_code 4 (some .int) ∈ mz_GW := mz_in1 (mz_t5 (List.mem_of_getElem? (i := 79) rfl)) rfl
theorem mw_1117 : Cond.methodLink "FallingBlocks" 206 ⟨"FallingBlocks$Field", "wellDepth", "()I"⟩ ∈ mz_GW := mz_in1 (mz_t5 (List.mem_of_getElem? (i := 80) rfl)) rfl
theorem mw_1118 : Cond.instanceMethod ⟨"FallingBlocks$Field", "wellDepth", "()I"⟩ ∈ mz_GW := mz_in1 (mz_t5 (List.mem_of_getElem? (i := 81) rfl)) rfl
theorem mw_1119 : Cond.selects "FallingBlocks$Field" ⟨"FallingBlocks$Field", "wellDepth", "()I"⟩ ⟨"FallingBlocks$Field", "wellDepth", "()I"⟩ ∈ mz_GW := mz_in1 (mz_t5 (List.mem_of_getElem? (i := 82) rfl)) rfl
theorem mw_1120 : Cond.code ⟨"FallingBlocks$Field", "wellDepth", "()I"⟩ prog_4_method_18_code 5 (some .int) ∈ mz_GW := mz_in1 (mz_t5 (List.mem_of_getElem? (i := 83) rfl)) rfl
theorem mw_1121 : Cond.methodLink "FallingBlocks$Field" 62 ⟨"java/lang/Math", "min", "(II)I"⟩ ∈ mz_GW := mz_in1 (mz_t5 (List.mem_of_getElem? (i := 84) rfl)) rfl
theorem mw_1122 : Cond.methodLink "FallingBlocksLaw" 181 ⟨"FallingBlocksLaw", "height", "(LFallingBlocks;I[J)I"⟩ ∈ mz_GW := mz_in1 (mz_t5 (List.mem_of_getElem? (i := 85) rfl)) rfl
theorem mw_1123 : Cond.static ⟨"FallingBlocksLaw", "height", "(LFallingBlocks;I[J)I"⟩ ∈ mz_GW := mz_in1 (mz_t5 (List.mem_of_getElem? (i := 86) rfl)) rfl
theorem mw_1124 : Cond.codeWith ⟨"FallingBlocksLaw", "height", "(LFallingBlocks;I[J)I"⟩ method_19_code 4 (some .int) [(0, 9, 12, 27)] ∈ mz_GW := mz_in1 (mz_t5 (List.mem_of_getElem? (i := 87) rfl)) rfl
theorem mw_1125 : Cond.methodLink "FallingBlocksLaw" 73 ⟨"FallingBlocks", "height", "(I)I"⟩ ∈ mz_GW := mz_in1 (mz_t5 (List.mem_of_getElem? (i := 88) rfl)) rfl
theorem mw_1126 : Cond.instanceMethod ⟨"FallingBlocks", "height", "(I)I"⟩ ∈ mz_GW := mz_in1 (mz_t5 (List.mem_of_getElem? (i := 89) rfl)) rfl
theorem mw_1127 : Cond.selects "FallingBlocks" ⟨"FallingBlocks", "height", "(I)I"⟩ ⟨"FallingBlocks", "height", "(I)I"⟩ ∈ mz_GW := mz_in1 (mz_t5 (List.mem_of_getElem? (i := 90) rfl)) rfl
theorem mw_1128 : Cond.code ⟨"FallingBlocks", "height", "(I)I"⟩ prog_1_method_19_code 2 (some .int) ∈ mz_GW := mz_in1 (mz_t5 (List.mem_of_getElem? (i := 91) rfl)) rfl
theorem mw_1130 : Cond.methodLink "FallingBlocks" 211 ⟨"FallingBlocks$Field", "heightOf", "(I)I"⟩ ∈ mz_GW := mz_in1 (mz_t5 (List.mem_of_getElem? (i := 93) rfl)) rfl
theorem mw_1131 : Cond.methodLink "FallingBlocksLaw" 184 ⟨"FallingBlocksLaw", "statistic", "(LFallingBlocks;I[J)I"⟩ ∈ mz_GW := mz_in1 (mz_t5 (List.mem_of_getElem? (i := 94) rfl)) rfl
theorem mw_1132 : Cond.static ⟨"FallingBlocksLaw", "statistic", "(LFallingBlocks;I[J)I"⟩ ∈ mz_GW := mz_in1 (mz_t5 (List.mem_of_getElem? (i := 95) rfl)) rfl
theorem mw_1133 : Cond.codeWith ⟨"FallingBlocksLaw", "statistic", "(LFallingBlocks;I[J)I"⟩ method_20_code 4 (some .int) [(0, 9, 12, 13)] ∈ mz_GW := mz_in1 (mz_t5 (List.mem_of_getElem? (i := 96) rfl)) rfl
theorem mw_1134 : Cond.methodLink "FallingBlocksLaw" 76 ⟨"FallingBlocks", "statistic", "(I)I"⟩ ∈ mz_GW := mz_in1 (mz_t5 (List.mem_of_getElem? (i := 97) rfl)) rfl
theorem mw_1135 : Cond.instanceMethod ⟨"FallingBlocks", "statistic", "(I)I"⟩ ∈ mz_GW := mz_in1 (mz_t5 (List.mem_of_getElem? (i := 98) rfl)) rfl
theorem mw_1136 : Cond.selects "FallingBlocks" ⟨"FallingBlocks", "statistic", "(I)I"⟩ ⟨"FallingBlocks", "statistic", "(I)I"⟩ ∈ mz_GW := mz_in1 (mz_t5 (List.mem_of_getElem? (i := 99) rfl)) rfl
theorem mw_1137 : Cond.code ⟨"FallingBlocks", "statistic", "(I)I"⟩ prog_1_method_20_code 3 (some .int) ∈ mz_GW := mz_in1 (mz_t5 (List.mem_of_getElem? (i := 100) rfl)) rfl
theorem mw_1138 : Cond.methodLink "FallingBlocks" 217 ⟨"FallingBlocks$Score", "level", "()I"⟩ ∈ mz_GW := mz_in1 (mz_t5 (List.mem_of_getElem? (i := 101) rfl)) rfl
theorem mw_1139 : Cond.methodLink "FallingBlocksLaw" 187 ⟨"FallingBlocksLaw", "clears", "(LFallingBlocks;II[J)I"⟩ ∈ mz_GW := mz_in1 (mz_t5 (List.mem_of_getElem? (i := 102) rfl)) rfl
theorem mw_1140 : Cond.static ⟨"FallingBlocksLaw", "clears", "(LFallingBlocks;II[J)I"⟩ ∈ mz_GW := mz_in1 (mz_t5 (List.mem_of_getElem? (i := 103) rfl)) rfl
theorem mw_1141 : Cond.codeWith ⟨"FallingBlocksLaw", "clears", "(LFallingBlocks;II[J)I"⟩ method_21_code 5 (some .int) [(0, 10, 13, 13)] ∈ mz_GW := mz_in1 (mz_t5 (List.mem_of_getElem? (i := 104) rfl)) rfl
theorem mw_1142 : Cond.methodLink "FallingBlocksLaw" 79 ⟨"FallingBlocks", "clears", "(II)I"⟩ ∈ mz_GW := mz_in1 (mz_t5 (List.mem_of_getElem? (i := 105) rfl)) rfl
theorem mw_1143 : Cond.instanceMethod ⟨"FallingBlocks", "clears", "(II)I"⟩ ∈ mz_GW := mz_in1 (mz_t5 (List.mem_of_getElem? (i := 106) rfl)) rfl
theorem mw_1144 : Cond.selects "FallingBlocks" ⟨"FallingBlocks", "clears", "(II)I"⟩ ⟨"FallingBlocks", "clears", "(II)I"⟩ ∈ mz_GW := mz_in1 (mz_t5 (List.mem_of_getElem? (i := 107) rfl)) rfl
theorem mw_1145 : Cond.code ⟨"FallingBlocks", "clears", "(II)I"⟩ prog_1_method_21_code 3 (some .int) ∈ mz_GW := mz_in1 (mz_t5 (List.mem_of_getElem? (i := 108) rfl)) rfl
theorem mw_1146 : Cond.methodLink "FallingBlocks" 239 ⟨"FallingBlocks$Score", "sortOf", "(II)I"⟩ ∈ mz_GW := mz_in1 (mz_t5 (List.mem_of_getElem? (i := 109) rfl)) rfl
theorem mw_1147 : Cond.methodLink "FallingBlocksLaw" 190 ⟨"FallingBlocksLaw", "latest", "(LFallingBlocks;I[J)I"⟩ ∈ mz_GW := mz_in1 (mz_t5 (List.mem_of_getElem? (i := 110) rfl)) rfl
theorem mw_1148 : Cond.static ⟨"FallingBlocksLaw", "latest", "(LFallingBlocks;I[J)I"⟩ ∈ mz_GW := mz_in1 (mz_t5 (List.mem_of_getElem? (i := 111) rfl)) rfl
theorem mw_1149 : Cond.codeWith ⟨"FallingBlocksLaw", "latest", "(LFallingBlocks;I[J)I"⟩ method_22_code 4 (some .int) [(0, 9, 12, 62), (0, 9, 15, 13)] ∈ mz_GW := mz_in1 (mz_t5 (List.mem_of_getElem? (i := 112) rfl)) rfl
theorem mw_1150 : Cond.methodLink "FallingBlocksLaw" 82 ⟨"FallingBlocks", "latest", "(I)I"⟩ ∈ mz_GW := mz_in1 (mz_t5 (List.mem_of_getElem? (i := 113) rfl)) rfl
theorem mw_1151 : Cond.instanceMethod ⟨"FallingBlocks", "latest", "(I)I"⟩ ∈ mz_GW := mz_in1 (mz_t5 (List.mem_of_getElem? (i := 114) rfl)) rfl
theorem mw_1152 : Cond.selects "FallingBlocks" ⟨"FallingBlocks", "latest", "(I)I"⟩ ⟨"FallingBlocks", "latest", "(I)I"⟩ ∈ mz_GW := mz_in1 (mz_t5 (List.mem_of_getElem? (i := 115) rfl)) rfl
theorem mw_1153 : Cond.code ⟨"FallingBlocks", "latest", "(I)I"⟩ prog_1_method_22_code 2 (some .int) ∈ mz_GW := mz_in1 (mz_t5 (List.mem_of_getElem? (i := 116) rfl)) rfl
theorem mw_1155 : Cond.methodLink "FallingBlocksLaw" 193 ⟨"FallingBlocksLaw", "meanFaults", "(LFallingBlocks;[D)I"⟩ ∈ mz_GW := mz_in1 (mz_t5 (List.mem_of_getElem? (i := 118) rfl)) rfl
theorem mw_1156 : Cond.static ⟨"FallingBlocksLaw", "meanFaults", "(LFallingBlocks;[D)I"⟩ ∈ mz_GW := mz_in1 (mz_t5 (List.mem_of_getElem? (i := 119) rfl)) rfl
theorem mw_1157 : Cond.codeWith ⟨"FallingBlocksLaw", "meanFaults", "(LFallingBlocks;[D)I"⟩ method_23_code 3 (some .int) [(0, 7, 10, 89)] ∈ mz_GW := mz_in1 (mz_t5 (List.mem_of_getElem? (i := 120) rfl)) rfl
theorem mw_1158 : Cond.classLink "FallingBlocksLaw" 89 "java/lang/ArithmeticException" ∈ mz_GW := mz_in1 (mz_t5 (List.mem_of_getElem? (i := 121) rfl)) rfl
theorem mw_1159 : Cond.instantiable "java/lang/ArithmeticException" 6 ∈ mz_GW := mz_in1 (mz_t5 (List.mem_of_getElem? (i := 122) rfl)) rfl
theorem mw_1160 : Cond.instanceMethod ⟨"java/lang/ArithmeticException", "<init>", "(Ljava/lang/String;)V"⟩ ∈ mz_GW := mz_in1 (mz_t5 (List.mem_of_getElem? (i := 123) rfl)) rfl
theorem mw_1161 : Cond.code ⟨"java/lang/ArithmeticException", "<init>", "(Ljava/lang/String;)V"⟩ prog_16_method_2_code 2 none ∈ mz_GW := mz_in1 (mz_t5 (List.mem_of_getElem? (i := 124) rfl)) rfl
theorem mw_1162 : Cond.methodLink "java/lang/ArithmeticException" 7 ⟨"java/lang/RuntimeException", "<init>", "(Ljava/lang/String;)V"⟩ ∈ mz_GW := mz_in1 (mz_t5 (List.mem_of_getElem? (i := 125) rfl)) rfl
theorem mw_1163 : Cond.lays "java/lang/ArithmeticException" "java/lang/Throwable" "backtrace" "Ljava/lang/Object;" ∈ mz_GW := mz_in1 (mz_t5 (List.mem_of_getElem? (i := 126) rfl)) rfl
theorem mw_1164 : Cond.lays "java/lang/ArithmeticException" "java/lang/Throwable" "detailMessage" "Ljava/lang/String;" ∈ mz_GW := mz_in1 (mz_t5 (List.mem_of_getElem? (i := 127) rfl)) rfl
theorem mw_1165 : Cond.lays "java/lang/ArithmeticException" "java/lang/Throwable" "cause" "Ljava/lang/Throwable;" ∈ mz_GW := mz_in1 (mz_t5 (List.mem_of_getElem? (i := 128) rfl)) rfl
theorem mw_1166 : Cond.lays "java/lang/ArithmeticException" "java/lang/Throwable" "stackTrace" "[Ljava/lang/StackTraceElement;" ∈ mz_GW := mz_in1 (mz_t5 (List.mem_of_getElem? (i := 129) rfl)) rfl
theorem mw_1168 : Cond.lays "java/lang/ArithmeticException" "java/lang/Throwable" "suppressedExceptions" "Ljava/util/List;" ∈ mz_GW := mz_in1 (mz_t5 (List.mem_of_getElem? (i := 131) rfl)) rfl
theorem mn_1170 : Cond.castable "java/lang/ArithmeticException" "java/lang/ArithmeticException" ∈ lw_tbl := mz_t5 (List.mem_of_getElem? (i := 133) rfl)
theorem mw_1171 : Cond.selects "java/lang/ArithmeticException" ⟨"java/lang/Throwable", "fillInStackTrace", "(I)Ljava/lang/Throwable;"⟩ ⟨"java/lang/Throwable", "fillInStackTrace", "(I)Ljava/lang/Throwable;"⟩ ∈ mz_GW := mz_in1 (mz_t5 (List.mem_of_getElem? (i := 134) rfl)) rfl
theorem mw_1172 : Cond.methodLink "FallingBlocksLaw" 85 ⟨"FallingBlocks", "meanFaults", "()D"⟩ ∈ mz_GW := mz_in1 (mz_t5 (List.mem_of_getElem? (i := 135) rfl)) rfl
theorem mw_1173 : Cond.instanceMethod ⟨"FallingBlocks", "meanFaults", "()D"⟩ ∈ mz_GW := mz_in1 (mz_t5 (List.mem_of_getElem? (i := 136) rfl)) rfl
theorem mw_1174 : Cond.selects "FallingBlocks" ⟨"FallingBlocks", "meanFaults", "()D"⟩ ⟨"FallingBlocks", "meanFaults", "()D"⟩ ∈ mz_GW := mz_in1 (mz_t5 (List.mem_of_getElem? (i := 137) rfl)) rfl
theorem mw_1175 : Cond.code ⟨"FallingBlocks", "meanFaults", "()D"⟩ prog_1_method_23_code 1 (some .double) ∈ mz_GW := mz_in1 (mz_t5 (List.mem_of_getElem? (i := 138) rfl)) rfl
theorem mw_1176 : Cond.classLink "FallingBlocks" 248 "java/lang/ArithmeticException" ∈ mz_GW := mz_in1 (mz_t5 (List.mem_of_getElem? (i := 139) rfl)) rfl
theorem mw_1178 : Cond.methodLink "FallingBlocks" 252 ⟨"java/lang/ArithmeticException", "<init>", "(Ljava/lang/String;)V"⟩ ∈ mz_GW := mz_in1 (mz_t5 (List.mem_of_getElem? (i := 141) rfl)) rfl
theorem mw_1179 : Cond.methodLink "FallingBlocksLaw" 197 ⟨"FallingBlocksLaw", "leastInputs", "(LFallingBlocks;III[J)I"⟩ ∈ mz_GW := mz_in1 (mz_t5 (List.mem_of_getElem? (i := 142) rfl)) rfl
theorem mw_1180 : Cond.static ⟨"FallingBlocksLaw", "leastInputs", "(LFallingBlocks;III[J)I"⟩ ∈ mz_GW := mz_in1 (mz_t5 (List.mem_of_getElem? (i := 143) rfl)) rfl
theorem mw_1181 : Cond.codeWith ⟨"FallingBlocksLaw", "leastInputs", "(LFallingBlocks;III[J)I"⟩ method_24_code 6 (some .int) [(0, 12, 15, 13), (0, 12, 19, 62)] ∈ mz_GW := mz_in1 (mz_t5 (List.mem_of_getElem? (i := 144) rfl)) rfl
theorem mw_1182 : Cond.methodLink "FallingBlocksLaw" 91 ⟨"FallingBlocks", "leastInputs", "(III)I"⟩ ∈ mz_GW := mz_in1 (mz_t5 (List.mem_of_getElem? (i := 145) rfl)) rfl
theorem mw_1183 : Cond.instanceMethod ⟨"FallingBlocks", "leastInputs", "(III)I"⟩ ∈ mz_GW := mz_in1 (mz_t5 (List.mem_of_getElem? (i := 146) rfl)) rfl
theorem mw_1184 : Cond.selects "FallingBlocks" ⟨"FallingBlocks", "leastInputs", "(III)I"⟩ ⟨"FallingBlocks", "leastInputs", "(III)I"⟩ ∈ mz_GW := mz_in1 (mz_t5 (List.mem_of_getElem? (i := 147) rfl)) rfl
theorem mw_1185 : Cond.code ⟨"FallingBlocks", "leastInputs", "(III)I"⟩ prog_1_method_24_code 5 (some .int) ∈ mz_GW := mz_in1 (mz_t5 (List.mem_of_getElem? (i := 148) rfl)) rfl
theorem mw_1186 : Cond.methodLink "FallingBlocks" 257 ⟨"FallingBlocks$Finesse", "leastTo", "(III)I"⟩ ∈ mz_GW := mz_in1 (mz_t5 (List.mem_of_getElem? (i := 149) rfl)) rfl
theorem mw_1188 : Cond.methodLink "FallingBlocksLaw" 201 ⟨"FallingBlocksLaw", "placements", "(LFallingBlocks;[J)I"⟩ ∈ mz_GW := mz_in1 (mz_t5 (List.mem_of_getElem? (i := 151) rfl)) rfl
theorem mw_1189 : Cond.static ⟨"FallingBlocksLaw", "placements", "(LFallingBlocks;[J)I"⟩ ∈ mz_GW := mz_in1 (mz_t5 (List.mem_of_getElem? (i := 152) rfl)) rfl
theorem mw_1190 : Cond.codeWith ⟨"FallingBlocksLaw", "placements", "(LFallingBlocks;[J)I"⟩ method_25_code 3 (some .int) [(0, 8, 11, 22)] ∈ mz_GW := mz_in1 (mz_t5 (List.mem_of_getElem? (i := 153) rfl)) rfl
theorem mw_1191 : Cond.methodLink "FallingBlocksLaw" 95 ⟨"FallingBlocks", "placements", "()I"⟩ ∈ mz_GW := mz_in1 (mz_t5 (List.mem_of_getElem? (i := 154) rfl)) rfl
theorem mw_1192 : Cond.instanceMethod ⟨"FallingBlocks", "placements", "()I"⟩ ∈ mz_GW := mz_in1 (mz_t5 (List.mem_of_getElem? (i := 155) rfl)) rfl
theorem mw_1193 : Cond.selects "FallingBlocks" ⟨"FallingBlocks", "placements", "()I"⟩ ⟨"FallingBlocks", "placements", "()I"⟩ ∈ mz_GW := mz_in1 (mz_t5 (List.mem_of_getElem? (i := 156) rfl)) rfl
theorem mw_1194 : Cond.code ⟨"FallingBlocks", "placements", "()I"⟩ prog_1_method_25_code 1 (some .int) ∈ mz_GW := mz_in1 (mz_t5 (List.mem_of_getElem? (i := 157) rfl)) rfl
theorem mw_1195 : Cond.methodLink "FallingBlocks" 269 ⟨"FallingBlocks$Search", "prepare", "(LFallingBlocks$Game;)V"⟩ ∈ mz_GW := mz_in1 (mz_t5 (List.mem_of_getElem? (i := 158) rfl)) rfl
theorem mw_1196 : Cond.instanceMethod ⟨"FallingBlocks$Search", "prepare", "(LFallingBlocks$Game;)V"⟩ ∈ mz_GW := mz_in1 (mz_t5 (List.mem_of_getElem? (i := 159) rfl)) rfl
theorem mw_1197 : Cond.selects "FallingBlocks$Search" ⟨"FallingBlocks$Search", "prepare", "(LFallingBlocks$Game;)V"⟩ ⟨"FallingBlocks$Search", "prepare", "(LFallingBlocks$Game;)V"⟩ ∈ mz_GW := mz_in1 (mz_t5 (List.mem_of_getElem? (i := 160) rfl)) rfl
theorem mw_1198 : Cond.code ⟨"FallingBlocks$Search", "prepare", "(LFallingBlocks$Game;)V"⟩ prog_12_method_2_code 3 none ∈ mz_GW := mz_in1 (mz_t5 (List.mem_of_getElem? (i := 161) rfl)) rfl
theorem mw_1199 : Cond.methodLink "FallingBlocks$Search" 55 ⟨"FallingBlocks$Position", "isSame", "(LFallingBlocks$Position;)Z"⟩ ∈ mz_GW := mz_in1 (mz_t5 (List.mem_of_getElem? (i := 162) rfl)) rfl
theorem mw_1200 : Cond.instanceMethod ⟨"FallingBlocks$Position", "isSame", "(LFallingBlocks$Position;)Z"⟩ ∈ mz_GW := mz_in1 (mz_t5 (List.mem_of_getElem? (i := 163) rfl)) rfl
theorem mw_1201 : Cond.selects "FallingBlocks$Position" ⟨"FallingBlocks$Position", "isSame", "(LFallingBlocks$Position;)Z"⟩ ⟨"FallingBlocks$Position", "isSame", "(LFallingBlocks$Position;)Z"⟩ ∈ mz_GW := mz_in1 (mz_t5 (List.mem_of_getElem? (i := 164) rfl)) rfl
theorem mw_1202 : Cond.code ⟨"FallingBlocks$Position", "isSame", "(LFallingBlocks$Position;)Z"⟩ prog_10_method_4_code 2 (some .boolean) ∈ mz_GW := mz_in1 (mz_t5 (List.mem_of_getElem? (i := 165) rfl)) rfl
theorem mw_1203 : Cond.methodLink "FallingBlocks$Search" 60 ⟨"FallingBlocks$Field", "isSame", "(LFallingBlocks$Field;)Z"⟩ ∈ mz_GW := mz_in1 (mz_t5 (List.mem_of_getElem? (i := 166) rfl)) rfl
theorem mw_1204 : Cond.instanceMethod ⟨"FallingBlocks$Field", "isSame", "(LFallingBlocks$Field;)Z"⟩ ∈ mz_GW := mz_in1 (mz_t5 (List.mem_of_getElem? (i := 167) rfl)) rfl
theorem mw_1205 : Cond.selects "FallingBlocks$Field" ⟨"FallingBlocks$Field", "isSame", "(LFallingBlocks$Field;)Z"⟩ ⟨"FallingBlocks$Field", "isSame", "(LFallingBlocks$Field;)Z"⟩ ∈ mz_GW := mz_in1 (mz_t5 (List.mem_of_getElem? (i := 168) rfl)) rfl
theorem mw_1206 : Cond.code ⟨"FallingBlocks$Field", "isSame", "(LFallingBlocks$Field;)Z"⟩ prog_4_method_4_code 3 (some .boolean) ∈ mz_GW := mz_in1 (mz_t5 (List.mem_of_getElem? (i := 169) rfl)) rfl
theorem mw_1207 : Cond.methodLink "FallingBlocks$Search" 63 ⟨"FallingBlocks$Position", "copyFrom", "(LFallingBlocks$Position;)V"⟩ ∈ mz_GW := mz_in1 (mz_t5 (List.mem_of_getElem? (i := 170) rfl)) rfl
theorem mw_1208 : Cond.methodLink "FallingBlocks$Search" 67 ⟨"FallingBlocks$Field", "copyFrom", "(LFallingBlocks$Field;)V"⟩ ∈ mz_GW := mz_in1 (mz_t5 (List.mem_of_getElem? (i := 171) rfl)) rfl
theorem mw_1209 : Cond.methodLink "FallingBlocks$Search" 70 ⟨"FallingBlocks$Search", "explore", "()V"⟩ ∈ mz_GW := mz_in1 (mz_t5 (List.mem_of_getElem? (i := 172) rfl)) rfl
theorem mw_1211 : Cond.instanceMethod ⟨"FallingBlocks$Search", "explore", "()V"⟩ ∈ mz_GW := mz_in1 (mz_t5 (List.mem_of_getElem? (i := 174) rfl)) rfl
theorem mw_1212 : Cond.code ⟨"FallingBlocks$Search", "explore", "()V"⟩ prog_12_method_5_code 3 none ∈ mz_GW := mz_in1 (mz_t5 (List.mem_of_getElem? (i := 175) rfl)) rfl
theorem mw_1213 : Cond.methodLink "FallingBlocks$Search" 84 ⟨"java/util/Arrays", "fill", "([II)V"⟩ ∈ mz_GW := mz_in1 (mz_t5 (List.mem_of_getElem? (i := 176) rfl)) rfl
theorem mw_1214 : Cond.methodLink "FallingBlocks$Search" 93 ⟨"FallingBlocks$Search", "reach", "()V"⟩ ∈ mz_GW := mz_in1 (mz_t5 (List.mem_of_getElem? (i := 177) rfl)) rfl
theorem mw_1216 : Cond.instanceMethod ⟨"FallingBlocks$Search", "reach", "()V"⟩ ∈ mz_GW := mz_in1 (mz_t5 (List.mem_of_getElem? (i := 179) rfl)) rfl
theorem mw_1217 : Cond.code ⟨"FallingBlocks$Search", "reach", "()V"⟩ prog_12_method_6_code 3 none ∈ mz_GW := mz_in1 (mz_t5 (List.mem_of_getElem? (i := 180) rfl)) rfl
theorem mw_1218 : Cond.methodLink "FallingBlocks$Search" 80 ⟨"FallingBlocks$Search", "goTo", "(ILFallingBlocks$Position;)V"⟩ ∈ mz_GW := mz_in1 (mz_t5 (List.mem_of_getElem? (i := 181) rfl)) rfl
theorem mw_1219 : Cond.static ⟨"FallingBlocks$Search", "goTo", "(ILFallingBlocks$Position;)V"⟩ ∈ mz_GW := mz_in1 (mz_t5 (List.mem_of_getElem? (i := 182) rfl)) rfl
theorem mw_1220 : Cond.code ⟨"FallingBlocks$Search", "goTo", "(ILFallingBlocks$Position;)V"⟩ prog_12_method_7_code 2 none ∈ mz_GW := mz_in1 (mz_t5 (List.mem_of_getElem? (i := 183) rfl)) rfl
theorem mw_1221 : Cond.methodLink "FallingBlocks$Search" 96 ⟨"FallingBlocks$Position", "moveBy", "(IILFallingBlocks$Field;)Z"⟩ ∈ mz_GW := mz_in1 (mz_t5 (List.mem_of_getElem? (i := 184) rfl)) rfl
theorem mw_1222 : Cond.methodLink "FallingBlocks$Search" 100 ⟨"FallingBlocks$Search", "keyOfPlacement", "()J"⟩ ∈ mz_GW := mz_in1 (mz_t5 (List.mem_of_getElem? (i := 185) rfl)) rfl
theorem mw_1224 : Cond.instanceMethod ⟨"FallingBlocks$Search", "keyOfPlacement", "()J"⟩ ∈ mz_GW := mz_in1 (mz_t5 (List.mem_of_getElem? (i := 187) rfl)) rfl
theorem mw_1225 : Cond.code ⟨"FallingBlocks$Search", "keyOfPlacement", "()J"⟩ prog_12_method_8_code 4 (some .long) ∈ mz_GW := mz_in1 (mz_t5 (List.mem_of_getElem? (i := 188) rfl)) rfl
theorem mw_1226 : Cond.methodLink "FallingBlocks$Search" 121 ⟨"FallingBlocks$Field", "fillWith", "(LFallingBlocks$Position;)V"⟩ ∈ mz_GW := mz_in1 (mz_t5 (List.mem_of_getElem? (i := 189) rfl)) rfl
theorem mw_1227 : Cond.methodLink "FallingBlocks$Search" 124 ⟨"FallingBlocks$Field", "clearFullRows", "()I"⟩ ∈ mz_GW := mz_in1 (mz_t5 (List.mem_of_getElem? (i := 190) rfl)) rfl
theorem mw_1228 : Cond.methodLink "FallingBlocks$Search" 128 ⟨"FallingBlocks$Field", "countHoles", "()I"⟩ ∈ mz_GW := mz_in1 (mz_t5 (List.mem_of_getElem? (i := 191) rfl)) rfl
theorem mw_1229 : Cond.methodLink "FallingBlocks$Search" 131 ⟨"FallingBlocks$Field", "totalHeight", "()I"⟩ ∈ mz_GW := mz_in1 (mz_t5 (List.mem_of_getElem? (i := 192) rfl)) rfl
theorem mw_1230 : Cond.methodLink "FallingBlocks$Search" 134 ⟨"FallingBlocks$Field", "roughness", "()I"⟩ ∈ mz_GW := mz_in1 (mz_t5 (List.mem_of_getElem? (i := 193) rfl)) rfl
theorem mw_1231 : Cond.methodLink "FallingBlocks$Search" 137 ⟨"FallingBlocks$Position", "cellAt", "(I)I"⟩ ∈ mz_GW := mz_in1 (mz_t5 (List.mem_of_getElem? (i := 194) rfl)) rfl
theorem mw_1232 : Cond.methodLink "FallingBlocks$Search" 104 ⟨"FallingBlocks$Search", "insert", "(JI)V"⟩ ∈ mz_GW := mz_in1 (mz_t5 (List.mem_of_getElem? (i := 195) rfl)) rfl
theorem mw_1234 : Cond.instanceMethod ⟨"FallingBlocks$Search", "insert", "(JI)V"⟩ ∈ mz_GW := mz_in1 (mz_t5 (List.mem_of_getElem? (i := 197) rfl)) rfl
theorem mw_1235 : Cond.code ⟨"FallingBlocks$Search", "insert", "(JI)V"⟩ prog_12_method_9_code 6 none ∈ mz_GW := mz_in1 (mz_t5 (List.mem_of_getElem? (i := 198) rfl)) rfl
theorem mw_1236 : Cond.methodLink "FallingBlocks$Search" 108 ⟨"FallingBlocks$Position", "turnBy", "(ILFallingBlocks$Field;)I"⟩ ∈ mz_GW := mz_in1 (mz_t5 (List.mem_of_getElem? (i := 199) rfl)) rfl
theorem mw_1237 : Cond.methodLink "FallingBlocksLaw" 204 ⟨"FallingBlocksLaw", "placement", "(LFallingBlocks;II[J)I"⟩ ∈ mz_GW := mz_in1 (mz_t5 (List.mem_of_getElem? (i := 200) rfl)) rfl
theorem mw_1238 : Cond.static ⟨"FallingBlocksLaw", "placement", "(LFallingBlocks;II[J)I"⟩ ∈ mz_GW := mz_in1 (mz_t5 (List.mem_of_getElem? (i := 201) rfl)) rfl
theorem mw_1239 : Cond.codeWith ⟨"FallingBlocksLaw", "placement", "(LFallingBlocks;II[J)I"⟩ method_26_code 5 (some .int) [(0, 10, 13, 22), (0, 10, 17, 62), (0, 10, 21, 13)] ∈ mz_GW := mz_in1 (mz_t5 (List.mem_of_getElem? (i := 202) rfl)) rfl
theorem mw_1240 : Cond.methodLink "FallingBlocksLaw" 98 ⟨"FallingBlocks", "placement", "(II)I"⟩ ∈ mz_GW := mz_in1 (mz_t5 (List.mem_of_getElem? (i := 203) rfl)) rfl
theorem mw_1241 : Cond.instanceMethod ⟨"FallingBlocks", "placement", "(II)I"⟩ ∈ mz_GW := mz_in1 (mz_t5 (List.mem_of_getElem? (i := 204) rfl)) rfl
theorem mw_1242 : Cond.selects "FallingBlocks" ⟨"FallingBlocks", "placement", "(II)I"⟩ ⟨"FallingBlocks", "placement", "(II)I"⟩ ∈ mz_GW := mz_in1 (mz_t5 (List.mem_of_getElem? (i := 205) rfl)) rfl
theorem mw_1243 : Cond.code ⟨"FallingBlocks", "placement", "(II)I"⟩ prog_1_method_26_code 3 (some .int) ∈ mz_GW := mz_in1 (mz_t5 (List.mem_of_getElem? (i := 206) rfl)) rfl
theorem mw_1245 : Cond.methodLink "FallingBlocks" 280 ⟨"FallingBlocks$Search", "numberAbout", "(II)I"⟩ ∈ mz_GW := mz_in1 (mz_t5 (List.mem_of_getElem? (i := 208) rfl)) rfl
theorem mw_1246 : Cond.instanceMethod ⟨"FallingBlocks$Search", "numberAbout", "(II)I"⟩ ∈ mz_GW := mz_in1 (mz_t5 (List.mem_of_getElem? (i := 209) rfl)) rfl
theorem mw_1247 : Cond.selects "FallingBlocks$Search" ⟨"FallingBlocks$Search", "numberAbout", "(II)I"⟩ ⟨"FallingBlocks$Search", "numberAbout", "(II)I"⟩ ∈ mz_GW := mz_in1 (mz_t5 (List.mem_of_getElem? (i := 210) rfl)) rfl
theorem mw_1248 : Cond.code ⟨"FallingBlocks$Search", "numberAbout", "(II)I"⟩ prog_12_method_3_code 4 (some .int) ∈ mz_GW := mz_in1 (mz_t5 (List.mem_of_getElem? (i := 211) rfl)) rfl
theorem mw_1249 : Cond.methodLink "FallingBlocksLaw" 207 ⟨"FallingBlocksLaw", "placeBest", "(LFallingBlocks;[J)I"⟩ ∈ mz_GW := mz_in1 (mz_t5 (List.mem_of_getElem? (i := 212) rfl)) rfl
theorem mw_1250 : Cond.static ⟨"FallingBlocksLaw", "placeBest", "(LFallingBlocks;[J)I"⟩ ∈ mz_GW := mz_in1 (mz_t5 (List.mem_of_getElem? (i := 213) rfl)) rfl
theorem mw_1251 : Cond.codeWith ⟨"FallingBlocksLaw", "placeBest", "(LFallingBlocks;[J)I"⟩ method_27_code 3 (some .int) [(0, 8, 11, 22)] ∈ mz_GW := mz_in1 (mz_t5 (List.mem_of_getElem? (i := 214) rfl)) rfl
theorem mw_1252 : Cond.methodLink "FallingBlocksLaw" 101 ⟨"FallingBlocks", "placeBest", "()I"⟩ ∈ mz_GW := mz_in1 (mz_t5 (List.mem_of_getElem? (i := 215) rfl)) rfl
theorem mw_1253 : Cond.instanceMethod ⟨"FallingBlocks", "placeBest", "()I"⟩ ∈ mz_GW := mz_in1 (mz_t5 (List.mem_of_getElem? (i := 216) rfl)) rfl
theorem mw_1254 : Cond.selects "FallingBlocks" ⟨"FallingBlocks", "placeBest", "()I"⟩ ⟨"FallingBlocks", "placeBest", "()I"⟩ ∈ mz_GW := mz_in1 (mz_t5 (List.mem_of_getElem? (i := 217) rfl)) rfl
theorem mw_1255 : Cond.code ⟨"FallingBlocks", "placeBest", "()I"⟩ prog_1_method_27_code 1 (some .int) ∈ mz_GW := mz_in1 (mz_t5 (List.mem_of_getElem? (i := 218) rfl)) rfl
theorem mw_1256 : Cond.methodLink "FallingBlocks" 283 ⟨"FallingBlocks$Engine", "lockInBestPlacement", "()I"⟩ ∈ mz_GW := mz_in1 (mz_t5 (List.mem_of_getElem? (i := 219) rfl)) rfl
theorem mw_1257 : Cond.instanceMethod ⟨"FallingBlocks$Engine", "lockInBestPlacement", "()I"⟩ ∈ mz_GW := mz_in1 (mz_t5 (List.mem_of_getElem? (i := 220) rfl)) rfl
theorem mw_1258 : Cond.selects "FallingBlocks$Engine" ⟨"FallingBlocks$Engine", "lockInBestPlacement", "()I"⟩ ⟨"FallingBlocks$Engine", "lockInBestPlacement", "()I"⟩ ∈ mz_GW := mz_in1 (mz_t5 (List.mem_of_getElem? (i := 221) rfl)) rfl
theorem mw_1259 : Cond.code ⟨"FallingBlocks$Engine", "lockInBestPlacement", "()I"⟩ prog_3_method_14_code 1 (some .int) ∈ mz_GW := mz_in1 (mz_t5 (List.mem_of_getElem? (i := 222) rfl)) rfl
theorem mw_1260 : Cond.methodLink "FallingBlocks$Engine" 183 ⟨"FallingBlocks$Search", "moveToBest", "(LFallingBlocks$Position;)V"⟩ ∈ mz_GW := mz_in1 (mz_t5 (List.mem_of_getElem? (i := 223) rfl)) rfl
theorem mw_1261 : Cond.instanceMethod ⟨"FallingBlocks$Search", "moveToBest", "(LFallingBlocks$Position;)V"⟩ ∈ mz_GW := mz_in1 (mz_t5 (List.mem_of_getElem? (i := 224) rfl)) rfl
theorem mw_1262 : Cond.selects "FallingBlocks$Search" ⟨"FallingBlocks$Search", "moveToBest", "(LFallingBlocks$Position;)V"⟩ ⟨"FallingBlocks$Search", "moveToBest", "(LFallingBlocks$Position;)V"⟩ ∈ mz_GW := mz_in1 (mz_t5 (List.mem_of_getElem? (i := 225) rfl)) rfl
theorem mw_1263 : Cond.code ⟨"FallingBlocks$Search", "moveToBest", "(LFallingBlocks$Position;)V"⟩ prog_12_method_4_code 2 none ∈ mz_GW := mz_in1 (mz_t5 (List.mem_of_getElem? (i := 226) rfl)) rfl
theorem mw_1264 : Cond.methodLink "FallingBlocksLaw" 210 ⟨"FallingBlocksLaw", "append", "(LFallingBlocks;C)I"⟩ ∈ mz_GW := mz_in1 (mz_t5 (List.mem_of_getElem? (i := 227) rfl)) rfl
theorem mw_1265 : Cond.static ⟨"FallingBlocksLaw", "append", "(LFallingBlocks;C)I"⟩ ∈ mz_GW := mz_in1 (mz_t5 (List.mem_of_getElem? (i := 228) rfl)) rfl
theorem mw_1266 : Cond.codeWith ⟨"FallingBlocksLaw", "append", "(LFallingBlocks;C)I"⟩ method_28_code 3 (some .int) [(0, 5, 8, 22)] ∈ mz_GW := mz_in1 (mz_t5 (List.mem_of_getElem? (i := 229) rfl)) rfl
theorem mw_1267 : Cond.methodLink "FallingBlocksLaw" 104 ⟨"FallingBlocks", "append", "(C)V"⟩ ∈ mz_GW := mz_in1 (mz_t5 (List.mem_of_getElem? (i := 230) rfl)) rfl
theorem mw_1268 : Cond.instanceMethod ⟨"FallingBlocks", "append", "(C)V"⟩ ∈ mz_GW := mz_in1 (mz_t5 (List.mem_of_getElem? (i := 231) rfl)) rfl
theorem mw_1269 : Cond.selects "FallingBlocks" ⟨"FallingBlocks", "append", "(C)V"⟩ ⟨"FallingBlocks", "append", "(C)V"⟩ ∈ mz_GW := mz_in1 (mz_t5 (List.mem_of_getElem? (i := 232) rfl)) rfl
theorem mw_1270 : Cond.code ⟨"FallingBlocks", "append", "(C)V"⟩ prog_1_method_28_code 2 none ∈ mz_GW := mz_in1 (mz_t5 (List.mem_of_getElem? (i := 233) rfl)) rfl
theorem mw_1271 : Cond.methodLink "FallingBlocks" 286 ⟨"FallingBlocks$InputText", "add", "(C)Z"⟩ ∈ mz_GW := mz_in1 (mz_t5 (List.mem_of_getElem? (i := 234) rfl)) rfl
theorem mw_1272 : Cond.instanceMethod ⟨"FallingBlocks$InputText", "add", "(C)Z"⟩ ∈ mz_GW := mz_in1 (mz_t5 (List.mem_of_getElem? (i := 235) rfl)) rfl
theorem mw_1273 : Cond.selects "FallingBlocks$InputText" ⟨"FallingBlocks$InputText", "add", "(C)Z"⟩ ⟨"FallingBlocks$InputText", "add", "(C)Z"⟩ ∈ mz_GW := mz_in1 (mz_t5 (List.mem_of_getElem? (i := 236) rfl)) rfl
theorem mw_1274 : Cond.code ⟨"FallingBlocks$InputText", "add", "(C)Z"⟩ prog_7_method_2_code 2 (some .boolean) ∈ mz_GW := mz_in1 (mz_t5 (List.mem_of_getElem? (i := 237) rfl)) rfl
theorem mw_1276 : Cond.methodLink "FallingBlocksLaw" 214 ⟨"FallingBlocksLaw", "play", "(LFallingBlocks;[J)I"⟩ ∈ mz_GW := mz_in1 (mz_t5 (List.mem_of_getElem? (i := 239) rfl)) rfl
theorem mw_1277 : Cond.static ⟨"FallingBlocksLaw", "play", "(LFallingBlocks;[J)I"⟩ ∈ mz_GW := mz_in1 (mz_t6 (List.mem_of_getElem? (i := 0) rfl)) rfl
theorem mw_1278 : Cond.codeWith ⟨"FallingBlocksLaw", "play", "(LFallingBlocks;[J)I"⟩ method_29_code 3 (some .int) [(0, 8, 11, 13), (0, 8, 14, 22)] ∈ mz_GW := mz_in1 (mz_t6 (List.mem_of_getElem? (i := 1) rfl)) rfl
theorem mw_1279 : Cond.methodLink "FallingBlocksLaw" 108 ⟨"FallingBlocks", "play", "()I"⟩ ∈ mz_GW := mz_in1 (mz_t6 (List.mem_of_getElem? (i := 2) rfl)) rfl
theorem mw_1280 : Cond.instanceMethod ⟨"FallingBlocks", "play", "()I"⟩ ∈ mz_GW := mz_in1 (mz_t6 (List.mem_of_getElem? (i := 3) rfl)) rfl
theorem mw_1281 : Cond.selects "FallingBlocks" ⟨"FallingBlocks", "play", "()I"⟩ ⟨"FallingBlocks", "play", "()I"⟩ ∈ mz_GW := mz_in1 (mz_t6 (List.mem_of_getElem? (i := 4) rfl)) rfl
theorem mw_1282 : Cond.code ⟨"FallingBlocks", "play", "()I"⟩ prog_1_method_29_code 5 (some .int) ∈ mz_GW := mz_in1 (mz_t6 (List.mem_of_getElem? (i := 5) rfl)) rfl
theorem mw_1283 : Cond.methodLink "FallingBlocks" 295 ⟨"FallingBlocks$InputText", "finish", "()Z"⟩ ∈ mz_GW := mz_in1 (mz_t6 (List.mem_of_getElem? (i := 6) rfl)) rfl
theorem mw_1284 : Cond.instanceMethod ⟨"FallingBlocks$InputText", "finish", "()Z"⟩ ∈ mz_GW := mz_in1 (mz_t6 (List.mem_of_getElem? (i := 7) rfl)) rfl
theorem mw_1285 : Cond.selects "FallingBlocks$InputText" ⟨"FallingBlocks$InputText", "finish", "()Z"⟩ ⟨"FallingBlocks$InputText", "finish", "()Z"⟩ ∈ mz_GW := mz_in1 (mz_t6 (List.mem_of_getElem? (i := 8) rfl)) rfl
theorem mw_1286 : Cond.code ⟨"FallingBlocks$InputText", "finish", "()Z"⟩ prog_7_method_3_code 1 (some .boolean) ∈ mz_GW := mz_in1 (mz_t6 (List.mem_of_getElem? (i := 9) rfl)) rfl
theorem mw_1287 : Cond.methodLink "FallingBlocks$InputText" 25 ⟨"FallingBlocks$InputText", "findFault", "()I"⟩ ∈ mz_GW := mz_in1 (mz_t6 (List.mem_of_getElem? (i := 10) rfl)) rfl
theorem mw_1289 : Cond.instanceMethod ⟨"FallingBlocks$InputText", "findFault", "()I"⟩ ∈ mz_GW := mz_in1 (mz_t6 (List.mem_of_getElem? (i := 12) rfl)) rfl
theorem mw_1290 : Cond.code ⟨"FallingBlocks$InputText", "findFault", "()I"⟩ prog_7_method_4_code 4 (some .int) ∈ mz_GW := mz_in1 (mz_t6 (List.mem_of_getElem? (i := 13) rfl)) rfl
theorem mw_1291 : Cond.methodLink "FallingBlocks$InputText" 29 ⟨"FallingBlocks$InputText", "isDigit", "(C)Z"⟩ ∈ mz_GW := mz_in1 (mz_t6 (List.mem_of_getElem? (i := 14) rfl)) rfl
theorem mw_1292 : Cond.static ⟨"FallingBlocks$InputText", "isDigit", "(C)Z"⟩ ∈ mz_GW := mz_in1 (mz_t6 (List.mem_of_getElem? (i := 15) rfl)) rfl
theorem mw_1293 : Cond.code ⟨"FallingBlocks$InputText", "isDigit", "(C)Z"⟩ prog_7_method_6_code 1 (some .boolean) ∈ mz_GW := mz_in1 (mz_t6 (List.mem_of_getElem? (i := 16) rfl)) rfl
theorem mw_1294 : Cond.methodLink "FallingBlocks$InputText" 33 ⟨"FallingBlocks$InputText", "isLetter", "(C)Z"⟩ ∈ mz_GW := mz_in1 (mz_t6 (List.mem_of_getElem? (i := 17) rfl)) rfl
theorem mw_1295 : Cond.static ⟨"FallingBlocks$InputText", "isLetter", "(C)Z"⟩ ∈ mz_GW := mz_in1 (mz_t6 (List.mem_of_getElem? (i := 18) rfl)) rfl
theorem mw_1296 : Cond.code ⟨"FallingBlocks$InputText", "isLetter", "(C)Z"⟩ prog_7_method_7_code 1 (some .boolean) ∈ mz_GW := mz_in1 (mz_t6 (List.mem_of_getElem? (i := 19) rfl)) rfl
theorem mw_1298 : Cond.methodLink "FallingBlocks" 303 ⟨"FallingBlocks$InputText", "timesAt", "(I)I"⟩ ∈ mz_GW := mz_in1 (mz_t6 (List.mem_of_getElem? (i := 21) rfl)) rfl
theorem mw_1299 : Cond.instanceMethod ⟨"FallingBlocks$InputText", "timesAt", "(I)I"⟩ ∈ mz_GW := mz_in1 (mz_t6 (List.mem_of_getElem? (i := 22) rfl)) rfl
theorem mw_1300 : Cond.selects "FallingBlocks$InputText" ⟨"FallingBlocks$InputText", "timesAt", "(I)I"⟩ ⟨"FallingBlocks$InputText", "timesAt", "(I)I"⟩ ∈ mz_GW := mz_in1 (mz_t6 (List.mem_of_getElem? (i := 23) rfl)) rfl
theorem mw_1301 : Cond.code ⟨"FallingBlocks$InputText", "timesAt", "(I)I"⟩ prog_7_method_5_code 3 (some .int) ∈ mz_GW := mz_in1 (mz_t6 (List.mem_of_getElem? (i := 24) rfl)) rfl
theorem mw_1302 : Cond.methodLink "FallingBlocks" 310 ⟨"FallingBlocks", "carryOut", "(C)Z"⟩ ∈ mz_GW := mz_in1 (mz_t6 (List.mem_of_getElem? (i := 25) rfl)) rfl
theorem mw_1304 : Cond.instanceMethod ⟨"FallingBlocks", "carryOut", "(C)Z"⟩ ∈ mz_GW := mz_in1 (mz_t6 (List.mem_of_getElem? (i := 27) rfl)) rfl
theorem mw_1305 : Cond.code ⟨"FallingBlocks", "carryOut", "(C)Z"⟩ prog_1_method_38_code 2 (some .boolean) ∈ mz_GW := mz_in1 (mz_t6 (List.mem_of_getElem? (i := 28) rfl)) rfl
theorem mw_1306 : Cond.methodLink "FallingBlocksLaw" 221 ⟨"FallingBlocksLaw", "undo", "(LFallingBlocks;[J)I"⟩ ∈ mz_GW := mz_in1 (mz_t6 (List.mem_of_getElem? (i := 29) rfl)) rfl
theorem mw_1307 : Cond.static ⟨"FallingBlocksLaw", "undo", "(LFallingBlocks;[J)I"⟩ ∈ mz_GW := mz_in1 (mz_t6 (List.mem_of_getElem? (i := 30) rfl)) rfl
theorem mw_1308 : Cond.codeWith ⟨"FallingBlocksLaw", "undo", "(LFallingBlocks;[J)I"⟩ method_30_code 3 (some .int) [(0, 8, 11, 57)] ∈ mz_GW := mz_in1 (mz_t6 (List.mem_of_getElem? (i := 31) rfl)) rfl
theorem mw_1309 : Cond.methodLink "FallingBlocksLaw" 111 ⟨"FallingBlocks", "undo", "()I"⟩ ∈ mz_GW := mz_in1 (mz_t6 (List.mem_of_getElem? (i := 32) rfl)) rfl
theorem mw_1310 : Cond.instanceMethod ⟨"FallingBlocks", "undo", "()I"⟩ ∈ mz_GW := mz_in1 (mz_t6 (List.mem_of_getElem? (i := 33) rfl)) rfl
theorem mw_1311 : Cond.selects "FallingBlocks" ⟨"FallingBlocks", "undo", "()I"⟩ ⟨"FallingBlocks", "undo", "()I"⟩ ∈ mz_GW := mz_in1 (mz_t6 (List.mem_of_getElem? (i := 34) rfl)) rfl
theorem mw_1312 : Cond.code ⟨"FallingBlocks", "undo", "()I"⟩ prog_1_method_31_code 2 (some .int) ∈ mz_GW := mz_in1 (mz_t6 (List.mem_of_getElem? (i := 35) rfl)) rfl
theorem mw_1313 : Cond.methodLink "FallingBlocks" 320 ⟨"FallingBlocks$Memory", "goBack", "(LFallingBlocks$Game;)I"⟩ ∈ mz_GW := mz_in1 (mz_t6 (List.mem_of_getElem? (i := 36) rfl)) rfl
theorem mw_1314 : Cond.instanceMethod ⟨"FallingBlocks$Memory", "goBack", "(LFallingBlocks$Game;)I"⟩ ∈ mz_GW := mz_in1 (mz_t6 (List.mem_of_getElem? (i := 37) rfl)) rfl
theorem mw_1315 : Cond.selects "FallingBlocks$Memory" ⟨"FallingBlocks$Memory", "goBack", "(LFallingBlocks$Game;)I"⟩ ⟨"FallingBlocks$Memory", "goBack", "(LFallingBlocks$Game;)I"⟩ ∈ mz_GW := mz_in1 (mz_t6 (List.mem_of_getElem? (i := 38) rfl)) rfl
theorem mw_1316 : Cond.code ⟨"FallingBlocks$Memory", "goBack", "(LFallingBlocks$Game;)I"⟩ prog_8_method_4_code 3 (some .int) ∈ mz_GW := mz_in1 (mz_t6 (List.mem_of_getElem? (i := 39) rfl)) rfl
theorem mw_1318 : Cond.methodLink "FallingBlocksLaw" 228 ⟨"FallingBlocksLaw", "restore", "(LFallingBlocks;)I"⟩ ∈ mz_GW := mz_in1 (mz_t6 (List.mem_of_getElem? (i := 41) rfl)) rfl
theorem mw_1319 : Cond.static ⟨"FallingBlocksLaw", "restore", "(LFallingBlocks;)I"⟩ ∈ mz_GW := mz_in1 (mz_t6 (List.mem_of_getElem? (i := 42) rfl)) rfl
theorem mw_1320 : Cond.codeWith ⟨"FallingBlocksLaw", "restore", "(LFallingBlocks;)I"⟩ method_31_code 2 (some .int) [(0, 4, 7, 62)] ∈ mz_GW := mz_in1 (mz_t6 (List.mem_of_getElem? (i := 43) rfl)) rfl
theorem mw_1321 : Cond.methodLink "FallingBlocksLaw" 114 ⟨"FallingBlocks", "restore", "()V"⟩ ∈ mz_GW := mz_in1 (mz_t6 (List.mem_of_getElem? (i := 44) rfl)) rfl
theorem mw_1322 : Cond.instanceMethod ⟨"FallingBlocks", "restore", "()V"⟩ ∈ mz_GW := mz_in1 (mz_t6 (List.mem_of_getElem? (i := 45) rfl)) rfl
theorem mw_1323 : Cond.selects "FallingBlocks" ⟨"FallingBlocks", "restore", "()V"⟩ ⟨"FallingBlocks", "restore", "()V"⟩ ∈ mz_GW := mz_in1 (mz_t6 (List.mem_of_getElem? (i := 46) rfl)) rfl
theorem mw_1324 : Cond.code ⟨"FallingBlocks", "restore", "()V"⟩ prog_1_method_33_code 1 none ∈ mz_GW := mz_in1 (mz_t6 (List.mem_of_getElem? (i := 47) rfl)) rfl
theorem mw_1325 : Cond.methodLink "FallingBlocks" 331 ⟨"FallingBlocks$Memory", "goToSnapshot", "(LFallingBlocks$Game;)Z"⟩ ∈ mz_GW := mz_in1 (mz_t6 (List.mem_of_getElem? (i := 48) rfl)) rfl
theorem mw_1326 : Cond.instanceMethod ⟨"FallingBlocks$Memory", "goToSnapshot", "(LFallingBlocks$Game;)Z"⟩ ∈ mz_GW := mz_in1 (mz_t6 (List.mem_of_getElem? (i := 49) rfl)) rfl
theorem mw_1327 : Cond.selects "FallingBlocks$Memory" ⟨"FallingBlocks$Memory", "goToSnapshot", "(LFallingBlocks$Game;)Z"⟩ ⟨"FallingBlocks$Memory", "goToSnapshot", "(LFallingBlocks$Game;)Z"⟩ ∈ mz_GW := mz_in1 (mz_t6 (List.mem_of_getElem? (i := 50) rfl)) rfl
theorem mw_1328 : Cond.code ⟨"FallingBlocks$Memory", "goToSnapshot", "(LFallingBlocks$Game;)Z"⟩ prog_8_method_6_code 2 (some .boolean) ∈ mz_GW := mz_in1 (mz_t6 (List.mem_of_getElem? (i := 51) rfl)) rfl
theorem mw_1329 : Cond.methodLink "FallingBlocks$Memory" 50 ⟨"FallingBlocks$Memory", "forgetRecords", "()V"⟩ ∈ mz_GW := mz_in1 (mz_t6 (List.mem_of_getElem? (i := 52) rfl)) rfl
theorem mw_1331 : Cond.classLink "FallingBlocksLaw" 118 "FallingBlocksModel" ∈ mz_GW := mz_in1 (mz_t6 (List.mem_of_getElem? (i := 54) rfl)) rfl
theorem mw_1332 : Cond.instantiable "FallingBlocksModel" 26 ∈ mz_GW := mz_in1 (mz_t6 (List.mem_of_getElem? (i := 55) rfl)) rfl
theorem mw_1333 : Cond.methodLink "FallingBlocksLaw" 120 ⟨"FallingBlocksModel", "<init>", "()V"⟩ ∈ mz_GW := mz_in1 (mz_t6 (List.mem_of_getElem? (i := 56) rfl)) rfl
theorem mw_1334 : Cond.instanceMethod ⟨"FallingBlocksModel", "<init>", "()V"⟩ ∈ mz_GW := mz_in1 (mz_t6 (List.mem_of_getElem? (i := 57) rfl)) rfl
theorem mw_1335 : Cond.code ⟨"FallingBlocksModel", "<init>", "()V"⟩ prog_14_method_1_code 1 none ∈ mz_GW := mz_in1 (mz_t6 (List.mem_of_getElem? (i := 58) rfl)) rfl
theorem mw_1336 : Cond.methodLink "FallingBlocksModel" 1 ⟨"java/lang/Object", "<init>", "()V"⟩ ∈ mz_GW := mz_in1 (mz_t6 (List.mem_of_getElem? (i := 59) rfl)) rfl
theorem mw_1337 : Cond.methodLink "FallingBlocksModel" 73 ⟨"FallingBlocksModel", "begins", "(I)V"⟩ ∈ mz_GW := mz_in1 (mz_t6 (List.mem_of_getElem? (i := 60) rfl)) rfl
theorem mw_1339 : Cond.instanceMethod ⟨"FallingBlocksModel", "begins", "(I)V"⟩ ∈ mz_GW := mz_in1 (mz_t6 (List.mem_of_getElem? (i := 62) rfl)) rfl
theorem mw_1340 : Cond.code ⟨"FallingBlocksModel", "begins", "(I)V"⟩ prog_14_method_19_code 3 none ∈ mz_GW := mz_in1 (mz_t6 (List.mem_of_getElem? (i := 63) rfl)) rfl
theorem mw_1341 : Cond.methodLink "FallingBlocksModel" 122 ⟨"FallingBlocksModel", "draws", "()I"⟩ ∈ mz_GW := mz_in1 (mz_t6 (List.mem_of_getElem? (i := 64) rfl)) rfl
theorem mw_1343 : Cond.instanceMethod ⟨"FallingBlocksModel", "draws", "()I"⟩ ∈ mz_GW := mz_in1 (mz_t6 (List.mem_of_getElem? (i := 66) rfl)) rfl
theorem mw_1344 : Cond.code ⟨"FallingBlocksModel", "draws", "()I"⟩ prog_14_method_15_code 4 (some .int) ∈ mz_GW := mz_in1 (mz_t6 (List.mem_of_getElem? (i := 67) rfl)) rfl
theorem mw_1345 : Cond.constantLong "FallingBlocksModel" 106 (1103515245 : Int64) ∈ mz_GW := mz_in1 (mz_t6 (List.mem_of_getElem? (i := 68) rfl)) rfl
theorem mw_1346 : Cond.constantLong "FallingBlocksModel" 108 (12345 : Int64) ∈ mz_GW := mz_in1 (mz_t6 (List.mem_of_getElem? (i := 69) rfl)) rfl
theorem mw_1347 : Cond.constantLong "FallingBlocksModel" 110 (2147483648 : Int64) ∈ mz_GW := mz_in1 (mz_t6 (List.mem_of_getElem? (i := 70) rfl)) rfl
theorem mw_1348 : Cond.constant "FallingBlocksModel" 112 (65536 : Int32) ∈ mz_GW := mz_in1 (mz_t6 (List.mem_of_getElem? (i := 71) rfl)) rfl
theorem mw_1349 : Cond.methodLink "FallingBlocksModel" 126 ⟨"FallingBlocksModel", "appears", "(I)V"⟩ ∈ mz_GW := mz_in1 (mz_t6 (List.mem_of_getElem? (i := 72) rfl)) rfl
theorem mw_1351 : Cond.instanceMethod ⟨"FallingBlocksModel", "appears", "(I)V"⟩ ∈ mz_GW := mz_in1 (mz_t6 (List.mem_of_getElem? (i := 74) rfl)) rfl
theorem mw_1352 : Cond.code ⟨"FallingBlocksModel", "appears", "(I)V"⟩ prog_14_method_18_code 2 none ∈ mz_GW := mz_in1 (mz_t6 (List.mem_of_getElem? (i := 75) rfl)) rfl
theorem mw_1353 : Cond.methodLink "FallingBlocksModel" 116 ⟨"FallingBlocksModel", "firstColumn", "(I)I"⟩ ∈ mz_GW := mz_in1 (mz_t6 (List.mem_of_getElem? (i := 76) rfl)) rfl
theorem mw_1354 : Cond.static ⟨"FallingBlocksModel", "firstColumn", "(I)I"⟩ ∈ mz_GW := mz_in1 (mz_t6 (List.mem_of_getElem? (i := 77) rfl)) rfl
theorem mw_1355 : Cond.code ⟨"FallingBlocksModel", "firstColumn", "(I)I"⟩ prog_14_method_17_code 1 (some .int) ∈ mz_GW := mz_in1 (mz_t6 (List.mem_of_getElem? (i := 78) rfl)) rfl
theorem mw_1356 : Cond.methodLink "FallingBlocksModel" 103 ⟨"FallingBlocksModel", "fitsAt", "(II)Z"⟩ ∈ mz_GW := mz_in1 (mz_t6 (List.mem_of_getElem? (i := 79) rfl)) rfl
theorem mw_1358 : Cond.instanceMethod ⟨"FallingBlocksModel", "fitsAt", "(II)Z"⟩ ∈ mz_GW := mz_in1 (mz_t6 (List.mem_of_getElem? (i := 81) rfl)) rfl
theorem mw_1359 : Cond.code ⟨"FallingBlocksModel", "fitsAt", "(II)Z"⟩ prog_14_method_11_code 3 (some .boolean) ∈ mz_GW := mz_in1 (mz_t6 (List.mem_of_getElem? (i := 82) rfl)) rfl
theorem mw_1360 : Cond.methodLink "FallingBlocksModel" 99 ⟨"FallingBlocksModel", "fits", "(IIII)Z"⟩ ∈ mz_GW := mz_in1 (mz_t6 (List.mem_of_getElem? (i := 83) rfl)) rfl
theorem mw_1362 : Cond.instanceMethod ⟨"FallingBlocksModel", "fits", "(IIII)Z"⟩ ∈ mz_GW := mz_in1 (mz_t6 (List.mem_of_getElem? (i := 85) rfl)) rfl
theorem mw_1363 : Cond.code ⟨"FallingBlocksModel", "fits", "(IIII)Z"⟩ prog_14_method_10_code 7 (some .boolean) ∈ mz_GW := mz_in1 (mz_t6 (List.mem_of_getElem? (i := 86) rfl)) rfl
theorem mw_1364 : Cond.methodLink "FallingBlocksModel" 92 ⟨"FallingBlocksModel", "boxed", "(IIII)I"⟩ ∈ mz_GW := mz_in1 (mz_t6 (List.mem_of_getElem? (i := 87) rfl)) rfl
theorem mw_1366 : Cond.instanceMethod ⟨"FallingBlocksModel", "boxed", "(IIII)I"⟩ ∈ mz_GW := mz_in1 (mz_t6 (List.mem_of_getElem? (i := 89) rfl)) rfl
theorem mw_1367 : Cond.code ⟨"FallingBlocksModel", "boxed", "(IIII)I"⟩ prog_14_method_9_code 9 (some .int) ∈ mz_GW := mz_in1 (mz_t6 (List.mem_of_getElem? (i := 90) rfl)) rfl
theorem mw_1368 : Cond.methodLink "FallingBlocksModel" 96 ⟨"FallingBlocksModel", "isEmpty", "(II)Z"⟩ ∈ mz_GW := mz_in1 (mz_t6 (List.mem_of_getElem? (i := 91) rfl)) rfl
theorem mw_1370 : Cond.instanceMethod ⟨"FallingBlocksModel", "isEmpty", "(II)Z"⟩ ∈ mz_GW := mz_in1 (mz_t6 (List.mem_of_getElem? (i := 93) rfl)) rfl
theorem mw_1371 : Cond.code ⟨"FallingBlocksModel", "isEmpty", "(II)Z"⟩ prog_14_method_8_code 3 (some .boolean) ∈ mz_GW := mz_in1 (mz_t6 (List.mem_of_getElem? (i := 94) rfl)) rfl
theorem mw_1372 : Cond.methodLink "FallingBlocksModel" 84 ⟨"FallingBlocksModel", "isCell", "(II)Z"⟩ ∈ mz_GW := mz_in1 (mz_t6 (List.mem_of_getElem? (i := 95) rfl)) rfl
theorem mw_1373 : Cond.static ⟨"FallingBlocksModel", "isCell", "(II)Z"⟩ ∈ mz_GW := mz_in1 (mz_t6 (List.mem_of_getElem? (i := 96) rfl)) rfl
theorem mw_1374 : Cond.code ⟨"FallingBlocksModel", "isCell", "(II)Z"⟩ prog_14_method_7_code 2 (some .boolean) ∈ mz_GW := mz_in1 (mz_t6 (List.mem_of_getElem? (i := 97) rfl)) rfl
theorem mw_1375 : Cond.methodLink "FallingBlocksModel" 80 ⟨"FallingBlocksModel", "in", "(III)Z"⟩ ∈ mz_GW := mz_in1 (mz_t6 (List.mem_of_getElem? (i := 98) rfl)) rfl
theorem mw_1376 : Cond.static ⟨"FallingBlocksModel", "in", "(III)Z"⟩ ∈ mz_GW := mz_in1 (mz_t6 (List.mem_of_getElem? (i := 99) rfl)) rfl
theorem mw_1377 : Cond.code ⟨"FallingBlocksModel", "in", "(III)Z"⟩ prog_14_method_3_code 3 (some .boolean) ∈ mz_GW := mz_in1 (mz_t6 (List.mem_of_getElem? (i := 100) rfl)) rfl
theorem mw_1378 : Cond.methodLink "FallingBlocksModel" 88 ⟨"FallingBlocksModel", "at", "(II)I"⟩ ∈ mz_GW := mz_in1 (mz_t6 (List.mem_of_getElem? (i := 101) rfl)) rfl
theorem mw_1379 : Cond.static ⟨"FallingBlocksModel", "at", "(II)I"⟩ ∈ mz_GW := mz_in1 (mz_t6 (List.mem_of_getElem? (i := 102) rfl)) rfl
theorem mw_1380 : Cond.code ⟨"FallingBlocksModel", "at", "(II)I"⟩ prog_14_method_6_code 2 (some .int) ∈ mz_GW := mz_in1 (mz_t6 (List.mem_of_getElem? (i := 103) rfl)) rfl
theorem mw_1381 : Cond.methodLink "FallingBlocksModel" 120 ⟨"FallingBlocksModel", "records", "()V"⟩ ∈ mz_GW := mz_in1 (mz_t6 (List.mem_of_getElem? (i := 104) rfl)) rfl
theorem mw_1383 : Cond.instanceMethod ⟨"FallingBlocksModel", "records", "()V"⟩ ∈ mz_GW := mz_in1 (mz_t6 (List.mem_of_getElem? (i := 106) rfl)) rfl
theorem mw_1384 : Cond.code ⟨"FallingBlocksModel", "records", "()V"⟩ prog_14_method_16_code 2 none ∈ mz_GW := mz_in1 (mz_t6 (List.mem_of_getElem? (i := 107) rfl)) rfl
theorem mw_1385 : Cond.fieldLink "FallingBlocksModel" 77 "FallingBlocksModel" "thrown" "I" ∈ mz_GW := mz_in1 (mz_t6 (List.mem_of_getElem? (i := 108) rfl)) rfl
theorem mw_1386 : Cond.fieldLink "FallingBlocksModel" 7 "FallingBlocksModel" "g" "[I" ∈ mz_GW := mz_in1 (mz_t6 (List.mem_of_getElem? (i := 109) rfl)) rfl
theorem mw_1387 : Cond.fieldLink "FallingBlocksModel" 13 "FallingBlocksModel" "settings" "[I" ∈ mz_GW := mz_in1 (mz_t6 (List.mem_of_getElem? (i := 110) rfl)) rfl
theorem mw_1388 : Cond.fieldLink "FallingBlocksModel" 16 "FallingBlocksModel" "records" "[I" ∈ mz_GW := mz_in1 (mz_t6 (List.mem_of_getElem? (i := 111) rfl)) rfl
theorem mw_1389 : Cond.fieldLink "FallingBlocksModel" 113 "FallingBlocksModel" "recordMany" "I" ∈ mz_GW := mz_in1 (mz_t6 (List.mem_of_getElem? (i := 112) rfl)) rfl
theorem mw_1390 : Cond.fieldLink "FallingBlocksModel" 19 "FallingBlocksModel" "saved" "[I" ∈ mz_GW := mz_in1 (mz_t6 (List.mem_of_getElem? (i := 113) rfl)) rfl
theorem mw_1391 : Cond.fieldLink "FallingBlocksModel" 22 "FallingBlocksModel" "savedSettings" "[I" ∈ mz_GW := mz_in1 (mz_t6 (List.mem_of_getElem? (i := 114) rfl)) rfl
theorem mw_1392 : Cond.fieldLink "FallingBlocksModel" 289 "FallingBlocksModel" "hasSaved" "Z" ∈ mz_GW := mz_in1 (mz_t6 (List.mem_of_getElem? (i := 115) rfl)) rfl
theorem mw_1393 : Cond.fieldLink "FallingBlocksModel" 25 "FallingBlocksModel" "boxes" "[I" ∈ mz_GW := mz_in1 (mz_t6 (List.mem_of_getElem? (i := 116) rfl)) rfl
theorem mw_1394 : Cond.fieldLink "FallingBlocksModel" 28 "FallingBlocksModel" "shapes" "[I" ∈ mz_GW := mz_in1 (mz_t6 (List.mem_of_getElem? (i := 117) rfl)) rfl
theorem mw_1395 : Cond.fieldLink "FallingBlocksModel" 31 "FallingBlocksModel" "kicks" "[I" ∈ mz_GW := mz_in1 (mz_t6 (List.mem_of_getElem? (i := 118) rfl)) rfl
theorem mw_1396 : Cond.fieldLink "FallingBlocksModel" 34 "FallingBlocksModel" "longKicks" "[I" ∈ mz_GW := mz_in1 (mz_t6 (List.mem_of_getElem? (i := 119) rfl)) rfl
theorem mw_1397 : Cond.fieldLink "FallingBlocksModel" 37 "FallingBlocksModel" "points" "[I" ∈ mz_GW := mz_in1 (mz_t6 (List.mem_of_getElem? (i := 120) rfl)) rfl
theorem mw_1398 : Cond.fieldLink "FallingBlocksModel" 40 "FallingBlocksModel" "kept" "[I" ∈ mz_GW := mz_in1 (mz_t6 (List.mem_of_getElem? (i := 121) rfl)) rfl
theorem mw_1399 : Cond.fieldLink "FallingBlocksModel" 43 "FallingBlocksModel" "steps" "[I" ∈ mz_GW := mz_in1 (mz_t6 (List.mem_of_getElem? (i := 122) rfl)) rfl
theorem mw_1400 : Cond.fieldLink "FallingBlocksModel" 46 "FallingBlocksModel" "stepsKind" "I" ∈ mz_GW := mz_in1 (mz_t6 (List.mem_of_getElem? (i := 123) rfl)) rfl
theorem mw_1401 : Cond.fieldLink "FallingBlocksModel" 50 "FallingBlocksModel" "isReached" "[Z" ∈ mz_GW := mz_in1 (mz_t6 (List.mem_of_getElem? (i := 124) rfl)) rfl
theorem mw_1402 : Cond.fieldLink "FallingBlocksModel" 54 "FallingBlocksModel" "queue" "[I" ∈ mz_GW := mz_in1 (mz_t6 (List.mem_of_getElem? (i := 125) rfl)) rfl
theorem mw_1403 : Cond.fieldLink "FallingBlocksModel" 246 "FallingBlocksModel" "queued" "I" ∈ mz_GW := mz_in1 (mz_t6 (List.mem_of_getElem? (i := 126) rfl)) rfl
theorem mw_1404 : Cond.fieldLink "FallingBlocksModel" 57 "FallingBlocksModel" "placed" "[I" ∈ mz_GW := mz_in1 (mz_t6 (List.mem_of_getElem? (i := 127) rfl)) rfl
theorem mw_1405 : Cond.fieldLink "FallingBlocksModel" 60 "FallingBlocksModel" "places" "[I" ∈ mz_GW := mz_in1 (mz_t6 (List.mem_of_getElem? (i := 128) rfl)) rfl
theorem mw_1406 : Cond.fieldLink "FallingBlocksModel" 252 "FallingBlocksModel" "placedMany" "I" ∈ mz_GW := mz_in1 (mz_t6 (List.mem_of_getElem? (i := 129) rfl)) rfl
theorem mw_1407 : Cond.fieldLink "FallingBlocksModel" 63 "FallingBlocksModel" "sorted" "[I" ∈ mz_GW := mz_in1 (mz_t6 (List.mem_of_getElem? (i := 130) rfl)) rfl
theorem mw_1408 : Cond.fieldLink "FallingBlocksModel" 66 "FallingBlocksModel" "tape" "[C" ∈ mz_GW := mz_in1 (mz_t6 (List.mem_of_getElem? (i := 131) rfl)) rfl
theorem mw_1409 : Cond.fieldLink "FallingBlocksModel" 277 "FallingBlocksModel" "taped" "I" ∈ mz_GW := mz_in1 (mz_t6 (List.mem_of_getElem? (i := 132) rfl)) rfl
theorem mw_1410 : Cond.fieldLink "FallingBlocksModel" 70 "FallingBlocksModel" "faultAt" "I" ∈ mz_GW := mz_in1 (mz_t6 (List.mem_of_getElem? (i := 133) rfl)) rfl
theorem mw_1411 : Cond.lays "FallingBlocksModel" "FallingBlocksModel" "thrown" "I" ∈ mz_GW := mz_in1 (mz_t6 (List.mem_of_getElem? (i := 134) rfl)) rfl
theorem mw_1413 : Cond.laysFinal "FallingBlocksModel" "FallingBlocksModel" "g" "[I" ∈ mz_GW := mz_in1 (mz_t6 (List.mem_of_getElem? (i := 136) rfl)) rfl
theorem mw_1415 : Cond.laysFinal "FallingBlocksModel" "FallingBlocksModel" "settings" "[I" ∈ mz_GW := mz_in1 (mz_t6 (List.mem_of_getElem? (i := 138) rfl)) rfl
theorem mw_1417 : Cond.laysFinal "FallingBlocksModel" "FallingBlocksModel" "records" "[I" ∈ mz_GW := mz_in1 (mz_t6 (List.mem_of_getElem? (i := 140) rfl)) rfl
theorem mw_1419 : Cond.lays "FallingBlocksModel" "FallingBlocksModel" "recordMany" "I" ∈ mz_GW := mz_in1 (mz_t6 (List.mem_of_getElem? (i := 142) rfl)) rfl
theorem mw_1421 : Cond.laysFinal "FallingBlocksModel" "FallingBlocksModel" "saved" "[I" ∈ mz_GW := mz_in1 (mz_t6 (List.mem_of_getElem? (i := 144) rfl)) rfl
theorem mw_1423 : Cond.laysFinal "FallingBlocksModel" "FallingBlocksModel" "savedSettings" "[I" ∈ mz_GW := mz_in1 (mz_t6 (List.mem_of_getElem? (i := 146) rfl)) rfl
theorem mw_1425 : Cond.lays "FallingBlocksModel" "FallingBlocksModel" "hasSaved" "Z" ∈ mz_GW := mz_in1 (mz_t6 (List.mem_of_getElem? (i := 148) rfl)) rfl
theorem mw_1427 : Cond.laysFinal "FallingBlocksModel" "FallingBlocksModel" "boxes" "[I" ∈ mz_GW := mz_in1 (mz_t6 (List.mem_of_getElem? (i := 150) rfl)) rfl
theorem mw_1429 : Cond.laysFinal "FallingBlocksModel" "FallingBlocksModel" "shapes" "[I" ∈ mz_GW := mz_in1 (mz_t6 (List.mem_of_getElem? (i := 152) rfl)) rfl
theorem mw_1431 : Cond.laysFinal "FallingBlocksModel" "FallingBlocksModel" "kicks" "[I" ∈ mz_GW := mz_in1 (mz_t6 (List.mem_of_getElem? (i := 154) rfl)) rfl
theorem mw_1433 : Cond.laysFinal "FallingBlocksModel" "FallingBlocksModel" "longKicks" "[I" ∈ mz_GW := mz_in1 (mz_t6 (List.mem_of_getElem? (i := 156) rfl)) rfl
theorem mw_1435 : Cond.laysFinal "FallingBlocksModel" "FallingBlocksModel" "points" "[I" ∈ mz_GW := mz_in1 (mz_t6 (List.mem_of_getElem? (i := 158) rfl)) rfl
theorem mw_1437 : Cond.laysFinal "FallingBlocksModel" "FallingBlocksModel" "kept" "[I" ∈ mz_GW := mz_in1 (mz_t6 (List.mem_of_getElem? (i := 160) rfl)) rfl
theorem mw_1439 : Cond.laysFinal "FallingBlocksModel" "FallingBlocksModel" "steps" "[I" ∈ mz_GW := mz_in1 (mz_t6 (List.mem_of_getElem? (i := 162) rfl)) rfl
theorem mw_1441 : Cond.lays "FallingBlocksModel" "FallingBlocksModel" "stepsKind" "I" ∈ mz_GW := mz_in1 (mz_t6 (List.mem_of_getElem? (i := 164) rfl)) rfl
theorem mw_1443 : Cond.laysFinal "FallingBlocksModel" "FallingBlocksModel" "isReached" "[Z" ∈ mz_GW := mz_in1 (mz_t6 (List.mem_of_getElem? (i := 166) rfl)) rfl
theorem mw_1445 : Cond.laysFinal "FallingBlocksModel" "FallingBlocksModel" "queue" "[I" ∈ mz_GW := mz_in1 (mz_t6 (List.mem_of_getElem? (i := 168) rfl)) rfl
theorem mw_1447 : Cond.lays "FallingBlocksModel" "FallingBlocksModel" "queued" "I" ∈ mz_GW := mz_in1 (mz_t6 (List.mem_of_getElem? (i := 170) rfl)) rfl
theorem mw_1449 : Cond.laysFinal "FallingBlocksModel" "FallingBlocksModel" "placed" "[I" ∈ mz_GW := mz_in1 (mz_t6 (List.mem_of_getElem? (i := 172) rfl)) rfl
theorem mw_1451 : Cond.laysFinal "FallingBlocksModel" "FallingBlocksModel" "places" "[I" ∈ mz_GW := mz_in1 (mz_t6 (List.mem_of_getElem? (i := 174) rfl)) rfl
theorem mw_1453 : Cond.lays "FallingBlocksModel" "FallingBlocksModel" "placedMany" "I" ∈ mz_GW := mz_in1 (mz_t6 (List.mem_of_getElem? (i := 176) rfl)) rfl
theorem mw_1455 : Cond.laysFinal "FallingBlocksModel" "FallingBlocksModel" "sorted" "[I" ∈ mz_GW := mz_in1 (mz_t6 (List.mem_of_getElem? (i := 178) rfl)) rfl
theorem mw_1457 : Cond.laysFinal "FallingBlocksModel" "FallingBlocksModel" "tape" "[C" ∈ mz_GW := mz_in1 (mz_t6 (List.mem_of_getElem? (i := 180) rfl)) rfl
theorem mw_1459 : Cond.lays "FallingBlocksModel" "FallingBlocksModel" "taped" "I" ∈ mz_GW := mz_in1 (mz_t6 (List.mem_of_getElem? (i := 182) rfl)) rfl
theorem mw_1461 : Cond.lays "FallingBlocksModel" "FallingBlocksModel" "faultAt" "I" ∈ mz_GW := mz_in1 (mz_t6 (List.mem_of_getElem? (i := 184) rfl)) rfl
theorem mw_1464 : Cond.arrayClass .boolean ∈ mz_GW := mz_in1 (mz_t6 (List.mem_of_getElem? (i := 187) rfl)) rfl
theorem mw_1465 : Cond.methodLink "FallingBlocksLaw" 127 ⟨"FallingBlocksModel", "thrown", "()I"⟩ ∈ mz_GW := mz_in1 (mz_t6 (List.mem_of_getElem? (i := 188) rfl)) rfl
theorem mw_1466 : Cond.instanceMethod ⟨"FallingBlocksModel", "thrown", "()I"⟩ ∈ mz_GW := mz_in1 (mz_t6 (List.mem_of_getElem? (i := 189) rfl)) rfl
theorem mw_1467 : Cond.selects "FallingBlocksModel" ⟨"FallingBlocksModel", "thrown", "()I"⟩ ⟨"FallingBlocksModel", "thrown", "()I"⟩ ∈ mz_GW := mz_in1 (mz_t6 (List.mem_of_getElem? (i := 190) rfl)) rfl
theorem mw_1468 : Cond.code ⟨"FallingBlocksModel", "thrown", "()I"⟩ prog_14_method_2_code 1 (some .int) ∈ mz_GW := mz_in1 (mz_t6 (List.mem_of_getElem? (i := 191) rfl)) rfl
theorem mw_1469 : Cond.methodLink "FallingBlocksLaw" 126 ⟨"FallingBlocksModel", "start", "(I)I"⟩ ∈ mz_GW := mz_in1 (mz_t6 (List.mem_of_getElem? (i := 192) rfl)) rfl
theorem mw_1470 : Cond.instanceMethod ⟨"FallingBlocksModel", "start", "(I)I"⟩ ∈ mz_GW := mz_in1 (mz_t6 (List.mem_of_getElem? (i := 193) rfl)) rfl
theorem mw_1471 : Cond.selects "FallingBlocksModel" ⟨"FallingBlocksModel", "start", "(I)I"⟩ ⟨"FallingBlocksModel", "start", "(I)I"⟩ ∈ mz_GW := mz_in1 (mz_t6 (List.mem_of_getElem? (i := 194) rfl)) rfl
theorem mw_1472 : Cond.code ⟨"FallingBlocksModel", "start", "(I)I"⟩ prog_14_method_20_code 2 (some .int) ∈ mz_GW := mz_in1 (mz_t6 (List.mem_of_getElem? (i := 195) rfl)) rfl
theorem mw_1473 : Cond.methodLink "FallingBlocksModel" 129 ⟨"FallingBlocksModel", "fails", "(I)I"⟩ ∈ mz_GW := mz_in1 (mz_t6 (List.mem_of_getElem? (i := 196) rfl)) rfl
theorem mw_1475 : Cond.instanceMethod ⟨"FallingBlocksModel", "fails", "(I)I"⟩ ∈ mz_GW := mz_in1 (mz_t6 (List.mem_of_getElem? (i := 198) rfl)) rfl
theorem mw_1476 : Cond.code ⟨"FallingBlocksModel", "fails", "(I)I"⟩ prog_14_method_4_code 2 (some .int) ∈ mz_GW := mz_in1 (mz_t6 (List.mem_of_getElem? (i := 199) rfl)) rfl
theorem mw_1477 : Cond.methodLink "FallingBlocksModel" 132 ⟨"FallingBlocksModel", "done", "(I)I"⟩ ∈ mz_GW := mz_in1 (mz_t6 (List.mem_of_getElem? (i := 200) rfl)) rfl
theorem mw_1479 : Cond.instanceMethod ⟨"FallingBlocksModel", "done", "(I)I"⟩ ∈ mz_GW := mz_in1 (mz_t6 (List.mem_of_getElem? (i := 202) rfl)) rfl
theorem mw_1480 : Cond.code ⟨"FallingBlocksModel", "done", "(I)I"⟩ prog_14_method_5_code 2 (some .int) ∈ mz_GW := mz_in1 (mz_t6 (List.mem_of_getElem? (i := 203) rfl)) rfl
theorem mw_1481 : Cond.methodLink "FallingBlocksLaw" 133 ⟨"FallingBlocksModel", "set", "(II)I"⟩ ∈ mz_GW := mz_in1 (mz_t6 (List.mem_of_getElem? (i := 204) rfl)) rfl
theorem mw_1482 : Cond.instanceMethod ⟨"FallingBlocksModel", "set", "(II)I"⟩ ∈ mz_GW := mz_in1 (mz_t6 (List.mem_of_getElem? (i := 205) rfl)) rfl
theorem mw_1483 : Cond.selects "FallingBlocksModel" ⟨"FallingBlocksModel", "set", "(II)I"⟩ ⟨"FallingBlocksModel", "set", "(II)I"⟩ ∈ mz_GW := mz_in1 (mz_t6 (List.mem_of_getElem? (i := 206) rfl)) rfl
theorem mw_1484 : Cond.code ⟨"FallingBlocksModel", "set", "(II)I"⟩ prog_14_method_21_code 4 (some .int) ∈ mz_GW := mz_in1 (mz_t6 (List.mem_of_getElem? (i := 207) rfl)) rfl
theorem mw_1485 : Cond.methodLink "FallingBlocksLaw" 137 ⟨"FallingBlocksModel", "isOver", "()Z"⟩ ∈ mz_GW := mz_in1 (mz_t6 (List.mem_of_getElem? (i := 208) rfl)) rfl
theorem mw_1486 : Cond.instanceMethod ⟨"FallingBlocksModel", "isOver", "()Z"⟩ ∈ mz_GW := mz_in1 (mz_t6 (List.mem_of_getElem? (i := 209) rfl)) rfl
theorem mw_1487 : Cond.selects "FallingBlocksModel" ⟨"FallingBlocksModel", "isOver", "()Z"⟩ ⟨"FallingBlocksModel", "isOver", "()Z"⟩ ∈ mz_GW := mz_in1 (mz_t6 (List.mem_of_getElem? (i := 210) rfl)) rfl
theorem mw_1488 : Cond.code ⟨"FallingBlocksModel", "isOver", "()Z"⟩ prog_14_method_22_code 1 (some .boolean) ∈ mz_GW := mz_in1 (mz_t6 (List.mem_of_getElem? (i := 211) rfl)) rfl
theorem mw_1489 : Cond.methodLink "FallingBlocksLaw" 140 ⟨"FallingBlocksModel", "piece", "(I)I"⟩ ∈ mz_GW := mz_in1 (mz_t6 (List.mem_of_getElem? (i := 212) rfl)) rfl
theorem mw_1490 : Cond.instanceMethod ⟨"FallingBlocksModel", "piece", "(I)I"⟩ ∈ mz_GW := mz_in1 (mz_t6 (List.mem_of_getElem? (i := 213) rfl)) rfl
theorem mw_1491 : Cond.selects "FallingBlocksModel" ⟨"FallingBlocksModel", "piece", "(I)I"⟩ ⟨"FallingBlocksModel", "piece", "(I)I"⟩ ∈ mz_GW := mz_in1 (mz_t6 (List.mem_of_getElem? (i := 214) rfl)) rfl
theorem mw_1492 : Cond.code ⟨"FallingBlocksModel", "piece", "(I)I"⟩ prog_14_method_24_code 2 (some .int) ∈ mz_GW := mz_in1 (mz_t6 (List.mem_of_getElem? (i := 215) rfl)) rfl
theorem mw_1493 : Cond.methodLink "FallingBlocksModel" 135 ⟨"FallingBlocksModel", "room", "()I"⟩ ∈ mz_GW := mz_in1 (mz_t6 (List.mem_of_getElem? (i := 216) rfl)) rfl
theorem mw_1495 : Cond.instanceMethod ⟨"FallingBlocksModel", "room", "()I"⟩ ∈ mz_GW := mz_in1 (mz_t6 (List.mem_of_getElem? (i := 218) rfl)) rfl
theorem mw_1496 : Cond.code ⟨"FallingBlocksModel", "room", "()I"⟩ prog_14_method_23_code 2 (some .int) ∈ mz_GW := mz_in1 (mz_t6 (List.mem_of_getElem? (i := 219) rfl)) rfl
theorem mw_1497 : Cond.methodLink "FallingBlocksLaw" 143 ⟨"FallingBlocksModel", "next", "(I)I"⟩ ∈ mz_GW := mz_in1 (mz_t6 (List.mem_of_getElem? (i := 220) rfl)) rfl
theorem mw_1498 : Cond.instanceMethod ⟨"FallingBlocksModel", "next", "(I)I"⟩ ∈ mz_GW := mz_in1 (mz_t6 (List.mem_of_getElem? (i := 221) rfl)) rfl
theorem mw_1499 : Cond.selects "FallingBlocksModel" ⟨"FallingBlocksModel", "next", "(I)I"⟩ ⟨"FallingBlocksModel", "next", "(I)I"⟩ ∈ mz_GW := mz_in1 (mz_t6 (List.mem_of_getElem? (i := 222) rfl)) rfl
theorem mw_1500 : Cond.code ⟨"FallingBlocksModel", "next", "(I)I"⟩ prog_14_method_25_code 6 (some .int) ∈ mz_GW := mz_in1 (mz_t6 (List.mem_of_getElem? (i := 223) rfl)) rfl
theorem mw_1501 : Cond.methodLink "FallingBlocksLaw" 146 ⟨"FallingBlocksModel", "cell", "(II)I"⟩ ∈ mz_GW := mz_in1 (mz_t6 (List.mem_of_getElem? (i := 224) rfl)) rfl
theorem mw_1502 : Cond.instanceMethod ⟨"FallingBlocksModel", "cell", "(II)I"⟩ ∈ mz_GW := mz_in1 (mz_t6 (List.mem_of_getElem? (i := 225) rfl)) rfl
theorem mw_1503 : Cond.selects "FallingBlocksModel" ⟨"FallingBlocksModel", "cell", "(II)I"⟩ ⟨"FallingBlocksModel", "cell", "(II)I"⟩ ∈ mz_GW := mz_in1 (mz_t6 (List.mem_of_getElem? (i := 226) rfl)) rfl
theorem mw_1504 : Cond.code ⟨"FallingBlocksModel", "cell", "(II)I"⟩ prog_14_method_26_code 3 (some .int) ∈ mz_GW := mz_in1 (mz_t6 (List.mem_of_getElem? (i := 227) rfl)) rfl
theorem mw_1505 : Cond.methodLink "FallingBlocksLaw" 149 ⟨"FallingBlocksModel", "covers", "(II)Z"⟩ ∈ mz_GW := mz_in1 (mz_t6 (List.mem_of_getElem? (i := 228) rfl)) rfl
theorem mw_1506 : Cond.instanceMethod ⟨"FallingBlocksModel", "covers", "(II)Z"⟩ ∈ mz_GW := mz_in1 (mz_t6 (List.mem_of_getElem? (i := 229) rfl)) rfl
theorem mw_1507 : Cond.selects "FallingBlocksModel" ⟨"FallingBlocksModel", "covers", "(II)Z"⟩ ⟨"FallingBlocksModel", "covers", "(II)Z"⟩ ∈ mz_GW := mz_in1 (mz_t6 (List.mem_of_getElem? (i := 230) rfl)) rfl
theorem mw_1508 : Cond.code ⟨"FallingBlocksModel", "covers", "(II)Z"⟩ prog_14_method_27_code 5 (some .boolean) ∈ mz_GW := mz_in1 (mz_t6 (List.mem_of_getElem? (i := 231) rfl)) rfl
theorem mw_1509 : Cond.methodLink "FallingBlocksLaw" 152 ⟨"FallingBlocksModel", "shift", "(I)Z"⟩ ∈ mz_GW := mz_in1 (mz_t6 (List.mem_of_getElem? (i := 232) rfl)) rfl
theorem mw_1510 : Cond.instanceMethod ⟨"FallingBlocksModel", "shift", "(I)Z"⟩ ∈ mz_GW := mz_in1 (mz_t6 (List.mem_of_getElem? (i := 233) rfl)) rfl
theorem mw_1511 : Cond.selects "FallingBlocksModel" ⟨"FallingBlocksModel", "shift", "(I)Z"⟩ ⟨"FallingBlocksModel", "shift", "(I)Z"⟩ ∈ mz_GW := mz_in1 (mz_t6 (List.mem_of_getElem? (i := 234) rfl)) rfl
theorem mw_1512 : Cond.code ⟨"FallingBlocksModel", "shift", "(I)Z"⟩ prog_14_method_33_code 2 (some .boolean) ∈ mz_GW := mz_in1 (mz_t6 (List.mem_of_getElem? (i := 235) rfl)) rfl
theorem mw_1513 : Cond.methodLink "FallingBlocksModel" 152 ⟨"FallingBlocksModel", "lacks", "(I)I"⟩ ∈ mz_GW := mz_in1 (mz_t6 (List.mem_of_getElem? (i := 236) rfl)) rfl
theorem mw_1515 : Cond.instanceMethod ⟨"FallingBlocksModel", "lacks", "(I)I"⟩ ∈ mz_GW := mz_in1 (mz_t6 (List.mem_of_getElem? (i := 238) rfl)) rfl
theorem mw_1516 : Cond.code ⟨"FallingBlocksModel", "lacks", "(I)I"⟩ prog_14_method_32_code 2 (some .int) ∈ mz_GW := mz_in1 (mz_t6 (List.mem_of_getElem? (i := 239) rfl)) rfl
theorem mw_1517 : Cond.methodLink "FallingBlocksModel" 155 ⟨"FallingBlocksModel", "shifts", "(I)Z"⟩ ∈ mz_GW := mz_in1 (mz_t7 (List.mem_of_getElem? (i := 0) rfl)) rfl
theorem mw_1519 : Cond.instanceMethod ⟨"FallingBlocksModel", "shifts", "(I)Z"⟩ ∈ mz_GW := mz_in1 (mz_t7 (List.mem_of_getElem? (i := 2) rfl)) rfl
theorem mw_1520 : Cond.code ⟨"FallingBlocksModel", "shifts", "(I)Z"⟩ prog_14_method_29_code 3 (some .boolean) ∈ mz_GW := mz_in1 (mz_t7 (List.mem_of_getElem? (i := 3) rfl)) rfl
theorem mw_1521 : Cond.methodLink "FallingBlocksModel" 138 ⟨"FallingBlocksModel", "canFall", "()Z"⟩ ∈ mz_GW := mz_in1 (mz_t7 (List.mem_of_getElem? (i := 4) rfl)) rfl
theorem mw_1523 : Cond.instanceMethod ⟨"FallingBlocksModel", "canFall", "()Z"⟩ ∈ mz_GW := mz_in1 (mz_t7 (List.mem_of_getElem? (i := 6) rfl)) rfl
theorem mw_1524 : Cond.code ⟨"FallingBlocksModel", "canFall", "()Z"⟩ prog_14_method_12_code 1 (some .boolean) ∈ mz_GW := mz_in1 (mz_t7 (List.mem_of_getElem? (i := 7) rfl)) rfl
theorem mw_1525 : Cond.methodLink "FallingBlocksModel" 142 ⟨"FallingBlocksModel", "settles", "(Z)V"⟩ ∈ mz_GW := mz_in1 (mz_t7 (List.mem_of_getElem? (i := 8) rfl)) rfl
theorem mw_1527 : Cond.instanceMethod ⟨"FallingBlocksModel", "settles", "(Z)V"⟩ ∈ mz_GW := mz_in1 (mz_t7 (List.mem_of_getElem? (i := 10) rfl)) rfl
theorem mw_1528 : Cond.code ⟨"FallingBlocksModel", "settles", "(Z)V"⟩ prog_14_method_28_code 2 none ∈ mz_GW := mz_in1 (mz_t7 (List.mem_of_getElem? (i := 11) rfl)) rfl
theorem mw_1529 : Cond.methodLink "FallingBlocksLaw" 155 ⟨"FallingBlocksModel", "slide", "(I)I"⟩ ∈ mz_GW := mz_in1 (mz_t7 (List.mem_of_getElem? (i := 12) rfl)) rfl
theorem mw_1530 : Cond.instanceMethod ⟨"FallingBlocksModel", "slide", "(I)I"⟩ ∈ mz_GW := mz_in1 (mz_t7 (List.mem_of_getElem? (i := 13) rfl)) rfl
theorem mw_1531 : Cond.selects "FallingBlocksModel" ⟨"FallingBlocksModel", "slide", "(I)I"⟩ ⟨"FallingBlocksModel", "slide", "(I)I"⟩ ∈ mz_GW := mz_in1 (mz_t7 (List.mem_of_getElem? (i := 14) rfl)) rfl
theorem mw_1532 : Cond.code ⟨"FallingBlocksModel", "slide", "(I)I"⟩ prog_14_method_34_code 3 (some .int) ∈ mz_GW := mz_in1 (mz_t7 (List.mem_of_getElem? (i := 15) rfl)) rfl
theorem mw_1533 : Cond.methodLink "FallingBlocksModel" 159 ⟨"FallingBlocksModel", "slides", "(I)I"⟩ ∈ mz_GW := mz_in1 (mz_t7 (List.mem_of_getElem? (i := 16) rfl)) rfl
theorem mw_1535 : Cond.instanceMethod ⟨"FallingBlocksModel", "slides", "(I)I"⟩ ∈ mz_GW := mz_in1 (mz_t7 (List.mem_of_getElem? (i := 18) rfl)) rfl
theorem mw_1536 : Cond.code ⟨"FallingBlocksModel", "slides", "(I)I"⟩ prog_14_method_30_code 4 (some .int) ∈ mz_GW := mz_in1 (mz_t7 (List.mem_of_getElem? (i := 19) rfl)) rfl
theorem mw_1537 : Cond.methodLink "FallingBlocksLaw" 158 ⟨"FallingBlocksModel", "rotate", "(I)I"⟩ ∈ mz_GW := mz_in1 (mz_t7 (List.mem_of_getElem? (i := 20) rfl)) rfl
theorem mw_1538 : Cond.instanceMethod ⟨"FallingBlocksModel", "rotate", "(I)I"⟩ ∈ mz_GW := mz_in1 (mz_t7 (List.mem_of_getElem? (i := 21) rfl)) rfl
theorem mw_1539 : Cond.selects "FallingBlocksModel" ⟨"FallingBlocksModel", "rotate", "(I)I"⟩ ⟨"FallingBlocksModel", "rotate", "(I)I"⟩ ∈ mz_GW := mz_in1 (mz_t7 (List.mem_of_getElem? (i := 22) rfl)) rfl
theorem mw_1540 : Cond.code ⟨"FallingBlocksModel", "rotate", "(I)I"⟩ prog_14_method_35_code 3 (some .int) ∈ mz_GW := mz_in1 (mz_t7 (List.mem_of_getElem? (i := 23) rfl)) rfl
theorem mw_1541 : Cond.methodLink "FallingBlocksModel" 162 ⟨"FallingBlocksModel", "rotates", "(I)I"⟩ ∈ mz_GW := mz_in1 (mz_t7 (List.mem_of_getElem? (i := 24) rfl)) rfl
theorem mw_1543 : Cond.instanceMethod ⟨"FallingBlocksModel", "rotates", "(I)I"⟩ ∈ mz_GW := mz_in1 (mz_t7 (List.mem_of_getElem? (i := 26) rfl)) rfl
theorem mw_1544 : Cond.code ⟨"FallingBlocksModel", "rotates", "(I)I"⟩ prog_14_method_31_code 7 (some .int) ∈ mz_GW := mz_in1 (mz_t7 (List.mem_of_getElem? (i := 27) rfl)) rfl
theorem mw_1545 : Cond.methodLink "FallingBlocksModel" 146 ⟨"FallingBlocksModel", "kickMany", "(I)I"⟩ ∈ mz_GW := mz_in1 (mz_t7 (List.mem_of_getElem? (i := 28) rfl)) rfl
theorem mw_1547 : Cond.instanceMethod ⟨"FallingBlocksModel", "kickMany", "(I)I"⟩ ∈ mz_GW := mz_in1 (mz_t7 (List.mem_of_getElem? (i := 30) rfl)) rfl
theorem mw_1548 : Cond.code ⟨"FallingBlocksModel", "kickMany", "(I)I"⟩ prog_14_method_13_code 2 (some .int) ∈ mz_GW := mz_in1 (mz_t7 (List.mem_of_getElem? (i := 31) rfl)) rfl
theorem mw_1549 : Cond.methodLink "FallingBlocksModel" 149 ⟨"FallingBlocksModel", "kick", "(IIII)I"⟩ ∈ mz_GW := mz_in1 (mz_t7 (List.mem_of_getElem? (i := 32) rfl)) rfl
theorem mw_1551 : Cond.instanceMethod ⟨"FallingBlocksModel", "kick", "(IIII)I"⟩ ∈ mz_GW := mz_in1 (mz_t7 (List.mem_of_getElem? (i := 34) rfl)) rfl
theorem mw_1552 : Cond.code ⟨"FallingBlocksModel", "kick", "(IIII)I"⟩ prog_14_method_14_code 6 (some .int) ∈ mz_GW := mz_in1 (mz_t7 (List.mem_of_getElem? (i := 35) rfl)) rfl
theorem mw_1553 : Cond.methodLink "FallingBlocksLaw" 162 ⟨"FallingBlocksModel", "fall", "()Z"⟩ ∈ mz_GW := mz_in1 (mz_t7 (List.mem_of_getElem? (i := 36) rfl)) rfl
theorem mw_1554 : Cond.instanceMethod ⟨"FallingBlocksModel", "fall", "()Z"⟩ ∈ mz_GW := mz_in1 (mz_t7 (List.mem_of_getElem? (i := 37) rfl)) rfl
theorem mw_1555 : Cond.selects "FallingBlocksModel" ⟨"FallingBlocksModel", "fall", "()Z"⟩ ⟨"FallingBlocksModel", "fall", "()Z"⟩ ∈ mz_GW := mz_in1 (mz_t7 (List.mem_of_getElem? (i := 38) rfl)) rfl
theorem mw_1556 : Cond.code ⟨"FallingBlocksModel", "fall", "()Z"⟩ prog_14_method_38_code 1 (some .boolean) ∈ mz_GW := mz_in1 (mz_t7 (List.mem_of_getElem? (i := 39) rfl)) rfl
theorem mw_1557 : Cond.methodLink "FallingBlocksModel" 168 ⟨"FallingBlocksModel", "fallsByHand", "()Z"⟩ ∈ mz_GW := mz_in1 (mz_t7 (List.mem_of_getElem? (i := 40) rfl)) rfl
theorem mw_1559 : Cond.instanceMethod ⟨"FallingBlocksModel", "fallsByHand", "()Z"⟩ ∈ mz_GW := mz_in1 (mz_t7 (List.mem_of_getElem? (i := 42) rfl)) rfl
theorem mw_1560 : Cond.code ⟨"FallingBlocksModel", "fallsByHand", "()Z"⟩ prog_14_method_37_code 1 (some .boolean) ∈ mz_GW := mz_in1 (mz_t7 (List.mem_of_getElem? (i := 43) rfl)) rfl
theorem mw_1561 : Cond.methodLink "FallingBlocksModel" 165 ⟨"FallingBlocksModel", "falls", "()V"⟩ ∈ mz_GW := mz_in1 (mz_t7 (List.mem_of_getElem? (i := 44) rfl)) rfl
theorem mw_1563 : Cond.instanceMethod ⟨"FallingBlocksModel", "falls", "()V"⟩ ∈ mz_GW := mz_in1 (mz_t7 (List.mem_of_getElem? (i := 46) rfl)) rfl
theorem mw_1564 : Cond.code ⟨"FallingBlocksModel", "falls", "()V"⟩ prog_14_method_36_code 1 none ∈ mz_GW := mz_in1 (mz_t7 (List.mem_of_getElem? (i := 47) rfl)) rfl
theorem mw_1565 : Cond.methodLink "FallingBlocksLaw" 165 ⟨"FallingBlocksModel", "drop", "()I"⟩ ∈ mz_GW := mz_in1 (mz_t7 (List.mem_of_getElem? (i := 48) rfl)) rfl
theorem mw_1566 : Cond.instanceMethod ⟨"FallingBlocksModel", "drop", "()I"⟩ ∈ mz_GW := mz_in1 (mz_t7 (List.mem_of_getElem? (i := 49) rfl)) rfl
theorem mw_1567 : Cond.selects "FallingBlocksModel" ⟨"FallingBlocksModel", "drop", "()I"⟩ ⟨"FallingBlocksModel", "drop", "()I"⟩ ∈ mz_GW := mz_in1 (mz_t7 (List.mem_of_getElem? (i := 50) rfl)) rfl
theorem mw_1568 : Cond.code ⟨"FallingBlocksModel", "drop", "()I"⟩ prog_14_method_48_code 1 (some .int) ∈ mz_GW := mz_in1 (mz_t7 (List.mem_of_getElem? (i := 51) rfl)) rfl
theorem mw_1569 : Cond.methodLink "FallingBlocksModel" 200 ⟨"FallingBlocksModel", "drops", "()I"⟩ ∈ mz_GW := mz_in1 (mz_t7 (List.mem_of_getElem? (i := 52) rfl)) rfl
theorem mw_1571 : Cond.instanceMethod ⟨"FallingBlocksModel", "drops", "()I"⟩ ∈ mz_GW := mz_in1 (mz_t7 (List.mem_of_getElem? (i := 54) rfl)) rfl
theorem mw_1572 : Cond.code ⟨"FallingBlocksModel", "drops", "()I"⟩ prog_14_method_47_code 2 (some .int) ∈ mz_GW := mz_in1 (mz_t7 (List.mem_of_getElem? (i := 55) rfl)) rfl
theorem mw_1573 : Cond.methodLink "FallingBlocksModel" 197 ⟨"FallingBlocksModel", "locks", "()I"⟩ ∈ mz_GW := mz_in1 (mz_t7 (List.mem_of_getElem? (i := 56) rfl)) rfl
theorem mw_1575 : Cond.instanceMethod ⟨"FallingBlocksModel", "locks", "()I"⟩ ∈ mz_GW := mz_in1 (mz_t7 (List.mem_of_getElem? (i := 58) rfl)) rfl
theorem mw_1576 : Cond.code ⟨"FallingBlocksModel", "locks", "()I"⟩ prog_14_method_46_code 5 (some .int) ∈ mz_GW := mz_in1 (mz_t7 (List.mem_of_getElem? (i := 59) rfl)) rfl
theorem mw_1577 : Cond.methodLink "FallingBlocksModel" 180 ⟨"FallingBlocksModel", "leastOf", "(III)I"⟩ ∈ mz_GW := mz_in1 (mz_t7 (List.mem_of_getElem? (i := 60) rfl)) rfl
theorem mw_1579 : Cond.instanceMethod ⟨"FallingBlocksModel", "leastOf", "(III)I"⟩ ∈ mz_GW := mz_in1 (mz_t7 (List.mem_of_getElem? (i := 62) rfl)) rfl
theorem mw_1580 : Cond.code ⟨"FallingBlocksModel", "leastOf", "(III)I"⟩ prog_14_method_73_code 6 (some .int) ∈ mz_GW := mz_in1 (mz_t7 (List.mem_of_getElem? (i := 63) rfl)) rfl
theorem mw_1581 : Cond.methodLink "FallingBlocksModel" 239 ⟨"FallingBlocksModel", "tellSteps", "(I)V"⟩ ∈ mz_GW := mz_in1 (mz_t7 (List.mem_of_getElem? (i := 64) rfl)) rfl
theorem mw_1583 : Cond.instanceMethod ⟨"FallingBlocksModel", "tellSteps", "(I)V"⟩ ∈ mz_GW := mz_in1 (mz_t7 (List.mem_of_getElem? (i := 66) rfl)) rfl
theorem mw_1584 : Cond.code ⟨"FallingBlocksModel", "tellSteps", "(I)V"⟩ prog_14_method_70_code 4 none ∈ mz_GW := mz_in1 (mz_t7 (List.mem_of_getElem? (i := 67) rfl)) rfl
theorem mw_1585 : Cond.methodLink "FallingBlocksModel" 233 ⟨"FallingBlocksModel", "spreads", "(III)Z"⟩ ∈ mz_GW := mz_in1 (mz_t7 (List.mem_of_getElem? (i := 68) rfl)) rfl
theorem mw_1587 : Cond.instanceMethod ⟨"FallingBlocksModel", "spreads", "(III)Z"⟩ ∈ mz_GW := mz_in1 (mz_t7 (List.mem_of_getElem? (i := 70) rfl)) rfl
theorem mw_1588 : Cond.code ⟨"FallingBlocksModel", "spreads", "(III)Z"⟩ prog_14_method_69_code 10 (some .boolean) ∈ mz_GW := mz_in1 (mz_t7 (List.mem_of_getElem? (i := 71) rfl)) rfl
theorem mw_1589 : Cond.methodLink "FallingBlocksModel" 227 ⟨"FallingBlocksModel", "isWithin", "(III)Z"⟩ ∈ mz_GW := mz_in1 (mz_t7 (List.mem_of_getElem? (i := 72) rfl)) rfl
theorem mw_1591 : Cond.instanceMethod ⟨"FallingBlocksModel", "isWithin", "(III)Z"⟩ ∈ mz_GW := mz_in1 (mz_t7 (List.mem_of_getElem? (i := 74) rfl)) rfl
theorem mw_1592 : Cond.code ⟨"FallingBlocksModel", "isWithin", "(III)Z"⟩ prog_14_method_67_code 6 (some .boolean) ∈ mz_GW := mz_in1 (mz_t7 (List.mem_of_getElem? (i := 75) rfl)) rfl
theorem mw_1593 : Cond.methodLink "FallingBlocksModel" 230 ⟨"FallingBlocksModel", "improves", "(III)Z"⟩ ∈ mz_GW := mz_in1 (mz_t7 (List.mem_of_getElem? (i := 76) rfl)) rfl
theorem mw_1595 : Cond.instanceMethod ⟨"FallingBlocksModel", "improves", "(III)Z"⟩ ∈ mz_GW := mz_in1 (mz_t7 (List.mem_of_getElem? (i := 78) rfl)) rfl
theorem mw_1596 : Cond.code ⟨"FallingBlocksModel", "improves", "(III)Z"⟩ prog_14_method_68_code 5 (some .boolean) ∈ mz_GW := mz_in1 (mz_t7 (List.mem_of_getElem? (i := 79) rfl)) rfl
theorem mw_1597 : Cond.methodLink "FallingBlocksModel" 242 ⟨"FallingBlocksModel", "areLike", "(IIIII)Z"⟩ ∈ mz_GW := mz_in1 (mz_t7 (List.mem_of_getElem? (i := 80) rfl)) rfl
theorem mw_1599 : Cond.instanceMethod ⟨"FallingBlocksModel", "areLike", "(IIIII)Z"⟩ ∈ mz_GW := mz_in1 (mz_t7 (List.mem_of_getElem? (i := 82) rfl)) rfl
theorem mw_1600 : Cond.code ⟨"FallingBlocksModel", "areLike", "(IIIII)Z"⟩ prog_14_method_71_code 12 (some .boolean) ∈ mz_GW := mz_in1 (mz_t7 (List.mem_of_getElem? (i := 83) rfl)) rfl
theorem mw_1601 : Cond.methodLink "FallingBlocksModel" 236 ⟨"FallingBlocksModel", "lowest", "(II)I"⟩ ∈ mz_GW := mz_in1 (mz_t7 (List.mem_of_getElem? (i := 84) rfl)) rfl
theorem mw_1603 : Cond.instanceMethod ⟨"FallingBlocksModel", "lowest", "(II)I"⟩ ∈ mz_GW := mz_in1 (mz_t7 (List.mem_of_getElem? (i := 86) rfl)) rfl
theorem mw_1604 : Cond.code ⟨"FallingBlocksModel", "lowest", "(II)I"⟩ prog_14_method_72_code 5 (some .int) ∈ mz_GW := mz_in1 (mz_t7 (List.mem_of_getElem? (i := 87) rfl)) rfl
theorem mw_1605 : Cond.methodLink "FallingBlocksModel" 184 ⟨"FallingBlocksModel", "spin", "()I"⟩ ∈ mz_GW := mz_in1 (mz_t7 (List.mem_of_getElem? (i := 88) rfl)) rfl
theorem mw_1607 : Cond.instanceMethod ⟨"FallingBlocksModel", "spin", "()I"⟩ ∈ mz_GW := mz_in1 (mz_t7 (List.mem_of_getElem? (i := 90) rfl)) rfl
theorem mw_1608 : Cond.code ⟨"FallingBlocksModel", "spin", "()I"⟩ prog_14_method_40_code 9 (some .int) ∈ mz_GW := mz_in1 (mz_t7 (List.mem_of_getElem? (i := 91) rfl)) rfl
theorem mw_1609 : Cond.methodLink "FallingBlocksModel" 171 ⟨"FallingBlocksModel", "isFilled", "(II)Z"⟩ ∈ mz_GW := mz_in1 (mz_t7 (List.mem_of_getElem? (i := 92) rfl)) rfl
theorem mw_1611 : Cond.instanceMethod ⟨"FallingBlocksModel", "isFilled", "(II)Z"⟩ ∈ mz_GW := mz_in1 (mz_t7 (List.mem_of_getElem? (i := 94) rfl)) rfl
theorem mw_1612 : Cond.code ⟨"FallingBlocksModel", "isFilled", "(II)Z"⟩ prog_14_method_39_code 3 (some .boolean) ∈ mz_GW := mz_in1 (mz_t7 (List.mem_of_getElem? (i := 95) rfl)) rfl
theorem mw_1613 : Cond.methodLink "FallingBlocksModel" 187 ⟨"FallingBlocksModel", "fills", "()V"⟩ ∈ mz_GW := mz_in1 (mz_t7 (List.mem_of_getElem? (i := 96) rfl)) rfl
theorem mw_1615 : Cond.instanceMethod ⟨"FallingBlocksModel", "fills", "()V"⟩ ∈ mz_GW := mz_in1 (mz_t7 (List.mem_of_getElem? (i := 98) rfl)) rfl
theorem mw_1616 : Cond.code ⟨"FallingBlocksModel", "fills", "()V"⟩ prog_14_method_44_code 2 none ∈ mz_GW := mz_in1 (mz_t7 (List.mem_of_getElem? (i := 99) rfl)) rfl
theorem mw_1617 : Cond.methodLink "FallingBlocksModel" 190 ⟨"FallingBlocksModel", "clearsRows", "()I"⟩ ∈ mz_GW := mz_in1 (mz_t7 (List.mem_of_getElem? (i := 100) rfl)) rfl
theorem mw_1619 : Cond.instanceMethod ⟨"FallingBlocksModel", "clearsRows", "()I"⟩ ∈ mz_GW := mz_in1 (mz_t7 (List.mem_of_getElem? (i := 102) rfl)) rfl
theorem mw_1620 : Cond.code ⟨"FallingBlocksModel", "clearsRows", "()I"⟩ prog_14_method_42_code 4 (some .int) ∈ mz_GW := mz_in1 (mz_t7 (List.mem_of_getElem? (i := 103) rfl)) rfl
theorem mw_1621 : Cond.methodLink "FallingBlocksModel" 174 ⟨"FallingBlocksModel", "isFull", "(I)Z"⟩ ∈ mz_GW := mz_in1 (mz_t7 (List.mem_of_getElem? (i := 104) rfl)) rfl
theorem mw_1623 : Cond.instanceMethod ⟨"FallingBlocksModel", "isFull", "(I)Z"⟩ ∈ mz_GW := mz_in1 (mz_t7 (List.mem_of_getElem? (i := 106) rfl)) rfl
theorem mw_1624 : Cond.code ⟨"FallingBlocksModel", "isFull", "(I)Z"⟩ prog_14_method_41_code 4 (some .boolean) ∈ mz_GW := mz_in1 (mz_t7 (List.mem_of_getElem? (i := 107) rfl)) rfl
theorem mw_1625 : Cond.methodLink "FallingBlocksModel" 193 ⟨"FallingBlocksModel", "scores", "(III)V"⟩ ∈ mz_GW := mz_in1 (mz_t7 (List.mem_of_getElem? (i := 108) rfl)) rfl
theorem mw_1627 : Cond.instanceMethod ⟨"FallingBlocksModel", "scores", "(III)V"⟩ ∈ mz_GW := mz_in1 (mz_t7 (List.mem_of_getElem? (i := 110) rfl)) rfl
theorem mw_1628 : Cond.code ⟨"FallingBlocksModel", "scores", "(III)V"⟩ prog_14_method_45_code 7 none ∈ mz_GW := mz_in1 (mz_t7 (List.mem_of_getElem? (i := 111) rfl)) rfl
theorem mw_1629 : Cond.methodLink "FallingBlocksModel" 177 ⟨"FallingBlocksModel", "filled", "()I"⟩ ∈ mz_GW := mz_in1 (mz_t7 (List.mem_of_getElem? (i := 112) rfl)) rfl
theorem mw_1631 : Cond.instanceMethod ⟨"FallingBlocksModel", "filled", "()I"⟩ ∈ mz_GW := mz_in1 (mz_t7 (List.mem_of_getElem? (i := 114) rfl)) rfl
theorem mw_1632 : Cond.code ⟨"FallingBlocksModel", "filled", "()I"⟩ prog_14_method_43_code 3 (some .int) ∈ mz_GW := mz_in1 (mz_t7 (List.mem_of_getElem? (i := 115) rfl)) rfl
theorem mw_1633 : Cond.methodLink "FallingBlocksLaw" 168 ⟨"FallingBlocksModel", "hold", "()I"⟩ ∈ mz_GW := mz_in1 (mz_t7 (List.mem_of_getElem? (i := 116) rfl)) rfl
theorem mw_1634 : Cond.instanceMethod ⟨"FallingBlocksModel", "hold", "()I"⟩ ∈ mz_GW := mz_in1 (mz_t7 (List.mem_of_getElem? (i := 117) rfl)) rfl
theorem mw_1635 : Cond.selects "FallingBlocksModel" ⟨"FallingBlocksModel", "hold", "()I"⟩ ⟨"FallingBlocksModel", "hold", "()I"⟩ ∈ mz_GW := mz_in1 (mz_t7 (List.mem_of_getElem? (i := 118) rfl)) rfl
theorem mw_1636 : Cond.code ⟨"FallingBlocksModel", "hold", "()I"⟩ prog_14_method_50_code 1 (some .int) ∈ mz_GW := mz_in1 (mz_t7 (List.mem_of_getElem? (i := 119) rfl)) rfl
theorem mw_1637 : Cond.methodLink "FallingBlocksModel" 203 ⟨"FallingBlocksModel", "holds", "()I"⟩ ∈ mz_GW := mz_in1 (mz_t7 (List.mem_of_getElem? (i := 120) rfl)) rfl
theorem mw_1639 : Cond.instanceMethod ⟨"FallingBlocksModel", "holds", "()I"⟩ ∈ mz_GW := mz_in1 (mz_t7 (List.mem_of_getElem? (i := 122) rfl)) rfl
theorem mw_1640 : Cond.code ⟨"FallingBlocksModel", "holds", "()I"⟩ prog_14_method_49_code 2 (some .int) ∈ mz_GW := mz_in1 (mz_t7 (List.mem_of_getElem? (i := 123) rfl)) rfl
theorem mw_1641 : Cond.methodLink "FallingBlocksLaw" 171 ⟨"FallingBlocksModel", "held", "()I"⟩ ∈ mz_GW := mz_in1 (mz_t7 (List.mem_of_getElem? (i := 124) rfl)) rfl
theorem mw_1642 : Cond.instanceMethod ⟨"FallingBlocksModel", "held", "()I"⟩ ∈ mz_GW := mz_in1 (mz_t7 (List.mem_of_getElem? (i := 125) rfl)) rfl
theorem mw_1643 : Cond.selects "FallingBlocksModel" ⟨"FallingBlocksModel", "held", "()I"⟩ ⟨"FallingBlocksModel", "held", "()I"⟩ ∈ mz_GW := mz_in1 (mz_t7 (List.mem_of_getElem? (i := 126) rfl)) rfl
theorem mw_1644 : Cond.code ⟨"FallingBlocksModel", "held", "()I"⟩ prog_14_method_51_code 1 (some .int) ∈ mz_GW := mz_in1 (mz_t7 (List.mem_of_getElem? (i := 127) rfl)) rfl
theorem mw_1645 : Cond.methodLink "FallingBlocksLaw" 174 ⟨"FallingBlocksModel", "tick", "(I)I"⟩ ∈ mz_GW := mz_in1 (mz_t7 (List.mem_of_getElem? (i := 128) rfl)) rfl
theorem mw_1646 : Cond.instanceMethod ⟨"FallingBlocksModel", "tick", "(I)I"⟩ ∈ mz_GW := mz_in1 (mz_t7 (List.mem_of_getElem? (i := 129) rfl)) rfl
theorem mw_1647 : Cond.selects "FallingBlocksModel" ⟨"FallingBlocksModel", "tick", "(I)I"⟩ ⟨"FallingBlocksModel", "tick", "(I)I"⟩ ∈ mz_GW := mz_in1 (mz_t7 (List.mem_of_getElem? (i := 130) rfl)) rfl
theorem mw_1648 : Cond.code ⟨"FallingBlocksModel", "tick", "(I)I"⟩ prog_14_method_53_code 4 (some .int) ∈ mz_GW := mz_in1 (mz_t7 (List.mem_of_getElem? (i := 131) rfl)) rfl
theorem mw_1649 : Cond.methodLink "FallingBlocksModel" 206 ⟨"FallingBlocksModel", "ticksOnce", "()Z"⟩ ∈ mz_GW := mz_in1 (mz_t7 (List.mem_of_getElem? (i := 132) rfl)) rfl
theorem mw_1651 : Cond.instanceMethod ⟨"FallingBlocksModel", "ticksOnce", "()Z"⟩ ∈ mz_GW := mz_in1 (mz_t7 (List.mem_of_getElem? (i := 134) rfl)) rfl
theorem mw_1652 : Cond.code ⟨"FallingBlocksModel", "ticksOnce", "()Z"⟩ prog_14_method_52_code 2 (some .boolean) ∈ mz_GW := mz_in1 (mz_t7 (List.mem_of_getElem? (i := 135) rfl)) rfl
theorem mw_1653 : Cond.methodLink "FallingBlocksLaw" 177 ⟨"FallingBlocksModel", "garbage", "(II)I"⟩ ∈ mz_GW := mz_in1 (mz_t7 (List.mem_of_getElem? (i := 136) rfl)) rfl
theorem mw_1654 : Cond.instanceMethod ⟨"FallingBlocksModel", "garbage", "(II)I"⟩ ∈ mz_GW := mz_in1 (mz_t7 (List.mem_of_getElem? (i := 137) rfl)) rfl
theorem mw_1655 : Cond.selects "FallingBlocksModel" ⟨"FallingBlocksModel", "garbage", "(II)I"⟩ ⟨"FallingBlocksModel", "garbage", "(II)I"⟩ ∈ mz_GW := mz_in1 (mz_t7 (List.mem_of_getElem? (i := 138) rfl)) rfl
theorem mw_1656 : Cond.code ⟨"FallingBlocksModel", "garbage", "(II)I"⟩ prog_14_method_54_code 5 (some .int) ∈ mz_GW := mz_in1 (mz_t7 (List.mem_of_getElem? (i := 139) rfl)) rfl
theorem mw_1657 : Cond.methodLink "FallingBlocksLaw" 180 ⟨"FallingBlocksModel", "figure", "(I)I"⟩ ∈ mz_GW := mz_in1 (mz_t7 (List.mem_of_getElem? (i := 140) rfl)) rfl
theorem mw_1658 : Cond.instanceMethod ⟨"FallingBlocksModel", "figure", "(I)I"⟩ ∈ mz_GW := mz_in1 (mz_t7 (List.mem_of_getElem? (i := 141) rfl)) rfl
theorem mw_1659 : Cond.selects "FallingBlocksModel" ⟨"FallingBlocksModel", "figure", "(I)I"⟩ ⟨"FallingBlocksModel", "figure", "(I)I"⟩ ∈ mz_GW := mz_in1 (mz_t7 (List.mem_of_getElem? (i := 142) rfl)) rfl
theorem mw_1660 : Cond.code ⟨"FallingBlocksModel", "figure", "(I)I"⟩ prog_14_method_61_code 4 (some .int) ∈ mz_GW := mz_in1 (mz_t7 (List.mem_of_getElem? (i := 143) rfl)) rfl
theorem mw_1661 : Cond.methodLink "FallingBlocksModel" 212 ⟨"FallingBlocksModel", "holes", "()I"⟩ ∈ mz_GW := mz_in1 (mz_t7 (List.mem_of_getElem? (i := 144) rfl)) rfl
theorem mw_1663 : Cond.instanceMethod ⟨"FallingBlocksModel", "holes", "()I"⟩ ∈ mz_GW := mz_in1 (mz_t7 (List.mem_of_getElem? (i := 146) rfl)) rfl
theorem mw_1664 : Cond.code ⟨"FallingBlocksModel", "holes", "()I"⟩ prog_14_method_56_code 4 (some .int) ∈ mz_GW := mz_in1 (mz_t7 (List.mem_of_getElem? (i := 147) rfl)) rfl
theorem mw_1665 : Cond.methodLink "FallingBlocksModel" 209 ⟨"FallingBlocksModel", "heightOf", "(I)I"⟩ ∈ mz_GW := mz_in1 (mz_t7 (List.mem_of_getElem? (i := 148) rfl)) rfl
theorem mw_1667 : Cond.instanceMethod ⟨"FallingBlocksModel", "heightOf", "(I)I"⟩ ∈ mz_GW := mz_in1 (mz_t7 (List.mem_of_getElem? (i := 150) rfl)) rfl
theorem mw_1668 : Cond.code ⟨"FallingBlocksModel", "heightOf", "(I)I"⟩ prog_14_method_55_code 3 (some .int) ∈ mz_GW := mz_in1 (mz_t7 (List.mem_of_getElem? (i := 151) rfl)) rfl
theorem mw_1669 : Cond.methodLink "FallingBlocksModel" 215 ⟨"FallingBlocksModel", "totalHeight", "()I"⟩ ∈ mz_GW := mz_in1 (mz_t7 (List.mem_of_getElem? (i := 152) rfl)) rfl
theorem mw_1671 : Cond.instanceMethod ⟨"FallingBlocksModel", "totalHeight", "()I"⟩ ∈ mz_GW := mz_in1 (mz_t7 (List.mem_of_getElem? (i := 154) rfl)) rfl
theorem mw_1672 : Cond.code ⟨"FallingBlocksModel", "totalHeight", "()I"⟩ prog_14_method_57_code 3 (some .int) ∈ mz_GW := mz_in1 (mz_t7 (List.mem_of_getElem? (i := 155) rfl)) rfl
theorem mw_1673 : Cond.methodLink "FallingBlocksModel" 218 ⟨"FallingBlocksModel", "roughness", "()I"⟩ ∈ mz_GW := mz_in1 (mz_t7 (List.mem_of_getElem? (i := 156) rfl)) rfl
theorem mw_1675 : Cond.instanceMethod ⟨"FallingBlocksModel", "roughness", "()I"⟩ ∈ mz_GW := mz_in1 (mz_t7 (List.mem_of_getElem? (i := 158) rfl)) rfl
theorem mw_1676 : Cond.code ⟨"FallingBlocksModel", "roughness", "()I"⟩ prog_14_method_58_code 4 (some .int) ∈ mz_GW := mz_in1 (mz_t7 (List.mem_of_getElem? (i := 159) rfl)) rfl
theorem mw_1677 : Cond.methodLink "FallingBlocksModel" 221 ⟨"FallingBlocksModel", "transitions", "()I"⟩ ∈ mz_GW := mz_in1 (mz_t7 (List.mem_of_getElem? (i := 160) rfl)) rfl
theorem mw_1679 : Cond.instanceMethod ⟨"FallingBlocksModel", "transitions", "()I"⟩ ∈ mz_GW := mz_in1 (mz_t7 (List.mem_of_getElem? (i := 162) rfl)) rfl
theorem mw_1680 : Cond.code ⟨"FallingBlocksModel", "transitions", "()I"⟩ prog_14_method_59_code 8 (some .int) ∈ mz_GW := mz_in1 (mz_t7 (List.mem_of_getElem? (i := 163) rfl)) rfl
theorem mw_1681 : Cond.methodLink "FallingBlocksModel" 224 ⟨"FallingBlocksModel", "well", "()I"⟩ ∈ mz_GW := mz_in1 (mz_t7 (List.mem_of_getElem? (i := 164) rfl)) rfl
theorem mw_1683 : Cond.instanceMethod ⟨"FallingBlocksModel", "well", "()I"⟩ ∈ mz_GW := mz_in1 (mz_t7 (List.mem_of_getElem? (i := 166) rfl)) rfl
theorem mw_1684 : Cond.code ⟨"FallingBlocksModel", "well", "()I"⟩ prog_14_method_60_code 6 (some .int) ∈ mz_GW := mz_in1 (mz_t7 (List.mem_of_getElem? (i := 167) rfl)) rfl
theorem mw_1685 : Cond.methodLink "FallingBlocksLaw" 183 ⟨"FallingBlocksModel", "height", "(I)I"⟩ ∈ mz_GW := mz_in1 (mz_t7 (List.mem_of_getElem? (i := 168) rfl)) rfl
theorem mw_1686 : Cond.instanceMethod ⟨"FallingBlocksModel", "height", "(I)I"⟩ ∈ mz_GW := mz_in1 (mz_t7 (List.mem_of_getElem? (i := 169) rfl)) rfl
theorem mw_1687 : Cond.selects "FallingBlocksModel" ⟨"FallingBlocksModel", "height", "(I)I"⟩ ⟨"FallingBlocksModel", "height", "(I)I"⟩ ∈ mz_GW := mz_in1 (mz_t7 (List.mem_of_getElem? (i := 170) rfl)) rfl
theorem mw_1688 : Cond.code ⟨"FallingBlocksModel", "height", "(I)I"⟩ prog_14_method_62_code 2 (some .int) ∈ mz_GW := mz_in1 (mz_t7 (List.mem_of_getElem? (i := 171) rfl)) rfl
theorem mw_1689 : Cond.methodLink "FallingBlocksLaw" 186 ⟨"FallingBlocksModel", "statistic", "(I)I"⟩ ∈ mz_GW := mz_in1 (mz_t7 (List.mem_of_getElem? (i := 172) rfl)) rfl
theorem mw_1690 : Cond.instanceMethod ⟨"FallingBlocksModel", "statistic", "(I)I"⟩ ∈ mz_GW := mz_in1 (mz_t7 (List.mem_of_getElem? (i := 173) rfl)) rfl
theorem mw_1691 : Cond.selects "FallingBlocksModel" ⟨"FallingBlocksModel", "statistic", "(I)I"⟩ ⟨"FallingBlocksModel", "statistic", "(I)I"⟩ ∈ mz_GW := mz_in1 (mz_t7 (List.mem_of_getElem? (i := 174) rfl)) rfl
theorem mw_1692 : Cond.code ⟨"FallingBlocksModel", "statistic", "(I)I"⟩ prog_14_method_63_code 2 (some .int) ∈ mz_GW := mz_in1 (mz_t7 (List.mem_of_getElem? (i := 175) rfl)) rfl
theorem mw_1693 : Cond.methodLink "FallingBlocksLaw" 189 ⟨"FallingBlocksModel", "clears", "(II)I"⟩ ∈ mz_GW := mz_in1 (mz_t7 (List.mem_of_getElem? (i := 176) rfl)) rfl
theorem mw_1694 : Cond.instanceMethod ⟨"FallingBlocksModel", "clears", "(II)I"⟩ ∈ mz_GW := mz_in1 (mz_t7 (List.mem_of_getElem? (i := 177) rfl)) rfl
theorem mw_1695 : Cond.selects "FallingBlocksModel" ⟨"FallingBlocksModel", "clears", "(II)I"⟩ ⟨"FallingBlocksModel", "clears", "(II)I"⟩ ∈ mz_GW := mz_in1 (mz_t7 (List.mem_of_getElem? (i := 178) rfl)) rfl
theorem mw_1696 : Cond.code ⟨"FallingBlocksModel", "clears", "(II)I"⟩ prog_14_method_64_code 3 (some .int) ∈ mz_GW := mz_in1 (mz_t7 (List.mem_of_getElem? (i := 179) rfl)) rfl
theorem mw_1697 : Cond.methodLink "FallingBlocksLaw" 192 ⟨"FallingBlocksModel", "latest", "(I)I"⟩ ∈ mz_GW := mz_in1 (mz_t7 (List.mem_of_getElem? (i := 180) rfl)) rfl
theorem mw_1698 : Cond.instanceMethod ⟨"FallingBlocksModel", "latest", "(I)I"⟩ ∈ mz_GW := mz_in1 (mz_t7 (List.mem_of_getElem? (i := 181) rfl)) rfl
theorem mw_1699 : Cond.selects "FallingBlocksModel" ⟨"FallingBlocksModel", "latest", "(I)I"⟩ ⟨"FallingBlocksModel", "latest", "(I)I"⟩ ∈ mz_GW := mz_in1 (mz_t7 (List.mem_of_getElem? (i := 182) rfl)) rfl
theorem mw_1700 : Cond.code ⟨"FallingBlocksModel", "latest", "(I)I"⟩ prog_14_method_65_code 2 (some .int) ∈ mz_GW := mz_in1 (mz_t7 (List.mem_of_getElem? (i := 183) rfl)) rfl
theorem mw_1701 : Cond.methodLink "FallingBlocksLaw" 196 ⟨"FallingBlocksModel", "meanFaults", "()D"⟩ ∈ mz_GW := mz_in1 (mz_t7 (List.mem_of_getElem? (i := 184) rfl)) rfl
theorem mw_1702 : Cond.instanceMethod ⟨"FallingBlocksModel", "meanFaults", "()D"⟩ ∈ mz_GW := mz_in1 (mz_t7 (List.mem_of_getElem? (i := 185) rfl)) rfl
theorem mw_1703 : Cond.selects "FallingBlocksModel" ⟨"FallingBlocksModel", "meanFaults", "()D"⟩ ⟨"FallingBlocksModel", "meanFaults", "()D"⟩ ∈ mz_GW := mz_in1 (mz_t7 (List.mem_of_getElem? (i := 186) rfl)) rfl
theorem mw_1704 : Cond.code ⟨"FallingBlocksModel", "meanFaults", "()D"⟩ prog_14_method_66_code 1 (some .double) ∈ mz_GW := mz_in1 (mz_t7 (List.mem_of_getElem? (i := 187) rfl)) rfl
theorem mw_1705 : Cond.methodLink "FallingBlocksLaw" 200 ⟨"FallingBlocksModel", "leastInputs", "(III)I"⟩ ∈ mz_GW := mz_in1 (mz_t7 (List.mem_of_getElem? (i := 188) rfl)) rfl
theorem mw_1706 : Cond.instanceMethod ⟨"FallingBlocksModel", "leastInputs", "(III)I"⟩ ∈ mz_GW := mz_in1 (mz_t7 (List.mem_of_getElem? (i := 189) rfl)) rfl
theorem mw_1707 : Cond.selects "FallingBlocksModel" ⟨"FallingBlocksModel", "leastInputs", "(III)I"⟩ ⟨"FallingBlocksModel", "leastInputs", "(III)I"⟩ ∈ mz_GW := mz_in1 (mz_t7 (List.mem_of_getElem? (i := 190) rfl)) rfl
theorem mw_1708 : Cond.code ⟨"FallingBlocksModel", "leastInputs", "(III)I"⟩ prog_14_method_74_code 4 (some .int) ∈ mz_GW := mz_in1 (mz_t7 (List.mem_of_getElem? (i := 191) rfl)) rfl
theorem mw_1709 : Cond.methodLink "FallingBlocksLaw" 203 ⟨"FallingBlocksModel", "placements", "()I"⟩ ∈ mz_GW := mz_in1 (mz_t7 (List.mem_of_getElem? (i := 192) rfl)) rfl
theorem mw_1710 : Cond.instanceMethod ⟨"FallingBlocksModel", "placements", "()I"⟩ ∈ mz_GW := mz_in1 (mz_t7 (List.mem_of_getElem? (i := 193) rfl)) rfl
theorem mw_1711 : Cond.selects "FallingBlocksModel" ⟨"FallingBlocksModel", "placements", "()I"⟩ ⟨"FallingBlocksModel", "placements", "()I"⟩ ∈ mz_GW := mz_in1 (mz_t7 (List.mem_of_getElem? (i := 194) rfl)) rfl
theorem mw_1712 : Cond.code ⟨"FallingBlocksModel", "placements", "()I"⟩ prog_14_method_83_code 1 (some .int) ∈ mz_GW := mz_in1 (mz_t7 (List.mem_of_getElem? (i := 195) rfl)) rfl
theorem mw_1713 : Cond.methodLink "FallingBlocksModel" 271 ⟨"FallingBlocksModel", "tellPlacements", "()V"⟩ ∈ mz_GW := mz_in1 (mz_t7 (List.mem_of_getElem? (i := 196) rfl)) rfl
theorem mw_1715 : Cond.instanceMethod ⟨"FallingBlocksModel", "tellPlacements", "()V"⟩ ∈ mz_GW := mz_in1 (mz_t7 (List.mem_of_getElem? (i := 198) rfl)) rfl
theorem mw_1716 : Cond.code ⟨"FallingBlocksModel", "tellPlacements", "()V"⟩ prog_14_method_80_code 5 none ∈ mz_GW := mz_in1 (mz_t7 (List.mem_of_getElem? (i := 199) rfl)) rfl
theorem mw_1717 : Cond.methodLink "FallingBlocksModel" 249 ⟨"FallingBlocksModel", "reaches", "(III)V"⟩ ∈ mz_GW := mz_in1 (mz_t7 (List.mem_of_getElem? (i := 200) rfl)) rfl
theorem mw_1719 : Cond.instanceMethod ⟨"FallingBlocksModel", "reaches", "(III)V"⟩ ∈ mz_GW := mz_in1 (mz_t7 (List.mem_of_getElem? (i := 202) rfl)) rfl
theorem mw_1720 : Cond.code ⟨"FallingBlocksModel", "reaches", "(III)V"⟩ prog_14_method_75_code 5 none ∈ mz_GW := mz_in1 (mz_t7 (List.mem_of_getElem? (i := 203) rfl)) rfl
theorem mw_1721 : Cond.methodLink "FallingBlocksModel" 261 ⟨"FallingBlocksModel", "turns", "(IIII)V"⟩ ∈ mz_GW := mz_in1 (mz_t7 (List.mem_of_getElem? (i := 204) rfl)) rfl
theorem mw_1723 : Cond.instanceMethod ⟨"FallingBlocksModel", "turns", "(IIII)V"⟩ ∈ mz_GW := mz_in1 (mz_t7 (List.mem_of_getElem? (i := 206) rfl)) rfl
theorem mw_1724 : Cond.code ⟨"FallingBlocksModel", "turns", "(IIII)V"⟩ prog_14_method_76_code 9 none ∈ mz_GW := mz_in1 (mz_t7 (List.mem_of_getElem? (i := 207) rfl)) rfl
theorem mw_1725 : Cond.methodLink "FallingBlocksModel" 265 ⟨"FallingBlocksModel", "comes", "(III)V"⟩ ∈ mz_GW := mz_in1 (mz_t7 (List.mem_of_getElem? (i := 208) rfl)) rfl
theorem mw_1727 : Cond.instanceMethod ⟨"FallingBlocksModel", "comes", "(III)V"⟩ ∈ mz_GW := mz_in1 (mz_t7 (List.mem_of_getElem? (i := 210) rfl)) rfl
theorem mw_1728 : Cond.code ⟨"FallingBlocksModel", "comes", "(III)V"⟩ prog_14_method_79_code 6 none ∈ mz_GW := mz_in1 (mz_t7 (List.mem_of_getElem? (i := 211) rfl)) rfl
theorem mw_1729 : Cond.methodLink "FallingBlocksModel" 255 ⟨"FallingBlocksModel", "sorts", "(III)V"⟩ ∈ mz_GW := mz_in1 (mz_t7 (List.mem_of_getElem? (i := 212) rfl)) rfl
theorem mw_1731 : Cond.instanceMethod ⟨"FallingBlocksModel", "sorts", "(III)V"⟩ ∈ mz_GW := mz_in1 (mz_t7 (List.mem_of_getElem? (i := 214) rfl)) rfl
theorem mw_1732 : Cond.code ⟨"FallingBlocksModel", "sorts", "(III)V"⟩ prog_14_method_77_code 7 none ∈ mz_GW := mz_in1 (mz_t7 (List.mem_of_getElem? (i := 215) rfl)) rfl
theorem mw_1733 : Cond.methodLink "FallingBlocksModel" 258 ⟨"FallingBlocksModel", "isPlaced", "()Z"⟩ ∈ mz_GW := mz_in1 (mz_t7 (List.mem_of_getElem? (i := 216) rfl)) rfl
theorem mw_1735 : Cond.instanceMethod ⟨"FallingBlocksModel", "isPlaced", "()Z"⟩ ∈ mz_GW := mz_in1 (mz_t7 (List.mem_of_getElem? (i := 218) rfl)) rfl
theorem mw_1736 : Cond.code ⟨"FallingBlocksModel", "isPlaced", "()Z"⟩ prog_14_method_78_code 4 (some .boolean) ∈ mz_GW := mz_in1 (mz_t7 (List.mem_of_getElem? (i := 219) rfl)) rfl
theorem mw_1737 : Cond.methodLink "FallingBlocksLaw" 206 ⟨"FallingBlocksModel", "placement", "(II)I"⟩ ∈ mz_GW := mz_in1 (mz_t7 (List.mem_of_getElem? (i := 220) rfl)) rfl
theorem mw_1738 : Cond.instanceMethod ⟨"FallingBlocksModel", "placement", "(II)I"⟩ ∈ mz_GW := mz_in1 (mz_t7 (List.mem_of_getElem? (i := 221) rfl)) rfl
theorem mw_1739 : Cond.selects "FallingBlocksModel" ⟨"FallingBlocksModel", "placement", "(II)I"⟩ ⟨"FallingBlocksModel", "placement", "(II)I"⟩ ∈ mz_GW := mz_in1 (mz_t7 (List.mem_of_getElem? (i := 222) rfl)) rfl
theorem mw_1740 : Cond.code ⟨"FallingBlocksModel", "placement", "(II)I"⟩ prog_14_method_84_code 4 (some .int) ∈ mz_GW := mz_in1 (mz_t7 (List.mem_of_getElem? (i := 223) rfl)) rfl
theorem mw_1741 : Cond.methodLink "FallingBlocksModel" 274 ⟨"FallingBlocksModel", "ranked", "(I)I"⟩ ∈ mz_GW := mz_in1 (mz_t7 (List.mem_of_getElem? (i := 224) rfl)) rfl
theorem mw_1743 : Cond.instanceMethod ⟨"FallingBlocksModel", "ranked", "(I)I"⟩ ∈ mz_GW := mz_in1 (mz_t7 (List.mem_of_getElem? (i := 226) rfl)) rfl
theorem mw_1744 : Cond.code ⟨"FallingBlocksModel", "ranked", "(I)I"⟩ prog_14_method_82_code 5 (some .int) ∈ mz_GW := mz_in1 (mz_t7 (List.mem_of_getElem? (i := 227) rfl)) rfl
theorem mw_1745 : Cond.methodLink "FallingBlocksModel" 268 ⟨"FallingBlocksModel", "isBetter", "(II)Z"⟩ ∈ mz_GW := mz_in1 (mz_t7 (List.mem_of_getElem? (i := 228) rfl)) rfl
theorem mw_1747 : Cond.instanceMethod ⟨"FallingBlocksModel", "isBetter", "(II)Z"⟩ ∈ mz_GW := mz_in1 (mz_t7 (List.mem_of_getElem? (i := 230) rfl)) rfl
theorem mw_1748 : Cond.code ⟨"FallingBlocksModel", "isBetter", "(II)Z"⟩ prog_14_method_81_code 4 (some .boolean) ∈ mz_GW := mz_in1 (mz_t7 (List.mem_of_getElem? (i := 231) rfl)) rfl
theorem mw_1749 : Cond.methodLink "FallingBlocksLaw" 209 ⟨"FallingBlocksModel", "placeBest", "()I"⟩ ∈ mz_GW := mz_in1 (mz_t7 (List.mem_of_getElem? (i := 232) rfl)) rfl
theorem mw_1750 : Cond.instanceMethod ⟨"FallingBlocksModel", "placeBest", "()I"⟩ ∈ mz_GW := mz_in1 (mz_t7 (List.mem_of_getElem? (i := 233) rfl)) rfl
theorem mw_1751 : Cond.selects "FallingBlocksModel" ⟨"FallingBlocksModel", "placeBest", "()I"⟩ ⟨"FallingBlocksModel", "placeBest", "()I"⟩ ∈ mz_GW := mz_in1 (mz_t7 (List.mem_of_getElem? (i := 234) rfl)) rfl
theorem mw_1752 : Cond.code ⟨"FallingBlocksModel", "placeBest", "()I"⟩ prog_14_method_85_code 2 (some .int) ∈ mz_GW := mz_in1 (mz_t7 (List.mem_of_getElem? (i := 235) rfl)) rfl
theorem mw_1753 : Cond.methodLink "FallingBlocksLaw" 213 ⟨"FallingBlocksModel", "append", "(C)V"⟩ ∈ mz_GW := mz_in1 (mz_t7 (List.mem_of_getElem? (i := 236) rfl)) rfl
theorem mw_1754 : Cond.instanceMethod ⟨"FallingBlocksModel", "append", "(C)V"⟩ ∈ mz_GW := mz_in1 (mz_t7 (List.mem_of_getElem? (i := 237) rfl)) rfl
theorem mw_1755 : Cond.selects "FallingBlocksModel" ⟨"FallingBlocksModel", "append", "(C)V"⟩ ⟨"FallingBlocksModel", "append", "(C)V"⟩ ∈ mz_GW := mz_in1 (mz_t7 (List.mem_of_getElem? (i := 238) rfl)) rfl
theorem mw_1756 : Cond.code ⟨"FallingBlocksModel", "append", "(C)V"⟩ prog_14_method_86_code 2 none ∈ mz_GW := mz_in1 (mz_t7 (List.mem_of_getElem? (i := 239) rfl)) rfl
theorem mw_1757 : Cond.methodLink "FallingBlocksLaw" 216 ⟨"FallingBlocksModel", "play", "()I"⟩ ∈ mz_GW := mz_in1 (mz_t8 (List.mem_of_getElem? (i := 0) rfl)) rfl
theorem mw_1758 : Cond.instanceMethod ⟨"FallingBlocksModel", "play", "()I"⟩ ∈ mz_GW := mz_in1 (mz_t8 (List.mem_of_getElem? (i := 1) rfl)) rfl
theorem mw_1759 : Cond.selects "FallingBlocksModel" ⟨"FallingBlocksModel", "play", "()I"⟩ ⟨"FallingBlocksModel", "play", "()I"⟩ ∈ mz_GW := mz_in1 (mz_t8 (List.mem_of_getElem? (i := 2) rfl)) rfl
theorem mw_1760 : Cond.code ⟨"FallingBlocksModel", "play", "()I"⟩ prog_14_method_90_code 5 (some .int) ∈ mz_GW := mz_in1 (mz_t8 (List.mem_of_getElem? (i := 3) rfl)) rfl
theorem mw_1761 : Cond.methodLink "FallingBlocksModel" 283 ⟨"FallingBlocksModel", "errsAt", "()I"⟩ ∈ mz_GW := mz_in1 (mz_t8 (List.mem_of_getElem? (i := 4) rfl)) rfl
theorem mw_1763 : Cond.instanceMethod ⟨"FallingBlocksModel", "errsAt", "()I"⟩ ∈ mz_GW := mz_in1 (mz_t8 (List.mem_of_getElem? (i := 6) rfl)) rfl
theorem mw_1764 : Cond.code ⟨"FallingBlocksModel", "errsAt", "()I"⟩ prog_14_method_88_code 3 (some .int) ∈ mz_GW := mz_in1 (mz_t8 (List.mem_of_getElem? (i := 7) rfl)) rfl
theorem mw_1765 : Cond.methodLink "FallingBlocksModel" 280 ⟨"FallingBlocksModel", "isLetter", "(I)Z"⟩ ∈ mz_GW := mz_in1 (mz_t8 (List.mem_of_getElem? (i := 8) rfl)) rfl
theorem mw_1766 : Cond.static ⟨"FallingBlocksModel", "isLetter", "(I)Z"⟩ ∈ mz_GW := mz_in1 (mz_t8 (List.mem_of_getElem? (i := 9) rfl)) rfl
theorem mw_1767 : Cond.code ⟨"FallingBlocksModel", "isLetter", "(I)Z"⟩ prog_14_method_87_code 1 (some .boolean) ∈ mz_GW := mz_in1 (mz_t8 (List.mem_of_getElem? (i := 10) rfl)) rfl
theorem mw_1768 : Cond.methodLink "FallingBlocksModel" 286 ⟨"FallingBlocksModel", "does", "(I)Z"⟩ ∈ mz_GW := mz_in1 (mz_t8 (List.mem_of_getElem? (i := 11) rfl)) rfl
theorem mw_1770 : Cond.instanceMethod ⟨"FallingBlocksModel", "does", "(I)Z"⟩ ∈ mz_GW := mz_in1 (mz_t8 (List.mem_of_getElem? (i := 13) rfl)) rfl
theorem mw_1771 : Cond.code ⟨"FallingBlocksModel", "does", "(I)Z"⟩ prog_14_method_89_code 9 (some .boolean) ∈ mz_GW := mz_in1 (mz_t8 (List.mem_of_getElem? (i := 14) rfl)) rfl
theorem mw_1772 : Cond.methodLink "FallingBlocksLaw" 220 ⟨"FallingBlocksModel", "faultPosition", "()I"⟩ ∈ mz_GW := mz_in1 (mz_t8 (List.mem_of_getElem? (i := 15) rfl)) rfl
theorem mw_1773 : Cond.instanceMethod ⟨"FallingBlocksModel", "faultPosition", "()I"⟩ ∈ mz_GW := mz_in1 (mz_t8 (List.mem_of_getElem? (i := 16) rfl)) rfl
theorem mw_1774 : Cond.selects "FallingBlocksModel" ⟨"FallingBlocksModel", "faultPosition", "()I"⟩ ⟨"FallingBlocksModel", "faultPosition", "()I"⟩ ∈ mz_GW := mz_in1 (mz_t8 (List.mem_of_getElem? (i := 17) rfl)) rfl
theorem mw_1775 : Cond.code ⟨"FallingBlocksModel", "faultPosition", "()I"⟩ prog_14_method_91_code 1 (some .int) ∈ mz_GW := mz_in1 (mz_t8 (List.mem_of_getElem? (i := 18) rfl)) rfl
theorem mw_1776 : Cond.methodLink "FallingBlocksLaw" 223 ⟨"FallingBlocksModel", "undo", "()I"⟩ ∈ mz_GW := mz_in1 (mz_t8 (List.mem_of_getElem? (i := 19) rfl)) rfl
theorem mw_1777 : Cond.instanceMethod ⟨"FallingBlocksModel", "undo", "()I"⟩ ∈ mz_GW := mz_in1 (mz_t8 (List.mem_of_getElem? (i := 20) rfl)) rfl
theorem mw_1778 : Cond.selects "FallingBlocksModel" ⟨"FallingBlocksModel", "undo", "()I"⟩ ⟨"FallingBlocksModel", "undo", "()I"⟩ ∈ mz_GW := mz_in1 (mz_t8 (List.mem_of_getElem? (i := 21) rfl)) rfl
theorem mw_1779 : Cond.code ⟨"FallingBlocksModel", "undo", "()I"⟩ prog_14_method_92_code 3 (some .int) ∈ mz_GW := mz_in1 (mz_t8 (List.mem_of_getElem? (i := 22) rfl)) rfl
theorem mw_1780 : Cond.methodLink "FallingBlocksLaw" 227 ⟨"FallingBlocksModel", "save", "()V"⟩ ∈ mz_GW := mz_in1 (mz_t8 (List.mem_of_getElem? (i := 23) rfl)) rfl
theorem mw_1781 : Cond.instanceMethod ⟨"FallingBlocksModel", "save", "()V"⟩ ∈ mz_GW := mz_in1 (mz_t8 (List.mem_of_getElem? (i := 24) rfl)) rfl
theorem mw_1782 : Cond.selects "FallingBlocksModel" ⟨"FallingBlocksModel", "save", "()V"⟩ ⟨"FallingBlocksModel", "save", "()V"⟩ ∈ mz_GW := mz_in1 (mz_t8 (List.mem_of_getElem? (i := 25) rfl)) rfl
theorem mw_1783 : Cond.code ⟨"FallingBlocksModel", "save", "()V"⟩ prog_14_method_93_code 2 none ∈ mz_GW := mz_in1 (mz_t8 (List.mem_of_getElem? (i := 26) rfl)) rfl
theorem mw_1784 : Cond.methodLink "FallingBlocksLaw" 231 ⟨"FallingBlocksModel", "restore", "()V"⟩ ∈ mz_GW := mz_in1 (mz_t8 (List.mem_of_getElem? (i := 27) rfl)) rfl
theorem mw_1785 : Cond.instanceMethod ⟨"FallingBlocksModel", "restore", "()V"⟩ ∈ mz_GW := mz_in1 (mz_t8 (List.mem_of_getElem? (i := 28) rfl)) rfl
theorem mw_1786 : Cond.selects "FallingBlocksModel" ⟨"FallingBlocksModel", "restore", "()V"⟩ ⟨"FallingBlocksModel", "restore", "()V"⟩ ∈ mz_GW := mz_in1 (mz_t8 (List.mem_of_getElem? (i := 29) rfl)) rfl
theorem mw_1787 : Cond.code ⟨"FallingBlocksModel", "restore", "()V"⟩ prog_14_method_94_code 2 none ∈ mz_GW := mz_in1 (mz_t8 (List.mem_of_getElem? (i := 30) rfl)) rfl
theorem mw_1788 : Cond.arrayClass .double ∈ mz_GW := mz_in1 (mz_t8 (List.mem_of_getElem? (i := 31) rfl)) rfl
def M_J6_bitCount_0f7a4 : mz_M := (yJ6_bitCount_0f7a4, cJ6_bitCount_0f7a4, 1, (some .int), { frames := 0, cells := 0, slots := 0, locals := 0 }, [])
def M_J9_floorMod_7cf53 : mz_M := (yJ9_floorMod_7cf53, cJ9_floorMod_7cf53, 3, (some .int), { frames := 0, cells := 0, slots := 0, locals := 0 }, [])
def M_J9_abs_0f7a4 : mz_M := (yJ9_abs_0f7a4, cJ9_abs_0f7a4, 1, (some .int), { frames := 0, cells := 0, slots := 0, locals := 0 }, [])
def M_J9_max_7cf53 : mz_M := (yJ9_max_7cf53, cJ9_max_7cf53, 2, (some .int), { frames := 0, cells := 0, slots := 0, locals := 0 }, [])
def M_J9_min_7cf53 : mz_M := (yJ9_min_7cf53, cJ9_min_7cf53, 2, (some .int), { frames := 0, cells := 0, slots := 0, locals := 0 }, [])
def M_J7_fill_53178 : mz_M := (yJ7_fill_53178, cJ7_fill_53178, 4, none, { frames := 0, cells := 0, slots := 0, locals := 0 }, [])
def M_X0_init : mz_M := (yX0_init, cX0_init, 1, none, { frames := 1, cells := 1, slots := 5, locals := 20 }, [])
def M_X0_begin : mz_M := (yX0_begin, cX0_begin, 3, none, { frames := 2, cells := 0, slots := 0, locals := 45 }, [])
def M_X0_copyFrom : mz_M := (yX0_copyFrom, cX0_copyFrom, 2, none, { frames := 1, cells := 0, slots := 0, locals := 60 }, [])
def M_X0_take : mz_M := (yX0_take, cX0_take, 3, (some .int), { frames := 2, cells := 0, slots := 0, locals := 45 }, [])
def M_X0_draw : mz_M := (yX0_draw, cX0_draw, 4, (some .int), { frames := 1, cells := 0, slots := 0, locals := 22 }, [])
def M_X1_init : mz_M := (yX1_init, cX1_init, 1, none, { frames := 5, cells := 100, slots := 8299, locals := 119 }, [])
def M_X1_begin : mz_M := (yX1_begin, cX1_begin, 2, none, { frames := 4, cells := 0, slots := 0, locals := 123 }, [])
def M_X1_appear : mz_M := (yX1_appear, cX1_appear, 2, none, { frames := 3, cells := 0, slots := 0, locals := 102 }, [])
def M_X1_rowsToFall : mz_M := (yX1_rowsToFall, cX1_rowsToFall, 4, (some .int), { frames := 4, cells := 0, slots := 0, locals := 90 }, [])
def M_X1_sinkAsFarAsPossible : mz_M := (yX1_sinkAsFarAsPossible, cX1_sinkAsFarAsPossible, 2, (some .int), { frames := 3, cells := 0, slots := 0, locals := 69 }, [])
def M_X1_shiftPiece : mz_M := (yX1_shiftPiece, cX1_shiftPiece, 5, (some .boolean), { frames := 3, cells := 0, slots := 0, locals := 69 }, [])
def M_X1_slidePiece : mz_M := (yX1_slidePiece, cX1_slidePiece, 5, (some .int), { frames := 3, cells := 0, slots := 0, locals := 69 }, [])
def M_X1_turnPiece : mz_M := (yX1_turnPiece, cX1_turnPiece, 5, (some .int), { frames := 3, cells := 0, slots := 0, locals := 73 }, [])
def M_X1_sinkPiece : mz_M := (yX1_sinkPiece, cX1_sinkPiece, 2, (some .boolean), { frames := 3, cells := 0, slots := 0, locals := 69 }, [])
def M_X1_dropPiece : mz_M := (yX1_dropPiece, cX1_dropPiece, 2, (some .int), { frames := 5, cells := 0, slots := 0, locals := 148 }, [])
def M_X1_swapWithHold : mz_M := (yX1_swapWithHold, cX1_swapWithHold, 2, (some .int), { frames := 4, cells := 0, slots := 0, locals := 123 }, [])
def M_X1_passTick : mz_M := (yX1_passTick, cX1_passTick, 2, none, { frames := 5, cells := 0, slots := 0, locals := 148 }, [])
def M_X1_addGarbage : mz_M := (yX1_addGarbage, cX1_addGarbage, 4, (some .boolean), { frames := 3, cells := 0, slots := 0, locals := 81 }, [])
def M_X1_lockInBestPlacement : mz_M := (yX1_lockInBestPlacement, cX1_lockInBestPlacement, 1, (some .int), { frames := 5, cells := 0, slots := 0, locals := 148 }, [])
def M_X1_lock : mz_M := (yX1_lock, cX1_lock, 6, (some .int), { frames := 4, cells := 0, slots := 0, locals := 123 }, [])
def M_X1_findSpin : mz_M := (yX1_findSpin, cX1_findSpin, 5, (some .int), { frames := 2, cells := 0, slots := 0, locals := 46 }, [])
def M_X1_isCornerFilled : mz_M := (yX1_isCornerFilled, cX1_isCornerFilled, 4, (some .boolean), { frames := 1, cells := 0, slots := 0, locals := 23 }, [])
def M_X2_init : mz_M := (yX2_init, cX2_init, 1, none, { frames := 2, cells := 1, slots := 220, locals := 43 }, [])
def M_X2_makeEmpty : mz_M := (yX2_makeEmpty, cX2_makeEmpty, 1, none, { frames := 1, cells := 0, slots := 0, locals := 23 }, [])
def M_X2_copyFrom : mz_M := (yX2_copyFrom, cX2_copyFrom, 2, none, { frames := 1, cells := 0, slots := 0, locals := 60 }, [])
def M_X2_isSame : mz_M := (yX2_isSame, cX2_isSame, 3, (some .boolean), { frames := 0, cells := 0, slots := 0, locals := 0 }, [])
def M_X2_isFilled : mz_M := (yX2_isFilled, cX2_isFilled, 4, (some .boolean), { frames := 0, cells := 0, slots := 0, locals := 0 }, [])
def M_X2_fillWith : mz_M := (yX2_fillWith, cX2_fillWith, 4, none, { frames := 2, cells := 0, slots := 0, locals := 44 }, [])
def M_X2_clearFullRows : mz_M := (yX2_clearFullRows, cX2_clearFullRows, 3, (some .int), { frames := 2, cells := 0, slots := 0, locals := 60 }, [])
def M_X2_raise : mz_M := (yX2_raise, cX2_raise, 5, none, { frames := 0, cells := 0, slots := 0, locals := 0 }, [])
def M_X2_countFilledInRow : mz_M := (yX2_countFilledInRow, cX2_countFilledInRow, 4, (some .int), { frames := 1, cells := 0, slots := 0, locals := 23 }, [])
def M_X2_countFilled : mz_M := (yX2_countFilled, cX2_countFilled, 3, (some .int), { frames := 2, cells := 0, slots := 0, locals := 46 }, [])
def M_X2_countHoles : mz_M := (yX2_countHoles, cX2_countHoles, 4, (some .int), { frames := 2, cells := 0, slots := 0, locals := 45 }, [])
def M_X2_heightOf : mz_M := (yX2_heightOf, cX2_heightOf, 3, (some .int), { frames := 1, cells := 0, slots := 0, locals := 23 }, [])
def M_X2_totalHeight : mz_M := (yX2_totalHeight, cX2_totalHeight, 3, (some .int), { frames := 2, cells := 0, slots := 0, locals := 45 }, [])
def M_X2_greatestHeight : mz_M := (yX2_greatestHeight, cX2_greatestHeight, 3, (some .int), { frames := 2, cells := 0, slots := 0, locals := 45 }, [])
def M_X2_roughness : mz_M := (yX2_roughness, cX2_roughness, 3, (some .int), { frames := 2, cells := 0, slots := 0, locals := 45 }, [])
def M_X2_countRowTransitions : mz_M := (yX2_countRowTransitions, cX2_countRowTransitions, 3, (some .int), { frames := 2, cells := 0, slots := 0, locals := 46 }, [])
def M_X2_countTransitionsIn : mz_M := (yX2_countTransitionsIn, cX2_countTransitionsIn, 4, (some .int), { frames := 1, cells := 0, slots := 0, locals := 23 }, [])
def M_X2_wellDepth : mz_M := (yX2_wellDepth, cX2_wellDepth, 5, (some .int), { frames := 2, cells := 0, slots := 0, locals := 45 }, [])
def M_X3_init : mz_M := (yX3_init, cX3_init, 2, none, { frames := 4, cells := 5, slots := 737, locals := 98 }, [])
def M_X3_leastTo : mz_M := (yX3_leastTo, cX3_leastTo, 5, (some .int), { frames := 1, cells := 0, slots := 0, locals := 25 }, [])
def M_X3_indexOf : mz_M := (yX3_indexOf, cX3_indexOf, 6, (some .int), { frames := 0, cells := 0, slots := 0, locals := 0 }, [])
def M_X3_leastToCellsOf : mz_M := (yX3_leastToCellsOf, cX3_leastToCellsOf, 7, (some .int), { frames := 2, cells := 0, slots := 0, locals := 49 }, [])
def M_X3_firstColumn : mz_M := (yX3_firstColumn, cX3_firstColumn, 2, (some .int), { frames := 1, cells := 0, slots := 0, locals := 23 }, [])
def M_X3_isSameShape : mz_M := (yX3_isSameShape, cX3_isSameShape, 6, (some .boolean), { frames := 1, cells := 0, slots := 0, locals := 23 }, [])
def M_X3_explore : mz_M := (yX3_explore, cX3_explore, 6, none, { frames := 3, cells := 0, slots := 0, locals := 73 }, [])
def M_X3_goTo : mz_M := (yX3_goTo, cX3_goTo, 2, none, { frames := 0, cells := 0, slots := 0, locals := 0 }, [])
def M_X3_reach : mz_M := (yX3_reach, cX3_reach, 4, none, { frames := 1, cells := 0, slots := 0, locals := 25 }, [])
def M_X4_init : mz_M := (yX4_init, cX4_init, 1, none, { frames := 3, cells := 9, slots := 273, locals := 63 }, [])
def M_X4_copyFrom : mz_M := (yX4_copyFrom, cX4_copyFrom, 2, none, { frames := 2, cells := 0, slots := 0, locals := 81 }, [])
def M_X4_copySettingsFrom : mz_M := (yX4_copySettingsFrom, cX4_copySettingsFrom, 2, none, { frames := 0, cells := 0, slots := 0, locals := 0 }, [])
def M_X5_init : mz_M := (yX5_init, cX5_init, 1, none, { frames := 1, cells := 1, slots := 60, locals := 20 }, [])
def M_X5_add : mz_M := (yX5_add, cX5_add, 2, (some .boolean), { frames := 0, cells := 0, slots := 0, locals := 0 }, [])
def M_X5_finish : mz_M := (yX5_finish, cX5_finish, 1, (some .boolean), { frames := 2, cells := 0, slots := 0, locals := 43 }, [])
def M_X5_findFault : mz_M := (yX5_findFault, cX5_findFault, 4, (some .int), { frames := 1, cells := 0, slots := 0, locals := 20 }, [])
def M_X5_timesAt : mz_M := (yX5_timesAt, cX5_timesAt, 3, (some .int), { frames := 1, cells := 0, slots := 0, locals := 20 }, [])
def M_X5_isDigit : mz_M := (yX5_isDigit, cX5_isDigit, 1, (some .boolean), { frames := 0, cells := 0, slots := 0, locals := 0 }, [])
def M_X5_isLetter : mz_M := (yX5_isLetter, cX5_isLetter, 1, (some .boolean), { frames := 0, cells := 0, slots := 0, locals := 0 }, [])
def M_X6_init : mz_M := (yX6_init, cX6_init, 2, none, { frames := 4, cells := 71, slots := 1980, locals := 83 }, [])
def M_X6_forgetRecords : mz_M := (yX6_forgetRecords, cX6_forgetRecords, 1, none, { frames := 0, cells := 0, slots := 0, locals := 0 }, [])
def M_X6_nextRecord : mz_M := (yX6_nextRecord, cX6_nextRecord, 1, (some (.object "FallingBlocks$Game")), { frames := 1, cells := 0, slots := 0, locals := 22 }, [])
def M_X6_goBack : mz_M := (yX6_goBack, cX6_goBack, 3, (some .int), { frames := 3, cells := 0, slots := 0, locals := 102 }, [])
def M_X6_keepSnapshot : mz_M := (yX6_keepSnapshot, cX6_keepSnapshot, 2, none, { frames := 3, cells := 0, slots := 0, locals := 102 }, [])
def M_X6_goToSnapshot : mz_M := (yX6_goToSnapshot, cX6_goToSnapshot, 2, (some .boolean), { frames := 3, cells := 0, slots := 0, locals := 102 }, [])
def M_X7_init : mz_M := (yX7_init, cX7_init, 1, none, { frames := 2, cells := 1, slots := 4, locals := 40 }, [])
def M_X7_appear : mz_M := (yX7_appear, cX7_appear, 2, none, { frames := 1, cells := 0, slots := 0, locals := 21 }, [])
def M_X7_copyFrom : mz_M := (yX7_copyFrom, cX7_copyFrom, 2, none, { frames := 1, cells := 0, slots := 0, locals := 21 }, [])
def M_X7_noteInput : mz_M := (yX7_noteInput, cX7_noteInput, 4, none, { frames := 1, cells := 0, slots := 0, locals := 20 }, [])
def M_X7_noteFall : mz_M := (yX7_noteFall, cX7_noteFall, 1, none, { frames := 1, cells := 0, slots := 0, locals := 20 }, [])
def M_X7_noteRow : mz_M := (yX7_noteRow, cX7_noteRow, 1, none, { frames := 0, cells := 0, slots := 0, locals := 0 }, [])
def M_X8_init : mz_M := (yX8_init, cX8_init, 1, none, { frames := 1, cells := 0, slots := 0, locals := 20 }, [])
def M_X8_appear : mz_M := (yX8_appear, cX8_appear, 2, none, { frames := 0, cells := 0, slots := 0, locals := 0 }, [])
def M_X8_copyFrom : mz_M := (yX8_copyFrom, cX8_copyFrom, 2, none, { frames := 0, cells := 0, slots := 0, locals := 0 }, [])
def M_X8_isSame : mz_M := (yX8_isSame, cX8_isSame, 2, (some .boolean), { frames := 0, cells := 0, slots := 0, locals := 0 }, [])
def M_X8_cellOf : mz_M := (yX8_cellOf, cX8_cellOf, 4, (some .int), { frames := 0, cells := 0, slots := 0, locals := 0 }, [])
def M_X8_cellAt : mz_M := (yX8_cellAt, cX8_cellAt, 2, (some .int), { frames := 1, cells := 0, slots := 0, locals := 23 }, [])
def M_X8_has : mz_M := (yX8_has, cX8_has, 3, (some .boolean), { frames := 2, cells := 0, slots := 0, locals := 44 }, [])
def M_X8_isAllAtOrAbove : mz_M := (yX8_isAllAtOrAbove, cX8_isAllAtOrAbove, 2, (some .boolean), { frames := 2, cells := 0, slots := 0, locals := 44 }, [])
def M_X8_fits : mz_M := (yX8_fits, cX8_fits, 4, (some .boolean), { frames := 1, cells := 0, slots := 0, locals := 23 }, [])
def M_X8_moveBy : mz_M := (yX8_moveBy, cX8_moveBy, 4, (some .boolean), { frames := 2, cells := 0, slots := 0, locals := 46 }, [])
def M_X8_slideBy : mz_M := (yX8_slideBy, cX8_slideBy, 4, (some .int), { frames := 2, cells := 0, slots := 0, locals := 46 }, [])
def M_X8_turnBy : mz_M := (yX8_turnBy, cX8_turnBy, 8, (some .int), { frames := 2, cells := 0, slots := 0, locals := 46 }, [])
def M_X8_canFall : mz_M := (yX8_canFall, cX8_canFall, 3, (some .boolean), { frames := 2, cells := 0, slots := 0, locals := 46 }, [])
def M_X9_init : mz_M := (yX9_init, cX9_init, 1, none, { frames := 1, cells := 2, slots := 22, locals := 20 }, [])
def M_X9_sortOf : mz_M := (yX9_sortOf, cX9_sortOf, 2, (some .int), { frames := 1, cells := 0, slots := 0, locals := 21 }, [])
def M_X9_begin : mz_M := (yX9_begin, cX9_begin, 1, none, { frames := 1, cells := 0, slots := 0, locals := 23 }, [])
def M_X9_copyFrom : mz_M := (yX9_copyFrom, cX9_copyFrom, 2, none, { frames := 1, cells := 0, slots := 0, locals := 60 }, [])
def M_X9_level : mz_M := (yX9_level, cX9_level, 1, (some .int), { frames := 1, cells := 0, slots := 0, locals := 21 }, [])
def M_X9_noteLock : mz_M := (yX9_noteLock, cX9_noteLock, 8, none, { frames := 2, cells := 0, slots := 0, locals := 42 }, [])
def M_X9_noteFinesse : mz_M := (yX9_noteFinesse, cX9_noteFinesse, 3, none, { frames := 1, cells := 0, slots := 0, locals := 21 }, [])
def M_X10_init : mz_M := (yX10_init, cX10_init, 1, none, { frames := 3, cells := 9, slots := 5058, locals := 63 }, [])
def M_X10_prepare : mz_M := (yX10_prepare, cX10_prepare, 3, none, { frames := 5, cells := 0, slots := 0, locals := 127 }, [])
def M_X10_numberAbout : mz_M := (yX10_numberAbout, cX10_numberAbout, 4, (some .int), { frames := 0, cells := 0, slots := 0, locals := 0 }, [])
def M_X10_moveToBest : mz_M := (yX10_moveToBest, cX10_moveToBest, 2, none, { frames := 1, cells := 0, slots := 0, locals := 21 }, [])
def M_X10_explore : mz_M := (yX10_explore, cX10_explore, 3, none, { frames := 4, cells := 0, slots := 0, locals := 105 }, [])
def M_X10_reach : mz_M := (yX10_reach, cX10_reach, 3, none, { frames := 0, cells := 0, slots := 0, locals := 0 }, [])
def M_X10_goTo : mz_M := (yX10_goTo, cX10_goTo, 2, none, { frames := 0, cells := 0, slots := 0, locals := 0 }, [])
def M_X10_keyOfPlacement : mz_M := (yX10_keyOfPlacement, cX10_keyOfPlacement, 4, (some .long), { frames := 3, cells := 0, slots := 0, locals := 82 }, [])
def M_X10_insert : mz_M := (yX10_insert, cX10_insert, 6, none, { frames := 0, cells := 0, slots := 0, locals := 0 }, [])
def M_X11_init : mz_M := (yX11_init, cX11_init, 1, none, { frames := 6, cells := 103, slots := 8368, locals := 144 }, [])
def M_X11_start : mz_M := (yX11_start, cX11_start, 2, (some .int), { frames := 6, cells := 1, slots := 6, locals := 144 }, [])
def M_X11_set : mz_M := (yX11_set, cX11_set, 4, (some .int), { frames := 7, cells := 3, slots := 18, locals := 105 }, [])
def M_X11_isOver : mz_M := (yX11_isOver, cX11_isOver, 1, (some .boolean), { frames := 0, cells := 0, slots := 0, locals := 0 }, [])
def M_X11_piece : mz_M := (yX11_piece, cX11_piece, 3, (some .int), { frames := 7, cells := 2, slots := 12, locals := 113 }, [])
def M_X11_next : mz_M := (yX11_next, cX11_next, 2, (some .int), { frames := 6, cells := 1, slots := 6, locals := 82 }, [])
def M_X11_cell : mz_M := (yX11_cell, cX11_cell, 3, (some .int), { frames := 7, cells := 1, slots := 6, locals := 104 }, [])
def M_X11_covers : mz_M := (yX11_covers, cX11_covers, 3, (some .boolean), { frames := 7, cells := 2, slots := 12, locals := 104 }, [])
def M_X11_shift : mz_M := (yX11_shift, cX11_shift, 2, (some .boolean), { frames := 7, cells := 2, slots := 12, locals := 103 }, [])
def M_X11_slide : mz_M := (yX11_slide, cX11_slide, 2, (some .int), { frames := 7, cells := 2, slots := 12, locals := 103 }, [])
def M_X11_rotate : mz_M := (yX11_rotate, cX11_rotate, 2, (some .int), { frames := 7, cells := 2, slots := 12, locals := 103 }, [])
def M_X11_fall : mz_M := (yX11_fall, cX11_fall, 1, (some .boolean), { frames := 7, cells := 1, slots := 6, locals := 102 }, [])
def M_X11_drop : mz_M := (yX11_drop, cX11_drop, 1, (some .int), { frames := 7, cells := 1, slots := 6, locals := 169 }, [])
def M_X11_hold : mz_M := (yX11_hold, cX11_hold, 1, (some .int), { frames := 7, cells := 2, slots := 12, locals := 144 }, [])
def M_X11_held : mz_M := (yX11_held, cX11_held, 1, (some .int), { frames := 6, cells := 1, slots := 6, locals := 82 }, [])
def M_X11_tick : mz_M := (yX11_tick, cX11_tick, 4, (some .int), { frames := 7, cells := 2, slots := 12, locals := 169 }, [])
def M_X11_garbage : mz_M := (yX11_garbage, cX11_garbage, 3, (some .int), { frames := 7, cells := 4, slots := 24, locals := 105 }, [])
def M_X11_figure : mz_M := (yX11_figure, cX11_figure, 3, (some .int), { frames := 7, cells := 1, slots := 6, locals := 105 }, [])
def M_X11_height : mz_M := (yX11_height, cX11_height, 2, (some .int), { frames := 6, cells := 1, slots := 6, locals := 82 }, [])
def M_X11_statistic : mz_M := (yX11_statistic, cX11_statistic, 3, (some .int), { frames := 7, cells := 1, slots := 6, locals := 105 }, [])
def M_X11_clears : mz_M := (yX11_clears, cX11_clears, 3, (some .int), { frames := 7, cells := 2, slots := 12, locals := 105 }, [])
def M_X11_latest : mz_M := (yX11_latest, cX11_latest, 2, (some .int), { frames := 7, cells := 2, slots := 12, locals := 105 }, [])
def M_X11_meanFaults : mz_M := (yX11_meanFaults, cX11_meanFaults, 1, (some .double), { frames := 6, cells := 1, slots := 6, locals := 82 }, [])
def M_X11_leastInputs : mz_M := (yX11_leastInputs, cX11_leastInputs, 5, (some .int), { frames := 7, cells := 3, slots := 18, locals := 105 }, [])
def M_X11_placements : mz_M := (yX11_placements, cX11_placements, 1, (some .int), { frames := 7, cells := 1, slots := 6, locals := 149 }, [])
def M_X11_placement : mz_M := (yX11_placement, cX11_placement, 3, (some .int), { frames := 7, cells := 3, slots := 18, locals := 149 }, [])
def M_X11_placeBest : mz_M := (yX11_placeBest, cX11_placeBest, 1, (some .int), { frames := 7, cells := 1, slots := 6, locals := 168 }, [])
def M_X11_append : mz_M := (yX11_append, cX11_append, 2, none, { frames := 6, cells := 1, slots := 6, locals := 82 }, [])
def M_X11_play : mz_M := (yX11_play, cX11_play, 5, (some .int), { frames := 7, cells := 2, slots := 12, locals := 190 }, [])
def M_X11_faultPosition : mz_M := (yX11_faultPosition, cX11_faultPosition, 1, (some .int), { frames := 0, cells := 0, slots := 0, locals := 0 }, [])
def M_X11_undo : mz_M := (yX11_undo, cX11_undo, 2, (some .int), { frames := 6, cells := 1, slots := 6, locals := 124 }, [])
def M_X11_save : mz_M := (yX11_save, cX11_save, 1, none, { frames := 4, cells := 0, slots := 0, locals := 123 }, [])
def M_X11_restore : mz_M := (yX11_restore, cX11_restore, 1, none, { frames := 6, cells := 1, slots := 6, locals := 123 }, [])
def M_X11_needPresentPiece : mz_M := (yX11_needPresentPiece, cX11_needPresentPiece, 1, none, { frames := 6, cells := 1, slots := 6, locals := 82 }, [])
def M_X11_needRange : mz_M := (yX11_needRange, cX11_needRange, 4, none, { frames := 6, cells := 1, slots := 6, locals := 82 }, [])
def M_X11_needDirection : mz_M := (yX11_needDirection, cX11_needDirection, 2, none, { frames := 6, cells := 1, slots := 6, locals := 82 }, [])
def M_X11_needCell : mz_M := (yX11_needCell, cX11_needCell, 3, none, { frames := 6, cells := 1, slots := 6, locals := 82 }, [])
def M_X11_carryOut : mz_M := (yX11_carryOut, cX11_carryOut, 2, (some .boolean), { frames := 6, cells := 0, slots := 0, locals := 169 }, [])
def M_X12_init : mz_M := (yX12_init, cX12_init, 1, none, { frames := 7, cells := 18, slots := 17186, locals := 156 }, [])
def M_X12_thrown : mz_M := (yX12_thrown, cX12_thrown, 1, (some .int), { frames := 0, cells := 0, slots := 0, locals := 0 }, [])
def M_X12_in : mz_M := (yX12_in, cX12_in, 3, (some .boolean), { frames := 0, cells := 0, slots := 0, locals := 0 }, [])
def M_X12_fails : mz_M := (yX12_fails, cX12_fails, 2, (some .int), { frames := 0, cells := 0, slots := 0, locals := 0 }, [])
def M_X12_done : mz_M := (yX12_done, cX12_done, 2, (some .int), { frames := 0, cells := 0, slots := 0, locals := 0 }, [])
def M_X12_at : mz_M := (yX12_at, cX12_at, 2, (some .int), { frames := 0, cells := 0, slots := 0, locals := 0 }, [])
def M_X12_isCell : mz_M := (yX12_isCell, cX12_isCell, 2, (some .boolean), { frames := 1, cells := 0, slots := 0, locals := 22 }, [])
def M_X12_isEmpty : mz_M := (yX12_isEmpty, cX12_isEmpty, 3, (some .boolean), { frames := 2, cells := 0, slots := 0, locals := 43 }, [])
def M_X12_boxed : mz_M := (yX12_boxed, cX12_boxed, 9, (some .int), { frames := 0, cells := 0, slots := 0, locals := 0 }, [])
def M_X12_fits : mz_M := (yX12_fits, cX12_fits, 7, (some .boolean), { frames := 3, cells := 0, slots := 0, locals := 65 }, [])
def M_X12_fitsAt : mz_M := (yX12_fitsAt, cX12_fitsAt, 3, (some .boolean), { frames := 4, cells := 0, slots := 0, locals := 91 }, [])
def M_X12_canFall : mz_M := (yX12_canFall, cX12_canFall, 1, (some .boolean), { frames := 5, cells := 0, slots := 0, locals := 113 }, [])
def M_X12_kickMany : mz_M := (yX12_kickMany, cX12_kickMany, 2, (some .int), { frames := 0, cells := 0, slots := 0, locals := 0 }, [])
def M_X12_kick : mz_M := (yX12_kick, cX12_kick, 6, (some .int), { frames := 0, cells := 0, slots := 0, locals := 0 }, [])
def M_X12_draws : mz_M := (yX12_draws, cX12_draws, 4, (some .int), { frames := 0, cells := 0, slots := 0, locals := 0 }, [])
def M_X12_records : mz_M := (yX12_records, cX12_records, 2, none, { frames := 0, cells := 0, slots := 0, locals := 0 }, [])
def M_X12_firstColumn : mz_M := (yX12_firstColumn, cX12_firstColumn, 1, (some .int), { frames := 0, cells := 0, slots := 0, locals := 0 }, [])
def M_X12_appears : mz_M := (yX12_appears, cX12_appears, 2, none, { frames := 5, cells := 0, slots := 0, locals := 113 }, [])
def M_X12_begins : mz_M := (yX12_begins, cX12_begins, 3, none, { frames := 6, cells := 0, slots := 0, locals := 134 }, [])
def M_X12_start : mz_M := (yX12_start, cX12_start, 2, (some .int), { frames := 7, cells := 0, slots := 0, locals := 156 }, [])
def M_X12_set : mz_M := (yX12_set, cX12_set, 4, (some .int), { frames := 1, cells := 0, slots := 0, locals := 22 }, [])
def M_X12_isOver : mz_M := (yX12_isOver, cX12_isOver, 1, (some .boolean), { frames := 0, cells := 0, slots := 0, locals := 0 }, [])
def M_X12_room : mz_M := (yX12_room, cX12_room, 2, (some .int), { frames := 5, cells := 0, slots := 0, locals := 113 }, [])
def M_X12_piece : mz_M := (yX12_piece, cX12_piece, 2, (some .int), { frames := 6, cells := 0, slots := 0, locals := 134 }, [])
def M_X12_next : mz_M := (yX12_next, cX12_next, 6, (some .int), { frames := 1, cells := 0, slots := 0, locals := 23 }, [])
def M_X12_cell : mz_M := (yX12_cell, cX12_cell, 3, (some .int), { frames := 2, cells := 0, slots := 0, locals := 43 }, [])
def M_X12_covers : mz_M := (yX12_covers, cX12_covers, 5, (some .boolean), { frames := 2, cells := 0, slots := 0, locals := 43 }, [])
def M_X12_settles : mz_M := (yX12_settles, cX12_settles, 2, none, { frames := 0, cells := 0, slots := 0, locals := 0 }, [])
def M_X12_shifts : mz_M := (yX12_shifts, cX12_shifts, 3, (some .boolean), { frames := 6, cells := 0, slots := 0, locals := 133 }, [])
def M_X12_slides : mz_M := (yX12_slides, cX12_slides, 4, (some .int), { frames := 6, cells := 0, slots := 0, locals := 133 }, [])
def M_X12_rotates : mz_M := (yX12_rotates, cX12_rotates, 7, (some .int), { frames := 6, cells := 0, slots := 0, locals := 133 }, [])
def M_X12_lacks : mz_M := (yX12_lacks, cX12_lacks, 2, (some .int), { frames := 0, cells := 0, slots := 0, locals := 0 }, [])
def M_X12_shift : mz_M := (yX12_shift, cX12_shift, 2, (some .boolean), { frames := 7, cells := 0, slots := 0, locals := 155 }, [])
def M_X12_slide : mz_M := (yX12_slide, cX12_slide, 3, (some .int), { frames := 7, cells := 0, slots := 0, locals := 156 }, [])
def M_X12_rotate : mz_M := (yX12_rotate, cX12_rotate, 3, (some .int), { frames := 7, cells := 0, slots := 0, locals := 159 }, [])
def M_X12_falls : mz_M := (yX12_falls, cX12_falls, 1, none, { frames := 1, cells := 0, slots := 0, locals := 21 }, [])
def M_X12_fallsByHand : mz_M := (yX12_fallsByHand, cX12_fallsByHand, 1, (some .boolean), { frames := 6, cells := 0, slots := 0, locals := 133 }, [])
def M_X12_fall : mz_M := (yX12_fall, cX12_fall, 1, (some .boolean), { frames := 7, cells := 0, slots := 0, locals := 153 }, [])
def M_X12_isFilled : mz_M := (yX12_isFilled, cX12_isFilled, 3, (some .boolean), { frames := 3, cells := 0, slots := 0, locals := 65 }, [])
def M_X12_spin : mz_M := (yX12_spin, cX12_spin, 9, (some .int), { frames := 4, cells := 0, slots := 0, locals := 87 }, [])
def M_X12_isFull : mz_M := (yX12_isFull, cX12_isFull, 4, (some .boolean), { frames := 1, cells := 0, slots := 0, locals := 21 }, [])
def M_X12_clearsRows : mz_M := (yX12_clearsRows, cX12_clearsRows, 4, (some .int), { frames := 2, cells := 0, slots := 0, locals := 44 }, [])
def M_X12_filled : mz_M := (yX12_filled, cX12_filled, 3, (some .int), { frames := 0, cells := 0, slots := 0, locals := 0 }, [])
def M_X12_fills : mz_M := (yX12_fills, cX12_fills, 2, none, { frames := 1, cells := 0, slots := 0, locals := 28 }, [])
def M_X12_scores : mz_M := (yX12_scores, cX12_scores, 7, none, { frames := 1, cells := 0, slots := 0, locals := 22 }, [])
def M_X12_locks : mz_M := (yX12_locks, cX12_locks, 5, (some .int), { frames := 6, cells := 0, slots := 0, locals := 134 }, [])
def M_X12_drops : mz_M := (yX12_drops, cX12_drops, 2, (some .int), { frames := 7, cells := 0, slots := 0, locals := 158 }, [])
def M_X12_drop : mz_M := (yX12_drop, cX12_drop, 1, (some .int), { frames := 8, cells := 0, slots := 0, locals := 179 }, [])
def M_X12_holds : mz_M := (yX12_holds, cX12_holds, 2, (some .int), { frames := 6, cells := 0, slots := 0, locals := 134 }, [])
def M_X12_hold : mz_M := (yX12_hold, cX12_hold, 1, (some .int), { frames := 7, cells := 0, slots := 0, locals := 155 }, [])
def M_X12_held : mz_M := (yX12_held, cX12_held, 1, (some .int), { frames := 1, cells := 0, slots := 0, locals := 21 }, [])
def M_X12_ticksOnce : mz_M := (yX12_ticksOnce, cX12_ticksOnce, 2, (some .boolean), { frames := 7, cells := 0, slots := 0, locals := 158 }, [])
def M_X12_tick : mz_M := (yX12_tick, cX12_tick, 4, (some .int), { frames := 8, cells := 0, slots := 0, locals := 179 }, [])
def M_X12_garbage : mz_M := (yX12_garbage, cX12_garbage, 5, (some .int), { frames := 5, cells := 0, slots := 0, locals := 113 }, [])
def M_X12_heightOf : mz_M := (yX12_heightOf, cX12_heightOf, 3, (some .int), { frames := 1, cells := 0, slots := 0, locals := 21 }, [])
def M_X12_holes : mz_M := (yX12_holes, cX12_holes, 4, (some .int), { frames := 2, cells := 0, slots := 0, locals := 43 }, [])
def M_X12_totalHeight : mz_M := (yX12_totalHeight, cX12_totalHeight, 3, (some .int), { frames := 2, cells := 0, slots := 0, locals := 43 }, [])
def M_X12_roughness : mz_M := (yX12_roughness, cX12_roughness, 4, (some .int), { frames := 2, cells := 0, slots := 0, locals := 43 }, [])
def M_X12_transitions : mz_M := (yX12_transitions, cX12_transitions, 8, (some .int), { frames := 1, cells := 0, slots := 0, locals := 21 }, [])
def M_X12_well : mz_M := (yX12_well, cX12_well, 6, (some .int), { frames := 2, cells := 0, slots := 0, locals := 43 }, [])
def M_X12_figure : mz_M := (yX12_figure, cX12_figure, 4, (some .int), { frames := 3, cells := 0, slots := 0, locals := 68 }, [])
def M_X12_height : mz_M := (yX12_height, cX12_height, 2, (some .int), { frames := 2, cells := 0, slots := 0, locals := 43 }, [])
def M_X12_statistic : mz_M := (yX12_statistic, cX12_statistic, 2, (some .int), { frames := 1, cells := 0, slots := 0, locals := 22 }, [])
def M_X12_clears : mz_M := (yX12_clears, cX12_clears, 3, (some .int), { frames := 1, cells := 0, slots := 0, locals := 22 }, [])
def M_X12_latest : mz_M := (yX12_latest, cX12_latest, 2, (some .int), { frames := 1, cells := 0, slots := 0, locals := 22 }, [])
def M_X12_meanFaults : mz_M := (yX12_meanFaults, cX12_meanFaults, 1, (some .double), { frames := 0, cells := 0, slots := 0, locals := 0 }, [])
def M_X12_isWithin : mz_M := (yX12_isWithin, cX12_isWithin, 6, (some .boolean), { frames := 1, cells := 0, slots := 0, locals := 28 }, [])
def M_X12_improves : mz_M := (yX12_improves, cX12_improves, 5, (some .boolean), { frames := 0, cells := 0, slots := 0, locals := 0 }, [])
def M_X12_spreads : mz_M := (yX12_spreads, cX12_spreads, 10, (some .boolean), { frames := 2, cells := 0, slots := 0, locals := 53 }, [])
def M_X12_tellSteps : mz_M := (yX12_tellSteps, cX12_tellSteps, 4, none, { frames := 3, cells := 0, slots := 0, locals := 82 }, [])
def M_X12_areLike : mz_M := (yX12_areLike, cX12_areLike, 12, (some .boolean), { frames := 2, cells := 0, slots := 0, locals := 52 }, [])
def M_X12_lowest : mz_M := (yX12_lowest, cX12_lowest, 5, (some .int), { frames := 1, cells := 0, slots := 0, locals := 28 }, [])
def M_X12_leastOf : mz_M := (yX12_leastOf, cX12_leastOf, 6, (some .int), { frames := 4, cells := 0, slots := 0, locals := 105 }, [])
def M_X12_leastInputs : mz_M := (yX12_leastInputs, cX12_leastInputs, 4, (some .int), { frames := 4, cells := 0, slots := 0, locals := 105 }, [])
def M_X12_reaches : mz_M := (yX12_reaches, cX12_reaches, 5, none, { frames := 4, cells := 0, slots := 0, locals := 91 }, [])
def M_X12_turns : mz_M := (yX12_turns, cX12_turns, 9, none, { frames := 5, cells := 0, slots := 0, locals := 115 }, [])
def M_X12_sorts : mz_M := (yX12_sorts, cX12_sorts, 7, none, { frames := 1, cells := 0, slots := 0, locals := 28 }, [])
def M_X12_isPlaced : mz_M := (yX12_isPlaced, cX12_isPlaced, 4, (some .boolean), { frames := 0, cells := 0, slots := 0, locals := 0 }, [])
def M_X12_comes : mz_M := (yX12_comes, cX12_comes, 6, none, { frames := 3, cells := 0, slots := 0, locals := 67 }, [])
def M_X12_tellPlacements : mz_M := (yX12_tellPlacements, cX12_tellPlacements, 5, none, { frames := 6, cells := 0, slots := 0, locals := 143 }, [])
def M_X12_isBetter : mz_M := (yX12_isBetter, cX12_isBetter, 4, (some .boolean), { frames := 0, cells := 0, slots := 0, locals := 0 }, [])
def M_X12_ranked : mz_M := (yX12_ranked, cX12_ranked, 5, (some .int), { frames := 1, cells := 0, slots := 0, locals := 23 }, [])
def M_X12_placements : mz_M := (yX12_placements, cX12_placements, 1, (some .int), { frames := 7, cells := 0, slots := 0, locals := 167 }, [])
def M_X12_placement : mz_M := (yX12_placement, cX12_placement, 4, (some .int), { frames := 7, cells := 0, slots := 0, locals := 167 }, [])
def M_X12_placeBest : mz_M := (yX12_placeBest, cX12_placeBest, 2, (some .int), { frames := 7, cells := 0, slots := 0, locals := 167 }, [])
def M_X12_append : mz_M := (yX12_append, cX12_append, 2, none, { frames := 0, cells := 0, slots := 0, locals := 0 }, [])
def M_X12_isLetter : mz_M := (yX12_isLetter, cX12_isLetter, 1, (some .boolean), { frames := 0, cells := 0, slots := 0, locals := 0 }, [])
def M_X12_errsAt : mz_M := (yX12_errsAt, cX12_errsAt, 3, (some .int), { frames := 1, cells := 0, slots := 0, locals := 22 }, [])
def M_X12_does : mz_M := (yX12_does, cX12_does, 9, (some .boolean), { frames := 8, cells := 0, slots := 0, locals := 179 }, [])
def M_X12_play : mz_M := (yX12_play, cX12_play, 5, (some .int), { frames := 9, cells := 0, slots := 0, locals := 207 }, [])
def M_X12_faultPosition : mz_M := (yX12_faultPosition, cX12_faultPosition, 1, (some .int), { frames := 1, cells := 0, slots := 0, locals := 21 }, [])
def M_X12_undo : mz_M := (yX12_undo, cX12_undo, 3, (some .int), { frames := 1, cells := 0, slots := 0, locals := 21 }, [])
def M_X12_save : mz_M := (yX12_save, cX12_save, 2, none, { frames := 0, cells := 0, slots := 0, locals := 0 }, [])
def M_X12_restore : mz_M := (yX12_restore, cX12_restore, 2, none, { frames := 0, cells := 0, slots := 0, locals := 0 }, [])
def M_L_start : mz_M := (yL_start, cL_start, 4, (some .int), { frames := 7, cells := 1, slots := 6, locals := 165 }, [(0, 9, 12, 13)])
def M_L_set : mz_M := (yL_set, cL_set, 5, (some .int), { frames := 8, cells := 3, slots := 18, locals := 128 }, [(0, 10, 13, 13)])
def M_L_piece : mz_M := (yL_piece, cL_piece, 4, (some .int), { frames := 8, cells := 2, slots := 12, locals := 135 }, [(0, 9, 12, 22), (0, 9, 15, 13)])
def M_L_next : mz_M := (yL_next, cL_next, 4, (some .int), { frames := 7, cells := 1, slots := 6, locals := 103 }, [(0, 9, 12, 27)])
def M_L_cell : mz_M := (yL_cell, cL_cell, 5, (some .int), { frames := 8, cells := 1, slots := 6, locals := 126 }, [(0, 10, 13, 27)])
def M_L_covers : mz_M := (yL_covers, cL_covers, 5, (some .int), { frames := 8, cells := 2, slots := 12, locals := 126 }, [(0, 17, 20, 22), (0, 17, 24, 27)])
def M_L_shift : mz_M := (yL_shift, cL_shift, 4, (some .int), { frames := 8, cells := 2, slots := 12, locals := 124 }, [(0, 16, 19, 22), (0, 16, 22, 13)])
def M_L_slide : mz_M := (yL_slide, cL_slide, 4, (some .int), { frames := 8, cells := 2, slots := 12, locals := 124 }, [(0, 9, 12, 22), (0, 9, 15, 13)])
def M_L_rotate : mz_M := (yL_rotate, cL_rotate, 4, (some .int), { frames := 8, cells := 2, slots := 12, locals := 124 }, [(0, 9, 12, 22), (0, 9, 15, 13)])
def M_L_fall : mz_M := (yL_fall, cL_fall, 3, (some .int), { frames := 8, cells := 1, slots := 6, locals := 122 }, [(0, 15, 18, 22)])
def M_L_drop : mz_M := (yL_drop, cL_drop, 3, (some .int), { frames := 8, cells := 1, slots := 6, locals := 189 }, [(0, 8, 11, 22)])
def M_L_hold : mz_M := (yL_hold, cL_hold, 3, (some .int), { frames := 8, cells := 2, slots := 12, locals := 164 }, [(0, 8, 11, 22), (0, 8, 14, 57)])
def M_L_held : mz_M := (yL_held, cL_held, 3, (some .int), { frames := 7, cells := 1, slots := 6, locals := 102 }, [(0, 8, 11, 62)])
def M_L_tick : mz_M := (yL_tick, cL_tick, 4, (some .int), { frames := 8, cells := 2, slots := 12, locals := 192 }, [(0, 9, 12, 13), (0, 9, 15, 22)])
def M_L_garbage : mz_M := (yL_garbage, cL_garbage, 5, (some .int), { frames := 8, cells := 4, slots := 24, locals := 127 }, [(0, 10, 13, 13), (0, 10, 17, 22), (0, 10, 21, 57)])
def M_L_figure : mz_M := (yL_figure, cL_figure, 4, (some .int), { frames := 8, cells := 1, slots := 6, locals := 127 }, [(0, 9, 12, 13)])
def M_L_height : mz_M := (yL_height, cL_height, 4, (some .int), { frames := 7, cells := 1, slots := 6, locals := 103 }, [(0, 9, 12, 27)])
def M_L_statistic : mz_M := (yL_statistic, cL_statistic, 4, (some .int), { frames := 8, cells := 1, slots := 6, locals := 127 }, [(0, 9, 12, 13)])
def M_L_clears : mz_M := (yL_clears, cL_clears, 5, (some .int), { frames := 8, cells := 2, slots := 12, locals := 127 }, [(0, 10, 13, 13)])
def M_L_latest : mz_M := (yL_latest, cL_latest, 4, (some .int), { frames := 8, cells := 2, slots := 12, locals := 126 }, [(0, 9, 12, 62), (0, 9, 15, 13)])
def M_L_meanFaults : mz_M := (yL_meanFaults, cL_meanFaults, 3, (some .int), { frames := 7, cells := 1, slots := 6, locals := 102 }, [(0, 7, 10, 89)])
def M_L_leastInputs : mz_M := (yL_leastInputs, cL_leastInputs, 6, (some .int), { frames := 8, cells := 3, slots := 18, locals := 129 }, [(0, 12, 15, 13), (0, 12, 19, 62)])
def M_L_placements : mz_M := (yL_placements, cL_placements, 3, (some .int), { frames := 8, cells := 1, slots := 6, locals := 169 }, [(0, 8, 11, 22)])
def M_L_placement : mz_M := (yL_placement, cL_placement, 5, (some .int), { frames := 8, cells := 3, slots := 18, locals := 171 }, [(0, 10, 13, 22), (0, 10, 17, 62), (0, 10, 21, 13)])
def M_L_placeBest : mz_M := (yL_placeBest, cL_placeBest, 3, (some .int), { frames := 8, cells := 1, slots := 6, locals := 188 }, [(0, 8, 11, 22)])
def M_L_append : mz_M := (yL_append, cL_append, 3, (some .int), { frames := 7, cells := 1, slots := 6, locals := 103 }, [(0, 5, 8, 22)])
def M_L_play : mz_M := (yL_play, cL_play, 3, (some .int), { frames := 8, cells := 2, slots := 12, locals := 214 }, [(0, 8, 11, 13), (0, 8, 14, 22)])
def M_L_undo : mz_M := (yL_undo, cL_undo, 3, (some .int), { frames := 7, cells := 1, slots := 6, locals := 145 }, [(0, 8, 11, 57)])
def M_L_restore : mz_M := (yL_restore, cL_restore, 2, (some .int), { frames := 7, cells := 1, slots := 6, locals := 143 }, [(0, 4, 7, 62)])
def M_L_law : mz_M := (yL_law, cL_law, 9, ret, room_1, [])
theorem mk_J6_bitCount_0f7a4 : mz_Mk M_J6_bitCount_0f7a4 1 := ⟨mw_556, mw_91, ⟨by decide +kernel, by decide +kernel, by decide +kernel⟩, by decide +kernel⟩
theorem mk_J9_floorMod_7cf53 : mz_Mk M_J9_floorMod_7cf53 2 := ⟨mw_562, mw_92, ⟨by decide +kernel, by decide +kernel, by decide +kernel⟩, by decide +kernel⟩
theorem mk_J9_abs_0f7a4 : mz_Mk M_J9_abs_0f7a4 1 := ⟨mw_1108, mw_92, ⟨by decide +kernel, by decide +kernel, by decide +kernel⟩, by decide +kernel⟩
theorem mk_J9_max_7cf53 : mz_Mk M_J9_max_7cf53 2 := ⟨mw_975, mw_92, ⟨by decide +kernel, by decide +kernel, by decide +kernel⟩, by decide +kernel⟩
theorem mk_J9_min_7cf53 : mz_Mk M_J9_min_7cf53 2 := ⟨mw_589, mw_92, ⟨by decide +kernel, by decide +kernel, by decide +kernel⟩, by decide +kernel⟩
theorem mk_J7_fill_53178 : mz_Mk M_J7_fill_53178 2 := ⟨mw_138, mw_82, ⟨by decide +kernel, by decide +kernel, by decide +kernel⟩, by decide +kernel⟩
theorem mk_X0_init : mz_Mk M_X0_init 0 := ⟨mw_224, mw_85, ⟨by decide +kernel, by decide +kernel, by decide +kernel⟩, by decide +kernel⟩
theorem mk_X0_begin : mz_Mk M_X0_begin 1 := ⟨mw_545, mw_85, ⟨by decide +kernel, by decide +kernel, by decide +kernel⟩, by decide +kernel⟩
theorem mk_X0_copyFrom : mz_Mk M_X0_copyFrom 1 := ⟨mw_612, mw_85, ⟨by decide +kernel, by decide +kernel, by decide +kernel⟩, by decide +kernel⟩
theorem mk_X0_take : mz_Mk M_X0_take 0 := ⟨mw_571, mw_85, ⟨by decide +kernel, by decide +kernel, by decide +kernel⟩, by decide +kernel⟩
theorem mk_X0_draw : mz_Mk M_X0_draw 0 := ⟨mw_549, mw_85, ⟨by decide +kernel, by decide +kernel, by decide +kernel⟩, by decide +kernel⟩
theorem mk_X1_init : mz_Mk M_X1_init 0 := ⟨mw_118, mw_79, ⟨by decide +kernel, by decide +kernel, by decide +kernel⟩, by decide +kernel⟩
theorem mk_X1_begin : mz_Mk M_X1_begin 1 := ⟨mw_536, mw_79, ⟨by decide +kernel, by decide +kernel, by decide +kernel⟩, by decide +kernel⟩
theorem mk_X1_appear : mz_Mk M_X1_appear 1 := ⟨mw_575, mw_79, ⟨by decide +kernel, by decide +kernel, by decide +kernel⟩, by decide +kernel⟩
theorem mk_X1_rowsToFall : mz_Mk M_X1_rowsToFall 0 := ⟨mw_773, mw_79, ⟨by decide +kernel, by decide +kernel, by decide +kernel⟩, by decide +kernel⟩
theorem mk_X1_sinkAsFarAsPossible : mz_Mk M_X1_sinkAsFarAsPossible 0 := ⟨mw_777, mw_79, ⟨by decide +kernel, by decide +kernel, by decide +kernel⟩, by decide +kernel⟩
theorem mk_X1_shiftPiece : mz_Mk M_X1_shiftPiece 1 := ⟨mw_865, mw_79, ⟨by decide +kernel, by decide +kernel, by decide +kernel⟩, by decide +kernel⟩
theorem mk_X1_slidePiece : mz_Mk M_X1_slidePiece 1 := ⟨mw_888, mw_79, ⟨by decide +kernel, by decide +kernel, by decide +kernel⟩, by decide +kernel⟩
theorem mk_X1_turnPiece : mz_Mk M_X1_turnPiece 1 := ⟨mw_900, mw_79, ⟨by decide +kernel, by decide +kernel, by decide +kernel⟩, by decide +kernel⟩
theorem mk_X1_sinkPiece : mz_Mk M_X1_sinkPiece 0 := ⟨mw_912, mw_79, ⟨by decide +kernel, by decide +kernel, by decide +kernel⟩, by decide +kernel⟩
theorem mk_X1_dropPiece : mz_Mk M_X1_dropPiece 0 := ⟨mw_927, mw_79, ⟨by decide +kernel, by decide +kernel, by decide +kernel⟩, by decide +kernel⟩
theorem mk_X1_swapWithHold : mz_Mk M_X1_swapWithHold 0 := ⟨mw_1022, mw_79, ⟨by decide +kernel, by decide +kernel, by decide +kernel⟩, by decide +kernel⟩
theorem mk_X1_passTick : mz_Mk M_X1_passTick 0 := ⟨mw_1057, mw_79, ⟨by decide +kernel, by decide +kernel, by decide +kernel⟩, by decide +kernel⟩
theorem mk_X1_addGarbage : mz_Mk M_X1_addGarbage 2 := ⟨mw_1069, mw_79, ⟨by decide +kernel, by decide +kernel, by decide +kernel⟩, by decide +kernel⟩
theorem mk_X1_lockInBestPlacement : mz_Mk M_X1_lockInBestPlacement 0 := ⟨mw_1259, mw_79, ⟨by decide +kernel, by decide +kernel, by decide +kernel⟩, by decide +kernel⟩
theorem mk_X1_lock : mz_Mk M_X1_lock 0 := ⟨mw_931, mw_79, ⟨by decide +kernel, by decide +kernel, by decide +kernel⟩, by decide +kernel⟩
theorem mk_X1_findSpin : mz_Mk M_X1_findSpin 0 := ⟨mw_935, mw_79, ⟨by decide +kernel, by decide +kernel, by decide +kernel⟩, by decide +kernel⟩
theorem mk_X1_isCornerFilled : mz_Mk M_X1_isCornerFilled 1 := ⟨mw_939, mw_79, ⟨by decide +kernel, by decide +kernel, by decide +kernel⟩, by decide +kernel⟩
theorem mk_X2_init : mz_Mk M_X2_init 0 := ⟨mw_130, mw_81, ⟨by decide +kernel, by decide +kernel, by decide +kernel⟩, by decide +kernel⟩
theorem mk_X2_makeEmpty : mz_Mk M_X2_makeEmpty 0 := ⟨mw_135, mw_81, ⟨by decide +kernel, by decide +kernel, by decide +kernel⟩, by decide +kernel⟩
theorem mk_X2_copyFrom : mz_Mk M_X2_copyFrom 1 := ⟨mw_597, mw_81, ⟨by decide +kernel, by decide +kernel, by decide +kernel⟩, by decide +kernel⟩
theorem mk_X2_isSame : mz_Mk M_X2_isSame 1 := ⟨mw_1206, mw_81, ⟨by decide +kernel, by decide +kernel, by decide +kernel⟩, by decide +kernel⟩
theorem mk_X2_isFilled : mz_Mk M_X2_isFilled 2 := ⟨mw_413, mw_81, ⟨by decide +kernel, by decide +kernel, by decide +kernel⟩, by decide +kernel⟩
theorem mk_X2_fillWith : mz_Mk M_X2_fillWith 1 := ⟨mw_948, mw_81, ⟨by decide +kernel, by decide +kernel, by decide +kernel⟩, by decide +kernel⟩
theorem mk_X2_clearFullRows : mz_Mk M_X2_clearFullRows 0 := ⟨mw_953, mw_81, ⟨by decide +kernel, by decide +kernel, by decide +kernel⟩, by decide +kernel⟩
theorem mk_X2_raise : mz_Mk M_X2_raise 2 := ⟨mw_1083, mw_81, ⟨by decide +kernel, by decide +kernel, by decide +kernel⟩, by decide +kernel⟩
theorem mk_X2_countFilledInRow : mz_Mk M_X2_countFilledInRow 1 := ⟨mw_957, mw_81, ⟨by decide +kernel, by decide +kernel, by decide +kernel⟩, by decide +kernel⟩
theorem mk_X2_countFilled : mz_Mk M_X2_countFilled 0 := ⟨mw_962, mw_81, ⟨by decide +kernel, by decide +kernel, by decide +kernel⟩, by decide +kernel⟩
theorem mk_X2_countHoles : mz_Mk M_X2_countHoles 0 := ⟨mw_1096, mw_81, ⟨by decide +kernel, by decide +kernel, by decide +kernel⟩, by decide +kernel⟩
theorem mk_X2_heightOf : mz_Mk M_X2_heightOf 1 := ⟨mw_1077, mw_81, ⟨by decide +kernel, by decide +kernel, by decide +kernel⟩, by decide +kernel⟩
theorem mk_X2_totalHeight : mz_Mk M_X2_totalHeight 0 := ⟨mw_1100, mw_81, ⟨by decide +kernel, by decide +kernel, by decide +kernel⟩, by decide +kernel⟩
theorem mk_X2_greatestHeight : mz_Mk M_X2_greatestHeight 0 := ⟨mw_1073, mw_81, ⟨by decide +kernel, by decide +kernel, by decide +kernel⟩, by decide +kernel⟩
theorem mk_X2_roughness : mz_Mk M_X2_roughness 0 := ⟨mw_1105, mw_81, ⟨by decide +kernel, by decide +kernel, by decide +kernel⟩, by decide +kernel⟩
theorem mk_X2_countRowTransitions : mz_Mk M_X2_countRowTransitions 0 := ⟨mw_1112, mw_81, ⟨by decide +kernel, by decide +kernel, by decide +kernel⟩, by decide +kernel⟩
theorem mk_X2_countTransitionsIn : mz_Mk M_X2_countTransitionsIn 1 := ⟨mw_1116, mw_81, ⟨by decide +kernel, by decide +kernel, by decide +kernel⟩, by decide +kernel⟩
theorem mk_X2_wellDepth : mz_Mk M_X2_wellDepth 0 := ⟨mw_1120, mw_81, ⟨by decide +kernel, by decide +kernel, by decide +kernel⟩, by decide +kernel⟩
theorem mk_X3_init : mz_Mk M_X3_init 0 := ⟨mw_367, mw_88, ⟨by decide +kernel, by decide +kernel, by decide +kernel⟩, by decide +kernel⟩
theorem mk_X3_leastTo : mz_Mk M_X3_leastTo 3 := ⟨mw_396, mw_88, ⟨by decide +kernel, by decide +kernel, by decide +kernel⟩, by decide +kernel⟩
theorem mk_X3_indexOf : mz_Mk M_X3_indexOf 3 := ⟨mw_388, mw_88, ⟨by decide +kernel, by decide +kernel, by decide +kernel⟩, by decide +kernel⟩
theorem mk_X3_leastToCellsOf : mz_Mk M_X3_leastToCellsOf 1 := ⟨mw_983, mw_88, ⟨by decide +kernel, by decide +kernel, by decide +kernel⟩, by decide +kernel⟩
theorem mk_X3_firstColumn : mz_Mk M_X3_firstColumn 2 := ⟨mw_986, mw_88, ⟨by decide +kernel, by decide +kernel, by decide +kernel⟩, by decide +kernel⟩
theorem mk_X3_isSameShape : mz_Mk M_X3_isSameShape 3 := ⟨mw_990, mw_88, ⟨by decide +kernel, by decide +kernel, by decide +kernel⟩, by decide +kernel⟩
theorem mk_X3_explore : mz_Mk M_X3_explore 1 := ⟨mw_377, mw_88, ⟨by decide +kernel, by decide +kernel, by decide +kernel⟩, by decide +kernel⟩
theorem mk_X3_goTo : mz_Mk M_X3_goTo 1 := ⟨mw_392, mw_88, ⟨by decide +kernel, by decide +kernel, by decide +kernel⟩, by decide +kernel⟩
theorem mk_X3_reach : mz_Mk M_X3_reach 1 := ⟨mw_385, mw_88, ⟨by decide +kernel, by decide +kernel, by decide +kernel⟩, by decide +kernel⟩
theorem mk_X4_init : mz_Mk M_X4_init 0 := ⟨mw_124, mw_80, ⟨by decide +kernel, by decide +kernel, by decide +kernel⟩, by decide +kernel⟩
theorem mk_X4_copyFrom : mz_Mk M_X4_copyFrom 1 := ⟨mw_593, mw_80, ⟨by decide +kernel, by decide +kernel, by decide +kernel⟩, by decide +kernel⟩
theorem mk_X4_copySettingsFrom : mz_Mk M_X4_copySettingsFrom 1 := ⟨mw_649, mw_80, ⟨by decide +kernel, by decide +kernel, by decide +kernel⟩, by decide +kernel⟩
theorem mk_X5_init : mz_Mk M_X5_init 0 := ⟨mw_514, mw_90, ⟨by decide +kernel, by decide +kernel, by decide +kernel⟩, by decide +kernel⟩
theorem mk_X5_add : mz_Mk M_X5_add 1 := ⟨mw_1274, mw_90, ⟨by decide +kernel, by decide +kernel, by decide +kernel⟩, by decide +kernel⟩
theorem mk_X5_finish : mz_Mk M_X5_finish 0 := ⟨mw_1286, mw_90, ⟨by decide +kernel, by decide +kernel, by decide +kernel⟩, by decide +kernel⟩
theorem mk_X5_findFault : mz_Mk M_X5_findFault 0 := ⟨mw_1290, mw_90, ⟨by decide +kernel, by decide +kernel, by decide +kernel⟩, by decide +kernel⟩
theorem mk_X5_timesAt : mz_Mk M_X5_timesAt 1 := ⟨mw_1301, mw_90, ⟨by decide +kernel, by decide +kernel, by decide +kernel⟩, by decide +kernel⟩
theorem mk_X5_isDigit : mz_Mk M_X5_isDigit 1 := ⟨mw_1293, mw_90, ⟨by decide +kernel, by decide +kernel, by decide +kernel⟩, by decide +kernel⟩
theorem mk_X5_isLetter : mz_Mk M_X5_isLetter 1 := ⟨mw_1296, mw_90, ⟨by decide +kernel, by decide +kernel, by decide +kernel⟩, by decide +kernel⟩
theorem mk_X6_init : mz_Mk M_X6_init 0 := ⟨mw_342, mw_87, ⟨by decide +kernel, by decide +kernel, by decide +kernel⟩, by decide +kernel⟩
theorem mk_X6_forgetRecords : mz_Mk M_X6_forgetRecords 0 := ⟨mw_540, mw_87, ⟨by decide +kernel, by decide +kernel, by decide +kernel⟩, by decide +kernel⟩
theorem mk_X6_nextRecord : mz_Mk M_X6_nextRecord 0 := ⟨mw_585, mw_87, ⟨by decide +kernel, by decide +kernel, by decide +kernel⟩, by decide +kernel⟩
theorem mk_X6_goBack : mz_Mk M_X6_goBack 1 := ⟨mw_1316, mw_87, ⟨by decide +kernel, by decide +kernel, by decide +kernel⟩, by decide +kernel⟩
theorem mk_X6_keepSnapshot : mz_Mk M_X6_keepSnapshot 1 := ⟨mw_644, mw_87, ⟨by decide +kernel, by decide +kernel, by decide +kernel⟩, by decide +kernel⟩
theorem mk_X6_goToSnapshot : mz_Mk M_X6_goToSnapshot 1 := ⟨mw_1328, mw_87, ⟨by decide +kernel, by decide +kernel, by decide +kernel⟩, by decide +kernel⟩
theorem mk_X7_init : mz_Mk M_X7_init 0 := ⟨mw_149, mw_83, ⟨by decide +kernel, by decide +kernel, by decide +kernel⟩, by decide +kernel⟩
theorem mk_X7_appear : mz_Mk M_X7_appear 1 := ⟨mw_579, mw_83, ⟨by decide +kernel, by decide +kernel, by decide +kernel⟩, by decide +kernel⟩
theorem mk_X7_copyFrom : mz_Mk M_X7_copyFrom 1 := ⟨mw_604, mw_83, ⟨by decide +kernel, by decide +kernel, by decide +kernel⟩, by decide +kernel⟩
theorem mk_X7_noteInput : mz_Mk M_X7_noteInput 3 := ⟨mw_873, mw_83, ⟨by decide +kernel, by decide +kernel, by decide +kernel⟩, by decide +kernel⟩
theorem mk_X7_noteFall : mz_Mk M_X7_noteFall 0 := ⟨mw_916, mw_83, ⟨by decide +kernel, by decide +kernel, by decide +kernel⟩, by decide +kernel⟩
theorem mk_X7_noteRow : mz_Mk M_X7_noteRow 0 := ⟨mw_877, mw_83, ⟨by decide +kernel, by decide +kernel, by decide +kernel⟩, by decide +kernel⟩
theorem mk_X8_init : mz_Mk M_X8_init 0 := ⟨mw_155, mw_84, ⟨by decide +kernel, by decide +kernel, by decide +kernel⟩, by decide +kernel⟩
theorem mk_X8_appear : mz_Mk M_X8_appear 1 := ⟨mw_381, mw_84, ⟨by decide +kernel, by decide +kernel, by decide +kernel⟩, by decide +kernel⟩
theorem mk_X8_copyFrom : mz_Mk M_X8_copyFrom 1 := ⟨mw_608, mw_84, ⟨by decide +kernel, by decide +kernel, by decide +kernel⟩, by decide +kernel⟩
theorem mk_X8_isSame : mz_Mk M_X8_isSame 1 := ⟨mw_1202, mw_84, ⟨by decide +kernel, by decide +kernel, by decide +kernel⟩, by decide +kernel⟩
theorem mk_X8_cellOf : mz_Mk M_X8_cellOf 3 := ⟨mw_407, mw_84, ⟨by decide +kernel, by decide +kernel, by decide +kernel⟩, by decide +kernel⟩
theorem mk_X8_cellAt : mz_Mk M_X8_cellAt 1 := ⟨mw_849, mw_84, ⟨by decide +kernel, by decide +kernel, by decide +kernel⟩, by decide +kernel⟩
theorem mk_X8_has : mz_Mk M_X8_has 1 := ⟨mw_845, mw_84, ⟨by decide +kernel, by decide +kernel, by decide +kernel⟩, by decide +kernel⟩
theorem mk_X8_isAllAtOrAbove : mz_Mk M_X8_isAllAtOrAbove 1 := ⟨mw_944, mw_84, ⟨by decide +kernel, by decide +kernel, by decide +kernel⟩, by decide +kernel⟩
theorem mk_X8_fits : mz_Mk M_X8_fits 1 := ⟨mw_404, mw_84, ⟨by decide +kernel, by decide +kernel, by decide +kernel⟩, by decide +kernel⟩
theorem mk_X8_moveBy : mz_Mk M_X8_moveBy 3 := ⟨mw_400, mw_84, ⟨by decide +kernel, by decide +kernel, by decide +kernel⟩, by decide +kernel⟩
theorem mk_X8_slideBy : mz_Mk M_X8_slideBy 2 := ⟨mw_417, mw_84, ⟨by decide +kernel, by decide +kernel, by decide +kernel⟩, by decide +kernel⟩
theorem mk_X8_turnBy : mz_Mk M_X8_turnBy 2 := ⟨mw_421, mw_84, ⟨by decide +kernel, by decide +kernel, by decide +kernel⟩, by decide +kernel⟩
theorem mk_X8_canFall : mz_Mk M_X8_canFall 1 := ⟨mw_869, mw_84, ⟨by decide +kernel, by decide +kernel, by decide +kernel⟩, by decide +kernel⟩
theorem mk_X9_init : mz_Mk M_X9_init 0 := ⟨mw_241, mw_86, ⟨by decide +kernel, by decide +kernel, by decide +kernel⟩, by decide +kernel⟩
theorem mk_X9_sortOf : mz_Mk M_X9_sortOf 2 := ⟨mw_971, mw_86, ⟨by decide +kernel, by decide +kernel, by decide +kernel⟩, by decide +kernel⟩
theorem mk_X9_begin : mz_Mk M_X9_begin 0 := ⟨mw_566, mw_86, ⟨by decide +kernel, by decide +kernel, by decide +kernel⟩, by decide +kernel⟩
theorem mk_X9_copyFrom : mz_Mk M_X9_copyFrom 1 := ⟨mw_617, mw_86, ⟨by decide +kernel, by decide +kernel, by decide +kernel⟩, by decide +kernel⟩
theorem mk_X9_level : mz_Mk M_X9_level 0 := ⟨mw_979, mw_86, ⟨by decide +kernel, by decide +kernel, by decide +kernel⟩, by decide +kernel⟩
theorem mk_X9_noteLock : mz_Mk M_X9_noteLock 4 := ⟨mw_966, mw_86, ⟨by decide +kernel, by decide +kernel, by decide +kernel⟩, by decide +kernel⟩
theorem mk_X9_noteFinesse : mz_Mk M_X9_noteFinesse 2 := ⟨mw_994, mw_86, ⟨by decide +kernel, by decide +kernel, by decide +kernel⟩, by decide +kernel⟩
theorem mk_X10_init : mz_Mk M_X10_init 0 := ⟨mw_446, mw_89, ⟨by decide +kernel, by decide +kernel, by decide +kernel⟩, by decide +kernel⟩
theorem mk_X10_prepare : mz_Mk M_X10_prepare 1 := ⟨mw_1198, mw_89, ⟨by decide +kernel, by decide +kernel, by decide +kernel⟩, by decide +kernel⟩
theorem mk_X10_numberAbout : mz_Mk M_X10_numberAbout 2 := ⟨mw_1248, mw_89, ⟨by decide +kernel, by decide +kernel, by decide +kernel⟩, by decide +kernel⟩
theorem mk_X10_moveToBest : mz_Mk M_X10_moveToBest 1 := ⟨mw_1263, mw_89, ⟨by decide +kernel, by decide +kernel, by decide +kernel⟩, by decide +kernel⟩
theorem mk_X10_explore : mz_Mk M_X10_explore 0 := ⟨mw_1212, mw_89, ⟨by decide +kernel, by decide +kernel, by decide +kernel⟩, by decide +kernel⟩
theorem mk_X10_reach : mz_Mk M_X10_reach 0 := ⟨mw_1217, mw_89, ⟨by decide +kernel, by decide +kernel, by decide +kernel⟩, by decide +kernel⟩
theorem mk_X10_goTo : mz_Mk M_X10_goTo 2 := ⟨mw_1220, mw_89, ⟨by decide +kernel, by decide +kernel, by decide +kernel⟩, by decide +kernel⟩
theorem mk_X10_keyOfPlacement : mz_Mk M_X10_keyOfPlacement 0 := ⟨mw_1225, mw_89, ⟨by decide +kernel, by decide +kernel, by decide +kernel⟩, by decide +kernel⟩
theorem mk_X10_insert : mz_Mk M_X10_insert 2 := ⟨mw_1235, mw_89, ⟨by decide +kernel, by decide +kernel, by decide +kernel⟩, by decide +kernel⟩
theorem mk_X11_init : mz_Mk M_X11_init 0 := ⟨mw_110, mw_78, ⟨by decide +kernel, by decide +kernel, by decide +kernel⟩, by decide +kernel⟩
theorem mk_X11_start : mz_Mk M_X11_start 1 := ⟨mw_657, mw_78, ⟨by decide +kernel, by decide +kernel, by decide +kernel⟩, by decide +kernel⟩
theorem mk_X11_set : mz_Mk M_X11_set 2 := ⟨mw_736, mw_78, ⟨by decide +kernel, by decide +kernel, by decide +kernel⟩, by decide +kernel⟩
theorem mk_X11_isOver : mz_Mk M_X11_isOver 0 := ⟨mw_632, mw_78, ⟨by decide +kernel, by decide +kernel, by decide +kernel⟩, by decide +kernel⟩
theorem mk_X11_piece : mz_Mk M_X11_piece 1 := ⟨mw_749, mw_78, ⟨by decide +kernel, by decide +kernel, by decide +kernel⟩, by decide +kernel⟩
theorem mk_X11_next : mz_Mk M_X11_next 1 := ⟨mw_809, mw_78, ⟨by decide +kernel, by decide +kernel, by decide +kernel⟩, by decide +kernel⟩
theorem mk_X11_cell : mz_Mk M_X11_cell 2 := ⟨mw_829, mw_78, ⟨by decide +kernel, by decide +kernel, by decide +kernel⟩, by decide +kernel⟩
theorem mk_X11_covers : mz_Mk M_X11_covers 2 := ⟨mw_841, mw_78, ⟨by decide +kernel, by decide +kernel, by decide +kernel⟩, by decide +kernel⟩
theorem mk_X11_shift : mz_Mk M_X11_shift 1 := ⟨mw_856, mw_78, ⟨by decide +kernel, by decide +kernel, by decide +kernel⟩, by decide +kernel⟩
theorem mk_X11_slide : mz_Mk M_X11_slide 1 := ⟨mw_884, mw_78, ⟨by decide +kernel, by decide +kernel, by decide +kernel⟩, by decide +kernel⟩
theorem mk_X11_rotate : mz_Mk M_X11_rotate 1 := ⟨mw_896, mw_78, ⟨by decide +kernel, by decide +kernel, by decide +kernel⟩, by decide +kernel⟩
theorem mk_X11_fall : mz_Mk M_X11_fall 0 := ⟨mw_908, mw_78, ⟨by decide +kernel, by decide +kernel, by decide +kernel⟩, by decide +kernel⟩
theorem mk_X11_drop : mz_Mk M_X11_drop 0 := ⟨mw_923, mw_78, ⟨by decide +kernel, by decide +kernel, by decide +kernel⟩, by decide +kernel⟩
theorem mk_X11_hold : mz_Mk M_X11_hold 0 := ⟨mw_1002, mw_78, ⟨by decide +kernel, by decide +kernel, by decide +kernel⟩, by decide +kernel⟩
theorem mk_X11_held : mz_Mk M_X11_held 0 := ⟨mw_1030, mw_78, ⟨by decide +kernel, by decide +kernel, by decide +kernel⟩, by decide +kernel⟩
theorem mk_X11_tick : mz_Mk M_X11_tick 1 := ⟨mw_1053, mw_78, ⟨by decide +kernel, by decide +kernel, by decide +kernel⟩, by decide +kernel⟩
theorem mk_X11_garbage : mz_Mk M_X11_garbage 2 := ⟨mw_1065, mw_78, ⟨by decide +kernel, by decide +kernel, by decide +kernel⟩, by decide +kernel⟩
theorem mk_X11_figure : mz_Mk M_X11_figure 1 := ⟨mw_1092, mw_78, ⟨by decide +kernel, by decide +kernel, by decide +kernel⟩, by decide +kernel⟩
theorem mk_X11_height : mz_Mk M_X11_height 1 := ⟨mw_1128, mw_78, ⟨by decide +kernel, by decide +kernel, by decide +kernel⟩, by decide +kernel⟩
theorem mk_X11_statistic : mz_Mk M_X11_statistic 1 := ⟨mw_1137, mw_78, ⟨by decide +kernel, by decide +kernel, by decide +kernel⟩, by decide +kernel⟩
theorem mk_X11_clears : mz_Mk M_X11_clears 2 := ⟨mw_1145, mw_78, ⟨by decide +kernel, by decide +kernel, by decide +kernel⟩, by decide +kernel⟩
theorem mk_X11_latest : mz_Mk M_X11_latest 1 := ⟨mw_1153, mw_78, ⟨by decide +kernel, by decide +kernel, by decide +kernel⟩, by decide +kernel⟩
theorem mk_X11_meanFaults : mz_Mk M_X11_meanFaults 0 := ⟨mw_1175, mw_78, ⟨by decide +kernel, by decide +kernel, by decide +kernel⟩, by decide +kernel⟩
theorem mk_X11_leastInputs : mz_Mk M_X11_leastInputs 3 := ⟨mw_1185, mw_78, ⟨by decide +kernel, by decide +kernel, by decide +kernel⟩, by decide +kernel⟩
theorem mk_X11_placements : mz_Mk M_X11_placements 0 := ⟨mw_1194, mw_78, ⟨by decide +kernel, by decide +kernel, by decide +kernel⟩, by decide +kernel⟩
theorem mk_X11_placement : mz_Mk M_X11_placement 2 := ⟨mw_1243, mw_78, ⟨by decide +kernel, by decide +kernel, by decide +kernel⟩, by decide +kernel⟩
theorem mk_X11_placeBest : mz_Mk M_X11_placeBest 0 := ⟨mw_1255, mw_78, ⟨by decide +kernel, by decide +kernel, by decide +kernel⟩, by decide +kernel⟩
theorem mk_X11_append : mz_Mk M_X11_append 1 := ⟨mw_1270, mw_78, ⟨by decide +kernel, by decide +kernel, by decide +kernel⟩, by decide +kernel⟩
theorem mk_X11_play : mz_Mk M_X11_play 0 := ⟨mw_1282, mw_78, ⟨by decide +kernel, by decide +kernel, by decide +kernel⟩, by decide +kernel⟩
theorem mk_X11_faultPosition : mz_Mk M_X11_faultPosition 0 := ⟨mw_636, mw_78, ⟨by decide +kernel, by decide +kernel, by decide +kernel⟩, by decide +kernel⟩
theorem mk_X11_undo : mz_Mk M_X11_undo 0 := ⟨mw_1312, mw_78, ⟨by decide +kernel, by decide +kernel, by decide +kernel⟩, by decide +kernel⟩
theorem mk_X11_save : mz_Mk M_X11_save 0 := ⟨mw_640, mw_78, ⟨by decide +kernel, by decide +kernel, by decide +kernel⟩, by decide +kernel⟩
theorem mk_X11_restore : mz_Mk M_X11_restore 0 := ⟨mw_1324, mw_78, ⟨by decide +kernel, by decide +kernel, by decide +kernel⟩, by decide +kernel⟩
theorem mk_X11_needPresentPiece : mz_Mk M_X11_needPresentPiece 0 := ⟨mw_753, mw_78, ⟨by decide +kernel, by decide +kernel, by decide +kernel⟩, by decide +kernel⟩
theorem mk_X11_needRange : mz_Mk M_X11_needRange 3 := ⟨mw_740, mw_78, ⟨by decide +kernel, by decide +kernel, by decide +kernel⟩, by decide +kernel⟩
theorem mk_X11_needDirection : mz_Mk M_X11_needDirection 1 := ⟨mw_860, mw_78, ⟨by decide +kernel, by decide +kernel, by decide +kernel⟩, by decide +kernel⟩
theorem mk_X11_needCell : mz_Mk M_X11_needCell 2 := ⟨mw_833, mw_78, ⟨by decide +kernel, by decide +kernel, by decide +kernel⟩, by decide +kernel⟩
theorem mk_X11_carryOut : mz_Mk M_X11_carryOut 1 := ⟨mw_1305, mw_78, ⟨by decide +kernel, by decide +kernel, by decide +kernel⟩, by decide +kernel⟩
theorem mk_X12_init : mz_Mk M_X12_init 0 := ⟨mw_1335, mw_94, ⟨by decide +kernel, by decide +kernel, by decide +kernel⟩, by decide +kernel⟩
theorem mk_X12_thrown : mz_Mk M_X12_thrown 0 := ⟨mw_1468, mw_94, ⟨by decide +kernel, by decide +kernel, by decide +kernel⟩, by decide +kernel⟩
theorem mk_X12_in : mz_Mk M_X12_in 3 := ⟨mw_1377, mw_94, ⟨by decide +kernel, by decide +kernel, by decide +kernel⟩, by decide +kernel⟩
theorem mk_X12_fails : mz_Mk M_X12_fails 1 := ⟨mw_1476, mw_94, ⟨by decide +kernel, by decide +kernel, by decide +kernel⟩, by decide +kernel⟩
theorem mk_X12_done : mz_Mk M_X12_done 1 := ⟨mw_1480, mw_94, ⟨by decide +kernel, by decide +kernel, by decide +kernel⟩, by decide +kernel⟩
theorem mk_X12_at : mz_Mk M_X12_at 2 := ⟨mw_1380, mw_94, ⟨by decide +kernel, by decide +kernel, by decide +kernel⟩, by decide +kernel⟩
theorem mk_X12_isCell : mz_Mk M_X12_isCell 2 := ⟨mw_1374, mw_94, ⟨by decide +kernel, by decide +kernel, by decide +kernel⟩, by decide +kernel⟩
theorem mk_X12_isEmpty : mz_Mk M_X12_isEmpty 2 := ⟨mw_1371, mw_94, ⟨by decide +kernel, by decide +kernel, by decide +kernel⟩, by decide +kernel⟩
theorem mk_X12_boxed : mz_Mk M_X12_boxed 4 := ⟨mw_1367, mw_94, ⟨by decide +kernel, by decide +kernel, by decide +kernel⟩, by decide +kernel⟩
theorem mk_X12_fits : mz_Mk M_X12_fits 4 := ⟨mw_1363, mw_94, ⟨by decide +kernel, by decide +kernel, by decide +kernel⟩, by decide +kernel⟩
theorem mk_X12_fitsAt : mz_Mk M_X12_fitsAt 2 := ⟨mw_1359, mw_94, ⟨by decide +kernel, by decide +kernel, by decide +kernel⟩, by decide +kernel⟩
theorem mk_X12_canFall : mz_Mk M_X12_canFall 0 := ⟨mw_1524, mw_94, ⟨by decide +kernel, by decide +kernel, by decide +kernel⟩, by decide +kernel⟩
theorem mk_X12_kickMany : mz_Mk M_X12_kickMany 1 := ⟨mw_1548, mw_94, ⟨by decide +kernel, by decide +kernel, by decide +kernel⟩, by decide +kernel⟩
theorem mk_X12_kick : mz_Mk M_X12_kick 4 := ⟨mw_1552, mw_94, ⟨by decide +kernel, by decide +kernel, by decide +kernel⟩, by decide +kernel⟩
theorem mk_X12_draws : mz_Mk M_X12_draws 0 := ⟨mw_1344, mw_94, ⟨by decide +kernel, by decide +kernel, by decide +kernel⟩, by decide +kernel⟩
theorem mk_X12_records : mz_Mk M_X12_records 0 := ⟨mw_1384, mw_94, ⟨by decide +kernel, by decide +kernel, by decide +kernel⟩, by decide +kernel⟩
theorem mk_X12_firstColumn : mz_Mk M_X12_firstColumn 1 := ⟨mw_1355, mw_94, ⟨by decide +kernel, by decide +kernel, by decide +kernel⟩, by decide +kernel⟩
theorem mk_X12_appears : mz_Mk M_X12_appears 1 := ⟨mw_1352, mw_94, ⟨by decide +kernel, by decide +kernel, by decide +kernel⟩, by decide +kernel⟩
theorem mk_X12_begins : mz_Mk M_X12_begins 1 := ⟨mw_1340, mw_94, ⟨by decide +kernel, by decide +kernel, by decide +kernel⟩, by decide +kernel⟩
theorem mk_X12_start : mz_Mk M_X12_start 1 := ⟨mw_1472, mw_94, ⟨by decide +kernel, by decide +kernel, by decide +kernel⟩, by decide +kernel⟩
theorem mk_X12_set : mz_Mk M_X12_set 2 := ⟨mw_1484, mw_94, ⟨by decide +kernel, by decide +kernel, by decide +kernel⟩, by decide +kernel⟩
theorem mk_X12_isOver : mz_Mk M_X12_isOver 0 := ⟨mw_1488, mw_94, ⟨by decide +kernel, by decide +kernel, by decide +kernel⟩, by decide +kernel⟩
theorem mk_X12_room : mz_Mk M_X12_room 0 := ⟨mw_1496, mw_94, ⟨by decide +kernel, by decide +kernel, by decide +kernel⟩, by decide +kernel⟩
theorem mk_X12_piece : mz_Mk M_X12_piece 1 := ⟨mw_1492, mw_94, ⟨by decide +kernel, by decide +kernel, by decide +kernel⟩, by decide +kernel⟩
theorem mk_X12_next : mz_Mk M_X12_next 1 := ⟨mw_1500, mw_94, ⟨by decide +kernel, by decide +kernel, by decide +kernel⟩, by decide +kernel⟩
theorem mk_X12_cell : mz_Mk M_X12_cell 2 := ⟨mw_1504, mw_94, ⟨by decide +kernel, by decide +kernel, by decide +kernel⟩, by decide +kernel⟩
theorem mk_X12_covers : mz_Mk M_X12_covers 2 := ⟨mw_1508, mw_94, ⟨by decide +kernel, by decide +kernel, by decide +kernel⟩, by decide +kernel⟩
theorem mk_X12_settles : mz_Mk M_X12_settles 1 := ⟨mw_1528, mw_94, ⟨by decide +kernel, by decide +kernel, by decide +kernel⟩, by decide +kernel⟩
theorem mk_X12_shifts : mz_Mk M_X12_shifts 1 := ⟨mw_1520, mw_94, ⟨by decide +kernel, by decide +kernel, by decide +kernel⟩, by decide +kernel⟩
theorem mk_X12_slides : mz_Mk M_X12_slides 1 := ⟨mw_1536, mw_94, ⟨by decide +kernel, by decide +kernel, by decide +kernel⟩, by decide +kernel⟩
theorem mk_X12_rotates : mz_Mk M_X12_rotates 1 := ⟨mw_1544, mw_94, ⟨by decide +kernel, by decide +kernel, by decide +kernel⟩, by decide +kernel⟩
theorem mk_X12_lacks : mz_Mk M_X12_lacks 1 := ⟨mw_1516, mw_94, ⟨by decide +kernel, by decide +kernel, by decide +kernel⟩, by decide +kernel⟩
theorem mk_X12_shift : mz_Mk M_X12_shift 1 := ⟨mw_1512, mw_94, ⟨by decide +kernel, by decide +kernel, by decide +kernel⟩, by decide +kernel⟩
theorem mk_X12_slide : mz_Mk M_X12_slide 1 := ⟨mw_1532, mw_94, ⟨by decide +kernel, by decide +kernel, by decide +kernel⟩, by decide +kernel⟩
theorem mk_X12_rotate : mz_Mk M_X12_rotate 1 := ⟨mw_1540, mw_94, ⟨by decide +kernel, by decide +kernel, by decide +kernel⟩, by decide +kernel⟩
theorem mk_X12_falls : mz_Mk M_X12_falls 0 := ⟨mw_1564, mw_94, ⟨by decide +kernel, by decide +kernel, by decide +kernel⟩, by decide +kernel⟩
theorem mk_X12_fallsByHand : mz_Mk M_X12_fallsByHand 0 := ⟨mw_1560, mw_94, ⟨by decide +kernel, by decide +kernel, by decide +kernel⟩, by decide +kernel⟩
theorem mk_X12_fall : mz_Mk M_X12_fall 0 := ⟨mw_1556, mw_94, ⟨by decide +kernel, by decide +kernel, by decide +kernel⟩, by decide +kernel⟩
theorem mk_X12_isFilled : mz_Mk M_X12_isFilled 2 := ⟨mw_1612, mw_94, ⟨by decide +kernel, by decide +kernel, by decide +kernel⟩, by decide +kernel⟩
theorem mk_X12_spin : mz_Mk M_X12_spin 0 := ⟨mw_1608, mw_94, ⟨by decide +kernel, by decide +kernel, by decide +kernel⟩, by decide +kernel⟩
theorem mk_X12_isFull : mz_Mk M_X12_isFull 1 := ⟨mw_1624, mw_94, ⟨by decide +kernel, by decide +kernel, by decide +kernel⟩, by decide +kernel⟩
theorem mk_X12_clearsRows : mz_Mk M_X12_clearsRows 0 := ⟨mw_1620, mw_94, ⟨by decide +kernel, by decide +kernel, by decide +kernel⟩, by decide +kernel⟩
theorem mk_X12_filled : mz_Mk M_X12_filled 0 := ⟨mw_1632, mw_94, ⟨by decide +kernel, by decide +kernel, by decide +kernel⟩, by decide +kernel⟩
theorem mk_X12_fills : mz_Mk M_X12_fills 0 := ⟨mw_1616, mw_94, ⟨by decide +kernel, by decide +kernel, by decide +kernel⟩, by decide +kernel⟩
theorem mk_X12_scores : mz_Mk M_X12_scores 3 := ⟨mw_1628, mw_94, ⟨by decide +kernel, by decide +kernel, by decide +kernel⟩, by decide +kernel⟩
theorem mk_X12_locks : mz_Mk M_X12_locks 0 := ⟨mw_1576, mw_94, ⟨by decide +kernel, by decide +kernel, by decide +kernel⟩, by decide +kernel⟩
theorem mk_X12_drops : mz_Mk M_X12_drops 0 := ⟨mw_1572, mw_94, ⟨by decide +kernel, by decide +kernel, by decide +kernel⟩, by decide +kernel⟩
theorem mk_X12_drop : mz_Mk M_X12_drop 0 := ⟨mw_1568, mw_94, ⟨by decide +kernel, by decide +kernel, by decide +kernel⟩, by decide +kernel⟩
theorem mk_X12_holds : mz_Mk M_X12_holds 0 := ⟨mw_1640, mw_94, ⟨by decide +kernel, by decide +kernel, by decide +kernel⟩, by decide +kernel⟩
theorem mk_X12_hold : mz_Mk M_X12_hold 0 := ⟨mw_1636, mw_94, ⟨by decide +kernel, by decide +kernel, by decide +kernel⟩, by decide +kernel⟩
theorem mk_X12_held : mz_Mk M_X12_held 0 := ⟨mw_1644, mw_94, ⟨by decide +kernel, by decide +kernel, by decide +kernel⟩, by decide +kernel⟩
theorem mk_X12_ticksOnce : mz_Mk M_X12_ticksOnce 0 := ⟨mw_1652, mw_94, ⟨by decide +kernel, by decide +kernel, by decide +kernel⟩, by decide +kernel⟩
theorem mk_X12_tick : mz_Mk M_X12_tick 1 := ⟨mw_1648, mw_94, ⟨by decide +kernel, by decide +kernel, by decide +kernel⟩, by decide +kernel⟩
theorem mk_X12_garbage : mz_Mk M_X12_garbage 2 := ⟨mw_1656, mw_94, ⟨by decide +kernel, by decide +kernel, by decide +kernel⟩, by decide +kernel⟩
theorem mk_X12_heightOf : mz_Mk M_X12_heightOf 1 := ⟨mw_1668, mw_94, ⟨by decide +kernel, by decide +kernel, by decide +kernel⟩, by decide +kernel⟩
theorem mk_X12_holes : mz_Mk M_X12_holes 0 := ⟨mw_1664, mw_94, ⟨by decide +kernel, by decide +kernel, by decide +kernel⟩, by decide +kernel⟩
theorem mk_X12_totalHeight : mz_Mk M_X12_totalHeight 0 := ⟨mw_1672, mw_94, ⟨by decide +kernel, by decide +kernel, by decide +kernel⟩, by decide +kernel⟩
theorem mk_X12_roughness : mz_Mk M_X12_roughness 0 := ⟨mw_1676, mw_94, ⟨by decide +kernel, by decide +kernel, by decide +kernel⟩, by decide +kernel⟩
theorem mk_X12_transitions : mz_Mk M_X12_transitions 0 := ⟨mw_1680, mw_94, ⟨by decide +kernel, by decide +kernel, by decide +kernel⟩, by decide +kernel⟩
theorem mk_X12_well : mz_Mk M_X12_well 0 := ⟨mw_1684, mw_94, ⟨by decide +kernel, by decide +kernel, by decide +kernel⟩, by decide +kernel⟩
theorem mk_X12_figure : mz_Mk M_X12_figure 1 := ⟨mw_1660, mw_94, ⟨by decide +kernel, by decide +kernel, by decide +kernel⟩, by decide +kernel⟩
theorem mk_X12_height : mz_Mk M_X12_height 1 := ⟨mw_1688, mw_94, ⟨by decide +kernel, by decide +kernel, by decide +kernel⟩, by decide +kernel⟩
theorem mk_X12_statistic : mz_Mk M_X12_statistic 1 := ⟨mw_1692, mw_94, ⟨by decide +kernel, by decide +kernel, by decide +kernel⟩, by decide +kernel⟩
theorem mk_X12_clears : mz_Mk M_X12_clears 2 := ⟨mw_1696, mw_94, ⟨by decide +kernel, by decide +kernel, by decide +kernel⟩, by decide +kernel⟩
theorem mk_X12_latest : mz_Mk M_X12_latest 1 := ⟨mw_1700, mw_94, ⟨by decide +kernel, by decide +kernel, by decide +kernel⟩, by decide +kernel⟩
theorem mk_X12_meanFaults : mz_Mk M_X12_meanFaults 0 := ⟨mw_1704, mw_94, ⟨by decide +kernel, by decide +kernel, by decide +kernel⟩, by decide +kernel⟩
theorem mk_X12_isWithin : mz_Mk M_X12_isWithin 3 := ⟨mw_1592, mw_94, ⟨by decide +kernel, by decide +kernel, by decide +kernel⟩, by decide +kernel⟩
theorem mk_X12_improves : mz_Mk M_X12_improves 3 := ⟨mw_1596, mw_94, ⟨by decide +kernel, by decide +kernel, by decide +kernel⟩, by decide +kernel⟩
theorem mk_X12_spreads : mz_Mk M_X12_spreads 3 := ⟨mw_1588, mw_94, ⟨by decide +kernel, by decide +kernel, by decide +kernel⟩, by decide +kernel⟩
theorem mk_X12_tellSteps : mz_Mk M_X12_tellSteps 1 := ⟨mw_1584, mw_94, ⟨by decide +kernel, by decide +kernel, by decide +kernel⟩, by decide +kernel⟩
theorem mk_X12_areLike : mz_Mk M_X12_areLike 5 := ⟨mw_1600, mw_94, ⟨by decide +kernel, by decide +kernel, by decide +kernel⟩, by decide +kernel⟩
theorem mk_X12_lowest : mz_Mk M_X12_lowest 2 := ⟨mw_1604, mw_94, ⟨by decide +kernel, by decide +kernel, by decide +kernel⟩, by decide +kernel⟩
theorem mk_X12_leastOf : mz_Mk M_X12_leastOf 3 := ⟨mw_1580, mw_94, ⟨by decide +kernel, by decide +kernel, by decide +kernel⟩, by decide +kernel⟩
theorem mk_X12_leastInputs : mz_Mk M_X12_leastInputs 3 := ⟨mw_1708, mw_94, ⟨by decide +kernel, by decide +kernel, by decide +kernel⟩, by decide +kernel⟩
theorem mk_X12_reaches : mz_Mk M_X12_reaches 3 := ⟨mw_1720, mw_94, ⟨by decide +kernel, by decide +kernel, by decide +kernel⟩, by decide +kernel⟩
theorem mk_X12_turns : mz_Mk M_X12_turns 4 := ⟨mw_1724, mw_94, ⟨by decide +kernel, by decide +kernel, by decide +kernel⟩, by decide +kernel⟩
theorem mk_X12_sorts : mz_Mk M_X12_sorts 3 := ⟨mw_1732, mw_94, ⟨by decide +kernel, by decide +kernel, by decide +kernel⟩, by decide +kernel⟩
theorem mk_X12_isPlaced : mz_Mk M_X12_isPlaced 0 := ⟨mw_1736, mw_94, ⟨by decide +kernel, by decide +kernel, by decide +kernel⟩, by decide +kernel⟩
theorem mk_X12_comes : mz_Mk M_X12_comes 3 := ⟨mw_1728, mw_94, ⟨by decide +kernel, by decide +kernel, by decide +kernel⟩, by decide +kernel⟩
theorem mk_X12_tellPlacements : mz_Mk M_X12_tellPlacements 0 := ⟨mw_1716, mw_94, ⟨by decide +kernel, by decide +kernel, by decide +kernel⟩, by decide +kernel⟩
theorem mk_X12_isBetter : mz_Mk M_X12_isBetter 2 := ⟨mw_1748, mw_94, ⟨by decide +kernel, by decide +kernel, by decide +kernel⟩, by decide +kernel⟩
theorem mk_X12_ranked : mz_Mk M_X12_ranked 1 := ⟨mw_1744, mw_94, ⟨by decide +kernel, by decide +kernel, by decide +kernel⟩, by decide +kernel⟩
theorem mk_X12_placements : mz_Mk M_X12_placements 0 := ⟨mw_1712, mw_94, ⟨by decide +kernel, by decide +kernel, by decide +kernel⟩, by decide +kernel⟩
theorem mk_X12_placement : mz_Mk M_X12_placement 2 := ⟨mw_1740, mw_94, ⟨by decide +kernel, by decide +kernel, by decide +kernel⟩, by decide +kernel⟩
theorem mk_X12_placeBest : mz_Mk M_X12_placeBest 0 := ⟨mw_1752, mw_94, ⟨by decide +kernel, by decide +kernel, by decide +kernel⟩, by decide +kernel⟩
theorem mk_X12_append : mz_Mk M_X12_append 1 := ⟨mw_1756, mw_94, ⟨by decide +kernel, by decide +kernel, by decide +kernel⟩, by decide +kernel⟩
theorem mk_X12_isLetter : mz_Mk M_X12_isLetter 1 := ⟨mw_1767, mw_94, ⟨by decide +kernel, by decide +kernel, by decide +kernel⟩, by decide +kernel⟩
theorem mk_X12_errsAt : mz_Mk M_X12_errsAt 0 := ⟨mw_1764, mw_94, ⟨by decide +kernel, by decide +kernel, by decide +kernel⟩, by decide +kernel⟩
theorem mk_X12_does : mz_Mk M_X12_does 1 := ⟨mw_1771, mw_94, ⟨by decide +kernel, by decide +kernel, by decide +kernel⟩, by decide +kernel⟩
theorem mk_X12_play : mz_Mk M_X12_play 0 := ⟨mw_1760, mw_94, ⟨by decide +kernel, by decide +kernel, by decide +kernel⟩, by decide +kernel⟩
theorem mk_X12_faultPosition : mz_Mk M_X12_faultPosition 0 := ⟨mw_1775, mw_94, ⟨by decide +kernel, by decide +kernel, by decide +kernel⟩, by decide +kernel⟩
theorem mk_X12_undo : mz_Mk M_X12_undo 0 := ⟨mw_1779, mw_94, ⟨by decide +kernel, by decide +kernel, by decide +kernel⟩, by decide +kernel⟩
theorem mk_X12_save : mz_Mk M_X12_save 0 := ⟨mw_1783, mw_94, ⟨by decide +kernel, by decide +kernel, by decide +kernel⟩, by decide +kernel⟩
theorem mk_X12_restore : mz_Mk M_X12_restore 0 := ⟨mw_1787, mw_94, ⟨by decide +kernel, by decide +kernel, by decide +kernel⟩, by decide +kernel⟩
theorem mk_L_start : mz_MkW M_L_start 3 := ⟨mw_652, mw_77, ⟨by decide +kernel, by decide +kernel, by decide +kernel⟩, by decide +kernel⟩
theorem mk_L_set : mz_MkW M_L_set 4 := ⟨mw_732, mw_77, ⟨by decide +kernel, by decide +kernel, by decide +kernel⟩, by decide +kernel⟩
theorem mk_L_piece : mz_MkW M_L_piece 3 := ⟨mw_744, mw_77, ⟨by decide +kernel, by decide +kernel, by decide +kernel⟩, by decide +kernel⟩
theorem mk_L_next : mz_MkW M_L_next 3 := ⟨mw_781, mw_77, ⟨by decide +kernel, by decide +kernel, by decide +kernel⟩, by decide +kernel⟩
theorem mk_L_cell : mz_MkW M_L_cell 4 := ⟨mw_825, mw_77, ⟨by decide +kernel, by decide +kernel, by decide +kernel⟩, by decide +kernel⟩
theorem mk_L_covers : mz_MkW M_L_covers 4 := ⟨mw_837, mw_77, ⟨by decide +kernel, by decide +kernel, by decide +kernel⟩, by decide +kernel⟩
theorem mk_L_shift : mz_MkW M_L_shift 3 := ⟨mw_852, mw_77, ⟨by decide +kernel, by decide +kernel, by decide +kernel⟩, by decide +kernel⟩
theorem mk_L_slide : mz_MkW M_L_slide 3 := ⟨mw_880, mw_77, ⟨by decide +kernel, by decide +kernel, by decide +kernel⟩, by decide +kernel⟩
theorem mk_L_rotate : mz_MkW M_L_rotate 3 := ⟨mw_892, mw_77, ⟨by decide +kernel, by decide +kernel, by decide +kernel⟩, by decide +kernel⟩
theorem mk_L_fall : mz_MkW M_L_fall 2 := ⟨mw_904, mw_77, ⟨by decide +kernel, by decide +kernel, by decide +kernel⟩, by decide +kernel⟩
theorem mk_L_drop : mz_MkW M_L_drop 2 := ⟨mw_919, mw_77, ⟨by decide +kernel, by decide +kernel, by decide +kernel⟩, by decide +kernel⟩
theorem mk_L_hold : mz_MkW M_L_hold 2 := ⟨mw_997, mw_77, ⟨by decide +kernel, by decide +kernel, by decide +kernel⟩, by decide +kernel⟩
theorem mk_L_held : mz_MkW M_L_held 2 := ⟨mw_1025, mw_77, ⟨by decide +kernel, by decide +kernel, by decide +kernel⟩, by decide +kernel⟩
theorem mk_L_tick : mz_MkW M_L_tick 3 := ⟨mw_1049, mw_77, ⟨by decide +kernel, by decide +kernel, by decide +kernel⟩, by decide +kernel⟩
theorem mk_L_garbage : mz_MkW M_L_garbage 4 := ⟨mw_1061, mw_77, ⟨by decide +kernel, by decide +kernel, by decide +kernel⟩, by decide +kernel⟩
theorem mk_L_figure : mz_MkW M_L_figure 3 := ⟨mw_1088, mw_77, ⟨by decide +kernel, by decide +kernel, by decide +kernel⟩, by decide +kernel⟩
theorem mk_L_height : mz_MkW M_L_height 3 := ⟨mw_1124, mw_77, ⟨by decide +kernel, by decide +kernel, by decide +kernel⟩, by decide +kernel⟩
theorem mk_L_statistic : mz_MkW M_L_statistic 3 := ⟨mw_1133, mw_77, ⟨by decide +kernel, by decide +kernel, by decide +kernel⟩, by decide +kernel⟩
theorem mk_L_clears : mz_MkW M_L_clears 4 := ⟨mw_1141, mw_77, ⟨by decide +kernel, by decide +kernel, by decide +kernel⟩, by decide +kernel⟩
theorem mk_L_latest : mz_MkW M_L_latest 3 := ⟨mw_1149, mw_77, ⟨by decide +kernel, by decide +kernel, by decide +kernel⟩, by decide +kernel⟩
theorem mk_L_meanFaults : mz_MkW M_L_meanFaults 2 := ⟨mw_1157, mw_77, ⟨by decide +kernel, by decide +kernel, by decide +kernel⟩, by decide +kernel⟩
theorem mk_L_leastInputs : mz_MkW M_L_leastInputs 5 := ⟨mw_1181, mw_77, ⟨by decide +kernel, by decide +kernel, by decide +kernel⟩, by decide +kernel⟩
theorem mk_L_placements : mz_MkW M_L_placements 2 := ⟨mw_1190, mw_77, ⟨by decide +kernel, by decide +kernel, by decide +kernel⟩, by decide +kernel⟩
theorem mk_L_placement : mz_MkW M_L_placement 4 := ⟨mw_1239, mw_77, ⟨by decide +kernel, by decide +kernel, by decide +kernel⟩, by decide +kernel⟩
theorem mk_L_placeBest : mz_MkW M_L_placeBest 2 := ⟨mw_1251, mw_77, ⟨by decide +kernel, by decide +kernel, by decide +kernel⟩, by decide +kernel⟩
theorem mk_L_append : mz_MkW M_L_append 2 := ⟨mw_1266, mw_77, ⟨by decide +kernel, by decide +kernel, by decide +kernel⟩, by decide +kernel⟩
theorem mk_L_play : mz_MkW M_L_play 2 := ⟨mw_1278, mw_77, ⟨by decide +kernel, by decide +kernel, by decide +kernel⟩, by decide +kernel⟩
theorem mk_L_undo : mz_MkW M_L_undo 2 := ⟨mw_1308, mw_77, ⟨by decide +kernel, by decide +kernel, by decide +kernel⟩, by decide +kernel⟩
theorem mk_L_restore : mz_MkW M_L_restore 1 := ⟨mw_1320, mw_77, ⟨by decide +kernel, by decide +kernel, by decide +kernel⟩, by decide +kernel⟩
theorem uw_0 : ∀ w ∈ u_ws RX0 TX0 3, w ∈ mz_GW := show ∀ w ∈ [Cond.laysFinal "FallingBlocks$Bags" "FallingBlocks$Bags" "preview" "[I", Cond.lays "FallingBlocks$Bags" "FallingBlocks$Bags" "number" "J", Cond.lays "FallingBlocks$Bags" "FallingBlocks$Bags" "bag" "I"], w ∈ mz_GW from (List.forall_mem_cons.mpr ⟨mw_230, (List.forall_mem_cons.mpr ⟨mw_232, (List.forall_mem_cons.mpr ⟨mw_234, (fun _ h => absurd h List.not_mem_nil)⟩)⟩)⟩)
theorem kl_0 : mz_Cl 0 RX0 TX0 3 tyX0 := ⟨rfl, uw_0, tyX0_ok, nmX0, rfl, fun k t h => by
  have hk : k < 3 := (List.getElem?_eq_some_iff.mp h).1
  revert h; revert t; revert hk; revert k; decide +kernel⟩
theorem uw_1 : ∀ w ∈ u_ws RX1 TX1 5, w ∈ mz_GW := show ∀ w ∈ [Cond.laysFinal "FallingBlocks$Engine" "FallingBlocks$Engine" "game" "LFallingBlocks$Game;", Cond.laysFinal "FallingBlocks$Engine" "FallingBlocks$Engine" "memory" "LFallingBlocks$Memory;", Cond.laysFinal "FallingBlocks$Engine" "FallingBlocks$Engine" "finesse" "LFallingBlocks$Finesse;", Cond.laysFinal "FallingBlocks$Engine" "FallingBlocks$Engine" "search" "LFallingBlocks$Search;", Cond.laysFinal "FallingBlocks$Engine" "FallingBlocks$Engine" "raised" "LFallingBlocks$Field;"], w ∈ mz_GW from (List.forall_mem_cons.mpr ⟨mw_499, (List.forall_mem_cons.mpr ⟨mw_501, (List.forall_mem_cons.mpr ⟨mw_503, (List.forall_mem_cons.mpr ⟨mw_505, (List.forall_mem_cons.mpr ⟨mw_507, (fun _ h => absurd h List.not_mem_nil)⟩)⟩)⟩)⟩)⟩)
theorem kl_1 : mz_Cl 1 RX1 TX1 5 tyX1 := ⟨rfl, uw_1, tyX1_ok, nmX1, rfl, fun k t h => by
  have hk : k < 5 := (List.getElem?_eq_some_iff.mp h).1
  revert h; revert t; revert hk; revert k; decide +kernel⟩
theorem uw_2 : ∀ w ∈ u_ws RX2 TX2 1, w ∈ mz_GW := show ∀ w ∈ [Cond.laysFinal "FallingBlocks$Field" "FallingBlocks$Field" "kinds" "[I"], w ∈ mz_GW from (List.forall_mem_cons.mpr ⟨mw_141, (fun _ h => absurd h List.not_mem_nil)⟩)
theorem kl_2 : mz_Cl 2 RX2 TX2 1 tyX2 := ⟨rfl, uw_2, tyX2_ok, nmX2, rfl, fun k t h => by
  have hk : k < 1 := (List.getElem?_eq_some_iff.mp h).1
  revert h; revert t; revert hk; revert k; decide +kernel⟩
theorem uw_3 : ∀ w ∈ u_ws RX3 TX3 5, w ∈ mz_GW := show ∀ w ∈ [Cond.laysFinal "FallingBlocks$Finesse" "FallingBlocks$Finesse" "least" "[I", Cond.laysFinal "FallingBlocks$Finesse" "FallingBlocks$Finesse" "queue" "[I", Cond.laysFinal "FallingBlocks$Finesse" "FallingBlocks$Finesse" "open" "LFallingBlocks$Field;", Cond.laysFinal "FallingBlocks$Finesse" "FallingBlocks$Finesse" "at" "LFallingBlocks$Position;", Cond.lays "FallingBlocks$Finesse" "FallingBlocks$Finesse" "reached" "I"], w ∈ mz_GW from (List.forall_mem_cons.mpr ⟨mw_431, (List.forall_mem_cons.mpr ⟨mw_433, (List.forall_mem_cons.mpr ⟨mw_435, (List.forall_mem_cons.mpr ⟨mw_437, (List.forall_mem_cons.mpr ⟨mw_439, (fun _ h => absurd h List.not_mem_nil)⟩)⟩)⟩)⟩)⟩)
theorem kl_3 : mz_Cl 3 RX3 TX3 5 tyX3 := ⟨rfl, uw_3, tyX3_ok, nmX3, rfl, fun k t h => by
  have hk : k < 5 := (List.getElem?_eq_some_iff.mp h).1
  revert h; revert t; revert hk; revert k; decide +kernel⟩
theorem uw_4 : ∀ w ∈ u_ws RX4 TX4 9, w ∈ mz_GW := show ∀ w ∈ [Cond.laysFinal "FallingBlocks$Game" "FallingBlocks$Game" "field" "LFallingBlocks$Field;", Cond.laysFinal "FallingBlocks$Game" "FallingBlocks$Game" "present" "LFallingBlocks$Piece;", Cond.laysFinal "FallingBlocks$Game" "FallingBlocks$Game" "bags" "LFallingBlocks$Bags;", Cond.laysFinal "FallingBlocks$Game" "FallingBlocks$Game" "score" "LFallingBlocks$Score;", Cond.lays "FallingBlocks$Game" "FallingBlocks$Game" "heldKind" "I", Cond.lays "FallingBlocks$Game" "FallingBlocks$Game" "holdUsed" "Z", Cond.lays "FallingBlocks$Game" "FallingBlocks$Game" "over" "Z", Cond.lays "FallingBlocks$Game" "FallingBlocks$Game" "lockDelay" "I", Cond.lays "FallingBlocks$Game" "FallingBlocks$Game" "resetLimit" "I"], w ∈ mz_GW from (List.forall_mem_cons.mpr ⟨mw_319, (List.forall_mem_cons.mpr ⟨mw_321, (List.forall_mem_cons.mpr ⟨mw_323, (List.forall_mem_cons.mpr ⟨mw_325, (List.forall_mem_cons.mpr ⟨mw_327, (List.forall_mem_cons.mpr ⟨mw_329, (List.forall_mem_cons.mpr ⟨mw_331, (List.forall_mem_cons.mpr ⟨mw_333, (List.forall_mem_cons.mpr ⟨mw_335, (fun _ h => absurd h List.not_mem_nil)⟩)⟩)⟩)⟩)⟩)⟩)⟩)⟩)⟩)
theorem kl_4 : mz_Cl 4 RX4 TX4 9 tyX4 := ⟨rfl, uw_4, tyX4_ok, nmX4, rfl, fun k t h => by
  have hk : k < 9 := (List.getElem?_eq_some_iff.mp h).1
  revert h; revert t; revert hk; revert k; decide +kernel⟩
theorem uw_5 : ∀ w ∈ u_ws RX5 TX5 4, w ∈ mz_GW := show ∀ w ∈ [Cond.laysFinal "FallingBlocks$InputText" "FallingBlocks$InputText" "signs" "[C", Cond.lays "FallingBlocks$InputText" "FallingBlocks$InputText" "size" "I", Cond.lays "FallingBlocks$InputText" "FallingBlocks$InputText" "fault" "I", Cond.lays "FallingBlocks$InputText" "FallingBlocks$InputText" "added" "I"], w ∈ mz_GW from (List.forall_mem_cons.mpr ⟨mw_523, (List.forall_mem_cons.mpr ⟨mw_525, (List.forall_mem_cons.mpr ⟨mw_527, (List.forall_mem_cons.mpr ⟨mw_529, (fun _ h => absurd h List.not_mem_nil)⟩)⟩)⟩)⟩)
theorem kl_5 : mz_Cl 5 RX5 TX5 4 tyX5 := ⟨rfl, uw_5, tyX5_ok, nmX5, rfl, fun k t h => by
  have hk : k < 4 := (List.getElem?_eq_some_iff.mp h).1
  revert h; revert t; revert hk; revert k; decide +kernel⟩
theorem uw_6 : ∀ w ∈ u_ws RX6 TX6 5, w ∈ mz_GW := show ∀ w ∈ [Cond.laysFinal "FallingBlocks$Memory" "FallingBlocks$Memory" "records" "[LFallingBlocks$Game;", Cond.lays "FallingBlocks$Memory" "FallingBlocks$Memory" "newest" "I", Cond.lays "FallingBlocks$Memory" "FallingBlocks$Memory" "kept" "I", Cond.laysFinal "FallingBlocks$Memory" "FallingBlocks$Memory" "snapshot" "LFallingBlocks$Game;", Cond.lays "FallingBlocks$Memory" "FallingBlocks$Memory" "hasSnapshot" "Z"], w ∈ mz_GW from (List.forall_mem_cons.mpr ⟨mw_352, (List.forall_mem_cons.mpr ⟨mw_354, (List.forall_mem_cons.mpr ⟨mw_356, (List.forall_mem_cons.mpr ⟨mw_358, (List.forall_mem_cons.mpr ⟨mw_360, (fun _ h => absurd h List.not_mem_nil)⟩)⟩)⟩)⟩)⟩)
theorem kl_6 : mz_Cl 6 RX6 TX6 5 tyX6 := ⟨rfl, uw_6, tyX6_ok, nmX6, rfl, fun k t h => by
  have hk : k < 5 := (List.getElem?_eq_some_iff.mp h).1
  revert h; revert t; revert hk; revert k; decide +kernel⟩
theorem uw_7 : ∀ w ∈ u_ws RX7 TX7 7, w ∈ mz_GW := show ∀ w ∈ [Cond.laysFinal "FallingBlocks$Piece" "FallingBlocks$Piece" "at" "LFallingBlocks$Position;", Cond.lays "FallingBlocks$Piece" "FallingBlocks$Piece" "fallCounter" "I", Cond.lays "FallingBlocks$Piece" "FallingBlocks$Piece" "restCounter" "I", Cond.lays "FallingBlocks$Piece" "FallingBlocks$Piece" "resetCounter" "I", Cond.lays "FallingBlocks$Piece" "FallingBlocks$Piece" "inputs" "I", Cond.lays "FallingBlocks$Piece" "FallingBlocks$Piece" "lowestRow" "I", Cond.lays "FallingBlocks$Piece" "FallingBlocks$Piece" "lastKick" "I"], w ∈ mz_GW from (List.forall_mem_cons.mpr ⟨mw_205, (List.forall_mem_cons.mpr ⟨mw_207, (List.forall_mem_cons.mpr ⟨mw_209, (List.forall_mem_cons.mpr ⟨mw_211, (List.forall_mem_cons.mpr ⟨mw_213, (List.forall_mem_cons.mpr ⟨mw_215, (List.forall_mem_cons.mpr ⟨mw_217, (fun _ h => absurd h List.not_mem_nil)⟩)⟩)⟩)⟩)⟩)⟩)⟩)
theorem kl_7 : mz_Cl 7 RX7 TX7 7 tyX7 := ⟨rfl, uw_7, tyX7_ok, nmX7, rfl, fun k t h => by
  have hk : k < 7 := (List.getElem?_eq_some_iff.mp h).1
  revert h; revert t; revert hk; revert k; decide +kernel⟩
theorem uw_8 : ∀ w ∈ u_ws RX8 TX8 4, w ∈ mz_GW := show ∀ w ∈ [Cond.lays "FallingBlocks$Position" "FallingBlocks$Position" "kind" "I", Cond.lays "FallingBlocks$Position" "FallingBlocks$Position" "state" "I", Cond.lays "FallingBlocks$Position" "FallingBlocks$Position" "column" "I", Cond.lays "FallingBlocks$Position" "FallingBlocks$Position" "row" "I"], w ∈ mz_GW from (List.forall_mem_cons.mpr ⟨mw_178, (List.forall_mem_cons.mpr ⟨mw_180, (List.forall_mem_cons.mpr ⟨mw_182, (List.forall_mem_cons.mpr ⟨mw_184, (fun _ h => absurd h List.not_mem_nil)⟩)⟩)⟩)⟩)
theorem kl_8 : mz_Cl 8 RX8 TX8 4 tyX8 := ⟨rfl, uw_8, tyX8_ok, nmX8, rfl, fun k t h => by
  have hk : k < 4 := (List.getElem?_eq_some_iff.mp h).1
  revert h; revert t; revert hk; revert k; decide +kernel⟩
theorem uw_9 : ∀ w ∈ u_ws RX9 TX9 11, w ∈ mz_GW := show ∀ w ∈ [Cond.lays "FallingBlocks$Score" "FallingBlocks$Score" "points" "I", Cond.lays "FallingBlocks$Score" "FallingBlocks$Score" "rows" "I", Cond.lays "FallingBlocks$Score" "FallingBlocks$Score" "pieces" "I", Cond.lays "FallingBlocks$Score" "FallingBlocks$Score" "combo" "I", Cond.lays "FallingBlocks$Score" "FallingBlocks$Score" "greatestCombo" "I", Cond.lays "FallingBlocks$Score" "FallingBlocks$Score" "faults" "I", Cond.lays "FallingBlocks$Score" "FallingBlocks$Score" "inputs" "I", Cond.lays "FallingBlocks$Score" "FallingBlocks$Score" "ticks" "I", Cond.lays "FallingBlocks$Score" "FallingBlocks$Score" "wasHard" "Z", Cond.laysFinal "FallingBlocks$Score" "FallingBlocks$Score" "lockCounts" "[I", Cond.laysFinal "FallingBlocks$Score" "FallingBlocks$Score" "latestLock" "[I"], w ∈ mz_GW from (List.forall_mem_cons.mpr ⟨mw_266, (List.forall_mem_cons.mpr ⟨mw_268, (List.forall_mem_cons.mpr ⟨mw_270, (List.forall_mem_cons.mpr ⟨mw_272, (List.forall_mem_cons.mpr ⟨mw_274, (List.forall_mem_cons.mpr ⟨mw_276, (List.forall_mem_cons.mpr ⟨mw_278, (List.forall_mem_cons.mpr ⟨mw_280, (List.forall_mem_cons.mpr ⟨mw_282, (List.forall_mem_cons.mpr ⟨mw_284, (List.forall_mem_cons.mpr ⟨mw_286, (fun _ h => absurd h List.not_mem_nil)⟩)⟩)⟩)⟩)⟩)⟩)⟩)⟩)⟩)⟩)⟩)
theorem kl_9 : mz_Cl 9 RX9 TX9 11 tyX9 := ⟨rfl, uw_9, tyX9_ok, nmX9, rfl, fun k t h => by
  have hk : k < 11 := (List.getElem?_eq_some_iff.mp h).1
  revert h; revert t; revert hk; revert k; decide +kernel⟩
theorem uw_10 : ∀ w ∈ u_ws RX10 TX10 11, w ∈ mz_GW := show ∀ w ∈ [Cond.lays "FallingBlocks$Search" "FallingBlocks$Search" "found" "I", Cond.lays "FallingBlocks$Search" "FallingBlocks$Search" "known" "Z", Cond.laysFinal "FallingBlocks$Search" "FallingBlocks$Search" "field" "LFallingBlocks$Field;", Cond.laysFinal "FallingBlocks$Search" "FallingBlocks$Search" "after" "LFallingBlocks$Field;", Cond.laysFinal "FallingBlocks$Search" "FallingBlocks$Search" "from" "LFallingBlocks$Position;", Cond.laysFinal "FallingBlocks$Search" "FallingBlocks$Search" "at" "LFallingBlocks$Position;", Cond.laysFinal "FallingBlocks$Search" "FallingBlocks$Search" "seen" "[I", Cond.laysFinal "FallingBlocks$Search" "FallingBlocks$Search" "queue" "[I", Cond.lays "FallingBlocks$Search" "FallingBlocks$Search" "reached" "I", Cond.laysFinal "FallingBlocks$Search" "FallingBlocks$Search" "keys" "[J", Cond.lays "FallingBlocks$Search" "FallingBlocks$Search" "best" "I"], w ∈ mz_GW from (List.forall_mem_cons.mpr ⟨mw_464, (List.forall_mem_cons.mpr ⟨mw_466, (List.forall_mem_cons.mpr ⟨mw_468, (List.forall_mem_cons.mpr ⟨mw_470, (List.forall_mem_cons.mpr ⟨mw_472, (List.forall_mem_cons.mpr ⟨mw_474, (List.forall_mem_cons.mpr ⟨mw_476, (List.forall_mem_cons.mpr ⟨mw_478, (List.forall_mem_cons.mpr ⟨mw_480, (List.forall_mem_cons.mpr ⟨mw_482, (List.forall_mem_cons.mpr ⟨mw_484, (fun _ h => absurd h List.not_mem_nil)⟩)⟩)⟩)⟩)⟩)⟩)⟩)⟩)⟩)⟩)⟩)
theorem kl_10 : mz_Cl 10 RX10 TX10 11 tyX10 := ⟨rfl, uw_10, tyX10_ok, nmX10, rfl, fun k t h => by
  have hk : k < 11 := (List.getElem?_eq_some_iff.mp h).1
  revert h; revert t; revert hk; revert k; decide +kernel⟩
theorem uw_11 : ∀ w ∈ u_ws RX11 TX11 3, w ∈ mz_GW := show ∀ w ∈ [Cond.laysFinal "FallingBlocks" "FallingBlocks" "engine" "LFallingBlocks$Engine;", Cond.laysFinal "FallingBlocks" "FallingBlocks" "game" "LFallingBlocks$Game;", Cond.laysFinal "FallingBlocks" "FallingBlocks" "text" "LFallingBlocks$InputText;"], w ∈ mz_GW from (List.forall_mem_cons.mpr ⟨mw_622, (List.forall_mem_cons.mpr ⟨mw_624, (List.forall_mem_cons.mpr ⟨mw_626, (fun _ h => absurd h List.not_mem_nil)⟩)⟩)⟩)
theorem kl_11 : mz_Cl 11 RX11 TX11 3 tyX11 := ⟨rfl, uw_11, tyX11_ok, nmX11, rfl, fun k t h => by
  have hk : k < 3 := (List.getElem?_eq_some_iff.mp h).1
  revert h; revert t; revert hk; revert k; decide +kernel⟩
theorem uw_12 : ∀ w ∈ u_ws RX12 TX12 26, w ∈ mz_GW := show ∀ w ∈ [Cond.lays "FallingBlocksModel" "FallingBlocksModel" "thrown" "I", Cond.laysFinal "FallingBlocksModel" "FallingBlocksModel" "g" "[I", Cond.laysFinal "FallingBlocksModel" "FallingBlocksModel" "settings" "[I", Cond.laysFinal "FallingBlocksModel" "FallingBlocksModel" "records" "[I", Cond.lays "FallingBlocksModel" "FallingBlocksModel" "recordMany" "I", Cond.laysFinal "FallingBlocksModel" "FallingBlocksModel" "saved" "[I", Cond.laysFinal "FallingBlocksModel" "FallingBlocksModel" "savedSettings" "[I", Cond.lays "FallingBlocksModel" "FallingBlocksModel" "hasSaved" "Z", Cond.laysFinal "FallingBlocksModel" "FallingBlocksModel" "boxes" "[I", Cond.laysFinal "FallingBlocksModel" "FallingBlocksModel" "shapes" "[I", Cond.laysFinal "FallingBlocksModel" "FallingBlocksModel" "kicks" "[I", Cond.laysFinal "FallingBlocksModel" "FallingBlocksModel" "longKicks" "[I", Cond.laysFinal "FallingBlocksModel" "FallingBlocksModel" "points" "[I", Cond.laysFinal "FallingBlocksModel" "FallingBlocksModel" "kept" "[I", Cond.laysFinal "FallingBlocksModel" "FallingBlocksModel" "steps" "[I", Cond.lays "FallingBlocksModel" "FallingBlocksModel" "stepsKind" "I", Cond.laysFinal "FallingBlocksModel" "FallingBlocksModel" "isReached" "[Z", Cond.laysFinal "FallingBlocksModel" "FallingBlocksModel" "queue" "[I", Cond.lays "FallingBlocksModel" "FallingBlocksModel" "queued" "I", Cond.laysFinal "FallingBlocksModel" "FallingBlocksModel" "placed" "[I", Cond.laysFinal "FallingBlocksModel" "FallingBlocksModel" "places" "[I", Cond.lays "FallingBlocksModel" "FallingBlocksModel" "placedMany" "I", Cond.laysFinal "FallingBlocksModel" "FallingBlocksModel" "sorted" "[I", Cond.laysFinal "FallingBlocksModel" "FallingBlocksModel" "tape" "[C", Cond.lays "FallingBlocksModel" "FallingBlocksModel" "taped" "I", Cond.lays "FallingBlocksModel" "FallingBlocksModel" "faultAt" "I"], w ∈ mz_GW from (List.forall_mem_cons.mpr ⟨mw_1411, (List.forall_mem_cons.mpr ⟨mw_1413, (List.forall_mem_cons.mpr ⟨mw_1415, (List.forall_mem_cons.mpr ⟨mw_1417, (List.forall_mem_cons.mpr ⟨mw_1419, (List.forall_mem_cons.mpr ⟨mw_1421, (List.forall_mem_cons.mpr ⟨mw_1423, (List.forall_mem_cons.mpr ⟨mw_1425, (List.forall_mem_cons.mpr ⟨mw_1427, (List.forall_mem_cons.mpr ⟨mw_1429, (List.forall_mem_cons.mpr ⟨mw_1431, (List.forall_mem_cons.mpr ⟨mw_1433, (List.forall_mem_cons.mpr ⟨mw_1435, (List.forall_mem_cons.mpr ⟨mw_1437, (List.forall_mem_cons.mpr ⟨mw_1439, (List.forall_mem_cons.mpr ⟨mw_1441, (List.forall_mem_cons.mpr ⟨mw_1443, (List.forall_mem_cons.mpr ⟨mw_1445, (List.forall_mem_cons.mpr ⟨mw_1447, (List.forall_mem_cons.mpr ⟨mw_1449, (List.forall_mem_cons.mpr ⟨mw_1451, (List.forall_mem_cons.mpr ⟨mw_1453, (List.forall_mem_cons.mpr ⟨mw_1455, (List.forall_mem_cons.mpr ⟨mw_1457, (List.forall_mem_cons.mpr ⟨mw_1459, (List.forall_mem_cons.mpr ⟨mw_1461, (fun _ h => absurd h List.not_mem_nil)⟩)⟩)⟩)⟩)⟩)⟩)⟩)⟩)⟩)⟩)⟩)⟩)⟩)⟩)⟩)⟩)⟩)⟩)⟩)⟩)⟩)⟩)⟩)⟩)⟩)⟩)
theorem kl_12 : mz_Cl 12 RX12 TX12 26 tyX12 := ⟨rfl, uw_12, tyX12_ok, nmX12, rfl, fun k t h => by
  have hk : k < 26 := (List.getElem?_eq_some_iff.mp h).1
  revert h; revert t; revert hk; revert k; decide +kernel⟩
theorem lk_X5_isLetter_1 : ∀ v : Int, (1 : Int) + Op.lookupswitch.offset [(76, 91), (82, 91), (97, 91), (99, 91), (100, 91), (104, 91), (108, 91), (114, 91), (116, 91), (120, 91)] (93) v = (mz_lt v [(76, 92), (82, 92), (97, 92), (99, 92), (100, 92), (104, 92), (108, 92), (114, 92), (116, 92), (120, 92)] 94 : Int) := by
  intro v
  by_cases h0 : v = 76
  · subst h0; rfl
  by_cases h1 : v = 82
  · subst h1; rfl
  by_cases h2 : v = 97
  · subst h2; rfl
  by_cases h3 : v = 99
  · subst h3; rfl
  by_cases h4 : v = 100
  · subst h4; rfl
  by_cases h5 : v = 104
  · subst h5; rfl
  by_cases h6 : v = 108
  · subst h6; rfl
  by_cases h7 : v = 114
  · subst h7; rfl
  by_cases h8 : v = 116
  · subst h8; rfl
  by_cases h9 : v = 120
  · subst h9; rfl
  simp [Op.lookupswitch.offset, mz_lt, List.find?, h0, Ne.symm h0, h1, Ne.symm h1, h2, Ne.symm h2, h3, Ne.symm h3, h4, Ne.symm h4, h5, Ne.symm h5, h6, Ne.symm h6, h7, Ne.symm h7, h8, Ne.symm h8, h9, Ne.symm h9]
theorem lk_X11_carryOut_1 : ∀ v : Int, (1 : Int) + Op.lookupswitch.offset [(76, 107), (82, 119), (97, 143), (99, 131), (100, 155), (108, 83), (114, 95), (116, 177), (120, 166)] (187) v = (mz_lt v [(76, 108), (82, 120), (97, 144), (99, 132), (100, 156), (108, 84), (114, 96), (116, 178), (120, 167)] 188 : Int) := by
  intro v
  by_cases h0 : v = 76
  · subst h0; rfl
  by_cases h1 : v = 82
  · subst h1; rfl
  by_cases h2 : v = 97
  · subst h2; rfl
  by_cases h3 : v = 99
  · subst h3; rfl
  by_cases h4 : v = 100
  · subst h4; rfl
  by_cases h5 : v = 108
  · subst h5; rfl
  by_cases h6 : v = 114
  · subst h6; rfl
  by_cases h7 : v = 116
  · subst h7; rfl
  by_cases h8 : v = 120
  · subst h8; rfl
  simp [Op.lookupswitch.offset, mz_lt, List.find?, h0, Ne.symm h0, h1, Ne.symm h1, h2, Ne.symm h2, h3, Ne.symm h3, h4, Ne.symm h4, h5, Ne.symm h5, h6, Ne.symm h6, h7, Ne.symm h7, h8, Ne.symm h8]
theorem lk_X12_does_1 : ∀ v : Int, (1 : Int) + Op.lookupswitch.offset [(76, 101), (82, 101), (97, 119), (99, 119), (100, 138), (104, 154), (108, 83), (114, 83), (120, 146)] (176) v = (mz_lt v [(76, 102), (82, 102), (97, 120), (99, 120), (100, 139), (104, 155), (108, 84), (114, 84), (120, 147)] 177 : Int) := by
  intro v
  by_cases h0 : v = 76
  · subst h0; rfl
  by_cases h1 : v = 82
  · subst h1; rfl
  by_cases h2 : v = 97
  · subst h2; rfl
  by_cases h3 : v = 99
  · subst h3; rfl
  by_cases h4 : v = 100
  · subst h4; rfl
  by_cases h5 : v = 104
  · subst h5; rfl
  by_cases h6 : v = 108
  · subst h6; rfl
  by_cases h7 : v = 114
  · subst h7; rfl
  by_cases h8 : v = 120
  · subst h8; rfl
  simp [Op.lookupswitch.offset, mz_lt, List.find?, h0, Ne.symm h0, h1, Ne.symm h1, h2, Ne.symm h2, h3, Ne.symm h3, h4, Ne.symm h4, h5, Ne.symm h5, h6, Ne.symm h6, h7, Ne.symm h7, h8, Ne.symm h8]
theorem hs_L_start_4 : mz_Hs M_L_start 4 [("java/lang/IllegalArgumentException", 12)] := by
  intro E9 h h9
  unfold mz_hl at h9
  split at h9
  · rename_i e
    subst e
    cases h9
    exact ⟨[], ⟨0, 9, 12, 13⟩, [], rfl, by decide, by decide, rfl, mw_653, mn_660, by simp⟩
  · simp [mz_hl] at h9
theorem hs_L_set_5 : mz_Hs M_L_set 5 [("java/lang/IllegalArgumentException", 13)] := by
  intro E9 h h9
  unfold mz_hl at h9
  split at h9
  · rename_i e
    subst e
    cases h9
    exact ⟨[], ⟨0, 10, 13, 13⟩, [], rfl, by decide, by decide, rfl, mw_653, mn_660, by simp⟩
  · simp [mz_hl] at h9
theorem hs_L_piece_4 : mz_Hs M_L_piece 4 [("java/lang/IllegalStateException", 12), ("java/lang/IllegalArgumentException", 15)] := by
  intro E9 h h9
  unfold mz_hl at h9
  split at h9
  · rename_i e
    subst e
    cases h9
    exact ⟨[], ⟨0, 9, 12, 22⟩, [⟨0, 9, 15, 13⟩], rfl, by decide, by decide, rfl, mw_745, mn_756, by simp⟩
  · unfold mz_hl at h9
    split at h9
    · rename_i e
      subst e
      cases h9
      exact ⟨[⟨0, 9, 12, 22⟩], ⟨0, 9, 15, 13⟩, [], rfl, by decide, by decide, rfl, mw_653, mn_660, by
        intro z hz
        simp only [List.mem_cons, List.not_mem_nil, or_false] at hz
        rcases hz with rfl
        · exact ⟨by decide, "java/lang/IllegalStateException", mw_745, by decide +kernel⟩⟩
    · simp [mz_hl] at h9
theorem hs_L_next_4 : mz_Hs M_L_next 4 [("java/lang/IndexOutOfBoundsException", 12)] := by
  intro E9 h h9
  unfold mz_hl at h9
  split at h9
  · rename_i e
    subst e
    cases h9
    exact ⟨[], ⟨0, 9, 12, 27⟩, [], rfl, by decide, by decide, rfl, mw_782, mn_812, by simp⟩
  · simp [mz_hl] at h9
theorem hs_L_cell_5 : mz_Hs M_L_cell 5 [("java/lang/IndexOutOfBoundsException", 13)] := by
  intro E9 h h9
  unfold mz_hl at h9
  split at h9
  · rename_i e
    subst e
    cases h9
    exact ⟨[], ⟨0, 10, 13, 27⟩, [], rfl, by decide, by decide, rfl, mw_782, mn_812, by simp⟩
  · simp [mz_hl] at h9
theorem hs_L_covers_5 : mz_Hs M_L_covers 5 [("java/lang/IllegalStateException", 20), ("java/lang/IndexOutOfBoundsException", 24)] := by
  intro E9 h h9
  unfold mz_hl at h9
  split at h9
  · rename_i e
    subst e
    cases h9
    exact ⟨[], ⟨0, 17, 20, 22⟩, [⟨0, 17, 24, 27⟩], rfl, by decide, by decide, rfl, mw_745, mn_756, by simp⟩
  · unfold mz_hl at h9
    split at h9
    · rename_i e
      subst e
      cases h9
      exact ⟨[⟨0, 17, 20, 22⟩], ⟨0, 17, 24, 27⟩, [], rfl, by decide, by decide, rfl, mw_782, mn_812, by
        intro z hz
        simp only [List.mem_cons, List.not_mem_nil, or_false] at hz
        rcases hz with rfl
        · exact ⟨by decide, "java/lang/IllegalStateException", mw_745, by decide +kernel⟩⟩
    · simp [mz_hl] at h9
theorem hs_L_shift_4 : mz_Hs M_L_shift 4 [("java/lang/IllegalStateException", 19), ("java/lang/IllegalArgumentException", 22)] := by
  intro E9 h h9
  unfold mz_hl at h9
  split at h9
  · rename_i e
    subst e
    cases h9
    exact ⟨[], ⟨0, 16, 19, 22⟩, [⟨0, 16, 22, 13⟩], rfl, by decide, by decide, rfl, mw_745, mn_756, by simp⟩
  · unfold mz_hl at h9
    split at h9
    · rename_i e
      subst e
      cases h9
      exact ⟨[⟨0, 16, 19, 22⟩], ⟨0, 16, 22, 13⟩, [], rfl, by decide, by decide, rfl, mw_653, mn_660, by
        intro z hz
        simp only [List.mem_cons, List.not_mem_nil, or_false] at hz
        rcases hz with rfl
        · exact ⟨by decide, "java/lang/IllegalStateException", mw_745, by decide +kernel⟩⟩
    · simp [mz_hl] at h9
theorem hs_L_slide_4 : mz_Hs M_L_slide 4 [("java/lang/IllegalStateException", 12), ("java/lang/IllegalArgumentException", 15)] := by
  intro E9 h h9
  unfold mz_hl at h9
  split at h9
  · rename_i e
    subst e
    cases h9
    exact ⟨[], ⟨0, 9, 12, 22⟩, [⟨0, 9, 15, 13⟩], rfl, by decide, by decide, rfl, mw_745, mn_756, by simp⟩
  · unfold mz_hl at h9
    split at h9
    · rename_i e
      subst e
      cases h9
      exact ⟨[⟨0, 9, 12, 22⟩], ⟨0, 9, 15, 13⟩, [], rfl, by decide, by decide, rfl, mw_653, mn_660, by
        intro z hz
        simp only [List.mem_cons, List.not_mem_nil, or_false] at hz
        rcases hz with rfl
        · exact ⟨by decide, "java/lang/IllegalStateException", mw_745, by decide +kernel⟩⟩
    · simp [mz_hl] at h9
theorem hs_L_rotate_4 : mz_Hs M_L_rotate 4 [("java/lang/IllegalStateException", 12), ("java/lang/IllegalArgumentException", 15)] := by
  intro E9 h h9
  unfold mz_hl at h9
  split at h9
  · rename_i e
    subst e
    cases h9
    exact ⟨[], ⟨0, 9, 12, 22⟩, [⟨0, 9, 15, 13⟩], rfl, by decide, by decide, rfl, mw_745, mn_756, by simp⟩
  · unfold mz_hl at h9
    split at h9
    · rename_i e
      subst e
      cases h9
      exact ⟨[⟨0, 9, 12, 22⟩], ⟨0, 9, 15, 13⟩, [], rfl, by decide, by decide, rfl, mw_653, mn_660, by
        intro z hz
        simp only [List.mem_cons, List.not_mem_nil, or_false] at hz
        rcases hz with rfl
        · exact ⟨by decide, "java/lang/IllegalStateException", mw_745, by decide +kernel⟩⟩
    · simp [mz_hl] at h9
theorem hs_L_fall_3 : mz_Hs M_L_fall 3 [("java/lang/IllegalStateException", 18)] := by
  intro E9 h h9
  unfold mz_hl at h9
  split at h9
  · rename_i e
    subst e
    cases h9
    exact ⟨[], ⟨0, 15, 18, 22⟩, [], rfl, by decide, by decide, rfl, mw_745, mn_756, by simp⟩
  · simp [mz_hl] at h9
theorem hs_L_drop_3 : mz_Hs M_L_drop 3 [("java/lang/IllegalStateException", 11)] := by
  intro E9 h h9
  unfold mz_hl at h9
  split at h9
  · rename_i e
    subst e
    cases h9
    exact ⟨[], ⟨0, 8, 11, 22⟩, [], rfl, by decide, by decide, rfl, mw_745, mn_756, by simp⟩
  · simp [mz_hl] at h9
theorem hs_L_hold_3 : mz_Hs M_L_hold 3 [("java/lang/IllegalStateException", 11), ("java/lang/UnsupportedOperationException", 14)] := by
  intro E9 h h9
  unfold mz_hl at h9
  split at h9
  · rename_i e
    subst e
    cases h9
    exact ⟨[], ⟨0, 8, 11, 22⟩, [⟨0, 8, 14, 57⟩], rfl, by decide, by decide, rfl, mw_745, mn_756, by simp⟩
  · unfold mz_hl at h9
    split at h9
    · rename_i e
      subst e
      cases h9
      exact ⟨[⟨0, 8, 11, 22⟩], ⟨0, 8, 14, 57⟩, [], rfl, by decide, by decide, rfl, mw_998, mn_1005, by
        intro z hz
        simp only [List.mem_cons, List.not_mem_nil, or_false] at hz
        rcases hz with rfl
        · exact ⟨by decide, "java/lang/IllegalStateException", mw_745, by decide +kernel⟩⟩
    · simp [mz_hl] at h9
theorem hs_L_held_3 : mz_Hs M_L_held 3 [("java/util/NoSuchElementException", 11)] := by
  intro E9 h h9
  unfold mz_hl at h9
  split at h9
  · rename_i e
    subst e
    cases h9
    exact ⟨[], ⟨0, 8, 11, 62⟩, [], rfl, by decide, by decide, rfl, mw_1026, mn_1033, by simp⟩
  · simp [mz_hl] at h9
theorem hs_L_tick_4 : mz_Hs M_L_tick 4 [("java/lang/IllegalArgumentException", 12), ("java/lang/IllegalStateException", 15)] := by
  intro E9 h h9
  unfold mz_hl at h9
  split at h9
  · rename_i e
    subst e
    cases h9
    exact ⟨[], ⟨0, 9, 12, 13⟩, [⟨0, 9, 15, 22⟩], rfl, by decide, by decide, rfl, mw_653, mn_660, by simp⟩
  · unfold mz_hl at h9
    split at h9
    · rename_i e
      subst e
      cases h9
      exact ⟨[⟨0, 9, 12, 13⟩], ⟨0, 9, 15, 22⟩, [], rfl, by decide, by decide, rfl, mw_745, mn_756, by
        intro z hz
        simp only [List.mem_cons, List.not_mem_nil, or_false] at hz
        rcases hz with rfl
        · exact ⟨by decide, "java/lang/IllegalArgumentException", mw_653, by decide +kernel⟩⟩
    · simp [mz_hl] at h9
theorem hs_L_garbage_5 : mz_Hs M_L_garbage 5 [("java/lang/IllegalArgumentException", 13), ("java/lang/IllegalStateException", 17), ("java/lang/UnsupportedOperationException", 21)] := by
  intro E9 h h9
  unfold mz_hl at h9
  split at h9
  · rename_i e
    subst e
    cases h9
    exact ⟨[], ⟨0, 10, 13, 13⟩, [⟨0, 10, 17, 22⟩, ⟨0, 10, 21, 57⟩], rfl, by decide, by decide, rfl, mw_653, mn_660, by simp⟩
  · unfold mz_hl at h9
    split at h9
    · rename_i e
      subst e
      cases h9
      exact ⟨[⟨0, 10, 13, 13⟩], ⟨0, 10, 17, 22⟩, [⟨0, 10, 21, 57⟩], rfl, by decide, by decide, rfl, mw_745, mn_756, by
        intro z hz
        simp only [List.mem_cons, List.not_mem_nil, or_false] at hz
        rcases hz with rfl
        · exact ⟨by decide, "java/lang/IllegalArgumentException", mw_653, by decide +kernel⟩⟩
    · unfold mz_hl at h9
      split at h9
      · rename_i e
        subst e
        cases h9
        exact ⟨[⟨0, 10, 13, 13⟩, ⟨0, 10, 17, 22⟩], ⟨0, 10, 21, 57⟩, [], rfl, by decide, by decide, rfl, mw_998, mn_1005, by
          intro z hz
          simp only [List.mem_cons, List.not_mem_nil, or_false] at hz
          rcases hz with rfl | rfl
          · exact ⟨by decide, "java/lang/IllegalArgumentException", mw_653, by decide +kernel⟩
          · exact ⟨by decide, "java/lang/IllegalStateException", mw_745, by decide +kernel⟩⟩
      · simp [mz_hl] at h9
theorem hs_L_figure_4 : mz_Hs M_L_figure 4 [("java/lang/IllegalArgumentException", 12)] := by
  intro E9 h h9
  unfold mz_hl at h9
  split at h9
  · rename_i e
    subst e
    cases h9
    exact ⟨[], ⟨0, 9, 12, 13⟩, [], rfl, by decide, by decide, rfl, mw_653, mn_660, by simp⟩
  · simp [mz_hl] at h9
theorem hs_L_height_4 : mz_Hs M_L_height 4 [("java/lang/IndexOutOfBoundsException", 12)] := by
  intro E9 h h9
  unfold mz_hl at h9
  split at h9
  · rename_i e
    subst e
    cases h9
    exact ⟨[], ⟨0, 9, 12, 27⟩, [], rfl, by decide, by decide, rfl, mw_782, mn_812, by simp⟩
  · simp [mz_hl] at h9
theorem hs_L_statistic_4 : mz_Hs M_L_statistic 4 [("java/lang/IllegalArgumentException", 12)] := by
  intro E9 h h9
  unfold mz_hl at h9
  split at h9
  · rename_i e
    subst e
    cases h9
    exact ⟨[], ⟨0, 9, 12, 13⟩, [], rfl, by decide, by decide, rfl, mw_653, mn_660, by simp⟩
  · simp [mz_hl] at h9
theorem hs_L_clears_5 : mz_Hs M_L_clears 5 [("java/lang/IllegalArgumentException", 13)] := by
  intro E9 h h9
  unfold mz_hl at h9
  split at h9
  · rename_i e
    subst e
    cases h9
    exact ⟨[], ⟨0, 10, 13, 13⟩, [], rfl, by decide, by decide, rfl, mw_653, mn_660, by simp⟩
  · simp [mz_hl] at h9
theorem hs_L_latest_4 : mz_Hs M_L_latest 4 [("java/util/NoSuchElementException", 12), ("java/lang/IllegalArgumentException", 15)] := by
  intro E9 h h9
  unfold mz_hl at h9
  split at h9
  · rename_i e
    subst e
    cases h9
    exact ⟨[], ⟨0, 9, 12, 62⟩, [⟨0, 9, 15, 13⟩], rfl, by decide, by decide, rfl, mw_1026, mn_1033, by simp⟩
  · unfold mz_hl at h9
    split at h9
    · rename_i e
      subst e
      cases h9
      exact ⟨[⟨0, 9, 12, 62⟩], ⟨0, 9, 15, 13⟩, [], rfl, by decide, by decide, rfl, mw_653, mn_660, by
        intro z hz
        simp only [List.mem_cons, List.not_mem_nil, or_false] at hz
        rcases hz with rfl
        · exact ⟨by decide, "java/util/NoSuchElementException", mw_1026, by decide +kernel⟩⟩
    · simp [mz_hl] at h9
theorem hs_L_meanFaults_3 : mz_Hs M_L_meanFaults 3 [("java/lang/ArithmeticException", 10)] := by
  intro E9 h h9
  unfold mz_hl at h9
  split at h9
  · rename_i e
    subst e
    cases h9
    exact ⟨[], ⟨0, 7, 10, 89⟩, [], rfl, by decide, by decide, rfl, mw_1158, mn_1170, by simp⟩
  · simp [mz_hl] at h9
theorem hs_L_leastInputs_7 : mz_Hs M_L_leastInputs 7 [("java/lang/IllegalArgumentException", 15), ("java/util/NoSuchElementException", 19)] := by
  intro E9 h h9
  unfold mz_hl at h9
  split at h9
  · rename_i e
    subst e
    cases h9
    exact ⟨[], ⟨0, 12, 15, 13⟩, [⟨0, 12, 19, 62⟩], rfl, by decide, by decide, rfl, mw_653, mn_660, by simp⟩
  · unfold mz_hl at h9
    split at h9
    · rename_i e
      subst e
      cases h9
      exact ⟨[⟨0, 12, 15, 13⟩], ⟨0, 12, 19, 62⟩, [], rfl, by decide, by decide, rfl, mw_1026, mn_1033, by
        intro z hz
        simp only [List.mem_cons, List.not_mem_nil, or_false] at hz
        rcases hz with rfl
        · exact ⟨by decide, "java/lang/IllegalArgumentException", mw_653, by decide +kernel⟩⟩
    · simp [mz_hl] at h9
theorem hs_L_placements_3 : mz_Hs M_L_placements 3 [("java/lang/IllegalStateException", 11)] := by
  intro E9 h h9
  unfold mz_hl at h9
  split at h9
  · rename_i e
    subst e
    cases h9
    exact ⟨[], ⟨0, 8, 11, 22⟩, [], rfl, by decide, by decide, rfl, mw_745, mn_756, by simp⟩
  · simp [mz_hl] at h9
theorem hs_L_placement_5 : mz_Hs M_L_placement 5 [("java/lang/IllegalStateException", 13), ("java/util/NoSuchElementException", 17), ("java/lang/IllegalArgumentException", 21)] := by
  intro E9 h h9
  unfold mz_hl at h9
  split at h9
  · rename_i e
    subst e
    cases h9
    exact ⟨[], ⟨0, 10, 13, 22⟩, [⟨0, 10, 17, 62⟩, ⟨0, 10, 21, 13⟩], rfl, by decide, by decide, rfl, mw_745, mn_756, by simp⟩
  · unfold mz_hl at h9
    split at h9
    · rename_i e
      subst e
      cases h9
      exact ⟨[⟨0, 10, 13, 22⟩], ⟨0, 10, 17, 62⟩, [⟨0, 10, 21, 13⟩], rfl, by decide, by decide, rfl, mw_1026, mn_1033, by
        intro z hz
        simp only [List.mem_cons, List.not_mem_nil, or_false] at hz
        rcases hz with rfl
        · exact ⟨by decide, "java/lang/IllegalStateException", mw_745, by decide +kernel⟩⟩
    · unfold mz_hl at h9
      split at h9
      · rename_i e
        subst e
        cases h9
        exact ⟨[⟨0, 10, 13, 22⟩, ⟨0, 10, 17, 62⟩], ⟨0, 10, 21, 13⟩, [], rfl, by decide, by decide, rfl, mw_653, mn_660, by
          intro z hz
          simp only [List.mem_cons, List.not_mem_nil, or_false] at hz
          rcases hz with rfl | rfl
          · exact ⟨by decide, "java/lang/IllegalStateException", mw_745, by decide +kernel⟩
          · exact ⟨by decide, "java/util/NoSuchElementException", mw_1026, by decide +kernel⟩⟩
      · simp [mz_hl] at h9
theorem hs_L_placeBest_3 : mz_Hs M_L_placeBest 3 [("java/lang/IllegalStateException", 11)] := by
  intro E9 h h9
  unfold mz_hl at h9
  split at h9
  · rename_i e
    subst e
    cases h9
    exact ⟨[], ⟨0, 8, 11, 22⟩, [], rfl, by decide, by decide, rfl, mw_745, mn_756, by simp⟩
  · simp [mz_hl] at h9
theorem hs_L_append_2 : mz_Hs M_L_append 2 [("java/lang/IllegalStateException", 8)] := by
  intro E9 h h9
  unfold mz_hl at h9
  split at h9
  · rename_i e
    subst e
    cases h9
    exact ⟨[], ⟨0, 5, 8, 22⟩, [], rfl, by decide, by decide, rfl, mw_745, mn_756, by simp⟩
  · simp [mz_hl] at h9
theorem hs_L_play_3 : mz_Hs M_L_play 3 [("java/lang/IllegalArgumentException", 11), ("java/lang/IllegalStateException", 14)] := by
  intro E9 h h9
  unfold mz_hl at h9
  split at h9
  · rename_i e
    subst e
    cases h9
    exact ⟨[], ⟨0, 8, 11, 13⟩, [⟨0, 8, 14, 22⟩], rfl, by decide, by decide, rfl, mw_653, mn_660, by simp⟩
  · unfold mz_hl at h9
    split at h9
    · rename_i e
      subst e
      cases h9
      exact ⟨[⟨0, 8, 11, 13⟩], ⟨0, 8, 14, 22⟩, [], rfl, by decide, by decide, rfl, mw_745, mn_756, by
        intro z hz
        simp only [List.mem_cons, List.not_mem_nil, or_false] at hz
        rcases hz with rfl
        · exact ⟨by decide, "java/lang/IllegalArgumentException", mw_653, by decide +kernel⟩⟩
    · simp [mz_hl] at h9
theorem hs_L_undo_3 : mz_Hs M_L_undo 3 [("java/lang/UnsupportedOperationException", 11)] := by
  intro E9 h h9
  unfold mz_hl at h9
  split at h9
  · rename_i e
    subst e
    cases h9
    exact ⟨[], ⟨0, 8, 11, 57⟩, [], rfl, by decide, by decide, rfl, mw_998, mn_1005, by simp⟩
  · simp [mz_hl] at h9
theorem hs_L_restore_1 : mz_Hs M_L_restore 1 [("java/util/NoSuchElementException", 7)] := by
  intro E9 h h9
  unfold mz_hl at h9
  split at h9
  · rename_i e
    subst e
    cases h9
    exact ⟨[], ⟨0, 4, 7, 62⟩, [], rfl, by decide, by decide, rfl, mw_1026, mn_1033, by simp⟩
  · simp [mz_hl] at h9
theorem mz_ow1 {w : Cond} (h : w ∈ mz_GW) : mz_ow w := fun _ => ⟨by unfold vx_ot; rw [mz_good w h]; simp, Or.inl h⟩
theorem mz_ow2 {w : Cond} (h : w ∈ lw_tbl) (h1 : vx_ot w = true) (h2 : mz_cd w = true) : mz_ow w := fun _ => ⟨h1, Or.inr ⟨h, h2⟩⟩
theorem mz_ow3 {w : Cond} (h : vx_no w = false) : mz_ow w := fun h9 => absurd (h.symm.trans h9) (by decide)
theorem no_U : vx_no (.isRef (.static Bundle.tN "UNASSIGNED_STACK" Bundle.steD)) = false := by simp [vx_no]
theorem no_N : vx_no (.isRef (.static Bundle.tN "SUPPRESSED_SENTINEL" Bundle.listD)) = false := by simp [vx_no]
theorem no_lU : vx_no (.laysStatic Bundle.tN "UNASSIGNED_STACK" Bundle.steD) = false := by simp [vx_no]
theorem no_lN : vx_no (.laysStatic Bundle.tN "SUPPRESSED_SENTINEL" Bundle.listD) = false := by simp [vx_no]
theorem at_T : ∀ w ∈ Bundle.throwableAtoms, mz_ow w := (List.forall_mem_cons.mpr ⟨(mz_ow1 mw_95), (List.forall_mem_cons.mpr ⟨(mz_ow1 mw_680), (List.forall_mem_cons.mpr ⟨(mz_ow1 mw_689), (List.forall_mem_cons.mpr ⟨(mz_ow1 mw_697), (List.forall_mem_cons.mpr ⟨(mz_ow1 mw_700), (List.forall_mem_cons.mpr ⟨(mz_ow1 mw_702), (List.forall_mem_cons.mpr ⟨(mz_ow1 mw_681), (List.forall_mem_cons.mpr ⟨(mz_ow1 mw_682), (List.forall_mem_cons.mpr ⟨(mz_ow1 mw_112), (List.forall_mem_cons.mpr ⟨(mz_ow1 mw_113), (List.forall_mem_cons.mpr ⟨(mz_ow1 mw_683), (List.forall_mem_cons.mpr ⟨(mz_ow1 mw_688), (List.forall_mem_cons.mpr ⟨(mz_ow1 mw_698), (List.forall_mem_cons.mpr ⟨(mz_ow1 mw_718), (List.forall_mem_cons.mpr ⟨(mz_ow1 mw_670), (List.forall_mem_cons.mpr ⟨(mz_ow1 mw_719), (List.forall_mem_cons.mpr ⟨(mz_ow1 mw_672), (List.forall_mem_cons.mpr ⟨(mz_ow1 mw_720), (List.forall_mem_cons.mpr ⟨(mz_ow1 mw_674), (List.forall_mem_cons.mpr ⟨(mz_ow1 mw_684), (List.forall_mem_cons.mpr ⟨(mz_ow3 no_lU), (List.forall_mem_cons.mpr ⟨(mz_ow1 mw_686), (List.forall_mem_cons.mpr ⟨(mz_ow3 no_lN), (List.forall_mem_cons.mpr ⟨(mz_ow1 mw_676), (fun _ h => absurd h List.not_mem_nil)⟩)⟩)⟩)⟩)⟩)⟩)⟩)⟩)⟩)⟩)⟩)⟩)⟩)⟩)⟩)⟩)⟩)⟩)⟩)⟩)⟩)⟩)⟩)⟩)
theorem at_S : ∀ w ∈ Bundle.throwableSAtoms, mz_ow w := (List.forall_mem_cons.mpr ⟨(mz_ow1 mw_714), (List.forall_mem_cons.mpr ⟨(mz_ow1 mw_715), (List.forall_mem_cons.mpr ⟨(mz_ow1 mw_717), (List.forall_mem_cons.mpr ⟨(mz_ow1 mw_676), (fun _ h => absurd h List.not_mem_nil)⟩)⟩)⟩)⟩)
theorem at_36 : ∀ w ∈ zx_atoms RX11 36 "java/lang/IllegalArgumentException" 7 prog_19_method_2_code ["java/lang/RuntimeException", "java/lang/Exception"], mz_ow w := List.forall_mem_append.mpr ⟨List.forall_mem_append.mpr ⟨List.forall_mem_append.mpr ⟨at_T, at_S⟩, show ∀ w ∈ ([Cond.instanceMethod ⟨"java/lang/IllegalArgumentException", "<init>", "(Ljava/lang/String;)V"⟩, Cond.code ⟨"java/lang/IllegalArgumentException", "<init>", "(Ljava/lang/String;)V"⟩ prog_19_method_2_code 2 none, Cond.methodLink "java/lang/IllegalArgumentException" 7 ⟨"java/lang/RuntimeException", "<init>", "(Ljava/lang/String;)V"⟩, Cond.instanceMethod ⟨"java/lang/RuntimeException", "<init>", "(Ljava/lang/String;)V"⟩, Cond.declares ⟨"java/lang/RuntimeException", "<init>", "(Ljava/lang/String;)V"⟩, Cond.instanceMethod ⟨"java/lang/RuntimeException", "<init>", "(Ljava/lang/String;)V"⟩, Cond.code ⟨"java/lang/RuntimeException", "<init>", "(Ljava/lang/String;)V"⟩ prog_24_method_2_code 2 none, Cond.methodLink "java/lang/RuntimeException" 7 ⟨"java/lang/Exception", "<init>", "(Ljava/lang/String;)V"⟩, Cond.instanceMethod ⟨"java/lang/Exception", "<init>", "(Ljava/lang/String;)V"⟩, Cond.declares ⟨"java/lang/Exception", "<init>", "(Ljava/lang/String;)V"⟩, Cond.instanceMethod ⟨"java/lang/Exception", "<init>", "(Ljava/lang/String;)V"⟩, Cond.code ⟨"java/lang/Exception", "<init>", "(Ljava/lang/String;)V"⟩ prog_18_method_2_code 2 none, Cond.methodLink "java/lang/Exception" 7 ⟨"java/lang/Throwable", "<init>", "(Ljava/lang/String;)V"⟩, Cond.instanceMethod ⟨"java/lang/Throwable", "<init>", "(Ljava/lang/String;)V"⟩, Cond.declares ⟨"java/lang/Throwable", "<init>", "(Ljava/lang/String;)V"⟩] : List Cond), mz_ow w from (List.forall_mem_cons.mpr ⟨(mz_ow1 mw_705), (List.forall_mem_cons.mpr ⟨(mz_ow1 mw_706), (List.forall_mem_cons.mpr ⟨(mz_ow1 mw_707), (List.forall_mem_cons.mpr ⟨(mz_ow1 mw_708), (List.forall_mem_cons.mpr ⟨(mz_ow2 mn_662 rfl rfl), (List.forall_mem_cons.mpr ⟨(mz_ow1 mw_708), (List.forall_mem_cons.mpr ⟨(mz_ow1 mw_709), (List.forall_mem_cons.mpr ⟨(mz_ow1 mw_710), (List.forall_mem_cons.mpr ⟨(mz_ow1 mw_711), (List.forall_mem_cons.mpr ⟨(mz_ow2 mn_664 rfl rfl), (List.forall_mem_cons.mpr ⟨(mz_ow1 mw_711), (List.forall_mem_cons.mpr ⟨(mz_ow1 mw_712), (List.forall_mem_cons.mpr ⟨(mz_ow1 mw_713), (List.forall_mem_cons.mpr ⟨(mz_ow1 mw_714), (List.forall_mem_cons.mpr ⟨(mz_ow2 mn_666 rfl rfl), (fun _ h => absurd h List.not_mem_nil)⟩)⟩)⟩)⟩)⟩)⟩)⟩)⟩)⟩)⟩)⟩)⟩)⟩)⟩)⟩)⟩, (List.forall_mem_cons.mpr ⟨(mz_ow1 mw_704), (List.forall_mem_cons.mpr ⟨(mz_ow1 mw_659), (List.forall_mem_cons.mpr ⟨(mz_ow2 mn_660 rfl rfl), (List.forall_mem_cons.mpr ⟨(mz_ow1 mw_667), (List.forall_mem_cons.mpr ⟨(mz_ow1 mw_668), (List.forall_mem_cons.mpr ⟨(mz_ow1 mw_669), (List.forall_mem_cons.mpr ⟨(mz_ow1 mw_671), (List.forall_mem_cons.mpr ⟨(mz_ow1 mw_673), (List.forall_mem_cons.mpr ⟨(mz_ow1 mw_675), (List.forall_mem_cons.mpr ⟨(mz_ow3 no_U), (List.forall_mem_cons.mpr ⟨(mz_ow3 no_N), (List.forall_mem_cons.mpr ⟨(mz_ow1 mw_679), (List.forall_mem_cons.mpr ⟨(mz_ow1 mw_678), (List.forall_mem_cons.mpr ⟨(mz_ow1 mw_677), (fun _ h => absurd h List.not_mem_nil)⟩)⟩)⟩)⟩)⟩)⟩)⟩)⟩)⟩)⟩)⟩)⟩)⟩)⟩)⟩
theorem at_103 : ∀ w ∈ zx_atoms RX11 103 "java/lang/IndexOutOfBoundsException" 7 prog_21_method_2_code ["java/lang/RuntimeException", "java/lang/Exception"], mz_ow w := List.forall_mem_append.mpr ⟨List.forall_mem_append.mpr ⟨List.forall_mem_append.mpr ⟨at_T, at_S⟩, show ∀ w ∈ ([Cond.instanceMethod ⟨"java/lang/IndexOutOfBoundsException", "<init>", "(Ljava/lang/String;)V"⟩, Cond.code ⟨"java/lang/IndexOutOfBoundsException", "<init>", "(Ljava/lang/String;)V"⟩ prog_21_method_2_code 2 none, Cond.methodLink "java/lang/IndexOutOfBoundsException" 7 ⟨"java/lang/RuntimeException", "<init>", "(Ljava/lang/String;)V"⟩, Cond.instanceMethod ⟨"java/lang/RuntimeException", "<init>", "(Ljava/lang/String;)V"⟩, Cond.declares ⟨"java/lang/RuntimeException", "<init>", "(Ljava/lang/String;)V"⟩, Cond.instanceMethod ⟨"java/lang/RuntimeException", "<init>", "(Ljava/lang/String;)V"⟩, Cond.code ⟨"java/lang/RuntimeException", "<init>", "(Ljava/lang/String;)V"⟩ prog_24_method_2_code 2 none, Cond.methodLink "java/lang/RuntimeException" 7 ⟨"java/lang/Exception", "<init>", "(Ljava/lang/String;)V"⟩, Cond.instanceMethod ⟨"java/lang/Exception", "<init>", "(Ljava/lang/String;)V"⟩, Cond.declares ⟨"java/lang/Exception", "<init>", "(Ljava/lang/String;)V"⟩, Cond.instanceMethod ⟨"java/lang/Exception", "<init>", "(Ljava/lang/String;)V"⟩, Cond.code ⟨"java/lang/Exception", "<init>", "(Ljava/lang/String;)V"⟩ prog_18_method_2_code 2 none, Cond.methodLink "java/lang/Exception" 7 ⟨"java/lang/Throwable", "<init>", "(Ljava/lang/String;)V"⟩, Cond.instanceMethod ⟨"java/lang/Throwable", "<init>", "(Ljava/lang/String;)V"⟩, Cond.declares ⟨"java/lang/Throwable", "<init>", "(Ljava/lang/String;)V"⟩] : List Cond), mz_ow w from (List.forall_mem_cons.mpr ⟨(mz_ow1 mw_787), (List.forall_mem_cons.mpr ⟨(mz_ow1 mw_788), (List.forall_mem_cons.mpr ⟨(mz_ow1 mw_789), (List.forall_mem_cons.mpr ⟨(mz_ow1 mw_708), (List.forall_mem_cons.mpr ⟨(mz_ow2 mn_662 rfl rfl), (List.forall_mem_cons.mpr ⟨(mz_ow1 mw_708), (List.forall_mem_cons.mpr ⟨(mz_ow1 mw_709), (List.forall_mem_cons.mpr ⟨(mz_ow1 mw_710), (List.forall_mem_cons.mpr ⟨(mz_ow1 mw_711), (List.forall_mem_cons.mpr ⟨(mz_ow2 mn_664 rfl rfl), (List.forall_mem_cons.mpr ⟨(mz_ow1 mw_711), (List.forall_mem_cons.mpr ⟨(mz_ow1 mw_712), (List.forall_mem_cons.mpr ⟨(mz_ow1 mw_713), (List.forall_mem_cons.mpr ⟨(mz_ow1 mw_714), (List.forall_mem_cons.mpr ⟨(mz_ow2 mn_666 rfl rfl), (fun _ h => absurd h List.not_mem_nil)⟩)⟩)⟩)⟩)⟩)⟩)⟩)⟩)⟩)⟩)⟩)⟩)⟩)⟩)⟩)⟩, (List.forall_mem_cons.mpr ⟨(mz_ow1 mw_820), (List.forall_mem_cons.mpr ⟨(mz_ow1 mw_811), (List.forall_mem_cons.mpr ⟨(mz_ow2 mn_812 rfl rfl), (List.forall_mem_cons.mpr ⟨(mz_ow1 mw_813), (List.forall_mem_cons.mpr ⟨(mz_ow1 mw_694), (List.forall_mem_cons.mpr ⟨(mz_ow1 mw_814), (List.forall_mem_cons.mpr ⟨(mz_ow1 mw_815), (List.forall_mem_cons.mpr ⟨(mz_ow1 mw_816), (List.forall_mem_cons.mpr ⟨(mz_ow1 mw_817), (List.forall_mem_cons.mpr ⟨(mz_ow3 no_U), (List.forall_mem_cons.mpr ⟨(mz_ow3 no_N), (List.forall_mem_cons.mpr ⟨(mz_ow1 mw_679), (List.forall_mem_cons.mpr ⟨(mz_ow1 mw_678), (List.forall_mem_cons.mpr ⟨(mz_ow1 mw_818), (fun _ h => absurd h List.not_mem_nil)⟩)⟩)⟩)⟩)⟩)⟩)⟩)⟩)⟩)⟩)⟩)⟩)⟩)⟩)⟩
theorem at_158 : ∀ w ∈ zx_atoms RX11 158 "java/lang/UnsupportedOperationException" 7 prog_28_method_2_code ["java/lang/RuntimeException", "java/lang/Exception"], mz_ow w := List.forall_mem_append.mpr ⟨List.forall_mem_append.mpr ⟨List.forall_mem_append.mpr ⟨at_T, at_S⟩, show ∀ w ∈ ([Cond.instanceMethod ⟨"java/lang/UnsupportedOperationException", "<init>", "(Ljava/lang/String;)V"⟩, Cond.code ⟨"java/lang/UnsupportedOperationException", "<init>", "(Ljava/lang/String;)V"⟩ prog_28_method_2_code 2 none, Cond.methodLink "java/lang/UnsupportedOperationException" 7 ⟨"java/lang/RuntimeException", "<init>", "(Ljava/lang/String;)V"⟩, Cond.instanceMethod ⟨"java/lang/RuntimeException", "<init>", "(Ljava/lang/String;)V"⟩, Cond.declares ⟨"java/lang/RuntimeException", "<init>", "(Ljava/lang/String;)V"⟩, Cond.instanceMethod ⟨"java/lang/RuntimeException", "<init>", "(Ljava/lang/String;)V"⟩, Cond.code ⟨"java/lang/RuntimeException", "<init>", "(Ljava/lang/String;)V"⟩ prog_24_method_2_code 2 none, Cond.methodLink "java/lang/RuntimeException" 7 ⟨"java/lang/Exception", "<init>", "(Ljava/lang/String;)V"⟩, Cond.instanceMethod ⟨"java/lang/Exception", "<init>", "(Ljava/lang/String;)V"⟩, Cond.declares ⟨"java/lang/Exception", "<init>", "(Ljava/lang/String;)V"⟩, Cond.instanceMethod ⟨"java/lang/Exception", "<init>", "(Ljava/lang/String;)V"⟩, Cond.code ⟨"java/lang/Exception", "<init>", "(Ljava/lang/String;)V"⟩ prog_18_method_2_code 2 none, Cond.methodLink "java/lang/Exception" 7 ⟨"java/lang/Throwable", "<init>", "(Ljava/lang/String;)V"⟩, Cond.instanceMethod ⟨"java/lang/Throwable", "<init>", "(Ljava/lang/String;)V"⟩, Cond.declares ⟨"java/lang/Throwable", "<init>", "(Ljava/lang/String;)V"⟩] : List Cond), mz_ow w from (List.forall_mem_cons.mpr ⟨(mz_ow1 mw_1014), (List.forall_mem_cons.mpr ⟨(mz_ow1 mw_1015), (List.forall_mem_cons.mpr ⟨(mz_ow1 mw_1016), (List.forall_mem_cons.mpr ⟨(mz_ow1 mw_708), (List.forall_mem_cons.mpr ⟨(mz_ow2 mn_662 rfl rfl), (List.forall_mem_cons.mpr ⟨(mz_ow1 mw_708), (List.forall_mem_cons.mpr ⟨(mz_ow1 mw_709), (List.forall_mem_cons.mpr ⟨(mz_ow1 mw_710), (List.forall_mem_cons.mpr ⟨(mz_ow1 mw_711), (List.forall_mem_cons.mpr ⟨(mz_ow2 mn_664 rfl rfl), (List.forall_mem_cons.mpr ⟨(mz_ow1 mw_711), (List.forall_mem_cons.mpr ⟨(mz_ow1 mw_712), (List.forall_mem_cons.mpr ⟨(mz_ow1 mw_713), (List.forall_mem_cons.mpr ⟨(mz_ow1 mw_714), (List.forall_mem_cons.mpr ⟨(mz_ow2 mn_666 rfl rfl), (fun _ h => absurd h List.not_mem_nil)⟩)⟩)⟩)⟩)⟩)⟩)⟩)⟩)⟩)⟩)⟩)⟩)⟩)⟩)⟩)⟩, (List.forall_mem_cons.mpr ⟨(mz_ow1 mw_1013), (List.forall_mem_cons.mpr ⟨(mz_ow1 mw_1004), (List.forall_mem_cons.mpr ⟨(mz_ow2 mn_1005 rfl rfl), (List.forall_mem_cons.mpr ⟨(mz_ow1 mw_1006), (List.forall_mem_cons.mpr ⟨(mz_ow1 mw_695), (List.forall_mem_cons.mpr ⟨(mz_ow1 mw_1007), (List.forall_mem_cons.mpr ⟨(mz_ow1 mw_1008), (List.forall_mem_cons.mpr ⟨(mz_ow1 mw_1009), (List.forall_mem_cons.mpr ⟨(mz_ow1 mw_1010), (List.forall_mem_cons.mpr ⟨(mz_ow3 no_U), (List.forall_mem_cons.mpr ⟨(mz_ow3 no_N), (List.forall_mem_cons.mpr ⟨(mz_ow1 mw_679), (List.forall_mem_cons.mpr ⟨(mz_ow1 mw_678), (List.forall_mem_cons.mpr ⟨(mz_ow1 mw_1011), (fun _ h => absurd h List.not_mem_nil)⟩)⟩)⟩)⟩)⟩)⟩)⟩)⟩)⟩)⟩)⟩)⟩)⟩)⟩)⟩
theorem at_169 : ∀ w ∈ zx_atoms RX11 169 "java/util/NoSuchElementException" 13 prog_30_method_4_code ["java/lang/RuntimeException", "java/lang/Exception"], mz_ow w := List.forall_mem_append.mpr ⟨List.forall_mem_append.mpr ⟨List.forall_mem_append.mpr ⟨at_T, at_S⟩, show ∀ w ∈ ([Cond.instanceMethod ⟨"java/util/NoSuchElementException", "<init>", "(Ljava/lang/String;)V"⟩, Cond.code ⟨"java/util/NoSuchElementException", "<init>", "(Ljava/lang/String;)V"⟩ prog_30_method_4_code 2 none, Cond.methodLink "java/util/NoSuchElementException" 13 ⟨"java/lang/RuntimeException", "<init>", "(Ljava/lang/String;)V"⟩, Cond.instanceMethod ⟨"java/lang/RuntimeException", "<init>", "(Ljava/lang/String;)V"⟩, Cond.declares ⟨"java/lang/RuntimeException", "<init>", "(Ljava/lang/String;)V"⟩, Cond.instanceMethod ⟨"java/lang/RuntimeException", "<init>", "(Ljava/lang/String;)V"⟩, Cond.code ⟨"java/lang/RuntimeException", "<init>", "(Ljava/lang/String;)V"⟩ prog_24_method_2_code 2 none, Cond.methodLink "java/lang/RuntimeException" 7 ⟨"java/lang/Exception", "<init>", "(Ljava/lang/String;)V"⟩, Cond.instanceMethod ⟨"java/lang/Exception", "<init>", "(Ljava/lang/String;)V"⟩, Cond.declares ⟨"java/lang/Exception", "<init>", "(Ljava/lang/String;)V"⟩, Cond.instanceMethod ⟨"java/lang/Exception", "<init>", "(Ljava/lang/String;)V"⟩, Cond.code ⟨"java/lang/Exception", "<init>", "(Ljava/lang/String;)V"⟩ prog_18_method_2_code 2 none, Cond.methodLink "java/lang/Exception" 7 ⟨"java/lang/Throwable", "<init>", "(Ljava/lang/String;)V"⟩, Cond.instanceMethod ⟨"java/lang/Throwable", "<init>", "(Ljava/lang/String;)V"⟩, Cond.declares ⟨"java/lang/Throwable", "<init>", "(Ljava/lang/String;)V"⟩] : List Cond), mz_ow w from (List.forall_mem_cons.mpr ⟨(mz_ow1 mw_1042), (List.forall_mem_cons.mpr ⟨(mz_ow1 mw_1043), (List.forall_mem_cons.mpr ⟨(mz_ow1 mw_1044), (List.forall_mem_cons.mpr ⟨(mz_ow1 mw_708), (List.forall_mem_cons.mpr ⟨(mz_ow2 mn_662 rfl rfl), (List.forall_mem_cons.mpr ⟨(mz_ow1 mw_708), (List.forall_mem_cons.mpr ⟨(mz_ow1 mw_709), (List.forall_mem_cons.mpr ⟨(mz_ow1 mw_710), (List.forall_mem_cons.mpr ⟨(mz_ow1 mw_711), (List.forall_mem_cons.mpr ⟨(mz_ow2 mn_664 rfl rfl), (List.forall_mem_cons.mpr ⟨(mz_ow1 mw_711), (List.forall_mem_cons.mpr ⟨(mz_ow1 mw_712), (List.forall_mem_cons.mpr ⟨(mz_ow1 mw_713), (List.forall_mem_cons.mpr ⟨(mz_ow1 mw_714), (List.forall_mem_cons.mpr ⟨(mz_ow2 mn_666 rfl rfl), (fun _ h => absurd h List.not_mem_nil)⟩)⟩)⟩)⟩)⟩)⟩)⟩)⟩)⟩)⟩)⟩)⟩)⟩)⟩)⟩)⟩, (List.forall_mem_cons.mpr ⟨(mz_ow1 mw_1041), (List.forall_mem_cons.mpr ⟨(mz_ow1 mw_1032), (List.forall_mem_cons.mpr ⟨(mz_ow2 mn_1033 rfl rfl), (List.forall_mem_cons.mpr ⟨(mz_ow1 mw_1034), (List.forall_mem_cons.mpr ⟨(mz_ow1 mw_696), (List.forall_mem_cons.mpr ⟨(mz_ow1 mw_1035), (List.forall_mem_cons.mpr ⟨(mz_ow1 mw_1036), (List.forall_mem_cons.mpr ⟨(mz_ow1 mw_1037), (List.forall_mem_cons.mpr ⟨(mz_ow1 mw_1038), (List.forall_mem_cons.mpr ⟨(mz_ow3 no_U), (List.forall_mem_cons.mpr ⟨(mz_ow3 no_N), (List.forall_mem_cons.mpr ⟨(mz_ow1 mw_679), (List.forall_mem_cons.mpr ⟨(mz_ow1 mw_678), (List.forall_mem_cons.mpr ⟨(mz_ow1 mw_1039), (fun _ h => absurd h List.not_mem_nil)⟩)⟩)⟩)⟩)⟩)⟩)⟩)⟩)⟩)⟩)⟩)⟩)⟩)⟩)⟩
theorem at_252 : ∀ w ∈ zx_atoms RX11 252 "java/lang/ArithmeticException" 7 prog_16_method_2_code ["java/lang/RuntimeException", "java/lang/Exception"], mz_ow w := List.forall_mem_append.mpr ⟨List.forall_mem_append.mpr ⟨List.forall_mem_append.mpr ⟨at_T, at_S⟩, show ∀ w ∈ ([Cond.instanceMethod ⟨"java/lang/ArithmeticException", "<init>", "(Ljava/lang/String;)V"⟩, Cond.code ⟨"java/lang/ArithmeticException", "<init>", "(Ljava/lang/String;)V"⟩ prog_16_method_2_code 2 none, Cond.methodLink "java/lang/ArithmeticException" 7 ⟨"java/lang/RuntimeException", "<init>", "(Ljava/lang/String;)V"⟩, Cond.instanceMethod ⟨"java/lang/RuntimeException", "<init>", "(Ljava/lang/String;)V"⟩, Cond.declares ⟨"java/lang/RuntimeException", "<init>", "(Ljava/lang/String;)V"⟩, Cond.instanceMethod ⟨"java/lang/RuntimeException", "<init>", "(Ljava/lang/String;)V"⟩, Cond.code ⟨"java/lang/RuntimeException", "<init>", "(Ljava/lang/String;)V"⟩ prog_24_method_2_code 2 none, Cond.methodLink "java/lang/RuntimeException" 7 ⟨"java/lang/Exception", "<init>", "(Ljava/lang/String;)V"⟩, Cond.instanceMethod ⟨"java/lang/Exception", "<init>", "(Ljava/lang/String;)V"⟩, Cond.declares ⟨"java/lang/Exception", "<init>", "(Ljava/lang/String;)V"⟩, Cond.instanceMethod ⟨"java/lang/Exception", "<init>", "(Ljava/lang/String;)V"⟩, Cond.code ⟨"java/lang/Exception", "<init>", "(Ljava/lang/String;)V"⟩ prog_18_method_2_code 2 none, Cond.methodLink "java/lang/Exception" 7 ⟨"java/lang/Throwable", "<init>", "(Ljava/lang/String;)V"⟩, Cond.instanceMethod ⟨"java/lang/Throwable", "<init>", "(Ljava/lang/String;)V"⟩, Cond.declares ⟨"java/lang/Throwable", "<init>", "(Ljava/lang/String;)V"⟩] : List Cond), mz_ow w from (List.forall_mem_cons.mpr ⟨(mz_ow1 mw_1160), (List.forall_mem_cons.mpr ⟨(mz_ow1 mw_1161), (List.forall_mem_cons.mpr ⟨(mz_ow1 mw_1162), (List.forall_mem_cons.mpr ⟨(mz_ow1 mw_708), (List.forall_mem_cons.mpr ⟨(mz_ow2 mn_662 rfl rfl), (List.forall_mem_cons.mpr ⟨(mz_ow1 mw_708), (List.forall_mem_cons.mpr ⟨(mz_ow1 mw_709), (List.forall_mem_cons.mpr ⟨(mz_ow1 mw_710), (List.forall_mem_cons.mpr ⟨(mz_ow1 mw_711), (List.forall_mem_cons.mpr ⟨(mz_ow2 mn_664 rfl rfl), (List.forall_mem_cons.mpr ⟨(mz_ow1 mw_711), (List.forall_mem_cons.mpr ⟨(mz_ow1 mw_712), (List.forall_mem_cons.mpr ⟨(mz_ow1 mw_713), (List.forall_mem_cons.mpr ⟨(mz_ow1 mw_714), (List.forall_mem_cons.mpr ⟨(mz_ow2 mn_666 rfl rfl), (fun _ h => absurd h List.not_mem_nil)⟩)⟩)⟩)⟩)⟩)⟩)⟩)⟩)⟩)⟩)⟩)⟩)⟩)⟩)⟩)⟩, (List.forall_mem_cons.mpr ⟨(mz_ow1 mw_1178), (List.forall_mem_cons.mpr ⟨(mz_ow1 mw_1159), (List.forall_mem_cons.mpr ⟨(mz_ow2 mn_1170 rfl rfl), (List.forall_mem_cons.mpr ⟨(mz_ow1 mw_1171), (List.forall_mem_cons.mpr ⟨(mz_ow1 mw_691), (List.forall_mem_cons.mpr ⟨(mz_ow1 mw_1165), (List.forall_mem_cons.mpr ⟨(mz_ow1 mw_1166), (List.forall_mem_cons.mpr ⟨(mz_ow1 mw_1168), (List.forall_mem_cons.mpr ⟨(mz_ow1 mw_1164), (List.forall_mem_cons.mpr ⟨(mz_ow3 no_U), (List.forall_mem_cons.mpr ⟨(mz_ow3 no_N), (List.forall_mem_cons.mpr ⟨(mz_ow1 mw_679), (List.forall_mem_cons.mpr ⟨(mz_ow1 mw_678), (List.forall_mem_cons.mpr ⟨(mz_ow1 mw_1163), (fun _ h => absurd h List.not_mem_nil)⟩)⟩)⟩)⟩)⟩)⟩)⟩)⟩)⟩)⟩)⟩)⟩)⟩)⟩)⟩
theorem at_294 : ∀ w ∈ zx_atoms RX11 294 "java/lang/IllegalStateException" 7 prog_20_method_2_code ["java/lang/RuntimeException", "java/lang/Exception"], mz_ow w := List.forall_mem_append.mpr ⟨List.forall_mem_append.mpr ⟨List.forall_mem_append.mpr ⟨at_T, at_S⟩, show ∀ w ∈ ([Cond.instanceMethod ⟨"java/lang/IllegalStateException", "<init>", "(Ljava/lang/String;)V"⟩, Cond.code ⟨"java/lang/IllegalStateException", "<init>", "(Ljava/lang/String;)V"⟩ prog_20_method_2_code 2 none, Cond.methodLink "java/lang/IllegalStateException" 7 ⟨"java/lang/RuntimeException", "<init>", "(Ljava/lang/String;)V"⟩, Cond.instanceMethod ⟨"java/lang/RuntimeException", "<init>", "(Ljava/lang/String;)V"⟩, Cond.declares ⟨"java/lang/RuntimeException", "<init>", "(Ljava/lang/String;)V"⟩, Cond.instanceMethod ⟨"java/lang/RuntimeException", "<init>", "(Ljava/lang/String;)V"⟩, Cond.code ⟨"java/lang/RuntimeException", "<init>", "(Ljava/lang/String;)V"⟩ prog_24_method_2_code 2 none, Cond.methodLink "java/lang/RuntimeException" 7 ⟨"java/lang/Exception", "<init>", "(Ljava/lang/String;)V"⟩, Cond.instanceMethod ⟨"java/lang/Exception", "<init>", "(Ljava/lang/String;)V"⟩, Cond.declares ⟨"java/lang/Exception", "<init>", "(Ljava/lang/String;)V"⟩, Cond.instanceMethod ⟨"java/lang/Exception", "<init>", "(Ljava/lang/String;)V"⟩, Cond.code ⟨"java/lang/Exception", "<init>", "(Ljava/lang/String;)V"⟩ prog_18_method_2_code 2 none, Cond.methodLink "java/lang/Exception" 7 ⟨"java/lang/Throwable", "<init>", "(Ljava/lang/String;)V"⟩, Cond.instanceMethod ⟨"java/lang/Throwable", "<init>", "(Ljava/lang/String;)V"⟩, Cond.declares ⟨"java/lang/Throwable", "<init>", "(Ljava/lang/String;)V"⟩] : List Cond), mz_ow w from (List.forall_mem_cons.mpr ⟨(mz_ow1 mw_765), (List.forall_mem_cons.mpr ⟨(mz_ow1 mw_766), (List.forall_mem_cons.mpr ⟨(mz_ow1 mw_767), (List.forall_mem_cons.mpr ⟨(mz_ow1 mw_708), (List.forall_mem_cons.mpr ⟨(mz_ow2 mn_662 rfl rfl), (List.forall_mem_cons.mpr ⟨(mz_ow1 mw_708), (List.forall_mem_cons.mpr ⟨(mz_ow1 mw_709), (List.forall_mem_cons.mpr ⟨(mz_ow1 mw_710), (List.forall_mem_cons.mpr ⟨(mz_ow1 mw_711), (List.forall_mem_cons.mpr ⟨(mz_ow2 mn_664 rfl rfl), (List.forall_mem_cons.mpr ⟨(mz_ow1 mw_711), (List.forall_mem_cons.mpr ⟨(mz_ow1 mw_712), (List.forall_mem_cons.mpr ⟨(mz_ow1 mw_713), (List.forall_mem_cons.mpr ⟨(mz_ow1 mw_714), (List.forall_mem_cons.mpr ⟨(mz_ow2 mn_666 rfl rfl), (fun _ h => absurd h List.not_mem_nil)⟩)⟩)⟩)⟩)⟩)⟩)⟩)⟩)⟩)⟩)⟩)⟩)⟩)⟩)⟩)⟩, (List.forall_mem_cons.mpr ⟨(mz_ow1 mw_764), (List.forall_mem_cons.mpr ⟨(mz_ow1 mw_755), (List.forall_mem_cons.mpr ⟨(mz_ow2 mn_756 rfl rfl), (List.forall_mem_cons.mpr ⟨(mz_ow1 mw_757), (List.forall_mem_cons.mpr ⟨(mz_ow1 mw_693), (List.forall_mem_cons.mpr ⟨(mz_ow1 mw_758), (List.forall_mem_cons.mpr ⟨(mz_ow1 mw_759), (List.forall_mem_cons.mpr ⟨(mz_ow1 mw_760), (List.forall_mem_cons.mpr ⟨(mz_ow1 mw_761), (List.forall_mem_cons.mpr ⟨(mz_ow3 no_U), (List.forall_mem_cons.mpr ⟨(mz_ow3 no_N), (List.forall_mem_cons.mpr ⟨(mz_ow1 mw_679), (List.forall_mem_cons.mpr ⟨(mz_ow1 mw_678), (List.forall_mem_cons.mpr ⟨(mz_ow1 mw_762), (fun _ h => absurd h List.not_mem_nil)⟩)⟩)⟩)⟩)⟩)⟩)⟩)⟩)⟩)⟩)⟩)⟩)⟩)⟩)⟩
end MWS
