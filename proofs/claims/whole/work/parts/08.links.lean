/-! ===== methods, links: by wip/whole/gen08.py ===== -/
theorem tq_in {w : Cond} (h : w ∈ tables_1) (hg : goodWord w = true) : w ∈ tb := List.mem_filter.mpr ⟨List.mem_append_right _ h, hg⟩
theorem tq1 {w : Cond} (h : w ∈ tables_1_1) (hg : goodWord w = true) : w ∈ tb := tq_in (List.mem_append_left _ h) hg
theorem tq2 {w : Cond} (h : w ∈ tables_1_2) (hg : goodWord w = true) : w ∈ tb := tq_in (List.mem_append_right _ (List.mem_append_left _ h)) hg
theorem tq3 {w : Cond} (h : w ∈ tables_1_3) (hg : goodWord w = true) : w ∈ tb := tq_in (List.mem_append_right _ (List.mem_append_right _ (List.mem_append_left _ h))) hg
theorem tq4 {w : Cond} (h : w ∈ tables_1_4) (hg : goodWord w = true) : w ∈ tb := tq_in (List.mem_append_right _ (List.mem_append_right _ (List.mem_append_right _ (List.mem_append_left _ h)))) hg
theorem tq5 {w : Cond} (h : w ∈ tables_1_5) (hg : goodWord w = true) : w ∈ tb := tq_in (List.mem_append_right _ (List.mem_append_right _ (List.mem_append_right _ (List.mem_append_right _ (List.mem_append_left _ h))))) hg
theorem tq6 {w : Cond} (h : w ∈ tables_1_6) (hg : goodWord w = true) : w ∈ tb := tq_in (List.mem_append_right _ (List.mem_append_right _ (List.mem_append_right _ (List.mem_append_right _ (List.mem_append_right _ (List.mem_append_left _ h)))))) hg
theorem tq7 {w : Cond} (h : w ∈ tables_1_7) (hg : goodWord w = true) : w ∈ tb := tq_in (List.mem_append_right _ (List.mem_append_right _ (List.mem_append_right _ (List.mem_append_right _ (List.mem_append_right _ (List.mem_append_right _ (List.mem_append_left _ h))))))) hg
theorem tq8 {w : Cond} (h : w ∈ tables_1_8) (hg : goodWord w = true) : w ∈ tb := tq_in (List.mem_append_right _ (List.mem_append_right _ (List.mem_append_right _ (List.mem_append_right _ (List.mem_append_right _ (List.mem_append_right _ (List.mem_append_right _ (List.mem_append_left _ h)))))))) hg
theorem tq9 {w : Cond} (h : w ∈ tables_1_9) (hg : goodWord w = true) : w ∈ tb := tq_in (List.mem_append_right _ (List.mem_append_right _ (List.mem_append_right _ (List.mem_append_right _ (List.mem_append_right _ (List.mem_append_right _ (List.mem_append_right _ (List.mem_append_right _ (List.mem_append_left _ h))))))))) hg
theorem tq10 {w : Cond} (h : w ∈ tables_1_10) (hg : goodWord w = true) : w ∈ tb := tq_in (List.mem_append_right _ (List.mem_append_right _ (List.mem_append_right _ (List.mem_append_right _ (List.mem_append_right _ (List.mem_append_right _ (List.mem_append_right _ (List.mem_append_right _ (List.mem_append_right _ (h)))))))))) hg
theorem iX0 : Cond.initialized RX0 ∈ tb := tq1 (List.mem_of_getElem? (i := 6) rfl) rfl
theorem iX1 : Cond.initialized RX1 ∈ tb := tq1 (List.mem_of_getElem? (i := 8) rfl) rfl
theorem iX2 : Cond.initialized RX2 ∈ tb := tq1 (List.mem_of_getElem? (i := 3) rfl) rfl
theorem iX3 : Cond.initialized RX3 ∈ tb := tq1 (List.mem_of_getElem? (i := 10) rfl) rfl
theorem iX4 : Cond.initialized RX4 ∈ tb := tq1 (List.mem_of_getElem? (i := 5) rfl) rfl
theorem iX5 : Cond.initialized RX5 ∈ tb := tq1 (List.mem_of_getElem? (i := 7) rfl) rfl
theorem iX6 : Cond.initialized RX6 ∈ tb := tq1 (List.mem_of_getElem? (i := 2) rfl) rfl
theorem iX7 : Cond.initialized RX7 ∈ tb := tq1 (List.mem_of_getElem? (i := 11) rfl) rfl
theorem iX8 : Cond.initialized RX8 ∈ tb := tq1 (List.mem_of_getElem? (i := 9) rfl) rfl
theorem iX9 : Cond.initialized RX9 ∈ tb := tq1 (List.mem_of_getElem? (i := 4) rfl) rfl
theorem iX10 : Cond.initialized RX10 ∈ tb := tq1 (List.mem_of_getElem? (i := 1) rfl) rfl
theorem iX11 : Cond.initialized RX11 ∈ tb := tq1 (List.mem_of_getElem? (i := 20) rfl) rfl
theorem iX12 : Cond.initialized RX12 ∈ tb := tq1 (List.mem_of_getElem? (i := 12) rfl) rfl
theorem iJ6 : Cond.initialized RJ6 ∈ tb := tq1 (List.mem_of_getElem? (i := 18) rfl) rfl
theorem iJ9 : Cond.initialized RJ9 ∈ tb := tq1 (List.mem_of_getElem? (i := 13) rfl) rfl
theorem iJ0 : Cond.initialized RJ0 ∈ tb := tq1 (List.mem_of_getElem? (i := 14) rfl) rfl
theorem iJ1 : Cond.initialized RJ1 ∈ tb := tq1 (List.mem_of_getElem? (i := 15) rfl) rfl
theorem iJ2 : Cond.initialized RJ2 ∈ tb := tq1 (List.mem_of_getElem? (i := 17) rfl) rfl
theorem iJ3 : Cond.initialized RJ3 ∈ tb := tq1 (List.mem_of_getElem? (i := 16) rfl) rfl
theorem iL : Cond.initialized RL ∈ tb := tq1 (List.mem_of_getElem? (i := 0) rfl) rfl
abbrev mX0_init : MD := (⟨RX0, "<init>", "()V"⟩, prog_2_method_1_code, 1, none, 1)
abbrev mX0_drawUp : MD := (⟨RX0, "drawUp", "(LElderTurn$Family;LElderTurn$Now;)V"⟩, prog_2_method_2_code, 4, none, 1)
abbrev mX0_enterPeople : MD := (⟨RX0, "enterPeople", "(ILElderTurn$Family;LElderTurn$Now;)V"⟩, prog_2_method_3_code, 7, none, 0)
abbrev mX0_enterHarm : MD := (⟨RX0, "enterHarm", "(ILElderTurn$Family;)V"⟩, prog_2_method_4_code, 5, none, 0)
abbrev mX1_init : MD := (⟨RX1, "<init>", "(LElderTurn$World;)V"⟩, prog_3_method_1_code, 2, none, 2)
abbrev mX1_write : MD := (⟨RX1, "write", "()V"⟩, prog_3_method_2_code, 3, none, 4)
abbrev mX1_writeNotes : MD := (⟨RX1, "writeNotes", "(II)V"⟩, prog_3_method_3_code, 3, none, 3)
abbrev mX1_turnsBehind : MD := (⟨RX1, "turnsBehind", "(II)I"⟩, prog_3_method_4_code, 5, (some .int), 0)
abbrev mX1_harmTo : MD := (⟨RX1, "harmTo", "(I)I"⟩, prog_3_method_5_code, 4, (some .int), 0)
abbrev mX1_firstTurn : MD := (⟨RX1, "firstTurn", "(I)I"⟩, prog_3_method_6_code, 3, (some .int), 0)
abbrev mX1_lastTurn : MD := (⟨RX1, "lastTurn", "(I)I"⟩, prog_3_method_7_code, 3, (some .int), 0)
abbrev mX1_firstKnowing : MD := (⟨RX1, "firstKnowing", "(II)I"⟩, prog_3_method_8_code, 4, (some .int), 1)
abbrev mX1_knowers : MD := (⟨RX1, "knowers", "(I)I"⟩, prog_3_method_9_code, 4, (some .int), 1)
abbrev mX1_deadInTurn : MD := (⟨RX1, "deadInTurn", "(I)I"⟩, prog_3_method_10_code, 5, (some .int), 1)
abbrev mX2_init : MD := (⟨RX2, "<init>", "()V"⟩, prog_4_method_1_code, 1, none, 1)
abbrev mX2_clear : MD := (⟨RX2, "clear", "()V"⟩, prog_4_method_2_code, 2, none, 0)
abbrev mX2_weightOf : MD := (⟨RX2, "weightOf", "(I)I"⟩, prog_4_method_3_code, 4, (some .int), 0)
abbrev mX3_init : MD := (⟨RX3, "<init>", "(LElderTurn$World;)V"⟩, prog_5_method_1_code, 2, none, 1)
abbrev mX3_begin : MD := (⟨RX3, "begin", "()V"⟩, prog_5_method_2_code, 2, none, 0)
abbrev mX3_takeTurn : MD := (⟨RX3, "takeTurn", "(IZ)V"⟩, prog_5_method_3_code, 3, none, 2)
abbrev mX3_readAs : MD := (⟨RX3, "readAs", "(I)V"⟩, prog_5_method_4_code, 3, none, 1)
abbrev mX3_writeAs : MD := (⟨RX3, "writeAs", "(I)V"⟩, prog_5_method_5_code, 4, none, 1)
abbrev mX4_init : MD := (⟨RX4, "<init>", "()V"⟩, prog_6_method_1_code, 1, none, 1)
abbrev mX4_startFrom : MD := (⟨RX4, "startFrom", "(LElderTurn$Family;)V"⟩, prog_6_method_2_code, 3, none, 0)
abbrev mX4_copyFrom : MD := (⟨RX4, "copyFrom", "(LElderTurn$Now;)V"⟩, prog_6_method_3_code, 2, none, 1)
abbrev mX4_addBuy : MD := (⟨RX4, "addBuy", "(IIII)V"⟩, prog_6_method_4_code, 6, none, 0)
abbrev mX5_init : MD := (⟨RX5, "<init>", "()V"⟩, prog_7_method_1_code, 2, none, 2)
abbrev mX5_forget : MD := (⟨RX5, "forget", "()V"⟩, prog_7_method_2_code, 1, none, 0)
abbrev mX5_keepAct : MD := (⟨RX5, "keepAct", "(LElderTurn$Now;)V"⟩, prog_7_method_3_code, 2, none, 2)
abbrev mX5_dropOldest : MD := (⟨RX5, "dropOldest", "()V"⟩, prog_7_method_4_code, 3, none, 0)
abbrev mX5_takeBack : MD := (⟨RX5, "takeBack", "(LElderTurn$Now;)Z"⟩, prog_7_method_5_code, 2, (some .boolean), 2)
abbrev mX5_setMark : MD := (⟨RX5, "setMark", "(LElderTurn$Now;)I"⟩, prog_7_method_6_code, 2, (some .int), 2)
abbrev mX5_goBack : MD := (⟨RX5, "goBack", "(ILElderTurn$Now;)Z"⟩, prog_7_method_7_code, 3, (some .boolean), 2)
abbrev mX6_init : MD := (⟨RX6, "<init>", "()V"⟩, prog_8_method_1_code, 1, none, 2)
abbrev mX6_putBytes : MD := (⟨RX6, "putBytes", "(I)V"⟩, prog_8_method_2_code, 3, none, 0)
abbrev mX6_readText : MD := (⟨RX6, "readText", "(I)Z"⟩, prog_8_method_3_code, 4, (some .boolean), 11)
abbrev mX6_fail : MD := (⟨RX6, "fail", "(I)Z"⟩, prog_8_method_4_code, 2, (some .boolean), 0)
abbrev mX6_advance : MD := (⟨RX6, "advance", "()V"⟩, prog_8_method_5_code, 1, none, 1)
abbrev mX6_endOfRun : MD := (⟨RX6, "endOfRun", "(CC)I"⟩, prog_8_method_6_code, 4, (some .int), 0)
abbrev mX6_wholeOf : MD := (⟨RX6, "wholeOf", "(II)I"⟩, prog_8_method_7_code, 5, (some .int), 0)
abbrev mX6_sees : MD := (⟨RX6, "sees", "(Ljava/lang/String;)Z"⟩, prog_8_method_8_code, 3, (some .boolean), 6)
abbrev mX6_takeWord : MD := (⟨RX6, "takeWord", "(Ljava/lang/String;)Z"⟩, prog_8_method_9_code, 2, (some .boolean), 7)
abbrev mX6_takeChoice : MD := (⟨RX6, "takeChoice", "([III)Z"⟩, prog_8_method_10_code, 4, (some .boolean), 2)
abbrev mX6_takeWhole : MD := (⟨RX6, "takeWhole", "([IIII)Z"⟩, prog_8_method_11_code, 5, (some .boolean), 2)
abbrev mX6_seenName : MD := (⟨RX6, "seenName", "()I"⟩, prog_8_method_12_code, 2, (some .int), 1)
abbrev mX6_standsAt : MD := (⟨RX6, "standsAt", "(I)Z"⟩, prog_8_method_13_code, 3, (some .boolean), 0)
abbrev mX6_takeNewName : MD := (⟨RX6, "takeNewName", "(ZI)Z"⟩, prog_8_method_14_code, 3, (some .boolean), 8)
abbrev mX6_takeName : MD := (⟨RX6, "takeName", "([IIZ)Z"⟩, prog_8_method_15_code, 5, (some .boolean), 8)
abbrev mX6_failAtName : MD := (⟨RX6, "failAtName", "(I)Z"⟩, prog_8_method_16_code, 2, (some .boolean), 0)
abbrev mX6_seenLine : MD := (⟨RX6, "seenLine", "()I"⟩, prog_8_method_17_code, 1, (some .int), 7)
abbrev mX6_isFull : MD := (⟨RX6, "isFull", "(I)Z"⟩, prog_8_method_18_code, 2, (some .boolean), 0)
abbrev mX6_readLine : MD := (⟨RX6, "readLine", "()Z"⟩, prog_8_method_19_code, 3, (some .boolean), 10)
abbrev mX6_readFamily : MD := (⟨RX6, "readFamily", "()Z"⟩, prog_8_method_20_code, 1, (some .boolean), 8)
abbrev mX6_seenLaw : MD := (⟨RX6, "seenLaw", "()I"⟩, prog_8_method_21_code, 1, (some .int), 7)
abbrev mX6_readPerson : MD := (⟨RX6, "readPerson", "([I)Z"⟩, prog_8_method_22_code, 2, (some .boolean), 9)
abbrev mX6_seenKind : MD := (⟨RX6, "seenKind", "()I"⟩, prog_8_method_23_code, 1, (some .int), 7)
abbrev mX6_seenSide : MD := (⟨RX6, "seenSide", "()I"⟩, prog_8_method_24_code, 1, (some .int), 7)
abbrev mX6_seenAge : MD := (⟨RX6, "seenAge", "()I"⟩, prog_8_method_25_code, 1, (some .int), 7)
abbrev mX6_readPlan : MD := (⟨RX6, "readPlan", "([I)Z"⟩, prog_8_method_26_code, 2, (some .boolean), 9)
abbrev mX6_readDies : MD := (⟨RX6, "readDies", "()Z"⟩, prog_8_method_27_code, 2, (some .boolean), 9)
abbrev mX6_readBuys : MD := (⟨RX6, "readBuys", "([I)Z"⟩, prog_8_method_28_code, 2, (some .boolean), 9)
abbrev mX6_readSecret : MD := (⟨RX6, "readSecret", "()Z"⟩, prog_8_method_29_code, 1, (some .boolean), 9)
abbrev mX6_readHides : MD := (⟨RX6, "readHides", "()Z"⟩, prog_8_method_30_code, 3, (some .boolean), 9)
abbrev mX6_readDiary : MD := (⟨RX6, "readDiary", "([II)Z"⟩, prog_8_method_31_code, 3, (some .boolean), 9)
abbrev mX7_init : MD := (⟨RX7, "<init>", "(LElderTurn$World;)V"⟩, prog_9_method_1_code, 2, none, 2)
abbrev mX7_forget : MD := (⟨RX7, "forget", "()V"⟩, prog_9_method_2_code, 2, none, 0)
abbrev mX7_find : MD := (⟨RX7, "find", "(I)I"⟩, prog_9_method_3_code, 4, (some .int), 5)
abbrev mX7_clearWishes : MD := (⟨RX7, "clearWishes", "()V"⟩, prog_9_method_4_code, 2, none, 0)
abbrev mX7_wishAnew : MD := (⟨RX7, "wishAnew", "(I)Z"⟩, prog_9_method_5_code, 3, (some .boolean), 1)
abbrev mX7_tryRow : MD := (⟨RX7, "tryRow", "(I)I"⟩, prog_9_method_6_code, 3, (some .int), 4)
abbrev mX7_meetWish : MD := (⟨RX7, "meetWish", "(I)Z"⟩, prog_9_method_7_code, 5, (some .boolean), 2)
abbrev mX7_findChains : MD := (⟨RX7, "findChains", "()V"⟩, prog_9_method_8_code, 3, none, 4)
abbrev mX7_passNotes : MD := (⟨RX7, "passNotes", "()I"⟩, prog_9_method_9_code, 3, (some .int), 3)
abbrev mX7_learn : MD := (⟨RX7, "learn", "(II)V"⟩, prog_9_method_10_code, 5, none, 1)
abbrev mX8_init : MD := (⟨RX8, "<init>", "(LElderTurn$World;)V"⟩, prog_10_method_1_code, 2, none, 1)
abbrev mX8_begin : MD := (⟨RX8, "begin", "(II)V"⟩, prog_10_method_2_code, 4, none, 0)
abbrev mX8_passYears : MD := (⟨RX8, "passYears", "()V"⟩, prog_10_method_3_code, 2, none, 4)
abbrev mX8_passYear : MD := (⟨RX8, "passYear", "(I)V"⟩, prog_10_method_4_code, 3, none, 3)
abbrev mX8_whoIsThere : MD := (⟨RX8, "whoIsThere", "(I)I"⟩, prog_10_method_5_code, 2, (some .int), 0)
abbrev mX8_whoCan : MD := (⟨RX8, "whoCan", "(I)I"⟩, prog_10_method_6_code, 2, (some .int), 0)
abbrev mX8_whoComes : MD := (⟨RX8, "whoComes", "(I)I"⟩, prog_10_method_7_code, 5, (some .int), 1)
abbrev mX8_whoByLaw : MD := (⟨RX8, "whoByLaw", "(I)I"⟩, prog_10_method_8_code, 3, (some .int), 2)
abbrev mX8_nextRound : MD := (⟨RX8, "nextRound", "(I)I"⟩, prog_10_method_9_code, 4, (some .int), 1)
abbrev mX8_fewestTurns : MD := (⟨RX8, "fewestTurns", "(I)I"⟩, prog_10_method_10_code, 7, (some .int), 0)
abbrev mX8_byAge : MD := (⟨RX8, "byAge", "(II)I"⟩, prog_10_method_11_code, 7, (some .int), 0)
abbrev mX8_drawn : MD := (⟨RX8, "drawn", "(I)I"⟩, prog_10_method_12_code, 5, (some .int), 1)
abbrev mX8_voted : MD := (⟨RX8, "voted", "(II)I"⟩, prog_10_method_13_code, 10, (some .int), 1)
abbrev mX8_inPlaceOf : MD := (⟨RX8, "inPlaceOf", "(II)I"⟩, prog_10_method_14_code, 3, (some .int), 1)
abbrev mX8_soldTo : MD := (⟨RX8, "soldTo", "(II)I"⟩, prog_10_method_15_code, 9, (some .int), 1)
abbrev mX8_pay : MD := (⟨RX8, "pay", "(III)I"⟩, prog_10_method_16_code, 4, (some .int), 0)
abbrev mX8_takeTurn : MD := (⟨RX8, "takeTurn", "(II)V"⟩, prog_10_method_17_code, 3, none, 0)
abbrev mX8_spread : MD := (⟨RX8, "spread", "()I"⟩, prog_10_method_18_code, 6, (some .int), 1)
abbrev mX9_init : MD := (⟨RX9, "<init>", "()V"⟩, prog_11_method_1_code, 1, none, 2)
abbrev mX10_init : MD := (⟨RX10, "<init>", "()V"⟩, prog_1_method_1_code, 1, none, 3)
abbrev mX10_feed : MD := (⟨RX10, "feed", "(IIIII)I"⟩, prog_1_method_2_code, 6, (some .int), 1)
abbrev mX10_family : MD := (⟨RX10, "family", "(I)I"⟩, prog_1_method_3_code, 3, (some .int), 12)
abbrev mX10_fault : MD := (⟨RX10, "fault", "()I"⟩, prog_1_method_4_code, 1, (some .int), 0)
abbrev mX10_where : MD := (⟨RX10, "where", "()I"⟩, prog_1_method_5_code, 1, (some .int), 0)
abbrev mX10_person : MD := (⟨RX10, "person", "(II)I"⟩, prog_1_method_6_code, 4, (some .int), 1)
abbrev mX10_plan : MD := (⟨RX10, "plan", "(II)I"⟩, prog_1_method_7_code, 3, (some .int), 1)
abbrev mX10_secret : MD := (⟨RX10, "secret", "(I)I"⟩, prog_1_method_8_code, 2, (some .int), 1)
abbrev mX10_elder : MD := (⟨RX10, "elder", "(I)I"⟩, prog_1_method_9_code, 3, (some .int), 2)
abbrev mX10_empty : MD := (⟨RX10, "empty", "(I)I"⟩, prog_1_method_10_code, 3, (some .int), 2)
abbrev mX10_there : MD := (⟨RX10, "there", "(I)I"⟩, prog_1_method_11_code, 3, (some .int), 2)
abbrev mX10_can : MD := (⟨RX10, "can", "(I)I"⟩, prog_1_method_12_code, 3, (some .int), 2)
abbrev mX10_age : MD := (⟨RX10, "age", "(II)I"⟩, prog_1_method_13_code, 5, (some .int), 2)
abbrev mX10_turnsOf : MD := (⟨RX10, "turnsOf", "(II)I"⟩, prog_1_method_14_code, 4, (some .int), 2)
abbrev mX10_strength : MD := (⟨RX10, "strength", "(II)I"⟩, prog_1_method_15_code, 4, (some .int), 2)
abbrev mX10_knows : MD := (⟨RX10, "knows", "(II)I"⟩, prog_1_method_16_code, 4, (some .int), 2)
abbrev mX10_box : MD := (⟨RX10, "box", "(I)I"⟩, prog_1_method_17_code, 3, (some .int), 2)
abbrev mX10_kept : MD := (⟨RX10, "kept", "(II)I"⟩, prog_1_method_18_code, 4, (some .int), 1)
abbrev mX10_harm : MD := (⟨RX10, "harm", "(I)I"⟩, prog_1_method_19_code, 3, (some .int), 2)
abbrev mX10_harmAll : MD := (⟨RX10, "harmAll", "()I"⟩, prog_1_method_20_code, 1, (some .int), 1)
abbrev mX10_harmOf : MD := (⟨RX10, "harmOf", "(I)I"⟩, prog_1_method_21_code, 2, (some .int), 1)
abbrev mX10_purse : MD := (⟨RX10, "purse", "(I)I"⟩, prog_1_method_22_code, 2, (some .int), 1)
abbrev mX10_first : MD := (⟨RX10, "first", "(I)I"⟩, prog_1_method_23_code, 2, (some .int), 1)
abbrev mX10_last : MD := (⟨RX10, "last", "(I)I"⟩, prog_1_method_24_code, 2, (some .int), 1)
abbrev mX10_fair : MD := (⟨RX10, "fair", "()I"⟩, prog_1_method_25_code, 1, (some .int), 2)
abbrev mX10_deaths : MD := (⟨RX10, "deaths", "()I"⟩, prog_1_method_26_code, 1, (some .int), 1)
abbrev mX10_soonest : MD := (⟨RX10, "soonest", "(II)I"⟩, prog_1_method_27_code, 3, (some .int), 2)
abbrev mX10_know : MD := (⟨RX10, "know", "(I)I"⟩, prog_1_method_28_code, 2, (some .int), 2)
abbrev mX10_byLaw : MD := (⟨RX10, "byLaw", "(II)I"⟩, prog_1_method_29_code, 3, (some .int), 6)
abbrev mX10_bestLaw : MD := (⟨RX10, "bestLaw", "(I)I"⟩, prog_1_method_30_code, 6, (some .int), 6)
abbrev mX10_row : MD := (⟨RX10, "row", "(I)I"⟩, prog_1_method_31_code, 3, (some .int), 6)
abbrev mX10_rowAt : MD := (⟨RX10, "rowAt", "(II)I"⟩, prog_1_method_32_code, 4, (some .int), 6)
abbrev mX10_chain : MD := (⟨RX10, "chain", "(II)I"⟩, prog_1_method_33_code, 3, (some .int), 5)
abbrev mX10_trade : MD := (⟨RX10, "trade", "(II)I"⟩, prog_1_method_34_code, 3, (some .int), 6)
abbrev mX10_bestTrade : MD := (⟨RX10, "bestTrade", "()I"⟩, prog_1_method_35_code, 7, (some .int), 6)
abbrev mX10_fits : MD := (⟨RX10, "fits", "()I"⟩, prog_1_method_36_code, 3, (some .int), 6)
abbrev mX10_seeds : MD := (⟨RX10, "seeds", "(I)I"⟩, prog_1_method_37_code, 5, (some .int), 6)
abbrev mX10_firstSeed : MD := (⟨RX10, "firstSeed", "(I)I"⟩, prog_1_method_38_code, 4, (some .int), 6)
abbrev mX10_power : MD := (⟨RX10, "power", "(I)I"⟩, prog_1_method_39_code, 3, (some .int), 2)
abbrev mX10_stands : MD := (⟨RX10, "stands", "(IZ)J"⟩, prog_1_method_40_code, 9, (some .long), 1)
abbrev mX10_mean : MD := (⟨RX10, "mean", "(III)I"⟩, prog_1_method_41_code, 6, (some .int), 5)
abbrev mX10_buy : MD := (⟨RX10, "buy", "(IIII)Z"⟩, prog_1_method_42_code, 5, (some .boolean), 6)
abbrev mX10_death : MD := (⟨RX10, "death", "(II)Z"⟩, prog_1_method_43_code, 3, (some .boolean), 6)
abbrev mX10_law : MD := (⟨RX10, "law", "(I)Z"⟩, prog_1_method_44_code, 2, (some .boolean), 6)
abbrev mX10_seed : MD := (⟨RX10, "seed", "(I)Z"⟩, prog_1_method_45_code, 2, (some .boolean), 6)
abbrev mX10_undo : MD := (⟨RX10, "undo", "()Z"⟩, prog_1_method_46_code, 1, (some .boolean), 6)
abbrev mX10_mark : MD := (⟨RX10, "mark", "()I"⟩, prog_1_method_47_code, 2, (some .int), 3)
abbrev mX10_back : MD := (⟨RX10, "back", "(I)Z"⟩, prog_1_method_48_code, 2, (some .boolean), 6)
abbrev mX10_led : MD := (⟨RX10, "led", "(I)I"⟩, prog_1_method_49_code, 3, (some .int), 2)
abbrev mX10_size : MD := (⟨RX10, "size", "(I)I"⟩, prog_1_method_50_code, 3, (some .int), 0)
abbrev mX10_trouble : MD := (⟨RX10, "trouble", "()I"⟩, prog_1_method_51_code, 1, (some .int), 0)
abbrev mX10_refuse : MD := (⟨RX10, "refuse", "(I)I"⟩, prog_1_method_52_code, 2, (some .int), 0)
abbrev mX10_grant : MD := (⟨RX10, "grant", "(I)I"⟩, prog_1_method_53_code, 2, (some .int), 0)
abbrev mX10_deny : MD := (⟨RX10, "deny", "(I)Z"⟩, prog_1_method_54_code, 2, (some .boolean), 0)
abbrev mX10_acted : MD := (⟨RX10, "acted", "()Z"⟩, prog_1_method_55_code, 1, (some .boolean), 5)
abbrev mX10_isNoPerson : MD := (⟨RX10, "isNoPerson", "(I)Z"⟩, prog_1_method_56_code, 2, (some .boolean), 0)
abbrev mX10_isNoPair : MD := (⟨RX10, "isNoPair", "(II)Z"⟩, prog_1_method_57_code, 3, (some .boolean), 1)
abbrev mX10_isNoSecret : MD := (⟨RX10, "isNoSecret", "(I)Z"⟩, prog_1_method_58_code, 2, (some .boolean), 0)
abbrev mX10_isNoYear : MD := (⟨RX10, "isNoYear", "(I)Z"⟩, prog_1_method_59_code, 2, (some .boolean), 0)
abbrev mX10_isNoLaw : MD := (⟨RX10, "isNoLaw", "(I)Z"⟩, prog_1_method_60_code, 1, (some .boolean), 0)
abbrev mX10_isNoMeasure : MD := (⟨RX10, "isNoMeasure", "(I)Z"⟩, prog_1_method_61_code, 1, (some .boolean), 0)
abbrev mX10_isNoSeed : MD := (⟨RX10, "isNoSeed", "(I)Z"⟩, prog_1_method_62_code, 1, (some .boolean), 0)
abbrev mX10_yearTrouble : MD := (⟨RX10, "yearTrouble", "(I)I"⟩, prog_1_method_63_code, 2, (some .int), 1)
abbrev mX10_personYearTrouble : MD := (⟨RX10, "personYearTrouble", "(II)I"⟩, prog_1_method_64_code, 3, (some .int), 1)
abbrev mX10_rowTrouble : MD := (⟨RX10, "rowTrouble", "(I)I"⟩, prog_1_method_65_code, 2, (some .int), 0)
abbrev mX10_seedsTrouble : MD := (⟨RX10, "seedsTrouble", "(I)I"⟩, prog_1_method_66_code, 2, (some .int), 0)
abbrev mX10_measureByLaw : MD := (⟨RX10, "measureByLaw", "(II)I"⟩, prog_1_method_67_code, 3, (some .int), 5)
abbrev mX10_harmOfTrade : MD := (⟨RX10, "harmOfTrade", "(II)I"⟩, prog_1_method_68_code, 3, (some .int), 5)
abbrev mX10_diariesFit : MD := (⟨RX10, "diariesFit", "(II)Z"⟩, prog_1_method_69_code, 7, (some .boolean), 5)
abbrev mX10_swayedSets : MD := (⟨RX10, "swayedSets", "(II)I"⟩, prog_1_method_70_code, 9, (some .int), 1)
abbrev mX10_has : MD := (⟨RX10, "has", "(II)Z"⟩, prog_1_method_71_code, 2, (some .boolean), 0)
abbrev mX10_commonPart : MD := (⟨RX10, "commonPart", "(JJ)J"⟩, prog_1_method_72_code, 11, (some .long), 0)
abbrev mX11_init : MD := (⟨RX11, "<init>", "()V"⟩, prog_14_method_1_code, 1, none, 1)
abbrev mX11_find : MD := (⟨RX11, "find", "(J)I"⟩, prog_14_method_2_code, 4, (some .int), 0)
abbrev mX11_age : MD := (⟨RX11, "age", "(II)I"⟩, prog_14_method_3_code, 3, (some .int), 0)
abbrev mX11_isBorn : MD := (⟨RX11, "isBorn", "(II)Z"⟩, prog_14_method_4_code, 3, (some .boolean), 0)
abbrev mX12_init : MD := (⟨RX12, "<init>", "()V"⟩, prog_13_method_1_code, 1, none, 1)
abbrev mX12_thrown : MD := (⟨RX12, "thrown", "()I"⟩, prog_13_method_2_code, 1, (some .int), 0)
abbrev mX12_refused : MD := (⟨RX12, "refused", "(I)I"⟩, prog_13_method_3_code, 2, (some .int), 0)
abbrev mX12_denied : MD := (⟨RX12, "denied", "(I)Z"⟩, prog_13_method_4_code, 2, (some .boolean), 1)
abbrev mX12_refusedFar : MD := (⟨RX12, "refusedFar", "(I)I"⟩, prog_13_method_5_code, 2, (some .int), 1)
abbrev mX12_good : MD := (⟨RX12, "good", "(I)I"⟩, prog_13_method_6_code, 2, (some .int), 0)
abbrev mX12_granted : MD := (⟨RX12, "granted", "()Z"⟩, prog_13_method_7_code, 1, (some .boolean), 1)
abbrev mX12_in : MD := (⟨RX12, "in", "(III)Z"⟩, prog_13_method_8_code, 3, (some .boolean), 0)
abbrev mX12_bit : MD := (⟨RX12, "bit", "(II)Z"⟩, prog_13_method_9_code, 2, (some .boolean), 0)
abbrev mX12_byteAt : MD := (⟨RX12, "byteAt", "(I)I"⟩, prog_13_method_11_code, 2, (some .int), 0)
abbrev mX12_isLetter : MD := (⟨RX12, "isLetter", "(I)Z"⟩, prog_13_method_12_code, 1, (some .boolean), 0)
abbrev mX12_isDigit : MD := (⟨RX12, "isDigit", "(I)Z"⟩, prog_13_method_13_code, 1, (some .boolean), 0)
abbrev mX12_wordOf : MD := (⟨RX12, "wordOf", "(Ljava/lang/String;)J"⟩, prog_13_method_14_code, 4, (some .long), 6)
abbrev mX12_goesOn : MD := (⟨RX12, "goesOn", "()V"⟩, prog_13_method_15_code, 3, none, 1)
abbrev mX12_flaw : MD := (⟨RX12, "flaw", "(I)V"⟩, prog_13_method_16_code, 2, none, 0)
abbrev mX12_isWord : MD := (⟨RX12, "isWord", "(Ljava/lang/String;)Z"⟩, prog_13_method_17_code, 2, (some .boolean), 7)
abbrev mX12_eatsSemicolon : MD := (⟨RX12, "eatsSemicolon", "()Z"⟩, prog_13_method_18_code, 2, (some .boolean), 2)
abbrev mX12_needs : MD := (⟨RX12, "needs", "(Ljava/lang/String;)V"⟩, prog_13_method_19_code, 2, none, 8)
abbrev mX12_readWhole : MD := (⟨RX12, "readWhole", "(II)I"⟩, prog_13_method_20_code, 4, (some .int), 2)
abbrev mX12_readPart : MD := (⟨RX12, "readPart", "(Ljava/lang/String;II)I"⟩, prog_13_method_21_code, 4, (some .int), 9)
abbrev mX12_readYear : MD := (⟨RX12, "readYear", "(I)I"⟩, prog_13_method_22_code, 2, (some .int), 3)
abbrev mX12_isName : MD := (⟨RX12, "isName", "()Z"⟩, prog_13_method_23_code, 1, (some .boolean), 8)
abbrev mX12_begins : MD := (⟨RX12, "begins", "(II)V"⟩, prog_13_method_24_code, 3, none, 2)
abbrev mX12_readFresh : MD := (⟨RX12, "readFresh", "()J"⟩, prog_13_method_25_code, 3, (some .long), 9)
abbrev mX12_names : MD := (⟨RX12, "names", "(JZI)V"⟩, prog_13_method_26_code, 5, none, 0)
abbrev mX12_known : MD := (⟨RX12, "known", "(Z)I"⟩, prog_13_method_27_code, 3, (some .int), 9)
abbrev mX12_readPerson : MD := (⟨RX12, "readPerson", "()I"⟩, prog_13_method_28_code, 2, (some .int), 10)
abbrev mX12_readAll : MD := (⟨RX12, "readAll", "()V"⟩, prog_13_method_29_code, 2, none, 13)
abbrev mX12_readLine : MD := (⟨RX12, "readLine", "()V"⟩, prog_13_method_30_code, 1, none, 12)
abbrev mX12_readFamily : MD := (⟨RX12, "readFamily", "()V"⟩, prog_13_method_31_code, 4, none, 10)
abbrev mX12_readKind : MD := (⟨RX12, "readKind", "()I"⟩, prog_13_method_32_code, 2, (some .int), 8)
abbrev mX12_readPersonLine : MD := (⟨RX12, "readPersonLine", "()V"⟩, prog_13_method_33_code, 11, none, 10)
abbrev mX12_readPlan : MD := (⟨RX12, "readPlan", "()V"⟩, prog_13_method_34_code, 5, none, 11)
abbrev mX12_readDies : MD := (⟨RX12, "readDies", "()V"⟩, prog_13_method_35_code, 3, none, 10)
abbrev mX12_readBuys : MD := (⟨RX12, "readBuys", "()V"⟩, prog_13_method_36_code, 5, none, 11)
abbrev mX12_readSecret : MD := (⟨RX12, "readSecret", "()V"⟩, prog_13_method_37_code, 4, none, 11)
abbrev mX12_readHides : MD := (⟨RX12, "readHides", "()V"⟩, prog_13_method_38_code, 4, none, 11)
abbrev mX12_readDiary : MD := (⟨RX12, "readDiary", "(Z)V"⟩, prog_13_method_39_code, 4, none, 11)
abbrev mX12_feed : MD := (⟨RX12, "feed", "(IIIII)I"⟩, prog_13_method_40_code, 8, (some .int), 0)
abbrev mX12_family : MD := (⟨RX12, "family", "(I)I"⟩, prog_13_method_41_code, 3, (some .int), 14)
abbrev mX12_fault : MD := (⟨RX12, "fault", "()I"⟩, prog_13_method_42_code, 1, (some .int), 0)
abbrev mX12_where : MD := (⟨RX12, "where", "()I"⟩, prog_13_method_43_code, 1, (some .int), 0)
abbrev mX12_runs : MD := (⟨RX12, "runs", "()V"⟩, prog_13_method_44_code, 1, none, 7)
abbrev mX12_runsBy : MD := (⟨RX12, "runsBy", "(II)V"⟩, prog_13_method_45_code, 3, none, 6)
abbrev mX12_goes : MD := (⟨RX12, "goes", "(III)V"⟩, prog_13_method_46_code, 5, none, 5)
abbrev mX12_isThere : MD := (⟨RX12, "isThere", "(II)Z"⟩, prog_13_method_47_code, 3, (some .boolean), 1)
abbrev mX12_thereIn : MD := (⟨RX12, "thereIn", "(I)I"⟩, prog_13_method_48_code, 4, (some .int), 2)
abbrev mX12_isAble : MD := (⟨RX12, "isAble", "(II)Z"⟩, prog_13_method_49_code, 3, (some .boolean), 2)
abbrev mX12_counted : MD := (⟨RX12, "counted", "(I)I"⟩, prog_13_method_50_code, 2, (some .int), 0)
abbrev mX12_isSecond : MD := (⟨RX12, "isSecond", "(I)Z"⟩, prog_13_method_51_code, 3, (some .boolean), 1)
abbrev mX12_year : MD := (⟨RX12, "year", "(I)V"⟩, prog_13_method_52_code, 4, none, 4)
abbrev mX12_traded : MD := (⟨RX12, "traded", "(II)I"⟩, prog_13_method_53_code, 4, (some .int), 1)
abbrev mX12_bought : MD := (⟨RX12, "bought", "(II)I"⟩, prog_13_method_54_code, 5, (some .int), 2)
abbrev mX12_sold : MD := (⟨RX12, "sold", "(IIIII)I"⟩, prog_13_method_55_code, 6, (some .int), 1)
abbrev mX12_lawful : MD := (⟨RX12, "lawful", "(I)I"⟩, prog_13_method_56_code, 3, (some .int), 3)
abbrev mX12_foremost : MD := (⟨RX12, "foremost", "(IIZ)I"⟩, prog_13_method_57_code, 7, (some .int), 1)
abbrev mX12_drawnOf : MD := (⟨RX12, "drawnOf", "(I)I"⟩, prog_13_method_58_code, 6, (some .int), 2)
abbrev mX12_branchOf : MD := (⟨RX12, "branchOf", "(II)I"⟩, prog_13_method_59_code, 5, (some .int), 1)
abbrev mX12_voted : MD := (⟨RX12, "voted", "(I)I"⟩, prog_13_method_60_code, 6, (some .int), 2)
abbrev mX12_sits : MD := (⟨RX12, "sits", "(II)V"⟩, prog_13_method_61_code, 5, none, 1)
abbrev mX12_fairNow : MD := (⟨RX12, "fairNow", "()I"⟩, prog_13_method_62_code, 4, (some .int), 1)
abbrev mX12_emptyYears : MD := (⟨RX12, "emptyYears", "()I"⟩, prog_13_method_63_code, 3, (some .int), 0)
abbrev mX12_isPerson : MD := (⟨RX12, "isPerson", "(I)Z"⟩, prog_13_method_64_code, 2, (some .boolean), 0)
abbrev mX12_isSecretNumber : MD := (⟨RX12, "isSecretNumber", "(I)Z"⟩, prog_13_method_65_code, 2, (some .boolean), 0)
abbrev mX12_isYear : MD := (⟨RX12, "isYear", "(I)Z"⟩, prog_13_method_66_code, 2, (some .boolean), 0)
abbrev mX12_asksYear : MD := (⟨RX12, "asksYear", "(ZI)I"⟩, prog_13_method_67_code, 3, (some .int), 8)
abbrev mX12_asks : MD := (⟨RX12, "asks", "(Z)Z"⟩, prog_13_method_68_code, 2, (some .boolean), 8)
abbrev mX12_person : MD := (⟨RX12, "person", "(II)I"⟩, prog_13_method_69_code, 3, (some .int), 1)
abbrev mX12_plan : MD := (⟨RX12, "plan", "(II)I"⟩, prog_13_method_70_code, 3, (some .int), 1)
abbrev mX12_secret : MD := (⟨RX12, "secret", "(I)I"⟩, prog_13_method_71_code, 2, (some .int), 1)
abbrev mX12_elder : MD := (⟨RX12, "elder", "(I)I"⟩, prog_13_method_72_code, 3, (some .int), 9)
abbrev mX12_empty : MD := (⟨RX12, "empty", "(I)I"⟩, prog_13_method_73_code, 3, (some .int), 9)
abbrev mX12_there : MD := (⟨RX12, "there", "(I)I"⟩, prog_13_method_74_code, 3, (some .int), 9)
abbrev mX12_can : MD := (⟨RX12, "can", "(I)I"⟩, prog_13_method_75_code, 3, (some .int), 9)
abbrev mX12_age : MD := (⟨RX12, "age", "(II)I"⟩, prog_13_method_76_code, 4, (some .int), 9)
abbrev mX12_turnsOf : MD := (⟨RX12, "turnsOf", "(II)I"⟩, prog_13_method_77_code, 4, (some .int), 9)
abbrev mX12_strength : MD := (⟨RX12, "strength", "(II)I"⟩, prog_13_method_78_code, 4, (some .int), 9)
abbrev mX12_knows : MD := (⟨RX12, "knows", "(II)I"⟩, prog_13_method_79_code, 4, (some .int), 9)
abbrev mX12_box : MD := (⟨RX12, "box", "(I)I"⟩, prog_13_method_80_code, 3, (some .int), 9)
abbrev mX12_kept : MD := (⟨RX12, "kept", "(II)I"⟩, prog_13_method_81_code, 4, (some .int), 9)
abbrev mX12_harm : MD := (⟨RX12, "harm", "(I)I"⟩, prog_13_method_82_code, 3, (some .int), 9)
abbrev mX12_harmAll : MD := (⟨RX12, "harmAll", "()I"⟩, prog_13_method_83_code, 1, (some .int), 9)
abbrev mX12_harmOf : MD := (⟨RX12, "harmOf", "(I)I"⟩, prog_13_method_84_code, 2, (some .int), 9)
abbrev mX12_purse : MD := (⟨RX12, "purse", "(I)I"⟩, prog_13_method_85_code, 2, (some .int), 9)
abbrev mX12_first : MD := (⟨RX12, "first", "(I)I"⟩, prog_13_method_86_code, 3, (some .int), 9)
abbrev mX12_last : MD := (⟨RX12, "last", "(I)I"⟩, prog_13_method_87_code, 3, (some .int), 9)
abbrev mX12_fair : MD := (⟨RX12, "fair", "()I"⟩, prog_13_method_88_code, 1, (some .int), 9)
abbrev mX12_deaths : MD := (⟨RX12, "deaths", "()I"⟩, prog_13_method_89_code, 1, (some .int), 9)
abbrev mX12_soonest : MD := (⟨RX12, "soonest", "(II)I"⟩, prog_13_method_90_code, 4, (some .int), 9)
abbrev mX12_know : MD := (⟨RX12, "know", "(I)I"⟩, prog_13_method_91_code, 4, (some .int), 9)
abbrev mX12_by : MD := (⟨RX12, "by", "(II)I"⟩, prog_13_method_92_code, 3, (some .int), 7)
abbrev mX12_byLaw : MD := (⟨RX12, "byLaw", "(II)I"⟩, prog_13_method_93_code, 3, (some .int), 8)
abbrev mX12_bestLaw : MD := (⟨RX12, "bestLaw", "(I)I"⟩, prog_13_method_94_code, 6, (some .int), 8)
abbrev mX12_tries : MD := (⟨RX12, "tries", "(IZ)V"⟩, prog_13_method_95_code, 6, none, 7)
abbrev mX12_choices : MD := (⟨RX12, "choices", "(I)I"⟩, prog_13_method_96_code, 5, (some .int), 6)
abbrev mX12_ends : MD := (⟨RX12, "ends", "(IZ)V"⟩, prog_13_method_97_code, 4, none, 6)
abbrev mX12_refusesRow : MD := (⟨RX12, "refusesRow", "(I)I"⟩, prog_13_method_98_code, 2, (some .int), 1)
abbrev mX12_row : MD := (⟨RX12, "row", "(I)I"⟩, prog_13_method_99_code, 3, (some .int), 8)
abbrev mX12_rowAt : MD := (⟨RX12, "rowAt", "(II)I"⟩, prog_13_method_100_code, 4, (some .int), 8)
abbrev mX12_chain : MD := (⟨RX12, "chain", "(II)I"⟩, prog_13_method_101_code, 4, (some .int), 8)
abbrev mX12_tradeOf : MD := (⟨RX12, "tradeOf", "(II)I"⟩, prog_13_method_102_code, 4, (some .int), 8)
abbrev mX12_trade : MD := (⟨RX12, "trade", "(II)I"⟩, prog_13_method_103_code, 3, (some .int), 9)
abbrev mX12_bestTrade : MD := (⟨RX12, "bestTrade", "()I"⟩, prog_13_method_104_code, 6, (some .int), 9)
abbrev mX12_fitsNow : MD := (⟨RX12, "fitsNow", "()Z"⟩, prog_13_method_105_code, 2, (some .boolean), 0)
abbrev mX12_fits : MD := (⟨RX12, "fits", "()I"⟩, prog_13_method_106_code, 3, (some .int), 7)
abbrev mX12_fitting : MD := (⟨RX12, "fitting", "(I)I"⟩, prog_13_method_107_code, 4, (some .int), 7)
abbrev mX12_refusesMany : MD := (⟨RX12, "refusesMany", "(I)I"⟩, prog_13_method_108_code, 2, (some .int), 1)
abbrev mX12_seeds : MD := (⟨RX12, "seeds", "(I)I"⟩, prog_13_method_109_code, 3, (some .int), 8)
abbrev mX12_firstSeed : MD := (⟨RX12, "firstSeed", "(I)I"⟩, prog_13_method_110_code, 3, (some .int), 8)
abbrev mX12_weight : MD := (⟨RX12, "weight", "(I)I"⟩, prog_13_method_111_code, 4, (some .int), 1)
abbrev mX12_power : MD := (⟨RX12, "power", "(I)I"⟩, prog_13_method_112_code, 5, (some .int), 9)
abbrev mX12_stands : MD := (⟨RX12, "stands", "(IZ)J"⟩, prog_13_method_113_code, 13, (some .long), 8)
abbrev mX12_mean : MD := (⟨RX12, "mean", "(III)I"⟩, prog_13_method_114_code, 6, (some .int), 7)
abbrev mX12_keepsAll : MD := (⟨RX12, "keepsAll", "()V"⟩, prog_13_method_115_code, 2, none, 0)
abbrev mX12_buy : MD := (⟨RX12, "buy", "(IIII)Z"⟩, prog_13_method_116_code, 6, (some .boolean), 2)
abbrev mX12_death : MD := (⟨RX12, "death", "(II)Z"⟩, prog_13_method_117_code, 3, (some .boolean), 2)
abbrev mX12_law : MD := (⟨RX12, "law", "(I)Z"⟩, prog_13_method_118_code, 2, (some .boolean), 2)
abbrev mX12_seed : MD := (⟨RX12, "seed", "(I)Z"⟩, prog_13_method_119_code, 2, (some .boolean), 2)
abbrev mX12_undo : MD := (⟨RX12, "undo", "()Z"⟩, prog_13_method_120_code, 2, (some .boolean), 2)
abbrev mX12_mark : MD := (⟨RX12, "mark", "()I"⟩, prog_13_method_121_code, 2, (some .int), 1)
abbrev mX12_back : MD := (⟨RX12, "back", "(I)Z"⟩, prog_13_method_122_code, 3, (some .boolean), 2)
abbrev mX12_led : MD := (⟨RX12, "led", "(I)I"⟩, prog_13_method_123_code, 4, (some .int), 8)
abbrev mX12_size : MD := (⟨RX12, "size", "(I)I"⟩, prog_13_method_124_code, 2, (some .int), 1)
abbrev mX12_trouble : MD := (⟨RX12, "trouble", "()I"⟩, prog_13_method_125_code, 1, (some .int), 0)
abbrev mJ6_bitCount_0f7a4 : MD := (⟨RJ6, "bitCount", "(I)I"⟩, prog_19_method_49_code, 1, (some .int), 0)
abbrev mJ0_length_8abf5 : MD := (⟨RJ0, "length", "()I"⟩, prog_22_method_54_code, 1, (some .int), 1)
abbrev mJ0_charAt_5068e : MD := (⟨RJ0, "charAt", "(I)C"⟩, prog_22_method_56_code, 2, (some .char), 5)
abbrev mJ0_coder_7d493 : MD := (⟨RJ0, "coder", "()B"⟩, prog_22_method_152_code, 1, (some .byte), 0)
abbrev mJ0_isLatin1_aae02 : MD := (⟨RJ0, "isLatin1", "()Z"⟩, prog_22_method_154_code, 1, (some .boolean), 0)
abbrev mJ0_checkIndex_df160 : MD := (⟨RJ0, "checkIndex", "(II)V"⟩, prog_22_method_155_code, 2, none, 2)
abbrev mJ1_charAt_3b067 : MD := (⟨RJ1, "charAt", "([BI)C"⟩, prog_23_method_2_code, 2, (some .char), 3)
abbrev mJ2_getChar_3b067 : MD := (⟨RJ2, "getChar", "([BI)C"⟩, prog_24_method_5_code, 2, (some .char), 1)
abbrev mJ2_length_9d52b : MD := (⟨RJ2, "length", "([B)I"⟩, prog_24_method_6_code, 1, (some .int), 0)
abbrev mJ2_charAt_3b067 : MD := (⟨RJ2, "charAt", "([BI)C"⟩, prog_24_method_83_code, 2, (some .char), 4)
abbrev mJ2_checkIndex_2214a : MD := (⟨RJ2, "checkIndex", "(I[B)V"⟩, prog_24_method_91_code, 2, none, 3)
abbrev mJ3_checkIndex_8e157 : MD := (⟨RJ3, "checkIndex", "(IILjava/util/function/BiFunction;)I"⟩, prog_30_method_11_code, 3, (some .int), 1)
theorem oX0_init : MN mX0_init 0 := ⟨⟨by decide, tq2 (List.mem_of_getElem? (i := 10) rfl) rfl, iX0, ⟨by decide, by decide, by decide +kernel⟩, by decide⟩, tq2 (List.mem_of_getElem? (i := 9) rfl) rfl, rfl, rfl⟩
theorem oX0_drawUp : MI mX0_drawUp 2 := ⟨⟨by decide, tq4 (List.mem_of_getElem? (i := 35) rfl) rfl, iX0, ⟨by decide, by decide, by decide +kernel⟩, by decide⟩, tq4 (List.mem_of_getElem? (i := 33) rfl) rfl, tq4 (List.mem_of_getElem? (i := 34) rfl) rfl⟩
theorem oX0_enterPeople : MI mX0_enterPeople 3 := ⟨⟨by decide, tq4 (List.mem_of_getElem? (i := 39) rfl) rfl, iX0, ⟨by decide, by decide, by decide +kernel⟩, by decide⟩, tq4 (List.mem_of_getElem? (i := 38) rfl) rfl, tb_at 30 rfl rfl⟩
theorem oX0_enterHarm : MI mX0_enterHarm 2 := ⟨⟨by decide, tq4 (List.mem_of_getElem? (i := 43) rfl) rfl, iX0, ⟨by decide, by decide, by decide +kernel⟩, by decide⟩, tq4 (List.mem_of_getElem? (i := 42) rfl) rfl, tb_at 31 rfl rfl⟩
theorem oX1_init : MN mX1_init 1 := ⟨⟨by decide, tq2 (List.mem_of_getElem? (i := 79) rfl) rfl, iX1, ⟨by decide, by decide, by decide +kernel⟩, by decide⟩, tq2 (List.mem_of_getElem? (i := 78) rfl) rfl, rfl, rfl⟩
theorem oX1_write : MI mX1_write 0 := ⟨⟨by decide, tq4 (List.mem_of_getElem? (i := 47) rfl) rfl, iX1, ⟨by decide, by decide, by decide +kernel⟩, by decide⟩, tq4 (List.mem_of_getElem? (i := 45) rfl) rfl, tq4 (List.mem_of_getElem? (i := 46) rfl) rfl⟩
theorem oX1_writeNotes : MI mX1_writeNotes 2 := ⟨⟨by decide, tq4 (List.mem_of_getElem? (i := 130) rfl) rfl, iX1, ⟨by decide, by decide, by decide +kernel⟩, by decide⟩, tq4 (List.mem_of_getElem? (i := 129) rfl) rfl, tb_at 41 rfl rfl⟩
theorem oX1_turnsBehind : MI mX1_turnsBehind 2 := ⟨⟨by decide, tq4 (List.mem_of_getElem? (i := 222) rfl) rfl, iX1, ⟨by decide, by decide, by decide +kernel⟩, by decide⟩, tq4 (List.mem_of_getElem? (i := 220) rfl) rfl, tq4 (List.mem_of_getElem? (i := 221) rfl) rfl⟩
theorem oX1_harmTo : MI mX1_harmTo 1 := ⟨⟨by decide, tq5 (List.mem_of_getElem? (i := 15) rfl) rfl, iX1, ⟨by decide, by decide, by decide +kernel⟩, by decide⟩, tq5 (List.mem_of_getElem? (i := 13) rfl) rfl, tq5 (List.mem_of_getElem? (i := 14) rfl) rfl⟩
theorem oX1_firstTurn : MI mX1_firstTurn 1 := ⟨⟨by decide, tq5 (List.mem_of_getElem? (i := 27) rfl) rfl, iX1, ⟨by decide, by decide, by decide +kernel⟩, by decide⟩, tq5 (List.mem_of_getElem? (i := 25) rfl) rfl, tq5 (List.mem_of_getElem? (i := 26) rfl) rfl⟩
theorem oX1_lastTurn : MI mX1_lastTurn 1 := ⟨⟨by decide, tq5 (List.mem_of_getElem? (i := 35) rfl) rfl, iX1, ⟨by decide, by decide, by decide +kernel⟩, by decide⟩, tq5 (List.mem_of_getElem? (i := 33) rfl) rfl, tq5 (List.mem_of_getElem? (i := 34) rfl) rfl⟩
theorem oX1_firstKnowing : MI mX1_firstKnowing 2 := ⟨⟨by decide, tq5 (List.mem_of_getElem? (i := 59) rfl) rfl, iX1, ⟨by decide, by decide, by decide +kernel⟩, by decide⟩, tq5 (List.mem_of_getElem? (i := 57) rfl) rfl, tq5 (List.mem_of_getElem? (i := 58) rfl) rfl⟩
theorem oX1_knowers : MI mX1_knowers 1 := ⟨⟨by decide, tq5 (List.mem_of_getElem? (i := 68) rfl) rfl, iX1, ⟨by decide, by decide, by decide +kernel⟩, by decide⟩, tq5 (List.mem_of_getElem? (i := 66) rfl) rfl, tq5 (List.mem_of_getElem? (i := 67) rfl) rfl⟩
theorem oX1_deadInTurn : MI mX1_deadInTurn 1 := ⟨⟨by decide, tq6 (List.mem_of_getElem? (i := 54) rfl) rfl, iX1, ⟨by decide, by decide, by decide +kernel⟩, by decide⟩, tq6 (List.mem_of_getElem? (i := 52) rfl) rfl, tq6 (List.mem_of_getElem? (i := 53) rfl) rfl⟩
theorem oX2_init : MN mX2_init 0 := ⟨⟨by decide, tq1 (List.mem_of_getElem? (i := 43) rfl) rfl, iX2, ⟨by decide, by decide, by decide +kernel⟩, by decide⟩, tq1 (List.mem_of_getElem? (i := 42) rfl) rfl, rfl, rfl⟩
theorem oX2_clear : MI mX2_clear 0 := ⟨⟨by decide, tq3 (List.mem_of_getElem? (i := 63) rfl) rfl, iX2, ⟨by decide, by decide, by decide +kernel⟩, by decide⟩, tq3 (List.mem_of_getElem? (i := 61) rfl) rfl, tq3 (List.mem_of_getElem? (i := 62) rfl) rfl⟩
theorem oX2_weightOf : MI mX2_weightOf 1 := ⟨⟨by decide, tq4 (List.mem_of_getElem? (i := 110) rfl) rfl, iX2, ⟨by decide, by decide, by decide +kernel⟩, by decide⟩, tq4 (List.mem_of_getElem? (i := 108) rfl) rfl, tq4 (List.mem_of_getElem? (i := 109) rfl) rfl⟩
theorem oX3_init : MN mX3_init 1 := ⟨⟨by decide, tq2 (List.mem_of_getElem? (i := 152) rfl) rfl, iX3, ⟨by decide, by decide, by decide +kernel⟩, by decide⟩, tq2 (List.mem_of_getElem? (i := 151) rfl) rfl, rfl, rfl⟩
theorem oX3_begin : MI mX3_begin 0 := ⟨⟨by decide, tq4 (List.mem_of_getElem? (i := 55) rfl) rfl, iX3, ⟨by decide, by decide, by decide +kernel⟩, by decide⟩, tq4 (List.mem_of_getElem? (i := 53) rfl) rfl, tq4 (List.mem_of_getElem? (i := 54) rfl) rfl⟩
theorem oX3_takeTurn : MI mX3_takeTurn 2 := ⟨⟨by decide, tq4 (List.mem_of_getElem? (i := 134) rfl) rfl, iX3, ⟨by decide, by decide, by decide +kernel⟩, by decide⟩, tq4 (List.mem_of_getElem? (i := 132) rfl) rfl, tq4 (List.mem_of_getElem? (i := 133) rfl) rfl⟩
theorem oX3_readAs : MI mX3_readAs 1 := ⟨⟨by decide, tq4 (List.mem_of_getElem? (i := 138) rfl) rfl, iX3, ⟨by decide, by decide, by decide +kernel⟩, by decide⟩, tq4 (List.mem_of_getElem? (i := 137) rfl) rfl, tb_at 42 rfl rfl⟩
theorem oX3_writeAs : MI mX3_writeAs 1 := ⟨⟨by decide, tq4 (List.mem_of_getElem? (i := 143) rfl) rfl, iX3, ⟨by decide, by decide, by decide +kernel⟩, by decide⟩, tq4 (List.mem_of_getElem? (i := 142) rfl) rfl, tb_at 43 rfl rfl⟩
theorem oX4_init : MN mX4_init 0 := ⟨⟨by decide, tq1 (List.mem_of_getElem? (i := 217) rfl) rfl, iX4, ⟨by decide, by decide, by decide +kernel⟩, by decide⟩, tq1 (List.mem_of_getElem? (i := 216) rfl) rfl, rfl, rfl⟩
theorem oX4_startFrom : MI mX4_startFrom 1 := ⟨⟨by decide, tq4 (List.mem_of_getElem? (i := 23) rfl) rfl, iX4, ⟨by decide, by decide, by decide +kernel⟩, by decide⟩, tq4 (List.mem_of_getElem? (i := 21) rfl) rfl, tq4 (List.mem_of_getElem? (i := 22) rfl) rfl⟩
theorem oX4_copyFrom : MI mX4_copyFrom 1 := ⟨⟨by decide, tq5 (List.mem_of_getElem? (i := 233) rfl) rfl, iX4, ⟨by decide, by decide, by decide +kernel⟩, by decide⟩, tq5 (List.mem_of_getElem? (i := 231) rfl) rfl, tq5 (List.mem_of_getElem? (i := 232) rfl) rfl⟩
theorem oX4_addBuy : MI mX4_addBuy 4 := ⟨⟨by decide, tq5 (List.mem_of_getElem? (i := 238) rfl) rfl, iX4, ⟨by decide, by decide, by decide +kernel⟩, by decide⟩, tq5 (List.mem_of_getElem? (i := 236) rfl) rfl, tq5 (List.mem_of_getElem? (i := 237) rfl) rfl⟩
theorem oX5_init : MN mX5_init 0 := ⟨⟨by decide, tq2 (List.mem_of_getElem? (i := 55) rfl) rfl, iX5, ⟨by decide, by decide, by decide +kernel⟩, by decide⟩, tq2 (List.mem_of_getElem? (i := 54) rfl) rfl, rfl, rfl⟩
theorem oX5_forget : MI mX5_forget 0 := ⟨⟨by decide, tq4 (List.mem_of_getElem? (i := 27) rfl) rfl, iX5, ⟨by decide, by decide, by decide +kernel⟩, by decide⟩, tq4 (List.mem_of_getElem? (i := 25) rfl) rfl, tq4 (List.mem_of_getElem? (i := 26) rfl) rfl⟩
theorem oX5_keepAct : MI mX5_keepAct 1 := ⟨⟨by decide, tq5 (List.mem_of_getElem? (i := 225) rfl) rfl, iX5, ⟨by decide, by decide, by decide +kernel⟩, by decide⟩, tq5 (List.mem_of_getElem? (i := 223) rfl) rfl, tq5 (List.mem_of_getElem? (i := 224) rfl) rfl⟩
theorem oX5_dropOldest : MI mX5_dropOldest 0 := ⟨⟨by decide, tq5 (List.mem_of_getElem? (i := 229) rfl) rfl, iX5, ⟨by decide, by decide, by decide +kernel⟩, by decide⟩, tq5 (List.mem_of_getElem? (i := 228) rfl) rfl, tb_at 64 rfl rfl⟩
theorem oX5_takeBack : MI mX5_takeBack 1 := ⟨⟨by decide, tq6 (List.mem_of_getElem? (i := 18) rfl) rfl, iX5, ⟨by decide, by decide, by decide +kernel⟩, by decide⟩, tq6 (List.mem_of_getElem? (i := 16) rfl) rfl, tq6 (List.mem_of_getElem? (i := 17) rfl) rfl⟩
theorem oX5_setMark : MI mX5_setMark 1 := ⟨⟨by decide, tq6 (List.mem_of_getElem? (i := 26) rfl) rfl, iX5, ⟨by decide, by decide, by decide +kernel⟩, by decide⟩, tq6 (List.mem_of_getElem? (i := 24) rfl) rfl, tq6 (List.mem_of_getElem? (i := 25) rfl) rfl⟩
theorem oX5_goBack : MI mX5_goBack 2 := ⟨⟨by decide, tq6 (List.mem_of_getElem? (i := 34) rfl) rfl, iX5, ⟨by decide, by decide, by decide +kernel⟩, by decide⟩, tq6 (List.mem_of_getElem? (i := 32) rfl) rfl, tq6 (List.mem_of_getElem? (i := 33) rfl) rfl⟩
theorem oX6_init : MN mX6_init 0 := ⟨⟨by decide, tq1 (List.mem_of_getElem? (i := 37) rfl) rfl, iX6, ⟨by decide, by decide, by decide +kernel⟩, by decide⟩, tq1 (List.mem_of_getElem? (i := 36) rfl) rfl, rfl, rfl⟩
theorem oX6_putBytes : MI mX6_putBytes 1 := ⟨⟨by decide, tq3 (List.mem_of_getElem? (i := 44) rfl) rfl, iX6, ⟨by decide, by decide, by decide +kernel⟩, by decide⟩, tq3 (List.mem_of_getElem? (i := 42) rfl) rfl, tq3 (List.mem_of_getElem? (i := 43) rfl) rfl⟩
theorem oX6_readText : MI mX6_readText 1 := ⟨⟨by decide, tq3 (List.mem_of_getElem? (i := 56) rfl) rfl, iX6, ⟨by decide, by decide, by decide +kernel⟩, by decide⟩, tq3 (List.mem_of_getElem? (i := 54) rfl) rfl, tq3 (List.mem_of_getElem? (i := 55) rfl) rfl⟩
theorem oX6_fail : MI mX6_fail 1 := ⟨⟨by decide, tq3 (List.mem_of_getElem? (i := 148) rfl) rfl, iX6, ⟨by decide, by decide, by decide +kernel⟩, by decide⟩, tq3 (List.mem_of_getElem? (i := 147) rfl) rfl, tb_at 7 rfl rfl⟩
theorem oX6_advance : MI mX6_advance 0 := ⟨⟨by decide, tq3 (List.mem_of_getElem? (i := 67) rfl) rfl, iX6, ⟨by decide, by decide, by decide +kernel⟩, by decide⟩, tq3 (List.mem_of_getElem? (i := 66) rfl) rfl, tb_at 1 rfl rfl⟩
theorem oX6_endOfRun : MI mX6_endOfRun 2 := ⟨⟨by decide, tq3 (List.mem_of_getElem? (i := 71) rfl) rfl, iX6, ⟨by decide, by decide, by decide +kernel⟩, by decide⟩, tq3 (List.mem_of_getElem? (i := 70) rfl) rfl, tb_at 2 rfl rfl⟩
theorem oX6_wholeOf : MI mX6_wholeOf 2 := ⟨⟨by decide, tq3 (List.mem_of_getElem? (i := 75) rfl) rfl, iX6, ⟨by decide, by decide, by decide +kernel⟩, by decide⟩, tq3 (List.mem_of_getElem? (i := 74) rfl) rfl, tb_at 3 rfl rfl⟩
theorem oX6_sees : MI mX6_sees 1 := ⟨⟨by decide, tq3 (List.mem_of_getElem? (i := 88) rfl) rfl, iX6, ⟨by decide, by decide, by decide +kernel⟩, by decide⟩, tq3 (List.mem_of_getElem? (i := 87) rfl) rfl, tb_at 6 rfl rfl⟩
theorem oX6_takeWord : MI mX6_takeWord 1 := ⟨⟨by decide, tq3 (List.mem_of_getElem? (i := 161) rfl) rfl, iX6, ⟨by decide, by decide, by decide +kernel⟩, by decide⟩, tq3 (List.mem_of_getElem? (i := 160) rfl) rfl, tb_at 10 rfl rfl⟩
theorem oX6_takeChoice : MI mX6_takeChoice 3 := ⟨⟨by decide, tq3 (List.mem_of_getElem? (i := 179) rfl) rfl, iX6, ⟨by decide, by decide, by decide +kernel⟩, by decide⟩, tq3 (List.mem_of_getElem? (i := 178) rfl) rfl, tb_at 13 rfl rfl⟩
theorem oX6_takeWhole : MI mX6_takeWhole 4 := ⟨⟨by decide, tq3 (List.mem_of_getElem? (i := 165) rfl) rfl, iX6, ⟨by decide, by decide, by decide +kernel⟩, by decide⟩, tq3 (List.mem_of_getElem? (i := 164) rfl) rfl, tb_at 11 rfl rfl⟩
theorem oX6_seenName : MI mX6_seenName 0 := ⟨⟨by decide, tq3 (List.mem_of_getElem? (i := 192) rfl) rfl, iX6, ⟨by decide, by decide, by decide +kernel⟩, by decide⟩, tq3 (List.mem_of_getElem? (i := 191) rfl) rfl, tb_at 16 rfl rfl⟩
theorem oX6_standsAt : MI mX6_standsAt 1 := ⟨⟨by decide, tq3 (List.mem_of_getElem? (i := 196) rfl) rfl, iX6, ⟨by decide, by decide, by decide +kernel⟩, by decide⟩, tq3 (List.mem_of_getElem? (i := 195) rfl) rfl, tb_at 17 rfl rfl⟩
theorem oX6_takeNewName : MI mX6_takeNewName 2 := ⟨⟨by decide, tq3 (List.mem_of_getElem? (i := 188) rfl) rfl, iX6, ⟨by decide, by decide, by decide +kernel⟩, by decide⟩, tq3 (List.mem_of_getElem? (i := 187) rfl) rfl, tb_at 15 rfl rfl⟩
theorem oX6_takeName : MI mX6_takeName 3 := ⟨⟨by decide, tq3 (List.mem_of_getElem? (i := 229) rfl) rfl, iX6, ⟨by decide, by decide, by decide +kernel⟩, by decide⟩, tq3 (List.mem_of_getElem? (i := 228) rfl) rfl, tb_at 22 rfl rfl⟩
theorem oX6_failAtName : MI mX6_failAtName 1 := ⟨⟨by decide, tq3 (List.mem_of_getElem? (i := 239) rfl) rfl, iX6, ⟨by decide, by decide, by decide +kernel⟩, by decide⟩, tq3 (List.mem_of_getElem? (i := 238) rfl) rfl, tb_at 24 rfl rfl⟩
theorem oX6_seenLine : MI mX6_seenLine 0 := ⟨⟨by decide, tq3 (List.mem_of_getElem? (i := 83) rfl) rfl, iX6, ⟨by decide, by decide, by decide +kernel⟩, by decide⟩, tq3 (List.mem_of_getElem? (i := 82) rfl) rfl, tb_at 5 rfl rfl⟩
theorem oX6_isFull : MI mX6_isFull 1 := ⟨⟨by decide, tq3 (List.mem_of_getElem? (i := 152) rfl) rfl, iX6, ⟨by decide, by decide, by decide +kernel⟩, by decide⟩, tq3 (List.mem_of_getElem? (i := 151) rfl) rfl, tb_at 8 rfl rfl⟩
theorem oX6_readLine : MI mX6_readLine 0 := ⟨⟨by decide, tq3 (List.mem_of_getElem? (i := 79) rfl) rfl, iX6, ⟨by decide, by decide, by decide +kernel⟩, by decide⟩, tq3 (List.mem_of_getElem? (i := 78) rfl) rfl, tb_at 4 rfl rfl⟩
theorem oX6_readFamily : MI mX6_readFamily 0 := ⟨⟨by decide, tq3 (List.mem_of_getElem? (i := 156) rfl) rfl, iX6, ⟨by decide, by decide, by decide +kernel⟩, by decide⟩, tq3 (List.mem_of_getElem? (i := 155) rfl) rfl, tb_at 9 rfl rfl⟩
theorem oX6_seenLaw : MI mX6_seenLaw 0 := ⟨⟨by decide, tq3 (List.mem_of_getElem? (i := 170) rfl) rfl, iX6, ⟨by decide, by decide, by decide +kernel⟩, by decide⟩, tq3 (List.mem_of_getElem? (i := 169) rfl) rfl, tb_at 12 rfl rfl⟩
theorem oX6_readPerson : MI mX6_readPerson 1 := ⟨⟨by decide, tq3 (List.mem_of_getElem? (i := 184) rfl) rfl, iX6, ⟨by decide, by decide, by decide +kernel⟩, by decide⟩, tq3 (List.mem_of_getElem? (i := 183) rfl) rfl, tb_at 14 rfl rfl⟩
theorem oX6_seenKind : MI mX6_seenKind 0 := ⟨⟨by decide, tq3 (List.mem_of_getElem? (i := 200) rfl) rfl, iX6, ⟨by decide, by decide, by decide +kernel⟩, by decide⟩, tq3 (List.mem_of_getElem? (i := 199) rfl) rfl, tb_at 18 rfl rfl⟩
theorem oX6_seenSide : MI mX6_seenSide 0 := ⟨⟨by decide, tq3 (List.mem_of_getElem? (i := 210) rfl) rfl, iX6, ⟨by decide, by decide, by decide +kernel⟩, by decide⟩, tq3 (List.mem_of_getElem? (i := 209) rfl) rfl, tb_at 19 rfl rfl⟩
theorem oX6_seenAge : MI mX6_seenAge 0 := ⟨⟨by decide, tq3 (List.mem_of_getElem? (i := 216) rfl) rfl, iX6, ⟨by decide, by decide, by decide +kernel⟩, by decide⟩, tq3 (List.mem_of_getElem? (i := 215) rfl) rfl, tb_at 20 rfl rfl⟩
theorem oX6_readPlan : MI mX6_readPlan 1 := ⟨⟨by decide, tq3 (List.mem_of_getElem? (i := 225) rfl) rfl, iX6, ⟨by decide, by decide, by decide +kernel⟩, by decide⟩, tq3 (List.mem_of_getElem? (i := 224) rfl) rfl, tb_at 21 rfl rfl⟩
theorem oX6_readDies : MI mX6_readDies 0 := ⟨⟨by decide, tq3 (List.mem_of_getElem? (i := 235) rfl) rfl, iX6, ⟨by decide, by decide, by decide +kernel⟩, by decide⟩, tq3 (List.mem_of_getElem? (i := 234) rfl) rfl, tb_at 23 rfl rfl⟩
theorem oX6_readBuys : MI mX6_readBuys 1 := ⟨⟨by decide, tq4 (List.mem_of_getElem? (i := 3) rfl) rfl, iX6, ⟨by decide, by decide, by decide +kernel⟩, by decide⟩, tq4 (List.mem_of_getElem? (i := 2) rfl) rfl, tb_at 25 rfl rfl⟩
theorem oX6_readSecret : MI mX6_readSecret 0 := ⟨⟨by decide, tq4 (List.mem_of_getElem? (i := 8) rfl) rfl, iX6, ⟨by decide, by decide, by decide +kernel⟩, by decide⟩, tq4 (List.mem_of_getElem? (i := 7) rfl) rfl, tb_at 26 rfl rfl⟩
theorem oX6_readHides : MI mX6_readHides 0 := ⟨⟨by decide, tq4 (List.mem_of_getElem? (i := 12) rfl) rfl, iX6, ⟨by decide, by decide, by decide +kernel⟩, by decide⟩, tq4 (List.mem_of_getElem? (i := 11) rfl) rfl, tb_at 27 rfl rfl⟩
theorem oX6_readDiary : MI mX6_readDiary 2 := ⟨⟨by decide, tq4 (List.mem_of_getElem? (i := 19) rfl) rfl, iX6, ⟨by decide, by decide, by decide +kernel⟩, by decide⟩, tq4 (List.mem_of_getElem? (i := 18) rfl) rfl, tb_at 28 rfl rfl⟩
theorem oX7_init : MN mX7_init 1 := ⟨⟨by decide, tq2 (List.mem_of_getElem? (i := 216) rfl) rfl, iX7, ⟨by decide, by decide, by decide +kernel⟩, by decide⟩, tq2 (List.mem_of_getElem? (i := 215) rfl) rfl, rfl, rfl⟩
theorem oX7_forget : MI mX7_forget 0 := ⟨⟨by decide, tq4 (List.mem_of_getElem? (i := 150) rfl) rfl, iX7, ⟨by decide, by decide, by decide +kernel⟩, by decide⟩, tq4 (List.mem_of_getElem? (i := 148) rfl) rfl, tq4 (List.mem_of_getElem? (i := 149) rfl) rfl⟩
theorem oX7_find : MI mX7_find 1 := ⟨⟨by decide, tq5 (List.mem_of_getElem? (i := 104) rfl) rfl, iX7, ⟨by decide, by decide, by decide +kernel⟩, by decide⟩, tq5 (List.mem_of_getElem? (i := 102) rfl) rfl, tq5 (List.mem_of_getElem? (i := 103) rfl) rfl⟩
theorem oX7_clearWishes : MI mX7_clearWishes 0 := ⟨⟨by decide, tq5 (List.mem_of_getElem? (i := 109) rfl) rfl, iX7, ⟨by decide, by decide, by decide +kernel⟩, by decide⟩, tq5 (List.mem_of_getElem? (i := 108) rfl) rfl, tb_at 52 rfl rfl⟩
theorem oX7_wishAnew : MI mX7_wishAnew 1 := ⟨⟨by decide, tq5 (List.mem_of_getElem? (i := 128) rfl) rfl, iX7, ⟨by decide, by decide, by decide +kernel⟩, by decide⟩, tq5 (List.mem_of_getElem? (i := 127) rfl) rfl, tb_at 55 rfl rfl⟩
theorem oX7_tryRow : MI mX7_tryRow 1 := ⟨⟨by decide, tq5 (List.mem_of_getElem? (i := 113) rfl) rfl, iX7, ⟨by decide, by decide, by decide +kernel⟩, by decide⟩, tq5 (List.mem_of_getElem? (i := 112) rfl) rfl, tb_at 53 rfl rfl⟩
theorem oX7_meetWish : MI mX7_meetWish 1 := ⟨⟨by decide, tq5 (List.mem_of_getElem? (i := 118) rfl) rfl, iX7, ⟨by decide, by decide, by decide +kernel⟩, by decide⟩, tq5 (List.mem_of_getElem? (i := 117) rfl) rfl, tb_at 54 rfl rfl⟩
theorem oX7_findChains : MI mX7_findChains 0 := ⟨⟨by decide, tq5 (List.mem_of_getElem? (i := 141) rfl) rfl, iX7, ⟨by decide, by decide, by decide +kernel⟩, by decide⟩, tq5 (List.mem_of_getElem? (i := 139) rfl) rfl, tq5 (List.mem_of_getElem? (i := 140) rfl) rfl⟩
theorem oX7_passNotes : MI mX7_passNotes 0 := ⟨⟨by decide, tq5 (List.mem_of_getElem? (i := 145) rfl) rfl, iX7, ⟨by decide, by decide, by decide +kernel⟩, by decide⟩, tq5 (List.mem_of_getElem? (i := 144) rfl) rfl, tb_at 56 rfl rfl⟩
theorem oX7_learn : MI mX7_learn 2 := ⟨⟨by decide, tq5 (List.mem_of_getElem? (i := 151) rfl) rfl, iX7, ⟨by decide, by decide, by decide +kernel⟩, by decide⟩, tq5 (List.mem_of_getElem? (i := 150) rfl) rfl, tb_at 57 rfl rfl⟩
theorem oX8_init : MN mX8_init 1 := ⟨⟨by decide, tq2 (List.mem_of_getElem? (i := 85) rfl) rfl, iX8, ⟨by decide, by decide, by decide +kernel⟩, by decide⟩, tq2 (List.mem_of_getElem? (i := 84) rfl) rfl, rfl, rfl⟩
theorem oX8_begin : MI mX8_begin 2 := ⟨⟨by decide, tq4 (List.mem_of_getElem? (i := 51) rfl) rfl, iX8, ⟨by decide, by decide, by decide +kernel⟩, by decide⟩, tq4 (List.mem_of_getElem? (i := 49) rfl) rfl, tq4 (List.mem_of_getElem? (i := 50) rfl) rfl⟩
theorem oX8_passYears : MI mX8_passYears 0 := ⟨⟨by decide, tq5 (List.mem_of_getElem? (i := 87) rfl) rfl, iX8, ⟨by decide, by decide, by decide +kernel⟩, by decide⟩, tq5 (List.mem_of_getElem? (i := 85) rfl) rfl, tq5 (List.mem_of_getElem? (i := 86) rfl) rfl⟩
theorem oX8_passYear : MI mX8_passYear 1 := ⟨⟨by decide, tq4 (List.mem_of_getElem? (i := 67) rfl) rfl, iX8, ⟨by decide, by decide, by decide +kernel⟩, by decide⟩, tq4 (List.mem_of_getElem? (i := 65) rfl) rfl, tq4 (List.mem_of_getElem? (i := 66) rfl) rfl⟩
theorem oX8_whoIsThere : MI mX8_whoIsThere 1 := ⟨⟨by decide, tq4 (List.mem_of_getElem? (i := 59) rfl) rfl, iX8, ⟨by decide, by decide, by decide +kernel⟩, by decide⟩, tq4 (List.mem_of_getElem? (i := 57) rfl) rfl, tq4 (List.mem_of_getElem? (i := 58) rfl) rfl⟩
theorem oX8_whoCan : MI mX8_whoCan 1 := ⟨⟨by decide, tq4 (List.mem_of_getElem? (i := 63) rfl) rfl, iX8, ⟨by decide, by decide, by decide +kernel⟩, by decide⟩, tq4 (List.mem_of_getElem? (i := 61) rfl) rfl, tq4 (List.mem_of_getElem? (i := 62) rfl) rfl⟩
theorem oX8_whoComes : MI mX8_whoComes 1 := ⟨⟨by decide, tq4 (List.mem_of_getElem? (i := 71) rfl) rfl, iX8, ⟨by decide, by decide, by decide +kernel⟩, by decide⟩, tq4 (List.mem_of_getElem? (i := 69) rfl) rfl, tq4 (List.mem_of_getElem? (i := 70) rfl) rfl⟩
theorem oX8_whoByLaw : MI mX8_whoByLaw 1 := ⟨⟨by decide, tq4 (List.mem_of_getElem? (i := 77) rfl) rfl, iX8, ⟨by decide, by decide, by decide +kernel⟩, by decide⟩, tq4 (List.mem_of_getElem? (i := 76) rfl) rfl, tb_at 32 rfl rfl⟩
theorem oX8_nextRound : MI mX8_nextRound 1 := ⟨⟨by decide, tq4 (List.mem_of_getElem? (i := 81) rfl) rfl, iX8, ⟨by decide, by decide, by decide +kernel⟩, by decide⟩, tq4 (List.mem_of_getElem? (i := 80) rfl) rfl, tb_at 33 rfl rfl⟩
theorem oX8_fewestTurns : MI mX8_fewestTurns 1 := ⟨⟨by decide, tq4 (List.mem_of_getElem? (i := 85) rfl) rfl, iX8, ⟨by decide, by decide, by decide +kernel⟩, by decide⟩, tq4 (List.mem_of_getElem? (i := 84) rfl) rfl, tb_at 34 rfl rfl⟩
theorem oX8_byAge : MI mX8_byAge 2 := ⟨⟨by decide, tq4 (List.mem_of_getElem? (i := 90) rfl) rfl, iX8, ⟨by decide, by decide, by decide +kernel⟩, by decide⟩, tq4 (List.mem_of_getElem? (i := 89) rfl) rfl, tb_at 35 rfl rfl⟩
theorem oX8_drawn : MI mX8_drawn 1 := ⟨⟨by decide, tq4 (List.mem_of_getElem? (i := 94) rfl) rfl, iX8, ⟨by decide, by decide, by decide +kernel⟩, by decide⟩, tq4 (List.mem_of_getElem? (i := 93) rfl) rfl, tb_at 36 rfl rfl⟩
theorem oX8_voted : MI mX8_voted 2 := ⟨⟨by decide, tq4 (List.mem_of_getElem? (i := 105) rfl) rfl, iX8, ⟨by decide, by decide, by decide +kernel⟩, by decide⟩, tq4 (List.mem_of_getElem? (i := 104) rfl) rfl, tb_at 37 rfl rfl⟩
theorem oX8_inPlaceOf : MI mX8_inPlaceOf 2 := ⟨⟨by decide, tq4 (List.mem_of_getElem? (i := 114) rfl) rfl, iX8, ⟨by decide, by decide, by decide +kernel⟩, by decide⟩, tq4 (List.mem_of_getElem? (i := 113) rfl) rfl, tb_at 38 rfl rfl⟩
theorem oX8_soldTo : MI mX8_soldTo 2 := ⟨⟨by decide, tq4 (List.mem_of_getElem? (i := 118) rfl) rfl, iX8, ⟨by decide, by decide, by decide +kernel⟩, by decide⟩, tq4 (List.mem_of_getElem? (i := 117) rfl) rfl, tb_at 39 rfl rfl⟩
theorem oX8_pay : MI mX8_pay 3 := ⟨⟨by decide, tq4 (List.mem_of_getElem? (i := 122) rfl) rfl, iX8, ⟨by decide, by decide, by decide +kernel⟩, by decide⟩, tq4 (List.mem_of_getElem? (i := 121) rfl) rfl, tb_at 40 rfl rfl⟩
theorem oX8_takeTurn : MI mX8_takeTurn 2 := ⟨⟨by decide, tq4 (List.mem_of_getElem? (i := 126) rfl) rfl, iX8, ⟨by decide, by decide, by decide +kernel⟩, by decide⟩, tq4 (List.mem_of_getElem? (i := 124) rfl) rfl, tq4 (List.mem_of_getElem? (i := 125) rfl) rfl⟩
theorem oX8_spread : MI mX8_spread 0 := ⟨⟨by decide, tq5 (List.mem_of_getElem? (i := 43) rfl) rfl, iX8, ⟨by decide, by decide, by decide +kernel⟩, by decide⟩, tq5 (List.mem_of_getElem? (i := 41) rfl) rfl, tq5 (List.mem_of_getElem? (i := 42) rfl) rfl⟩
theorem oX9_init : MN mX9_init 0 := ⟨⟨by decide, tq1 (List.mem_of_getElem? (i := 209) rfl) rfl, iX9, ⟨by decide, by decide, by decide +kernel⟩, by decide⟩, tq1 (List.mem_of_getElem? (i := 208) rfl) rfl, rfl, rfl⟩
theorem oX10_init : MN mX10_init 0 := ⟨⟨by decide, tq1 (List.mem_of_getElem? (i := 29) rfl) rfl, iX10, ⟨by decide, by decide, by decide +kernel⟩, by decide⟩, tq1 (List.mem_of_getElem? (i := 28) rfl) rfl, rfl, rfl⟩
theorem oX10_feed : MI mX10_feed 5 := ⟨⟨by decide, tq3 (List.mem_of_getElem? (i := 40) rfl) rfl, iX10, ⟨by decide, by decide, by decide +kernel⟩, by decide⟩, tq3 (List.mem_of_getElem? (i := 38) rfl) rfl, tq3 (List.mem_of_getElem? (i := 39) rfl) rfl⟩
theorem oX10_family : MI mX10_family 1 := ⟨⟨by decide, tq3 (List.mem_of_getElem? (i := 48) rfl) rfl, iX10, ⟨by decide, by decide, by decide +kernel⟩, by decide⟩, tq3 (List.mem_of_getElem? (i := 46) rfl) rfl, tq3 (List.mem_of_getElem? (i := 47) rfl) rfl⟩
theorem oX10_fault : MI mX10_fault 0 := ⟨⟨by decide, tq4 (List.mem_of_getElem? (i := 154) rfl) rfl, iX10, ⟨by decide, by decide, by decide +kernel⟩, by decide⟩, tq4 (List.mem_of_getElem? (i := 152) rfl) rfl, tq4 (List.mem_of_getElem? (i := 153) rfl) rfl⟩
theorem oX10_where : MI mX10_where 0 := ⟨⟨by decide, tq4 (List.mem_of_getElem? (i := 158) rfl) rfl, iX10, ⟨by decide, by decide, by decide +kernel⟩, by decide⟩, tq4 (List.mem_of_getElem? (i := 156) rfl) rfl, tq4 (List.mem_of_getElem? (i := 157) rfl) rfl⟩
theorem oX10_person : MI mX10_person 2 := ⟨⟨by decide, tq4 (List.mem_of_getElem? (i := 162) rfl) rfl, iX10, ⟨by decide, by decide, by decide +kernel⟩, by decide⟩, tq4 (List.mem_of_getElem? (i := 160) rfl) rfl, tq4 (List.mem_of_getElem? (i := 161) rfl) rfl⟩
theorem oX10_plan : MI mX10_plan 2 := ⟨⟨by decide, tq4 (List.mem_of_getElem? (i := 174) rfl) rfl, iX10, ⟨by decide, by decide, by decide +kernel⟩, by decide⟩, tq4 (List.mem_of_getElem? (i := 172) rfl) rfl, tq4 (List.mem_of_getElem? (i := 173) rfl) rfl⟩
theorem oX10_secret : MI mX10_secret 1 := ⟨⟨by decide, tq4 (List.mem_of_getElem? (i := 178) rfl) rfl, iX10, ⟨by decide, by decide, by decide +kernel⟩, by decide⟩, tq4 (List.mem_of_getElem? (i := 176) rfl) rfl, tq4 (List.mem_of_getElem? (i := 177) rfl) rfl⟩
theorem oX10_elder : MI mX10_elder 1 := ⟨⟨by decide, tq4 (List.mem_of_getElem? (i := 186) rfl) rfl, iX10, ⟨by decide, by decide, by decide +kernel⟩, by decide⟩, tq4 (List.mem_of_getElem? (i := 184) rfl) rfl, tq4 (List.mem_of_getElem? (i := 185) rfl) rfl⟩
theorem oX10_empty : MI mX10_empty 1 := ⟨⟨by decide, tq4 (List.mem_of_getElem? (i := 198) rfl) rfl, iX10, ⟨by decide, by decide, by decide +kernel⟩, by decide⟩, tq4 (List.mem_of_getElem? (i := 196) rfl) rfl, tq4 (List.mem_of_getElem? (i := 197) rfl) rfl⟩
theorem oX10_there : MI mX10_there 1 := ⟨⟨by decide, tq4 (List.mem_of_getElem? (i := 202) rfl) rfl, iX10, ⟨by decide, by decide, by decide +kernel⟩, by decide⟩, tq4 (List.mem_of_getElem? (i := 200) rfl) rfl, tq4 (List.mem_of_getElem? (i := 201) rfl) rfl⟩
theorem oX10_can : MI mX10_can 1 := ⟨⟨by decide, tq4 (List.mem_of_getElem? (i := 206) rfl) rfl, iX10, ⟨by decide, by decide, by decide +kernel⟩, by decide⟩, tq4 (List.mem_of_getElem? (i := 204) rfl) rfl, tq4 (List.mem_of_getElem? (i := 205) rfl) rfl⟩
theorem oX10_age : MI mX10_age 2 := ⟨⟨by decide, tq4 (List.mem_of_getElem? (i := 210) rfl) rfl, iX10, ⟨by decide, by decide, by decide +kernel⟩, by decide⟩, tq4 (List.mem_of_getElem? (i := 208) rfl) rfl, tq4 (List.mem_of_getElem? (i := 209) rfl) rfl⟩
theorem oX10_turnsOf : MI mX10_turnsOf 2 := ⟨⟨by decide, tq4 (List.mem_of_getElem? (i := 218) rfl) rfl, iX10, ⟨by decide, by decide, by decide +kernel⟩, by decide⟩, tq4 (List.mem_of_getElem? (i := 216) rfl) rfl, tq4 (List.mem_of_getElem? (i := 217) rfl) rfl⟩
theorem oX10_strength : MI mX10_strength 2 := ⟨⟨by decide, tq4 (List.mem_of_getElem? (i := 226) rfl) rfl, iX10, ⟨by decide, by decide, by decide +kernel⟩, by decide⟩, tq4 (List.mem_of_getElem? (i := 224) rfl) rfl, tq4 (List.mem_of_getElem? (i := 225) rfl) rfl⟩
theorem oX10_knows : MI mX10_knows 2 := ⟨⟨by decide, tq4 (List.mem_of_getElem? (i := 230) rfl) rfl, iX10, ⟨by decide, by decide, by decide +kernel⟩, by decide⟩, tq4 (List.mem_of_getElem? (i := 228) rfl) rfl, tq4 (List.mem_of_getElem? (i := 229) rfl) rfl⟩
theorem oX10_box : MI mX10_box 1 := ⟨⟨by decide, tq4 (List.mem_of_getElem? (i := 234) rfl) rfl, iX10, ⟨by decide, by decide, by decide +kernel⟩, by decide⟩, tq4 (List.mem_of_getElem? (i := 232) rfl) rfl, tq4 (List.mem_of_getElem? (i := 233) rfl) rfl⟩
theorem oX10_kept : MI mX10_kept 2 := ⟨⟨by decide, tq4 (List.mem_of_getElem? (i := 238) rfl) rfl, iX10, ⟨by decide, by decide, by decide +kernel⟩, by decide⟩, tq4 (List.mem_of_getElem? (i := 236) rfl) rfl, tq4 (List.mem_of_getElem? (i := 237) rfl) rfl⟩
theorem oX10_harm : MI mX10_harm 1 := ⟨⟨by decide, tq5 (List.mem_of_getElem? (i := 3) rfl) rfl, iX10, ⟨by decide, by decide, by decide +kernel⟩, by decide⟩, tq5 (List.mem_of_getElem? (i := 1) rfl) rfl, tq5 (List.mem_of_getElem? (i := 2) rfl) rfl⟩
theorem oX10_harmAll : MI mX10_harmAll 0 := ⟨⟨by decide, tq5 (List.mem_of_getElem? (i := 7) rfl) rfl, iX10, ⟨by decide, by decide, by decide +kernel⟩, by decide⟩, tq5 (List.mem_of_getElem? (i := 5) rfl) rfl, tq5 (List.mem_of_getElem? (i := 6) rfl) rfl⟩
theorem oX10_harmOf : MI mX10_harmOf 1 := ⟨⟨by decide, tq5 (List.mem_of_getElem? (i := 11) rfl) rfl, iX10, ⟨by decide, by decide, by decide +kernel⟩, by decide⟩, tq5 (List.mem_of_getElem? (i := 9) rfl) rfl, tq5 (List.mem_of_getElem? (i := 10) rfl) rfl⟩
theorem oX10_purse : MI mX10_purse 1 := ⟨⟨by decide, tq5 (List.mem_of_getElem? (i := 19) rfl) rfl, iX10, ⟨by decide, by decide, by decide +kernel⟩, by decide⟩, tq5 (List.mem_of_getElem? (i := 17) rfl) rfl, tq5 (List.mem_of_getElem? (i := 18) rfl) rfl⟩
theorem oX10_first : MI mX10_first 1 := ⟨⟨by decide, tq5 (List.mem_of_getElem? (i := 23) rfl) rfl, iX10, ⟨by decide, by decide, by decide +kernel⟩, by decide⟩, tq5 (List.mem_of_getElem? (i := 21) rfl) rfl, tq5 (List.mem_of_getElem? (i := 22) rfl) rfl⟩
theorem oX10_last : MI mX10_last 1 := ⟨⟨by decide, tq5 (List.mem_of_getElem? (i := 31) rfl) rfl, iX10, ⟨by decide, by decide, by decide +kernel⟩, by decide⟩, tq5 (List.mem_of_getElem? (i := 29) rfl) rfl, tq5 (List.mem_of_getElem? (i := 30) rfl) rfl⟩
theorem oX10_fair : MI mX10_fair 0 := ⟨⟨by decide, tq5 (List.mem_of_getElem? (i := 39) rfl) rfl, iX10, ⟨by decide, by decide, by decide +kernel⟩, by decide⟩, tq5 (List.mem_of_getElem? (i := 37) rfl) rfl, tq5 (List.mem_of_getElem? (i := 38) rfl) rfl⟩
theorem oX10_deaths : MI mX10_deaths 0 := ⟨⟨by decide, tq5 (List.mem_of_getElem? (i := 51) rfl) rfl, iX10, ⟨by decide, by decide, by decide +kernel⟩, by decide⟩, tq5 (List.mem_of_getElem? (i := 49) rfl) rfl, tq5 (List.mem_of_getElem? (i := 50) rfl) rfl⟩
theorem oX10_soonest : MI mX10_soonest 2 := ⟨⟨by decide, tq5 (List.mem_of_getElem? (i := 55) rfl) rfl, iX10, ⟨by decide, by decide, by decide +kernel⟩, by decide⟩, tq5 (List.mem_of_getElem? (i := 53) rfl) rfl, tq5 (List.mem_of_getElem? (i := 54) rfl) rfl⟩
theorem oX10_know : MI mX10_know 1 := ⟨⟨by decide, tq5 (List.mem_of_getElem? (i := 64) rfl) rfl, iX10, ⟨by decide, by decide, by decide +kernel⟩, by decide⟩, tq5 (List.mem_of_getElem? (i := 62) rfl) rfl, tq5 (List.mem_of_getElem? (i := 63) rfl) rfl⟩
theorem oX10_byLaw : MI mX10_byLaw 2 := ⟨⟨by decide, tq5 (List.mem_of_getElem? (i := 72) rfl) rfl, iX10, ⟨by decide, by decide, by decide +kernel⟩, by decide⟩, tq5 (List.mem_of_getElem? (i := 70) rfl) rfl, tq5 (List.mem_of_getElem? (i := 71) rfl) rfl⟩
theorem oX10_bestLaw : MI mX10_bestLaw 1 := ⟨⟨by decide, tq5 (List.mem_of_getElem? (i := 92) rfl) rfl, iX10, ⟨by decide, by decide, by decide +kernel⟩, by decide⟩, tq5 (List.mem_of_getElem? (i := 90) rfl) rfl, tq5 (List.mem_of_getElem? (i := 91) rfl) rfl⟩
theorem oX10_row : MI mX10_row 1 := ⟨⟨by decide, tq5 (List.mem_of_getElem? (i := 96) rfl) rfl, iX10, ⟨by decide, by decide, by decide +kernel⟩, by decide⟩, tq5 (List.mem_of_getElem? (i := 94) rfl) rfl, tq5 (List.mem_of_getElem? (i := 95) rfl) rfl⟩
theorem oX10_rowAt : MI mX10_rowAt 2 := ⟨⟨by decide, tq5 (List.mem_of_getElem? (i := 133) rfl) rfl, iX10, ⟨by decide, by decide, by decide +kernel⟩, by decide⟩, tq5 (List.mem_of_getElem? (i := 131) rfl) rfl, tq5 (List.mem_of_getElem? (i := 132) rfl) rfl⟩
theorem oX10_chain : MI mX10_chain 2 := ⟨⟨by decide, tq5 (List.mem_of_getElem? (i := 137) rfl) rfl, iX10, ⟨by decide, by decide, by decide +kernel⟩, by decide⟩, tq5 (List.mem_of_getElem? (i := 135) rfl) rfl, tq5 (List.mem_of_getElem? (i := 136) rfl) rfl⟩
theorem oX10_trade : MI mX10_trade 2 := ⟨⟨by decide, tq5 (List.mem_of_getElem? (i := 155) rfl) rfl, iX10, ⟨by decide, by decide, by decide +kernel⟩, by decide⟩, tq5 (List.mem_of_getElem? (i := 153) rfl) rfl, tq5 (List.mem_of_getElem? (i := 154) rfl) rfl⟩
theorem oX10_bestTrade : MI mX10_bestTrade 0 := ⟨⟨by decide, tq5 (List.mem_of_getElem? (i := 167) rfl) rfl, iX10, ⟨by decide, by decide, by decide +kernel⟩, by decide⟩, tq5 (List.mem_of_getElem? (i := 165) rfl) rfl, tq5 (List.mem_of_getElem? (i := 166) rfl) rfl⟩
theorem oX10_fits : MI mX10_fits 0 := ⟨⟨by decide, tq5 (List.mem_of_getElem? (i := 172) rfl) rfl, iX10, ⟨by decide, by decide, by decide +kernel⟩, by decide⟩, tq5 (List.mem_of_getElem? (i := 170) rfl) rfl, tq5 (List.mem_of_getElem? (i := 171) rfl) rfl⟩
theorem oX10_seeds : MI mX10_seeds 1 := ⟨⟨by decide, tq5 (List.mem_of_getElem? (i := 180) rfl) rfl, iX10, ⟨by decide, by decide, by decide +kernel⟩, by decide⟩, tq5 (List.mem_of_getElem? (i := 178) rfl) rfl, tq5 (List.mem_of_getElem? (i := 179) rfl) rfl⟩
theorem oX10_firstSeed : MI mX10_firstSeed 1 := ⟨⟨by decide, tq5 (List.mem_of_getElem? (i := 188) rfl) rfl, iX10, ⟨by decide, by decide, by decide +kernel⟩, by decide⟩, tq5 (List.mem_of_getElem? (i := 186) rfl) rfl, tq5 (List.mem_of_getElem? (i := 187) rfl) rfl⟩
theorem oX10_power : MI mX10_power 1 := ⟨⟨by decide, tq5 (List.mem_of_getElem? (i := 192) rfl) rfl, iX10, ⟨by decide, by decide, by decide +kernel⟩, by decide⟩, tq5 (List.mem_of_getElem? (i := 190) rfl) rfl, tq5 (List.mem_of_getElem? (i := 191) rfl) rfl⟩
theorem oX10_stands : MI mX10_stands 2 := ⟨⟨by decide, tq5 (List.mem_of_getElem? (i := 201) rfl) rfl, iX10, ⟨by decide, by decide, by decide +kernel⟩, by decide⟩, tq5 (List.mem_of_getElem? (i := 199) rfl) rfl, tq5 (List.mem_of_getElem? (i := 200) rfl) rfl⟩
theorem oX10_mean : MI mX10_mean 3 := ⟨⟨by decide, tq5 (List.mem_of_getElem? (i := 209) rfl) rfl, iX10, ⟨by decide, by decide, by decide +kernel⟩, by decide⟩, tq5 (List.mem_of_getElem? (i := 207) rfl) rfl, tq5 (List.mem_of_getElem? (i := 208) rfl) rfl⟩
theorem oX10_buy : MI mX10_buy 4 := ⟨⟨by decide, tq5 (List.mem_of_getElem? (i := 217) rfl) rfl, iX10, ⟨by decide, by decide, by decide +kernel⟩, by decide⟩, tq5 (List.mem_of_getElem? (i := 215) rfl) rfl, tq5 (List.mem_of_getElem? (i := 216) rfl) rfl⟩
theorem oX10_death : MI mX10_death 2 := ⟨⟨by decide, tq6 (List.mem_of_getElem? (i := 2) rfl) rfl, iX10, ⟨by decide, by decide, by decide +kernel⟩, by decide⟩, tq6 (List.mem_of_getElem? (i := 0) rfl) rfl, tq6 (List.mem_of_getElem? (i := 1) rfl) rfl⟩
theorem oX10_law : MI mX10_law 1 := ⟨⟨by decide, tq6 (List.mem_of_getElem? (i := 6) rfl) rfl, iX10, ⟨by decide, by decide, by decide +kernel⟩, by decide⟩, tq6 (List.mem_of_getElem? (i := 4) rfl) rfl, tq6 (List.mem_of_getElem? (i := 5) rfl) rfl⟩
theorem oX10_seed : MI mX10_seed 1 := ⟨⟨by decide, tq6 (List.mem_of_getElem? (i := 10) rfl) rfl, iX10, ⟨by decide, by decide, by decide +kernel⟩, by decide⟩, tq6 (List.mem_of_getElem? (i := 8) rfl) rfl, tq6 (List.mem_of_getElem? (i := 9) rfl) rfl⟩
theorem oX10_undo : MI mX10_undo 0 := ⟨⟨by decide, tq6 (List.mem_of_getElem? (i := 14) rfl) rfl, iX10, ⟨by decide, by decide, by decide +kernel⟩, by decide⟩, tq6 (List.mem_of_getElem? (i := 12) rfl) rfl, tq6 (List.mem_of_getElem? (i := 13) rfl) rfl⟩
theorem oX10_mark : MI mX10_mark 0 := ⟨⟨by decide, tq6 (List.mem_of_getElem? (i := 22) rfl) rfl, iX10, ⟨by decide, by decide, by decide +kernel⟩, by decide⟩, tq6 (List.mem_of_getElem? (i := 20) rfl) rfl, tq6 (List.mem_of_getElem? (i := 21) rfl) rfl⟩
theorem oX10_back : MI mX10_back 1 := ⟨⟨by decide, tq6 (List.mem_of_getElem? (i := 30) rfl) rfl, iX10, ⟨by decide, by decide, by decide +kernel⟩, by decide⟩, tq6 (List.mem_of_getElem? (i := 28) rfl) rfl, tq6 (List.mem_of_getElem? (i := 29) rfl) rfl⟩
theorem oX10_led : MI mX10_led 1 := ⟨⟨by decide, tq6 (List.mem_of_getElem? (i := 50) rfl) rfl, iX10, ⟨by decide, by decide, by decide +kernel⟩, by decide⟩, tq6 (List.mem_of_getElem? (i := 48) rfl) rfl, tq6 (List.mem_of_getElem? (i := 49) rfl) rfl⟩
theorem oX10_size : MI mX10_size 1 := ⟨⟨by decide, tq6 (List.mem_of_getElem? (i := 38) rfl) rfl, iX10, ⟨by decide, by decide, by decide +kernel⟩, by decide⟩, tq6 (List.mem_of_getElem? (i := 36) rfl) rfl, tq6 (List.mem_of_getElem? (i := 37) rfl) rfl⟩
theorem oX10_trouble : MI mX10_trouble 0 := ⟨⟨by decide, tq6 (List.mem_of_getElem? (i := 42) rfl) rfl, iX10, ⟨by decide, by decide, by decide +kernel⟩, by decide⟩, tq6 (List.mem_of_getElem? (i := 40) rfl) rfl, tq6 (List.mem_of_getElem? (i := 41) rfl) rfl⟩
theorem oX10_refuse : MI mX10_refuse 1 := ⟨⟨by decide, tq3 (List.mem_of_getElem? (i := 52) rfl) rfl, iX10, ⟨by decide, by decide, by decide +kernel⟩, by decide⟩, tq3 (List.mem_of_getElem? (i := 51) rfl) rfl, tb_at 0 rfl rfl⟩
theorem oX10_grant : MI mX10_grant 1 := ⟨⟨by decide, tq4 (List.mem_of_getElem? (i := 170) rfl) rfl, iX10, ⟨by decide, by decide, by decide +kernel⟩, by decide⟩, tq4 (List.mem_of_getElem? (i := 169) rfl) rfl, tb_at 45 rfl rfl⟩
theorem oX10_deny : MI mX10_deny 1 := ⟨⟨by decide, tq5 (List.mem_of_getElem? (i := 221) rfl) rfl, iX10, ⟨by decide, by decide, by decide +kernel⟩, by decide⟩, tq5 (List.mem_of_getElem? (i := 220) rfl) rfl, tb_at 63 rfl rfl⟩
theorem oX10_acted : MI mX10_acted 0 := ⟨⟨by decide, tq4 (List.mem_of_getElem? (i := 31) rfl) rfl, iX10, ⟨by decide, by decide, by decide +kernel⟩, by decide⟩, tq4 (List.mem_of_getElem? (i := 30) rfl) rfl, tb_at 29 rfl rfl⟩
theorem oX10_isNoPerson : MI mX10_isNoPerson 1 := ⟨⟨by decide, tq4 (List.mem_of_getElem? (i := 166) rfl) rfl, iX10, ⟨by decide, by decide, by decide +kernel⟩, by decide⟩, tq4 (List.mem_of_getElem? (i := 165) rfl) rfl, tb_at 44 rfl rfl⟩
theorem oX10_isNoPair : MI mX10_isNoPair 2 := ⟨⟨by decide, tq5 (List.mem_of_getElem? (i := 159) rfl) rfl, iX10, ⟨by decide, by decide, by decide +kernel⟩, by decide⟩, tq5 (List.mem_of_getElem? (i := 158) rfl) rfl, tb_at 58 rfl rfl⟩
theorem oX10_isNoSecret : MI mX10_isNoSecret 1 := ⟨⟨by decide, tq4 (List.mem_of_getElem? (i := 182) rfl) rfl, iX10, ⟨by decide, by decide, by decide +kernel⟩, by decide⟩, tq4 (List.mem_of_getElem? (i := 181) rfl) rfl, tb_at 46 rfl rfl⟩
theorem oX10_isNoYear : MI mX10_isNoYear 1 := ⟨⟨by decide, tq4 (List.mem_of_getElem? (i := 194) rfl) rfl, iX10, ⟨by decide, by decide, by decide +kernel⟩, by decide⟩, tq4 (List.mem_of_getElem? (i := 193) rfl) rfl, tb_at 48 rfl rfl⟩
theorem oX10_isNoLaw : MS mX10_isNoLaw 1 := ⟨⟨by decide, tq5 (List.mem_of_getElem? (i := 75) rfl) rfl, iX10, ⟨by decide, by decide, by decide +kernel⟩, by decide⟩, tq5 (List.mem_of_getElem? (i := 74) rfl) rfl⟩
theorem oX10_isNoMeasure : MS mX10_isNoMeasure 1 := ⟨⟨by decide, tq5 (List.mem_of_getElem? (i := 78) rfl) rfl, iX10, ⟨by decide, by decide, by decide +kernel⟩, by decide⟩, tq5 (List.mem_of_getElem? (i := 77) rfl) rfl⟩
theorem oX10_isNoSeed : MS mX10_isNoSeed 1 := ⟨⟨by decide, tq5 (List.mem_of_getElem? (i := 212) rfl) rfl, iX10, ⟨by decide, by decide, by decide +kernel⟩, by decide⟩, tq5 (List.mem_of_getElem? (i := 211) rfl) rfl⟩
theorem oX10_yearTrouble : MI mX10_yearTrouble 1 := ⟨⟨by decide, tq4 (List.mem_of_getElem? (i := 190) rfl) rfl, iX10, ⟨by decide, by decide, by decide +kernel⟩, by decide⟩, tq4 (List.mem_of_getElem? (i := 189) rfl) rfl, tb_at 47 rfl rfl⟩
theorem oX10_personYearTrouble : MI mX10_personYearTrouble 2 := ⟨⟨by decide, tq4 (List.mem_of_getElem? (i := 214) rfl) rfl, iX10, ⟨by decide, by decide, by decide +kernel⟩, by decide⟩, tq4 (List.mem_of_getElem? (i := 213) rfl) rfl, tb_at 49 rfl rfl⟩
theorem oX10_rowTrouble : MI mX10_rowTrouble 1 := ⟨⟨by decide, tq5 (List.mem_of_getElem? (i := 100) rfl) rfl, iX10, ⟨by decide, by decide, by decide +kernel⟩, by decide⟩, tq5 (List.mem_of_getElem? (i := 99) rfl) rfl, tb_at 51 rfl rfl⟩
theorem oX10_seedsTrouble : MI mX10_seedsTrouble 1 := ⟨⟨by decide, tq5 (List.mem_of_getElem? (i := 184) rfl) rfl, iX10, ⟨by decide, by decide, by decide +kernel⟩, by decide⟩, tq5 (List.mem_of_getElem? (i := 183) rfl) rfl, tb_at 61 rfl rfl⟩
theorem oX10_measureByLaw : MI mX10_measureByLaw 2 := ⟨⟨by decide, tq5 (List.mem_of_getElem? (i := 82) rfl) rfl, iX10, ⟨by decide, by decide, by decide +kernel⟩, by decide⟩, tq5 (List.mem_of_getElem? (i := 81) rfl) rfl, tb_at 50 rfl rfl⟩
theorem oX10_harmOfTrade : MI mX10_harmOfTrade 2 := ⟨⟨by decide, tq5 (List.mem_of_getElem? (i := 163) rfl) rfl, iX10, ⟨by decide, by decide, by decide +kernel⟩, by decide⟩, tq5 (List.mem_of_getElem? (i := 162) rfl) rfl, tb_at 59 rfl rfl⟩
theorem oX10_diariesFit : MI mX10_diariesFit 2 := ⟨⟨by decide, tq5 (List.mem_of_getElem? (i := 176) rfl) rfl, iX10, ⟨by decide, by decide, by decide +kernel⟩, by decide⟩, tq5 (List.mem_of_getElem? (i := 175) rfl) rfl, tb_at 60 rfl rfl⟩
theorem oX10_swayedSets : MI mX10_swayedSets 2 := ⟨⟨by decide, tq5 (List.mem_of_getElem? (i := 196) rfl) rfl, iX10, ⟨by decide, by decide, by decide +kernel⟩, by decide⟩, tq5 (List.mem_of_getElem? (i := 195) rfl) rfl, tb_at 62 rfl rfl⟩
theorem oX10_has : MS mX10_has 2 := ⟨⟨by decide, tq4 (List.mem_of_getElem? (i := 15) rfl) rfl, iX10, ⟨by decide, by decide, by decide +kernel⟩, by decide⟩, tq4 (List.mem_of_getElem? (i := 14) rfl) rfl⟩
theorem oX10_commonPart : MS mX10_commonPart 2 := ⟨⟨by decide, tq5 (List.mem_of_getElem? (i := 205) rfl) rfl, iX10, ⟨by decide, by decide, by decide +kernel⟩, by decide⟩, tq5 (List.mem_of_getElem? (i := 204) rfl) rfl⟩
theorem oX11_init : MN mX11_init 0 := ⟨⟨by decide, tq7 (List.mem_of_getElem? (i := 63) rfl) rfl, iX11, ⟨by decide, by decide, by decide +kernel⟩, by decide⟩, tq7 (List.mem_of_getElem? (i := 62) rfl) rfl, rfl, rfl⟩
theorem oX11_find : MI mX11_find 1 := ⟨⟨by decide, tq8 (List.mem_of_getElem? (i := 41) rfl) rfl, iX11, ⟨by decide, by decide, by decide +kernel⟩, by decide⟩, tq8 (List.mem_of_getElem? (i := 39) rfl) rfl, tq8 (List.mem_of_getElem? (i := 40) rfl) rfl⟩
theorem oX11_age : MI mX11_age 2 := ⟨⟨by decide, tq8 (List.mem_of_getElem? (i := 136) rfl) rfl, iX11, ⟨by decide, by decide, by decide +kernel⟩, by decide⟩, tq8 (List.mem_of_getElem? (i := 134) rfl) rfl, tq8 (List.mem_of_getElem? (i := 135) rfl) rfl⟩
theorem oX11_isBorn : MI mX11_isBorn 2 := ⟨⟨by decide, tq8 (List.mem_of_getElem? (i := 132) rfl) rfl, iX11, ⟨by decide, by decide, by decide +kernel⟩, by decide⟩, tq8 (List.mem_of_getElem? (i := 130) rfl) rfl, tq8 (List.mem_of_getElem? (i := 131) rfl) rfl⟩
theorem oX12_init : MN mX12_init 0 := ⟨⟨by decide, tq6 (List.mem_of_getElem? (i := 121) rfl) rfl, iX12, ⟨by decide, by decide, by decide +kernel⟩, by decide⟩, tq6 (List.mem_of_getElem? (i := 120) rfl) rfl, rfl, rfl⟩
theorem oX12_thrown : MI mX12_thrown 0 := ⟨⟨by decide, tq7 (List.mem_of_getElem? (i := 46) rfl) rfl, iX12, ⟨by decide, by decide, by decide +kernel⟩, by decide⟩, tq7 (List.mem_of_getElem? (i := 44) rfl) rfl, tq7 (List.mem_of_getElem? (i := 45) rfl) rfl⟩
theorem oX12_refused : MI mX12_refused 1 := ⟨⟨by decide, tq7 (List.mem_of_getElem? (i := 58) rfl) rfl, iX12, ⟨by decide, by decide, by decide +kernel⟩, by decide⟩, tq7 (List.mem_of_getElem? (i := 57) rfl) rfl, tb_at 66 rfl rfl⟩
theorem oX12_denied : MI mX12_denied 1 := ⟨⟨by decide, tq9 (List.mem_of_getElem? (i := 190) rfl) rfl, iX12, ⟨by decide, by decide, by decide +kernel⟩, by decide⟩, tq9 (List.mem_of_getElem? (i := 189) rfl) rfl, tb_at 130 rfl rfl⟩
theorem oX12_refusedFar : MI mX12_refusedFar 1 := ⟨⟨by decide, tq9 (List.mem_of_getElem? (i := 55) rfl) rfl, iX12, ⟨by decide, by decide, by decide +kernel⟩, by decide⟩, tq9 (List.mem_of_getElem? (i := 54) rfl) rfl, tb_at 117 rfl rfl⟩
theorem oX12_good : MI mX12_good 1 := ⟨⟨by decide, tq8 (List.mem_of_getElem? (i := 112) rfl) rfl, iX12, ⟨by decide, by decide, by decide +kernel⟩, by decide⟩, tq8 (List.mem_of_getElem? (i := 111) rfl) rfl, tb_at 93 rfl rfl⟩
theorem oX12_granted : MI mX12_granted 0 := ⟨⟨by decide, tq9 (List.mem_of_getElem? (i := 198) rfl) rfl, iX12, ⟨by decide, by decide, by decide +kernel⟩, by decide⟩, tq9 (List.mem_of_getElem? (i := 197) rfl) rfl, tb_at 132 rfl rfl⟩
theorem oX12_in : MS mX12_in 3 := ⟨⟨by decide, tq8 (List.mem_of_getElem? (i := 6) rfl) rfl, iX12, ⟨by decide, by decide, by decide +kernel⟩, by decide⟩, tq8 (List.mem_of_getElem? (i := 5) rfl) rfl⟩
theorem oX12_bit : MS mX12_bit 2 := ⟨⟨by decide, tq8 (List.mem_of_getElem? (i := 100) rfl) rfl, iX12, ⟨by decide, by decide, by decide +kernel⟩, by decide⟩, tq8 (List.mem_of_getElem? (i := 99) rfl) rfl⟩
theorem oX12_byteAt : MI mX12_byteAt 1 := ⟨⟨by decide, tq7 (List.mem_of_getElem? (i := 197) rfl) rfl, iX12, ⟨by decide, by decide, by decide +kernel⟩, by decide⟩, tq7 (List.mem_of_getElem? (i := 196) rfl) rfl, tb_at 68 rfl rfl⟩
theorem oX12_isLetter : MS mX12_isLetter 1 := ⟨⟨by decide, tq7 (List.mem_of_getElem? (i := 200) rfl) rfl, iX12, ⟨by decide, by decide, by decide +kernel⟩, by decide⟩, tq7 (List.mem_of_getElem? (i := 199) rfl) rfl⟩
theorem oX12_isDigit : MS mX12_isDigit 1 := ⟨⟨by decide, tq7 (List.mem_of_getElem? (i := 204) rfl) rfl, iX12, ⟨by decide, by decide, by decide +kernel⟩, by decide⟩, tq7 (List.mem_of_getElem? (i := 203) rfl) rfl⟩
theorem oX12_wordOf : MS mX12_wordOf 1 := ⟨⟨by decide, tq7 (List.mem_of_getElem? (i := 220) rfl) rfl, iX12, ⟨by decide, by decide, by decide +kernel⟩, by decide⟩, tq7 (List.mem_of_getElem? (i := 219) rfl) rfl⟩
theorem oX12_goesOn : MI mX12_goesOn 0 := ⟨⟨by decide, tq7 (List.mem_of_getElem? (i := 193) rfl) rfl, iX12, ⟨by decide, by decide, by decide +kernel⟩, by decide⟩, tq7 (List.mem_of_getElem? (i := 192) rfl) rfl, tb_at 67 rfl rfl⟩
theorem oX12_flaw : MI mX12_flaw 1 := ⟨⟨by decide, tq7 (List.mem_of_getElem? (i := 230) rfl) rfl, iX12, ⟨by decide, by decide, by decide +kernel⟩, by decide⟩, tq7 (List.mem_of_getElem? (i := 229) rfl) rfl, tb_at 73 rfl rfl⟩
theorem oX12_isWord : MI mX12_isWord 1 := ⟨⟨by decide, tq7 (List.mem_of_getElem? (i := 217) rfl) rfl, iX12, ⟨by decide, by decide, by decide +kernel⟩, by decide⟩, tq7 (List.mem_of_getElem? (i := 216) rfl) rfl, tb_at 71 rfl rfl⟩
theorem oX12_eatsSemicolon : MI mX12_eatsSemicolon 0 := ⟨⟨by decide, tq8 (List.mem_of_getElem? (i := 108) rfl) rfl, iX12, ⟨by decide, by decide, by decide +kernel⟩, by decide⟩, tq8 (List.mem_of_getElem? (i := 107) rfl) rfl, tb_at 92 rfl rfl⟩
theorem oX12_needs : MI mX12_needs 1 := ⟨⟨by decide, tq7 (List.mem_of_getElem? (i := 239) rfl) rfl, iX12, ⟨by decide, by decide, by decide +kernel⟩, by decide⟩, tq7 (List.mem_of_getElem? (i := 238) rfl) rfl, tb_at 75 rfl rfl⟩
theorem oX12_readWhole : MI mX12_readWhole 2 := ⟨⟨by decide, tq8 (List.mem_of_getElem? (i := 3) rfl) rfl, iX12, ⟨by decide, by decide, by decide +kernel⟩, by decide⟩, tq8 (List.mem_of_getElem? (i := 2) rfl) rfl, tb_at 76 rfl rfl⟩
theorem oX12_readPart : MI mX12_readPart 3 := ⟨⟨by decide, tq7 (List.mem_of_getElem? (i := 235) rfl) rfl, iX12, ⟨by decide, by decide, by decide +kernel⟩, by decide⟩, tq7 (List.mem_of_getElem? (i := 234) rfl) rfl, tb_at 74 rfl rfl⟩
theorem oX12_readYear : MI mX12_readYear 1 := ⟨⟨by decide, tq8 (List.mem_of_getElem? (i := 59) rfl) rfl, iX12, ⟨by decide, by decide, by decide +kernel⟩, by decide⟩, tq8 (List.mem_of_getElem? (i := 58) rfl) rfl, tb_at 82 rfl rfl⟩
theorem oX12_isName : MI mX12_isName 0 := ⟨⟨by decide, tq8 (List.mem_of_getElem? (i := 30) rfl) rfl, iX12, ⟨by decide, by decide, by decide +kernel⟩, by decide⟩, tq8 (List.mem_of_getElem? (i := 29) rfl) rfl, tb_at 80 rfl rfl⟩
theorem oX12_begins : MI mX12_begins 2 := ⟨⟨by decide, tq8 (List.mem_of_getElem? (i := 22) rfl) rfl, iX12, ⟨by decide, by decide, by decide +kernel⟩, by decide⟩, tq8 (List.mem_of_getElem? (i := 21) rfl) rfl, tb_at 78 rfl rfl⟩
theorem oX12_readFresh : MI mX12_readFresh 0 := ⟨⟨by decide, tq8 (List.mem_of_getElem? (i := 26) rfl) rfl, iX12, ⟨by decide, by decide, by decide +kernel⟩, by decide⟩, tq8 (List.mem_of_getElem? (i := 25) rfl) rfl, tb_at 79 rfl rfl⟩
theorem oX12_names : MI mX12_names 3 := ⟨⟨by decide, tq8 (List.mem_of_getElem? (i := 66) rfl) rfl, iX12, ⟨by decide, by decide, by decide +kernel⟩, by decide⟩, tq8 (List.mem_of_getElem? (i := 65) rfl) rfl, tb_at 83 rfl rfl⟩
theorem oX12_known : MI mX12_known 1 := ⟨⟨by decide, tq8 (List.mem_of_getElem? (i := 78) rfl) rfl, iX12, ⟨by decide, by decide, by decide +kernel⟩, by decide⟩, tq8 (List.mem_of_getElem? (i := 77) rfl) rfl, tb_at 86 rfl rfl⟩
theorem oX12_readPerson : MI mX12_readPerson 0 := ⟨⟨by decide, tq8 (List.mem_of_getElem? (i := 74) rfl) rfl, iX12, ⟨by decide, by decide, by decide +kernel⟩, by decide⟩, tq8 (List.mem_of_getElem? (i := 73) rfl) rfl, tb_at 85 rfl rfl⟩
theorem oX12_readAll : MI mX12_readAll 0 := ⟨⟨by decide, tq7 (List.mem_of_getElem? (i := 208) rfl) rfl, iX12, ⟨by decide, by decide, by decide +kernel⟩, by decide⟩, tq7 (List.mem_of_getElem? (i := 207) rfl) rfl, tb_at 69 rfl rfl⟩
theorem oX12_readLine : MI mX12_readLine 0 := ⟨⟨by decide, tq7 (List.mem_of_getElem? (i := 212) rfl) rfl, iX12, ⟨by decide, by decide, by decide +kernel⟩, by decide⟩, tq7 (List.mem_of_getElem? (i := 211) rfl) rfl, tb_at 70 rfl rfl⟩
theorem oX12_readFamily : MI mX12_readFamily 0 := ⟨⟨by decide, tq7 (List.mem_of_getElem? (i := 226) rfl) rfl, iX12, ⟨by decide, by decide, by decide +kernel⟩, by decide⟩, tq7 (List.mem_of_getElem? (i := 225) rfl) rfl, tb_at 72 rfl rfl⟩
theorem oX12_readKind : MI mX12_readKind 0 := ⟨⟨by decide, tq8 (List.mem_of_getElem? (i := 45) rfl) rfl, iX12, ⟨by decide, by decide, by decide +kernel⟩, by decide⟩, tq8 (List.mem_of_getElem? (i := 44) rfl) rfl, tb_at 81 rfl rfl⟩
theorem oX12_readPersonLine : MI mX12_readPersonLine 0 := ⟨⟨by decide, tq8 (List.mem_of_getElem? (i := 18) rfl) rfl, iX12, ⟨by decide, by decide, by decide +kernel⟩, by decide⟩, tq8 (List.mem_of_getElem? (i := 17) rfl) rfl, tb_at 77 rfl rfl⟩
theorem oX12_readPlan : MI mX12_readPlan 0 := ⟨⟨by decide, tq8 (List.mem_of_getElem? (i := 70) rfl) rfl, iX12, ⟨by decide, by decide, by decide +kernel⟩, by decide⟩, tq8 (List.mem_of_getElem? (i := 69) rfl) rfl, tb_at 84 rfl rfl⟩
theorem oX12_readDies : MI mX12_readDies 0 := ⟨⟨by decide, tq8 (List.mem_of_getElem? (i := 84) rfl) rfl, iX12, ⟨by decide, by decide, by decide +kernel⟩, by decide⟩, tq8 (List.mem_of_getElem? (i := 83) rfl) rfl, tb_at 87 rfl rfl⟩
theorem oX12_readBuys : MI mX12_readBuys 0 := ⟨⟨by decide, tq8 (List.mem_of_getElem? (i := 88) rfl) rfl, iX12, ⟨by decide, by decide, by decide +kernel⟩, by decide⟩, tq8 (List.mem_of_getElem? (i := 87) rfl) rfl, tb_at 88 rfl rfl⟩
theorem oX12_readSecret : MI mX12_readSecret 0 := ⟨⟨by decide, tq8 (List.mem_of_getElem? (i := 93) rfl) rfl, iX12, ⟨by decide, by decide, by decide +kernel⟩, by decide⟩, tq8 (List.mem_of_getElem? (i := 92) rfl) rfl, tb_at 89 rfl rfl⟩
theorem oX12_readHides : MI mX12_readHides 0 := ⟨⟨by decide, tq8 (List.mem_of_getElem? (i := 97) rfl) rfl, iX12, ⟨by decide, by decide, by decide +kernel⟩, by decide⟩, tq8 (List.mem_of_getElem? (i := 96) rfl) rfl, tb_at 90 rfl rfl⟩
theorem oX12_readDiary : MI mX12_readDiary 1 := ⟨⟨by decide, tq8 (List.mem_of_getElem? (i := 104) rfl) rfl, iX12, ⟨by decide, by decide, by decide +kernel⟩, by decide⟩, tq8 (List.mem_of_getElem? (i := 103) rfl) rfl, tb_at 91 rfl rfl⟩
theorem oX12_feed : MI mX12_feed 5 := ⟨⟨by decide, tq7 (List.mem_of_getElem? (i := 50) rfl) rfl, iX12, ⟨by decide, by decide, by decide +kernel⟩, by decide⟩, tq7 (List.mem_of_getElem? (i := 48) rfl) rfl, tq7 (List.mem_of_getElem? (i := 49) rfl) rfl⟩
theorem oX12_family : MI mX12_family 1 := ⟨⟨by decide, tq7 (List.mem_of_getElem? (i := 54) rfl) rfl, iX12, ⟨by decide, by decide, by decide +kernel⟩, by decide⟩, tq7 (List.mem_of_getElem? (i := 52) rfl) rfl, tq7 (List.mem_of_getElem? (i := 53) rfl) rfl⟩
theorem oX12_fault : MI mX12_fault 0 := ⟨⟨by decide, tq8 (List.mem_of_getElem? (i := 116) rfl) rfl, iX12, ⟨by decide, by decide, by decide +kernel⟩, by decide⟩, tq8 (List.mem_of_getElem? (i := 114) rfl) rfl, tq8 (List.mem_of_getElem? (i := 115) rfl) rfl⟩
theorem oX12_where : MI mX12_where 0 := ⟨⟨by decide, tq8 (List.mem_of_getElem? (i := 120) rfl) rfl, iX12, ⟨by decide, by decide, by decide +kernel⟩, by decide⟩, tq8 (List.mem_of_getElem? (i := 118) rfl) rfl, tq8 (List.mem_of_getElem? (i := 119) rfl) rfl⟩
theorem oX12_runs : MI mX12_runs 0 := ⟨⟨by decide, tq8 (List.mem_of_getElem? (i := 164) rfl) rfl, iX12, ⟨by decide, by decide, by decide +kernel⟩, by decide⟩, tq8 (List.mem_of_getElem? (i := 163) rfl) rfl, tb_at 98 rfl rfl⟩
theorem oX12_runsBy : MI mX12_runsBy 2 := ⟨⟨by decide, tq8 (List.mem_of_getElem? (i := 168) rfl) rfl, iX12, ⟨by decide, by decide, by decide +kernel⟩, by decide⟩, tq8 (List.mem_of_getElem? (i := 167) rfl) rfl, tb_at 99 rfl rfl⟩
theorem oX12_goes : MI mX12_goes 3 := ⟨⟨by decide, tq8 (List.mem_of_getElem? (i := 172) rfl) rfl, iX12, ⟨by decide, by decide, by decide +kernel⟩, by decide⟩, tq8 (List.mem_of_getElem? (i := 171) rfl) rfl, tb_at 100 rfl rfl⟩
theorem oX12_isThere : MI mX12_isThere 2 := ⟨⟨by decide, tq8 (List.mem_of_getElem? (i := 184) rfl) rfl, iX12, ⟨by decide, by decide, by decide +kernel⟩, by decide⟩, tq8 (List.mem_of_getElem? (i := 183) rfl) rfl, tb_at 103 rfl rfl⟩
theorem oX12_thereIn : MI mX12_thereIn 1 := ⟨⟨by decide, tq8 (List.mem_of_getElem? (i := 180) rfl) rfl, iX12, ⟨by decide, by decide, by decide +kernel⟩, by decide⟩, tq8 (List.mem_of_getElem? (i := 179) rfl) rfl, tb_at 102 rfl rfl⟩
theorem oX12_isAble : MI mX12_isAble 2 := ⟨⟨by decide, tq8 (List.mem_of_getElem? (i := 188) rfl) rfl, iX12, ⟨by decide, by decide, by decide +kernel⟩, by decide⟩, tq8 (List.mem_of_getElem? (i := 187) rfl) rfl, tb_at 104 rfl rfl⟩
theorem oX12_counted : MI mX12_counted 1 := ⟨⟨by decide, tq8 (List.mem_of_getElem? (i := 212) rfl) rfl, iX12, ⟨by decide, by decide, by decide +kernel⟩, by decide⟩, tq8 (List.mem_of_getElem? (i := 211) rfl) rfl, tb_at 110 rfl rfl⟩
theorem oX12_isSecond : MI mX12_isSecond 1 := ⟨⟨by decide, tq8 (List.mem_of_getElem? (i := 192) rfl) rfl, iX12, ⟨by decide, by decide, by decide +kernel⟩, by decide⟩, tq8 (List.mem_of_getElem? (i := 191) rfl) rfl, tb_at 105 rfl rfl⟩
theorem oX12_year : MI mX12_year 1 := ⟨⟨by decide, tq8 (List.mem_of_getElem? (i := 176) rfl) rfl, iX12, ⟨by decide, by decide, by decide +kernel⟩, by decide⟩, tq8 (List.mem_of_getElem? (i := 175) rfl) rfl, tb_at 101 rfl rfl⟩
theorem oX12_traded : MI mX12_traded 2 := ⟨⟨by decide, tq8 (List.mem_of_getElem? (i := 223) rfl) rfl, iX12, ⟨by decide, by decide, by decide +kernel⟩, by decide⟩, tq8 (List.mem_of_getElem? (i := 222) rfl) rfl, tb_at 112 rfl rfl⟩
theorem oX12_bought : MI mX12_bought 2 := ⟨⟨by decide, tq8 (List.mem_of_getElem? (i := 227) rfl) rfl, iX12, ⟨by decide, by decide, by decide +kernel⟩, by decide⟩, tq8 (List.mem_of_getElem? (i := 226) rfl) rfl, tb_at 113 rfl rfl⟩
theorem oX12_sold : MI mX12_sold 5 := ⟨⟨by decide, tq8 (List.mem_of_getElem? (i := 231) rfl) rfl, iX12, ⟨by decide, by decide, by decide +kernel⟩, by decide⟩, tq8 (List.mem_of_getElem? (i := 230) rfl) rfl, tb_at 114 rfl rfl⟩
theorem oX12_lawful : MI mX12_lawful 1 := ⟨⟨by decide, tq8 (List.mem_of_getElem? (i := 196) rfl) rfl, iX12, ⟨by decide, by decide, by decide +kernel⟩, by decide⟩, tq8 (List.mem_of_getElem? (i := 195) rfl) rfl, tb_at 106 rfl rfl⟩
theorem oX12_foremost : MI mX12_foremost 3 := ⟨⟨by decide, tq8 (List.mem_of_getElem? (i := 208) rfl) rfl, iX12, ⟨by decide, by decide, by decide +kernel⟩, by decide⟩, tq8 (List.mem_of_getElem? (i := 207) rfl) rfl, tb_at 109 rfl rfl⟩
theorem oX12_drawnOf : MI mX12_drawnOf 1 := ⟨⟨by decide, tq8 (List.mem_of_getElem? (i := 216) rfl) rfl, iX12, ⟨by decide, by decide, by decide +kernel⟩, by decide⟩, tq8 (List.mem_of_getElem? (i := 215) rfl) rfl, tb_at 111 rfl rfl⟩
theorem oX12_branchOf : MI mX12_branchOf 2 := ⟨⟨by decide, tq8 (List.mem_of_getElem? (i := 204) rfl) rfl, iX12, ⟨by decide, by decide, by decide +kernel⟩, by decide⟩, tq8 (List.mem_of_getElem? (i := 203) rfl) rfl, tb_at 108 rfl rfl⟩
theorem oX12_voted : MI mX12_voted 1 := ⟨⟨by decide, tq8 (List.mem_of_getElem? (i := 200) rfl) rfl, iX12, ⟨by decide, by decide, by decide +kernel⟩, by decide⟩, tq8 (List.mem_of_getElem? (i := 199) rfl) rfl, tb_at 107 rfl rfl⟩
theorem oX12_sits : MI mX12_sits 2 := ⟨⟨by decide, tq8 (List.mem_of_getElem? (i := 235) rfl) rfl, iX12, ⟨by decide, by decide, by decide +kernel⟩, by decide⟩, tq8 (List.mem_of_getElem? (i := 234) rfl) rfl, tb_at 115 rfl rfl⟩
theorem oX12_fairNow : MI mX12_fairNow 0 := ⟨⟨by decide, tq9 (List.mem_of_getElem? (i := 71) rfl) rfl, iX12, ⟨by decide, by decide, by decide +kernel⟩, by decide⟩, tq9 (List.mem_of_getElem? (i := 70) rfl) rfl, tb_at 118 rfl rfl⟩
theorem oX12_emptyYears : MI mX12_emptyYears 0 := ⟨⟨by decide, tq9 (List.mem_of_getElem? (i := 95) rfl) rfl, iX12, ⟨by decide, by decide, by decide +kernel⟩, by decide⟩, tq9 (List.mem_of_getElem? (i := 94) rfl) rfl, tb_at 120 rfl rfl⟩
theorem oX12_isPerson : MI mX12_isPerson 1 := ⟨⟨by decide, tq8 (List.mem_of_getElem? (i := 128) rfl) rfl, iX12, ⟨by decide, by decide, by decide +kernel⟩, by decide⟩, tq8 (List.mem_of_getElem? (i := 127) rfl) rfl, tb_at 94 rfl rfl⟩
theorem oX12_isSecretNumber : MI mX12_isSecretNumber 1 := ⟨⟨by decide, tq8 (List.mem_of_getElem? (i := 148) rfl) rfl, iX12, ⟨by decide, by decide, by decide +kernel⟩, by decide⟩, tq8 (List.mem_of_getElem? (i := 147) rfl) rfl, tb_at 95 rfl rfl⟩
theorem oX12_isYear : MI mX12_isYear 1 := ⟨⟨by decide, tq8 (List.mem_of_getElem? (i := 160) rfl) rfl, iX12, ⟨by decide, by decide, by decide +kernel⟩, by decide⟩, tq8 (List.mem_of_getElem? (i := 159) rfl) rfl, tb_at 97 rfl rfl⟩
theorem oX12_asksYear : MI mX12_asksYear 2 := ⟨⟨by decide, tq8 (List.mem_of_getElem? (i := 156) rfl) rfl, iX12, ⟨by decide, by decide, by decide +kernel⟩, by decide⟩, tq8 (List.mem_of_getElem? (i := 155) rfl) rfl, tb_at 96 rfl rfl⟩
theorem oX12_asks : MI mX12_asks 1 := ⟨⟨by decide, tq9 (List.mem_of_getElem? (i := 43) rfl) rfl, iX12, ⟨by decide, by decide, by decide +kernel⟩, by decide⟩, tq9 (List.mem_of_getElem? (i := 42) rfl) rfl, tb_at 116 rfl rfl⟩
theorem oX12_person : MI mX12_person 2 := ⟨⟨by decide, tq8 (List.mem_of_getElem? (i := 124) rfl) rfl, iX12, ⟨by decide, by decide, by decide +kernel⟩, by decide⟩, tq8 (List.mem_of_getElem? (i := 122) rfl) rfl, tq8 (List.mem_of_getElem? (i := 123) rfl) rfl⟩
theorem oX12_plan : MI mX12_plan 2 := ⟨⟨by decide, tq8 (List.mem_of_getElem? (i := 140) rfl) rfl, iX12, ⟨by decide, by decide, by decide +kernel⟩, by decide⟩, tq8 (List.mem_of_getElem? (i := 138) rfl) rfl, tq8 (List.mem_of_getElem? (i := 139) rfl) rfl⟩
theorem oX12_secret : MI mX12_secret 1 := ⟨⟨by decide, tq8 (List.mem_of_getElem? (i := 144) rfl) rfl, iX12, ⟨by decide, by decide, by decide +kernel⟩, by decide⟩, tq8 (List.mem_of_getElem? (i := 142) rfl) rfl, tq8 (List.mem_of_getElem? (i := 143) rfl) rfl⟩
theorem oX12_elder : MI mX12_elder 1 := ⟨⟨by decide, tq8 (List.mem_of_getElem? (i := 152) rfl) rfl, iX12, ⟨by decide, by decide, by decide +kernel⟩, by decide⟩, tq8 (List.mem_of_getElem? (i := 150) rfl) rfl, tq8 (List.mem_of_getElem? (i := 151) rfl) rfl⟩
theorem oX12_empty : MI mX12_empty 1 := ⟨⟨by decide, tq8 (List.mem_of_getElem? (i := 239) rfl) rfl, iX12, ⟨by decide, by decide, by decide +kernel⟩, by decide⟩, tq8 (List.mem_of_getElem? (i := 237) rfl) rfl, tq8 (List.mem_of_getElem? (i := 238) rfl) rfl⟩
theorem oX12_there : MI mX12_there 1 := ⟨⟨by decide, tq9 (List.mem_of_getElem? (i := 3) rfl) rfl, iX12, ⟨by decide, by decide, by decide +kernel⟩, by decide⟩, tq9 (List.mem_of_getElem? (i := 1) rfl) rfl, tq9 (List.mem_of_getElem? (i := 2) rfl) rfl⟩
theorem oX12_can : MI mX12_can 1 := ⟨⟨by decide, tq9 (List.mem_of_getElem? (i := 7) rfl) rfl, iX12, ⟨by decide, by decide, by decide +kernel⟩, by decide⟩, tq9 (List.mem_of_getElem? (i := 5) rfl) rfl, tq9 (List.mem_of_getElem? (i := 6) rfl) rfl⟩
theorem oX12_age : MI mX12_age 2 := ⟨⟨by decide, tq9 (List.mem_of_getElem? (i := 11) rfl) rfl, iX12, ⟨by decide, by decide, by decide +kernel⟩, by decide⟩, tq9 (List.mem_of_getElem? (i := 9) rfl) rfl, tq9 (List.mem_of_getElem? (i := 10) rfl) rfl⟩
theorem oX12_turnsOf : MI mX12_turnsOf 2 := ⟨⟨by decide, tq9 (List.mem_of_getElem? (i := 15) rfl) rfl, iX12, ⟨by decide, by decide, by decide +kernel⟩, by decide⟩, tq9 (List.mem_of_getElem? (i := 13) rfl) rfl, tq9 (List.mem_of_getElem? (i := 14) rfl) rfl⟩
theorem oX12_strength : MI mX12_strength 2 := ⟨⟨by decide, tq9 (List.mem_of_getElem? (i := 19) rfl) rfl, iX12, ⟨by decide, by decide, by decide +kernel⟩, by decide⟩, tq9 (List.mem_of_getElem? (i := 17) rfl) rfl, tq9 (List.mem_of_getElem? (i := 18) rfl) rfl⟩
theorem oX12_knows : MI mX12_knows 2 := ⟨⟨by decide, tq9 (List.mem_of_getElem? (i := 23) rfl) rfl, iX12, ⟨by decide, by decide, by decide +kernel⟩, by decide⟩, tq9 (List.mem_of_getElem? (i := 21) rfl) rfl, tq9 (List.mem_of_getElem? (i := 22) rfl) rfl⟩
theorem oX12_box : MI mX12_box 1 := ⟨⟨by decide, tq9 (List.mem_of_getElem? (i := 27) rfl) rfl, iX12, ⟨by decide, by decide, by decide +kernel⟩, by decide⟩, tq9 (List.mem_of_getElem? (i := 25) rfl) rfl, tq9 (List.mem_of_getElem? (i := 26) rfl) rfl⟩
theorem oX12_kept : MI mX12_kept 2 := ⟨⟨by decide, tq9 (List.mem_of_getElem? (i := 31) rfl) rfl, iX12, ⟨by decide, by decide, by decide +kernel⟩, by decide⟩, tq9 (List.mem_of_getElem? (i := 29) rfl) rfl, tq9 (List.mem_of_getElem? (i := 30) rfl) rfl⟩
theorem oX12_harm : MI mX12_harm 1 := ⟨⟨by decide, tq9 (List.mem_of_getElem? (i := 35) rfl) rfl, iX12, ⟨by decide, by decide, by decide +kernel⟩, by decide⟩, tq9 (List.mem_of_getElem? (i := 33) rfl) rfl, tq9 (List.mem_of_getElem? (i := 34) rfl) rfl⟩
theorem oX12_harmAll : MI mX12_harmAll 0 := ⟨⟨by decide, tq9 (List.mem_of_getElem? (i := 39) rfl) rfl, iX12, ⟨by decide, by decide, by decide +kernel⟩, by decide⟩, tq9 (List.mem_of_getElem? (i := 37) rfl) rfl, tq9 (List.mem_of_getElem? (i := 38) rfl) rfl⟩
theorem oX12_harmOf : MI mX12_harmOf 1 := ⟨⟨by decide, tq9 (List.mem_of_getElem? (i := 47) rfl) rfl, iX12, ⟨by decide, by decide, by decide +kernel⟩, by decide⟩, tq9 (List.mem_of_getElem? (i := 45) rfl) rfl, tq9 (List.mem_of_getElem? (i := 46) rfl) rfl⟩
theorem oX12_purse : MI mX12_purse 1 := ⟨⟨by decide, tq9 (List.mem_of_getElem? (i := 51) rfl) rfl, iX12, ⟨by decide, by decide, by decide +kernel⟩, by decide⟩, tq9 (List.mem_of_getElem? (i := 49) rfl) rfl, tq9 (List.mem_of_getElem? (i := 50) rfl) rfl⟩
theorem oX12_first : MI mX12_first 1 := ⟨⟨by decide, tq9 (List.mem_of_getElem? (i := 59) rfl) rfl, iX12, ⟨by decide, by decide, by decide +kernel⟩, by decide⟩, tq9 (List.mem_of_getElem? (i := 57) rfl) rfl, tq9 (List.mem_of_getElem? (i := 58) rfl) rfl⟩
theorem oX12_last : MI mX12_last 1 := ⟨⟨by decide, tq9 (List.mem_of_getElem? (i := 63) rfl) rfl, iX12, ⟨by decide, by decide, by decide +kernel⟩, by decide⟩, tq9 (List.mem_of_getElem? (i := 61) rfl) rfl, tq9 (List.mem_of_getElem? (i := 62) rfl) rfl⟩
theorem oX12_fair : MI mX12_fair 0 := ⟨⟨by decide, tq9 (List.mem_of_getElem? (i := 67) rfl) rfl, iX12, ⟨by decide, by decide, by decide +kernel⟩, by decide⟩, tq9 (List.mem_of_getElem? (i := 65) rfl) rfl, tq9 (List.mem_of_getElem? (i := 66) rfl) rfl⟩
theorem oX12_deaths : MI mX12_deaths 0 := ⟨⟨by decide, tq9 (List.mem_of_getElem? (i := 75) rfl) rfl, iX12, ⟨by decide, by decide, by decide +kernel⟩, by decide⟩, tq9 (List.mem_of_getElem? (i := 73) rfl) rfl, tq9 (List.mem_of_getElem? (i := 74) rfl) rfl⟩
theorem oX12_soonest : MI mX12_soonest 2 := ⟨⟨by decide, tq9 (List.mem_of_getElem? (i := 79) rfl) rfl, iX12, ⟨by decide, by decide, by decide +kernel⟩, by decide⟩, tq9 (List.mem_of_getElem? (i := 77) rfl) rfl, tq9 (List.mem_of_getElem? (i := 78) rfl) rfl⟩
theorem oX12_know : MI mX12_know 1 := ⟨⟨by decide, tq9 (List.mem_of_getElem? (i := 83) rfl) rfl, iX12, ⟨by decide, by decide, by decide +kernel⟩, by decide⟩, tq9 (List.mem_of_getElem? (i := 81) rfl) rfl, tq9 (List.mem_of_getElem? (i := 82) rfl) rfl⟩
theorem oX12_by : MI mX12_by 2 := ⟨⟨by decide, tq9 (List.mem_of_getElem? (i := 91) rfl) rfl, iX12, ⟨by decide, by decide, by decide +kernel⟩, by decide⟩, tq9 (List.mem_of_getElem? (i := 90) rfl) rfl, tb_at 119 rfl rfl⟩
theorem oX12_byLaw : MI mX12_byLaw 2 := ⟨⟨by decide, tq9 (List.mem_of_getElem? (i := 87) rfl) rfl, iX12, ⟨by decide, by decide, by decide +kernel⟩, by decide⟩, tq9 (List.mem_of_getElem? (i := 85) rfl) rfl, tq9 (List.mem_of_getElem? (i := 86) rfl) rfl⟩
theorem oX12_bestLaw : MI mX12_bestLaw 1 := ⟨⟨by decide, tq9 (List.mem_of_getElem? (i := 99) rfl) rfl, iX12, ⟨by decide, by decide, by decide +kernel⟩, by decide⟩, tq9 (List.mem_of_getElem? (i := 97) rfl) rfl, tq9 (List.mem_of_getElem? (i := 98) rfl) rfl⟩
theorem oX12_tries : MI mX12_tries 2 := ⟨⟨by decide, tq9 (List.mem_of_getElem? (i := 111) rfl) rfl, iX12, ⟨by decide, by decide, by decide +kernel⟩, by decide⟩, tq9 (List.mem_of_getElem? (i := 110) rfl) rfl, tb_at 122 rfl rfl⟩
theorem oX12_choices : MI mX12_choices 1 := ⟨⟨by decide, tq9 (List.mem_of_getElem? (i := 119) rfl) rfl, iX12, ⟨by decide, by decide, by decide +kernel⟩, by decide⟩, tq9 (List.mem_of_getElem? (i := 118) rfl) rfl, tb_at 124 rfl rfl⟩
theorem oX12_ends : MI mX12_ends 2 := ⟨⟨by decide, tq9 (List.mem_of_getElem? (i := 115) rfl) rfl, iX12, ⟨by decide, by decide, by decide +kernel⟩, by decide⟩, tq9 (List.mem_of_getElem? (i := 114) rfl) rfl, tb_at 123 rfl rfl⟩
theorem oX12_refusesRow : MI mX12_refusesRow 1 := ⟨⟨by decide, tq9 (List.mem_of_getElem? (i := 107) rfl) rfl, iX12, ⟨by decide, by decide, by decide +kernel⟩, by decide⟩, tq9 (List.mem_of_getElem? (i := 106) rfl) rfl, tb_at 121 rfl rfl⟩
theorem oX12_row : MI mX12_row 1 := ⟨⟨by decide, tq9 (List.mem_of_getElem? (i := 103) rfl) rfl, iX12, ⟨by decide, by decide, by decide +kernel⟩, by decide⟩, tq9 (List.mem_of_getElem? (i := 101) rfl) rfl, tq9 (List.mem_of_getElem? (i := 102) rfl) rfl⟩
theorem oX12_rowAt : MI mX12_rowAt 2 := ⟨⟨by decide, tq9 (List.mem_of_getElem? (i := 123) rfl) rfl, iX12, ⟨by decide, by decide, by decide +kernel⟩, by decide⟩, tq9 (List.mem_of_getElem? (i := 121) rfl) rfl, tq9 (List.mem_of_getElem? (i := 122) rfl) rfl⟩
theorem oX12_chain : MI mX12_chain 2 := ⟨⟨by decide, tq9 (List.mem_of_getElem? (i := 127) rfl) rfl, iX12, ⟨by decide, by decide, by decide +kernel⟩, by decide⟩, tq9 (List.mem_of_getElem? (i := 125) rfl) rfl, tq9 (List.mem_of_getElem? (i := 126) rfl) rfl⟩
theorem oX12_tradeOf : MI mX12_tradeOf 2 := ⟨⟨by decide, tq9 (List.mem_of_getElem? (i := 135) rfl) rfl, iX12, ⟨by decide, by decide, by decide +kernel⟩, by decide⟩, tq9 (List.mem_of_getElem? (i := 134) rfl) rfl, tb_at 125 rfl rfl⟩
theorem oX12_trade : MI mX12_trade 2 := ⟨⟨by decide, tq9 (List.mem_of_getElem? (i := 131) rfl) rfl, iX12, ⟨by decide, by decide, by decide +kernel⟩, by decide⟩, tq9 (List.mem_of_getElem? (i := 129) rfl) rfl, tq9 (List.mem_of_getElem? (i := 130) rfl) rfl⟩
theorem oX12_bestTrade : MI mX12_bestTrade 0 := ⟨⟨by decide, tq9 (List.mem_of_getElem? (i := 139) rfl) rfl, iX12, ⟨by decide, by decide, by decide +kernel⟩, by decide⟩, tq9 (List.mem_of_getElem? (i := 137) rfl) rfl, tq9 (List.mem_of_getElem? (i := 138) rfl) rfl⟩
theorem oX12_fitsNow : MI mX12_fitsNow 0 := ⟨⟨by decide, tq9 (List.mem_of_getElem? (i := 147) rfl) rfl, iX12, ⟨by decide, by decide, by decide +kernel⟩, by decide⟩, tq9 (List.mem_of_getElem? (i := 146) rfl) rfl, tb_at 126 rfl rfl⟩
theorem oX12_fits : MI mX12_fits 0 := ⟨⟨by decide, tq9 (List.mem_of_getElem? (i := 143) rfl) rfl, iX12, ⟨by decide, by decide, by decide +kernel⟩, by decide⟩, tq9 (List.mem_of_getElem? (i := 141) rfl) rfl, tq9 (List.mem_of_getElem? (i := 142) rfl) rfl⟩
theorem oX12_fitting : MI mX12_fitting 1 := ⟨⟨by decide, tq9 (List.mem_of_getElem? (i := 159) rfl) rfl, iX12, ⟨by decide, by decide, by decide +kernel⟩, by decide⟩, tq9 (List.mem_of_getElem? (i := 158) rfl) rfl, tb_at 128 rfl rfl⟩
theorem oX12_refusesMany : MI mX12_refusesMany 1 := ⟨⟨by decide, tq9 (List.mem_of_getElem? (i := 155) rfl) rfl, iX12, ⟨by decide, by decide, by decide +kernel⟩, by decide⟩, tq9 (List.mem_of_getElem? (i := 154) rfl) rfl, tb_at 127 rfl rfl⟩
theorem oX12_seeds : MI mX12_seeds 1 := ⟨⟨by decide, tq9 (List.mem_of_getElem? (i := 151) rfl) rfl, iX12, ⟨by decide, by decide, by decide +kernel⟩, by decide⟩, tq9 (List.mem_of_getElem? (i := 149) rfl) rfl, tq9 (List.mem_of_getElem? (i := 150) rfl) rfl⟩
theorem oX12_firstSeed : MI mX12_firstSeed 1 := ⟨⟨by decide, tq9 (List.mem_of_getElem? (i := 163) rfl) rfl, iX12, ⟨by decide, by decide, by decide +kernel⟩, by decide⟩, tq9 (List.mem_of_getElem? (i := 161) rfl) rfl, tq9 (List.mem_of_getElem? (i := 162) rfl) rfl⟩
theorem oX12_weight : MI mX12_weight 1 := ⟨⟨by decide, tq9 (List.mem_of_getElem? (i := 171) rfl) rfl, iX12, ⟨by decide, by decide, by decide +kernel⟩, by decide⟩, tq9 (List.mem_of_getElem? (i := 170) rfl) rfl, tb_at 129 rfl rfl⟩
theorem oX12_power : MI mX12_power 1 := ⟨⟨by decide, tq9 (List.mem_of_getElem? (i := 167) rfl) rfl, iX12, ⟨by decide, by decide, by decide +kernel⟩, by decide⟩, tq9 (List.mem_of_getElem? (i := 165) rfl) rfl, tq9 (List.mem_of_getElem? (i := 166) rfl) rfl⟩
theorem oX12_stands : MI mX12_stands 2 := ⟨⟨by decide, tq9 (List.mem_of_getElem? (i := 175) rfl) rfl, iX12, ⟨by decide, by decide, by decide +kernel⟩, by decide⟩, tq9 (List.mem_of_getElem? (i := 173) rfl) rfl, tq9 (List.mem_of_getElem? (i := 174) rfl) rfl⟩
theorem oX12_mean : MI mX12_mean 3 := ⟨⟨by decide, tq9 (List.mem_of_getElem? (i := 180) rfl) rfl, iX12, ⟨by decide, by decide, by decide +kernel⟩, by decide⟩, tq9 (List.mem_of_getElem? (i := 178) rfl) rfl, tq9 (List.mem_of_getElem? (i := 179) rfl) rfl⟩
theorem oX12_keepsAll : MI mX12_keepsAll 0 := ⟨⟨by decide, tq9 (List.mem_of_getElem? (i := 194) rfl) rfl, iX12, ⟨by decide, by decide, by decide +kernel⟩, by decide⟩, tq9 (List.mem_of_getElem? (i := 193) rfl) rfl, tb_at 131 rfl rfl⟩
theorem oX12_buy : MI mX12_buy 4 := ⟨⟨by decide, tq9 (List.mem_of_getElem? (i := 186) rfl) rfl, iX12, ⟨by decide, by decide, by decide +kernel⟩, by decide⟩, tq9 (List.mem_of_getElem? (i := 184) rfl) rfl, tq9 (List.mem_of_getElem? (i := 185) rfl) rfl⟩
theorem oX12_death : MI mX12_death 2 := ⟨⟨by decide, tq9 (List.mem_of_getElem? (i := 202) rfl) rfl, iX12, ⟨by decide, by decide, by decide +kernel⟩, by decide⟩, tq9 (List.mem_of_getElem? (i := 200) rfl) rfl, tq9 (List.mem_of_getElem? (i := 201) rfl) rfl⟩
theorem oX12_law : MI mX12_law 1 := ⟨⟨by decide, tq9 (List.mem_of_getElem? (i := 206) rfl) rfl, iX12, ⟨by decide, by decide, by decide +kernel⟩, by decide⟩, tq9 (List.mem_of_getElem? (i := 204) rfl) rfl, tq9 (List.mem_of_getElem? (i := 205) rfl) rfl⟩
theorem oX12_seed : MI mX12_seed 1 := ⟨⟨by decide, tq9 (List.mem_of_getElem? (i := 210) rfl) rfl, iX12, ⟨by decide, by decide, by decide +kernel⟩, by decide⟩, tq9 (List.mem_of_getElem? (i := 208) rfl) rfl, tq9 (List.mem_of_getElem? (i := 209) rfl) rfl⟩
theorem oX12_undo : MI mX12_undo 0 := ⟨⟨by decide, tq9 (List.mem_of_getElem? (i := 214) rfl) rfl, iX12, ⟨by decide, by decide, by decide +kernel⟩, by decide⟩, tq9 (List.mem_of_getElem? (i := 212) rfl) rfl, tq9 (List.mem_of_getElem? (i := 213) rfl) rfl⟩
theorem oX12_mark : MI mX12_mark 0 := ⟨⟨by decide, tq9 (List.mem_of_getElem? (i := 218) rfl) rfl, iX12, ⟨by decide, by decide, by decide +kernel⟩, by decide⟩, tq9 (List.mem_of_getElem? (i := 216) rfl) rfl, tq9 (List.mem_of_getElem? (i := 217) rfl) rfl⟩
theorem oX12_back : MI mX12_back 1 := ⟨⟨by decide, tq9 (List.mem_of_getElem? (i := 222) rfl) rfl, iX12, ⟨by decide, by decide, by decide +kernel⟩, by decide⟩, tq9 (List.mem_of_getElem? (i := 220) rfl) rfl, tq9 (List.mem_of_getElem? (i := 221) rfl) rfl⟩
theorem oX12_led : MI mX12_led 1 := ⟨⟨by decide, tq9 (List.mem_of_getElem? (i := 226) rfl) rfl, iX12, ⟨by decide, by decide, by decide +kernel⟩, by decide⟩, tq9 (List.mem_of_getElem? (i := 224) rfl) rfl, tq9 (List.mem_of_getElem? (i := 225) rfl) rfl⟩
theorem oX12_size : MI mX12_size 1 := ⟨⟨by decide, tq9 (List.mem_of_getElem? (i := 230) rfl) rfl, iX12, ⟨by decide, by decide, by decide +kernel⟩, by decide⟩, tq9 (List.mem_of_getElem? (i := 228) rfl) rfl, tq9 (List.mem_of_getElem? (i := 229) rfl) rfl⟩
theorem oX12_trouble : MI mX12_trouble 0 := ⟨⟨by decide, tq9 (List.mem_of_getElem? (i := 234) rfl) rfl, iX12, ⟨by decide, by decide, by decide +kernel⟩, by decide⟩, tq9 (List.mem_of_getElem? (i := 232) rfl) rfl, tq9 (List.mem_of_getElem? (i := 233) rfl) rfl⟩
theorem oJ6_bitCount_0f7a4 : MS mJ6_bitCount_0f7a4 1 := ⟨⟨by decide, tq4 (List.mem_of_getElem? (i := 97) rfl) rfl, iJ6, ⟨by decide, by decide, by decide +kernel⟩, by decide⟩, tq4 (List.mem_of_getElem? (i := 96) rfl) rfl⟩
theorem oJ0_length_8abf5 : MI mJ0_length_8abf5 0 := ⟨⟨by decide, tq3 (List.mem_of_getElem? (i := 92) rfl) rfl, iJ0, ⟨by decide, by decide, by decide +kernel⟩, by decide⟩, tq3 (List.mem_of_getElem? (i := 90) rfl) rfl, tq3 (List.mem_of_getElem? (i := 91) rfl) rfl⟩
theorem oJ0_charAt_5068e : MI mJ0_charAt_5068e 1 := ⟨⟨by decide, tq3 (List.mem_of_getElem? (i := 102) rfl) rfl, iJ0, ⟨by decide, by decide, by decide +kernel⟩, by decide⟩, tq3 (List.mem_of_getElem? (i := 100) rfl) rfl, tq3 (List.mem_of_getElem? (i := 101) rfl) rfl⟩
theorem oJ0_coder_7d493 : MI mJ0_coder_7d493 0 := ⟨⟨by decide, tq3 (List.mem_of_getElem? (i := 96) rfl) rfl, iJ0, ⟨by decide, by decide, by decide +kernel⟩, by decide⟩, tq3 (List.mem_of_getElem? (i := 94) rfl) rfl, tq3 (List.mem_of_getElem? (i := 95) rfl) rfl⟩
theorem oJ0_isLatin1_aae02 : MI mJ0_isLatin1_aae02 0 := ⟨⟨by decide, tq3 (List.mem_of_getElem? (i := 106) rfl) rfl, iJ0, ⟨by decide, by decide, by decide +kernel⟩, by decide⟩, tq3 (List.mem_of_getElem? (i := 104) rfl) rfl, tq3 (List.mem_of_getElem? (i := 105) rfl) rfl⟩
theorem oJ0_checkIndex_df160 : MS mJ0_checkIndex_df160 2 := ⟨⟨by decide, tq3 (List.mem_of_getElem? (i := 112) rfl) rfl, iJ0, ⟨by decide, by decide, by decide +kernel⟩, by decide⟩, tq3 (List.mem_of_getElem? (i := 111) rfl) rfl⟩
theorem oJ1_charAt_3b067 : MS mJ1_charAt_3b067 2 := ⟨⟨by decide, tq3 (List.mem_of_getElem? (i := 109) rfl) rfl, iJ1, ⟨by decide, by decide, by decide +kernel⟩, by decide⟩, tq3 (List.mem_of_getElem? (i := 108) rfl) rfl⟩
theorem oJ2_getChar_3b067 : MS mJ2_getChar_3b067 2 := ⟨⟨by decide, tq3 (List.mem_of_getElem? (i := 130) rfl) rfl, iJ2, ⟨by decide, by decide, by decide +kernel⟩, by decide⟩, tq3 (List.mem_of_getElem? (i := 129) rfl) rfl⟩
theorem oJ2_length_9d52b : MS mJ2_length_9d52b 1 := ⟨⟨by decide, tq3 (List.mem_of_getElem? (i := 126) rfl) rfl, iJ2, ⟨by decide, by decide, by decide +kernel⟩, by decide⟩, tq3 (List.mem_of_getElem? (i := 125) rfl) rfl⟩
theorem oJ2_charAt_3b067 : MS mJ2_charAt_3b067 2 := ⟨⟨by decide, tq3 (List.mem_of_getElem? (i := 120) rfl) rfl, iJ2, ⟨by decide, by decide, by decide +kernel⟩, by decide⟩, tq3 (List.mem_of_getElem? (i := 119) rfl) rfl⟩
theorem oJ2_checkIndex_2214a : MS mJ2_checkIndex_2214a 2 := ⟨⟨by decide, tq3 (List.mem_of_getElem? (i := 123) rfl) rfl, iJ2, ⟨by decide, by decide, by decide +kernel⟩, by decide⟩, tq3 (List.mem_of_getElem? (i := 122) rfl) rfl⟩
theorem oJ3_checkIndex_8e157 : MS mJ3_checkIndex_8e157 3 := ⟨⟨by decide, tq3 (List.mem_of_getElem? (i := 117) rfl) rfl, iJ3, ⟨by decide, by decide, by decide +kernel⟩, by decide⟩, tq3 (List.mem_of_getElem? (i := 116) rfl) rfl⟩
-- links
theorem lX10_3 : Cond.methodLink RX10 3 ⟨"java/lang/Object", "<init>", "()V"⟩ ∈ tb := tq1 (List.mem_of_getElem? (i := 30) rfl) rfl
theorem cX10_9 : Cond.classLink RX10 9 "ElderTurn$Reader" ∈ tb := tq1 (List.mem_of_getElem? (i := 33) rfl) rfl
theorem lX10_11 : LM RX10 11 mX6_init := Or.inr ⟨_, List.mem_of_getElem? (i := 0) rfl⟩
theorem fX10_12 : GF RX10 12 10 0 := ⟨_, rfl, by decide, rfl, Or.inl (tq3 (List.mem_of_getElem? (i := 12) rfl) rfl)⟩
theorem cX10_16 : Cond.classLink RX10 16 "ElderTurn$World" ∈ tb := tq1 (List.mem_of_getElem? (i := 205) rfl) rfl
theorem lX10_18 : LM RX10 18 mX9_init := Or.inr ⟨_, List.mem_of_getElem? (i := 1) rfl⟩
theorem fX10_19 : GF RX10 19 10 1 := ⟨_, rfl, by decide, rfl, Or.inl (tq3 (List.mem_of_getElem? (i := 13) rfl) rfl)⟩
theorem cX10_23 : Cond.classLink RX10 23 "ElderTurn$Past" ∈ tb := tq2 (List.mem_of_getElem? (i := 51) rfl) rfl
theorem lX10_25 : LM RX10 25 mX5_init := Or.inl (tq2 (List.mem_of_getElem? (i := 53) rfl) rfl)
theorem fX10_26 : GF RX10 26 10 2 := ⟨_, rfl, by decide, rfl, Or.inl (tq3 (List.mem_of_getElem? (i := 14) rfl) rfl)⟩
theorem cX10_30 : Cond.classLink RX10 30 "ElderTurn$Annals" ∈ tb := tq2 (List.mem_of_getElem? (i := 75) rfl) rfl
theorem lX10_32 : LM RX10 32 mX1_init := Or.inl (tq2 (List.mem_of_getElem? (i := 77) rfl) rfl)
theorem fX10_35 : GF RX10 35 10 3 := ⟨_, rfl, by decide, rfl, Or.inl (tq3 (List.mem_of_getElem? (i := 15) rfl) rfl)⟩
theorem cX10_39 : Cond.classLink RX10 39 "ElderTurn$Run" ∈ tb := tq2 (List.mem_of_getElem? (i := 210) rfl) rfl
theorem lX10_41 : LM RX10 41 mX8_init := Or.inl (tq2 (List.mem_of_getElem? (i := 211) rfl) rfl)
theorem fX10_42 : GF RX10 42 10 4 := ⟨_, rfl, by decide, rfl, Or.inl (tq3 (List.mem_of_getElem? (i := 16) rfl) rfl)⟩
theorem cX10_46 : Cond.classLink RX10 46 "ElderTurn$Rows" ∈ tb := tq2 (List.mem_of_getElem? (i := 212) rfl) rfl
theorem lX10_48 : LM RX10 48 mX7_init := Or.inl (tq2 (List.mem_of_getElem? (i := 214) rfl) rfl)
theorem fX10_49 : GF RX10 49 10 5 := ⟨_, rfl, by decide, rfl, Or.inl (tq3 (List.mem_of_getElem? (i := 17) rfl) rfl)⟩
theorem fX10_53 : GF RX10 53 10 6 := ⟨_, rfl, by decide, rfl, Or.inl (tq3 (List.mem_of_getElem? (i := 18) rfl) rfl)⟩
theorem fX10_57 : GF RX10 57 10 7 := ⟨_, rfl, by decide, rfl, Or.inl (tq3 (List.mem_of_getElem? (i := 19) rfl) rfl)⟩
theorem fX10_61 : GF RX10 61 6 4 := ⟨_, rfl, by decide, rfl, Or.inl (tq1 (List.mem_of_getElem? (i := 152) rfl) rfl)⟩
theorem lX10_64 : LM RX10 64 mX6_putBytes := Or.inl (tq3 (List.mem_of_getElem? (i := 41) rfl) rfl)
theorem lX10_68 : LM RX10 68 mX10_refuse := Or.inl (tq3 (List.mem_of_getElem? (i := 49) rfl) rfl)
theorem lX10_72 : LM RX10 72 mX6_readText := Or.inl (tq3 (List.mem_of_getElem? (i := 53) rfl) rfl)
theorem fX10_76 : GF RX10 76 9 0 := ⟨_, rfl, by decide, rfl, Or.inl (tq2 (List.mem_of_getElem? (i := 34) rfl) rfl)⟩
theorem fX10_80 : GF RX10 80 6 0 := ⟨_, rfl, by decide, rfl, Or.inl (tq1 (List.mem_of_getElem? (i := 145) rfl) rfl)⟩
theorem fX10_81 : GF RX10 81 9 1 := ⟨_, rfl, by decide, rfl, Or.inl (tq2 (List.mem_of_getElem? (i := 38) rfl) rfl)⟩
theorem lX10_85 : LM RX10 85 mX4_startFrom := Or.inl (tq4 (List.mem_of_getElem? (i := 20) rfl) rfl)
theorem lX10_91 : LM RX10 91 mX5_forget := Or.inl (tq4 (List.mem_of_getElem? (i := 24) rfl) rfl)
theorem lX10_94 : LM RX10 94 mX10_acted := Or.inl (tq4 (List.mem_of_getElem? (i := 28) rfl) rfl)
theorem fX10_98 : GF RX10 98 2 3 := ⟨_, rfl, by decide, rfl, Or.inl (tq1 (List.mem_of_getElem? (i := 65) rfl) rfl)⟩
theorem fX10_103 : GF RX10 103 6 1 := ⟨_, rfl, by decide, rfl, Or.inl (tq1 (List.mem_of_getElem? (i := 147) rfl) rfl)⟩
theorem fX10_106 : GF RX10 106 6 2 := ⟨_, rfl, by decide, rfl, Or.inl (tq1 (List.mem_of_getElem? (i := 149) rfl) rfl)⟩
theorem lX10_109 : LM RX10 109 mX10_isNoPerson := Or.inl (tq4 (List.mem_of_getElem? (i := 163) rfl) rfl)
theorem fX10_112 : GF RX10 112 2 9 := ⟨_, rfl, by decide, rfl, Or.inl (tq1 (List.mem_of_getElem? (i := 92) rfl) rfl)⟩
theorem lX10_116 : LM RX10 116 mX10_grant := Or.inl (tq4 (List.mem_of_getElem? (i := 167) rfl) rfl)
theorem fX10_119 : GF RX10 119 4 3 := ⟨_, rfl, by decide, rfl, Or.inl (tq1 (List.mem_of_getElem? (i := 232) rfl) rfl)⟩
theorem fX10_123 : GF RX10 123 2 4 := ⟨_, rfl, by decide, rfl, Or.inl (tq1 (List.mem_of_getElem? (i := 71) rfl) rfl)⟩
theorem fX10_126 : GF RX10 126 2 10 := ⟨_, rfl, by decide, rfl, Or.inl (tq1 (List.mem_of_getElem? (i := 96) rfl) rfl)⟩
theorem lX10_129 : LM RX10 129 mX10_isNoSecret := Or.inl (tq4 (List.mem_of_getElem? (i := 179) rfl) rfl)
theorem fX10_132 : GF RX10 132 2 13 := ⟨_, rfl, by decide, rfl, Or.inl (tq1 (List.mem_of_getElem? (i := 106) rfl) rfl)⟩
theorem lX10_135 : LM RX10 135 mX10_yearTrouble := Or.inl (tq4 (List.mem_of_getElem? (i := 187) rfl) rfl)
theorem fX10_138 : GF RX10 138 1 1 := ⟨_, rfl, by decide, rfl, Or.inl (tq2 (List.mem_of_getElem? (i := 173) rfl) rfl)⟩
theorem fX10_141 : GF RX10 141 8 14 := ⟨_, rfl, by decide, rfl, Or.inl (tq2 (List.mem_of_getElem? (i := 116) rfl) rfl)⟩
theorem fX10_144 : GF RX10 144 1 5 := ⟨_, rfl, by decide, rfl, Or.inl (tq2 (List.mem_of_getElem? (i := 180) rfl) rfl)⟩
theorem fX10_147 : GF RX10 147 1 3 := ⟨_, rfl, by decide, rfl, Or.inl (tq2 (List.mem_of_getElem? (i := 176) rfl) rfl)⟩
theorem fX10_150 : GF RX10 150 1 4 := ⟨_, rfl, by decide, rfl, Or.inl (tq2 (List.mem_of_getElem? (i := 178) rfl) rfl)⟩
theorem lX10_153 : LM RX10 153 mX10_personYearTrouble := Or.inl (tq4 (List.mem_of_getElem? (i := 211) rfl) rfl)
theorem lX10_157 : LM RX10 157 mX1_turnsBehind := Or.inl (tq4 (List.mem_of_getElem? (i := 219) rfl) rfl)
theorem fX10_160 : GF RX10 160 1 8 := ⟨_, rfl, by decide, rfl, Or.inl (tq2 (List.mem_of_getElem? (i := 186) rfl) rfl)⟩
theorem fX10_163 : GF RX10 163 1 7 := ⟨_, rfl, by decide, rfl, Or.inl (tq2 (List.mem_of_getElem? (i := 184) rfl) rfl)⟩
theorem lX10_166 : LM RX10 166 mX10_isNoYear := Or.inl (tq4 (List.mem_of_getElem? (i := 191) rfl) rfl)
theorem lX10_169 : LM RX10 169 mX10_has := Or.inl (tq4 (List.mem_of_getElem? (i := 239) rfl) rfl)
theorem fX10_173 : GF RX10 173 1 9 := ⟨_, rfl, by decide, rfl, Or.inl (tq2 (List.mem_of_getElem? (i := 188) rfl) rfl)⟩
theorem fX10_176 : GF RX10 176 1 6 := ⟨_, rfl, by decide, rfl, Or.inl (tq2 (List.mem_of_getElem? (i := 182) rfl) rfl)⟩
theorem fX10_179 : GF RX10 179 8 8 := ⟨_, rfl, by decide, rfl, Or.inl (tq2 (List.mem_of_getElem? (i := 103) rfl) rfl)⟩
theorem lX10_181 : LM RX10 181 mX1_harmTo := Or.inl (tq5 (List.mem_of_getElem? (i := 12) rfl) rfl)
theorem fX10_184 : GF RX10 184 8 13 := ⟨_, rfl, by decide, rfl, Or.inl (tq2 (List.mem_of_getElem? (i := 112) rfl) rfl)⟩
theorem lX10_187 : LM RX10 187 mX1_firstTurn := Or.inl (tq5 (List.mem_of_getElem? (i := 24) rfl) rfl)
theorem lX10_190 : LM RX10 190 mX1_lastTurn := Or.inl (tq5 (List.mem_of_getElem? (i := 32) rfl) rfl)
theorem lX10_193 : LM RX10 193 mX8_spread := Or.inl (tq5 (List.mem_of_getElem? (i := 40) rfl) rfl)
theorem fX10_197 : GF RX10 197 8 9 := ⟨_, rfl, by decide, rfl, Or.inl (tq2 (List.mem_of_getElem? (i := 105) rfl) rfl)⟩
theorem lX10_200 : LM RX10 200 mX1_firstKnowing := Or.inl (tq5 (List.mem_of_getElem? (i := 56) rfl) rfl)
theorem lX10_203 : LM RX10 203 mX1_knowers := Or.inl (tq5 (List.mem_of_getElem? (i := 65) rfl) rfl)
theorem lX10_206 : LM RX10 206 mX10_isNoLaw := Or.inl (tq5 (List.mem_of_getElem? (i := 73) rfl) rfl)
theorem lX10_209 : LM RX10 209 mX10_isNoMeasure := Or.inl (tq5 (List.mem_of_getElem? (i := 76) rfl) rfl)
theorem lX10_212 : LM RX10 212 mX10_measureByLaw := Or.inl (tq5 (List.mem_of_getElem? (i := 79) rfl) rfl)
theorem lX10_215 : LM RX10 215 mX10_rowTrouble := Or.inl (tq5 (List.mem_of_getElem? (i := 97) rfl) rfl)
theorem lX10_218 : LM RX10 218 mX7_find := Or.inl (tq5 (List.mem_of_getElem? (i := 101) rfl) rfl)
theorem fX10_221 : GF RX10 221 7 6 := ⟨_, rfl, by decide, rfl, Or.inl (tq2 (List.mem_of_getElem? (i := 229) rfl) rfl)⟩
theorem lX10_224 : LM RX10 224 mX7_findChains := Or.inl (tq5 (List.mem_of_getElem? (i := 138) rfl) rfl)
theorem fX10_227 : GF RX10 227 7 8 := ⟨_, rfl, by decide, rfl, Or.inl (tq2 (List.mem_of_getElem? (i := 232) rfl) rfl)⟩
theorem lX10_230 : LM RX10 230 mX10_isNoPair := Or.inl (tq5 (List.mem_of_getElem? (i := 156) rfl) rfl)
theorem lX10_233 : LM RX10 233 mX10_harmOfTrade := Or.inl (tq5 (List.mem_of_getElem? (i := 160) rfl) rfl)
theorem kX10_236 : Cond.constant RX10 236 (1000000000) ∈ tb := tq5 (List.mem_of_getElem? (i := 168) rfl) rfl
theorem fX10_237 : GF RX10 237 4 1 := ⟨_, rfl, by decide, rfl, Or.inl (tq1 (List.mem_of_getElem? (i := 226) rfl) rfl)⟩
theorem lX10_240 : LM RX10 240 mX10_diariesFit := Or.inl (tq5 (List.mem_of_getElem? (i := 173) rfl) rfl)
theorem lX10_243 : LM RX10 243 mX10_seedsTrouble := Or.inl (tq5 (List.mem_of_getElem? (i := 181) rfl) rfl)
theorem fX10_246 : GF RX10 246 9 2 := ⟨_, rfl, by decide, rfl, Or.inl (tq2 (List.mem_of_getElem? (i := 43) rfl) rfl)⟩
theorem fX10_250 : GF RX10 250 0 0 := ⟨_, rfl, by decide, rfl, Or.inl (tq2 (List.mem_of_getElem? (i := 14) rfl) rfl)⟩
theorem lX10_253 : LM RX10 253 mX10_swayedSets := Or.inl (tq5 (List.mem_of_getElem? (i := 193) rfl) rfl)
theorem fX10_256 : GF RX10 256 2 0 := ⟨_, rfl, by decide, rfl, Or.inl (tq1 (List.mem_of_getElem? (i := 53) rfl) rfl)⟩
theorem kX10_259 : Cond.constantLong RX10 259 (100) ∈ tb := tq5 (List.mem_of_getElem? (i := 202) rfl) rfl
theorem lX10_261 : LM RX10 261 mX10_commonPart := Or.inl (tq5 (List.mem_of_getElem? (i := 203) rfl) rfl)
theorem lX10_265 : LM RX10 265 mX10_isNoSeed := Or.inl (tq5 (List.mem_of_getElem? (i := 210) rfl) rfl)
theorem kX10_268 : Cond.constant RX10 268 (65537) ∈ tb := tq5 (List.mem_of_getElem? (i := 213) rfl) rfl
theorem lX10_269 : LM RX10 269 mX8_begin := Or.inl (tq5 (List.mem_of_getElem? (i := 83) rfl) rfl)
theorem lX10_273 : LM RX10 273 mX8_passYears := Or.inl (tq5 (List.mem_of_getElem? (i := 84) rfl) rfl)
theorem fX10_276 : GF RX10 276 8 11 := ⟨_, rfl, by decide, rfl, Or.inl (tq2 (List.mem_of_getElem? (i := 109) rfl) rfl)⟩
theorem lX10_279 : LM RX10 279 mX10_deny := Or.inl (tq5 (List.mem_of_getElem? (i := 218) rfl) rfl)
theorem fX10_282 : GF RX10 282 4 2 := ⟨_, rfl, by decide, rfl, Or.inl (tq1 (List.mem_of_getElem? (i := 229) rfl) rfl)⟩
theorem lX10_285 : LM RX10 285 mX5_keepAct := Or.inl (tq5 (List.mem_of_getElem? (i := 222) rfl) rfl)
theorem lX10_289 : LM RX10 289 mX4_addBuy := Or.inl (tq5 (List.mem_of_getElem? (i := 235) rfl) rfl)
theorem fX10_293 : GF RX10 293 4 0 := ⟨_, rfl, by decide, rfl, Or.inl (tq1 (List.mem_of_getElem? (i := 222) rfl) rfl)⟩
theorem lX10_296 : LM RX10 296 mX5_takeBack := Or.inl (tq6 (List.mem_of_getElem? (i := 15) rfl) rfl)
theorem lX10_300 : LM RX10 300 mX5_setMark := Or.inl (tq6 (List.mem_of_getElem? (i := 23) rfl) rfl)
theorem lX10_304 : LM RX10 304 mX5_goBack := Or.inl (tq6 (List.mem_of_getElem? (i := 31) rfl) rfl)
theorem lX10_308 : LM RX10 308 mX1_deadInTurn := Or.inl (tq6 (List.mem_of_getElem? (i := 51) rfl) rfl)
theorem cX10_311 : Cond.classLink RX10 311 "java/util/NoSuchElementException" ∈ tb := tq6 (List.mem_of_getElem? (i := 56) rfl) rfl
theorem lX10_313 : Cond.methodLink RX10 313 ⟨"java/util/NoSuchElementException", "<init>", "()V"⟩ ∈ tb := tq6 (List.mem_of_getElem? (i := 95) rfl) rfl
theorem fX10_314 : GF RX10 314 2 2 := ⟨_, rfl, by decide, rfl, Or.inl (tq1 (List.mem_of_getElem? (i := 60) rfl) rfl)⟩
theorem fX10_317 : GF RX10 317 2 5 := ⟨_, rfl, by decide, rfl, Or.inl (tq1 (List.mem_of_getElem? (i := 76) rfl) rfl)⟩
theorem fX10_320 : GF RX10 320 2 6 := ⟨_, rfl, by decide, rfl, Or.inl (tq1 (List.mem_of_getElem? (i := 81) rfl) rfl)⟩
theorem fX10_323 : GF RX10 323 2 7 := ⟨_, rfl, by decide, rfl, Or.inl (tq1 (List.mem_of_getElem? (i := 84) rfl) rfl)⟩
theorem fX10_326 : GF RX10 326 2 8 := ⟨_, rfl, by decide, rfl, Or.inl (tq1 (List.mem_of_getElem? (i := 87) rfl) rfl)⟩
theorem fX10_329 : GF RX10 329 5 0 := ⟨_, rfl, by decide, rfl, Or.inl (tq2 (List.mem_of_getElem? (i := 61) rfl) rfl)⟩
theorem fX10_332 : GF RX10 332 5 1 := ⟨_, rfl, by decide, rfl, Or.inl (tq2 (List.mem_of_getElem? (i := 63) rfl) rfl)⟩
theorem lX10_335 : LM RX10 335 mX0_drawUp := Or.inl (tq4 (List.mem_of_getElem? (i := 32) rfl) rfl)
theorem lX10_339 : LM RX10 339 mX1_write := Or.inl (tq4 (List.mem_of_getElem? (i := 44) rfl) rfl)
theorem lX10_342 : LM RX10 342 mX7_forget := Or.inl (tq4 (List.mem_of_getElem? (i := 147) rfl) rfl)
theorem fX10_343 : GF RX10 343 8 10 := ⟨_, rfl, by decide, rfl, Or.inl (tq2 (List.mem_of_getElem? (i := 107) rfl) rfl)⟩
theorem fX10_346 : GF RX10 346 8 3 := ⟨_, rfl, by decide, rfl, Or.inl (tq2 (List.mem_of_getElem? (i := 91) rfl) rfl)⟩
theorem fX10_349 : GF RX10 349 8 4 := ⟨_, rfl, by decide, rfl, Or.inl (tq2 (List.mem_of_getElem? (i := 93) rfl) rfl)⟩
theorem fX10_352 : GF RX10 352 2 12 := ⟨_, rfl, by decide, rfl, Or.inl (tq1 (List.mem_of_getElem? (i := 103) rfl) rfl)⟩
theorem lX10_355 : LM RX10 355 mX2_weightOf := Or.inl (tq5 (List.mem_of_getElem? (i := 197) rfl) rfl)
theorem lX0_3 : Cond.methodLink RX0 3 ⟨"java/lang/Object", "<init>", "()V"⟩ ∈ tb := tq2 (List.mem_of_getElem? (i := 11) rfl) rfl
theorem fX0_9 : GF RX0 9 0 0 := ⟨_, rfl, by decide, rfl, Or.inl (tq2 (List.mem_of_getElem? (i := 12) rfl) rfl)⟩
theorem fX0_15 : GF RX0 15 0 1 := ⟨_, rfl, by decide, rfl, Or.inl (tq2 (List.mem_of_getElem? (i := 15) rfl) rfl)⟩
theorem fX0_18 : GF RX0 18 0 2 := ⟨_, rfl, by decide, rfl, Or.inl (tq2 (List.mem_of_getElem? (i := 17) rfl) rfl)⟩
theorem fX0_21 : GF RX0 21 0 3 := ⟨_, rfl, by decide, rfl, Or.inl (tq2 (List.mem_of_getElem? (i := 19) rfl) rfl)⟩
theorem fX0_24 : GF RX0 24 2 3 := ⟨_, rfl, by decide, rfl, Or.inl (tq1 (List.mem_of_getElem? (i := 62) rfl) rfl)⟩
theorem fX0_30 : GF RX0 30 2 9 := ⟨_, rfl, by decide, rfl, Or.inl (tq1 (List.mem_of_getElem? (i := 89) rfl) rfl)⟩
theorem fX0_34 : GF RX0 34 2 0 := ⟨_, rfl, by decide, rfl, Or.inl (tq1 (List.mem_of_getElem? (i := 49) rfl) rfl)⟩
theorem lX0_37 : LM RX0 37 mX0_enterPeople := Or.inl (tq4 (List.mem_of_getElem? (i := 36) rfl) rfl)
theorem lX0_41 : LM RX0 41 mX0_enterHarm := Or.inl (tq4 (List.mem_of_getElem? (i := 40) rfl) rfl)
theorem fX0_45 : GF RX0 45 4 3 := ⟨_, rfl, by decide, rfl, Or.inl (tq1 (List.mem_of_getElem? (i := 231) rfl) rfl)⟩
theorem fX0_50 : GF RX0 50 2 4 := ⟨_, rfl, by decide, rfl, Or.inl (tq1 (List.mem_of_getElem? (i := 70) rfl) rfl)⟩
theorem fX0_53 : GF RX0 53 2 10 := ⟨_, rfl, by decide, rfl, Or.inl (tq1 (List.mem_of_getElem? (i := 95) rfl) rfl)⟩
theorem lX1_3 : Cond.methodLink RX1 3 ⟨"java/lang/Object", "<init>", "()V"⟩ ∈ tb := tq2 (List.mem_of_getElem? (i := 80) rfl) rfl
theorem fX1_9 : GF RX1 9 1 3 := ⟨_, rfl, by decide, rfl, Or.inl (tq2 (List.mem_of_getElem? (i := 175) rfl) rfl)⟩
theorem fX1_15 : GF RX1 15 1 4 := ⟨_, rfl, by decide, rfl, Or.inl (tq2 (List.mem_of_getElem? (i := 177) rfl) rfl)⟩
theorem fX1_18 : GF RX1 18 1 5 := ⟨_, rfl, by decide, rfl, Or.inl (tq2 (List.mem_of_getElem? (i := 179) rfl) rfl)⟩
theorem fX1_21 : GF RX1 21 1 6 := ⟨_, rfl, by decide, rfl, Or.inl (tq2 (List.mem_of_getElem? (i := 181) rfl) rfl)⟩
theorem fX1_24 : GF RX1 24 1 7 := ⟨_, rfl, by decide, rfl, Or.inl (tq2 (List.mem_of_getElem? (i := 183) rfl) rfl)⟩
theorem fX1_27 : GF RX1 27 1 8 := ⟨_, rfl, by decide, rfl, Or.inl (tq2 (List.mem_of_getElem? (i := 185) rfl) rfl)⟩
theorem fX1_30 : GF RX1 30 1 9 := ⟨_, rfl, by decide, rfl, Or.inl (tq2 (List.mem_of_getElem? (i := 187) rfl) rfl)⟩
theorem fX1_33 : GF RX1 33 1 0 := ⟨_, rfl, by decide, rfl, Or.inl (tq2 (List.mem_of_getElem? (i := 171) rfl) rfl)⟩
theorem cX1_37 : Cond.classLink RX1 37 "ElderTurn$Run" ∈ tb := tq2 (List.mem_of_getElem? (i := 81) rfl) rfl
theorem lX1_39 : LM RX1 39 mX8_init := Or.inl (tq2 (List.mem_of_getElem? (i := 83) rfl) rfl)
theorem fX1_42 : GF RX1 42 1 1 := ⟨_, rfl, by decide, rfl, Or.inl (tq2 (List.mem_of_getElem? (i := 172) rfl) rfl)⟩
theorem cX1_46 : Cond.classLink RX1 46 "ElderTurn$Notes" ∈ tb := tq2 (List.mem_of_getElem? (i := 148) rfl) rfl
theorem lX1_48 : LM RX1 48 mX3_init := Or.inl (tq2 (List.mem_of_getElem? (i := 150) rfl) rfl)
theorem fX1_49 : GF RX1 49 1 2 := ⟨_, rfl, by decide, rfl, Or.inl (tq2 (List.mem_of_getElem? (i := 174) rfl) rfl)⟩
theorem fX1_53 : GF RX1 53 9 1 := ⟨_, rfl, by decide, rfl, Or.inl (tq2 (List.mem_of_getElem? (i := 37) rfl) rfl)⟩
theorem fX1_59 : GF RX1 59 4 0 := ⟨_, rfl, by decide, rfl, Or.inl (tq1 (List.mem_of_getElem? (i := 220) rfl) rfl)⟩
theorem fX1_65 : GF RX1 65 4 1 := ⟨_, rfl, by decide, rfl, Or.inl (tq1 (List.mem_of_getElem? (i := 224) rfl) rfl)⟩
theorem lX1_68 : LM RX1 68 mX8_begin := Or.inl (tq4 (List.mem_of_getElem? (i := 48) rfl) rfl)
theorem lX1_72 : LM RX1 72 mX3_begin := Or.inl (tq4 (List.mem_of_getElem? (i := 52) rfl) rfl)
theorem fX1_74 : GF RX1 74 9 0 := ⟨_, rfl, by decide, rfl, Or.inl (tq2 (List.mem_of_getElem? (i := 32) rfl) rfl)⟩
theorem fX1_78 : GF RX1 78 2 0 := ⟨_, rfl, by decide, rfl, Or.inl (tq1 (List.mem_of_getElem? (i := 48) rfl) rfl)⟩
theorem lX1_83 : LM RX1 83 mX8_whoIsThere := Or.inl (tq4 (List.mem_of_getElem? (i := 56) rfl) rfl)
theorem lX1_87 : LM RX1 87 mX8_whoCan := Or.inl (tq4 (List.mem_of_getElem? (i := 60) rfl) rfl)
theorem fX1_90 : GF RX1 90 8 6 := ⟨_, rfl, by decide, rfl, Or.inl (tq2 (List.mem_of_getElem? (i := 97) rfl) rfl)⟩
theorem fX1_94 : GF RX1 94 8 8 := ⟨_, rfl, by decide, rfl, Or.inl (tq2 (List.mem_of_getElem? (i := 101) rfl) rfl)⟩
theorem lX1_96 : LM RX1 96 mX8_passYear := Or.inl (tq4 (List.mem_of_getElem? (i := 64) rfl) rfl)
theorem fX1_100 : GF RX1 100 8 14 := ⟨_, rfl, by decide, rfl, Or.inl (tq2 (List.mem_of_getElem? (i := 114) rfl) rfl)⟩
theorem lX1_103 : LM RX1 103 mX1_writeNotes := Or.inl (tq4 (List.mem_of_getElem? (i := 127) rfl) rfl)
theorem lX1_106 : LM RX1 106 mX3_takeTurn := Or.inl (tq4 (List.mem_of_getElem? (i := 131) rfl) rfl)
theorem fX1_110 : GF RX1 110 3 1 := ⟨_, rfl, by decide, rfl, Or.inl (tq2 (List.mem_of_getElem? (i := 156) rfl) rfl)⟩
theorem fX1_113 : GF RX1 113 3 2 := ⟨_, rfl, by decide, rfl, Or.inl (tq2 (List.mem_of_getElem? (i := 158) rfl) rfl)⟩
theorem lX1_116 : Cond.methodLink RX1 116 ⟨"java/lang/System", "arraycopy", "(Ljava/lang/Object;ILjava/lang/Object;II)V"⟩ ∈ tb := tq4 (List.mem_of_getElem? (i := 144) rfl) rfl
theorem fX1_122 : GF RX1 122 3 3 := ⟨_, rfl, by decide, rfl, Or.inl (tq2 (List.mem_of_getElem? (i := 161) rfl) rfl)⟩
theorem lX1_125 : LM RX1 125 mX10_has := Or.inr ⟨_, List.mem_of_getElem? (i := 2) rfl⟩
theorem fX1_129 : GF RX1 129 2 3 := ⟨_, rfl, by decide, rfl, Or.inl (tq1 (List.mem_of_getElem? (i := 68) rfl) rfl)⟩
theorem fX1_132 : GF RX1 132 8 5 := ⟨_, rfl, by decide, rfl, Or.inl (tq2 (List.mem_of_getElem? (i := 95) rfl) rfl)⟩
theorem lX1_135 : LM RX1 135 mX1_lastTurn := Or.inl (tq6 (List.mem_of_getElem? (i := 55) rfl) rfl)
theorem lX2_3 : Cond.methodLink RX2 3 ⟨"java/lang/Object", "<init>", "()V"⟩ ∈ tb := tq1 (List.mem_of_getElem? (i := 44) rfl) rfl
theorem fX2_9 : GF RX2 9 2 0 := ⟨_, rfl, by decide, rfl, Or.inl (tq1 (List.mem_of_getElem? (i := 47) rfl) rfl)⟩
theorem fX2_15 : GF RX2 15 2 1 := ⟨_, rfl, by decide, rfl, Or.inl (tq1 (List.mem_of_getElem? (i := 54) rfl) rfl)⟩
theorem fX2_18 : GF RX2 18 2 2 := ⟨_, rfl, by decide, rfl, Or.inl (tq1 (List.mem_of_getElem? (i := 57) rfl) rfl)⟩
theorem fX2_21 : GF RX2 21 2 3 := ⟨_, rfl, by decide, rfl, Or.inl (tq1 (List.mem_of_getElem? (i := 61) rfl) rfl)⟩
theorem fX2_24 : GF RX2 24 2 4 := ⟨_, rfl, by decide, rfl, Or.inl (tq1 (List.mem_of_getElem? (i := 69) rfl) rfl)⟩
theorem fX2_27 : GF RX2 27 2 5 := ⟨_, rfl, by decide, rfl, Or.inl (tq1 (List.mem_of_getElem? (i := 73) rfl) rfl)⟩
theorem fX2_30 : GF RX2 30 2 6 := ⟨_, rfl, by decide, rfl, Or.inl (tq1 (List.mem_of_getElem? (i := 77) rfl) rfl)⟩
theorem fX2_33 : GF RX2 33 2 7 := ⟨_, rfl, by decide, rfl, Or.inl (tq1 (List.mem_of_getElem? (i := 82) rfl) rfl)⟩
theorem fX2_36 : GF RX2 36 2 8 := ⟨_, rfl, by decide, rfl, Or.inl (tq1 (List.mem_of_getElem? (i := 85) rfl) rfl)⟩
theorem cX2_39 : Cond.classLink RX2 39 "[[I" ∈ tb := tq1 (List.mem_of_getElem? (i := 45) rfl) rfl
theorem fX2_41 : GF RX2 41 2 9 := ⟨_, rfl, by decide, rfl, Or.inl (tq1 (List.mem_of_getElem? (i := 88) rfl) rfl)⟩
theorem fX2_44 : GF RX2 44 2 10 := ⟨_, rfl, by decide, rfl, Or.inl (tq1 (List.mem_of_getElem? (i := 94) rfl) rfl)⟩
theorem fX2_47 : GF RX2 47 2 11 := ⟨_, rfl, by decide, rfl, Or.inl (tq1 (List.mem_of_getElem? (i := 98) rfl) rfl)⟩
theorem fX2_50 : GF RX2 50 2 12 := ⟨_, rfl, by decide, rfl, Or.inl (tq1 (List.mem_of_getElem? (i := 101) rfl) rfl)⟩
theorem fX2_53 : GF RX2 53 2 13 := ⟨_, rfl, by decide, rfl, Or.inl (tq1 (List.mem_of_getElem? (i := 104) rfl) rfl)⟩
theorem fX2_57 : GF RX2 57 2 14 := ⟨_, rfl, by decide, rfl, Or.inl (tq1 (List.mem_of_getElem? (i := 109) rfl) rfl)⟩
theorem lX3_3 : Cond.methodLink RX3 3 ⟨"java/lang/Object", "<init>", "()V"⟩ ∈ tb := tq2 (List.mem_of_getElem? (i := 153) rfl) rfl
theorem fX3_9 : GF RX3 9 3 1 := ⟨_, rfl, by decide, rfl, Or.inl (tq2 (List.mem_of_getElem? (i := 155) rfl) rfl)⟩
theorem fX3_15 : GF RX3 15 3 2 := ⟨_, rfl, by decide, rfl, Or.inl (tq2 (List.mem_of_getElem? (i := 157) rfl) rfl)⟩
theorem fX3_19 : GF RX3 19 3 3 := ⟨_, rfl, by decide, rfl, Or.inl (tq2 (List.mem_of_getElem? (i := 160) rfl) rfl)⟩
theorem fX3_22 : GF RX3 22 3 0 := ⟨_, rfl, by decide, rfl, Or.inl (tq2 (List.mem_of_getElem? (i := 154) rfl) rfl)⟩
theorem fX3_26 : GF RX3 26 9 0 := ⟨_, rfl, by decide, rfl, Or.inl (tq2 (List.mem_of_getElem? (i := 31) rfl) rfl)⟩
theorem fX3_32 : GF RX3 32 2 6 := ⟨_, rfl, by decide, rfl, Or.inl (tq1 (List.mem_of_getElem? (i := 78) rfl) rfl)⟩
theorem fX3_37 : GF RX3 37 2 13 := ⟨_, rfl, by decide, rfl, Or.inl (tq1 (List.mem_of_getElem? (i := 105) rfl) rfl)⟩
theorem lX3_40 : LM RX3 40 mX3_readAs := Or.inl (tq4 (List.mem_of_getElem? (i := 135) rfl) rfl)
theorem lX3_44 : LM RX3 44 mX3_writeAs := Or.inl (tq4 (List.mem_of_getElem? (i := 140) rfl) rfl)
theorem lX3_47 : LM RX3 47 mX10_has := Or.inr ⟨_, List.mem_of_getElem? (i := 3) rfl⟩
theorem fX3_51 : GF RX3 51 2 14 := ⟨_, rfl, by decide, rfl, Or.inl (tq1 (List.mem_of_getElem? (i := 110) rfl) rfl)⟩
theorem lX4_3 : Cond.methodLink RX4 3 ⟨"java/lang/Object", "<init>", "()V"⟩ ∈ tb := tq1 (List.mem_of_getElem? (i := 218) rfl) rfl
theorem fX4_9 : GF RX4 9 4 0 := ⟨_, rfl, by decide, rfl, Or.inl (tq1 (List.mem_of_getElem? (i := 219) rfl) rfl)⟩
theorem fX4_15 : GF RX4 15 4 1 := ⟨_, rfl, by decide, rfl, Or.inl (tq1 (List.mem_of_getElem? (i := 223) rfl) rfl)⟩
theorem fX4_18 : GF RX4 18 4 2 := ⟨_, rfl, by decide, rfl, Or.inl (tq1 (List.mem_of_getElem? (i := 227) rfl) rfl)⟩
theorem fX4_21 : GF RX4 21 4 3 := ⟨_, rfl, by decide, rfl, Or.inl (tq1 (List.mem_of_getElem? (i := 230) rfl) rfl)⟩
theorem fX4_25 : GF RX4 25 4 4 := ⟨_, rfl, by decide, rfl, Or.inl (tq1 (List.mem_of_getElem? (i := 233) rfl) rfl)⟩
theorem fX4_28 : GF RX4 28 2 1 := ⟨_, rfl, by decide, rfl, Or.inl (tq1 (List.mem_of_getElem? (i := 55) rfl) rfl)⟩
theorem fX4_31 : GF RX4 31 2 3 := ⟨_, rfl, by decide, rfl, Or.inl (tq1 (List.mem_of_getElem? (i := 63) rfl) rfl)⟩
theorem fX4_34 : GF RX4 34 2 9 := ⟨_, rfl, by decide, rfl, Or.inl (tq1 (List.mem_of_getElem? (i := 90) rfl) rfl)⟩
theorem lX4_38 : Cond.methodLink RX4 38 ⟨"java/lang/System", "arraycopy", "(Ljava/lang/Object;ILjava/lang/Object;II)V"⟩ ∈ tb := tq5 (List.mem_of_getElem? (i := 234) rfl) rfl
theorem lX5_3 : Cond.methodLink RX5 3 ⟨"java/lang/Object", "<init>", "()V"⟩ ∈ tb := tq2 (List.mem_of_getElem? (i := 56) rfl) rfl
theorem fX5_9 : GF RX5 9 5 0 := ⟨_, rfl, by decide, rfl, Or.inl (tq2 (List.mem_of_getElem? (i := 60) rfl) rfl)⟩
theorem fX5_15 : GF RX5 15 5 1 := ⟨_, rfl, by decide, rfl, Or.inl (tq2 (List.mem_of_getElem? (i := 62) rfl) rfl)⟩
theorem cX5_18 : Cond.classLink RX5 18 "ElderTurn$Now" ∈ tb := tq2 (List.mem_of_getElem? (i := 57) rfl) rfl
theorem fX5_20 : GF RX5 20 5 2 := ⟨_, rfl, by decide, rfl, Or.inl (tq2 (List.mem_of_getElem? (i := 64) rfl) rfl)⟩
theorem fX5_24 : GF RX5 24 5 3 := ⟨_, rfl, by decide, rfl, Or.inl (tq2 (List.mem_of_getElem? (i := 65) rfl) rfl)⟩
theorem lX5_27 : LM RX5 27 mX4_init := Or.inr ⟨_, List.mem_of_getElem? (i := 4) rfl⟩
theorem lX5_28 : LM RX5 28 mX5_dropOldest := Or.inl (tq5 (List.mem_of_getElem? (i := 226) rfl) rfl)
theorem lX5_31 : LM RX5 31 mX4_copyFrom := Or.inl (tq5 (List.mem_of_getElem? (i := 230) rfl) rfl)
theorem lX6_3 : Cond.methodLink RX6 3 ⟨"java/lang/Object", "<init>", "()V"⟩ ∈ tb := tq1 (List.mem_of_getElem? (i := 38) rfl) rfl
theorem cX6_9 : Cond.classLink RX6 9 "ElderTurn$Family" ∈ tb := tq1 (List.mem_of_getElem? (i := 39) rfl) rfl
theorem lX6_11 : LM RX6 11 mX2_init := Or.inr ⟨_, List.mem_of_getElem? (i := 5) rfl⟩
theorem fX6_12 : GF RX6 12 6 0 := ⟨_, rfl, by decide, rfl, Or.inl (tq1 (List.mem_of_getElem? (i := 144) rfl) rfl)⟩
theorem fX6_18 : GF RX6 18 6 1 := ⟨_, rfl, by decide, rfl, Or.inl (tq1 (List.mem_of_getElem? (i := 146) rfl) rfl)⟩
theorem fX6_22 : GF RX6 22 6 2 := ⟨_, rfl, by decide, rfl, Or.inl (tq1 (List.mem_of_getElem? (i := 148) rfl) rfl)⟩
theorem fX6_25 : GF RX6 25 6 3 := ⟨_, rfl, by decide, rfl, Or.inl (tq1 (List.mem_of_getElem? (i := 150) rfl) rfl)⟩
theorem fX6_29 : GF RX6 29 6 4 := ⟨_, rfl, by decide, rfl, Or.inl (tq1 (List.mem_of_getElem? (i := 151) rfl) rfl)⟩
theorem fX6_32 : GF RX6 32 6 5 := ⟨_, rfl, by decide, rfl, Or.inl (tq1 (List.mem_of_getElem? (i := 153) rfl) rfl)⟩
theorem fX6_35 : GF RX6 35 6 6 := ⟨_, rfl, by decide, rfl, Or.inl (tq1 (List.mem_of_getElem? (i := 154) rfl) rfl)⟩
theorem fX6_38 : GF RX6 38 6 7 := ⟨_, rfl, by decide, rfl, Or.inl (tq1 (List.mem_of_getElem? (i := 155) rfl) rfl)⟩
theorem fX6_41 : GF RX6 41 6 8 := ⟨_, rfl, by decide, rfl, Or.inl (tq1 (List.mem_of_getElem? (i := 156) rfl) rfl)⟩
theorem fX6_44 : GF RX6 44 6 9 := ⟨_, rfl, by decide, rfl, Or.inl (tq1 (List.mem_of_getElem? (i := 157) rfl) rfl)⟩
theorem fX6_47 : GF RX6 47 6 10 := ⟨_, rfl, by decide, rfl, Or.inl (tq1 (List.mem_of_getElem? (i := 158) rfl) rfl)⟩
theorem fX6_50 : GF RX6 50 6 11 := ⟨_, rfl, by decide, rfl, Or.inl (tq1 (List.mem_of_getElem? (i := 159) rfl) rfl)⟩
theorem fX6_53 : GF RX6 53 6 12 := ⟨_, rfl, by decide, rfl, Or.inl (tq1 (List.mem_of_getElem? (i := 160) rfl) rfl)⟩
theorem fX6_56 : GF RX6 56 6 13 := ⟨_, rfl, by decide, rfl, Or.inl (tq1 (List.mem_of_getElem? (i := 161) rfl) rfl)⟩
theorem fX6_60 : GF RX6 60 6 14 := ⟨_, rfl, by decide, rfl, Or.inl (tq1 (List.mem_of_getElem? (i := 162) rfl) rfl)⟩
theorem fX6_63 : GF RX6 63 6 15 := ⟨_, rfl, by decide, rfl, Or.inl (tq1 (List.mem_of_getElem? (i := 163) rfl) rfl)⟩
theorem fX6_66 : GF RX6 66 6 16 := ⟨_, rfl, by decide, rfl, Or.inl (tq1 (List.mem_of_getElem? (i := 164) rfl) rfl)⟩
theorem fX6_70 : GF RX6 70 6 17 := ⟨_, rfl, by decide, rfl, Or.inl (tq1 (List.mem_of_getElem? (i := 165) rfl) rfl)⟩
theorem lX6_73 : Cond.methodLink RX6 73 ⟨"java/lang/Math", "min", "(II)I"⟩ ∈ tb := tq3 (List.mem_of_getElem? (i := 57) rfl) rfl
theorem lX6_79 : LM RX6 79 mX2_clear := Or.inl (tq3 (List.mem_of_getElem? (i := 60) rfl) rfl)
theorem lX6_82 : LM RX6 82 mX6_advance := Or.inl (tq3 (List.mem_of_getElem? (i := 64) rfl) rfl)
theorem lX6_85 : LM RX6 85 mX6_readLine := Or.inl (tq3 (List.mem_of_getElem? (i := 76) rfl) rfl)
theorem lX6_89 : LM RX6 89 mX6_fail := Or.inl (tq3 (List.mem_of_getElem? (i := 145) rfl) rfl)
theorem fX6_93 : GF RX6 93 2 3 := ⟨_, rfl, by decide, rfl, Or.inl (tq1 (List.mem_of_getElem? (i := 66) rfl) rfl)⟩
theorem lX6_96 : LM RX6 96 mX6_endOfRun := Or.inl (tq3 (List.mem_of_getElem? (i := 68) rfl) rfl)
theorem lX6_100 : LM RX6 100 mX6_wholeOf := Or.inl (tq3 (List.mem_of_getElem? (i := 72) rfl) rfl)
theorem lX6_103 : LM RX6 103 mJ0_length_8abf5 := Or.inl (tq3 (List.mem_of_getElem? (i := 89) rfl) rfl)
theorem lX6_108 : LM RX6 108 mJ0_charAt_5068e := Or.inl (tq3 (List.mem_of_getElem? (i := 99) rfl) rfl)
theorem lX6_112 : LM RX6 112 mX6_sees := Or.inl (tq3 (List.mem_of_getElem? (i := 85) rfl) rfl)
theorem lX6_116 : LM RX6 116 mX6_standsAt := Or.inl (tq3 (List.mem_of_getElem? (i := 193) rfl) rfl)
theorem lX6_119 : LM RX6 119 mX6_seenLine := Or.inl (tq3 (List.mem_of_getElem? (i := 80) rfl) rfl)
theorem lX6_122 : LM RX6 122 mX6_seenName := Or.inl (tq3 (List.mem_of_getElem? (i := 189) rfl) rfl)
theorem sX6_125 : (RX6, 125, "family", 8) ∈ strL := List.mem_of_getElem? (i := 0) rfl
theorem sX6_127 : (RX6, 127, "person", 18) ∈ strL := List.mem_of_getElem? (i := 1) rfl
theorem sX6_129 : (RX6, 129, "plan", 20) ∈ strL := List.mem_of_getElem? (i := 2) rfl
theorem sX6_131 : (RX6, 131, "dies", 6) ∈ strL := List.mem_of_getElem? (i := 3) rfl
theorem sX6_133 : (RX6, 133, "buys", 3) ∈ strL := List.mem_of_getElem? (i := 4) rfl
theorem sX6_135 : (RX6, 135, "secret", 24) ∈ strL := List.mem_of_getElem? (i := 5) rfl
theorem sX6_137 : (RX6, 137, "hides", 12) ∈ strL := List.mem_of_getElem? (i := 6) rfl
theorem sX6_139 : (RX6, 139, "diary", 5) ∈ strL := List.mem_of_getElem? (i := 7) rfl
theorem sX6_141 : (RX6, 141, "not", 17) ∈ strL := List.mem_of_getElem? (i := 8) rfl
theorem fX6_143 : GF RX6 143 2 4 := ⟨_, rfl, by decide, rfl, Or.inl (tq1 (List.mem_of_getElem? (i := 72) rfl) rfl)⟩
theorem fX6_146 : GF RX6 146 2 5 := ⟨_, rfl, by decide, rfl, Or.inl (tq1 (List.mem_of_getElem? (i := 75) rfl) rfl)⟩
theorem fX6_148 : GF RX6 148 2 6 := ⟨_, rfl, by decide, rfl, Or.inl (tq1 (List.mem_of_getElem? (i := 80) rfl) rfl)⟩
theorem fX6_151 : GF RX6 151 2 7 := ⟨_, rfl, by decide, rfl, Or.inl (tq1 (List.mem_of_getElem? (i := 83) rfl) rfl)⟩
theorem fX6_153 : GF RX6 153 2 8 := ⟨_, rfl, by decide, rfl, Or.inl (tq1 (List.mem_of_getElem? (i := 86) rfl) rfl)⟩
theorem fX6_156 : GF RX6 156 2 0 := ⟨_, rfl, by decide, rfl, Or.inl (tq1 (List.mem_of_getElem? (i := 52) rfl) rfl)⟩
theorem lX6_159 : LM RX6 159 mX6_isFull := Or.inl (tq3 (List.mem_of_getElem? (i := 149) rfl) rfl)
theorem lX6_162 : LM RX6 162 mX6_readFamily := Or.inl (tq3 (List.mem_of_getElem? (i := 153) rfl) rfl)
theorem fX6_165 : GF RX6 165 2 9 := ⟨_, rfl, by decide, rfl, Or.inl (tq1 (List.mem_of_getElem? (i := 93) rfl) rfl)⟩
theorem lX6_168 : LM RX6 168 mX6_readPerson := Or.inl (tq3 (List.mem_of_getElem? (i := 181) rfl) rfl)
theorem fX6_172 : GF RX6 172 2 10 := ⟨_, rfl, by decide, rfl, Or.inl (tq1 (List.mem_of_getElem? (i := 97) rfl) rfl)⟩
theorem lX6_174 : LM RX6 174 mX6_readPlan := Or.inl (tq3 (List.mem_of_getElem? (i := 222) rfl) rfl)
theorem lX6_177 : LM RX6 177 mX6_readDies := Or.inl (tq3 (List.mem_of_getElem? (i := 232) rfl) rfl)
theorem fX6_180 : GF RX6 180 2 11 := ⟨_, rfl, by decide, rfl, Or.inl (tq1 (List.mem_of_getElem? (i := 100) rfl) rfl)⟩
theorem lX6_183 : LM RX6 183 mX6_readBuys := Or.inl (tq4 (List.mem_of_getElem? (i := 0) rfl) rfl)
theorem lX6_186 : LM RX6 186 mX6_readSecret := Or.inl (tq4 (List.mem_of_getElem? (i := 5) rfl) rfl)
theorem lX6_189 : LM RX6 189 mX6_readHides := Or.inl (tq4 (List.mem_of_getElem? (i := 9) rfl) rfl)
theorem fX6_192 : GF RX6 192 2 12 := ⟨_, rfl, by decide, rfl, Or.inl (tq1 (List.mem_of_getElem? (i := 102) rfl) rfl)⟩
theorem lX6_194 : LM RX6 194 mX6_readDiary := Or.inl (tq4 (List.mem_of_getElem? (i := 16) rfl) rfl)
theorem sX6_198 : (RX6, 198, "years", 31) ∈ strL := List.mem_of_getElem? (i := 9) rfl
theorem lX6_199 : LM RX6 199 mX6_takeWord := Or.inl (tq3 (List.mem_of_getElem? (i := 158) rfl) rfl)
theorem lX6_202 : LM RX6 202 mX6_takeWhole := Or.inl (tq3 (List.mem_of_getElem? (i := 162) rfl) rfl)
theorem sX6_206 : (RX6, 206, "law", 14) ∈ strL := List.mem_of_getElem? (i := 10) rfl
theorem lX6_208 : LM RX6 208 mX6_seenLaw := Or.inl (tq3 (List.mem_of_getElem? (i := 167) rfl) rfl)
theorem lX6_211 : LM RX6 211 mX6_takeChoice := Or.inl (tq3 (List.mem_of_getElem? (i := 176) rfl) rfl)
theorem sX6_215 : (RX6, 215, "fare", 9) ∈ strL := List.mem_of_getElem? (i := 11) rfl
theorem fX6_217 : GF RX6 217 2 1 := ⟨_, rfl, by decide, rfl, Or.inl (tq1 (List.mem_of_getElem? (i := 56) rfl) rfl)⟩
theorem fX6_219 : GF RX6 219 2 2 := ⟨_, rfl, by decide, rfl, Or.inl (tq1 (List.mem_of_getElem? (i := 59) rfl) rfl)⟩
theorem sX6_221 : (RX6, 221, "round", 23) ∈ strL := List.mem_of_getElem? (i := 12) rfl
theorem sX6_223 : (RX6, 223, "eldest", 7) ∈ strL := List.mem_of_getElem? (i := 13) rfl
theorem sX6_225 : (RX6, 225, "youngest", 32) ∈ strL := List.mem_of_getElem? (i := 14) rfl
theorem sX6_227 : (RX6, 227, "lot", 16) ∈ strL := List.mem_of_getElem? (i := 15) rfl
theorem sX6_229 : (RX6, 229, "vote", 29) ∈ strL := List.mem_of_getElem? (i := 16) rfl
theorem lX6_231 : LM RX6 231 mX6_takeNewName := Or.inl (tq3 (List.mem_of_getElem? (i := 185) rfl) rfl)
theorem lX6_235 : LM RX6 235 mX6_seenKind := Or.inl (tq3 (List.mem_of_getElem? (i := 197) rfl) rfl)
theorem sX6_238 : (RX6, 238, "branch", 2) ∈ strL := List.mem_of_getElem? (i := 17) rfl
theorem lX6_240 : LM RX6 240 mX6_seenSide := Or.inl (tq3 (List.mem_of_getElem? (i := 207) rfl) rfl)
theorem lX6_243 : LM RX6 243 mX6_seenAge := Or.inl (tq3 (List.mem_of_getElem? (i := 213) rfl) rfl)
theorem sX6_246 : (RX6, 246, "strong", 26) ∈ strL := List.mem_of_getElem? (i := 18) rfl
theorem sX6_248 : (RX6, 248, "weighs", 30) ∈ strL := List.mem_of_getElem? (i := 19) rfl
theorem sX6_250 : (RX6, 250, "frail", 10) ∈ strL := List.mem_of_getElem? (i := 20) rfl
theorem sX6_252 : (RX6, 252, "plain", 19) ∈ strL := List.mem_of_getElem? (i := 21) rfl
theorem sX6_254 : (RX6, 254, "soldier", 25) ∈ strL := List.mem_of_getElem? (i := 22) rfl
theorem sX6_256 : (RX6, 256, "cousin", 4) ∈ strL := List.mem_of_getElem? (i := 23) rfl
theorem sX6_258 : (RX6, 258, "twin", 28) ∈ strL := List.mem_of_getElem? (i := 24) rfl
theorem sX6_260 : (RX6, 260, "keen", 13) ∈ strL := List.mem_of_getElem? (i := 25) rfl
theorem sX6_262 : (RX6, 262, "left", 15) ∈ strL := List.mem_of_getElem? (i := 26) rfl
theorem sX6_264 : (RX6, 264, "right", 22) ∈ strL := List.mem_of_getElem? (i := 27) rfl
theorem sX6_266 : (RX6, 266, "age", 0) ∈ strL := List.mem_of_getElem? (i := 28) rfl
theorem sX6_268 : (RX6, 268, "born", 1) ∈ strL := List.mem_of_getElem? (i := 29) rfl
theorem lX6_270 : LM RX6 270 mX6_takeName := Or.inl (tq3 (List.mem_of_getElem? (i := 226) rfl) rfl)
theorem sX6_274 : (RX6, 274, "to", 27) ∈ strL := List.mem_of_getElem? (i := 30) rfl
theorem sX6_276 : (RX6, 276, "harm", 11) ∈ strL := List.mem_of_getElem? (i := 31) rfl
theorem lX6_278 : LM RX6 278 mX6_failAtName := Or.inl (tq3 (List.mem_of_getElem? (i := 236) rfl) rfl)
theorem sX6_281 : (RX6, 281, "price", 21) ∈ strL := List.mem_of_getElem? (i := 32) rfl
theorem fX6_283 : GF RX6 283 2 13 := ⟨_, rfl, by decide, rfl, Or.inl (tq1 (List.mem_of_getElem? (i := 108) rfl) rfl)⟩
theorem fX6_286 : GF RX6 286 2 14 := ⟨_, rfl, by decide, rfl, Or.inl (tq1 (List.mem_of_getElem? (i := 111) rfl) rfl)⟩
theorem lX6_289 : LM RX6 289 mX10_has := Or.inr ⟨_, List.mem_of_getElem? (i := 6) rfl⟩
theorem lX7_3 : Cond.methodLink RX7 3 ⟨"java/lang/Object", "<init>", "()V"⟩ ∈ tb := tq2 (List.mem_of_getElem? (i := 217) rfl) rfl
theorem fX7_9 : GF RX7 9 7 3 := ⟨_, rfl, by decide, rfl, Or.inl (tq2 (List.mem_of_getElem? (i := 225) rfl) rfl)⟩
theorem fX7_15 : GF RX7 15 7 4 := ⟨_, rfl, by decide, rfl, Or.inl (tq2 (List.mem_of_getElem? (i := 226) rfl) rfl)⟩
theorem fX7_19 : GF RX7 19 7 5 := ⟨_, rfl, by decide, rfl, Or.inl (tq2 (List.mem_of_getElem? (i := 227) rfl) rfl)⟩
theorem fX7_22 : GF RX7 22 7 6 := ⟨_, rfl, by decide, rfl, Or.inl (tq2 (List.mem_of_getElem? (i := 228) rfl) rfl)⟩
theorem fX7_25 : GF RX7 25 7 7 := ⟨_, rfl, by decide, rfl, Or.inl (tq2 (List.mem_of_getElem? (i := 230) rfl) rfl)⟩
theorem fX7_29 : GF RX7 29 7 8 := ⟨_, rfl, by decide, rfl, Or.inl (tq2 (List.mem_of_getElem? (i := 231) rfl) rfl)⟩
theorem fX7_32 : GF RX7 32 7 0 := ⟨_, rfl, by decide, rfl, Or.inl (tq2 (List.mem_of_getElem? (i := 222) rfl) rfl)⟩
theorem cX7_36 : Cond.classLink RX7 36 "ElderTurn$Run" ∈ tb := tq2 (List.mem_of_getElem? (i := 218) rfl) rfl
theorem lX7_38 : LM RX7 38 mX8_init := Or.inl (tq2 (List.mem_of_getElem? (i := 219) rfl) rfl)
theorem fX7_41 : GF RX7 41 7 1 := ⟨_, rfl, by decide, rfl, Or.inl (tq2 (List.mem_of_getElem? (i := 223) rfl) rfl)⟩
theorem cX7_45 : Cond.classLink RX7 45 "ElderTurn$Notes" ∈ tb := tq2 (List.mem_of_getElem? (i := 220) rfl) rfl
theorem lX7_47 : LM RX7 47 mX3_init := Or.inl (tq2 (List.mem_of_getElem? (i := 221) rfl) rfl)
theorem fX7_48 : GF RX7 48 7 2 := ⟨_, rfl, by decide, rfl, Or.inl (tq2 (List.mem_of_getElem? (i := 224) rfl) rfl)⟩
theorem kX7_52 : Cond.constant RX7 52 (1000000000) ∈ tb := tq5 (List.mem_of_getElem? (i := 105) rfl) rfl
theorem lX7_53 : LM RX7 53 mX7_clearWishes := Or.inl (tq5 (List.mem_of_getElem? (i := 106) rfl) rfl)
theorem lX7_56 : LM RX7 56 mX7_tryRow := Or.inl (tq5 (List.mem_of_getElem? (i := 110) rfl) rfl)
theorem lX7_60 : LM RX7 60 mX7_wishAnew := Or.inl (tq5 (List.mem_of_getElem? (i := 125) rfl) rfl)
theorem lX7_64 : Cond.methodLink RX7 64 ⟨"java/lang/Math", "min", "(II)I"⟩ ∈ tb := tq5 (List.mem_of_getElem? (i := 129) rfl) rfl
theorem fX7_70 : GF RX7 70 9 0 := ⟨_, rfl, by decide, rfl, Or.inl (tq2 (List.mem_of_getElem? (i := 35) rfl) rfl)⟩
theorem fX7_76 : GF RX7 76 2 3 := ⟨_, rfl, by decide, rfl, Or.inl (tq1 (List.mem_of_getElem? (i := 67) rfl) rfl)⟩
theorem fX7_82 : GF RX7 82 9 1 := ⟨_, rfl, by decide, rfl, Or.inl (tq2 (List.mem_of_getElem? (i := 39) rfl) rfl)⟩
theorem fX7_86 : GF RX7 86 4 0 := ⟨_, rfl, by decide, rfl, Or.inl (tq1 (List.mem_of_getElem? (i := 221) rfl) rfl)⟩
theorem fX7_91 : GF RX7 91 4 1 := ⟨_, rfl, by decide, rfl, Or.inl (tq1 (List.mem_of_getElem? (i := 225) rfl) rfl)⟩
theorem lX7_94 : LM RX7 94 mX8_begin := Or.inl (tq5 (List.mem_of_getElem? (i := 114) rfl) rfl)
theorem lX7_98 : LM RX7 98 mX7_meetWish := Or.inl (tq5 (List.mem_of_getElem? (i := 115) rfl) rfl)
theorem fX7_101 : GF RX7 101 8 8 := ⟨_, rfl, by decide, rfl, Or.inl (tq2 (List.mem_of_getElem? (i := 102) rfl) rfl)⟩
theorem fX7_104 : GF RX7 104 2 0 := ⟨_, rfl, by decide, rfl, Or.inl (tq1 (List.mem_of_getElem? (i := 51) rfl) rfl)⟩
theorem lX7_107 : LM RX7 107 mX8_passYear := Or.inl (tq5 (List.mem_of_getElem? (i := 123) rfl) rfl)
theorem fX7_111 : GF RX7 111 8 14 := ⟨_, rfl, by decide, rfl, Or.inl (tq2 (List.mem_of_getElem? (i := 115) rfl) rfl)⟩
theorem lX7_114 : Cond.methodLink RX7 114 ⟨"java/lang/System", "arraycopy", "(Ljava/lang/Object;ILjava/lang/Object;II)V"⟩ ∈ tb := tq5 (List.mem_of_getElem? (i := 124) rfl) rfl
theorem lX7_120 : LM RX7 120 mX8_whoComes := Or.inl (tq5 (List.mem_of_getElem? (i := 119) rfl) rfl)
theorem lX7_123 : LM RX7 123 mX8_whoCan := Or.inl (tq5 (List.mem_of_getElem? (i := 120) rfl) rfl)
theorem lX7_126 : LM RX7 126 mX10_has := Or.inr ⟨_, List.mem_of_getElem? (i := 7) rfl⟩
theorem lX7_130 : LM RX7 130 mX8_takeTurn := Or.inl (tq5 (List.mem_of_getElem? (i := 122) rfl) rfl)
theorem fX7_133 : GF RX7 133 2 6 := ⟨_, rfl, by decide, rfl, Or.inl (tq1 (List.mem_of_getElem? (i := 79) rfl) rfl)⟩
theorem fX7_136 : GF RX7 136 2 13 := ⟨_, rfl, by decide, rfl, Or.inl (tq1 (List.mem_of_getElem? (i := 107) rfl) rfl)⟩
theorem lX7_139 : LM RX7 139 mX7_passNotes := Or.inl (tq5 (List.mem_of_getElem? (i := 142) rfl) rfl)
theorem lX7_143 : LM RX7 143 mX3_begin := Or.inl (tq5 (List.mem_of_getElem? (i := 146) rfl) rfl)
theorem fX7_145 : GF RX7 145 8 6 := ⟨_, rfl, by decide, rfl, Or.inl (tq2 (List.mem_of_getElem? (i := 98) rfl) rfl)⟩
theorem lX7_148 : LM RX7 148 mX3_takeTurn := Or.inl (tq5 (List.mem_of_getElem? (i := 147) rfl) rfl)
theorem lX7_151 : LM RX7 151 mX7_learn := Or.inl (tq5 (List.mem_of_getElem? (i := 148) rfl) rfl)
theorem fX7_154 : GF RX7 154 3 2 := ⟨_, rfl, by decide, rfl, Or.inl (tq2 (List.mem_of_getElem? (i := 159) rfl) rfl)⟩
theorem lX8_3 : Cond.methodLink RX8 3 ⟨"java/lang/Object", "<init>", "()V"⟩ ∈ tb := tq2 (List.mem_of_getElem? (i := 86) rfl) rfl
theorem fX8_9 : GF RX8 9 8 1 := ⟨_, rfl, by decide, rfl, Or.inl (tq2 (List.mem_of_getElem? (i := 88) rfl) rfl)⟩
theorem fX8_15 : GF RX8 15 8 2 := ⟨_, rfl, by decide, rfl, Or.inl (tq2 (List.mem_of_getElem? (i := 89) rfl) rfl)⟩
theorem fX8_18 : GF RX8 18 8 3 := ⟨_, rfl, by decide, rfl, Or.inl (tq2 (List.mem_of_getElem? (i := 90) rfl) rfl)⟩
theorem fX8_21 : GF RX8 21 8 4 := ⟨_, rfl, by decide, rfl, Or.inl (tq2 (List.mem_of_getElem? (i := 92) rfl) rfl)⟩
theorem fX8_24 : GF RX8 24 8 5 := ⟨_, rfl, by decide, rfl, Or.inl (tq2 (List.mem_of_getElem? (i := 94) rfl) rfl)⟩
theorem fX8_27 : GF RX8 27 8 6 := ⟨_, rfl, by decide, rfl, Or.inl (tq2 (List.mem_of_getElem? (i := 96) rfl) rfl)⟩
theorem fX8_31 : GF RX8 31 8 7 := ⟨_, rfl, by decide, rfl, Or.inl (tq2 (List.mem_of_getElem? (i := 99) rfl) rfl)⟩
theorem fX8_34 : GF RX8 34 8 8 := ⟨_, rfl, by decide, rfl, Or.inl (tq2 (List.mem_of_getElem? (i := 100) rfl) rfl)⟩
theorem fX8_37 : GF RX8 37 8 9 := ⟨_, rfl, by decide, rfl, Or.inl (tq2 (List.mem_of_getElem? (i := 104) rfl) rfl)⟩
theorem fX8_40 : GF RX8 40 8 10 := ⟨_, rfl, by decide, rfl, Or.inl (tq2 (List.mem_of_getElem? (i := 106) rfl) rfl)⟩
theorem fX8_43 : GF RX8 43 8 11 := ⟨_, rfl, by decide, rfl, Or.inl (tq2 (List.mem_of_getElem? (i := 108) rfl) rfl)⟩
theorem fX8_47 : GF RX8 47 8 12 := ⟨_, rfl, by decide, rfl, Or.inl (tq2 (List.mem_of_getElem? (i := 110) rfl) rfl)⟩
theorem fX8_50 : GF RX8 50 8 13 := ⟨_, rfl, by decide, rfl, Or.inl (tq2 (List.mem_of_getElem? (i := 111) rfl) rfl)⟩
theorem fX8_53 : GF RX8 53 8 14 := ⟨_, rfl, by decide, rfl, Or.inl (tq2 (List.mem_of_getElem? (i := 113) rfl) rfl)⟩
theorem fX8_56 : GF RX8 56 8 0 := ⟨_, rfl, by decide, rfl, Or.inl (tq2 (List.mem_of_getElem? (i := 87) rfl) rfl)⟩
theorem fX8_60 : GF RX8 60 9 0 := ⟨_, rfl, by decide, rfl, Or.inl (tq2 (List.mem_of_getElem? (i := 33) rfl) rfl)⟩
theorem fX8_66 : GF RX8 66 2 3 := ⟨_, rfl, by decide, rfl, Or.inl (tq1 (List.mem_of_getElem? (i := 64) rfl) rfl)⟩
theorem fX8_71 : GF RX8 71 2 9 := ⟨_, rfl, by decide, rfl, Or.inl (tq1 (List.mem_of_getElem? (i := 91) rfl) rfl)⟩
theorem fX8_75 : GF RX8 75 2 0 := ⟨_, rfl, by decide, rfl, Or.inl (tq1 (List.mem_of_getElem? (i := 50) rfl) rfl)⟩
theorem lX8_78 : LM RX8 78 mX8_passYear := Or.inl (tq5 (List.mem_of_getElem? (i := 88) rfl) rfl)
theorem lX8_82 : LM RX8 82 mX8_whoComes := Or.inl (tq4 (List.mem_of_getElem? (i := 68) rfl) rfl)
theorem lX8_86 : LM RX8 86 mX8_whoByLaw := Or.inl (tq4 (List.mem_of_getElem? (i := 74) rfl) rfl)
theorem lX8_89 : LM RX8 89 mX8_whoCan := Or.inl (tq4 (List.mem_of_getElem? (i := 72) rfl) rfl)
theorem lX8_92 : LM RX8 92 mX8_inPlaceOf := Or.inl (tq4 (List.mem_of_getElem? (i := 111) rfl) rfl)
theorem lX8_96 : LM RX8 96 mX8_soldTo := Or.inl (tq4 (List.mem_of_getElem? (i := 115) rfl) rfl)
theorem lX8_99 : LM RX8 99 mX8_takeTurn := Or.inl (tq4 (List.mem_of_getElem? (i := 123) rfl) rfl)
theorem fX8_103 : GF RX8 103 9 2 := ⟨_, rfl, by decide, rfl, Or.inl (tq2 (List.mem_of_getElem? (i := 42) rfl) rfl)⟩
theorem fX8_107 : GF RX8 107 0 0 := ⟨_, rfl, by decide, rfl, Or.inl (tq2 (List.mem_of_getElem? (i := 13) rfl) rfl)⟩
theorem fX8_112 : GF RX8 112 0 1 := ⟨_, rfl, by decide, rfl, Or.inl (tq2 (List.mem_of_getElem? (i := 16) rfl) rfl)⟩
theorem lX8_115 : LM RX8 115 mX10_has := Or.inr ⟨_, List.mem_of_getElem? (i := 8) rfl⟩
theorem lX8_119 : LM RX8 119 mX8_nextRound := Or.inl (tq4 (List.mem_of_getElem? (i := 78) rfl) rfl)
theorem lX8_122 : LM RX8 122 mX8_fewestTurns := Or.inl (tq4 (List.mem_of_getElem? (i := 82) rfl) rfl)
theorem lX8_125 : LM RX8 125 mX8_byAge := Or.inl (tq4 (List.mem_of_getElem? (i := 87) rfl) rfl)
theorem lX8_128 : LM RX8 128 mX8_drawn := Or.inl (tq4 (List.mem_of_getElem? (i := 91) rfl) rfl)
theorem lX8_131 : LM RX8 131 mX8_voted := Or.inl (tq4 (List.mem_of_getElem? (i := 102) rfl) rfl)
theorem kX8_134 : Cond.constant RX8 134 (1000000000) ∈ tb := tq4 (List.mem_of_getElem? (i := 86) rfl) rfl
theorem lX8_135 : LM RX8 135 mJ6_bitCount_0f7a4 := Or.inl (tq4 (List.mem_of_getElem? (i := 95) rfl) rfl)
theorem kX8_140 : Cond.constant RX8 140 (65537) ∈ tb := tq4 (List.mem_of_getElem? (i := 101) rfl) rfl
theorem fX8_141 : GF RX8 141 0 3 := ⟨_, rfl, by decide, rfl, Or.inl (tq2 (List.mem_of_getElem? (i := 20) rfl) rfl)⟩
theorem lX8_144 : LM RX8 144 mX8_whoIsThere := Or.inl (tq4 (List.mem_of_getElem? (i := 106) rfl) rfl)
theorem lX8_147 : LM RX8 147 mX2_weightOf := Or.inl (tq4 (List.mem_of_getElem? (i := 107) rfl) rfl)
theorem fX8_150 : GF RX8 150 2 5 := ⟨_, rfl, by decide, rfl, Or.inl (tq1 (List.mem_of_getElem? (i := 74) rfl) rfl)⟩
theorem fX8_153 : GF RX8 153 2 11 := ⟨_, rfl, by decide, rfl, Or.inl (tq1 (List.mem_of_getElem? (i := 99) rfl) rfl)⟩
theorem lX8_156 : LM RX8 156 mX8_pay := Or.inl (tq4 (List.mem_of_getElem? (i := 119) rfl) rfl)
theorem fX8_160 : GF RX8 160 9 1 := ⟨_, rfl, by decide, rfl, Or.inl (tq2 (List.mem_of_getElem? (i := 40) rfl) rfl)⟩
theorem fX8_164 : GF RX8 164 4 4 := ⟨_, rfl, by decide, rfl, Or.inl (tq1 (List.mem_of_getElem? (i := 234) rfl) rfl)⟩
theorem fX8_168 : GF RX8 168 4 2 := ⟨_, rfl, by decide, rfl, Or.inl (tq1 (List.mem_of_getElem? (i := 228) rfl) rfl)⟩
theorem fX8_171 : GF RX8 171 0 2 := ⟨_, rfl, by decide, rfl, Or.inl (tq2 (List.mem_of_getElem? (i := 18) rfl) rfl)⟩
theorem fX8_173 : GF RX8 173 2 2 := ⟨_, rfl, by decide, rfl, Or.inl (tq1 (List.mem_of_getElem? (i := 58) rfl) rfl)⟩
theorem lX8_176 : Cond.methodLink RX8 176 ⟨"java/lang/Math", "max", "(II)I"⟩ ∈ tb := tq5 (List.mem_of_getElem? (i := 44) rfl) rfl
theorem lX8_181 : Cond.methodLink RX8 181 ⟨"java/lang/Math", "min", "(II)I"⟩ ∈ tb := tq5 (List.mem_of_getElem? (i := 47) rfl) rfl
theorem lX9_1 : Cond.methodLink RX9 1 ⟨"java/lang/Object", "<init>", "()V"⟩ ∈ tb := tq1 (List.mem_of_getElem? (i := 210) rfl) rfl
theorem cX9_7 : Cond.classLink RX9 7 "ElderTurn$Family" ∈ tb := tq1 (List.mem_of_getElem? (i := 211) rfl) rfl
theorem lX9_9 : LM RX9 9 mX2_init := Or.inr ⟨_, List.mem_of_getElem? (i := 9) rfl⟩
theorem fX9_10 : GF RX9 10 9 0 := ⟨_, rfl, by decide, rfl, Or.inl (tq2 (List.mem_of_getElem? (i := 30) rfl) rfl)⟩
theorem cX9_16 : Cond.classLink RX9 16 "ElderTurn$Now" ∈ tb := tq1 (List.mem_of_getElem? (i := 213) rfl) rfl
theorem lX9_18 : LM RX9 18 mX4_init := Or.inr ⟨_, List.mem_of_getElem? (i := 10) rfl⟩
theorem fX9_19 : GF RX9 19 9 1 := ⟨_, rfl, by decide, rfl, Or.inl (tq2 (List.mem_of_getElem? (i := 36) rfl) rfl)⟩
theorem cX9_23 : Cond.classLink RX9 23 "ElderTurn$Almanac" ∈ tb := tq2 (List.mem_of_getElem? (i := 6) rfl) rfl
theorem lX9_25 : LM RX9 25 mX0_init := Or.inr ⟨_, List.mem_of_getElem? (i := 11) rfl⟩
theorem fX9_26 : GF RX9 26 9 2 := ⟨_, rfl, by decide, rfl, Or.inl (tq2 (List.mem_of_getElem? (i := 41) rfl) rfl)⟩
theorem lL_7 : LM RL 7 mX10_led := Or.inl (tq6 (List.mem_of_getElem? (i := 47) rfl) rfl)
theorem cL_8 : Cond.classLink RL 8 "ElderTurn" ∈ tb := tq1 (List.mem_of_getElem? (i := 25) rfl) rfl
theorem cL_13 : Cond.classLink RL 13 "java/util/NoSuchElementException" ∈ tb := tq6 (List.mem_of_getElem? (i := 46) rfl) rfl
theorem lL_15 : LM RL 15 mX10_init := Or.inl (tq1 (List.mem_of_getElem? (i := 27) rfl) rfl)
theorem cL_16 : Cond.classLink RL 16 "ElderTurnModel" ∈ tb := tq6 (List.mem_of_getElem? (i := 117) rfl) rfl
theorem lL_18 : LM RL 18 mX12_init := Or.inl (tq6 (List.mem_of_getElem? (i := 119) rfl) rfl)
theorem lL_19 : LM RL 19 mX10_feed := Or.inl (tq3 (List.mem_of_getElem? (i := 37) rfl) rfl)
theorem lL_23 : LM RL 23 mX12_feed := Or.inl (tq7 (List.mem_of_getElem? (i := 47) rfl) rfl)
theorem lL_24 : LM RL 24 mX10_family := Or.inl (tq3 (List.mem_of_getElem? (i := 45) rfl) rfl)
theorem lL_27 : LM RL 27 mX12_family := Or.inl (tq7 (List.mem_of_getElem? (i := 51) rfl) rfl)
theorem lL_28 : LM RL 28 mX10_fault := Or.inl (tq4 (List.mem_of_getElem? (i := 151) rfl) rfl)
theorem lL_32 : LM RL 32 mX12_fault := Or.inl (tq8 (List.mem_of_getElem? (i := 113) rfl) rfl)
theorem lL_33 : LM RL 33 mX10_where := Or.inl (tq4 (List.mem_of_getElem? (i := 155) rfl) rfl)
theorem lL_36 : LM RL 36 mX12_where := Or.inl (tq8 (List.mem_of_getElem? (i := 117) rfl) rfl)
theorem lL_37 : LM RL 37 mX10_person := Or.inl (tq4 (List.mem_of_getElem? (i := 159) rfl) rfl)
theorem lL_41 : LM RL 41 mX12_person := Or.inl (tq8 (List.mem_of_getElem? (i := 121) rfl) rfl)
theorem lL_42 : LM RL 42 mX10_plan := Or.inl (tq4 (List.mem_of_getElem? (i := 171) rfl) rfl)
theorem lL_45 : LM RL 45 mX12_plan := Or.inl (tq8 (List.mem_of_getElem? (i := 137) rfl) rfl)
theorem lL_46 : LM RL 46 mX10_secret := Or.inl (tq4 (List.mem_of_getElem? (i := 175) rfl) rfl)
theorem lL_49 : LM RL 49 mX12_secret := Or.inl (tq8 (List.mem_of_getElem? (i := 141) rfl) rfl)
theorem lL_50 : LM RL 50 mX10_elder := Or.inl (tq4 (List.mem_of_getElem? (i := 183) rfl) rfl)
theorem lL_53 : LM RL 53 mX12_elder := Or.inl (tq8 (List.mem_of_getElem? (i := 149) rfl) rfl)
theorem lL_54 : LM RL 54 mX10_empty := Or.inl (tq4 (List.mem_of_getElem? (i := 195) rfl) rfl)
theorem lL_57 : LM RL 57 mX12_empty := Or.inl (tq8 (List.mem_of_getElem? (i := 236) rfl) rfl)
theorem lL_58 : LM RL 58 mX10_there := Or.inl (tq4 (List.mem_of_getElem? (i := 199) rfl) rfl)
theorem lL_61 : LM RL 61 mX12_there := Or.inl (tq9 (List.mem_of_getElem? (i := 0) rfl) rfl)
theorem lL_62 : LM RL 62 mX10_can := Or.inl (tq4 (List.mem_of_getElem? (i := 203) rfl) rfl)
theorem lL_65 : LM RL 65 mX12_can := Or.inl (tq9 (List.mem_of_getElem? (i := 4) rfl) rfl)
theorem lL_66 : LM RL 66 mX10_age := Or.inl (tq4 (List.mem_of_getElem? (i := 207) rfl) rfl)
theorem lL_69 : LM RL 69 mX12_age := Or.inl (tq9 (List.mem_of_getElem? (i := 8) rfl) rfl)
theorem lL_70 : LM RL 70 mX10_turnsOf := Or.inl (tq4 (List.mem_of_getElem? (i := 215) rfl) rfl)
theorem lL_73 : LM RL 73 mX12_turnsOf := Or.inl (tq9 (List.mem_of_getElem? (i := 12) rfl) rfl)
theorem lL_74 : LM RL 74 mX10_strength := Or.inl (tq4 (List.mem_of_getElem? (i := 223) rfl) rfl)
theorem lL_77 : LM RL 77 mX12_strength := Or.inl (tq9 (List.mem_of_getElem? (i := 16) rfl) rfl)
theorem lL_78 : LM RL 78 mX10_knows := Or.inl (tq4 (List.mem_of_getElem? (i := 227) rfl) rfl)
theorem lL_81 : LM RL 81 mX12_knows := Or.inl (tq9 (List.mem_of_getElem? (i := 20) rfl) rfl)
theorem lL_82 : LM RL 82 mX10_box := Or.inl (tq4 (List.mem_of_getElem? (i := 231) rfl) rfl)
theorem lL_85 : LM RL 85 mX12_box := Or.inl (tq9 (List.mem_of_getElem? (i := 24) rfl) rfl)
theorem lL_86 : LM RL 86 mX10_kept := Or.inl (tq4 (List.mem_of_getElem? (i := 235) rfl) rfl)
theorem lL_89 : LM RL 89 mX12_kept := Or.inl (tq9 (List.mem_of_getElem? (i := 28) rfl) rfl)
theorem lL_90 : LM RL 90 mX10_harm := Or.inl (tq5 (List.mem_of_getElem? (i := 0) rfl) rfl)
theorem lL_93 : LM RL 93 mX12_harm := Or.inl (tq9 (List.mem_of_getElem? (i := 32) rfl) rfl)
theorem lL_94 : LM RL 94 mX10_harmAll := Or.inl (tq5 (List.mem_of_getElem? (i := 4) rfl) rfl)
theorem lL_97 : LM RL 97 mX12_harmAll := Or.inl (tq9 (List.mem_of_getElem? (i := 36) rfl) rfl)
theorem lL_98 : LM RL 98 mX10_harmOf := Or.inl (tq5 (List.mem_of_getElem? (i := 8) rfl) rfl)
theorem lL_101 : LM RL 101 mX12_harmOf := Or.inl (tq9 (List.mem_of_getElem? (i := 44) rfl) rfl)
theorem lL_102 : LM RL 102 mX10_purse := Or.inl (tq5 (List.mem_of_getElem? (i := 16) rfl) rfl)
theorem lL_105 : LM RL 105 mX12_purse := Or.inl (tq9 (List.mem_of_getElem? (i := 48) rfl) rfl)
theorem lL_106 : LM RL 106 mX10_first := Or.inl (tq5 (List.mem_of_getElem? (i := 20) rfl) rfl)
theorem lL_109 : LM RL 109 mX12_first := Or.inl (tq9 (List.mem_of_getElem? (i := 56) rfl) rfl)
theorem lL_110 : LM RL 110 mX10_last := Or.inl (tq5 (List.mem_of_getElem? (i := 28) rfl) rfl)
theorem lL_113 : LM RL 113 mX12_last := Or.inl (tq9 (List.mem_of_getElem? (i := 60) rfl) rfl)
theorem lL_114 : LM RL 114 mX10_fair := Or.inl (tq5 (List.mem_of_getElem? (i := 36) rfl) rfl)
theorem lL_117 : LM RL 117 mX12_fair := Or.inl (tq9 (List.mem_of_getElem? (i := 64) rfl) rfl)
theorem lL_118 : LM RL 118 mX10_deaths := Or.inl (tq5 (List.mem_of_getElem? (i := 48) rfl) rfl)
theorem lL_121 : LM RL 121 mX12_deaths := Or.inl (tq9 (List.mem_of_getElem? (i := 72) rfl) rfl)
theorem lL_122 : LM RL 122 mX10_soonest := Or.inl (tq5 (List.mem_of_getElem? (i := 52) rfl) rfl)
theorem lL_125 : LM RL 125 mX12_soonest := Or.inl (tq9 (List.mem_of_getElem? (i := 76) rfl) rfl)
theorem lL_126 : LM RL 126 mX10_know := Or.inl (tq5 (List.mem_of_getElem? (i := 61) rfl) rfl)
theorem lL_129 : LM RL 129 mX12_know := Or.inl (tq9 (List.mem_of_getElem? (i := 80) rfl) rfl)
theorem lL_130 : LM RL 130 mX10_byLaw := Or.inl (tq5 (List.mem_of_getElem? (i := 69) rfl) rfl)
theorem lL_133 : LM RL 133 mX12_byLaw := Or.inl (tq9 (List.mem_of_getElem? (i := 84) rfl) rfl)
theorem lL_134 : LM RL 134 mX10_bestLaw := Or.inl (tq5 (List.mem_of_getElem? (i := 89) rfl) rfl)
theorem lL_137 : LM RL 137 mX12_bestLaw := Or.inl (tq9 (List.mem_of_getElem? (i := 96) rfl) rfl)
theorem lL_138 : LM RL 138 mX10_row := Or.inl (tq5 (List.mem_of_getElem? (i := 93) rfl) rfl)
theorem lL_141 : LM RL 141 mX12_row := Or.inl (tq9 (List.mem_of_getElem? (i := 100) rfl) rfl)
theorem lL_142 : LM RL 142 mX10_rowAt := Or.inl (tq5 (List.mem_of_getElem? (i := 130) rfl) rfl)
theorem lL_145 : LM RL 145 mX12_rowAt := Or.inl (tq9 (List.mem_of_getElem? (i := 120) rfl) rfl)
theorem lL_146 : LM RL 146 mX10_chain := Or.inl (tq5 (List.mem_of_getElem? (i := 134) rfl) rfl)
theorem lL_149 : LM RL 149 mX12_chain := Or.inl (tq9 (List.mem_of_getElem? (i := 124) rfl) rfl)
theorem lL_150 : LM RL 150 mX10_trade := Or.inl (tq5 (List.mem_of_getElem? (i := 152) rfl) rfl)
theorem lL_153 : LM RL 153 mX12_trade := Or.inl (tq9 (List.mem_of_getElem? (i := 128) rfl) rfl)
theorem lL_154 : LM RL 154 mX10_bestTrade := Or.inl (tq5 (List.mem_of_getElem? (i := 164) rfl) rfl)
theorem lL_157 : LM RL 157 mX12_bestTrade := Or.inl (tq9 (List.mem_of_getElem? (i := 136) rfl) rfl)
theorem lL_158 : LM RL 158 mX10_fits := Or.inl (tq5 (List.mem_of_getElem? (i := 169) rfl) rfl)
theorem lL_161 : LM RL 161 mX12_fits := Or.inl (tq9 (List.mem_of_getElem? (i := 140) rfl) rfl)
theorem lL_162 : LM RL 162 mX10_seeds := Or.inl (tq5 (List.mem_of_getElem? (i := 177) rfl) rfl)
theorem lL_165 : LM RL 165 mX12_seeds := Or.inl (tq9 (List.mem_of_getElem? (i := 148) rfl) rfl)
theorem lL_166 : LM RL 166 mX10_firstSeed := Or.inl (tq5 (List.mem_of_getElem? (i := 185) rfl) rfl)
theorem lL_169 : LM RL 169 mX12_firstSeed := Or.inl (tq9 (List.mem_of_getElem? (i := 160) rfl) rfl)
theorem lL_170 : LM RL 170 mX10_power := Or.inl (tq5 (List.mem_of_getElem? (i := 189) rfl) rfl)
theorem lL_173 : LM RL 173 mX12_power := Or.inl (tq9 (List.mem_of_getElem? (i := 164) rfl) rfl)
theorem lL_174 : LM RL 174 mX10_stands := Or.inl (tq5 (List.mem_of_getElem? (i := 198) rfl) rfl)
theorem lL_178 : LM RL 178 mX12_stands := Or.inl (tq9 (List.mem_of_getElem? (i := 172) rfl) rfl)
theorem lL_179 : LM RL 179 mX10_mean := Or.inl (tq5 (List.mem_of_getElem? (i := 206) rfl) rfl)
theorem lL_183 : LM RL 183 mX12_mean := Or.inl (tq9 (List.mem_of_getElem? (i := 177) rfl) rfl)
theorem lL_184 : LM RL 184 mX10_buy := Or.inl (tq5 (List.mem_of_getElem? (i := 214) rfl) rfl)
theorem lL_188 : LM RL 188 mX12_buy := Or.inl (tq9 (List.mem_of_getElem? (i := 183) rfl) rfl)
theorem lL_189 : LM RL 189 mX10_death := Or.inl (tq5 (List.mem_of_getElem? (i := 239) rfl) rfl)
theorem lL_193 : LM RL 193 mX12_death := Or.inl (tq9 (List.mem_of_getElem? (i := 199) rfl) rfl)
theorem lL_194 : LM RL 194 mX10_law := Or.inl (tq6 (List.mem_of_getElem? (i := 3) rfl) rfl)
theorem lL_198 : LM RL 198 mX12_law := Or.inl (tq9 (List.mem_of_getElem? (i := 203) rfl) rfl)
theorem lL_199 : LM RL 199 mX10_seed := Or.inl (tq6 (List.mem_of_getElem? (i := 7) rfl) rfl)
theorem lL_202 : LM RL 202 mX12_seed := Or.inl (tq9 (List.mem_of_getElem? (i := 207) rfl) rfl)
theorem lL_203 : LM RL 203 mX10_undo := Or.inl (tq6 (List.mem_of_getElem? (i := 11) rfl) rfl)
theorem lL_207 : LM RL 207 mX12_undo := Or.inl (tq9 (List.mem_of_getElem? (i := 211) rfl) rfl)
theorem lL_208 : LM RL 208 mX10_mark := Or.inl (tq6 (List.mem_of_getElem? (i := 19) rfl) rfl)
theorem lL_211 : LM RL 211 mX12_mark := Or.inl (tq9 (List.mem_of_getElem? (i := 215) rfl) rfl)
theorem lL_212 : LM RL 212 mX10_back := Or.inl (tq6 (List.mem_of_getElem? (i := 27) rfl) rfl)
theorem lL_215 : LM RL 215 mX12_back := Or.inl (tq9 (List.mem_of_getElem? (i := 219) rfl) rfl)
theorem lL_221 : LM RL 221 mX12_led := Or.inl (tq9 (List.mem_of_getElem? (i := 223) rfl) rfl)
theorem lL_222 : LM RL 222 mX12_thrown := Or.inl (tq7 (List.mem_of_getElem? (i := 43) rfl) rfl)
theorem lL_225 : LM RL 225 mX10_size := Or.inl (tq6 (List.mem_of_getElem? (i := 35) rfl) rfl)
theorem lL_228 : LM RL 228 mX12_size := Or.inl (tq9 (List.mem_of_getElem? (i := 227) rfl) rfl)
theorem lL_229 : LM RL 229 mX10_trouble := Or.inl (tq6 (List.mem_of_getElem? (i := 39) rfl) rfl)
theorem lL_232 : LM RL 232 mX12_trouble := Or.inl (tq9 (List.mem_of_getElem? (i := 231) rfl) rfl)
theorem lX12_3 : Cond.methodLink RX12 3 ⟨"java/lang/Object", "<init>", "()V"⟩ ∈ tb := tq6 (List.mem_of_getElem? (i := 122) rfl) rfl
theorem fX12_9 : GF RX12 9 12 2 := ⟨_, rfl, by decide, rfl, Or.inl (tq6 (List.mem_of_getElem? (i := 125) rfl) rfl)⟩
theorem fX12_13 : GF RX12 13 12 5 := ⟨_, rfl, by decide, rfl, Or.inl (tq6 (List.mem_of_getElem? (i := 128) rfl) rfl)⟩
theorem fX12_17 : GF RX12 17 12 15 := ⟨_, rfl, by decide, rfl, Or.inl (tq6 (List.mem_of_getElem? (i := 138) rfl) rfl)⟩
theorem fX12_21 : GF RX12 21 12 16 := ⟨_, rfl, by decide, rfl, Or.inl (tq6 (List.mem_of_getElem? (i := 139) rfl) rfl)⟩
theorem fX12_24 : GF RX12 24 12 17 := ⟨_, rfl, by decide, rfl, Or.inl (tq6 (List.mem_of_getElem? (i := 140) rfl) rfl)⟩
theorem fX12_27 : GF RX12 27 12 20 := ⟨_, rfl, by decide, rfl, Or.inl (tq6 (List.mem_of_getElem? (i := 143) rfl) rfl)⟩
theorem fX12_30 : GF RX12 30 12 21 := ⟨_, rfl, by decide, rfl, Or.inl (tq6 (List.mem_of_getElem? (i := 144) rfl) rfl)⟩
theorem fX12_33 : GF RX12 33 12 22 := ⟨_, rfl, by decide, rfl, Or.inl (tq6 (List.mem_of_getElem? (i := 145) rfl) rfl)⟩
theorem fX12_36 : GF RX12 36 12 23 := ⟨_, rfl, by decide, rfl, Or.inl (tq6 (List.mem_of_getElem? (i := 146) rfl) rfl)⟩
theorem fX12_39 : GF RX12 39 12 24 := ⟨_, rfl, by decide, rfl, Or.inl (tq6 (List.mem_of_getElem? (i := 147) rfl) rfl)⟩
theorem fX12_42 : GF RX12 42 12 25 := ⟨_, rfl, by decide, rfl, Or.inl (tq6 (List.mem_of_getElem? (i := 148) rfl) rfl)⟩
theorem fX12_46 : GF RX12 46 12 26 := ⟨_, rfl, by decide, rfl, Or.inl (tq6 (List.mem_of_getElem? (i := 149) rfl) rfl)⟩
theorem fX12_49 : GF RX12 49 12 27 := ⟨_, rfl, by decide, rfl, Or.inl (tq6 (List.mem_of_getElem? (i := 150) rfl) rfl)⟩
theorem fX12_52 : GF RX12 52 12 28 := ⟨_, rfl, by decide, rfl, Or.inl (tq6 (List.mem_of_getElem? (i := 151) rfl) rfl)⟩
theorem fX12_55 : GF RX12 55 12 29 := ⟨_, rfl, by decide, rfl, Or.inl (tq6 (List.mem_of_getElem? (i := 152) rfl) rfl)⟩
theorem fX12_58 : GF RX12 58 12 30 := ⟨_, rfl, by decide, rfl, Or.inl (tq6 (List.mem_of_getElem? (i := 153) rfl) rfl)⟩
theorem fX12_61 : GF RX12 61 12 31 := ⟨_, rfl, by decide, rfl, Or.inl (tq6 (List.mem_of_getElem? (i := 154) rfl) rfl)⟩
theorem fX12_64 : GF RX12 64 12 32 := ⟨_, rfl, by decide, rfl, Or.inl (tq6 (List.mem_of_getElem? (i := 155) rfl) rfl)⟩
theorem fX12_67 : GF RX12 67 12 33 := ⟨_, rfl, by decide, rfl, Or.inl (tq6 (List.mem_of_getElem? (i := 156) rfl) rfl)⟩
theorem fX12_70 : GF RX12 70 12 34 := ⟨_, rfl, by decide, rfl, Or.inl (tq6 (List.mem_of_getElem? (i := 157) rfl) rfl)⟩
theorem fX12_73 : GF RX12 73 12 35 := ⟨_, rfl, by decide, rfl, Or.inl (tq6 (List.mem_of_getElem? (i := 158) rfl) rfl)⟩
theorem fX12_76 : GF RX12 76 12 36 := ⟨_, rfl, by decide, rfl, Or.inl (tq6 (List.mem_of_getElem? (i := 159) rfl) rfl)⟩
theorem fX12_79 : GF RX12 79 12 37 := ⟨_, rfl, by decide, rfl, Or.inl (tq6 (List.mem_of_getElem? (i := 160) rfl) rfl)⟩
theorem fX12_82 : GF RX12 82 12 47 := ⟨_, rfl, by decide, rfl, Or.inl (tq6 (List.mem_of_getElem? (i := 170) rfl) rfl)⟩
theorem fX12_85 : GF RX12 85 12 0 := ⟨_, rfl, by decide, rfl, Or.inl (tq6 (List.mem_of_getElem? (i := 123) rfl) rfl)⟩
theorem fX12_88 : GF RX12 88 12 1 := ⟨_, rfl, by decide, rfl, Or.inl (tq6 (List.mem_of_getElem? (i := 124) rfl) rfl)⟩
theorem lX12_91 : LM RX12 91 mX12_refused := Or.inl (tq7 (List.mem_of_getElem? (i := 55) rfl) rfl)
theorem lX12_95 : LM RX12 95 mX12_good := Or.inl (tq8 (List.mem_of_getElem? (i := 109) rfl) rfl)
theorem fX12_98 : GF RX12 98 12 7 := ⟨_, rfl, by decide, rfl, Or.inl (tq6 (List.mem_of_getElem? (i := 130) rfl) rfl)⟩
theorem lX12_101 : LM RX12 101 mJ0_length_8abf5 := Or.inl (tq7 (List.mem_of_getElem? (i := 221) rfl) rfl)
theorem kX12_107 : Cond.constantLong RX12 107 (32) ∈ tb := tq7 (List.mem_of_getElem? (i := 201) rfl) rfl
theorem lX12_109 : LM RX12 109 mJ0_charAt_5068e := Or.inl (tq7 (List.mem_of_getElem? (i := 222) rfl) rfl)
theorem fX12_113 : GF RX12 113 12 9 := ⟨_, rfl, by decide, rfl, Or.inl (tq6 (List.mem_of_getElem? (i := 132) rfl) rfl)⟩
theorem fX12_116 : GF RX12 116 12 8 := ⟨_, rfl, by decide, rfl, Or.inl (tq6 (List.mem_of_getElem? (i := 131) rfl) rfl)⟩
theorem lX12_119 : LM RX12 119 mX12_byteAt := Or.inl (tq7 (List.mem_of_getElem? (i := 194) rfl) rfl)
theorem fX12_122 : GF RX12 122 12 10 := ⟨_, rfl, by decide, rfl, Or.inl (tq6 (List.mem_of_getElem? (i := 133) rfl) rfl)⟩
theorem lX12_125 : LM RX12 125 mX12_isLetter := Or.inl (tq7 (List.mem_of_getElem? (i := 198) rfl) rfl)
theorem fX12_129 : GF RX12 129 12 14 := ⟨_, rfl, by decide, rfl, Or.inl (tq6 (List.mem_of_getElem? (i := 137) rfl) rfl)⟩
theorem lX12_133 : LM RX12 133 mX12_isDigit := Or.inl (tq7 (List.mem_of_getElem? (i := 202) rfl) rfl)
theorem fX12_136 : GF RX12 136 12 11 := ⟨_, rfl, by decide, rfl, Or.inl (tq6 (List.mem_of_getElem? (i := 134) rfl) rfl)⟩
theorem fX12_139 : GF RX12 139 12 12 := ⟨_, rfl, by decide, rfl, Or.inl (tq6 (List.mem_of_getElem? (i := 135) rfl) rfl)⟩
theorem fX12_142 : GF RX12 142 12 13 := ⟨_, rfl, by decide, rfl, Or.inl (tq6 (List.mem_of_getElem? (i := 136) rfl) rfl)⟩
theorem lX12_145 : LM RX12 145 mX12_wordOf := Or.inl (tq7 (List.mem_of_getElem? (i := 218) rfl) rfl)
theorem lX12_149 : LM RX12 149 mX12_goesOn := Or.inl (tq7 (List.mem_of_getElem? (i := 190) rfl) rfl)
theorem lX12_152 : LM RX12 152 mX12_isWord := Or.inl (tq7 (List.mem_of_getElem? (i := 214) rfl) rfl)
theorem lX12_156 : LM RX12 156 mX12_flaw := Or.inl (tq7 (List.mem_of_getElem? (i := 227) rfl) rfl)
theorem lX12_160 : LM RX12 160 mX12_in := Or.inl (tq8 (List.mem_of_getElem? (i := 4) rfl) rfl)
theorem lX12_164 : LM RX12 164 mX12_needs := Or.inl (tq7 (List.mem_of_getElem? (i := 236) rfl) rfl)
theorem lX12_168 : LM RX12 168 mX12_readWhole := Or.inl (tq8 (List.mem_of_getElem? (i := 0) rfl) rfl)
theorem fX12_172 : GF RX12 172 12 4 := ⟨_, rfl, by decide, rfl, Or.inl (tq6 (List.mem_of_getElem? (i := 127) rfl) rfl)⟩
theorem fX12_176 : GF RX12 176 11 0 := ⟨_, rfl, by decide, rfl, Or.inr ⟨_, List.mem_of_getElem? (i := 0) rfl⟩⟩
theorem cX12_177 : Cond.classLink RX12 177 "ElderTurnModel$Family" ∈ tb := tq7 (List.mem_of_getElem? (i := 59) rfl) rfl
theorem sX12_181 : (RX12, 181, "family", 8) ∈ strL := List.mem_of_getElem? (i := 33) rfl
theorem sX12_183 : (RX12, 183, "person", 18) ∈ strL := List.mem_of_getElem? (i := 34) rfl
theorem sX12_185 : (RX12, 185, "plan", 20) ∈ strL := List.mem_of_getElem? (i := 35) rfl
theorem sX12_187 : (RX12, 187, "dies", 6) ∈ strL := List.mem_of_getElem? (i := 36) rfl
theorem sX12_189 : (RX12, 189, "buys", 3) ∈ strL := List.mem_of_getElem? (i := 37) rfl
theorem sX12_191 : (RX12, 191, "secret", 24) ∈ strL := List.mem_of_getElem? (i := 38) rfl
theorem sX12_193 : (RX12, 193, "hides", 12) ∈ strL := List.mem_of_getElem? (i := 39) rfl
theorem sX12_195 : (RX12, 195, "diary", 5) ∈ strL := List.mem_of_getElem? (i := 40) rfl
theorem sX12_197 : (RX12, 197, "not", 17) ∈ strL := List.mem_of_getElem? (i := 41) rfl
theorem lX12_199 : LM RX12 199 mX12_isName := Or.inl (tq8 (List.mem_of_getElem? (i := 27) rfl) rfl)
theorem lX12_203 : LM RX12 203 mX11_find := Or.inl (tq8 (List.mem_of_getElem? (i := 38) rfl) rfl)
theorem fX12_207 : GF RX12 207 11 30 := ⟨_, rfl, by decide, rfl, Or.inr ⟨_, List.mem_of_getElem? (i := 1) rfl⟩⟩
theorem fX12_211 : GF RX12 211 11 9 := ⟨_, rfl, by decide, rfl, Or.inr ⟨_, List.mem_of_getElem? (i := 2) rfl⟩⟩
theorem fX12_214 : GF RX12 214 11 31 := ⟨_, rfl, by decide, rfl, Or.inr ⟨_, List.mem_of_getElem? (i := 3) rfl⟩⟩
theorem fX12_217 : GF RX12 217 11 32 := ⟨_, rfl, by decide, rfl, Or.inr ⟨_, List.mem_of_getElem? (i := 4) rfl⟩⟩
theorem lX12_220 : LM RX12 220 mX12_known := Or.inl (tq8 (List.mem_of_getElem? (i := 75) rfl) rfl)
theorem lX12_224 : LM RX12 224 mX12_readLine := Or.inl (tq7 (List.mem_of_getElem? (i := 209) rfl) rfl)
theorem lX12_227 : LM RX12 227 mX12_eatsSemicolon := Or.inl (tq8 (List.mem_of_getElem? (i := 105) rfl) rfl)
theorem fX12_230 : GF RX12 230 11 3 := ⟨_, rfl, by decide, rfl, Or.inr ⟨_, List.mem_of_getElem? (i := 5) rfl⟩⟩
theorem lX12_233 : LM RX12 233 mX12_readFamily := Or.inl (tq7 (List.mem_of_getElem? (i := 223) rfl) rfl)
theorem lX12_236 : LM RX12 236 mX12_readPersonLine := Or.inl (tq8 (List.mem_of_getElem? (i := 15) rfl) rfl)
theorem lX12_239 : LM RX12 239 mX12_readPlan := Or.inl (tq8 (List.mem_of_getElem? (i := 67) rfl) rfl)
theorem lX12_242 : LM RX12 242 mX12_readDies := Or.inl (tq8 (List.mem_of_getElem? (i := 81) rfl) rfl)
theorem lX12_245 : LM RX12 245 mX12_readBuys := Or.inl (tq8 (List.mem_of_getElem? (i := 85) rfl) rfl)
theorem lX12_248 : LM RX12 248 mX12_readSecret := Or.inl (tq8 (List.mem_of_getElem? (i := 90) rfl) rfl)
theorem lX12_251 : LM RX12 251 mX12_readHides := Or.inl (tq8 (List.mem_of_getElem? (i := 94) rfl) rfl)
theorem lX12_254 : LM RX12 254 mX12_readDiary := Or.inl (tq8 (List.mem_of_getElem? (i := 101) rfl) rfl)
theorem sX12_258 : (RX12, 258, "years", 31) ∈ strL := List.mem_of_getElem? (i := 42) rfl
theorem lX12_259 : LM RX12 259 mX12_readPart := Or.inl (tq7 (List.mem_of_getElem? (i := 232) rfl) rfl)
theorem sX12_263 : (RX12, 263, "law", 14) ∈ strL := List.mem_of_getElem? (i := 43) rfl
theorem sX12_265 : (RX12, 265, "round", 23) ∈ strL := List.mem_of_getElem? (i := 44) rfl
theorem sX12_267 : (RX12, 267, "eldest", 7) ∈ strL := List.mem_of_getElem? (i := 45) rfl
theorem sX12_269 : (RX12, 269, "youngest", 32) ∈ strL := List.mem_of_getElem? (i := 46) rfl
theorem sX12_271 : (RX12, 271, "lot", 16) ∈ strL := List.mem_of_getElem? (i := 47) rfl
theorem sX12_273 : (RX12, 273, "vote", 29) ∈ strL := List.mem_of_getElem? (i := 48) rfl
theorem sX12_275 : (RX12, 275, "fare", 9) ∈ strL := List.mem_of_getElem? (i := 49) rfl
theorem fX12_277 : GF RX12 277 11 1 := ⟨_, rfl, by decide, rfl, Or.inr ⟨_, List.mem_of_getElem? (i := 6) rfl⟩⟩
theorem fX12_279 : GF RX12 279 11 2 := ⟨_, rfl, by decide, rfl, Or.inr ⟨_, List.mem_of_getElem? (i := 7) rfl⟩⟩
theorem sX12_281 : (RX12, 281, "plain", 19) ∈ strL := List.mem_of_getElem? (i := 50) rfl
theorem sX12_283 : (RX12, 283, "soldier", 25) ∈ strL := List.mem_of_getElem? (i := 51) rfl
theorem sX12_285 : (RX12, 285, "cousin", 4) ∈ strL := List.mem_of_getElem? (i := 52) rfl
theorem sX12_287 : (RX12, 287, "twin", 28) ∈ strL := List.mem_of_getElem? (i := 53) rfl
theorem sX12_289 : (RX12, 289, "keen", 13) ∈ strL := List.mem_of_getElem? (i := 54) rfl
theorem lX12_291 : LM RX12 291 mX12_begins := Or.inl (tq8 (List.mem_of_getElem? (i := 19) rfl) rfl)
theorem lX12_295 : LM RX12 295 mX12_readFresh := Or.inl (tq8 (List.mem_of_getElem? (i := 23) rfl) rfl)
theorem lX12_299 : LM RX12 299 mX12_readKind := Or.inl (tq8 (List.mem_of_getElem? (i := 42) rfl) rfl)
theorem sX12_302 : (RX12, 302, "branch", 2) ∈ strL := List.mem_of_getElem? (i := 55) rfl
theorem sX12_304 : (RX12, 304, "right", 22) ∈ strL := List.mem_of_getElem? (i := 56) rfl
theorem sX12_306 : (RX12, 306, "left", 15) ∈ strL := List.mem_of_getElem? (i := 57) rfl
theorem sX12_308 : (RX12, 308, "born", 1) ∈ strL := List.mem_of_getElem? (i := 58) rfl
theorem sX12_310 : (RX12, 310, "age", 0) ∈ strL := List.mem_of_getElem? (i := 59) rfl
theorem lX12_312 : LM RX12 312 mX12_readYear := Or.inl (tq8 (List.mem_of_getElem? (i := 56) rfl) rfl)
theorem sX12_315 : (RX12, 315, "strong", 26) ∈ strL := List.mem_of_getElem? (i := 60) rfl
theorem sX12_316 : (RX12, 316, "weighs", 30) ∈ strL := List.mem_of_getElem? (i := 61) rfl
theorem sX12_318 : (RX12, 318, "frail", 10) ∈ strL := List.mem_of_getElem? (i := 62) rfl
theorem lX12_320 : LM RX12 320 mX12_names := Or.inl (tq8 (List.mem_of_getElem? (i := 63) rfl) rfl)
theorem fX12_323 : GF RX12 323 11 10 := ⟨_, rfl, by decide, rfl, Or.inr ⟨_, List.mem_of_getElem? (i := 8) rfl⟩⟩
theorem fX12_326 : GF RX12 326 11 11 := ⟨_, rfl, by decide, rfl, Or.inr ⟨_, List.mem_of_getElem? (i := 9) rfl⟩⟩
theorem fX12_328 : GF RX12 328 11 12 := ⟨_, rfl, by decide, rfl, Or.inr ⟨_, List.mem_of_getElem? (i := 10) rfl⟩⟩
theorem fX12_330 : GF RX12 330 11 13 := ⟨_, rfl, by decide, rfl, Or.inr ⟨_, List.mem_of_getElem? (i := 11) rfl⟩⟩
theorem fX12_331 : GF RX12 331 11 14 := ⟨_, rfl, by decide, rfl, Or.inr ⟨_, List.mem_of_getElem? (i := 12) rfl⟩⟩
theorem fX12_333 : GF RX12 333 11 15 := ⟨_, rfl, by decide, rfl, Or.inr ⟨_, List.mem_of_getElem? (i := 13) rfl⟩⟩
theorem fX12_335 : GF RX12 335 11 16 := ⟨_, rfl, by decide, rfl, Or.inr ⟨_, List.mem_of_getElem? (i := 14) rfl⟩⟩
theorem fX12_337 : GF RX12 337 11 4 := ⟨_, rfl, by decide, rfl, Or.inr ⟨_, List.mem_of_getElem? (i := 15) rfl⟩⟩
theorem lX12_340 : LM RX12 340 mX12_readPerson := Or.inl (tq8 (List.mem_of_getElem? (i := 71) rfl) rfl)
theorem sX12_343 : (RX12, 343, "to", 27) ∈ strL := List.mem_of_getElem? (i := 63) rfl
theorem sX12_345 : (RX12, 345, "harm", 11) ∈ strL := List.mem_of_getElem? (i := 64) rfl
theorem fX12_347 : GF RX12 347 11 17 := ⟨_, rfl, by decide, rfl, Or.inr ⟨_, List.mem_of_getElem? (i := 16) rfl⟩⟩
theorem fX12_350 : GF RX12 350 11 18 := ⟨_, rfl, by decide, rfl, Or.inr ⟨_, List.mem_of_getElem? (i := 17) rfl⟩⟩
theorem fX12_353 : GF RX12 353 11 19 := ⟨_, rfl, by decide, rfl, Or.inr ⟨_, List.mem_of_getElem? (i := 18) rfl⟩⟩
theorem fX12_356 : GF RX12 356 11 20 := ⟨_, rfl, by decide, rfl, Or.inr ⟨_, List.mem_of_getElem? (i := 19) rfl⟩⟩
theorem fX12_359 : GF RX12 359 11 5 := ⟨_, rfl, by decide, rfl, Or.inr ⟨_, List.mem_of_getElem? (i := 20) rfl⟩⟩
theorem sX12_361 : (RX12, 361, "price", 21) ∈ strL := List.mem_of_getElem? (i := 65) rfl
theorem fX12_363 : GF RX12 363 11 21 := ⟨_, rfl, by decide, rfl, Or.inr ⟨_, List.mem_of_getElem? (i := 21) rfl⟩⟩
theorem fX12_366 : GF RX12 366 11 22 := ⟨_, rfl, by decide, rfl, Or.inr ⟨_, List.mem_of_getElem? (i := 22) rfl⟩⟩
theorem fX12_369 : GF RX12 369 11 23 := ⟨_, rfl, by decide, rfl, Or.inr ⟨_, List.mem_of_getElem? (i := 23) rfl⟩⟩
theorem fX12_372 : GF RX12 372 11 24 := ⟨_, rfl, by decide, rfl, Or.inr ⟨_, List.mem_of_getElem? (i := 24) rfl⟩⟩
theorem fX12_375 : GF RX12 375 11 6 := ⟨_, rfl, by decide, rfl, Or.inr ⟨_, List.mem_of_getElem? (i := 25) rfl⟩⟩
theorem fX12_378 : GF RX12 378 11 25 := ⟨_, rfl, by decide, rfl, Or.inr ⟨_, List.mem_of_getElem? (i := 26) rfl⟩⟩
theorem fX12_381 : GF RX12 381 11 7 := ⟨_, rfl, by decide, rfl, Or.inr ⟨_, List.mem_of_getElem? (i := 27) rfl⟩⟩
theorem fX12_383 : GF RX12 383 11 26 := ⟨_, rfl, by decide, rfl, Or.inr ⟨_, List.mem_of_getElem? (i := 28) rfl⟩⟩
theorem lX12_386 : LM RX12 386 mX12_bit := Or.inl (tq8 (List.mem_of_getElem? (i := 98) rfl) rfl)
theorem fX12_390 : GF RX12 390 11 8 := ⟨_, rfl, by decide, rfl, Or.inr ⟨_, List.mem_of_getElem? (i := 29) rfl⟩⟩
theorem fX12_393 : GF RX12 393 11 27 := ⟨_, rfl, by decide, rfl, Or.inr ⟨_, List.mem_of_getElem? (i := 30) rfl⟩⟩
theorem fX12_396 : GF RX12 396 11 28 := ⟨_, rfl, by decide, rfl, Or.inr ⟨_, List.mem_of_getElem? (i := 31) rfl⟩⟩
theorem fX12_399 : GF RX12 399 11 29 := ⟨_, rfl, by decide, rfl, Or.inr ⟨_, List.mem_of_getElem? (i := 32) rfl⟩⟩
theorem fX12_402 : GF RX12 402 12 6 := ⟨_, rfl, by decide, rfl, Or.inl (tq6 (List.mem_of_getElem? (i := 129) rfl) rfl)⟩
theorem lX12_405 : LM RX12 405 mX11_init := Or.inr ⟨_, List.mem_of_getElem? (i := 12) rfl⟩
theorem lX12_406 : LM RX12 406 mX12_readAll := Or.inl (tq7 (List.mem_of_getElem? (i := 205) rfl) rfl)
theorem fX12_409 : GF RX12 409 12 3 := ⟨_, rfl, by decide, rfl, Or.inl (tq6 (List.mem_of_getElem? (i := 126) rfl) rfl)⟩
theorem fX12_411 : GF RX12 411 12 18 := ⟨_, rfl, by decide, rfl, Or.inl (tq6 (List.mem_of_getElem? (i := 141) rfl) rfl)⟩
theorem fX12_414 : GF RX12 414 12 19 := ⟨_, rfl, by decide, rfl, Or.inl (tq6 (List.mem_of_getElem? (i := 142) rfl) rfl)⟩
theorem lX12_417 : LM RX12 417 mX12_runsBy := Or.inl (tq8 (List.mem_of_getElem? (i := 165) rfl) rfl)
theorem fX12_420 : GF RX12 420 12 41 := ⟨_, rfl, by decide, rfl, Or.inl (tq6 (List.mem_of_getElem? (i := 164) rfl) rfl)⟩
theorem fX12_423 : GF RX12 423 12 42 := ⟨_, rfl, by decide, rfl, Or.inl (tq6 (List.mem_of_getElem? (i := 165) rfl) rfl)⟩
theorem lX12_426 : LM RX12 426 mX12_goes := Or.inl (tq8 (List.mem_of_getElem? (i := 169) rfl) rfl)
theorem fX12_430 : GF RX12 430 12 40 := ⟨_, rfl, by decide, rfl, Or.inl (tq6 (List.mem_of_getElem? (i := 163) rfl) rfl)⟩
theorem fX12_431 : GF RX12 431 12 39 := ⟨_, rfl, by decide, rfl, Or.inl (tq6 (List.mem_of_getElem? (i := 162) rfl) rfl)⟩
theorem fX12_434 : GF RX12 434 12 44 := ⟨_, rfl, by decide, rfl, Or.inl (tq6 (List.mem_of_getElem? (i := 167) rfl) rfl)⟩
theorem fX12_437 : GF RX12 437 12 46 := ⟨_, rfl, by decide, rfl, Or.inl (tq6 (List.mem_of_getElem? (i := 169) rfl) rfl)⟩
theorem fX12_440 : GF RX12 440 12 38 := ⟨_, rfl, by decide, rfl, Or.inl (tq6 (List.mem_of_getElem? (i := 161) rfl) rfl)⟩
theorem fX12_443 : GF RX12 443 12 45 := ⟨_, rfl, by decide, rfl, Or.inl (tq6 (List.mem_of_getElem? (i := 168) rfl) rfl)⟩
theorem lX12_446 : LM RX12 446 mX12_year := Or.inl (tq8 (List.mem_of_getElem? (i := 173) rfl) rfl)
theorem lX12_449 : LM RX12 449 mX12_thereIn := Or.inl (tq8 (List.mem_of_getElem? (i := 177) rfl) rfl)
theorem lX12_452 : LM RX12 452 mX11_isBorn := Or.inl (tq8 (List.mem_of_getElem? (i := 129) rfl) rfl)
theorem lX12_455 : LM RX12 455 mX12_isThere := Or.inl (tq8 (List.mem_of_getElem? (i := 181) rfl) rfl)
theorem lX12_458 : LM RX12 458 mX11_age := Or.inl (tq8 (List.mem_of_getElem? (i := 133) rfl) rfl)
theorem lX12_460 : LM RX12 460 mX12_isAble := Or.inl (tq8 (List.mem_of_getElem? (i := 185) rfl) rfl)
theorem lX12_463 : LM RX12 463 mX12_isSecond := Or.inl (tq8 (List.mem_of_getElem? (i := 189) rfl) rfl)
theorem lX12_466 : LM RX12 466 mX12_lawful := Or.inl (tq8 (List.mem_of_getElem? (i := 193) rfl) rfl)
theorem lX12_469 : LM RX12 469 mX12_traded := Or.inl (tq8 (List.mem_of_getElem? (i := 220) rfl) rfl)
theorem lX12_472 : LM RX12 472 mX12_bought := Or.inl (tq8 (List.mem_of_getElem? (i := 224) rfl) rfl)
theorem lX12_475 : LM RX12 475 mX12_sits := Or.inl (tq8 (List.mem_of_getElem? (i := 232) rfl) rfl)
theorem fX12_478 : GF RX12 478 12 43 := ⟨_, rfl, by decide, rfl, Or.inl (tq6 (List.mem_of_getElem? (i := 166) rfl) rfl)⟩
theorem lX12_481 : LM RX12 481 mX12_sold := Or.inl (tq8 (List.mem_of_getElem? (i := 228) rfl) rfl)
theorem lX12_485 : LM RX12 485 mX12_voted := Or.inl (tq8 (List.mem_of_getElem? (i := 197) rfl) rfl)
theorem lX12_488 : LM RX12 488 mX12_drawnOf := Or.inl (tq8 (List.mem_of_getElem? (i := 213) rfl) rfl)
theorem lX12_491 : LM RX12 491 mX12_foremost := Or.inl (tq8 (List.mem_of_getElem? (i := 205) rfl) rfl)
theorem lX12_495 : LM RX12 495 mX12_counted := Or.inl (tq8 (List.mem_of_getElem? (i := 209) rfl) rfl)
theorem kX12_498 : Cond.constantLong RX12 498 (75) ∈ tb := tq8 (List.mem_of_getElem? (i := 217) rfl) rfl
theorem kX12_500 : Cond.constantLong RX12 500 (74) ∈ tb := tq8 (List.mem_of_getElem? (i := 218) rfl) rfl
theorem kX12_502 : Cond.constantLong RX12 502 (65537) ∈ tb := tq8 (List.mem_of_getElem? (i := 219) rfl) rfl
theorem lX12_504 : LM RX12 504 mX12_branchOf := Or.inl (tq8 (List.mem_of_getElem? (i := 201) rfl) rfl)
theorem lX12_507 : LM RX12 507 mX12_isYear := Or.inl (tq8 (List.mem_of_getElem? (i := 157) rfl) rfl)
theorem lX12_510 : LM RX12 510 mX12_runs := Or.inl (tq8 (List.mem_of_getElem? (i := 161) rfl) rfl)
theorem lX12_513 : LM RX12 513 mX12_isPerson := Or.inl (tq8 (List.mem_of_getElem? (i := 125) rfl) rfl)
theorem lX12_516 : LM RX12 516 mX12_isSecretNumber := Or.inl (tq8 (List.mem_of_getElem? (i := 145) rfl) rfl)
theorem lX12_519 : LM RX12 519 mX12_asksYear := Or.inl (tq8 (List.mem_of_getElem? (i := 153) rfl) rfl)
theorem lX12_523 : LM RX12 523 mX12_asks := Or.inl (tq9 (List.mem_of_getElem? (i := 40) rfl) rfl)
theorem lX12_527 : LM RX12 527 mX12_refusedFar := Or.inl (tq9 (List.mem_of_getElem? (i := 52) rfl) rfl)
theorem lX12_530 : LM RX12 530 mX12_fairNow := Or.inl (tq9 (List.mem_of_getElem? (i := 68) rfl) rfl)
theorem lX12_533 : LM RX12 533 mX12_emptyYears := Or.inl (tq9 (List.mem_of_getElem? (i := 92) rfl) rfl)
theorem lX12_536 : LM RX12 536 mX12_by := Or.inl (tq9 (List.mem_of_getElem? (i := 88) rfl) rfl)
theorem fX12_539 : GF RX12 539 12 48 := ⟨_, rfl, by decide, rfl, Or.inl (tq6 (List.mem_of_getElem? (i := 171) rfl) rfl)⟩
theorem fX12_542 : GF RX12 542 12 51 := ⟨_, rfl, by decide, rfl, Or.inl (tq6 (List.mem_of_getElem? (i := 174) rfl) rfl)⟩
theorem lX12_546 : LM RX12 546 mX12_ends := Or.inl (tq9 (List.mem_of_getElem? (i := 112) rfl) rfl)
theorem lX12_550 : LM RX12 550 mX12_choices := Or.inl (tq9 (List.mem_of_getElem? (i := 116) rfl) rfl)
theorem fX12_553 : GF RX12 553 12 50 := ⟨_, rfl, by decide, rfl, Or.inl (tq6 (List.mem_of_getElem? (i := 173) rfl) rfl)⟩
theorem fX12_556 : GF RX12 556 12 49 := ⟨_, rfl, by decide, rfl, Or.inl (tq6 (List.mem_of_getElem? (i := 172) rfl) rfl)⟩
theorem lX12_559 : LM RX12 559 mX12_refusesRow := Or.inl (tq9 (List.mem_of_getElem? (i := 104) rfl) rfl)
theorem lX12_562 : LM RX12 562 mX12_tries := Or.inl (tq9 (List.mem_of_getElem? (i := 108) rfl) rfl)
theorem lX12_565 : LM RX12 565 mX12_tradeOf := Or.inl (tq9 (List.mem_of_getElem? (i := 132) rfl) rfl)
theorem lX12_568 : LM RX12 568 mX12_fitsNow := Or.inl (tq9 (List.mem_of_getElem? (i := 144) rfl) rfl)
theorem fX12_571 : GF RX12 571 12 52 := ⟨_, rfl, by decide, rfl, Or.inl (tq6 (List.mem_of_getElem? (i := 175) rfl) rfl)⟩
theorem lX12_574 : LM RX12 574 mX12_refusesMany := Or.inl (tq9 (List.mem_of_getElem? (i := 152) rfl) rfl)
theorem lX12_577 : LM RX12 577 mX12_fitting := Or.inl (tq9 (List.mem_of_getElem? (i := 156) rfl) rfl)
theorem lX12_580 : LM RX12 580 mX12_weight := Or.inl (tq9 (List.mem_of_getElem? (i := 168) rfl) rfl)
theorem kX12_583 : Cond.constantLong RX12 583 (100) ∈ tb := tq9 (List.mem_of_getElem? (i := 176) rfl) rfl
theorem kX12_585 : Cond.constant RX12 585 (65536) ∈ tb := tq9 (List.mem_of_getElem? (i := 181) rfl) rfl
theorem kX12_586 : Cond.constant RX12 586 (65537) ∈ tb := tq9 (List.mem_of_getElem? (i := 182) rfl) rfl
theorem lX12_587 : LM RX12 587 mX12_denied := Or.inl (tq9 (List.mem_of_getElem? (i := 187) rfl) rfl)
theorem lX12_590 : LM RX12 590 mX12_keepsAll := Or.inl (tq9 (List.mem_of_getElem? (i := 191) rfl) rfl)
theorem lX12_593 : LM RX12 593 mX12_granted := Or.inl (tq9 (List.mem_of_getElem? (i := 195) rfl) rfl)
theorem lX11_3 : Cond.methodLink RX11 3 ⟨"java/lang/Object", "<init>", "()V"⟩ ∈ tb := tq7 (List.mem_of_getElem? (i := 64) rfl) rfl
theorem fX11_9 : GF RX11 9 11 10 := ⟨_, rfl, by decide, rfl, Or.inl (tq7 (List.mem_of_getElem? (i := 76) rfl) rfl)⟩
theorem fX11_15 : GF RX11 15 11 11 := ⟨_, rfl, by decide, rfl, Or.inl (tq7 (List.mem_of_getElem? (i := 78) rfl) rfl)⟩
theorem fX11_18 : GF RX11 18 11 12 := ⟨_, rfl, by decide, rfl, Or.inl (tq7 (List.mem_of_getElem? (i := 80) rfl) rfl)⟩
theorem fX11_21 : GF RX11 21 11 13 := ⟨_, rfl, by decide, rfl, Or.inl (tq7 (List.mem_of_getElem? (i := 82) rfl) rfl)⟩
theorem fX11_24 : GF RX11 24 11 14 := ⟨_, rfl, by decide, rfl, Or.inl (tq7 (List.mem_of_getElem? (i := 84) rfl) rfl)⟩
theorem fX11_27 : GF RX11 27 11 15 := ⟨_, rfl, by decide, rfl, Or.inl (tq7 (List.mem_of_getElem? (i := 86) rfl) rfl)⟩
theorem fX11_30 : GF RX11 30 11 16 := ⟨_, rfl, by decide, rfl, Or.inl (tq7 (List.mem_of_getElem? (i := 88) rfl) rfl)⟩
theorem fX11_33 : GF RX11 33 11 17 := ⟨_, rfl, by decide, rfl, Or.inl (tq7 (List.mem_of_getElem? (i := 90) rfl) rfl)⟩
theorem fX11_36 : GF RX11 36 11 18 := ⟨_, rfl, by decide, rfl, Or.inl (tq7 (List.mem_of_getElem? (i := 92) rfl) rfl)⟩
theorem fX11_39 : GF RX11 39 11 19 := ⟨_, rfl, by decide, rfl, Or.inl (tq7 (List.mem_of_getElem? (i := 94) rfl) rfl)⟩
theorem fX11_42 : GF RX11 42 11 20 := ⟨_, rfl, by decide, rfl, Or.inl (tq7 (List.mem_of_getElem? (i := 96) rfl) rfl)⟩
theorem fX11_45 : GF RX11 45 11 21 := ⟨_, rfl, by decide, rfl, Or.inl (tq7 (List.mem_of_getElem? (i := 98) rfl) rfl)⟩
theorem fX11_48 : GF RX11 48 11 22 := ⟨_, rfl, by decide, rfl, Or.inl (tq7 (List.mem_of_getElem? (i := 100) rfl) rfl)⟩
theorem fX11_51 : GF RX11 51 11 23 := ⟨_, rfl, by decide, rfl, Or.inl (tq7 (List.mem_of_getElem? (i := 102) rfl) rfl)⟩
theorem fX11_54 : GF RX11 54 11 24 := ⟨_, rfl, by decide, rfl, Or.inl (tq7 (List.mem_of_getElem? (i := 104) rfl) rfl)⟩
theorem fX11_57 : GF RX11 57 11 25 := ⟨_, rfl, by decide, rfl, Or.inl (tq7 (List.mem_of_getElem? (i := 106) rfl) rfl)⟩
theorem fX11_60 : GF RX11 60 11 26 := ⟨_, rfl, by decide, rfl, Or.inl (tq7 (List.mem_of_getElem? (i := 108) rfl) rfl)⟩
theorem fX11_63 : GF RX11 63 11 27 := ⟨_, rfl, by decide, rfl, Or.inl (tq7 (List.mem_of_getElem? (i := 110) rfl) rfl)⟩
theorem fX11_66 : GF RX11 66 11 28 := ⟨_, rfl, by decide, rfl, Or.inl (tq7 (List.mem_of_getElem? (i := 112) rfl) rfl)⟩
theorem fX11_69 : GF RX11 69 11 29 := ⟨_, rfl, by decide, rfl, Or.inl (tq7 (List.mem_of_getElem? (i := 114) rfl) rfl)⟩
theorem fX11_73 : GF RX11 73 11 30 := ⟨_, rfl, by decide, rfl, Or.inl (tq7 (List.mem_of_getElem? (i := 116) rfl) rfl)⟩
theorem fX11_77 : GF RX11 77 11 31 := ⟨_, rfl, by decide, rfl, Or.inl (tq7 (List.mem_of_getElem? (i := 118) rfl) rfl)⟩
theorem fX11_80 : GF RX11 80 11 32 := ⟨_, rfl, by decide, rfl, Or.inl (tq7 (List.mem_of_getElem? (i := 120) rfl) rfl)⟩
theorem fX11_83 : GF RX11 83 11 9 := ⟨_, rfl, by decide, rfl, Or.inl (tq7 (List.mem_of_getElem? (i := 74) rfl) rfl)⟩
theorem kJ6_265 : Cond.constant RJ6 265 (1431655765) ∈ tb := tq4 (List.mem_of_getElem? (i := 98) rfl) rfl
theorem kJ6_266 : Cond.constant RJ6 266 (858993459) ∈ tb := tq4 (List.mem_of_getElem? (i := 99) rfl) rfl
theorem kJ6_267 : Cond.constant RJ6 267 (252645135) ∈ tb := tq4 (List.mem_of_getElem? (i := 100) rfl) rfl
theorem fJ0_9 : Cond.fieldLink RJ0 9 "java/lang/String" "value" "[B" ∈ tb := tq10 (List.mem_of_getElem? (i := 12) rfl) rfl
theorem fJ0_15 : Cond.fieldLink RJ0 15 "java/lang/String" "coder" "B" ∈ tb := tq10 (List.mem_of_getElem? (i := 13) rfl) rfl
theorem fJ0_38 : Cond.fieldLink RJ0 38 "java/lang/String" "COMPACT_STRINGS" "Z" ∈ tb := tq3 (List.mem_of_getElem? (i := 97) rfl) rfl
theorem lJ0_335 : LM RJ0 335 mJ0_coder_7d493 := Or.inl (tq3 (List.mem_of_getElem? (i := 93) rfl) rfl)
theorem lJ0_492 : LM RJ0 492 mJ0_isLatin1_aae02 := Or.inl (tq3 (List.mem_of_getElem? (i := 103) rfl) rfl)
theorem lJ0_495 : LM RJ0 495 mJ1_charAt_3b067 := Or.inl (tq3 (List.mem_of_getElem? (i := 107) rfl) rfl)
theorem lJ0_498 : LM RJ0 498 mJ2_charAt_3b067 := Or.inl (tq3 (List.mem_of_getElem? (i := 118) rfl) rfl)
theorem fJ0_1053 : Cond.fieldLink RJ0 1053 "jdk/internal/util/Preconditions" "SIOOBE_FORMATTER" "Ljava/util/function/BiFunction;" ∈ tb := tq3 (List.mem_of_getElem? (i := 113) rfl) rfl
theorem lJ0_1059 : LM RJ0 1059 mJ3_checkIndex_8e157 := Or.inl (tq3 (List.mem_of_getElem? (i := 115) rfl) rfl)
theorem lJ1_9 : LM RJ1 9 mJ0_checkIndex_df160 := Or.inl (tq3 (List.mem_of_getElem? (i := 110) rfl) rfl)
theorem fJ2_44 : Cond.fieldLink RJ2 44 "java/lang/StringUTF16" "$assertionsDisabled" "Z" ∈ tb := tq3 (List.mem_of_getElem? (i := 131) rfl) rfl
theorem lJ2_48 : LM RJ2 48 mJ2_length_9d52b := Or.inl (tq3 (List.mem_of_getElem? (i := 124) rfl) rfl)
theorem fJ2_59 : Cond.fieldLink RJ2 59 "java/lang/StringUTF16" "HI_BYTE_SHIFT" "I" ∈ tb := tq3 (List.mem_of_getElem? (i := 133) rfl) rfl
theorem fJ2_63 : Cond.fieldLink RJ2 63 "java/lang/StringUTF16" "LO_BYTE_SHIFT" "I" ∈ tb := tq3 (List.mem_of_getElem? (i := 135) rfl) rfl
theorem lJ2_67 : LM RJ2 67 mJ2_checkIndex_2214a := Or.inl (tq3 (List.mem_of_getElem? (i := 121) rfl) rfl)
theorem lJ2_71 : LM RJ2 71 mJ2_getChar_3b067 := Or.inl (tq3 (List.mem_of_getElem? (i := 128) rfl) rfl)
theorem lJ2_414 : LM RJ2 414 mJ0_checkIndex_df160 := Or.inl (tq3 (List.mem_of_getElem? (i := 127) rfl) rfl)
theorem pX10_53 (y : MD) (h : y.1.cls = RX10 := by rfl) : PF y 53 10 6 := ⟨h ▸ fX10_53, fun q h => by cases h; exact Or.inl rfl⟩
theorem pX10_57 (y : MD) (h : y.1.cls = RX10 := by rfl) : PF y 57 10 7 := ⟨h ▸ fX10_57, fun q h => by cases h; exact Or.inl rfl⟩
theorem pX10_76 (y : MD) (h : y.1.cls = RX10 := by rfl) : PF y 76 9 0 := ⟨h ▸ fX10_76, fun q h => by cases h; exact Or.inl rfl⟩
theorem pX10_80 (y : MD) (h : y.1.cls = RX10 := by rfl) : PF y 80 6 0 := ⟨h ▸ fX10_80, fun q h => by cases h; exact Or.inl rfl⟩
theorem pX10_237 (y : MD) (h : y.1.cls = RX10 := by rfl) : PF y 237 4 1 := ⟨h ▸ fX10_237, fun q h => by cases h; exact Or.inl rfl⟩
theorem pX10_293 (y : MD) (h : y.1.cls = RX10 := by rfl) : PF y 293 4 0 := ⟨h ▸ fX10_293, fun q h => by cases h; exact Or.inl rfl⟩
theorem pX10_346 (y : MD) (h : y.1.cls = RX10 := by rfl) : PF y 346 8 3 := ⟨h ▸ fX10_346, fun q h => by cases h; exact Or.inl rfl⟩
theorem pX10_349 (y : MD) (h : y.1.cls = RX10 := by rfl) : PF y 349 8 4 := ⟨h ▸ fX10_349, fun q h => by cases h; exact Or.inl rfl⟩
theorem pX12_9 (y : MD) (h : y.1.cls = RX12 := by rfl) : PF y 9 12 2 := ⟨h ▸ fX12_9, fun q h => by cases h; exact Or.inl rfl⟩
theorem pX12_85 (y : MD) (h : y.1.cls = RX12 := by rfl) : PF y 85 12 0 := ⟨h ▸ fX12_85, fun q h => by cases h; exact Or.inl rfl⟩
theorem pX12_88 (y : MD) (h : y.1.cls = RX12 := by rfl) : PF y 88 12 1 := ⟨h ▸ fX12_88, fun q h => by cases h; exact Or.inl rfl⟩
theorem pX12_98 (y : MD) (h : y.1.cls = RX12 := by rfl) : PF y 98 12 7 := ⟨h ▸ fX12_98, fun q h => by cases h; exact Or.inl rfl⟩
theorem pX12_113 (y : MD) (h : y.1.cls = RX12 := by rfl) : PF y 113 12 9 := ⟨h ▸ fX12_113, fun q h => by cases h; exact Or.inl rfl⟩
theorem pX12_116 (y : MD) (h : y.1.cls = RX12 := by rfl) : PF y 116 12 8 := ⟨h ▸ fX12_116, fun q h => by cases h; exact Or.inl rfl⟩
theorem pX12_122 (y : MD) (h : y.1.cls = RX12 := by rfl) : PF y 122 12 10 := ⟨h ▸ fX12_122, fun q h => by cases h; exact Or.inl rfl⟩
theorem pX12_129 (y : MD) (h : y.1.cls = RX12 := by rfl) : PF y 129 12 14 := ⟨h ▸ fX12_129, fun q h => by cases h; exact Or.inl rfl⟩
theorem pX12_136 (y : MD) (h : y.1.cls = RX12 := by rfl) : PF y 136 12 11 := ⟨h ▸ fX12_136, fun q h => by cases h; exact Or.inl rfl⟩
theorem pX12_139 (y : MD) (h : y.1.cls = RX12 := by rfl) : PF y 139 12 12 := ⟨h ▸ fX12_139, fun q h => by cases h; exact Or.inl rfl⟩
theorem pX12_142 (y : MD) (h : y.1.cls = RX12 := by rfl) : PF y 142 12 13 := ⟨h ▸ fX12_142, fun q h => by cases h; exact Or.inl rfl⟩
theorem pX12_172 (y : MD) (h : y.1.cls = RX12 := by rfl) : PF y 172 12 4 := ⟨h ▸ fX12_172, fun q h => by cases h; exact Or.inl rfl⟩
theorem pX12_176 (y : MD) (h : y.1.cls = RX12 := by rfl) : PF y 176 11 0 := ⟨h ▸ fX12_176, fun q h => by cases h; exact Or.inl rfl⟩
theorem pX12_211 (y : MD) (h : y.1.cls = RX12 := by rfl) : PF y 211 11 9 := ⟨h ▸ fX12_211, fun q h => by cases h; exact Or.inl rfl⟩
theorem pX12_230 (y : MD) (h : y.1.cls = RX12 := by rfl) : PF y 230 11 3 := ⟨h ▸ fX12_230, fun q h => by cases h; exact Or.inl rfl⟩
theorem pX12_277 (y : MD) (h : y.1.cls = RX12 := by rfl) : PF y 277 11 1 := ⟨h ▸ fX12_277, fun q h => by cases h; exact Or.inl rfl⟩
theorem pX12_279 (y : MD) (h : y.1.cls = RX12 := by rfl) : PF y 279 11 2 := ⟨h ▸ fX12_279, fun q h => by cases h; exact Or.inl rfl⟩
theorem pX12_337 (y : MD) (h : y.1.cls = RX12 := by rfl) : PF y 337 11 4 := ⟨h ▸ fX12_337, fun q h => by cases h; exact Or.inl rfl⟩
theorem pX12_359 (y : MD) (h : y.1.cls = RX12 := by rfl) : PF y 359 11 5 := ⟨h ▸ fX12_359, fun q h => by cases h; exact Or.inl rfl⟩
theorem pX12_375 (y : MD) (h : y.1.cls = RX12 := by rfl) : PF y 375 11 6 := ⟨h ▸ fX12_375, fun q h => by cases h; exact Or.inl rfl⟩
theorem pX12_381 (y : MD) (h : y.1.cls = RX12 := by rfl) : PF y 381 11 7 := ⟨h ▸ fX12_381, fun q h => by cases h; exact Or.inl rfl⟩
theorem pX12_390 (y : MD) (h : y.1.cls = RX12 := by rfl) : PF y 390 11 8 := ⟨h ▸ fX12_390, fun q h => by cases h; exact Or.inl rfl⟩
theorem pX12_402 (y : MD) (h : y.1.cls = RX12 := by rfl) : PF y 402 12 6 := ⟨h ▸ fX12_402, fun q h => by cases h; exact Or.inl rfl⟩
theorem pX12_409 (y : MD) (h : y.1.cls = RX12 := by rfl) : PF y 409 12 3 := ⟨h ▸ fX12_409, fun q h => by cases h; exact Or.inl rfl⟩
theorem pX12_411 (y : MD) (h : y.1.cls = RX12 := by rfl) : PF y 411 12 18 := ⟨h ▸ fX12_411, fun q h => by cases h; exact Or.inl rfl⟩
theorem pX12_414 (y : MD) (h : y.1.cls = RX12 := by rfl) : PF y 414 12 19 := ⟨h ▸ fX12_414, fun q h => by cases h; exact Or.inl rfl⟩
theorem pX12_420 (y : MD) (h : y.1.cls = RX12 := by rfl) : PF y 420 12 41 := ⟨h ▸ fX12_420, fun q h => by cases h; exact Or.inl rfl⟩
theorem pX12_423 (y : MD) (h : y.1.cls = RX12 := by rfl) : PF y 423 12 42 := ⟨h ▸ fX12_423, fun q h => by cases h; exact Or.inl rfl⟩
theorem pX12_430 (y : MD) (h : y.1.cls = RX12 := by rfl) : PF y 430 12 40 := ⟨h ▸ fX12_430, fun q h => by cases h; exact Or.inl rfl⟩
theorem pX12_431 (y : MD) (h : y.1.cls = RX12 := by rfl) : PF y 431 12 39 := ⟨h ▸ fX12_431, fun q h => by cases h; exact Or.inl rfl⟩
theorem pX12_434 (y : MD) (h : y.1.cls = RX12 := by rfl) : PF y 434 12 44 := ⟨h ▸ fX12_434, fun q h => by cases h; exact Or.inl rfl⟩
theorem pX12_437 (y : MD) (h : y.1.cls = RX12 := by rfl) : PF y 437 12 46 := ⟨h ▸ fX12_437, fun q h => by cases h; exact Or.inl rfl⟩
theorem pX12_440 (y : MD) (h : y.1.cls = RX12 := by rfl) : PF y 440 12 38 := ⟨h ▸ fX12_440, fun q h => by cases h; exact Or.inl rfl⟩
theorem pX12_443 (y : MD) (h : y.1.cls = RX12 := by rfl) : PF y 443 12 45 := ⟨h ▸ fX12_443, fun q h => by cases h; exact Or.inl rfl⟩
theorem pX12_478 (y : MD) (h : y.1.cls = RX12 := by rfl) : PF y 478 12 43 := ⟨h ▸ fX12_478, fun q h => by cases h; exact Or.inl rfl⟩
theorem pX12_539 (y : MD) (h : y.1.cls = RX12 := by rfl) : PF y 539 12 48 := ⟨h ▸ fX12_539, fun q h => by cases h; exact Or.inl rfl⟩
theorem pX12_542 (y : MD) (h : y.1.cls = RX12 := by rfl) : PF y 542 12 51 := ⟨h ▸ fX12_542, fun q h => by cases h; exact Or.inl rfl⟩
theorem pX12_553 (y : MD) (h : y.1.cls = RX12 := by rfl) : PF y 553 12 50 := ⟨h ▸ fX12_553, fun q h => by cases h; exact Or.inl rfl⟩
theorem pX12_556 (y : MD) (h : y.1.cls = RX12 := by rfl) : PF y 556 12 49 := ⟨h ▸ fX12_556, fun q h => by cases h; exact Or.inl rfl⟩
theorem pX12_571 (y : MD) (h : y.1.cls = RX12 := by rfl) : PF y 571 12 52 := ⟨h ▸ fX12_571, fun q h => by cases h; exact Or.inl rfl⟩
theorem pX2_9 (y : MD) (h : y.1.cls = RX2 := by rfl) : PF y 9 2 0 := ⟨h ▸ fX2_9, fun q h => by cases h; exact Or.inl rfl⟩
theorem pX2_15 (y : MD) (h : y.1.cls = RX2 := by rfl) : PF y 15 2 1 := ⟨h ▸ fX2_15, fun q h => by cases h; exact Or.inl rfl⟩
theorem pX2_18 (y : MD) (h : y.1.cls = RX2 := by rfl) : PF y 18 2 2 := ⟨h ▸ fX2_18, fun q h => by cases h; exact Or.inl rfl⟩
theorem pX2_21 (y : MD) (h : y.1.cls = RX2 := by rfl) : PF y 21 2 3 := ⟨h ▸ fX2_21, fun q h => by cases h; exact Or.inl rfl⟩
theorem pX2_24 (y : MD) (h : y.1.cls = RX2 := by rfl) : PF y 24 2 4 := ⟨h ▸ fX2_24, fun q h => by cases h; exact Or.inl rfl⟩
theorem pX2_27 (y : MD) (h : y.1.cls = RX2 := by rfl) : PF y 27 2 5 := ⟨h ▸ fX2_27, fun q h => by cases h; exact Or.inl rfl⟩
theorem pX2_30 (y : MD) (h : y.1.cls = RX2 := by rfl) : PF y 30 2 6 := ⟨h ▸ fX2_30, fun q h => by cases h; exact Or.inl rfl⟩
theorem pX2_33 (y : MD) (h : y.1.cls = RX2 := by rfl) : PF y 33 2 7 := ⟨h ▸ fX2_33, fun q h => by cases h; exact Or.inl rfl⟩
theorem pX2_36 (y : MD) (h : y.1.cls = RX2 := by rfl) : PF y 36 2 8 := ⟨h ▸ fX2_36, fun q h => by cases h; exact Or.inl rfl⟩
theorem pX3_9 (y : MD) (h : y.1.cls = RX3 := by rfl) : PF y 9 3 1 := ⟨h ▸ fX3_9, fun q h => by cases h; exact Or.inl rfl⟩
theorem pX4_9 (y : MD) (h : y.1.cls = RX4 := by rfl) : PF y 9 4 0 := ⟨h ▸ fX4_9, fun q h => by cases h; exact Or.inl rfl⟩
theorem pX4_15 (y : MD) (h : y.1.cls = RX4 := by rfl) : PF y 15 4 1 := ⟨h ▸ fX4_15, fun q h => by cases h; exact Or.inl rfl⟩
theorem pX4_18 (y : MD) (h : y.1.cls = RX4 := by rfl) : PF y 18 4 2 := ⟨h ▸ fX4_18, fun q h => by cases h; exact Or.inl rfl⟩
theorem pX5_9 (y : MD) (h : y.1.cls = RX5 := by rfl) : PF y 9 5 0 := ⟨h ▸ fX5_9, fun q h => by cases h; exact Or.inl rfl⟩
theorem pX5_15 (y : MD) (h : y.1.cls = RX5 := by rfl) : PF y 15 5 1 := ⟨h ▸ fX5_15, fun q h => by cases h; exact Or.inl rfl⟩
theorem pX6_12 (y : MD) (h : y.1.cls = RX6 := by rfl) : PF y 12 6 0 := ⟨h ▸ fX6_12, fun q h => by cases h; exact Or.inl rfl⟩
theorem pX6_18 (y : MD) (h : y.1.cls = RX6 := by rfl) : PF y 18 6 1 := ⟨h ▸ fX6_18, fun q h => by cases h; exact Or.inl rfl⟩
theorem pX6_22 (y : MD) (h : y.1.cls = RX6 := by rfl) : PF y 22 6 2 := ⟨h ▸ fX6_22, fun q h => by cases h; exact Or.inl rfl⟩
theorem pX6_29 (y : MD) (h : y.1.cls = RX6 := by rfl) : PF y 29 6 4 := ⟨h ▸ fX6_29, fun q h => by cases h; exact Or.inl rfl⟩
theorem pX6_32 (y : MD) (h : y.1.cls = RX6 := by rfl) : PF y 32 6 5 := ⟨h ▸ fX6_32, fun q h => by cases h; exact Or.inl rfl⟩
theorem pX6_35 (y : MD) (h : y.1.cls = RX6 := by rfl) : PF y 35 6 6 := ⟨h ▸ fX6_35, fun q h => by cases h; exact Or.inl rfl⟩
theorem pX6_38 (y : MD) (h : y.1.cls = RX6 := by rfl) : PF y 38 6 7 := ⟨h ▸ fX6_38, fun q h => by cases h; exact Or.inl rfl⟩
theorem pX6_41 (y : MD) (h : y.1.cls = RX6 := by rfl) : PF y 41 6 8 := ⟨h ▸ fX6_41, fun q h => by cases h; exact Or.inl rfl⟩
theorem pX6_44 (y : MD) (h : y.1.cls = RX6 := by rfl) : PF y 44 6 9 := ⟨h ▸ fX6_44, fun q h => by cases h; exact Or.inl rfl⟩
theorem pX6_47 (y : MD) (h : y.1.cls = RX6 := by rfl) : PF y 47 6 10 := ⟨h ▸ fX6_47, fun q h => by cases h; exact Or.inl rfl⟩
theorem pX6_50 (y : MD) (h : y.1.cls = RX6 := by rfl) : PF y 50 6 11 := ⟨h ▸ fX6_50, fun q h => by cases h; exact Or.inl rfl⟩
theorem pX6_53 (y : MD) (h : y.1.cls = RX6 := by rfl) : PF y 53 6 12 := ⟨h ▸ fX6_53, fun q h => by cases h; exact Or.inl rfl⟩
theorem pX6_93 (y : MD) (h : y.1.cls = RX6 := by rfl) : PF y 93 2 3 := ⟨h ▸ fX6_93, fun q h => by cases h; exact Or.inl rfl⟩
theorem pX6_143 (y : MD) (h : y.1.cls = RX6 := by rfl) : PF y 143 2 4 := ⟨h ▸ fX6_143, fun q h => by cases h; exact Or.inl rfl⟩
theorem pX6_146 (y : MD) (h : y.1.cls = RX6 := by rfl) : PF y 146 2 5 := ⟨h ▸ fX6_146, fun q h => by cases h; exact Or.inl rfl⟩
theorem pX6_148 (y : MD) (h : y.1.cls = RX6 := by rfl) : PF y 148 2 6 := ⟨h ▸ fX6_148, fun q h => by cases h; exact Or.inl rfl⟩
theorem pX6_151 (y : MD) (h : y.1.cls = RX6 := by rfl) : PF y 151 2 7 := ⟨h ▸ fX6_151, fun q h => by cases h; exact Or.inl rfl⟩
theorem pX6_153 (y : MD) (h : y.1.cls = RX6 := by rfl) : PF y 153 2 8 := ⟨h ▸ fX6_153, fun q h => by cases h; exact Or.inl rfl⟩
theorem pX6_156 (y : MD) (h : y.1.cls = RX6 := by rfl) : PF y 156 2 0 := ⟨h ▸ fX6_156, fun q h => by cases h; exact Or.inl rfl⟩
theorem pX6_217 (y : MD) (h : y.1.cls = RX6 := by rfl) : PF y 217 2 1 := ⟨h ▸ fX6_217, fun q h => by cases h; exact Or.inl rfl⟩
theorem pX6_219 (y : MD) (h : y.1.cls = RX6 := by rfl) : PF y 219 2 2 := ⟨h ▸ fX6_219, fun q h => by cases h; exact Or.inl rfl⟩
theorem pX7_25 (y : MD) (h : y.1.cls = RX7 := by rfl) : PF y 25 7 7 := ⟨h ▸ fX7_25, fun q h => by cases h; exact Or.inl rfl⟩
theorem pX8_9 (y : MD) (h : y.1.cls = RX8 := by rfl) : PF y 9 8 1 := ⟨h ▸ fX8_9, fun q h => by cases h; exact Or.inl rfl⟩
theorem pX8_15 (y : MD) (h : y.1.cls = RX8 := by rfl) : PF y 15 8 2 := ⟨h ▸ fX8_15, fun q h => by cases h; exact Or.inl rfl⟩
theorem pX8_18 (y : MD) (h : y.1.cls = RX8 := by rfl) : PF y 18 8 3 := ⟨h ▸ fX8_18, fun q h => by cases h; exact Or.inl rfl⟩
theorem pX8_21 (y : MD) (h : y.1.cls = RX8 := by rfl) : PF y 21 8 4 := ⟨h ▸ fX8_21, fun q h => by cases h; exact Or.inl rfl⟩
theorem pX8_24 (y : MD) (h : y.1.cls = RX8 := by rfl) : PF y 24 8 5 := ⟨h ▸ fX8_24, fun q h => by cases h; exact Or.inl rfl⟩
theorem pX8_27 (y : MD) (h : y.1.cls = RX8 := by rfl) : PF y 27 8 6 := ⟨h ▸ fX8_27, fun q h => by cases h; exact Or.inl rfl⟩
theorem pX8_31 (y : MD) (h : y.1.cls = RX8 := by rfl) : PF y 31 8 7 := ⟨h ▸ fX8_31, fun q h => by cases h; exact Or.inl rfl⟩
theorem pX8_34 (y : MD) (h : y.1.cls = RX8 := by rfl) : PF y 34 8 8 := ⟨h ▸ fX8_34, fun q h => by cases h; exact Or.inl rfl⟩
theorem pX8_37 (y : MD) (h : y.1.cls = RX8 := by rfl) : PF y 37 8 9 := ⟨h ▸ fX8_37, fun q h => by cases h; exact Or.inl rfl⟩
theorem pX8_40 (y : MD) (h : y.1.cls = RX8 := by rfl) : PF y 40 8 10 := ⟨h ▸ fX8_40, fun q h => by cases h; exact Or.inl rfl⟩
theorem pX9_10 (y : MD) (h : y.1.cls = RX9 := by rfl) : PF y 10 9 0 := ⟨h ▸ fX9_10, fun q h => by cases h; exact Or.inl rfl⟩
theorem pX0_init_9 : PF mX0_init 9 0 0 := ⟨fX0_9, fun q h => by cases h; exact Or.inr ⟨rfl, rfl, rfl, tq2 (List.mem_of_getElem? (i := 12) rfl) rfl⟩⟩
theorem pX0_init_15 : PF mX0_init 15 0 1 := ⟨fX0_15, fun q h => by cases h; exact Or.inr ⟨rfl, rfl, rfl, tq2 (List.mem_of_getElem? (i := 15) rfl) rfl⟩⟩
theorem pX0_init_18 : PF mX0_init 18 0 2 := ⟨fX0_18, fun q h => by cases h; exact Or.inr ⟨rfl, rfl, rfl, tq2 (List.mem_of_getElem? (i := 17) rfl) rfl⟩⟩
theorem pX0_init_21 : PF mX0_init 21 0 3 := ⟨fX0_21, fun q h => by cases h; exact Or.inr ⟨rfl, rfl, rfl, tq2 (List.mem_of_getElem? (i := 19) rfl) rfl⟩⟩
theorem pX10_init_12 : PF mX10_init 12 10 0 := ⟨fX10_12, fun q h => by cases h; exact Or.inr ⟨rfl, rfl, rfl, tq3 (List.mem_of_getElem? (i := 12) rfl) rfl⟩⟩
theorem pX10_init_19 : PF mX10_init 19 10 1 := ⟨fX10_19, fun q h => by cases h; exact Or.inr ⟨rfl, rfl, rfl, tq3 (List.mem_of_getElem? (i := 13) rfl) rfl⟩⟩
theorem pX10_init_26 : PF mX10_init 26 10 2 := ⟨fX10_26, fun q h => by cases h; exact Or.inr ⟨rfl, rfl, rfl, tq3 (List.mem_of_getElem? (i := 14) rfl) rfl⟩⟩
theorem pX10_init_35 : PF mX10_init 35 10 3 := ⟨fX10_35, fun q h => by cases h; exact Or.inr ⟨rfl, rfl, rfl, tq3 (List.mem_of_getElem? (i := 15) rfl) rfl⟩⟩
theorem pX10_init_42 : PF mX10_init 42 10 4 := ⟨fX10_42, fun q h => by cases h; exact Or.inr ⟨rfl, rfl, rfl, tq3 (List.mem_of_getElem? (i := 16) rfl) rfl⟩⟩
theorem pX10_init_49 : PF mX10_init 49 10 5 := ⟨fX10_49, fun q h => by cases h; exact Or.inr ⟨rfl, rfl, rfl, tq3 (List.mem_of_getElem? (i := 17) rfl) rfl⟩⟩
theorem pX11_init_9 : PF mX11_init 9 11 10 := ⟨fX11_9, fun q h => by cases h; exact Or.inr ⟨rfl, rfl, rfl, tq7 (List.mem_of_getElem? (i := 76) rfl) rfl⟩⟩
theorem pX11_init_15 : PF mX11_init 15 11 11 := ⟨fX11_15, fun q h => by cases h; exact Or.inr ⟨rfl, rfl, rfl, tq7 (List.mem_of_getElem? (i := 78) rfl) rfl⟩⟩
theorem pX11_init_18 : PF mX11_init 18 11 12 := ⟨fX11_18, fun q h => by cases h; exact Or.inr ⟨rfl, rfl, rfl, tq7 (List.mem_of_getElem? (i := 80) rfl) rfl⟩⟩
theorem pX11_init_21 : PF mX11_init 21 11 13 := ⟨fX11_21, fun q h => by cases h; exact Or.inr ⟨rfl, rfl, rfl, tq7 (List.mem_of_getElem? (i := 82) rfl) rfl⟩⟩
theorem pX11_init_24 : PF mX11_init 24 11 14 := ⟨fX11_24, fun q h => by cases h; exact Or.inr ⟨rfl, rfl, rfl, tq7 (List.mem_of_getElem? (i := 84) rfl) rfl⟩⟩
theorem pX11_init_27 : PF mX11_init 27 11 15 := ⟨fX11_27, fun q h => by cases h; exact Or.inr ⟨rfl, rfl, rfl, tq7 (List.mem_of_getElem? (i := 86) rfl) rfl⟩⟩
theorem pX11_init_30 : PF mX11_init 30 11 16 := ⟨fX11_30, fun q h => by cases h; exact Or.inr ⟨rfl, rfl, rfl, tq7 (List.mem_of_getElem? (i := 88) rfl) rfl⟩⟩
theorem pX11_init_33 : PF mX11_init 33 11 17 := ⟨fX11_33, fun q h => by cases h; exact Or.inr ⟨rfl, rfl, rfl, tq7 (List.mem_of_getElem? (i := 90) rfl) rfl⟩⟩
theorem pX11_init_36 : PF mX11_init 36 11 18 := ⟨fX11_36, fun q h => by cases h; exact Or.inr ⟨rfl, rfl, rfl, tq7 (List.mem_of_getElem? (i := 92) rfl) rfl⟩⟩
theorem pX11_init_39 : PF mX11_init 39 11 19 := ⟨fX11_39, fun q h => by cases h; exact Or.inr ⟨rfl, rfl, rfl, tq7 (List.mem_of_getElem? (i := 94) rfl) rfl⟩⟩
theorem pX11_init_42 : PF mX11_init 42 11 20 := ⟨fX11_42, fun q h => by cases h; exact Or.inr ⟨rfl, rfl, rfl, tq7 (List.mem_of_getElem? (i := 96) rfl) rfl⟩⟩
theorem pX11_init_45 : PF mX11_init 45 11 21 := ⟨fX11_45, fun q h => by cases h; exact Or.inr ⟨rfl, rfl, rfl, tq7 (List.mem_of_getElem? (i := 98) rfl) rfl⟩⟩
theorem pX11_init_48 : PF mX11_init 48 11 22 := ⟨fX11_48, fun q h => by cases h; exact Or.inr ⟨rfl, rfl, rfl, tq7 (List.mem_of_getElem? (i := 100) rfl) rfl⟩⟩
theorem pX11_init_51 : PF mX11_init 51 11 23 := ⟨fX11_51, fun q h => by cases h; exact Or.inr ⟨rfl, rfl, rfl, tq7 (List.mem_of_getElem? (i := 102) rfl) rfl⟩⟩
theorem pX11_init_54 : PF mX11_init 54 11 24 := ⟨fX11_54, fun q h => by cases h; exact Or.inr ⟨rfl, rfl, rfl, tq7 (List.mem_of_getElem? (i := 104) rfl) rfl⟩⟩
theorem pX11_init_57 : PF mX11_init 57 11 25 := ⟨fX11_57, fun q h => by cases h; exact Or.inr ⟨rfl, rfl, rfl, tq7 (List.mem_of_getElem? (i := 106) rfl) rfl⟩⟩
theorem pX11_init_60 : PF mX11_init 60 11 26 := ⟨fX11_60, fun q h => by cases h; exact Or.inr ⟨rfl, rfl, rfl, tq7 (List.mem_of_getElem? (i := 108) rfl) rfl⟩⟩
theorem pX11_init_63 : PF mX11_init 63 11 27 := ⟨fX11_63, fun q h => by cases h; exact Or.inr ⟨rfl, rfl, rfl, tq7 (List.mem_of_getElem? (i := 110) rfl) rfl⟩⟩
theorem pX11_init_66 : PF mX11_init 66 11 28 := ⟨fX11_66, fun q h => by cases h; exact Or.inr ⟨rfl, rfl, rfl, tq7 (List.mem_of_getElem? (i := 112) rfl) rfl⟩⟩
theorem pX11_init_69 : PF mX11_init 69 11 29 := ⟨fX11_69, fun q h => by cases h; exact Or.inr ⟨rfl, rfl, rfl, tq7 (List.mem_of_getElem? (i := 114) rfl) rfl⟩⟩
theorem pX11_init_73 : PF mX11_init 73 11 30 := ⟨fX11_73, fun q h => by cases h; exact Or.inr ⟨rfl, rfl, rfl, tq7 (List.mem_of_getElem? (i := 116) rfl) rfl⟩⟩
theorem pX11_init_77 : PF mX11_init 77 11 31 := ⟨fX11_77, fun q h => by cases h; exact Or.inr ⟨rfl, rfl, rfl, tq7 (List.mem_of_getElem? (i := 118) rfl) rfl⟩⟩
theorem pX11_init_80 : PF mX11_init 80 11 32 := ⟨fX11_80, fun q h => by cases h; exact Or.inr ⟨rfl, rfl, rfl, tq7 (List.mem_of_getElem? (i := 120) rfl) rfl⟩⟩
theorem pX12_init_13 : PF mX12_init 13 12 5 := ⟨fX12_13, fun q h => by cases h; exact Or.inr ⟨rfl, rfl, rfl, tq6 (List.mem_of_getElem? (i := 128) rfl) rfl⟩⟩
theorem pX12_init_17 : PF mX12_init 17 12 15 := ⟨fX12_17, fun q h => by cases h; exact Or.inr ⟨rfl, rfl, rfl, tq6 (List.mem_of_getElem? (i := 138) rfl) rfl⟩⟩
theorem pX12_init_21 : PF mX12_init 21 12 16 := ⟨fX12_21, fun q h => by cases h; exact Or.inr ⟨rfl, rfl, rfl, tq6 (List.mem_of_getElem? (i := 139) rfl) rfl⟩⟩
theorem pX12_init_24 : PF mX12_init 24 12 17 := ⟨fX12_24, fun q h => by cases h; exact Or.inr ⟨rfl, rfl, rfl, tq6 (List.mem_of_getElem? (i := 140) rfl) rfl⟩⟩
theorem pX12_init_27 : PF mX12_init 27 12 20 := ⟨fX12_27, fun q h => by cases h; exact Or.inr ⟨rfl, rfl, rfl, tq6 (List.mem_of_getElem? (i := 143) rfl) rfl⟩⟩
theorem pX12_init_30 : PF mX12_init 30 12 21 := ⟨fX12_30, fun q h => by cases h; exact Or.inr ⟨rfl, rfl, rfl, tq6 (List.mem_of_getElem? (i := 144) rfl) rfl⟩⟩
theorem pX12_init_33 : PF mX12_init 33 12 22 := ⟨fX12_33, fun q h => by cases h; exact Or.inr ⟨rfl, rfl, rfl, tq6 (List.mem_of_getElem? (i := 145) rfl) rfl⟩⟩
theorem pX12_init_36 : PF mX12_init 36 12 23 := ⟨fX12_36, fun q h => by cases h; exact Or.inr ⟨rfl, rfl, rfl, tq6 (List.mem_of_getElem? (i := 146) rfl) rfl⟩⟩
theorem pX12_init_39 : PF mX12_init 39 12 24 := ⟨fX12_39, fun q h => by cases h; exact Or.inr ⟨rfl, rfl, rfl, tq6 (List.mem_of_getElem? (i := 147) rfl) rfl⟩⟩
theorem pX12_init_42 : PF mX12_init 42 12 25 := ⟨fX12_42, fun q h => by cases h; exact Or.inr ⟨rfl, rfl, rfl, tq6 (List.mem_of_getElem? (i := 148) rfl) rfl⟩⟩
theorem pX12_init_46 : PF mX12_init 46 12 26 := ⟨fX12_46, fun q h => by cases h; exact Or.inr ⟨rfl, rfl, rfl, tq6 (List.mem_of_getElem? (i := 149) rfl) rfl⟩⟩
theorem pX12_init_49 : PF mX12_init 49 12 27 := ⟨fX12_49, fun q h => by cases h; exact Or.inr ⟨rfl, rfl, rfl, tq6 (List.mem_of_getElem? (i := 150) rfl) rfl⟩⟩
theorem pX12_init_52 : PF mX12_init 52 12 28 := ⟨fX12_52, fun q h => by cases h; exact Or.inr ⟨rfl, rfl, rfl, tq6 (List.mem_of_getElem? (i := 151) rfl) rfl⟩⟩
theorem pX12_init_55 : PF mX12_init 55 12 29 := ⟨fX12_55, fun q h => by cases h; exact Or.inr ⟨rfl, rfl, rfl, tq6 (List.mem_of_getElem? (i := 152) rfl) rfl⟩⟩
theorem pX12_init_58 : PF mX12_init 58 12 30 := ⟨fX12_58, fun q h => by cases h; exact Or.inr ⟨rfl, rfl, rfl, tq6 (List.mem_of_getElem? (i := 153) rfl) rfl⟩⟩
theorem pX12_init_61 : PF mX12_init 61 12 31 := ⟨fX12_61, fun q h => by cases h; exact Or.inr ⟨rfl, rfl, rfl, tq6 (List.mem_of_getElem? (i := 154) rfl) rfl⟩⟩
theorem pX12_init_64 : PF mX12_init 64 12 32 := ⟨fX12_64, fun q h => by cases h; exact Or.inr ⟨rfl, rfl, rfl, tq6 (List.mem_of_getElem? (i := 155) rfl) rfl⟩⟩
theorem pX12_init_67 : PF mX12_init 67 12 33 := ⟨fX12_67, fun q h => by cases h; exact Or.inr ⟨rfl, rfl, rfl, tq6 (List.mem_of_getElem? (i := 156) rfl) rfl⟩⟩
theorem pX12_init_70 : PF mX12_init 70 12 34 := ⟨fX12_70, fun q h => by cases h; exact Or.inr ⟨rfl, rfl, rfl, tq6 (List.mem_of_getElem? (i := 157) rfl) rfl⟩⟩
theorem pX12_init_73 : PF mX12_init 73 12 35 := ⟨fX12_73, fun q h => by cases h; exact Or.inr ⟨rfl, rfl, rfl, tq6 (List.mem_of_getElem? (i := 158) rfl) rfl⟩⟩
theorem pX12_init_76 : PF mX12_init 76 12 36 := ⟨fX12_76, fun q h => by cases h; exact Or.inr ⟨rfl, rfl, rfl, tq6 (List.mem_of_getElem? (i := 159) rfl) rfl⟩⟩
theorem pX12_init_79 : PF mX12_init 79 12 37 := ⟨fX12_79, fun q h => by cases h; exact Or.inr ⟨rfl, rfl, rfl, tq6 (List.mem_of_getElem? (i := 160) rfl) rfl⟩⟩
theorem pX12_init_82 : PF mX12_init 82 12 47 := ⟨fX12_82, fun q h => by cases h; exact Or.inr ⟨rfl, rfl, rfl, tq6 (List.mem_of_getElem? (i := 170) rfl) rfl⟩⟩
theorem pX1_init_9 : PF mX1_init 9 1 3 := ⟨fX1_9, fun q h => by cases h; exact Or.inr ⟨rfl, rfl, rfl, tq2 (List.mem_of_getElem? (i := 175) rfl) rfl⟩⟩
theorem pX1_init_15 : PF mX1_init 15 1 4 := ⟨fX1_15, fun q h => by cases h; exact Or.inr ⟨rfl, rfl, rfl, tq2 (List.mem_of_getElem? (i := 177) rfl) rfl⟩⟩
theorem pX1_init_18 : PF mX1_init 18 1 5 := ⟨fX1_18, fun q h => by cases h; exact Or.inr ⟨rfl, rfl, rfl, tq2 (List.mem_of_getElem? (i := 179) rfl) rfl⟩⟩
theorem pX1_init_21 : PF mX1_init 21 1 6 := ⟨fX1_21, fun q h => by cases h; exact Or.inr ⟨rfl, rfl, rfl, tq2 (List.mem_of_getElem? (i := 181) rfl) rfl⟩⟩
theorem pX1_init_24 : PF mX1_init 24 1 7 := ⟨fX1_24, fun q h => by cases h; exact Or.inr ⟨rfl, rfl, rfl, tq2 (List.mem_of_getElem? (i := 183) rfl) rfl⟩⟩
theorem pX1_init_27 : PF mX1_init 27 1 8 := ⟨fX1_27, fun q h => by cases h; exact Or.inr ⟨rfl, rfl, rfl, tq2 (List.mem_of_getElem? (i := 185) rfl) rfl⟩⟩
theorem pX1_init_30 : PF mX1_init 30 1 9 := ⟨fX1_30, fun q h => by cases h; exact Or.inr ⟨rfl, rfl, rfl, tq2 (List.mem_of_getElem? (i := 187) rfl) rfl⟩⟩
theorem pX1_init_33 : PF mX1_init 33 1 0 := ⟨fX1_33, fun q h => by cases h; exact Or.inr ⟨rfl, rfl, rfl, tq2 (List.mem_of_getElem? (i := 171) rfl) rfl⟩⟩
theorem pX1_init_42 : PF mX1_init 42 1 1 := ⟨fX1_42, fun q h => by cases h; exact Or.inr ⟨rfl, rfl, rfl, tq2 (List.mem_of_getElem? (i := 172) rfl) rfl⟩⟩
theorem pX1_init_49 : PF mX1_init 49 1 2 := ⟨fX1_49, fun q h => by cases h; exact Or.inr ⟨rfl, rfl, rfl, tq2 (List.mem_of_getElem? (i := 174) rfl) rfl⟩⟩
theorem pX2_init_41 : PF mX2_init 41 2 9 := ⟨fX2_41, fun q h => by cases h; exact Or.inr ⟨rfl, rfl, rfl, tq1 (List.mem_of_getElem? (i := 88) rfl) rfl⟩⟩
theorem pX2_init_44 : PF mX2_init 44 2 10 := ⟨fX2_44, fun q h => by cases h; exact Or.inr ⟨rfl, rfl, rfl, tq1 (List.mem_of_getElem? (i := 94) rfl) rfl⟩⟩
theorem pX2_init_47 : PF mX2_init 47 2 11 := ⟨fX2_47, fun q h => by cases h; exact Or.inr ⟨rfl, rfl, rfl, tq1 (List.mem_of_getElem? (i := 98) rfl) rfl⟩⟩
theorem pX2_init_50 : PF mX2_init 50 2 12 := ⟨fX2_50, fun q h => by cases h; exact Or.inr ⟨rfl, rfl, rfl, tq1 (List.mem_of_getElem? (i := 101) rfl) rfl⟩⟩
theorem pX2_init_53 : PF mX2_init 53 2 13 := ⟨fX2_53, fun q h => by cases h; exact Or.inr ⟨rfl, rfl, rfl, tq1 (List.mem_of_getElem? (i := 104) rfl) rfl⟩⟩
theorem pX2_init_57 : PF mX2_init 57 2 14 := ⟨fX2_57, fun q h => by cases h; exact Or.inr ⟨rfl, rfl, rfl, tq1 (List.mem_of_getElem? (i := 109) rfl) rfl⟩⟩
theorem pX3_init_15 : PF mX3_init 15 3 2 := ⟨fX3_15, fun q h => by cases h; exact Or.inr ⟨rfl, rfl, rfl, tq2 (List.mem_of_getElem? (i := 157) rfl) rfl⟩⟩
theorem pX3_init_19 : PF mX3_init 19 3 3 := ⟨fX3_19, fun q h => by cases h; exact Or.inr ⟨rfl, rfl, rfl, tq2 (List.mem_of_getElem? (i := 160) rfl) rfl⟩⟩
theorem pX3_init_22 : PF mX3_init 22 3 0 := ⟨fX3_22, fun q h => by cases h; exact Or.inr ⟨rfl, rfl, rfl, tq2 (List.mem_of_getElem? (i := 154) rfl) rfl⟩⟩
theorem pX4_init_21 : PF mX4_init 21 4 3 := ⟨fX4_21, fun q h => by cases h; exact Or.inr ⟨rfl, rfl, rfl, tq1 (List.mem_of_getElem? (i := 230) rfl) rfl⟩⟩
theorem pX4_init_25 : PF mX4_init 25 4 4 := ⟨fX4_25, fun q h => by cases h; exact Or.inr ⟨rfl, rfl, rfl, tq1 (List.mem_of_getElem? (i := 233) rfl) rfl⟩⟩
theorem pX5_init_20 : PF mX5_init 20 5 2 := ⟨fX5_20, fun q h => by cases h; exact Or.inr ⟨rfl, rfl, rfl, tq2 (List.mem_of_getElem? (i := 64) rfl) rfl⟩⟩
theorem pX5_init_24 : PF mX5_init 24 5 3 := ⟨fX5_24, fun q h => by cases h; exact Or.inr ⟨rfl, rfl, rfl, tq2 (List.mem_of_getElem? (i := 65) rfl) rfl⟩⟩
theorem pX6_init_25 : PF mX6_init 25 6 3 := ⟨fX6_25, fun q h => by cases h; exact Or.inr ⟨rfl, rfl, rfl, tq1 (List.mem_of_getElem? (i := 150) rfl) rfl⟩⟩
theorem pX6_init_56 : PF mX6_init 56 6 13 := ⟨fX6_56, fun q h => by cases h; exact Or.inr ⟨rfl, rfl, rfl, tq1 (List.mem_of_getElem? (i := 161) rfl) rfl⟩⟩
theorem pX6_init_60 : PF mX6_init 60 6 14 := ⟨fX6_60, fun q h => by cases h; exact Or.inr ⟨rfl, rfl, rfl, tq1 (List.mem_of_getElem? (i := 162) rfl) rfl⟩⟩
theorem pX6_init_63 : PF mX6_init 63 6 15 := ⟨fX6_63, fun q h => by cases h; exact Or.inr ⟨rfl, rfl, rfl, tq1 (List.mem_of_getElem? (i := 163) rfl) rfl⟩⟩
theorem pX6_init_66 : PF mX6_init 66 6 16 := ⟨fX6_66, fun q h => by cases h; exact Or.inr ⟨rfl, rfl, rfl, tq1 (List.mem_of_getElem? (i := 164) rfl) rfl⟩⟩
theorem pX6_init_70 : PF mX6_init 70 6 17 := ⟨fX6_70, fun q h => by cases h; exact Or.inr ⟨rfl, rfl, rfl, tq1 (List.mem_of_getElem? (i := 165) rfl) rfl⟩⟩
theorem pX7_init_9 : PF mX7_init 9 7 3 := ⟨fX7_9, fun q h => by cases h; exact Or.inr ⟨rfl, rfl, rfl, tq2 (List.mem_of_getElem? (i := 225) rfl) rfl⟩⟩
theorem pX7_init_15 : PF mX7_init 15 7 4 := ⟨fX7_15, fun q h => by cases h; exact Or.inr ⟨rfl, rfl, rfl, tq2 (List.mem_of_getElem? (i := 226) rfl) rfl⟩⟩
theorem pX7_init_19 : PF mX7_init 19 7 5 := ⟨fX7_19, fun q h => by cases h; exact Or.inr ⟨rfl, rfl, rfl, tq2 (List.mem_of_getElem? (i := 227) rfl) rfl⟩⟩
theorem pX7_init_22 : PF mX7_init 22 7 6 := ⟨fX7_22, fun q h => by cases h; exact Or.inr ⟨rfl, rfl, rfl, tq2 (List.mem_of_getElem? (i := 228) rfl) rfl⟩⟩
theorem pX7_init_29 : PF mX7_init 29 7 8 := ⟨fX7_29, fun q h => by cases h; exact Or.inr ⟨rfl, rfl, rfl, tq2 (List.mem_of_getElem? (i := 231) rfl) rfl⟩⟩
theorem pX7_init_32 : PF mX7_init 32 7 0 := ⟨fX7_32, fun q h => by cases h; exact Or.inr ⟨rfl, rfl, rfl, tq2 (List.mem_of_getElem? (i := 222) rfl) rfl⟩⟩
theorem pX7_init_41 : PF mX7_init 41 7 1 := ⟨fX7_41, fun q h => by cases h; exact Or.inr ⟨rfl, rfl, rfl, tq2 (List.mem_of_getElem? (i := 223) rfl) rfl⟩⟩
theorem pX7_init_48 : PF mX7_init 48 7 2 := ⟨fX7_48, fun q h => by cases h; exact Or.inr ⟨rfl, rfl, rfl, tq2 (List.mem_of_getElem? (i := 224) rfl) rfl⟩⟩
theorem pX8_init_43 : PF mX8_init 43 8 11 := ⟨fX8_43, fun q h => by cases h; exact Or.inr ⟨rfl, rfl, rfl, tq2 (List.mem_of_getElem? (i := 108) rfl) rfl⟩⟩
theorem pX8_init_47 : PF mX8_init 47 8 12 := ⟨fX8_47, fun q h => by cases h; exact Or.inr ⟨rfl, rfl, rfl, tq2 (List.mem_of_getElem? (i := 110) rfl) rfl⟩⟩
theorem pX8_init_50 : PF mX8_init 50 8 13 := ⟨fX8_50, fun q h => by cases h; exact Or.inr ⟨rfl, rfl, rfl, tq2 (List.mem_of_getElem? (i := 111) rfl) rfl⟩⟩
theorem pX8_init_53 : PF mX8_init 53 8 14 := ⟨fX8_53, fun q h => by cases h; exact Or.inr ⟨rfl, rfl, rfl, tq2 (List.mem_of_getElem? (i := 113) rfl) rfl⟩⟩
theorem pX8_init_56 : PF mX8_init 56 8 0 := ⟨fX8_56, fun q h => by cases h; exact Or.inr ⟨rfl, rfl, rfl, tq2 (List.mem_of_getElem? (i := 87) rfl) rfl⟩⟩
theorem pX9_init_19 : PF mX9_init 19 9 1 := ⟨fX9_19, fun q h => by cases h; exact Or.inr ⟨rfl, rfl, rfl, tq2 (List.mem_of_getElem? (i := 36) rfl) rfl⟩⟩
theorem pX9_init_26 : PF mX9_init 26 9 2 := ⟨fX9_26, fun q h => by cases h; exact Or.inr ⟨rfl, rfl, rfl, tq2 (List.mem_of_getElem? (i := 41) rfl) rfl⟩⟩
theorem nX0 : Cond.instantiable RX0 4 ∈ tb := tq2 (List.mem_of_getElem? (i := 7) rfl) rfl
theorem dfX0 : ∀ j, j < 4 → defaultValue (tyC 0 j) = fvl (tyC 0 j) 0 none 0 := by decide +kernel
theorem nX1 : Cond.instantiable RX1 10 ∈ tb := tq2 (List.mem_of_getElem? (i := 76) rfl) rfl
theorem dfX1 : ∀ j, j < 10 → defaultValue (tyC 1 j) = fvl (tyC 1 j) 0 none 0 := by decide +kernel
theorem nX2 : Cond.instantiable RX2 15 ∈ tb := tq1 (List.mem_of_getElem? (i := 40) rfl) rfl
theorem dfX2 : ∀ j, j < 15 → defaultValue (tyC 2 j) = fvl (tyC 2 j) 0 none 0 := by decide +kernel
theorem nX3 : Cond.instantiable RX3 4 ∈ tb := tq2 (List.mem_of_getElem? (i := 149) rfl) rfl
theorem dfX3 : ∀ j, j < 4 → defaultValue (tyC 3 j) = fvl (tyC 3 j) 0 none 0 := by decide +kernel
theorem nX4 : Cond.instantiable RX4 5 ∈ tb := tq1 (List.mem_of_getElem? (i := 214) rfl) rfl
theorem dfX4 : ∀ j, j < 5 → defaultValue (tyC 4 j) = fvl (tyC 4 j) 0 none 0 := by decide +kernel
theorem nX5 : Cond.instantiable RX5 4 ∈ tb := tq2 (List.mem_of_getElem? (i := 52) rfl) rfl
theorem dfX5 : ∀ j, j < 4 → defaultValue (tyC 5 j) = fvl (tyC 5 j) 0 none 0 := by decide +kernel
theorem nX6 : Cond.instantiable RX6 18 ∈ tb := tq1 (List.mem_of_getElem? (i := 34) rfl) rfl
theorem dfX6 : ∀ j, j < 18 → defaultValue (tyC 6 j) = fvl (tyC 6 j) 0 none 0 := by decide +kernel
theorem nX7 : Cond.instantiable RX7 9 ∈ tb := tq2 (List.mem_of_getElem? (i := 213) rfl) rfl
theorem dfX7 : ∀ j, j < 9 → defaultValue (tyC 7 j) = fvl (tyC 7 j) 0 none 0 := by decide +kernel
theorem nX8 : Cond.instantiable RX8 15 ∈ tb := tq2 (List.mem_of_getElem? (i := 82) rfl) rfl
theorem dfX8 : ∀ j, j < 15 → defaultValue (tyC 8 j) = fvl (tyC 8 j) 0 none 0 := by decide +kernel
theorem nX9 : Cond.instantiable RX9 3 ∈ tb := tq1 (List.mem_of_getElem? (i := 206) rfl) rfl
theorem dfX9 : ∀ j, j < 3 → defaultValue (tyC 9 j) = fvl (tyC 9 j) 0 none 0 := by decide +kernel
theorem nX10 : Cond.instantiable RX10 8 ∈ tb := tq1 (List.mem_of_getElem? (i := 26) rfl) rfl
theorem dfX10 : ∀ j, j < 8 → defaultValue (tyC 10 j) = fvl (tyC 10 j) 0 none 0 := by decide +kernel
theorem nX11 : Cond.instantiable RX11 33 ∈ tb := tq7 (List.mem_of_getElem? (i := 60) rfl) rfl
theorem dfX11 : ∀ j, j < 33 → defaultValue (tyC 11 j) = fvl (tyC 11 j) 0 none 0 := by decide +kernel
theorem nX12 : Cond.instantiable RX12 53 ∈ tb := tq6 (List.mem_of_getElem? (i := 118) rfl) rfl
theorem dfX12 : ∀ j, j < 53 → defaultValue (tyC 12 j) = fvl (tyC 12 j) 0 none 0 := by decide +kernel
theorem acI : Cond.arrayClass .int ∈ tb := tq1 (List.mem_of_getElem? (i := 143) rfl) rfl
theorem acB : Cond.arrayClass .byte ∈ tb := tq1 (List.mem_of_getElem? (i := 203) rfl) rfl
theorem acZ : Cond.arrayClass .boolean ∈ tb := tq1 (List.mem_of_getElem? (i := 204) rfl) rfl
theorem acJ : Cond.arrayClass .long ∈ tb := tq7 (List.mem_of_getElem? (i := 189) rfl) rfl
theorem objI : Cond.instanceMethod Lib.objectInit ∈ tb := tq1 (List.mem_of_getElem? (i := 31) rfl) rfl
theorem objC : Cond.code Lib.objectInit ⟨#[0xb1]⟩ 1 none ∈ tb := tq1 (List.mem_of_getElem? (i := 32) rfl) rfl
theorem mmaxS : Cond.static Lib.Math.max.name ∈ tb := tq5 (List.mem_of_getElem? (i := 45) rfl) rfl
theorem mmaxC : Cond.code Lib.Math.max.name Lib.Math.max.code 2 (some .int) ∈ tb := tq5 (List.mem_of_getElem? (i := 46) (by decide +kernel)) rfl
theorem mminS : Cond.static Lib.Math.min.name ∈ tb := tq3 (List.mem_of_getElem? (i := 58) rfl) rfl
theorem mminC : Cond.code Lib.Math.min.name Lib.Math.min.code 2 (some .int) ∈ tb := tq3 (List.mem_of_getElem? (i := 59) (by decide +kernel)) rfl
theorem mathI : Cond.initialized "java/lang/Math" ∈ tb := tq1 (List.mem_of_getElem? (i := 13) rfl) rfl
theorem cpN : Cond.native arraycopyName ∈ tb := tq4 (List.mem_of_getElem? (i := 146) rfl) rfl
theorem cpS : Cond.static arraycopyName ∈ tb := tq4 (List.mem_of_getElem? (i := 145) rfl) rfl
theorem cpI : Cond.initialized "java/lang/System" ∈ tb := tq1 (List.mem_of_getElem? (i := 19) rfl) rfl
