abbrev Y_Desk_isFrame : j_Y := (⟨"MissionDesk", "isFrame", "(I)Z"⟩, prog_1_method_18_code, 1, some .boolean)
abbrev Y_Desk_isHandler : j_Y := (⟨"MissionDesk", "isHandler", "(I)Z"⟩, prog_1_method_17_code, 1, some .boolean)
abbrev Y_Desk_within : j_Y := (⟨"MissionDesk", "within", "(III)Z"⟩, prog_1_method_16_code, 3, some .boolean)
abbrev Y_Frame_addPlace : j_Y := (⟨"MissionDesk$Frame", "addPlace", "(I)I"⟩, prog_2_method_4_code, 2, some .int)
abbrev Y_Frame_isThere : j_Y := (⟨"MissionDesk$Frame", "isThere", "()Z"⟩, prog_2_method_2_code, 1, some .boolean)
abbrev Y_Frame_layDown : j_Y := (⟨"MissionDesk$Frame", "layDown", "(I)V"⟩, prog_2_method_3_code, 2, none)
abbrev Y_HeldLocks_free : j_Y := (⟨"MissionDesk$HeldLocks", "free", "(I)Z"⟩, prog_4_method_5_code, 2, some .boolean)
abbrev Y_HeldLocks_latest : j_Y := (⟨"MissionDesk$HeldLocks", "latest", "()I"⟩, prog_4_method_2_code, 1, some .int)
abbrev Y_HeldLocks_take : j_Y := (⟨"MissionDesk$HeldLocks", "take", "(I)V"⟩, prog_4_method_4_code, 2, none)
abbrev Y_Journal_note : j_Y := (⟨"MissionDesk$Journal", "note", "(II)V"⟩, prog_5_method_2_code, 3, none)
abbrev Y_Line_at : j_Y := (⟨"MissionDesk$Line", "at", "(I)LMissionDesk$Release;"⟩, prog_6_method_3_code, 2, some (.object "MissionDesk$Release"))
abbrev Y_Line_first : j_Y := (⟨"MissionDesk$Line", "first", "()LMissionDesk$Release;"⟩, prog_6_method_2_code, 1, some (.object "MissionDesk$Release"))
abbrev Y_Line_grow : j_Y := (⟨"MissionDesk$Line", "grow", "()LMissionDesk$Release;"⟩, prog_6_method_4_code, 1, some (.object "MissionDesk$Release"))
abbrev Y_Line_removeFirst : j_Y := (⟨"MissionDesk$Line", "removeFirst", "()V"⟩, prog_6_method_5_code, 1, none)
abbrev Y_Line_removeNotBegun : j_Y := (⟨"MissionDesk$Line", "removeNotBegun", "()I"⟩, prog_6_method_6_code, 2, some .int)
abbrev Y_MissionArea_clear : j_Y := (⟨"MissionDesk$MissionArea", "clear", "()V"⟩, prog_7_method_3_code, 1, none)
abbrev Y_MissionArea_make : j_Y := (⟨"MissionDesk$MissionArea", "make", "(I)Z"⟩, prog_7_method_4_code, 2, some .boolean)
abbrev Y_MissionArea_open : j_Y := (⟨"MissionDesk$MissionArea", "open", "(I)V"⟩, prog_7_method_2_code, 2, none)
abbrev Y_Release_come : j_Y := (⟨"MissionDesk$Release", "come", "(II)V"⟩, prog_8_method_2_code, 3, none)
abbrev Y_Release_start : j_Y := (⟨"MissionDesk$Release", "start", "(I)V"⟩, prog_8_method_3_code, 2, none)
abbrev Y_Scopes_makeHere : j_Y := (⟨"MissionDesk$Scopes", "makeHere", "(I)Z"⟩, prog_9_method_4_code, 2, some .boolean)
abbrev Y_Scopes_note : j_Y := (⟨"MissionDesk$Scopes", "note", "(II)V"⟩, prog_9_method_6_code, 3, none)
abbrev Y_Scopes_noteKept : j_Y := (⟨"MissionDesk$Scopes", "noteKept", "(I)V"⟩, prog_9_method_5_code, 2, none)
abbrev Y_Scopes_open : j_Y := (⟨"MissionDesk$Scopes", "open", "(I)V"⟩, prog_9_method_2_code, 2, none)
abbrev Y_Scopes_roomLeft : j_Y := (⟨"MissionDesk$Scopes", "roomLeft", "()I"⟩, prog_9_method_3_code, 1, some .int)
theorem d_Desk_isFrame_0 : decode prog_1_method_18_code 0 = .ok (.iload_n 0, 1) := by decide +kernel
theorem d_Desk_isFrame_1 : decode prog_1_method_18_code 1 = .ok (.ifCond .lt 12, 3) := by decide +kernel
theorem d_Desk_isFrame_4 : decode prog_1_method_18_code 4 = .ok (.iload_n 0, 1) := by decide +kernel
theorem d_Desk_isFrame_5 : decode prog_1_method_18_code 5 = .ok (.iconst 4, 1) := by decide +kernel
theorem d_Desk_isFrame_6 : decode prog_1_method_18_code 6 = .ok (.if_icmp .ge 7, 3) := by decide +kernel
theorem d_Desk_isFrame_9 : decode prog_1_method_18_code 9 = .ok (.iconst 1, 1) := by decide +kernel
theorem d_Desk_isFrame_10 : decode prog_1_method_18_code 10 = .ok (.goto 4, 3) := by decide +kernel
theorem d_Desk_isFrame_13 : decode prog_1_method_18_code 13 = .ok (.iconst 0, 1) := by decide +kernel
theorem d_Desk_isFrame_14 : decode prog_1_method_18_code 14 = .ok (.ireturn, 1) := by decide +kernel
theorem d_Desk_isHandler_0 : decode prog_1_method_17_code 0 = .ok (.iload_n 0, 1) := by decide +kernel
theorem d_Desk_isHandler_1 : decode prog_1_method_17_code 1 = .ok (.ifCond .lt 13, 3) := by decide +kernel
theorem d_Desk_isHandler_4 : decode prog_1_method_17_code 4 = .ok (.iload_n 0, 1) := by decide +kernel
theorem d_Desk_isHandler_5 : decode prog_1_method_17_code 5 = .ok (.bipush 8, 2) := by decide +kernel
theorem d_Desk_isHandler_7 : decode prog_1_method_17_code 7 = .ok (.if_icmp .ge 7, 3) := by decide +kernel
theorem d_Desk_isHandler_10 : decode prog_1_method_17_code 10 = .ok (.iconst 1, 1) := by decide +kernel
theorem d_Desk_isHandler_11 : decode prog_1_method_17_code 11 = .ok (.goto 4, 3) := by decide +kernel
theorem d_Desk_isHandler_14 : decode prog_1_method_17_code 14 = .ok (.iconst 0, 1) := by decide +kernel
theorem d_Desk_isHandler_15 : decode prog_1_method_17_code 15 = .ok (.ireturn, 1) := by decide +kernel
theorem d_Desk_within_0 : decode prog_1_method_16_code 0 = .ok (.iload_n 0, 1) := by decide +kernel
theorem d_Desk_within_1 : decode prog_1_method_16_code 1 = .ok (.iload_n 1, 1) := by decide +kernel
theorem d_Desk_within_2 : decode prog_1_method_16_code 2 = .ok (.if_icmp .lt 12, 3) := by decide +kernel
theorem d_Desk_within_5 : decode prog_1_method_16_code 5 = .ok (.iload_n 0, 1) := by decide +kernel
theorem d_Desk_within_6 : decode prog_1_method_16_code 6 = .ok (.iload_n 2, 1) := by decide +kernel
theorem d_Desk_within_7 : decode prog_1_method_16_code 7 = .ok (.if_icmp .gt 7, 3) := by decide +kernel
theorem d_Desk_within_10 : decode prog_1_method_16_code 10 = .ok (.iconst 1, 1) := by decide +kernel
theorem d_Desk_within_11 : decode prog_1_method_16_code 11 = .ok (.goto 4, 3) := by decide +kernel
theorem d_Desk_within_14 : decode prog_1_method_16_code 14 = .ok (.iconst 0, 1) := by decide +kernel
theorem d_Desk_within_15 : decode prog_1_method_16_code 15 = .ok (.ireturn, 1) := by decide +kernel
theorem d_Frame_addPlace_0 : decode prog_2_method_4_code 0 = .ok (.aload_n 0, 1) := by decide +kernel
theorem d_Frame_addPlace_1 : decode prog_2_method_4_code 1 = .ok (.getfield 19, 3) := by decide +kernel
theorem d_Frame_addPlace_4 : decode prog_2_method_4_code 4 = .ok (.iconst 4, 1) := by decide +kernel
theorem d_Frame_addPlace_5 : decode prog_2_method_4_code 5 = .ok (.if_icmp .lt 6, 3) := by decide +kernel
theorem d_Frame_addPlace_8 : decode prog_2_method_4_code 8 = .ok (.bipush (-3), 2) := by decide +kernel
theorem d_Frame_addPlace_10 : decode prog_2_method_4_code 10 = .ok (.ireturn, 1) := by decide +kernel
theorem d_Frame_addPlace_11 : decode prog_2_method_4_code 11 = .ok (.aload_n 0, 1) := by decide +kernel
theorem d_Frame_addPlace_12 : decode prog_2_method_4_code 12 = .ok (.getfield 9, 3) := by decide +kernel
theorem d_Frame_addPlace_15 : decode prog_2_method_4_code 15 = .ok (.aload_n 0, 1) := by decide +kernel
theorem d_Frame_addPlace_16 : decode prog_2_method_4_code 16 = .ok (.getfield 19, 3) := by decide +kernel
theorem d_Frame_addPlace_19 : decode prog_2_method_4_code 19 = .ok (.iload_n 1, 1) := by decide +kernel
theorem d_Frame_addPlace_20 : decode prog_2_method_4_code 20 = .ok (.iastore, 1) := by decide +kernel
theorem d_Frame_addPlace_21 : decode prog_2_method_4_code 21 = .ok (.aload_n 0, 1) := by decide +kernel
theorem d_Frame_addPlace_22 : decode prog_2_method_4_code 22 = .ok (.dup, 1) := by decide +kernel
theorem d_Frame_addPlace_23 : decode prog_2_method_4_code 23 = .ok (.getfield 19, 3) := by decide +kernel
theorem d_Frame_addPlace_26 : decode prog_2_method_4_code 26 = .ok (.iconst 1, 1) := by decide +kernel
theorem d_Frame_addPlace_27 : decode prog_2_method_4_code 27 = .ok (.iadd, 1) := by decide +kernel
theorem d_Frame_addPlace_28 : decode prog_2_method_4_code 28 = .ok (.putfield 19, 3) := by decide +kernel
theorem d_Frame_addPlace_31 : decode prog_2_method_4_code 31 = .ok (.aload_n 0, 1) := by decide +kernel
theorem d_Frame_addPlace_32 : decode prog_2_method_4_code 32 = .ok (.getfield 19, 3) := by decide +kernel
theorem d_Frame_addPlace_35 : decode prog_2_method_4_code 35 = .ok (.ireturn, 1) := by decide +kernel
theorem d_Frame_isThere_0 : decode prog_2_method_2_code 0 = .ok (.aload_n 0, 1) := by decide +kernel
theorem d_Frame_isThere_1 : decode prog_2_method_2_code 1 = .ok (.getfield 15, 3) := by decide +kernel
theorem d_Frame_isThere_4 : decode prog_2_method_2_code 4 = .ok (.ifCond .le 7, 3) := by decide +kernel
theorem d_Frame_isThere_7 : decode prog_2_method_2_code 7 = .ok (.iconst 1, 1) := by decide +kernel
theorem d_Frame_isThere_8 : decode prog_2_method_2_code 8 = .ok (.goto 4, 3) := by decide +kernel
theorem d_Frame_isThere_11 : decode prog_2_method_2_code 11 = .ok (.iconst 0, 1) := by decide +kernel
theorem d_Frame_isThere_12 : decode prog_2_method_2_code 12 = .ok (.ireturn, 1) := by decide +kernel
theorem d_Frame_layDown_0 : decode prog_2_method_3_code 0 = .ok (.aload_n 0, 1) := by decide +kernel
theorem d_Frame_layDown_1 : decode prog_2_method_3_code 1 = .ok (.iload_n 1, 1) := by decide +kernel
theorem d_Frame_layDown_2 : decode prog_2_method_3_code 2 = .ok (.putfield 15, 3) := by decide +kernel
theorem d_Frame_layDown_5 : decode prog_2_method_3_code 5 = .ok (.aload_n 0, 1) := by decide +kernel
theorem d_Frame_layDown_6 : decode prog_2_method_3_code 6 = .ok (.iconst 0, 1) := by decide +kernel
theorem d_Frame_layDown_7 : decode prog_2_method_3_code 7 = .ok (.putfield 19, 3) := by decide +kernel
theorem d_Frame_layDown_10 : decode prog_2_method_3_code 10 = .ok (.return_, 1) := by decide +kernel
theorem d_HeldLocks_free_0 : decode prog_4_method_5_code 0 = .ok (.aload_n 0, 1) := by decide +kernel
theorem d_HeldLocks_free_1 : decode prog_4_method_5_code 1 = .ok (.getfield 15, 3) := by decide +kernel
theorem d_HeldLocks_free_4 : decode prog_4_method_5_code 4 = .ok (.ifCond .eq 18, 3) := by decide +kernel
theorem d_HeldLocks_free_7 : decode prog_4_method_5_code 7 = .ok (.aload_n 0, 1) := by decide +kernel
theorem d_HeldLocks_free_8 : decode prog_4_method_5_code 8 = .ok (.getfield 9, 3) := by decide +kernel
theorem d_HeldLocks_free_11 : decode prog_4_method_5_code 11 = .ok (.aload_n 0, 1) := by decide +kernel
theorem d_HeldLocks_free_12 : decode prog_4_method_5_code 12 = .ok (.getfield 15, 3) := by decide +kernel
theorem d_HeldLocks_free_15 : decode prog_4_method_5_code 15 = .ok (.iconst 1, 1) := by decide +kernel
theorem d_HeldLocks_free_16 : decode prog_4_method_5_code 16 = .ok (.isub, 1) := by decide +kernel
theorem d_HeldLocks_free_17 : decode prog_4_method_5_code 17 = .ok (.iaload, 1) := by decide +kernel
theorem d_HeldLocks_free_18 : decode prog_4_method_5_code 18 = .ok (.iload_n 1, 1) := by decide +kernel
theorem d_HeldLocks_free_19 : decode prog_4_method_5_code 19 = .ok (.if_icmp .eq 5, 3) := by decide +kernel
theorem d_HeldLocks_free_22 : decode prog_4_method_5_code 22 = .ok (.iconst 0, 1) := by decide +kernel
theorem d_HeldLocks_free_23 : decode prog_4_method_5_code 23 = .ok (.ireturn, 1) := by decide +kernel
theorem d_HeldLocks_free_24 : decode prog_4_method_5_code 24 = .ok (.aload_n 0, 1) := by decide +kernel
theorem d_HeldLocks_free_25 : decode prog_4_method_5_code 25 = .ok (.dup, 1) := by decide +kernel
theorem d_HeldLocks_free_26 : decode prog_4_method_5_code 26 = .ok (.getfield 15, 3) := by decide +kernel
theorem d_HeldLocks_free_29 : decode prog_4_method_5_code 29 = .ok (.iconst 1, 1) := by decide +kernel
theorem d_HeldLocks_free_30 : decode prog_4_method_5_code 30 = .ok (.isub, 1) := by decide +kernel
theorem d_HeldLocks_free_31 : decode prog_4_method_5_code 31 = .ok (.putfield 15, 3) := by decide +kernel
theorem d_HeldLocks_free_34 : decode prog_4_method_5_code 34 = .ok (.iconst 1, 1) := by decide +kernel
theorem d_HeldLocks_free_35 : decode prog_4_method_5_code 35 = .ok (.ireturn, 1) := by decide +kernel
theorem d_HeldLocks_latest_0 : decode prog_4_method_2_code 0 = .ok (.aload_n 0, 1) := by decide +kernel
theorem d_HeldLocks_latest_1 : decode prog_4_method_2_code 1 = .ok (.getfield 15, 3) := by decide +kernel
theorem d_HeldLocks_latest_4 : decode prog_4_method_2_code 4 = .ok (.ifCond .ne 8, 3) := by decide +kernel
theorem d_HeldLocks_latest_7 : decode prog_4_method_2_code 7 = .ok (.bipush (-2), 2) := by decide +kernel
theorem d_HeldLocks_latest_9 : decode prog_4_method_2_code 9 = .ok (.goto 14, 3) := by decide +kernel
theorem d_HeldLocks_latest_12 : decode prog_4_method_2_code 12 = .ok (.aload_n 0, 1) := by decide +kernel
theorem d_HeldLocks_latest_13 : decode prog_4_method_2_code 13 = .ok (.getfield 9, 3) := by decide +kernel
theorem d_HeldLocks_latest_16 : decode prog_4_method_2_code 16 = .ok (.aload_n 0, 1) := by decide +kernel
theorem d_HeldLocks_latest_17 : decode prog_4_method_2_code 17 = .ok (.getfield 15, 3) := by decide +kernel
theorem d_HeldLocks_latest_20 : decode prog_4_method_2_code 20 = .ok (.iconst 1, 1) := by decide +kernel
theorem d_HeldLocks_latest_21 : decode prog_4_method_2_code 21 = .ok (.isub, 1) := by decide +kernel
theorem d_HeldLocks_latest_22 : decode prog_4_method_2_code 22 = .ok (.iaload, 1) := by decide +kernel
theorem d_HeldLocks_latest_23 : decode prog_4_method_2_code 23 = .ok (.ireturn, 1) := by decide +kernel
theorem d_HeldLocks_take_0 : decode prog_4_method_4_code 0 = .ok (.aload_n 0, 1) := by decide +kernel
theorem d_HeldLocks_take_1 : decode prog_4_method_4_code 1 = .ok (.getfield 15, 3) := by decide +kernel
theorem d_HeldLocks_take_4 : decode prog_4_method_4_code 4 = .ok (.iconst 4, 1) := by decide +kernel
theorem d_HeldLocks_take_5 : decode prog_4_method_4_code 5 = .ok (.if_icmp .ge 23, 3) := by decide +kernel
theorem d_HeldLocks_take_8 : decode prog_4_method_4_code 8 = .ok (.aload_n 0, 1) := by decide +kernel
theorem d_HeldLocks_take_9 : decode prog_4_method_4_code 9 = .ok (.getfield 9, 3) := by decide +kernel
theorem d_HeldLocks_take_12 : decode prog_4_method_4_code 12 = .ok (.aload_n 0, 1) := by decide +kernel
theorem d_HeldLocks_take_13 : decode prog_4_method_4_code 13 = .ok (.getfield 15, 3) := by decide +kernel
theorem d_HeldLocks_take_16 : decode prog_4_method_4_code 16 = .ok (.iload_n 1, 1) := by decide +kernel
theorem d_HeldLocks_take_17 : decode prog_4_method_4_code 17 = .ok (.iastore, 1) := by decide +kernel
theorem d_HeldLocks_take_18 : decode prog_4_method_4_code 18 = .ok (.aload_n 0, 1) := by decide +kernel
theorem d_HeldLocks_take_19 : decode prog_4_method_4_code 19 = .ok (.dup, 1) := by decide +kernel
theorem d_HeldLocks_take_20 : decode prog_4_method_4_code 20 = .ok (.getfield 15, 3) := by decide +kernel
theorem d_HeldLocks_take_23 : decode prog_4_method_4_code 23 = .ok (.iconst 1, 1) := by decide +kernel
theorem d_HeldLocks_take_24 : decode prog_4_method_4_code 24 = .ok (.iadd, 1) := by decide +kernel
theorem d_HeldLocks_take_25 : decode prog_4_method_4_code 25 = .ok (.putfield 15, 3) := by decide +kernel
theorem d_HeldLocks_take_28 : decode prog_4_method_4_code 28 = .ok (.return_, 1) := by decide +kernel
theorem d_Journal_note_0 : decode prog_5_method_2_code 0 = .ok (.aload_n 0, 1) := by decide +kernel
theorem d_Journal_note_1 : decode prog_5_method_2_code 1 = .ok (.getfield 9, 3) := by decide +kernel
theorem d_Journal_note_4 : decode prog_5_method_2_code 4 = .ok (.aload_n 0, 1) := by decide +kernel
theorem d_Journal_note_5 : decode prog_5_method_2_code 5 = .ok (.getfield 15, 3) := by decide +kernel
theorem d_Journal_note_8 : decode prog_5_method_2_code 8 = .ok (.bipush 31, 2) := by decide +kernel
theorem d_Journal_note_10 : decode prog_5_method_2_code 10 = .ok (.iand, 1) := by decide +kernel
theorem d_Journal_note_11 : decode prog_5_method_2_code 11 = .ok (.bipush 8, 2) := by decide +kernel
theorem d_Journal_note_13 : decode prog_5_method_2_code 13 = .ok (.iload_n 1, 1) := by decide +kernel
theorem d_Journal_note_14 : decode prog_5_method_2_code 14 = .ok (.imul, 1) := by decide +kernel
theorem d_Journal_note_15 : decode prog_5_method_2_code 15 = .ok (.iload_n 2, 1) := by decide +kernel
theorem d_Journal_note_16 : decode prog_5_method_2_code 16 = .ok (.iadd, 1) := by decide +kernel
theorem d_Journal_note_17 : decode prog_5_method_2_code 17 = .ok (.iastore, 1) := by decide +kernel
theorem d_Journal_note_18 : decode prog_5_method_2_code 18 = .ok (.aload_n 0, 1) := by decide +kernel
theorem d_Journal_note_19 : decode prog_5_method_2_code 19 = .ok (.dup, 1) := by decide +kernel
theorem d_Journal_note_20 : decode prog_5_method_2_code 20 = .ok (.getfield 15, 3) := by decide +kernel
theorem d_Journal_note_23 : decode prog_5_method_2_code 23 = .ok (.iconst 1, 1) := by decide +kernel
theorem d_Journal_note_24 : decode prog_5_method_2_code 24 = .ok (.iadd, 1) := by decide +kernel
theorem d_Journal_note_25 : decode prog_5_method_2_code 25 = .ok (.putfield 15, 3) := by decide +kernel
theorem d_Journal_note_28 : decode prog_5_method_2_code 28 = .ok (.return_, 1) := by decide +kernel
theorem d_Line_at_0 : decode prog_6_method_3_code 0 = .ok (.aload_n 0, 1) := by decide +kernel
theorem d_Line_at_1 : decode prog_6_method_3_code 1 = .ok (.getfield 11, 3) := by decide +kernel
theorem d_Line_at_4 : decode prog_6_method_3_code 4 = .ok (.aload_n 0, 1) := by decide +kernel
theorem d_Line_at_5 : decode prog_6_method_3_code 5 = .ok (.getfield 20, 3) := by decide +kernel
theorem d_Line_at_8 : decode prog_6_method_3_code 8 = .ok (.iload_n 1, 1) := by decide +kernel
theorem d_Line_at_9 : decode prog_6_method_3_code 9 = .ok (.iadd, 1) := by decide +kernel
theorem d_Line_at_10 : decode prog_6_method_3_code 10 = .ok (.iconst 3, 1) := by decide +kernel
theorem d_Line_at_11 : decode prog_6_method_3_code 11 = .ok (.iand, 1) := by decide +kernel
theorem d_Line_at_12 : decode prog_6_method_3_code 12 = .ok (.aaload, 1) := by decide +kernel
theorem d_Line_at_13 : decode prog_6_method_3_code 13 = .ok (.areturn, 1) := by decide +kernel
theorem d_Line_first_0 : decode prog_6_method_2_code 0 = .ok (.aload_n 0, 1) := by decide +kernel
theorem d_Line_first_1 : decode prog_6_method_2_code 1 = .ok (.getfield 11, 3) := by decide +kernel
theorem d_Line_first_4 : decode prog_6_method_2_code 4 = .ok (.aload_n 0, 1) := by decide +kernel
theorem d_Line_first_5 : decode prog_6_method_2_code 5 = .ok (.getfield 20, 3) := by decide +kernel
theorem d_Line_first_8 : decode prog_6_method_2_code 8 = .ok (.aaload, 1) := by decide +kernel
theorem d_Line_first_9 : decode prog_6_method_2_code 9 = .ok (.areturn, 1) := by decide +kernel
theorem d_Line_grow_0 : decode prog_6_method_4_code 0 = .ok (.aload_n 0, 1) := by decide +kernel
theorem d_Line_grow_1 : decode prog_6_method_4_code 1 = .ok (.getfield 24, 3) := by decide +kernel
theorem d_Line_grow_4 : decode prog_6_method_4_code 4 = .ok (.iconst 4, 1) := by decide +kernel
theorem d_Line_grow_5 : decode prog_6_method_4_code 5 = .ok (.if_icmp .lt 5, 3) := by decide +kernel
theorem d_Line_grow_8 : decode prog_6_method_4_code 8 = .ok (.aconst_null, 1) := by decide +kernel
theorem d_Line_grow_9 : decode prog_6_method_4_code 9 = .ok (.areturn, 1) := by decide +kernel
theorem d_Line_grow_10 : decode prog_6_method_4_code 10 = .ok (.aload_n 0, 1) := by decide +kernel
theorem d_Line_grow_11 : decode prog_6_method_4_code 11 = .ok (.dup, 1) := by decide +kernel
theorem d_Line_grow_12 : decode prog_6_method_4_code 12 = .ok (.getfield 24, 3) := by decide +kernel
theorem d_Line_grow_15 : decode prog_6_method_4_code 15 = .ok (.iconst 1, 1) := by decide +kernel
theorem d_Line_grow_16 : decode prog_6_method_4_code 16 = .ok (.iadd, 1) := by decide +kernel
theorem d_Line_grow_17 : decode prog_6_method_4_code 17 = .ok (.putfield 24, 3) := by decide +kernel
theorem d_Line_grow_20 : decode prog_6_method_4_code 20 = .ok (.aload_n 0, 1) := by decide +kernel
theorem d_Line_grow_21 : decode prog_6_method_4_code 21 = .ok (.aload_n 0, 1) := by decide +kernel
theorem d_Line_grow_22 : decode prog_6_method_4_code 22 = .ok (.getfield 24, 3) := by decide +kernel
theorem d_Line_grow_25 : decode prog_6_method_4_code 25 = .ok (.iconst 1, 1) := by decide +kernel
theorem d_Line_grow_26 : decode prog_6_method_4_code 26 = .ok (.isub, 1) := by decide +kernel
theorem d_Line_grow_27 : decode prog_6_method_4_code 27 = .ok (.invokevirtual 27, 3) := by decide +kernel
theorem d_Line_grow_30 : decode prog_6_method_4_code 30 = .ok (.areturn, 1) := by decide +kernel
theorem d_Line_removeFirst_0 : decode prog_6_method_5_code 0 = .ok (.aload_n 0, 1) := by decide +kernel
theorem d_Line_removeFirst_1 : decode prog_6_method_5_code 1 = .ok (.getfield 24, 3) := by decide +kernel
theorem d_Line_removeFirst_4 : decode prog_6_method_5_code 4 = .ok (.ifCond .le 25, 3) := by decide +kernel
theorem d_Line_removeFirst_7 : decode prog_6_method_5_code 7 = .ok (.aload_n 0, 1) := by decide +kernel
theorem d_Line_removeFirst_8 : decode prog_6_method_5_code 8 = .ok (.aload_n 0, 1) := by decide +kernel
theorem d_Line_removeFirst_9 : decode prog_6_method_5_code 9 = .ok (.getfield 20, 3) := by decide +kernel
theorem d_Line_removeFirst_12 : decode prog_6_method_5_code 12 = .ok (.iconst 1, 1) := by decide +kernel
theorem d_Line_removeFirst_13 : decode prog_6_method_5_code 13 = .ok (.iadd, 1) := by decide +kernel
theorem d_Line_removeFirst_14 : decode prog_6_method_5_code 14 = .ok (.iconst 3, 1) := by decide +kernel
theorem d_Line_removeFirst_15 : decode prog_6_method_5_code 15 = .ok (.iand, 1) := by decide +kernel
theorem d_Line_removeFirst_16 : decode prog_6_method_5_code 16 = .ok (.putfield 20, 3) := by decide +kernel
theorem d_Line_removeFirst_19 : decode prog_6_method_5_code 19 = .ok (.aload_n 0, 1) := by decide +kernel
theorem d_Line_removeFirst_20 : decode prog_6_method_5_code 20 = .ok (.dup, 1) := by decide +kernel
theorem d_Line_removeFirst_21 : decode prog_6_method_5_code 21 = .ok (.getfield 24, 3) := by decide +kernel
theorem d_Line_removeFirst_24 : decode prog_6_method_5_code 24 = .ok (.iconst 1, 1) := by decide +kernel
theorem d_Line_removeFirst_25 : decode prog_6_method_5_code 25 = .ok (.isub, 1) := by decide +kernel
theorem d_Line_removeFirst_26 : decode prog_6_method_5_code 26 = .ok (.putfield 24, 3) := by decide +kernel
theorem d_Line_removeFirst_29 : decode prog_6_method_5_code 29 = .ok (.return_, 1) := by decide +kernel
theorem d_Line_removeNotBegun_0 : decode prog_6_method_6_code 0 = .ok (.aload_n 0, 1) := by decide +kernel
theorem d_Line_removeNotBegun_1 : decode prog_6_method_6_code 1 = .ok (.getfield 24, 3) := by decide +kernel
theorem d_Line_removeNotBegun_4 : decode prog_6_method_6_code 4 = .ok (.istore_n 1, 1) := by decide +kernel
theorem d_Line_removeNotBegun_5 : decode prog_6_method_6_code 5 = .ok (.aload_n 0, 1) := by decide +kernel
theorem d_Line_removeNotBegun_6 : decode prog_6_method_6_code 6 = .ok (.aload_n 0, 1) := by decide +kernel
theorem d_Line_removeNotBegun_7 : decode prog_6_method_6_code 7 = .ok (.getfield 24, 3) := by decide +kernel
theorem d_Line_removeNotBegun_10 : decode prog_6_method_6_code 10 = .ok (.ifCond .le 17, 3) := by decide +kernel
theorem d_Line_removeNotBegun_13 : decode prog_6_method_6_code 13 = .ok (.aload_n 0, 1) := by decide +kernel
theorem d_Line_removeNotBegun_14 : decode prog_6_method_6_code 14 = .ok (.invokevirtual 31, 3) := by decide +kernel
theorem d_Line_removeNotBegun_17 : decode prog_6_method_6_code 17 = .ok (.getfield 35, 3) := by decide +kernel
theorem d_Line_removeNotBegun_20 : decode prog_6_method_6_code 20 = .ok (.ifCond .eq 7, 3) := by decide +kernel
theorem d_Line_removeNotBegun_23 : decode prog_6_method_6_code 23 = .ok (.iconst 1, 1) := by decide +kernel
theorem d_Line_removeNotBegun_24 : decode prog_6_method_6_code 24 = .ok (.goto 4, 3) := by decide +kernel
theorem d_Line_removeNotBegun_27 : decode prog_6_method_6_code 27 = .ok (.iconst 0, 1) := by decide +kernel
theorem d_Line_removeNotBegun_28 : decode prog_6_method_6_code 28 = .ok (.putfield 24, 3) := by decide +kernel
theorem d_Line_removeNotBegun_31 : decode prog_6_method_6_code 31 = .ok (.iload_n 1, 1) := by decide +kernel
theorem d_Line_removeNotBegun_32 : decode prog_6_method_6_code 32 = .ok (.aload_n 0, 1) := by decide +kernel
theorem d_Line_removeNotBegun_33 : decode prog_6_method_6_code 33 = .ok (.getfield 24, 3) := by decide +kernel
theorem d_Line_removeNotBegun_36 : decode prog_6_method_6_code 36 = .ok (.isub, 1) := by decide +kernel
theorem d_Line_removeNotBegun_37 : decode prog_6_method_6_code 37 = .ok (.ireturn, 1) := by decide +kernel
theorem d_MissionArea_clear_0 : decode prog_7_method_3_code 0 = .ok (.aload_n 0, 1) := by decide +kernel
theorem d_MissionArea_clear_1 : decode prog_7_method_3_code 1 = .ok (.iconst 0, 1) := by decide +kernel
theorem d_MissionArea_clear_2 : decode prog_7_method_3_code 2 = .ok (.putfield 7, 3) := by decide +kernel
theorem d_MissionArea_clear_5 : decode prog_7_method_3_code 5 = .ok (.aload_n 0, 1) := by decide +kernel
theorem d_MissionArea_clear_6 : decode prog_7_method_3_code 6 = .ok (.iconst 0, 1) := by decide +kernel
theorem d_MissionArea_clear_7 : decode prog_7_method_3_code 7 = .ok (.putfield 13, 3) := by decide +kernel
theorem d_MissionArea_clear_10 : decode prog_7_method_3_code 10 = .ok (.return_, 1) := by decide +kernel
theorem d_MissionArea_make_0 : decode prog_7_method_4_code 0 = .ok (.iload_n 1, 1) := by decide +kernel
theorem d_MissionArea_make_1 : decode prog_7_method_4_code 1 = .ok (.aload_n 0, 1) := by decide +kernel
theorem d_MissionArea_make_2 : decode prog_7_method_4_code 2 = .ok (.getfield 7, 3) := by decide +kernel
theorem d_MissionArea_make_5 : decode prog_7_method_4_code 5 = .ok (.if_icmp .le 5, 3) := by decide +kernel
theorem d_MissionArea_make_8 : decode prog_7_method_4_code 8 = .ok (.iconst 0, 1) := by decide +kernel
theorem d_MissionArea_make_9 : decode prog_7_method_4_code 9 = .ok (.ireturn, 1) := by decide +kernel
theorem d_MissionArea_make_10 : decode prog_7_method_4_code 10 = .ok (.aload_n 0, 1) := by decide +kernel
theorem d_MissionArea_make_11 : decode prog_7_method_4_code 11 = .ok (.dup, 1) := by decide +kernel
theorem d_MissionArea_make_12 : decode prog_7_method_4_code 12 = .ok (.getfield 7, 3) := by decide +kernel
theorem d_MissionArea_make_15 : decode prog_7_method_4_code 15 = .ok (.iload_n 1, 1) := by decide +kernel
theorem d_MissionArea_make_16 : decode prog_7_method_4_code 16 = .ok (.isub, 1) := by decide +kernel
theorem d_MissionArea_make_17 : decode prog_7_method_4_code 17 = .ok (.putfield 7, 3) := by decide +kernel
theorem d_MissionArea_make_20 : decode prog_7_method_4_code 20 = .ok (.aload_n 0, 1) := by decide +kernel
theorem d_MissionArea_make_21 : decode prog_7_method_4_code 21 = .ok (.dup, 1) := by decide +kernel
theorem d_MissionArea_make_22 : decode prog_7_method_4_code 22 = .ok (.getfield 13, 3) := by decide +kernel
theorem d_MissionArea_make_25 : decode prog_7_method_4_code 25 = .ok (.iconst 1, 1) := by decide +kernel
theorem d_MissionArea_make_26 : decode prog_7_method_4_code 26 = .ok (.iadd, 1) := by decide +kernel
theorem d_MissionArea_make_27 : decode prog_7_method_4_code 27 = .ok (.putfield 13, 3) := by decide +kernel
theorem d_MissionArea_make_30 : decode prog_7_method_4_code 30 = .ok (.iconst 1, 1) := by decide +kernel
theorem d_MissionArea_make_31 : decode prog_7_method_4_code 31 = .ok (.ireturn, 1) := by decide +kernel
theorem d_MissionArea_open_0 : decode prog_7_method_2_code 0 = .ok (.aload_n 0, 1) := by decide +kernel
theorem d_MissionArea_open_1 : decode prog_7_method_2_code 1 = .ok (.iload_n 1, 1) := by decide +kernel
theorem d_MissionArea_open_2 : decode prog_7_method_2_code 2 = .ok (.putfield 7, 3) := by decide +kernel
theorem d_MissionArea_open_5 : decode prog_7_method_2_code 5 = .ok (.aload_n 0, 1) := by decide +kernel
theorem d_MissionArea_open_6 : decode prog_7_method_2_code 6 = .ok (.iconst 0, 1) := by decide +kernel
theorem d_MissionArea_open_7 : decode prog_7_method_2_code 7 = .ok (.putfield 13, 3) := by decide +kernel
theorem d_MissionArea_open_10 : decode prog_7_method_2_code 10 = .ok (.return_, 1) := by decide +kernel
theorem d_Release_come_0 : decode prog_8_method_2_code 0 = .ok (.aload_n 0, 1) := by decide +kernel
theorem d_Release_come_1 : decode prog_8_method_2_code 1 = .ok (.iload_n 1, 1) := by decide +kernel
theorem d_Release_come_2 : decode prog_8_method_2_code 2 = .ok (.putfield 27, 3) := by decide +kernel
theorem d_Release_come_5 : decode prog_8_method_2_code 5 = .ok (.aload_n 0, 1) := by decide +kernel
theorem d_Release_come_6 : decode prog_8_method_2_code 6 = .ok (.iload_n 2, 1) := by decide +kernel
theorem d_Release_come_7 : decode prog_8_method_2_code 7 = .ok (.putfield 30, 3) := by decide +kernel
theorem d_Release_come_10 : decode prog_8_method_2_code 10 = .ok (.aload_n 0, 1) := by decide +kernel
theorem d_Release_come_11 : decode prog_8_method_2_code 11 = .ok (.iconst 0, 1) := by decide +kernel
theorem d_Release_come_12 : decode prog_8_method_2_code 12 = .ok (.putfield 33, 3) := by decide +kernel
theorem d_Release_come_15 : decode prog_8_method_2_code 15 = .ok (.aload_n 0, 1) := by decide +kernel
theorem d_Release_come_16 : decode prog_8_method_2_code 16 = .ok (.iconst 0, 1) := by decide +kernel
theorem d_Release_come_17 : decode prog_8_method_2_code 17 = .ok (.putfield 37, 3) := by decide +kernel
theorem d_Release_come_20 : decode prog_8_method_2_code 20 = .ok (.aload_n 0, 1) := by decide +kernel
theorem d_Release_come_21 : decode prog_8_method_2_code 21 = .ok (.iconst 0, 1) := by decide +kernel
theorem d_Release_come_22 : decode prog_8_method_2_code 22 = .ok (.putfield 40, 3) := by decide +kernel
theorem d_Release_come_25 : decode prog_8_method_2_code 25 = .ok (.aload_n 0, 1) := by decide +kernel
theorem d_Release_come_26 : decode prog_8_method_2_code 26 = .ok (.getfield 23, 3) := by decide +kernel
theorem d_Release_come_29 : decode prog_8_method_2_code 29 = .ok (.iconst 0, 1) := by decide +kernel
theorem d_Release_come_30 : decode prog_8_method_2_code 30 = .ok (.putfield 43, 3) := by decide +kernel
theorem d_Release_come_33 : decode prog_8_method_2_code 33 = .ok (.return_, 1) := by decide +kernel
theorem d_Release_start_0 : decode prog_8_method_3_code 0 = .ok (.aload_n 0, 1) := by decide +kernel
theorem d_Release_start_1 : decode prog_8_method_3_code 1 = .ok (.iconst 1, 1) := by decide +kernel
theorem d_Release_start_2 : decode prog_8_method_3_code 2 = .ok (.putfield 33, 3) := by decide +kernel
theorem d_Release_start_5 : decode prog_8_method_3_code 5 = .ok (.aload_n 0, 1) := by decide +kernel
theorem d_Release_start_6 : decode prog_8_method_3_code 6 = .ok (.getfield 16, 3) := by decide +kernel
theorem d_Release_start_9 : decode prog_8_method_3_code 9 = .ok (.iload_n 1, 1) := by decide +kernel
theorem d_Release_start_10 : decode prog_8_method_3_code 10 = .ok (.invokevirtual 46, 3) := by decide +kernel
theorem d_Release_start_13 : decode prog_8_method_3_code 13 = .ok (.return_, 1) := by decide +kernel
theorem d_Scopes_makeHere_0 : decode prog_9_method_4_code 0 = .ok (.iload_n 1, 1) := by decide +kernel
theorem d_Scopes_makeHere_1 : decode prog_9_method_4_code 1 = .ok (.aload_n 0, 1) := by decide +kernel
theorem d_Scopes_makeHere_2 : decode prog_9_method_4_code 2 = .ok (.getfield 9, 3) := by decide +kernel
theorem d_Scopes_makeHere_5 : decode prog_9_method_4_code 5 = .ok (.aload_n 0, 1) := by decide +kernel
theorem d_Scopes_makeHere_6 : decode prog_9_method_4_code 6 = .ok (.getfield 24, 3) := by decide +kernel
theorem d_Scopes_makeHere_9 : decode prog_9_method_4_code 9 = .ok (.iaload, 1) := by decide +kernel
theorem d_Scopes_makeHere_10 : decode prog_9_method_4_code 10 = .ok (.if_icmp .le 5, 3) := by decide +kernel
theorem d_Scopes_makeHere_13 : decode prog_9_method_4_code 13 = .ok (.iconst 0, 1) := by decide +kernel
theorem d_Scopes_makeHere_14 : decode prog_9_method_4_code 14 = .ok (.ireturn, 1) := by decide +kernel
theorem d_Scopes_makeHere_15 : decode prog_9_method_4_code 15 = .ok (.aload_n 0, 1) := by decide +kernel
theorem d_Scopes_makeHere_16 : decode prog_9_method_4_code 16 = .ok (.getfield 9, 3) := by decide +kernel
theorem d_Scopes_makeHere_19 : decode prog_9_method_4_code 19 = .ok (.aload_n 0, 1) := by decide +kernel
theorem d_Scopes_makeHere_20 : decode prog_9_method_4_code 20 = .ok (.getfield 24, 3) := by decide +kernel
theorem d_Scopes_makeHere_23 : decode prog_9_method_4_code 23 = .ok (.dup2, 1) := by decide +kernel
theorem d_Scopes_makeHere_24 : decode prog_9_method_4_code 24 = .ok (.iaload, 1) := by decide +kernel
theorem d_Scopes_makeHere_25 : decode prog_9_method_4_code 25 = .ok (.iload_n 1, 1) := by decide +kernel
theorem d_Scopes_makeHere_26 : decode prog_9_method_4_code 26 = .ok (.isub, 1) := by decide +kernel
theorem d_Scopes_makeHere_27 : decode prog_9_method_4_code 27 = .ok (.iastore, 1) := by decide +kernel
theorem d_Scopes_makeHere_28 : decode prog_9_method_4_code 28 = .ok (.aload_n 0, 1) := by decide +kernel
theorem d_Scopes_makeHere_29 : decode prog_9_method_4_code 29 = .ok (.iload_n 1, 1) := by decide +kernel
theorem d_Scopes_makeHere_30 : decode prog_9_method_4_code 30 = .ok (.aload_n 0, 1) := by decide +kernel
theorem d_Scopes_makeHere_31 : decode prog_9_method_4_code 31 = .ok (.getfield 24, 3) := by decide +kernel
theorem d_Scopes_makeHere_34 : decode prog_9_method_4_code 34 = .ok (.invokevirtual 31, 3) := by decide +kernel
theorem d_Scopes_makeHere_37 : decode prog_9_method_4_code 37 = .ok (.iconst 1, 1) := by decide +kernel
theorem d_Scopes_makeHere_38 : decode prog_9_method_4_code 38 = .ok (.ireturn, 1) := by decide +kernel
theorem d_Scopes_note_0 : decode prog_9_method_6_code 0 = .ok (.aload_n 0, 1) := by decide +kernel
theorem d_Scopes_note_1 : decode prog_9_method_6_code 1 = .ok (.getfield 28, 3) := by decide +kernel
theorem d_Scopes_note_4 : decode prog_9_method_6_code 4 = .ok (.bipush 10, 2) := by decide +kernel
theorem d_Scopes_note_6 : decode prog_9_method_6_code 6 = .ok (.if_icmp .ge 33, 3) := by decide +kernel
theorem d_Scopes_note_9 : decode prog_9_method_6_code 9 = .ok (.aload_n 0, 1) := by decide +kernel
theorem d_Scopes_note_10 : decode prog_9_method_6_code 10 = .ok (.getfield 18, 3) := by decide +kernel
theorem d_Scopes_note_13 : decode prog_9_method_6_code 13 = .ok (.aload_n 0, 1) := by decide +kernel
theorem d_Scopes_note_14 : decode prog_9_method_6_code 14 = .ok (.getfield 28, 3) := by decide +kernel
theorem d_Scopes_note_17 : decode prog_9_method_6_code 17 = .ok (.iload_n 1, 1) := by decide +kernel
theorem d_Scopes_note_18 : decode prog_9_method_6_code 18 = .ok (.iastore, 1) := by decide +kernel
theorem d_Scopes_note_19 : decode prog_9_method_6_code 19 = .ok (.aload_n 0, 1) := by decide +kernel
theorem d_Scopes_note_20 : decode prog_9_method_6_code 20 = .ok (.getfield 21, 3) := by decide +kernel
theorem d_Scopes_note_23 : decode prog_9_method_6_code 23 = .ok (.aload_n 0, 1) := by decide +kernel
theorem d_Scopes_note_24 : decode prog_9_method_6_code 24 = .ok (.getfield 28, 3) := by decide +kernel
theorem d_Scopes_note_27 : decode prog_9_method_6_code 27 = .ok (.iload_n 2, 1) := by decide +kernel
theorem d_Scopes_note_28 : decode prog_9_method_6_code 28 = .ok (.iastore, 1) := by decide +kernel
theorem d_Scopes_note_29 : decode prog_9_method_6_code 29 = .ok (.aload_n 0, 1) := by decide +kernel
theorem d_Scopes_note_30 : decode prog_9_method_6_code 30 = .ok (.dup, 1) := by decide +kernel
theorem d_Scopes_note_31 : decode prog_9_method_6_code 31 = .ok (.getfield 28, 3) := by decide +kernel
theorem d_Scopes_note_34 : decode prog_9_method_6_code 34 = .ok (.iconst 1, 1) := by decide +kernel
theorem d_Scopes_note_35 : decode prog_9_method_6_code 35 = .ok (.iadd, 1) := by decide +kernel
theorem d_Scopes_note_36 : decode prog_9_method_6_code 36 = .ok (.putfield 28, 3) := by decide +kernel
theorem d_Scopes_note_39 : decode prog_9_method_6_code 39 = .ok (.return_, 1) := by decide +kernel
theorem d_Scopes_noteKept_0 : decode prog_9_method_5_code 0 = .ok (.aload_n 0, 1) := by decide +kernel
theorem d_Scopes_noteKept_1 : decode prog_9_method_5_code 1 = .ok (.iload_n 1, 1) := by decide +kernel
theorem d_Scopes_noteKept_2 : decode prog_9_method_5_code 2 = .ok (.iconst 0, 1) := by decide +kernel
theorem d_Scopes_noteKept_3 : decode prog_9_method_5_code 3 = .ok (.invokevirtual 31, 3) := by decide +kernel
theorem d_Scopes_noteKept_6 : decode prog_9_method_5_code 6 = .ok (.return_, 1) := by decide +kernel
theorem d_Scopes_open_0 : decode prog_9_method_2_code 0 = .ok (.aload_n 0, 1) := by decide +kernel
theorem d_Scopes_open_1 : decode prog_9_method_2_code 1 = .ok (.iconst 1, 1) := by decide +kernel
theorem d_Scopes_open_2 : decode prog_9_method_2_code 2 = .ok (.putfield 24, 3) := by decide +kernel
theorem d_Scopes_open_5 : decode prog_9_method_2_code 5 = .ok (.aload_n 0, 1) := by decide +kernel
theorem d_Scopes_open_6 : decode prog_9_method_2_code 6 = .ok (.getfield 9, 3) := by decide +kernel
theorem d_Scopes_open_9 : decode prog_9_method_2_code 9 = .ok (.iconst 1, 1) := by decide +kernel
theorem d_Scopes_open_10 : decode prog_9_method_2_code 10 = .ok (.iload_n 1, 1) := by decide +kernel
theorem d_Scopes_open_11 : decode prog_9_method_2_code 11 = .ok (.iastore, 1) := by decide +kernel
theorem d_Scopes_open_12 : decode prog_9_method_2_code 12 = .ok (.aload_n 0, 1) := by decide +kernel
theorem d_Scopes_open_13 : decode prog_9_method_2_code 13 = .ok (.iconst 0, 1) := by decide +kernel
theorem d_Scopes_open_14 : decode prog_9_method_2_code 14 = .ok (.putfield 28, 3) := by decide +kernel
theorem d_Scopes_open_17 : decode prog_9_method_2_code 17 = .ok (.return_, 1) := by decide +kernel
theorem d_Scopes_roomLeft_0 : decode prog_9_method_3_code 0 = .ok (.aload_n 0, 1) := by decide +kernel
theorem d_Scopes_roomLeft_1 : decode prog_9_method_3_code 1 = .ok (.getfield 9, 3) := by decide +kernel
theorem d_Scopes_roomLeft_4 : decode prog_9_method_3_code 4 = .ok (.aload_n 0, 1) := by decide +kernel
theorem d_Scopes_roomLeft_5 : decode prog_9_method_3_code 5 = .ok (.getfield 24, 3) := by decide +kernel
theorem d_Scopes_roomLeft_8 : decode prog_9_method_3_code 8 = .ok (.iaload, 1) := by decide +kernel
theorem d_Scopes_roomLeft_9 : decode prog_9_method_3_code 9 = .ok (.ireturn, 1) := by decide +kernel
theorem F_Frame_15 {D : va_G} {tys : List (ClassId × FieldType)} {z : Nat} {zs : j_Zs} : j_F (jT, D, vwCl, tys, z, zs) "MissionDesk$Frame" 15 7 0 := ⟨"MissionDesk$Frame", T_7, 3, rfl, by decide, in_7, jm 253 (by decide +kernel) rfl⟩
theorem F_Frame_19 {D : va_G} {tys : List (ClassId × FieldType)} {z : Nat} {zs : j_Zs} : j_F (jT, D, vwCl, tys, z, zs) "MissionDesk$Frame" 19 7 1 := ⟨"MissionDesk$Frame", T_7, 3, rfl, by decide, in_7, jm 255 (by decide +kernel) rfl⟩
theorem F_Frame_9 {D : va_G} {tys : List (ClassId × FieldType)} {z : Nat} {zs : j_Zs} : j_F (jT, D, vwCl, tys, z, zs) "MissionDesk$Frame" 9 7 2 := ⟨"MissionDesk$Frame", T_7, 3, rfl, by decide, in_7, jm 257 (by decide +kernel) rfl⟩
theorem F_HeldLocks_15 {D : va_G} {tys : List (ClassId × FieldType)} {z : Nat} {zs : j_Zs} : j_F (jT, D, vwCl, tys, z, zs) "MissionDesk$HeldLocks" 15 5 1 := ⟨"MissionDesk$HeldLocks", T_5, 2, rfl, by decide, in_5, jm 129 (by decide +kernel) rfl⟩
theorem F_HeldLocks_9 {D : va_G} {tys : List (ClassId × FieldType)} {z : Nat} {zs : j_Zs} : j_F (jT, D, vwCl, tys, z, zs) "MissionDesk$HeldLocks" 9 5 0 := ⟨"MissionDesk$HeldLocks", T_5, 2, rfl, by decide, in_5, jm 128 (by decide +kernel) rfl⟩
theorem F_Journal_15 {D : va_G} {tys : List (ClassId × FieldType)} {z : Nat} {zs : j_Zs} : j_F (jT, D, vwCl, tys, z, zs) "MissionDesk$Journal" 15 9 1 := ⟨"MissionDesk$Journal", T_9, 2, rfl, by decide, in_9, jm 309 (by decide +kernel) rfl⟩
theorem F_Journal_9 {D : va_G} {tys : List (ClassId × FieldType)} {z : Nat} {zs : j_Zs} : j_F (jT, D, vwCl, tys, z, zs) "MissionDesk$Journal" 9 9 0 := ⟨"MissionDesk$Journal", T_9, 2, rfl, by decide, in_9, jm 308 (by decide +kernel) rfl⟩
theorem F_Line_11 {D : va_G} {tys : List (ClassId × FieldType)} {z : Nat} {zs : j_Zs} : j_F (jT, D, vwCl, tys, z, zs) "MissionDesk$Line" 11 2 0 := ⟨"MissionDesk$Line", T_2, 3, rfl, by decide, in_2, jm 173 (by decide +kernel) rfl⟩
theorem F_Line_20 {D : va_G} {tys : List (ClassId × FieldType)} {z : Nat} {zs : j_Zs} : j_F (jT, D, vwCl, tys, z, zs) "MissionDesk$Line" 20 2 1 := ⟨"MissionDesk$Line", T_2, 3, rfl, by decide, in_2, jm 174 (by decide +kernel) rfl⟩
theorem F_Line_24 {D : va_G} {tys : List (ClassId × FieldType)} {z : Nat} {zs : j_Zs} : j_F (jT, D, vwCl, tys, z, zs) "MissionDesk$Line" 24 2 2 := ⟨"MissionDesk$Line", T_2, 3, rfl, by decide, in_2, jm 175 (by decide +kernel) rfl⟩
theorem F_Line_35 {D : va_G} {tys : List (ClassId × FieldType)} {z : Nat} {zs : j_Zs} : j_F (jT, D, vwCl, tys, z, zs) "MissionDesk$Line" 35 3 5 := ⟨"MissionDesk$Release", T_3, 8, rfl, by decide, in_3, jm 150 (by decide +kernel) rfl⟩
theorem F_MissionArea_13 {D : va_G} {tys : List (ClassId × FieldType)} {z : Nat} {zs : j_Zs} : j_F (jT, D, vwCl, tys, z, zs) "MissionDesk$MissionArea" 13 8 1 := ⟨"MissionDesk$MissionArea", T_8, 2, rfl, by decide, in_8, jm 295 (by decide +kernel) rfl⟩
theorem F_MissionArea_7 {D : va_G} {tys : List (ClassId × FieldType)} {z : Nat} {zs : j_Zs} : j_F (jT, D, vwCl, tys, z, zs) "MissionDesk$MissionArea" 7 8 0 := ⟨"MissionDesk$MissionArea", T_8, 2, rfl, by decide, in_8, jm 293 (by decide +kernel) rfl⟩
theorem F_Release_16 {D : va_G} {tys : List (ClassId × FieldType)} {z : Nat} {zs : j_Zs} : j_F (jT, D, vwCl, tys, z, zs) "MissionDesk$Release" 16 3 1 := ⟨"MissionDesk$Release", T_3, 8, rfl, by decide, in_3, jm 139 (by decide +kernel) rfl⟩
theorem F_Release_23 {D : va_G} {tys : List (ClassId × FieldType)} {z : Nat} {zs : j_Zs} : j_F (jT, D, vwCl, tys, z, zs) "MissionDesk$Release" 23 3 2 := ⟨"MissionDesk$Release", T_3, 8, rfl, by decide, in_3, jm 141 (by decide +kernel) rfl⟩
theorem F_Scopes_18 {D : va_G} {tys : List (ClassId × FieldType)} {z : Nat} {zs : j_Zs} : j_F (jT, D, vwCl, tys, z, zs) "MissionDesk$Scopes" 18 4 3 := ⟨"MissionDesk$Scopes", T_4, 6, rfl, by decide, in_4, jm 105 (by decide +kernel) rfl⟩
theorem F_Scopes_21 {D : va_G} {tys : List (ClassId × FieldType)} {z : Nat} {zs : j_Zs} : j_F (jT, D, vwCl, tys, z, zs) "MissionDesk$Scopes" 21 4 4 := ⟨"MissionDesk$Scopes", T_4, 6, rfl, by decide, in_4, jm 106 (by decide +kernel) rfl⟩
theorem F_Scopes_24 {D : va_G} {tys : List (ClassId × FieldType)} {z : Nat} {zs : j_Zs} : j_F (jT, D, vwCl, tys, z, zs) "MissionDesk$Scopes" 24 4 2 := ⟨"MissionDesk$Scopes", T_4, 6, rfl, by decide, in_4, jm 103 (by decide +kernel) rfl⟩
theorem F_Scopes_28 {D : va_G} {tys : List (ClassId × FieldType)} {z : Nat} {zs : j_Zs} : j_F (jT, D, vwCl, tys, z, zs) "MissionDesk$Scopes" 28 4 5 := ⟨"MissionDesk$Scopes", T_4, 6, rfl, by decide, in_4, jm 107 (by decide +kernel) rfl⟩
theorem F_Scopes_9 {D : va_G} {tys : List (ClassId × FieldType)} {z : Nat} {zs : j_Zs} : j_F (jT, D, vwCl, tys, z, zs) "MissionDesk$Scopes" 9 4 0 := ⟨"MissionDesk$Scopes", T_4, 6, rfl, by decide, in_4, jm 101 (by decide +kernel) rfl⟩
theorem P_Frame_15 {D : va_G} {tys : List (ClassId × FieldType)} {z : Nat} {zs : j_Zs} : j_P (jT, D, vwCl, tys, z, zs) "MissionDesk$Frame" 15 7 0 false (.int) := ⟨"MissionDesk$Frame", T_7, 3, ty_7, rfl, by decide, in_7, jm 253 (by decide +kernel) rfl, ty_7_ok, nm_7, rfl, by decide +kernel, by decide +kernel⟩
theorem P_Frame_19 {D : va_G} {tys : List (ClassId × FieldType)} {z : Nat} {zs : j_Zs} : j_P (jT, D, vwCl, tys, z, zs) "MissionDesk$Frame" 19 7 1 false (.int) := ⟨"MissionDesk$Frame", T_7, 3, ty_7, rfl, by decide, in_7, jm 255 (by decide +kernel) rfl, ty_7_ok, nm_7, rfl, by decide +kernel, by decide +kernel⟩
theorem P_HeldLocks_15 {D : va_G} {tys : List (ClassId × FieldType)} {z : Nat} {zs : j_Zs} : j_P (jT, D, vwCl, tys, z, zs) "MissionDesk$HeldLocks" 15 5 1 false (.int) := ⟨"MissionDesk$HeldLocks", T_5, 2, ty_5, rfl, by decide, in_5, jm 129 (by decide +kernel) rfl, ty_5_ok, nm_5, rfl, by decide +kernel, by decide +kernel⟩
theorem P_Journal_15 {D : va_G} {tys : List (ClassId × FieldType)} {z : Nat} {zs : j_Zs} : j_P (jT, D, vwCl, tys, z, zs) "MissionDesk$Journal" 15 9 1 false (.int) := ⟨"MissionDesk$Journal", T_9, 2, ty_9, rfl, by decide, in_9, jm 309 (by decide +kernel) rfl, ty_9_ok, nm_9, rfl, by decide +kernel, by decide +kernel⟩
theorem P_Line_20 {D : va_G} {tys : List (ClassId × FieldType)} {z : Nat} {zs : j_Zs} : j_P (jT, D, vwCl, tys, z, zs) "MissionDesk$Line" 20 2 1 false (.int) := ⟨"MissionDesk$Line", T_2, 3, ty_2, rfl, by decide, in_2, jm 174 (by decide +kernel) rfl, ty_2_ok, nm_2, rfl, by decide +kernel, by decide +kernel⟩
theorem P_Line_24 {D : va_G} {tys : List (ClassId × FieldType)} {z : Nat} {zs : j_Zs} : j_P (jT, D, vwCl, tys, z, zs) "MissionDesk$Line" 24 2 2 false (.int) := ⟨"MissionDesk$Line", T_2, 3, ty_2, rfl, by decide, in_2, jm 175 (by decide +kernel) rfl, ty_2_ok, nm_2, rfl, by decide +kernel, by decide +kernel⟩
theorem P_MissionArea_13 {D : va_G} {tys : List (ClassId × FieldType)} {z : Nat} {zs : j_Zs} : j_P (jT, D, vwCl, tys, z, zs) "MissionDesk$MissionArea" 13 8 1 false (.int) := ⟨"MissionDesk$MissionArea", T_8, 2, ty_8, rfl, by decide, in_8, jm 295 (by decide +kernel) rfl, ty_8_ok, nm_8, rfl, by decide +kernel, by decide +kernel⟩
theorem P_MissionArea_7 {D : va_G} {tys : List (ClassId × FieldType)} {z : Nat} {zs : j_Zs} : j_P (jT, D, vwCl, tys, z, zs) "MissionDesk$MissionArea" 7 8 0 false (.int) := ⟨"MissionDesk$MissionArea", T_8, 2, ty_8, rfl, by decide, in_8, jm 293 (by decide +kernel) rfl, ty_8_ok, nm_8, rfl, by decide +kernel, by decide +kernel⟩
theorem P_Release_27 {D : va_G} {tys : List (ClassId × FieldType)} {z : Nat} {zs : j_Zs} : j_P (jT, D, vwCl, tys, z, zs) "MissionDesk$Release" 27 3 3 false (.int) := ⟨"MissionDesk$Release", T_3, 8, ty_3, rfl, by decide, in_3, jm 143 (by decide +kernel) rfl, ty_3_ok, nm_3, rfl, by decide +kernel, by decide +kernel⟩
theorem P_Release_30 {D : va_G} {tys : List (ClassId × FieldType)} {z : Nat} {zs : j_Zs} : j_P (jT, D, vwCl, tys, z, zs) "MissionDesk$Release" 30 3 4 false (.int) := ⟨"MissionDesk$Release", T_3, 8, ty_3, rfl, by decide, in_3, jm 146 (by decide +kernel) rfl, ty_3_ok, nm_3, rfl, by decide +kernel, by decide +kernel⟩
theorem P_Release_33 {D : va_G} {tys : List (ClassId × FieldType)} {z : Nat} {zs : j_Zs} : j_P (jT, D, vwCl, tys, z, zs) "MissionDesk$Release" 33 3 5 false (.boolean) := ⟨"MissionDesk$Release", T_3, 8, ty_3, rfl, by decide, in_3, jm 149 (by decide +kernel) rfl, ty_3_ok, nm_3, rfl, by decide +kernel, by decide +kernel⟩
theorem P_Release_37 {D : va_G} {tys : List (ClassId × FieldType)} {z : Nat} {zs : j_Zs} : j_P (jT, D, vwCl, tys, z, zs) "MissionDesk$Release" 37 3 6 false (.int) := ⟨"MissionDesk$Release", T_3, 8, ty_3, rfl, by decide, in_3, jm 152 (by decide +kernel) rfl, ty_3_ok, nm_3, rfl, by decide +kernel, by decide +kernel⟩
theorem P_Release_40 {D : va_G} {tys : List (ClassId × FieldType)} {z : Nat} {zs : j_Zs} : j_P (jT, D, vwCl, tys, z, zs) "MissionDesk$Release" 40 3 7 false (.int) := ⟨"MissionDesk$Release", T_3, 8, ty_3, rfl, by decide, in_3, jm 154 (by decide +kernel) rfl, ty_3_ok, nm_3, rfl, by decide +kernel, by decide +kernel⟩
theorem P_Release_43 {D : va_G} {tys : List (ClassId × FieldType)} {z : Nat} {zs : j_Zs} : j_P (jT, D, vwCl, tys, z, zs) "MissionDesk$Release" 43 5 1 false (.int) := ⟨"MissionDesk$HeldLocks", T_5, 2, ty_5, rfl, by decide, in_5, jm 130 (by decide +kernel) rfl, ty_5_ok, nm_5, rfl, by decide +kernel, by decide +kernel⟩
theorem P_Scopes_24 {D : va_G} {tys : List (ClassId × FieldType)} {z : Nat} {zs : j_Zs} : j_P (jT, D, vwCl, tys, z, zs) "MissionDesk$Scopes" 24 4 2 false (.int) := ⟨"MissionDesk$Scopes", T_4, 6, ty_4, rfl, by decide, in_4, jm 103 (by decide +kernel) rfl, ty_4_ok, nm_4, rfl, by decide +kernel, by decide +kernel⟩
theorem P_Scopes_28 {D : va_G} {tys : List (ClassId × FieldType)} {z : Nat} {zs : j_Zs} : j_P (jT, D, vwCl, tys, z, zs) "MissionDesk$Scopes" 28 4 5 false (.int) := ⟨"MissionDesk$Scopes", T_4, 6, ty_4, rfl, by decide, in_4, jm 107 (by decide +kernel) rfl, ty_4_ok, nm_4, rfl, by decide +kernel, by decide +kernel⟩
theorem L_Line_27 {D : va_G} {tys : List (ClassId × FieldType)} {z : Nat} {zs : j_Zs} : j_L (jT, D, vwCl, tys, z, zs) "MissionDesk$Line" 27 1 Y_Line_at 0 := ⟨jm 473 (by decide +kernel) rfl, jm 57 (by decide +kernel) rfl, jm 476 (by decide +kernel) rfl, by decide, by decide, by decide, by decide +kernel, (fun _ => ⟨jm 474 (by decide +kernel) rfl, jm 475 (by decide +kernel) rfl⟩), (fun h => absurd h (by decide)), (fun h => absurd h (by decide))⟩
theorem L_Line_31 {D : va_G} {tys : List (ClassId × FieldType)} {z : Nat} {zs : j_Zs} : j_L (jT, D, vwCl, tys, z, zs) "MissionDesk$Line" 31 0 Y_Line_first 0 := ⟨jm 625 (by decide +kernel) rfl, jm 57 (by decide +kernel) rfl, jm 528 (by decide +kernel) rfl, by decide, by decide, by decide, by decide +kernel, (fun _ => ⟨jm 526 (by decide +kernel) rfl, jm 527 (by decide +kernel) rfl⟩), (fun h => absurd h (by decide)), (fun h => absurd h (by decide))⟩
theorem L_Release_46 {D : va_G} {tys : List (ClassId × FieldType)} {z : Nat} {zs : j_Zs} : j_L (jT, D, vwCl, tys, z, zs) "MissionDesk$Release" 46 1 Y_Scopes_open 0 := ⟨jm 541 (by decide +kernel) rfl, jm 59 (by decide +kernel) rfl, jm 544 (by decide +kernel) rfl, by decide, by decide, by decide, by decide +kernel, (fun _ => ⟨jm 542 (by decide +kernel) rfl, jm 543 (by decide +kernel) rfl⟩), (fun h => absurd h (by decide)), (fun h => absurd h (by decide))⟩
theorem L_Scopes_31 {D : va_G} {tys : List (ClassId × FieldType)} {z : Nat} {zs : j_Zs} : j_L (jT, D, vwCl, tys, z, zs) "MissionDesk$Scopes" 31 2 Y_Scopes_note 0 := ⟨jm 577 (by decide +kernel) rfl, jm 59 (by decide +kernel) rfl, jm 580 (by decide +kernel) rfl, by decide, by decide, by decide, by decide +kernel, (fun _ => ⟨jm 579 (by decide +kernel) rfl, jm 19 (by decide +kernel) rfl⟩), (fun h => absurd h (by decide)), (fun h => absurd h (by decide))⟩
