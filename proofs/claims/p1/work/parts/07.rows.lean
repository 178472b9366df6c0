abbrev Y_Desk_init : j_Y := (⟨"MissionDesk", "<init>", "()V"⟩, prog_1_method_1_code, 2, none)
abbrev Y_Desk_begin : j_Y := (⟨"MissionDesk", "begin", "(II)I"⟩, prog_1_method_8_code, 4, some .int)
abbrev Y_Desk_call : j_Y := (⟨"MissionDesk", "call", "(I)I"⟩, prog_1_method_10_code, 2, some .int)
abbrev Y_Desk_ceiling : j_Y := (⟨"MissionDesk", "ceiling", "(II)Z"⟩, prog_1_method_5_code, 3, some .boolean)
abbrev Y_Desk_chosenHandler : j_Y := (⟨"MissionDesk", "chosenHandler", "()I"⟩, prog_1_method_31_code, 3, some .int)
abbrev Y_Desk_desk : j_Y := (⟨"MissionDesk", "desk", "(I)I"⟩, prog_1_method_14_code, 2, some .int)
abbrev Y_Desk_event : j_Y := (⟨"MissionDesk", "event", "(I)I"⟩, prog_1_method_15_code, 2, some .int)
abbrev Y_Desk_frame : j_Y := (⟨"MissionDesk", "frame", "(II)Z"⟩, prog_1_method_6_code, 3, some .boolean)
abbrev Y_Desk_handler : j_Y := (⟨"MissionDesk", "handler", "(IIIII)Z"⟩, prog_1_method_2_code, 6, some .boolean)
abbrev Y_Desk_isFrame : j_Y := (⟨"MissionDesk", "isFrame", "(I)Z"⟩, prog_1_method_18_code, 1, some .boolean)
abbrev Y_Desk_isHandler : j_Y := (⟨"MissionDesk", "isHandler", "(I)Z"⟩, prog_1_method_17_code, 1, some .boolean)
abbrev Y_Desk_isThere : j_Y := (⟨"MissionDesk", "isThere", "(I)Z"⟩, prog_1_method_20_code, 2, some .boolean)
abbrev Y_Desk_limit : j_Y := (⟨"MissionDesk", "limit", "(IIII)Z"⟩, prog_1_method_3_code, 5, some .boolean)
abbrev Y_Desk_memory : j_Y := (⟨"MissionDesk", "memory", "(II)I"⟩, prog_1_method_13_code, 6, some .int)
abbrev Y_Desk_of : j_Y := (⟨"MissionDesk", "of", "(II)I"⟩, prog_1_method_12_code, 4, some .int)
abbrev Y_Desk_place : j_Y := (⟨"MissionDesk", "place", "(II)I"⟩, prog_1_method_7_code, 3, some .int)
abbrev Y_Desk_run : j_Y := (⟨"MissionDesk", "run", "(I)I"⟩, prog_1_method_9_code, 3, some .int)
abbrev Y_Desk_step : j_Y := (⟨"MissionDesk", "step", "(III)I"⟩, prog_1_method_4_code, 4, some .int)
abbrev Y_Desk_stop : j_Y := (⟨"MissionDesk", "stop", "()Z"⟩, prog_1_method_11_code, 1, some .boolean)
abbrev Y_Desk_within : j_Y := (⟨"MissionDesk", "within", "(III)Z"⟩, prog_1_method_16_code, 3, some .boolean)
abbrev Y_Frame_init : j_Y := (⟨"MissionDesk$Frame", "<init>", "()V"⟩, prog_2_method_1_code, 1, none)
abbrev Y_Frame_addPlace : j_Y := (⟨"MissionDesk$Frame", "addPlace", "(I)I"⟩, prog_2_method_4_code, 2, some .int)
abbrev Y_Frame_isThere : j_Y := (⟨"MissionDesk$Frame", "isThere", "()Z"⟩, prog_2_method_2_code, 1, some .boolean)
abbrev Y_Frame_layDown : j_Y := (⟨"MissionDesk$Frame", "layDown", "(I)V"⟩, prog_2_method_3_code, 2, none)
abbrev Y_Handler_init : j_Y := (⟨"MissionDesk$Handler", "<init>", "(I)V"⟩, prog_3_method_1_code, 2, none)
abbrev Y_Handler_layDown : j_Y := (⟨"MissionDesk$Handler", "layDown", "(IIII)V"⟩, prog_3_method_2_code, 5, none)
abbrev Y_HeldLocks_init : j_Y := (⟨"MissionDesk$HeldLocks", "<init>", "()V"⟩, prog_4_method_1_code, 1, none)
abbrev Y_HeldLocks_free : j_Y := (⟨"MissionDesk$HeldLocks", "free", "(I)Z"⟩, prog_4_method_5_code, 2, some .boolean)
abbrev Y_HeldLocks_latest : j_Y := (⟨"MissionDesk$HeldLocks", "latest", "()I"⟩, prog_4_method_2_code, 1, some .int)
abbrev Y_HeldLocks_take : j_Y := (⟨"MissionDesk$HeldLocks", "take", "(I)V"⟩, prog_4_method_4_code, 2, none)
abbrev Y_Journal_init : j_Y := (⟨"MissionDesk$Journal", "<init>", "()V"⟩, prog_5_method_1_code, 1, none)
abbrev Y_Journal_latest : j_Y := (⟨"MissionDesk$Journal", "latest", "(I)I"⟩, prog_5_method_3_code, 2, some .int)
abbrev Y_Journal_note : j_Y := (⟨"MissionDesk$Journal", "note", "(II)V"⟩, prog_5_method_2_code, 3, none)
abbrev Y_Line_init : j_Y := (⟨"MissionDesk$Line", "<init>", "(I)V"⟩, prog_6_method_1_code, 3, none)
abbrev Y_Line_at : j_Y := (⟨"MissionDesk$Line", "at", "(I)LMissionDesk$Release;"⟩, prog_6_method_3_code, 2, some (.object "MissionDesk$Release"))
abbrev Y_Line_first : j_Y := (⟨"MissionDesk$Line", "first", "()LMissionDesk$Release;"⟩, prog_6_method_2_code, 1, some (.object "MissionDesk$Release"))
abbrev Y_Line_grow : j_Y := (⟨"MissionDesk$Line", "grow", "()LMissionDesk$Release;"⟩, prog_6_method_4_code, 1, some (.object "MissionDesk$Release"))
abbrev Y_Line_removeFirst : j_Y := (⟨"MissionDesk$Line", "removeFirst", "()V"⟩, prog_6_method_5_code, 1, none)
abbrev Y_Line_removeNotBegun : j_Y := (⟨"MissionDesk$Line", "removeNotBegun", "()I"⟩, prog_6_method_6_code, 2, some .int)
abbrev Y_MissionArea_init : j_Y := (⟨"MissionDesk$MissionArea", "<init>", "()V"⟩, prog_7_method_1_code, 1, none)
abbrev Y_MissionArea_clear : j_Y := (⟨"MissionDesk$MissionArea", "clear", "()V"⟩, prog_7_method_3_code, 1, none)
abbrev Y_MissionArea_make : j_Y := (⟨"MissionDesk$MissionArea", "make", "(I)Z"⟩, prog_7_method_4_code, 2, some .boolean)
abbrev Y_MissionArea_open : j_Y := (⟨"MissionDesk$MissionArea", "open", "(I)V"⟩, prog_7_method_2_code, 2, none)
abbrev Y_Release_init : j_Y := (⟨"MissionDesk$Release", "<init>", "(I)V"⟩, prog_8_method_1_code, 2, none)
abbrev Y_Release_come : j_Y := (⟨"MissionDesk$Release", "come", "(II)V"⟩, prog_8_method_2_code, 3, none)
abbrev Y_Release_start : j_Y := (⟨"MissionDesk$Release", "start", "(I)V"⟩, prog_8_method_3_code, 2, none)
abbrev Y_Scopes_init : j_Y := (⟨"MissionDesk$Scopes", "<init>", "()V"⟩, prog_9_method_1_code, 1, none)
abbrev Y_Scopes_makeHere : j_Y := (⟨"MissionDesk$Scopes", "makeHere", "(I)Z"⟩, prog_9_method_4_code, 2, some .boolean)
abbrev Y_Scopes_note : j_Y := (⟨"MissionDesk$Scopes", "note", "(II)V"⟩, prog_9_method_6_code, 3, none)
abbrev Y_Scopes_noteKept : j_Y := (⟨"MissionDesk$Scopes", "noteKept", "(I)V"⟩, prog_9_method_5_code, 2, none)
abbrev Y_Scopes_open : j_Y := (⟨"MissionDesk$Scopes", "open", "(I)V"⟩, prog_9_method_2_code, 2, none)
abbrev Y_Scopes_roomLeft : j_Y := (⟨"MissionDesk$Scopes", "roomLeft", "()I"⟩, prog_9_method_3_code, 1, some .int)
abbrev Y_Turns_init : j_Y := (⟨"MissionDesk$Turns", "<init>", "()V"⟩, prog_10_method_1_code, 2, none)
abbrev Y_Turns_anyFrame : j_Y := (⟨"MissionDesk$Turns", "anyFrame", "()Z"⟩, prog_10_method_2_code, 2, some .boolean)
abbrev Y_Turns_clear : j_Y := (⟨"MissionDesk$Turns", "clear", "()V"⟩, prog_10_method_4_code, 1, none)
abbrev Y_Turns_start : j_Y := (⟨"MissionDesk$Turns", "start", "(I)V"⟩, prog_10_method_3_code, 2, none)
abbrev Y_Turns_thereBehind : j_Y := (⟨"MissionDesk$Turns", "thereBehind", "(I)I"⟩, prog_10_method_6_code, 4, some .int)
abbrev Y_Model_init : j_Y := (⟨"MissionDeskModel", "<init>", "()V"⟩, prog_12_method_1_code, 2, none)
abbrev Y_Model_all : j_Y := (⟨"MissionDeskModel", "all", "()I"⟩, prog_12_method_15_code, 3, some .int)
abbrev Y_Model_begin : j_Y := (⟨"MissionDeskModel", "begin", "(II)I"⟩, prog_12_method_14_code, 3, some .int)
abbrev Y_Model_call : j_Y := (⟨"MissionDeskModel", "call", "(I)I"⟩, prog_12_method_39_code, 3, some .int)
abbrev Y_Model_ceiling : j_Y := (⟨"MissionDeskModel", "ceiling", "(II)Z"⟩, prog_12_method_10_code, 3, some .boolean)
abbrev Y_Model_chosen : j_Y := (⟨"MissionDeskModel", "chosen", "()I"⟩, prog_12_method_19_code, 5, some .int)
abbrev Y_Model_desk : j_Y := (⟨"MissionDeskModel", "desk", "(I)I"⟩, prog_12_method_44_code, 3, some .int)
abbrev Y_Model_event : j_Y := (⟨"MissionDeskModel", "event", "(I)I"⟩, prog_12_method_45_code, 2, some .int)
abbrev Y_Model_frame : j_Y := (⟨"MissionDeskModel", "frame", "(II)Z"⟩, prog_12_method_11_code, 3, some .boolean)
abbrev Y_Model_frameBehind : j_Y := (⟨"MissionDeskModel", "frameBehind", "(I)I"⟩, prog_12_method_13_code, 3, some .int)
abbrev Y_Model_handler : j_Y := (⟨"MissionDeskModel", "handler", "(IIIII)Z"⟩, prog_12_method_6_code, 6, some .boolean)
abbrev Y_Model_in : j_Y := (⟨"MissionDeskModel", "in", "(III)Z"⟩, prog_12_method_2_code, 3, some .boolean)
abbrev Y_Model_isStep : j_Y := (⟨"MissionDeskModel", "isStep", "(II)Z"⟩, prog_12_method_8_code, 2, some .boolean)
abbrev Y_Model_isThere : j_Y := (⟨"MissionDeskModel", "isThere", "(I)Z"⟩, prog_12_method_3_code, 2, some .boolean)
abbrev Y_Model_limit : j_Y := (⟨"MissionDeskModel", "limit", "(IIII)Z"⟩, prog_12_method_7_code, 5, some .boolean)
abbrev Y_Model_memory : j_Y := (⟨"MissionDeskModel", "memory", "(II)I"⟩, prog_12_method_43_code, 3, some .int)
abbrev Y_Model_of : j_Y := (⟨"MissionDeskModel", "of", "(II)I"⟩, prog_12_method_41_code, 3, some .int)
abbrev Y_Model_place : j_Y := (⟨"MissionDeskModel", "place", "(II)I"⟩, prog_12_method_12_code, 3, some .int)
abbrev Y_Model_run : j_Y := (⟨"MissionDeskModel", "run", "(I)I"⟩, prog_12_method_38_code, 3, some .int)
abbrev Y_Model_step : j_Y := (⟨"MissionDeskModel", "step", "(III)I"⟩, prog_12_method_9_code, 5, some .int)
abbrev Y_Model_stop : j_Y := (⟨"MissionDeskModel", "stop", "()Z"⟩, prog_12_method_40_code, 1, some .boolean)
theorem d_Desk_init_0 : decode prog_1_method_1_code 0 = .ok (.aload_n 0, 1) := by decide +kernel
theorem d_Desk_init_1 : decode prog_1_method_1_code 1 = .ok (.invokespecial 1, 3) := by decide +kernel
theorem d_Desk_init_4 : decode prog_1_method_1_code 4 = .ok (.aload_n 0, 1) := by decide +kernel
theorem d_Desk_init_5 : decode prog_1_method_1_code 5 = .ok (.bipush 8, 2) := by decide +kernel
theorem d_Desk_init_7 : decode prog_1_method_1_code 7 = .ok (.anewarray 9, 3) := by decide +kernel
theorem d_Desk_init_10 : decode prog_1_method_1_code 10 = .ok (.putfield 11, 3) := by decide +kernel
theorem d_Desk_init_13 : decode prog_1_method_1_code 13 = .ok (.iconst 0, 1) := by decide +kernel
theorem d_Desk_init_14 : decode prog_1_method_1_code 14 = .ok (.istore_n 1, 1) := by decide +kernel
theorem d_Desk_init_15 : decode prog_1_method_1_code 15 = .ok (.iload_n 1, 1) := by decide +kernel
theorem d_Desk_init_16 : decode prog_1_method_1_code 16 = .ok (.bipush 8, 2) := by decide +kernel
theorem d_Desk_init_18 : decode prog_1_method_1_code 18 = .ok (.if_icmp .ge 23, 3) := by decide +kernel
theorem d_Desk_init_21 : decode prog_1_method_1_code 21 = .ok (.aload_n 0, 1) := by decide +kernel
theorem d_Desk_init_22 : decode prog_1_method_1_code 22 = .ok (.getfield 11, 3) := by decide +kernel
theorem d_Desk_init_25 : decode prog_1_method_1_code 25 = .ok (.iload_n 1, 1) := by decide +kernel
theorem d_Desk_init_26 : decode prog_1_method_1_code 26 = .ok (.new 9, 3) := by decide +kernel
theorem d_Desk_init_29 : decode prog_1_method_1_code 29 = .ok (.dup, 1) := by decide +kernel
theorem d_Desk_init_30 : decode prog_1_method_1_code 30 = .ok (.iload_n 1, 1) := by decide +kernel
theorem d_Desk_init_31 : decode prog_1_method_1_code 31 = .ok (.invokespecial 15, 3) := by decide +kernel
theorem d_Desk_init_34 : decode prog_1_method_1_code 34 = .ok (.aastore, 1) := by decide +kernel
theorem d_Desk_init_35 : decode prog_1_method_1_code 35 = .ok (.iinc 1 1, 3) := by decide +kernel
theorem d_Desk_init_38 : decode prog_1_method_1_code 38 = .ok (.goto (-23), 3) := by decide +kernel
theorem d_Desk_init_41 : decode prog_1_method_1_code 41 = .ok (.aload_n 0, 1) := by decide +kernel
theorem d_Desk_init_42 : decode prog_1_method_1_code 42 = .ok (.iconst 4, 1) := by decide +kernel
theorem d_Desk_init_43 : decode prog_1_method_1_code 43 = .ok (.newarray .int, 2) := by decide +kernel
theorem d_Desk_init_45 : decode prog_1_method_1_code 45 = .ok (.putfield 18, 3) := by decide +kernel
theorem d_Desk_init_48 : decode prog_1_method_1_code 48 = .ok (.iconst 0, 1) := by decide +kernel
theorem d_Desk_init_49 : decode prog_1_method_1_code 49 = .ok (.istore_n 1, 1) := by decide +kernel
theorem d_Desk_init_50 : decode prog_1_method_1_code 50 = .ok (.iload_n 1, 1) := by decide +kernel
theorem d_Desk_init_51 : decode prog_1_method_1_code 51 = .ok (.iconst 4, 1) := by decide +kernel
theorem d_Desk_init_52 : decode prog_1_method_1_code 52 = .ok (.if_icmp .ge 17, 3) := by decide +kernel
theorem d_Desk_init_55 : decode prog_1_method_1_code 55 = .ok (.aload_n 0, 1) := by decide +kernel
theorem d_Desk_init_56 : decode prog_1_method_1_code 56 = .ok (.getfield 18, 3) := by decide +kernel
theorem d_Desk_init_59 : decode prog_1_method_1_code 59 = .ok (.iload_n 1, 1) := by decide +kernel
theorem d_Desk_init_60 : decode prog_1_method_1_code 60 = .ok (.bipush 9, 2) := by decide +kernel
theorem d_Desk_init_62 : decode prog_1_method_1_code 62 = .ok (.iastore, 1) := by decide +kernel
theorem d_Desk_init_63 : decode prog_1_method_1_code 63 = .ok (.iinc 1 1, 3) := by decide +kernel
theorem d_Desk_init_66 : decode prog_1_method_1_code 66 = .ok (.goto (-16), 3) := by decide +kernel
theorem d_Desk_init_69 : decode prog_1_method_1_code 69 = .ok (.aload_n 0, 1) := by decide +kernel
theorem d_Desk_init_70 : decode prog_1_method_1_code 70 = .ok (.new 22, 3) := by decide +kernel
theorem d_Desk_init_73 : decode prog_1_method_1_code 73 = .ok (.dup, 1) := by decide +kernel
theorem d_Desk_init_74 : decode prog_1_method_1_code 74 = .ok (.invokespecial 24, 3) := by decide +kernel
theorem d_Desk_init_77 : decode prog_1_method_1_code 77 = .ok (.putfield 25, 3) := by decide +kernel
theorem d_Desk_init_80 : decode prog_1_method_1_code 80 = .ok (.aload_n 0, 1) := by decide +kernel
theorem d_Desk_init_81 : decode prog_1_method_1_code 81 = .ok (.new 29, 3) := by decide +kernel
theorem d_Desk_init_84 : decode prog_1_method_1_code 84 = .ok (.dup, 1) := by decide +kernel
theorem d_Desk_init_85 : decode prog_1_method_1_code 85 = .ok (.invokespecial 31, 3) := by decide +kernel
theorem d_Desk_init_88 : decode prog_1_method_1_code 88 = .ok (.putfield 32, 3) := by decide +kernel
theorem d_Desk_init_91 : decode prog_1_method_1_code 91 = .ok (.aload_n 0, 1) := by decide +kernel
theorem d_Desk_init_92 : decode prog_1_method_1_code 92 = .ok (.new 36, 3) := by decide +kernel
theorem d_Desk_init_95 : decode prog_1_method_1_code 95 = .ok (.dup, 1) := by decide +kernel
theorem d_Desk_init_96 : decode prog_1_method_1_code 96 = .ok (.invokespecial 38, 3) := by decide +kernel
theorem d_Desk_init_99 : decode prog_1_method_1_code 99 = .ok (.putfield 39, 3) := by decide +kernel
theorem d_Desk_init_102 : decode prog_1_method_1_code 102 = .ok (.aload_n 0, 1) := by decide +kernel
theorem d_Desk_init_103 : decode prog_1_method_1_code 103 = .ok (.iconst 0, 1) := by decide +kernel
theorem d_Desk_init_104 : decode prog_1_method_1_code 104 = .ok (.putfield 43, 3) := by decide +kernel
theorem d_Desk_init_107 : decode prog_1_method_1_code 107 = .ok (.return_, 1) := by decide +kernel
theorem d_Desk_begin_0 : decode prog_1_method_8_code 0 = .ok (.iload_n 1, 1) := by decide +kernel
theorem d_Desk_begin_1 : decode prog_1_method_8_code 1 = .ok (.iconst 0, 1) := by decide +kernel
theorem d_Desk_begin_2 : decode prog_1_method_8_code 2 = .ok (.iconst 1, 1) := by decide +kernel
theorem d_Desk_begin_3 : decode prog_1_method_8_code 3 = .ok (.invokestatic 51, 3) := by decide +kernel
theorem d_Desk_begin_6 : decode prog_1_method_8_code 6 = .ok (.ifCond .eq 13, 3) := by decide +kernel
theorem d_Desk_begin_9 : decode prog_1_method_8_code 9 = .ok (.iload_n 2, 1) := by decide +kernel
theorem d_Desk_begin_10 : decode prog_1_method_8_code 10 = .ok (.iconst 0, 1) := by decide +kernel
theorem d_Desk_begin_11 : decode prog_1_method_8_code 11 = .ok (.bipush 100, 2) := by decide +kernel
theorem d_Desk_begin_13 : decode prog_1_method_8_code 13 = .ok (.invokestatic 51, 3) := by decide +kernel
theorem d_Desk_begin_16 : decode prog_1_method_8_code 16 = .ok (.ifCond .ne 5, 3) := by decide +kernel
theorem d_Desk_begin_19 : decode prog_1_method_8_code 19 = .ok (.iconst (-1), 1) := by decide +kernel
theorem d_Desk_begin_20 : decode prog_1_method_8_code 20 = .ok (.ireturn, 1) := by decide +kernel
theorem d_Desk_begin_21 : decode prog_1_method_8_code 21 = .ok (.aload_n 0, 1) := by decide +kernel
theorem d_Desk_begin_22 : decode prog_1_method_8_code 22 = .ok (.getfield 43, 3) := by decide +kernel
theorem d_Desk_begin_25 : decode prog_1_method_8_code 25 = .ok (.ifCond .ne 17, 3) := by decide +kernel
theorem d_Desk_begin_28 : decode prog_1_method_8_code 28 = .ok (.iload_n 1, 1) := by decide +kernel
theorem d_Desk_begin_29 : decode prog_1_method_8_code 29 = .ok (.ifCond .ne 16, 3) := by decide +kernel
theorem d_Desk_begin_32 : decode prog_1_method_8_code 32 = .ok (.aload_n 0, 1) := by decide +kernel
theorem d_Desk_begin_33 : decode prog_1_method_8_code 33 = .ok (.getfield 25, 3) := by decide +kernel
theorem d_Desk_begin_36 : decode prog_1_method_8_code 36 = .ok (.invokevirtual 97, 3) := by decide +kernel
theorem d_Desk_begin_39 : decode prog_1_method_8_code 39 = .ok (.ifCond .ne 6, 3) := by decide +kernel
theorem d_Desk_begin_42 : decode prog_1_method_8_code 42 = .ok (.bipush (-2), 2) := by decide +kernel
theorem d_Desk_begin_44 : decode prog_1_method_8_code 44 = .ok (.ireturn, 1) := by decide +kernel
theorem d_Desk_begin_45 : decode prog_1_method_8_code 45 = .ok (.aload_n 0, 1) := by decide +kernel
theorem d_Desk_begin_46 : decode prog_1_method_8_code 46 = .ok (.iload_n 1, 1) := by decide +kernel
theorem d_Desk_begin_47 : decode prog_1_method_8_code 47 = .ok (.putfield 100, 3) := by decide +kernel
theorem d_Desk_begin_50 : decode prog_1_method_8_code 50 = .ok (.aload_n 0, 1) := by decide +kernel
theorem d_Desk_begin_51 : decode prog_1_method_8_code 51 = .ok (.iconst 1, 1) := by decide +kernel
theorem d_Desk_begin_52 : decode prog_1_method_8_code 52 = .ok (.putfield 43, 3) := by decide +kernel
theorem d_Desk_begin_55 : decode prog_1_method_8_code 55 = .ok (.aload_n 0, 1) := by decide +kernel
theorem d_Desk_begin_56 : decode prog_1_method_8_code 56 = .ok (.getfield 32, 3) := by decide +kernel
theorem d_Desk_begin_59 : decode prog_1_method_8_code 59 = .ok (.iload_n 2, 1) := by decide +kernel
theorem d_Desk_begin_60 : decode prog_1_method_8_code 60 = .ok (.invokevirtual 103, 3) := by decide +kernel
theorem d_Desk_begin_63 : decode prog_1_method_8_code 63 = .ok (.aload_n 0, 1) := by decide +kernel
theorem d_Desk_begin_64 : decode prog_1_method_8_code 64 = .ok (.getfield 25, 3) := by decide +kernel
theorem d_Desk_begin_67 : decode prog_1_method_8_code 67 = .ok (.aload_n 0, 1) := by decide +kernel
theorem d_Desk_begin_68 : decode prog_1_method_8_code 68 = .ok (.getfield 106, 3) := by decide +kernel
theorem d_Desk_begin_71 : decode prog_1_method_8_code 71 = .ok (.invokevirtual 109, 3) := by decide +kernel
theorem d_Desk_begin_74 : decode prog_1_method_8_code 74 = .ok (.iconst 0, 1) := by decide +kernel
theorem d_Desk_begin_75 : decode prog_1_method_8_code 75 = .ok (.istore_n 3, 1) := by decide +kernel
theorem d_Desk_begin_76 : decode prog_1_method_8_code 76 = .ok (.iload_n 3, 1) := by decide +kernel
theorem d_Desk_begin_77 : decode prog_1_method_8_code 77 = .ok (.bipush 8, 2) := by decide +kernel
theorem d_Desk_begin_79 : decode prog_1_method_8_code 79 = .ok (.if_icmp .ge 32, 3) := by decide +kernel
theorem d_Desk_begin_82 : decode prog_1_method_8_code 82 = .ok (.aload_n 0, 1) := by decide +kernel
theorem d_Desk_begin_83 : decode prog_1_method_8_code 83 = .ok (.getfield 11, 3) := by decide +kernel
theorem d_Desk_begin_86 : decode prog_1_method_8_code 86 = .ok (.iload_n 3, 1) := by decide +kernel
theorem d_Desk_begin_87 : decode prog_1_method_8_code 87 = .ok (.aaload, 1) := by decide +kernel
theorem d_Desk_begin_88 : decode prog_1_method_8_code 88 = .ok (.aload_n 0, 1) := by decide +kernel
theorem d_Desk_begin_89 : decode prog_1_method_8_code 89 = .ok (.getfield 106, 3) := by decide +kernel
theorem d_Desk_begin_92 : decode prog_1_method_8_code 92 = .ok (.aload_n 0, 1) := by decide +kernel
theorem d_Desk_begin_93 : decode prog_1_method_8_code 93 = .ok (.getfield 11, 3) := by decide +kernel
theorem d_Desk_begin_96 : decode prog_1_method_8_code 96 = .ok (.iload_n 3, 1) := by decide +kernel
theorem d_Desk_begin_97 : decode prog_1_method_8_code 97 = .ok (.aaload, 1) := by decide +kernel
theorem d_Desk_begin_98 : decode prog_1_method_8_code 98 = .ok (.getfield 112, 3) := by decide +kernel
theorem d_Desk_begin_101 : decode prog_1_method_8_code 101 = .ok (.iadd, 1) := by decide +kernel
theorem d_Desk_begin_102 : decode prog_1_method_8_code 102 = .ok (.putfield 115, 3) := by decide +kernel
theorem d_Desk_begin_105 : decode prog_1_method_8_code 105 = .ok (.iinc 3 1, 3) := by decide +kernel
theorem d_Desk_begin_108 : decode prog_1_method_8_code 108 = .ok (.goto (-32), 3) := by decide +kernel
theorem d_Desk_begin_111 : decode prog_1_method_8_code 111 = .ok (.aload_n 0, 1) := by decide +kernel
theorem d_Desk_begin_112 : decode prog_1_method_8_code 112 = .ok (.dup, 1) := by decide +kernel
theorem d_Desk_begin_113 : decode prog_1_method_8_code 113 = .ok (.getfield 118, 3) := by decide +kernel
theorem d_Desk_begin_116 : decode prog_1_method_8_code 116 = .ok (.iconst 1, 1) := by decide +kernel
theorem d_Desk_begin_117 : decode prog_1_method_8_code 117 = .ok (.iadd, 1) := by decide +kernel
theorem d_Desk_begin_118 : decode prog_1_method_8_code 118 = .ok (.putfield 118, 3) := by decide +kernel
theorem d_Desk_begin_121 : decode prog_1_method_8_code 121 = .ok (.aload_n 0, 1) := by decide +kernel
theorem d_Desk_begin_122 : decode prog_1_method_8_code 122 = .ok (.getfield 118, 3) := by decide +kernel
theorem d_Desk_begin_125 : decode prog_1_method_8_code 125 = .ok (.ireturn, 1) := by decide +kernel
theorem d_Desk_call_0 : decode prog_1_method_10_code 0 = .ok (.aload_n 0, 1) := by decide +kernel
theorem d_Desk_call_1 : decode prog_1_method_10_code 1 = .ok (.iload_n 1, 1) := by decide +kernel
theorem d_Desk_call_2 : decode prog_1_method_10_code 2 = .ok (.invokevirtual 59, 3) := by decide +kernel
theorem d_Desk_call_5 : decode prog_1_method_10_code 5 = .ok (.ifCond .eq 16, 3) := by decide +kernel
theorem d_Desk_call_21 : decode prog_1_method_10_code 21 = .ok (.iconst (-1), 1) := by decide +kernel
theorem d_Desk_call_22 : decode prog_1_method_10_code 22 = .ok (.ireturn, 1) := by decide +kernel
theorem d_Desk_ceiling_0 : decode prog_1_method_5_code 0 = .ok (.iload_n 1, 1) := by decide +kernel
theorem d_Desk_ceiling_1 : decode prog_1_method_5_code 1 = .ok (.iconst 0, 1) := by decide +kernel
theorem d_Desk_ceiling_2 : decode prog_1_method_5_code 2 = .ok (.iconst 3, 1) := by decide +kernel
theorem d_Desk_ceiling_3 : decode prog_1_method_5_code 3 = .ok (.invokestatic 51, 3) := by decide +kernel
theorem d_Desk_ceiling_6 : decode prog_1_method_5_code 6 = .ok (.ifCond .eq 20, 3) := by decide +kernel
theorem d_Desk_ceiling_9 : decode prog_1_method_5_code 9 = .ok (.iload_n 2, 1) := by decide +kernel
theorem d_Desk_ceiling_10 : decode prog_1_method_5_code 10 = .ok (.iconst 1, 1) := by decide +kernel
theorem d_Desk_ceiling_11 : decode prog_1_method_5_code 11 = .ok (.bipush 9, 2) := by decide +kernel
theorem d_Desk_ceiling_13 : decode prog_1_method_5_code 13 = .ok (.invokestatic 51, 3) := by decide +kernel
theorem d_Desk_ceiling_16 : decode prog_1_method_5_code 16 = .ok (.ifCond .eq 10, 3) := by decide +kernel
theorem d_Desk_ceiling_19 : decode prog_1_method_5_code 19 = .ok (.aload_n 0, 1) := by decide +kernel
theorem d_Desk_ceiling_20 : decode prog_1_method_5_code 20 = .ok (.getfield 43, 3) := by decide +kernel
theorem d_Desk_ceiling_23 : decode prog_1_method_5_code 23 = .ok (.ifCond .eq 5, 3) := by decide +kernel
theorem d_Desk_ceiling_26 : decode prog_1_method_5_code 26 = .ok (.iconst 0, 1) := by decide +kernel
theorem d_Desk_ceiling_27 : decode prog_1_method_5_code 27 = .ok (.ireturn, 1) := by decide +kernel
theorem d_Desk_ceiling_28 : decode prog_1_method_5_code 28 = .ok (.aload_n 0, 1) := by decide +kernel
theorem d_Desk_ceiling_29 : decode prog_1_method_5_code 29 = .ok (.getfield 18, 3) := by decide +kernel
theorem d_Desk_ceiling_32 : decode prog_1_method_5_code 32 = .ok (.iload_n 1, 1) := by decide +kernel
theorem d_Desk_ceiling_33 : decode prog_1_method_5_code 33 = .ok (.iload_n 2, 1) := by decide +kernel
theorem d_Desk_ceiling_34 : decode prog_1_method_5_code 34 = .ok (.iastore, 1) := by decide +kernel
theorem d_Desk_ceiling_35 : decode prog_1_method_5_code 35 = .ok (.iconst 1, 1) := by decide +kernel
theorem d_Desk_ceiling_36 : decode prog_1_method_5_code 36 = .ok (.ireturn, 1) := by decide +kernel
theorem d_Desk_chosenHandler_0 : decode prog_1_method_31_code 0 = .ok (.bipush (-2), 2) := by decide +kernel
theorem d_Desk_chosenHandler_2 : decode prog_1_method_31_code 2 = .ok (.istore_n 1, 1) := by decide +kernel
theorem d_Desk_chosenHandler_3 : decode prog_1_method_31_code 3 = .ok (.iconst 0, 1) := by decide +kernel
theorem d_Desk_chosenHandler_4 : decode prog_1_method_31_code 4 = .ok (.istore_n 2, 1) := by decide +kernel
theorem d_Desk_chosenHandler_5 : decode prog_1_method_31_code 5 = .ok (.iload_n 2, 1) := by decide +kernel
theorem d_Desk_chosenHandler_6 : decode prog_1_method_31_code 6 = .ok (.bipush 8, 2) := by decide +kernel
theorem d_Desk_chosenHandler_8 : decode prog_1_method_31_code 8 = .ok (.if_icmp .ge 51, 3) := by decide +kernel
theorem d_Desk_chosenHandler_11 : decode prog_1_method_31_code 11 = .ok (.aload_n 0, 1) := by decide +kernel
theorem d_Desk_chosenHandler_12 : decode prog_1_method_31_code 12 = .ok (.getfield 11, 3) := by decide +kernel
theorem d_Desk_chosenHandler_15 : decode prog_1_method_31_code 15 = .ok (.iload_n 2, 1) := by decide +kernel
theorem d_Desk_chosenHandler_16 : decode prog_1_method_31_code 16 = .ok (.aaload, 1) := by decide +kernel
theorem d_Desk_chosenHandler_17 : decode prog_1_method_31_code 17 = .ok (.getfield 130, 3) := by decide +kernel
theorem d_Desk_chosenHandler_20 : decode prog_1_method_31_code 20 = .ok (.getfield 134, 3) := by decide +kernel
theorem d_Desk_chosenHandler_23 : decode prog_1_method_31_code 23 = .ok (.ifCond .le 30, 3) := by decide +kernel
theorem d_Desk_chosenHandler_53 : decode prog_1_method_31_code 53 = .ok (.iinc 2 1, 3) := by decide +kernel
theorem d_Desk_chosenHandler_56 : decode prog_1_method_31_code 56 = .ok (.goto (-51), 3) := by decide +kernel
theorem d_Desk_chosenHandler_59 : decode prog_1_method_31_code 59 = .ok (.iload_n 1, 1) := by decide +kernel
theorem d_Desk_chosenHandler_60 : decode prog_1_method_31_code 60 = .ok (.ireturn, 1) := by decide +kernel
theorem d_Desk_desk_0 : decode prog_1_method_14_code 0 = .ok (.iload_n 1, 1) := by decide +kernel
theorem d_Desk_desk_1 : decode prog_1_method_14_code 1 = .ok (.tableswitch 153 0 13 #[71, 76, 81, 86, 91, 96, 104, 112, 117, 122, 130, 138, 143, 148], 71) := by decide +kernel
theorem d_Desk_desk_72 : decode prog_1_method_14_code 72 = .ok (.aload_n 0, 1) := by decide +kernel
theorem d_Desk_desk_73 : decode prog_1_method_14_code 73 = .ok (.getfield 43, 3) := by decide +kernel
theorem d_Desk_desk_76 : decode prog_1_method_14_code 76 = .ok (.ireturn, 1) := by decide +kernel
theorem d_Desk_desk_77 : decode prog_1_method_14_code 77 = .ok (.aload_n 0, 1) := by decide +kernel
theorem d_Desk_desk_78 : decode prog_1_method_14_code 78 = .ok (.getfield 106, 3) := by decide +kernel
theorem d_Desk_desk_81 : decode prog_1_method_14_code 81 = .ok (.ireturn, 1) := by decide +kernel
theorem d_Desk_desk_82 : decode prog_1_method_14_code 82 = .ok (.aload_n 0, 1) := by decide +kernel
theorem d_Desk_desk_83 : decode prog_1_method_14_code 83 = .ok (.getfield 118, 3) := by decide +kernel
theorem d_Desk_desk_86 : decode prog_1_method_14_code 86 = .ok (.ireturn, 1) := by decide +kernel
theorem d_Desk_desk_87 : decode prog_1_method_14_code 87 = .ok (.aload_n 0, 1) := by decide +kernel
theorem d_Desk_desk_88 : decode prog_1_method_14_code 88 = .ok (.getfield 196, 3) := by decide +kernel
theorem d_Desk_desk_91 : decode prog_1_method_14_code 91 = .ok (.ireturn, 1) := by decide +kernel
theorem d_Desk_desk_92 : decode prog_1_method_14_code 92 = .ok (.aload_n 0, 1) := by decide +kernel
theorem d_Desk_desk_93 : decode prog_1_method_14_code 93 = .ok (.invokevirtual 199, 3) := by decide +kernel
theorem d_Desk_desk_96 : decode prog_1_method_14_code 96 = .ok (.ireturn, 1) := by decide +kernel
theorem d_Desk_desk_97 : decode prog_1_method_14_code 97 = .ok (.aload_n 0, 1) := by decide +kernel
theorem d_Desk_desk_98 : decode prog_1_method_14_code 98 = .ok (.getfield 32, 3) := by decide +kernel
theorem d_Desk_desk_101 : decode prog_1_method_14_code 101 = .ok (.getfield 202, 3) := by decide +kernel
theorem d_Desk_desk_104 : decode prog_1_method_14_code 104 = .ok (.ireturn, 1) := by decide +kernel
theorem d_Desk_desk_105 : decode prog_1_method_14_code 105 = .ok (.aload_n 0, 1) := by decide +kernel
theorem d_Desk_desk_106 : decode prog_1_method_14_code 106 = .ok (.getfield 32, 3) := by decide +kernel
theorem d_Desk_desk_109 : decode prog_1_method_14_code 109 = .ok (.getfield 205, 3) := by decide +kernel
theorem d_Desk_desk_112 : decode prog_1_method_14_code 112 = .ok (.ireturn, 1) := by decide +kernel
theorem d_Desk_desk_113 : decode prog_1_method_14_code 113 = .ok (.aload_n 0, 1) := by decide +kernel
theorem d_Desk_desk_114 : decode prog_1_method_14_code 114 = .ok (.getfield 208, 3) := by decide +kernel
theorem d_Desk_desk_117 : decode prog_1_method_14_code 117 = .ok (.ireturn, 1) := by decide +kernel
theorem d_Desk_desk_118 : decode prog_1_method_14_code 118 = .ok (.aload_n 0, 1) := by decide +kernel
theorem d_Desk_desk_119 : decode prog_1_method_14_code 119 = .ok (.getfield 211, 3) := by decide +kernel
theorem d_Desk_desk_122 : decode prog_1_method_14_code 122 = .ok (.ireturn, 1) := by decide +kernel
theorem d_Desk_desk_123 : decode prog_1_method_14_code 123 = .ok (.aload_n 0, 1) := by decide +kernel
theorem d_Desk_desk_124 : decode prog_1_method_14_code 124 = .ok (.getfield 25, 3) := by decide +kernel
theorem d_Desk_desk_127 : decode prog_1_method_14_code 127 = .ok (.getfield 214, 3) := by decide +kernel
theorem d_Desk_desk_130 : decode prog_1_method_14_code 130 = .ok (.ireturn, 1) := by decide +kernel
theorem d_Desk_desk_131 : decode prog_1_method_14_code 131 = .ok (.aload_n 0, 1) := by decide +kernel
theorem d_Desk_desk_132 : decode prog_1_method_14_code 132 = .ok (.getfield 25, 3) := by decide +kernel
theorem d_Desk_desk_135 : decode prog_1_method_14_code 135 = .ok (.getfield 216, 3) := by decide +kernel
theorem d_Desk_desk_138 : decode prog_1_method_14_code 138 = .ok (.ireturn, 1) := by decide +kernel
theorem d_Desk_desk_139 : decode prog_1_method_14_code 139 = .ok (.aload_n 0, 1) := by decide +kernel
theorem d_Desk_desk_140 : decode prog_1_method_14_code 140 = .ok (.getfield 218, 3) := by decide +kernel
theorem d_Desk_desk_143 : decode prog_1_method_14_code 143 = .ok (.ireturn, 1) := by decide +kernel
theorem d_Desk_desk_144 : decode prog_1_method_14_code 144 = .ok (.aload_n 0, 1) := by decide +kernel
theorem d_Desk_desk_145 : decode prog_1_method_14_code 145 = .ok (.getfield 221, 3) := by decide +kernel
theorem d_Desk_desk_148 : decode prog_1_method_14_code 148 = .ok (.ireturn, 1) := by decide +kernel
theorem d_Desk_desk_149 : decode prog_1_method_14_code 149 = .ok (.aload_n 0, 1) := by decide +kernel
theorem d_Desk_desk_150 : decode prog_1_method_14_code 150 = .ok (.getfield 224, 3) := by decide +kernel
theorem d_Desk_desk_153 : decode prog_1_method_14_code 153 = .ok (.ireturn, 1) := by decide +kernel
theorem d_Desk_desk_154 : decode prog_1_method_14_code 154 = .ok (.iconst (-1), 1) := by decide +kernel
theorem d_Desk_desk_155 : decode prog_1_method_14_code 155 = .ok (.ireturn, 1) := by decide +kernel
theorem d_Desk_event_0 : decode prog_1_method_15_code 0 = .ok (.aload_n 0, 1) := by decide +kernel
theorem d_Desk_event_1 : decode prog_1_method_15_code 1 = .ok (.getfield 39, 3) := by decide +kernel
theorem d_Desk_event_4 : decode prog_1_method_15_code 4 = .ok (.iload_n 1, 1) := by decide +kernel
theorem d_Desk_event_5 : decode prog_1_method_15_code 5 = .ok (.invokevirtual 227, 3) := by decide +kernel
theorem d_Desk_event_8 : decode prog_1_method_15_code 8 = .ok (.ireturn, 1) := by decide +kernel
theorem d_Desk_frame_0 : decode prog_1_method_6_code 0 = .ok (.iload_n 1, 1) := by decide +kernel
theorem d_Desk_frame_1 : decode prog_1_method_6_code 1 = .ok (.invokestatic 79, 3) := by decide +kernel
theorem d_Desk_frame_4 : decode prog_1_method_6_code 4 = .ok (.ifCond .eq 20, 3) := by decide +kernel
theorem d_Desk_frame_7 : decode prog_1_method_6_code 7 = .ok (.iload_n 2, 1) := by decide +kernel
theorem d_Desk_frame_8 : decode prog_1_method_6_code 8 = .ok (.iconst 0, 1) := by decide +kernel
theorem d_Desk_frame_9 : decode prog_1_method_6_code 9 = .ok (.bipush 30, 2) := by decide +kernel
theorem d_Desk_frame_11 : decode prog_1_method_6_code 11 = .ok (.invokestatic 51, 3) := by decide +kernel
theorem d_Desk_frame_14 : decode prog_1_method_6_code 14 = .ok (.ifCond .eq 10, 3) := by decide +kernel
theorem d_Desk_frame_17 : decode prog_1_method_6_code 17 = .ok (.aload_n 0, 1) := by decide +kernel
theorem d_Desk_frame_18 : decode prog_1_method_6_code 18 = .ok (.getfield 43, 3) := by decide +kernel
theorem d_Desk_frame_21 : decode prog_1_method_6_code 21 = .ok (.ifCond .eq 5, 3) := by decide +kernel
theorem d_Desk_frame_24 : decode prog_1_method_6_code 24 = .ok (.iconst 0, 1) := by decide +kernel
theorem d_Desk_frame_25 : decode prog_1_method_6_code 25 = .ok (.ireturn, 1) := by decide +kernel
theorem d_Desk_frame_26 : decode prog_1_method_6_code 26 = .ok (.aload_n 0, 1) := by decide +kernel
theorem d_Desk_frame_27 : decode prog_1_method_6_code 27 = .ok (.getfield 25, 3) := by decide +kernel
theorem d_Desk_frame_30 : decode prog_1_method_6_code 30 = .ok (.getfield 82, 3) := by decide +kernel
theorem d_Desk_frame_33 : decode prog_1_method_6_code 33 = .ok (.iload_n 1, 1) := by decide +kernel
theorem d_Desk_frame_34 : decode prog_1_method_6_code 34 = .ok (.aaload, 1) := by decide +kernel
theorem d_Desk_frame_35 : decode prog_1_method_6_code 35 = .ok (.iload_n 2, 1) := by decide +kernel
theorem d_Desk_frame_36 : decode prog_1_method_6_code 36 = .ok (.invokevirtual 86, 3) := by decide +kernel
theorem d_Desk_frame_39 : decode prog_1_method_6_code 39 = .ok (.iconst 1, 1) := by decide +kernel
theorem d_Desk_frame_40 : decode prog_1_method_6_code 40 = .ok (.ireturn, 1) := by decide +kernel
theorem d_Desk_handler_0 : decode prog_1_method_2_code 0 = .ok (.iload_n 1, 1) := by decide +kernel
theorem d_Desk_handler_1 : decode prog_1_method_2_code 1 = .ok (.invokestatic 47, 3) := by decide +kernel
theorem d_Desk_handler_4 : decode prog_1_method_2_code 4 = .ok (.ifCond .eq 51, 3) := by decide +kernel
theorem d_Desk_handler_7 : decode prog_1_method_2_code 7 = .ok (.iload_n 2, 1) := by decide +kernel
theorem d_Desk_handler_8 : decode prog_1_method_2_code 8 = .ok (.iconst 0, 1) := by decide +kernel
theorem d_Desk_handler_9 : decode prog_1_method_2_code 9 = .ok (.iconst 2, 1) := by decide +kernel
theorem d_Desk_handler_10 : decode prog_1_method_2_code 10 = .ok (.invokestatic 51, 3) := by decide +kernel
theorem d_Desk_handler_13 : decode prog_1_method_2_code 13 = .ok (.ifCond .eq 42, 3) := by decide +kernel
theorem d_Desk_handler_16 : decode prog_1_method_2_code 16 = .ok (.iload_n 3, 1) := by decide +kernel
theorem d_Desk_handler_17 : decode prog_1_method_2_code 17 = .ok (.iconst 1, 1) := by decide +kernel
theorem d_Desk_handler_18 : decode prog_1_method_2_code 18 = .ok (.bipush 9, 2) := by decide +kernel
theorem d_Desk_handler_20 : decode prog_1_method_2_code 20 = .ok (.invokestatic 51, 3) := by decide +kernel
theorem d_Desk_handler_23 : decode prog_1_method_2_code 23 = .ok (.ifCond .eq 32, 3) := by decide +kernel
theorem d_Desk_handler_26 : decode prog_1_method_2_code 26 = .ok (.iload 4, 2) := by decide +kernel
theorem d_Desk_handler_28 : decode prog_1_method_2_code 28 = .ok (.iconst 0, 1) := by decide +kernel
theorem d_Desk_handler_29 : decode prog_1_method_2_code 29 = .ok (.bipush 50, 2) := by decide +kernel
theorem d_Desk_handler_31 : decode prog_1_method_2_code 31 = .ok (.invokestatic 51, 3) := by decide +kernel
theorem d_Desk_handler_34 : decode prog_1_method_2_code 34 = .ok (.ifCond .eq 21, 3) := by decide +kernel
theorem d_Desk_handler_37 : decode prog_1_method_2_code 37 = .ok (.iload 5, 2) := by decide +kernel
theorem d_Desk_handler_39 : decode prog_1_method_2_code 39 = .ok (.iconst 1, 1) := by decide +kernel
theorem d_Desk_handler_40 : decode prog_1_method_2_code 40 = .ok (.bipush 50, 2) := by decide +kernel
theorem d_Desk_handler_42 : decode prog_1_method_2_code 42 = .ok (.invokestatic 51, 3) := by decide +kernel
theorem d_Desk_handler_45 : decode prog_1_method_2_code 45 = .ok (.ifCond .eq 10, 3) := by decide +kernel
theorem d_Desk_handler_48 : decode prog_1_method_2_code 48 = .ok (.aload_n 0, 1) := by decide +kernel
theorem d_Desk_handler_49 : decode prog_1_method_2_code 49 = .ok (.getfield 43, 3) := by decide +kernel
theorem d_Desk_handler_52 : decode prog_1_method_2_code 52 = .ok (.ifCond .eq 5, 3) := by decide +kernel
theorem d_Desk_handler_55 : decode prog_1_method_2_code 55 = .ok (.iconst 0, 1) := by decide +kernel
theorem d_Desk_handler_56 : decode prog_1_method_2_code 56 = .ok (.ireturn, 1) := by decide +kernel
theorem d_Desk_handler_57 : decode prog_1_method_2_code 57 = .ok (.aload_n 0, 1) := by decide +kernel
theorem d_Desk_handler_58 : decode prog_1_method_2_code 58 = .ok (.getfield 11, 3) := by decide +kernel
theorem d_Desk_handler_61 : decode prog_1_method_2_code 61 = .ok (.iload_n 1, 1) := by decide +kernel
theorem d_Desk_handler_62 : decode prog_1_method_2_code 62 = .ok (.aaload, 1) := by decide +kernel
theorem d_Desk_handler_63 : decode prog_1_method_2_code 63 = .ok (.iload_n 2, 1) := by decide +kernel
theorem d_Desk_handler_64 : decode prog_1_method_2_code 64 = .ok (.iload_n 3, 1) := by decide +kernel
theorem d_Desk_handler_65 : decode prog_1_method_2_code 65 = .ok (.iload 4, 2) := by decide +kernel
theorem d_Desk_handler_67 : decode prog_1_method_2_code 67 = .ok (.iload 5, 2) := by decide +kernel
theorem d_Desk_handler_69 : decode prog_1_method_2_code 69 = .ok (.invokevirtual 55, 3) := by decide +kernel
theorem d_Desk_handler_72 : decode prog_1_method_2_code 72 = .ok (.iconst 1, 1) := by decide +kernel
theorem d_Desk_handler_73 : decode prog_1_method_2_code 73 = .ok (.ireturn, 1) := by decide +kernel
theorem d_Desk_isFrame_0 : decode prog_1_method_18_code 0 = .ok (.iload_n 0, 1) := by decide +kernel
theorem d_Desk_isFrame_1 : decode prog_1_method_18_code 1 = .ok (.ifCond .lt 12, 3) := by decide +kernel
theorem d_Desk_isFrame_4 : decode prog_1_method_18_code 4 = .ok (.iload_n 0, 1) := by decide +kernel
theorem d_Desk_isFrame_5 : decode prog_1_method_18_code 5 = .ok (.iconst 4, 1) := by decide +kernel
theorem d_Desk_isFrame_6 : decode prog_1_method_18_code 6 = .ok (.if_icmp .ge 7, 3) := by decide +kernel
theorem d_Desk_isFrame_9 : decode prog_1_method_18_code 9 = .ok (.iconst 1, 1) := by decide +kernel
theorem d_Desk_isFrame_10 : decode prog_1_method_18_code 10 = .ok (.goto 4, 3) := by decide +kernel
theorem d_Desk_isFrame_13 : decode prog_1_method_18_code 13 = .ok (.iconst 0, 1) := by decide +kernel
theorem d_Desk_isFrame_14 : decode prog_1_method_18_code 14 = .ok (.ireturn, 1) := by decide +kernel
theorem d_Desk_isHandler_0 : decode prog_1_method_17_code 0 = .ok (.iload_n 0, 1) := by decide +kernel
theorem d_Desk_isHandler_1 : decode prog_1_method_17_code 1 = .ok (.ifCond .lt 13, 3) := by decide +kernel
theorem d_Desk_isHandler_4 : decode prog_1_method_17_code 4 = .ok (.iload_n 0, 1) := by decide +kernel
theorem d_Desk_isHandler_5 : decode prog_1_method_17_code 5 = .ok (.bipush 8, 2) := by decide +kernel
theorem d_Desk_isHandler_7 : decode prog_1_method_17_code 7 = .ok (.if_icmp .ge 7, 3) := by decide +kernel
theorem d_Desk_isHandler_10 : decode prog_1_method_17_code 10 = .ok (.iconst 1, 1) := by decide +kernel
theorem d_Desk_isHandler_11 : decode prog_1_method_17_code 11 = .ok (.goto 4, 3) := by decide +kernel
theorem d_Desk_isHandler_14 : decode prog_1_method_17_code 14 = .ok (.iconst 0, 1) := by decide +kernel
theorem d_Desk_isHandler_15 : decode prog_1_method_17_code 15 = .ok (.ireturn, 1) := by decide +kernel
theorem d_Desk_isThere_0 : decode prog_1_method_20_code 0 = .ok (.iload_n 1, 1) := by decide +kernel
theorem d_Desk_isThere_1 : decode prog_1_method_20_code 1 = .ok (.invokestatic 47, 3) := by decide +kernel
theorem d_Desk_isThere_4 : decode prog_1_method_20_code 4 = .ok (.ifCond .eq 19, 3) := by decide +kernel
theorem d_Desk_isThere_7 : decode prog_1_method_20_code 7 = .ok (.aload_n 0, 1) := by decide +kernel
theorem d_Desk_isThere_8 : decode prog_1_method_20_code 8 = .ok (.getfield 11, 3) := by decide +kernel
theorem d_Desk_isThere_11 : decode prog_1_method_20_code 11 = .ok (.iload_n 1, 1) := by decide +kernel
theorem d_Desk_isThere_12 : decode prog_1_method_20_code 12 = .ok (.aaload, 1) := by decide +kernel
theorem d_Desk_isThere_13 : decode prog_1_method_20_code 13 = .ok (.getfield 235, 3) := by decide +kernel
theorem d_Desk_isThere_16 : decode prog_1_method_20_code 16 = .ok (.ifCond .eq 7, 3) := by decide +kernel
theorem d_Desk_isThere_23 : decode prog_1_method_20_code 23 = .ok (.iconst 0, 1) := by decide +kernel
theorem d_Desk_isThere_24 : decode prog_1_method_20_code 24 = .ok (.ireturn, 1) := by decide +kernel
theorem d_Desk_limit_0 : decode prog_1_method_3_code 0 = .ok (.aload_n 0, 1) := by decide +kernel
theorem d_Desk_limit_1 : decode prog_1_method_3_code 1 = .ok (.iload_n 1, 1) := by decide +kernel
theorem d_Desk_limit_2 : decode prog_1_method_3_code 2 = .ok (.invokevirtual 59, 3) := by decide +kernel
theorem d_Desk_limit_5 : decode prog_1_method_3_code 5 = .ok (.ifCond .eq 41, 3) := by decide +kernel
theorem d_Desk_limit_46 : decode prog_1_method_3_code 46 = .ok (.iconst 0, 1) := by decide +kernel
theorem d_Desk_limit_47 : decode prog_1_method_3_code 47 = .ok (.ireturn, 1) := by decide +kernel
theorem d_Desk_memory_0 : decode prog_1_method_13_code 0 = .ok (.aload_n 0, 1) := by decide +kernel
theorem d_Desk_memory_1 : decode prog_1_method_13_code 1 = .ok (.iload_n 1, 1) := by decide +kernel
theorem d_Desk_memory_2 : decode prog_1_method_13_code 2 = .ok (.invokevirtual 59, 3) := by decide +kernel
theorem d_Desk_memory_5 : decode prog_1_method_13_code 5 = .ok (.ifCond .eq 12, 3) := by decide +kernel
theorem d_Desk_memory_17 : decode prog_1_method_13_code 17 = .ok (.iconst (-1), 1) := by decide +kernel
theorem d_Desk_memory_18 : decode prog_1_method_13_code 18 = .ok (.ireturn, 1) := by decide +kernel
theorem d_Desk_of_0 : decode prog_1_method_12_code 0 = .ok (.aload_n 0, 1) := by decide +kernel
theorem d_Desk_of_1 : decode prog_1_method_12_code 1 = .ok (.iload_n 1, 1) := by decide +kernel
theorem d_Desk_of_2 : decode prog_1_method_12_code 2 = .ok (.invokevirtual 59, 3) := by decide +kernel
theorem d_Desk_of_5 : decode prog_1_method_12_code 5 = .ok (.ifCond .eq 13, 3) := by decide +kernel
theorem d_Desk_of_18 : decode prog_1_method_12_code 18 = .ok (.iconst (-1), 1) := by decide +kernel
theorem d_Desk_of_19 : decode prog_1_method_12_code 19 = .ok (.ireturn, 1) := by decide +kernel
theorem d_Desk_place_0 : decode prog_1_method_7_code 0 = .ok (.iload_n 1, 1) := by decide +kernel
theorem d_Desk_place_1 : decode prog_1_method_7_code 1 = .ok (.invokestatic 79, 3) := by decide +kernel
theorem d_Desk_place_4 : decode prog_1_method_7_code 4 = .ok (.ifCond .eq 10, 3) := by decide +kernel
theorem d_Desk_place_7 : decode prog_1_method_7_code 7 = .ok (.iload_n 2, 1) := by decide +kernel
theorem d_Desk_place_8 : decode prog_1_method_7_code 8 = .ok (.invokestatic 47, 3) := by decide +kernel
theorem d_Desk_place_11 : decode prog_1_method_7_code 11 = .ok (.ifCond .ne 5, 3) := by decide +kernel
theorem d_Desk_place_14 : decode prog_1_method_7_code 14 = .ok (.iconst (-1), 1) := by decide +kernel
theorem d_Desk_place_15 : decode prog_1_method_7_code 15 = .ok (.ireturn, 1) := by decide +kernel
theorem d_Desk_place_16 : decode prog_1_method_7_code 16 = .ok (.aload_n 0, 1) := by decide +kernel
theorem d_Desk_place_17 : decode prog_1_method_7_code 17 = .ok (.getfield 25, 3) := by decide +kernel
theorem d_Desk_place_20 : decode prog_1_method_7_code 20 = .ok (.getfield 82, 3) := by decide +kernel
theorem d_Desk_place_23 : decode prog_1_method_7_code 23 = .ok (.iload_n 1, 1) := by decide +kernel
theorem d_Desk_place_24 : decode prog_1_method_7_code 24 = .ok (.aaload, 1) := by decide +kernel
theorem d_Desk_place_25 : decode prog_1_method_7_code 25 = .ok (.invokevirtual 90, 3) := by decide +kernel
theorem d_Desk_place_28 : decode prog_1_method_7_code 28 = .ok (.ifCond .eq 10, 3) := by decide +kernel
theorem d_Desk_place_38 : decode prog_1_method_7_code 38 = .ok (.bipush (-2), 2) := by decide +kernel
theorem d_Desk_place_40 : decode prog_1_method_7_code 40 = .ok (.ireturn, 1) := by decide +kernel
theorem d_Desk_run_0 : decode prog_1_method_9_code 0 = .ok (.iload_n 1, 1) := by decide +kernel
theorem d_Desk_run_1 : decode prog_1_method_9_code 1 = .ok (.iconst 1, 1) := by decide +kernel
theorem d_Desk_run_2 : decode prog_1_method_9_code 2 = .ok (.bipush 20, 2) := by decide +kernel
theorem d_Desk_run_4 : decode prog_1_method_9_code 4 = .ok (.invokestatic 51, 3) := by decide +kernel
theorem d_Desk_run_7 : decode prog_1_method_9_code 7 = .ok (.ifCond .ne 5, 3) := by decide +kernel
theorem d_Desk_run_10 : decode prog_1_method_9_code 10 = .ok (.iconst (-1), 1) := by decide +kernel
theorem d_Desk_run_11 : decode prog_1_method_9_code 11 = .ok (.ireturn, 1) := by decide +kernel
theorem d_Desk_run_12 : decode prog_1_method_9_code 12 = .ok (.aload_n 0, 1) := by decide +kernel
theorem d_Desk_run_13 : decode prog_1_method_9_code 13 = .ok (.getfield 43, 3) := by decide +kernel
theorem d_Desk_run_16 : decode prog_1_method_9_code 16 = .ok (.ifCond .ne 6, 3) := by decide +kernel
theorem d_Desk_run_19 : decode prog_1_method_9_code 19 = .ok (.bipush (-2), 2) := by decide +kernel
theorem d_Desk_run_21 : decode prog_1_method_9_code 21 = .ok (.ireturn, 1) := by decide +kernel
theorem d_Desk_step_0 : decode prog_1_method_4_code 0 = .ok (.aload_n 0, 1) := by decide +kernel
theorem d_Desk_step_1 : decode prog_1_method_4_code 1 = .ok (.iload_n 1, 1) := by decide +kernel
theorem d_Desk_step_2 : decode prog_1_method_4_code 2 = .ok (.invokevirtual 59, 3) := by decide +kernel
theorem d_Desk_step_5 : decode prog_1_method_4_code 5 = .ok (.ifCond .eq 11, 3) := by decide +kernel
theorem d_Desk_step_16 : decode prog_1_method_4_code 16 = .ok (.iconst (-1), 1) := by decide +kernel
theorem d_Desk_step_17 : decode prog_1_method_4_code 17 = .ok (.ireturn, 1) := by decide +kernel
theorem d_Desk_stop_0 : decode prog_1_method_11_code 0 = .ok (.aload_n 0, 1) := by decide +kernel
theorem d_Desk_stop_1 : decode prog_1_method_11_code 1 = .ok (.getfield 43, 3) := by decide +kernel
theorem d_Desk_stop_4 : decode prog_1_method_11_code 4 = .ok (.iconst 1, 1) := by decide +kernel
theorem d_Desk_stop_5 : decode prog_1_method_11_code 5 = .ok (.if_icmp .eq 5, 3) := by decide +kernel
theorem d_Desk_stop_8 : decode prog_1_method_11_code 8 = .ok (.iconst 0, 1) := by decide +kernel
theorem d_Desk_stop_9 : decode prog_1_method_11_code 9 = .ok (.ireturn, 1) := by decide +kernel
theorem d_Desk_within_0 : decode prog_1_method_16_code 0 = .ok (.iload_n 0, 1) := by decide +kernel
theorem d_Desk_within_1 : decode prog_1_method_16_code 1 = .ok (.iload_n 1, 1) := by decide +kernel
theorem d_Desk_within_2 : decode prog_1_method_16_code 2 = .ok (.if_icmp .lt 12, 3) := by decide +kernel
theorem d_Desk_within_5 : decode prog_1_method_16_code 5 = .ok (.iload_n 0, 1) := by decide +kernel
theorem d_Desk_within_6 : decode prog_1_method_16_code 6 = .ok (.iload_n 2, 1) := by decide +kernel
theorem d_Desk_within_7 : decode prog_1_method_16_code 7 = .ok (.if_icmp .gt 7, 3) := by decide +kernel
theorem d_Desk_within_10 : decode prog_1_method_16_code 10 = .ok (.iconst 1, 1) := by decide +kernel
theorem d_Desk_within_11 : decode prog_1_method_16_code 11 = .ok (.goto 4, 3) := by decide +kernel
theorem d_Desk_within_14 : decode prog_1_method_16_code 14 = .ok (.iconst 0, 1) := by decide +kernel
theorem d_Desk_within_15 : decode prog_1_method_16_code 15 = .ok (.ireturn, 1) := by decide +kernel
theorem d_Frame_init_0 : decode prog_2_method_1_code 0 = .ok (.aload_n 0, 1) := by decide +kernel
theorem d_Frame_init_1 : decode prog_2_method_1_code 1 = .ok (.invokespecial 3, 3) := by decide +kernel
theorem d_Frame_init_4 : decode prog_2_method_1_code 4 = .ok (.aload_n 0, 1) := by decide +kernel
theorem d_Frame_init_5 : decode prog_2_method_1_code 5 = .ok (.iconst 4, 1) := by decide +kernel
theorem d_Frame_init_6 : decode prog_2_method_1_code 6 = .ok (.newarray .int, 2) := by decide +kernel
theorem d_Frame_init_8 : decode prog_2_method_1_code 8 = .ok (.putfield 9, 3) := by decide +kernel
theorem d_Frame_init_11 : decode prog_2_method_1_code 11 = .ok (.return_, 1) := by decide +kernel
theorem d_Frame_addPlace_0 : decode prog_2_method_4_code 0 = .ok (.aload_n 0, 1) := by decide +kernel
theorem d_Frame_addPlace_1 : decode prog_2_method_4_code 1 = .ok (.getfield 19, 3) := by decide +kernel
theorem d_Frame_addPlace_4 : decode prog_2_method_4_code 4 = .ok (.iconst 4, 1) := by decide +kernel
theorem d_Frame_addPlace_5 : decode prog_2_method_4_code 5 = .ok (.if_icmp .lt 6, 3) := by decide +kernel
theorem d_Frame_addPlace_8 : decode prog_2_method_4_code 8 = .ok (.bipush (-3), 2) := by decide +kernel
theorem d_Frame_addPlace_10 : decode prog_2_method_4_code 10 = .ok (.ireturn, 1) := by decide +kernel
theorem d_Frame_addPlace_11 : decode prog_2_method_4_code 11 = .ok (.aload_n 0, 1) := by decide +kernel
theorem d_Frame_addPlace_12 : decode prog_2_method_4_code 12 = .ok (.getfield 9, 3) := by decide +kernel
theorem d_Frame_addPlace_15 : decode prog_2_method_4_code 15 = .ok (.aload_n 0, 1) := by decide +kernel
theorem d_Frame_addPlace_16 : decode prog_2_method_4_code 16 = .ok (.getfield 19, 3) := by decide +kernel
theorem d_Frame_addPlace_19 : decode prog_2_method_4_code 19 = .ok (.iload_n 1, 1) := by decide +kernel
theorem d_Frame_addPlace_20 : decode prog_2_method_4_code 20 = .ok (.iastore, 1) := by decide +kernel
theorem d_Frame_addPlace_21 : decode prog_2_method_4_code 21 = .ok (.aload_n 0, 1) := by decide +kernel
theorem d_Frame_addPlace_22 : decode prog_2_method_4_code 22 = .ok (.dup, 1) := by decide +kernel
theorem d_Frame_addPlace_23 : decode prog_2_method_4_code 23 = .ok (.getfield 19, 3) := by decide +kernel
theorem d_Frame_addPlace_26 : decode prog_2_method_4_code 26 = .ok (.iconst 1, 1) := by decide +kernel
theorem d_Frame_addPlace_27 : decode prog_2_method_4_code 27 = .ok (.iadd, 1) := by decide +kernel
theorem d_Frame_addPlace_28 : decode prog_2_method_4_code 28 = .ok (.putfield 19, 3) := by decide +kernel
theorem d_Frame_addPlace_31 : decode prog_2_method_4_code 31 = .ok (.aload_n 0, 1) := by decide +kernel
theorem d_Frame_addPlace_32 : decode prog_2_method_4_code 32 = .ok (.getfield 19, 3) := by decide +kernel
theorem d_Frame_addPlace_35 : decode prog_2_method_4_code 35 = .ok (.ireturn, 1) := by decide +kernel
theorem d_Frame_isThere_0 : decode prog_2_method_2_code 0 = .ok (.aload_n 0, 1) := by decide +kernel
theorem d_Frame_isThere_1 : decode prog_2_method_2_code 1 = .ok (.getfield 15, 3) := by decide +kernel
theorem d_Frame_isThere_4 : decode prog_2_method_2_code 4 = .ok (.ifCond .le 7, 3) := by decide +kernel
theorem d_Frame_isThere_7 : decode prog_2_method_2_code 7 = .ok (.iconst 1, 1) := by decide +kernel
theorem d_Frame_isThere_8 : decode prog_2_method_2_code 8 = .ok (.goto 4, 3) := by decide +kernel
theorem d_Frame_isThere_11 : decode prog_2_method_2_code 11 = .ok (.iconst 0, 1) := by decide +kernel
theorem d_Frame_isThere_12 : decode prog_2_method_2_code 12 = .ok (.ireturn, 1) := by decide +kernel
theorem d_Frame_layDown_0 : decode prog_2_method_3_code 0 = .ok (.aload_n 0, 1) := by decide +kernel
theorem d_Frame_layDown_1 : decode prog_2_method_3_code 1 = .ok (.iload_n 1, 1) := by decide +kernel
theorem d_Frame_layDown_2 : decode prog_2_method_3_code 2 = .ok (.putfield 15, 3) := by decide +kernel
theorem d_Frame_layDown_5 : decode prog_2_method_3_code 5 = .ok (.aload_n 0, 1) := by decide +kernel
theorem d_Frame_layDown_6 : decode prog_2_method_3_code 6 = .ok (.iconst 0, 1) := by decide +kernel
theorem d_Frame_layDown_7 : decode prog_2_method_3_code 7 = .ok (.putfield 19, 3) := by decide +kernel
theorem d_Frame_layDown_10 : decode prog_2_method_3_code 10 = .ok (.return_, 1) := by decide +kernel
theorem d_Handler_init_0 : decode prog_3_method_1_code 0 = .ok (.aload_n 0, 1) := by decide +kernel
theorem d_Handler_init_1 : decode prog_3_method_1_code 1 = .ok (.invokespecial 3, 3) := by decide +kernel
theorem d_Handler_init_4 : decode prog_3_method_1_code 4 = .ok (.aload_n 0, 1) := by decide +kernel
theorem d_Handler_init_5 : decode prog_3_method_1_code 5 = .ok (.bipush 10, 2) := by decide +kernel
theorem d_Handler_init_7 : decode prog_3_method_1_code 7 = .ok (.newarray .int, 2) := by decide +kernel
theorem d_Handler_init_9 : decode prog_3_method_1_code 9 = .ok (.putfield 9, 3) := by decide +kernel
theorem d_Handler_init_12 : decode prog_3_method_1_code 12 = .ok (.aload_n 0, 1) := by decide +kernel
theorem d_Handler_init_13 : decode prog_3_method_1_code 13 = .ok (.bipush 10, 2) := by decide +kernel
theorem d_Handler_init_15 : decode prog_3_method_1_code 15 = .ok (.newarray .int, 2) := by decide +kernel
theorem d_Handler_init_17 : decode prog_3_method_1_code 17 = .ok (.putfield 15, 3) := by decide +kernel
theorem d_Handler_init_20 : decode prog_3_method_1_code 20 = .ok (.aload_n 0, 1) := by decide +kernel
theorem d_Handler_init_21 : decode prog_3_method_1_code 21 = .ok (.bipush 8, 2) := by decide +kernel
theorem d_Handler_init_23 : decode prog_3_method_1_code 23 = .ok (.newarray .int, 2) := by decide +kernel
theorem d_Handler_init_25 : decode prog_3_method_1_code 25 = .ok (.putfield 18, 3) := by decide +kernel
theorem d_Handler_init_28 : decode prog_3_method_1_code 28 = .ok (.aload_n 0, 1) := by decide +kernel
theorem d_Handler_init_29 : decode prog_3_method_1_code 29 = .ok (.new 21, 3) := by decide +kernel
theorem d_Handler_init_32 : decode prog_3_method_1_code 32 = .ok (.dup, 1) := by decide +kernel
theorem d_Handler_init_33 : decode prog_3_method_1_code 33 = .ok (.iload_n 1, 1) := by decide +kernel
theorem d_Handler_init_34 : decode prog_3_method_1_code 34 = .ok (.invokespecial 23, 3) := by decide +kernel
theorem d_Handler_init_37 : decode prog_3_method_1_code 37 = .ok (.putfield 26, 3) := by decide +kernel
theorem d_Handler_init_40 : decode prog_3_method_1_code 40 = .ok (.return_, 1) := by decide +kernel
theorem d_Handler_layDown_0 : decode prog_3_method_2_code 0 = .ok (.aload_n 0, 1) := by decide +kernel
theorem d_Handler_layDown_1 : decode prog_3_method_2_code 1 = .ok (.iconst 1, 1) := by decide +kernel
theorem d_Handler_layDown_2 : decode prog_3_method_2_code 2 = .ok (.putfield 30, 3) := by decide +kernel
theorem d_Handler_layDown_5 : decode prog_3_method_2_code 5 = .ok (.aload_n 0, 1) := by decide +kernel
theorem d_Handler_layDown_6 : decode prog_3_method_2_code 6 = .ok (.iload_n 1, 1) := by decide +kernel
theorem d_Handler_layDown_7 : decode prog_3_method_2_code 7 = .ok (.putfield 34, 3) := by decide +kernel
theorem d_Handler_layDown_10 : decode prog_3_method_2_code 10 = .ok (.aload_n 0, 1) := by decide +kernel
theorem d_Handler_layDown_11 : decode prog_3_method_2_code 11 = .ok (.iload_n 2, 1) := by decide +kernel
theorem d_Handler_layDown_12 : decode prog_3_method_2_code 12 = .ok (.putfield 38, 3) := by decide +kernel
theorem d_Handler_layDown_15 : decode prog_3_method_2_code 15 = .ok (.aload_n 0, 1) := by decide +kernel
theorem d_Handler_layDown_16 : decode prog_3_method_2_code 16 = .ok (.iload_n 3, 1) := by decide +kernel
theorem d_Handler_layDown_17 : decode prog_3_method_2_code 17 = .ok (.putfield 41, 3) := by decide +kernel
theorem d_Handler_layDown_20 : decode prog_3_method_2_code 20 = .ok (.aload_n 0, 1) := by decide +kernel
theorem d_Handler_layDown_21 : decode prog_3_method_2_code 21 = .ok (.iload 4, 2) := by decide +kernel
theorem d_Handler_layDown_23 : decode prog_3_method_2_code 23 = .ok (.putfield 44, 3) := by decide +kernel
theorem d_Handler_layDown_26 : decode prog_3_method_2_code 26 = .ok (.aload_n 0, 1) := by decide +kernel
theorem d_Handler_layDown_27 : decode prog_3_method_2_code 27 = .ok (.iconst 0, 1) := by decide +kernel
theorem d_Handler_layDown_28 : decode prog_3_method_2_code 28 = .ok (.putfield 47, 3) := by decide +kernel
theorem d_Handler_layDown_31 : decode prog_3_method_2_code 31 = .ok (.aload_n 0, 1) := by decide +kernel
theorem d_Handler_layDown_32 : decode prog_3_method_2_code 32 = .ok (.iconst (-1), 1) := by decide +kernel
theorem d_Handler_layDown_33 : decode prog_3_method_2_code 33 = .ok (.putfield 50, 3) := by decide +kernel
theorem d_Handler_layDown_36 : decode prog_3_method_2_code 36 = .ok (.aload_n 0, 1) := by decide +kernel
theorem d_Handler_layDown_37 : decode prog_3_method_2_code 37 = .ok (.bipush 20, 2) := by decide +kernel
theorem d_Handler_layDown_39 : decode prog_3_method_2_code 39 = .ok (.putfield 53, 3) := by decide +kernel
theorem d_Handler_layDown_42 : decode prog_3_method_2_code 42 = .ok (.aload_n 0, 1) := by decide +kernel
theorem d_Handler_layDown_43 : decode prog_3_method_2_code 43 = .ok (.iconst 0, 1) := by decide +kernel
theorem d_Handler_layDown_44 : decode prog_3_method_2_code 44 = .ok (.putfield 56, 3) := by decide +kernel
theorem d_Handler_layDown_47 : decode prog_3_method_2_code 47 = .ok (.return_, 1) := by decide +kernel
theorem d_HeldLocks_init_0 : decode prog_4_method_1_code 0 = .ok (.aload_n 0, 1) := by decide +kernel
theorem d_HeldLocks_init_1 : decode prog_4_method_1_code 1 = .ok (.invokespecial 3, 3) := by decide +kernel
theorem d_HeldLocks_init_4 : decode prog_4_method_1_code 4 = .ok (.aload_n 0, 1) := by decide +kernel
theorem d_HeldLocks_init_5 : decode prog_4_method_1_code 5 = .ok (.iconst 4, 1) := by decide +kernel
theorem d_HeldLocks_init_6 : decode prog_4_method_1_code 6 = .ok (.newarray .int, 2) := by decide +kernel
theorem d_HeldLocks_init_8 : decode prog_4_method_1_code 8 = .ok (.putfield 9, 3) := by decide +kernel
theorem d_HeldLocks_init_11 : decode prog_4_method_1_code 11 = .ok (.return_, 1) := by decide +kernel
theorem d_HeldLocks_free_0 : decode prog_4_method_5_code 0 = .ok (.aload_n 0, 1) := by decide +kernel
theorem d_HeldLocks_free_1 : decode prog_4_method_5_code 1 = .ok (.getfield 15, 3) := by decide +kernel
theorem d_HeldLocks_free_4 : decode prog_4_method_5_code 4 = .ok (.ifCond .eq 18, 3) := by decide +kernel
theorem d_HeldLocks_free_7 : decode prog_4_method_5_code 7 = .ok (.aload_n 0, 1) := by decide +kernel
theorem d_HeldLocks_free_8 : decode prog_4_method_5_code 8 = .ok (.getfield 9, 3) := by decide +kernel
theorem d_HeldLocks_free_11 : decode prog_4_method_5_code 11 = .ok (.aload_n 0, 1) := by decide +kernel
theorem d_HeldLocks_free_12 : decode prog_4_method_5_code 12 = .ok (.getfield 15, 3) := by decide +kernel
theorem d_HeldLocks_free_15 : decode prog_4_method_5_code 15 = .ok (.iconst 1, 1) := by decide +kernel
theorem d_HeldLocks_free_16 : decode prog_4_method_5_code 16 = .ok (.isub, 1) := by decide +kernel
theorem d_HeldLocks_free_17 : decode prog_4_method_5_code 17 = .ok (.iaload, 1) := by decide +kernel
theorem d_HeldLocks_free_18 : decode prog_4_method_5_code 18 = .ok (.iload_n 1, 1) := by decide +kernel
theorem d_HeldLocks_free_19 : decode prog_4_method_5_code 19 = .ok (.if_icmp .eq 5, 3) := by decide +kernel
theorem d_HeldLocks_free_22 : decode prog_4_method_5_code 22 = .ok (.iconst 0, 1) := by decide +kernel
theorem d_HeldLocks_free_23 : decode prog_4_method_5_code 23 = .ok (.ireturn, 1) := by decide +kernel
theorem d_HeldLocks_free_24 : decode prog_4_method_5_code 24 = .ok (.aload_n 0, 1) := by decide +kernel
theorem d_HeldLocks_free_25 : decode prog_4_method_5_code 25 = .ok (.dup, 1) := by decide +kernel
theorem d_HeldLocks_free_26 : decode prog_4_method_5_code 26 = .ok (.getfield 15, 3) := by decide +kernel
theorem d_HeldLocks_free_29 : decode prog_4_method_5_code 29 = .ok (.iconst 1, 1) := by decide +kernel
theorem d_HeldLocks_free_30 : decode prog_4_method_5_code 30 = .ok (.isub, 1) := by decide +kernel
theorem d_HeldLocks_free_31 : decode prog_4_method_5_code 31 = .ok (.putfield 15, 3) := by decide +kernel
theorem d_HeldLocks_free_34 : decode prog_4_method_5_code 34 = .ok (.iconst 1, 1) := by decide +kernel
theorem d_HeldLocks_free_35 : decode prog_4_method_5_code 35 = .ok (.ireturn, 1) := by decide +kernel
theorem d_HeldLocks_latest_0 : decode prog_4_method_2_code 0 = .ok (.aload_n 0, 1) := by decide +kernel
theorem d_HeldLocks_latest_1 : decode prog_4_method_2_code 1 = .ok (.getfield 15, 3) := by decide +kernel
theorem d_HeldLocks_latest_4 : decode prog_4_method_2_code 4 = .ok (.ifCond .ne 8, 3) := by decide +kernel
theorem d_HeldLocks_latest_7 : decode prog_4_method_2_code 7 = .ok (.bipush (-2), 2) := by decide +kernel
theorem d_HeldLocks_latest_9 : decode prog_4_method_2_code 9 = .ok (.goto 14, 3) := by decide +kernel
theorem d_HeldLocks_latest_12 : decode prog_4_method_2_code 12 = .ok (.aload_n 0, 1) := by decide +kernel
theorem d_HeldLocks_latest_13 : decode prog_4_method_2_code 13 = .ok (.getfield 9, 3) := by decide +kernel
theorem d_HeldLocks_latest_16 : decode prog_4_method_2_code 16 = .ok (.aload_n 0, 1) := by decide +kernel
theorem d_HeldLocks_latest_17 : decode prog_4_method_2_code 17 = .ok (.getfield 15, 3) := by decide +kernel
theorem d_HeldLocks_latest_20 : decode prog_4_method_2_code 20 = .ok (.iconst 1, 1) := by decide +kernel
theorem d_HeldLocks_latest_21 : decode prog_4_method_2_code 21 = .ok (.isub, 1) := by decide +kernel
theorem d_HeldLocks_latest_22 : decode prog_4_method_2_code 22 = .ok (.iaload, 1) := by decide +kernel
theorem d_HeldLocks_latest_23 : decode prog_4_method_2_code 23 = .ok (.ireturn, 1) := by decide +kernel
theorem d_HeldLocks_take_0 : decode prog_4_method_4_code 0 = .ok (.aload_n 0, 1) := by decide +kernel
theorem d_HeldLocks_take_1 : decode prog_4_method_4_code 1 = .ok (.getfield 15, 3) := by decide +kernel
theorem d_HeldLocks_take_4 : decode prog_4_method_4_code 4 = .ok (.iconst 4, 1) := by decide +kernel
theorem d_HeldLocks_take_5 : decode prog_4_method_4_code 5 = .ok (.if_icmp .ge 23, 3) := by decide +kernel
theorem d_HeldLocks_take_8 : decode prog_4_method_4_code 8 = .ok (.aload_n 0, 1) := by decide +kernel
theorem d_HeldLocks_take_9 : decode prog_4_method_4_code 9 = .ok (.getfield 9, 3) := by decide +kernel
theorem d_HeldLocks_take_12 : decode prog_4_method_4_code 12 = .ok (.aload_n 0, 1) := by decide +kernel
theorem d_HeldLocks_take_13 : decode prog_4_method_4_code 13 = .ok (.getfield 15, 3) := by decide +kernel
theorem d_HeldLocks_take_16 : decode prog_4_method_4_code 16 = .ok (.iload_n 1, 1) := by decide +kernel
theorem d_HeldLocks_take_17 : decode prog_4_method_4_code 17 = .ok (.iastore, 1) := by decide +kernel
theorem d_HeldLocks_take_18 : decode prog_4_method_4_code 18 = .ok (.aload_n 0, 1) := by decide +kernel
theorem d_HeldLocks_take_19 : decode prog_4_method_4_code 19 = .ok (.dup, 1) := by decide +kernel
theorem d_HeldLocks_take_20 : decode prog_4_method_4_code 20 = .ok (.getfield 15, 3) := by decide +kernel
theorem d_HeldLocks_take_23 : decode prog_4_method_4_code 23 = .ok (.iconst 1, 1) := by decide +kernel
theorem d_HeldLocks_take_24 : decode prog_4_method_4_code 24 = .ok (.iadd, 1) := by decide +kernel
theorem d_HeldLocks_take_25 : decode prog_4_method_4_code 25 = .ok (.putfield 15, 3) := by decide +kernel
theorem d_HeldLocks_take_28 : decode prog_4_method_4_code 28 = .ok (.return_, 1) := by decide +kernel
theorem d_Journal_init_0 : decode prog_5_method_1_code 0 = .ok (.aload_n 0, 1) := by decide +kernel
theorem d_Journal_init_1 : decode prog_5_method_1_code 1 = .ok (.invokespecial 3, 3) := by decide +kernel
theorem d_Journal_init_4 : decode prog_5_method_1_code 4 = .ok (.aload_n 0, 1) := by decide +kernel
theorem d_Journal_init_5 : decode prog_5_method_1_code 5 = .ok (.bipush 32, 2) := by decide +kernel
theorem d_Journal_init_7 : decode prog_5_method_1_code 7 = .ok (.newarray .int, 2) := by decide +kernel
theorem d_Journal_init_9 : decode prog_5_method_1_code 9 = .ok (.putfield 9, 3) := by decide +kernel
theorem d_Journal_init_12 : decode prog_5_method_1_code 12 = .ok (.return_, 1) := by decide +kernel
theorem d_Journal_latest_0 : decode prog_5_method_3_code 0 = .ok (.iload_n 1, 1) := by decide +kernel
theorem d_Journal_latest_1 : decode prog_5_method_3_code 1 = .ok (.ifCond .lt 17, 3) := by decide +kernel
theorem d_Journal_latest_4 : decode prog_5_method_3_code 4 = .ok (.iload_n 1, 1) := by decide +kernel
theorem d_Journal_latest_5 : decode prog_5_method_3_code 5 = .ok (.bipush 32, 2) := by decide +kernel
theorem d_Journal_latest_7 : decode prog_5_method_3_code 7 = .ok (.if_icmp .ge 11, 3) := by decide +kernel
theorem d_Journal_latest_10 : decode prog_5_method_3_code 10 = .ok (.iload_n 1, 1) := by decide +kernel
theorem d_Journal_latest_11 : decode prog_5_method_3_code 11 = .ok (.aload_n 0, 1) := by decide +kernel
theorem d_Journal_latest_12 : decode prog_5_method_3_code 12 = .ok (.getfield 15, 3) := by decide +kernel
theorem d_Journal_latest_15 : decode prog_5_method_3_code 15 = .ok (.if_icmp .lt 6, 3) := by decide +kernel
theorem d_Journal_latest_18 : decode prog_5_method_3_code 18 = .ok (.bipush (-2), 2) := by decide +kernel
theorem d_Journal_latest_20 : decode prog_5_method_3_code 20 = .ok (.ireturn, 1) := by decide +kernel
theorem d_Journal_note_0 : decode prog_5_method_2_code 0 = .ok (.aload_n 0, 1) := by decide +kernel
theorem d_Journal_note_1 : decode prog_5_method_2_code 1 = .ok (.getfield 9, 3) := by decide +kernel
theorem d_Journal_note_4 : decode prog_5_method_2_code 4 = .ok (.aload_n 0, 1) := by decide +kernel
theorem d_Journal_note_5 : decode prog_5_method_2_code 5 = .ok (.getfield 15, 3) := by decide +kernel
theorem d_Journal_note_8 : decode prog_5_method_2_code 8 = .ok (.bipush 31, 2) := by decide +kernel
theorem d_Journal_note_10 : decode prog_5_method_2_code 10 = .ok (.iand, 1) := by decide +kernel
theorem d_Journal_note_11 : decode prog_5_method_2_code 11 = .ok (.bipush 8, 2) := by decide +kernel
theorem d_Journal_note_13 : decode prog_5_method_2_code 13 = .ok (.iload_n 1, 1) := by decide +kernel
theorem d_Journal_note_14 : decode prog_5_method_2_code 14 = .ok (.imul, 1) := by decide +kernel
theorem d_Journal_note_15 : decode prog_5_method_2_code 15 = .ok (.iload_n 2, 1) := by decide +kernel
theorem d_Journal_note_16 : decode prog_5_method_2_code 16 = .ok (.iadd, 1) := by decide +kernel
theorem d_Journal_note_17 : decode prog_5_method_2_code 17 = .ok (.iastore, 1) := by decide +kernel
theorem d_Journal_note_18 : decode prog_5_method_2_code 18 = .ok (.aload_n 0, 1) := by decide +kernel
theorem d_Journal_note_19 : decode prog_5_method_2_code 19 = .ok (.dup, 1) := by decide +kernel
theorem d_Journal_note_20 : decode prog_5_method_2_code 20 = .ok (.getfield 15, 3) := by decide +kernel
theorem d_Journal_note_23 : decode prog_5_method_2_code 23 = .ok (.iconst 1, 1) := by decide +kernel
theorem d_Journal_note_24 : decode prog_5_method_2_code 24 = .ok (.iadd, 1) := by decide +kernel
theorem d_Journal_note_25 : decode prog_5_method_2_code 25 = .ok (.putfield 15, 3) := by decide +kernel
theorem d_Journal_note_28 : decode prog_5_method_2_code 28 = .ok (.return_, 1) := by decide +kernel
theorem d_Line_init_0 : decode prog_6_method_1_code 0 = .ok (.aload_n 0, 1) := by decide +kernel
theorem d_Line_init_1 : decode prog_6_method_1_code 1 = .ok (.invokespecial 3, 3) := by decide +kernel
theorem d_Line_init_4 : decode prog_6_method_1_code 4 = .ok (.aload_n 0, 1) := by decide +kernel
theorem d_Line_init_5 : decode prog_6_method_1_code 5 = .ok (.iconst 4, 1) := by decide +kernel
theorem d_Line_init_6 : decode prog_6_method_1_code 6 = .ok (.anewarray 9, 3) := by decide +kernel
theorem d_Line_init_9 : decode prog_6_method_1_code 9 = .ok (.putfield 11, 3) := by decide +kernel
theorem d_Line_init_12 : decode prog_6_method_1_code 12 = .ok (.iconst 0, 1) := by decide +kernel
theorem d_Line_init_13 : decode prog_6_method_1_code 13 = .ok (.istore_n 2, 1) := by decide +kernel
theorem d_Line_init_14 : decode prog_6_method_1_code 14 = .ok (.iload_n 2, 1) := by decide +kernel
theorem d_Line_init_15 : decode prog_6_method_1_code 15 = .ok (.iconst 4, 1) := by decide +kernel
theorem d_Line_init_16 : decode prog_6_method_1_code 16 = .ok (.if_icmp .ge 23, 3) := by decide +kernel
theorem d_Line_init_19 : decode prog_6_method_1_code 19 = .ok (.aload_n 0, 1) := by decide +kernel
theorem d_Line_init_20 : decode prog_6_method_1_code 20 = .ok (.getfield 11, 3) := by decide +kernel
theorem d_Line_init_23 : decode prog_6_method_1_code 23 = .ok (.iload_n 2, 1) := by decide +kernel
theorem d_Line_init_24 : decode prog_6_method_1_code 24 = .ok (.new 9, 3) := by decide +kernel
theorem d_Line_init_27 : decode prog_6_method_1_code 27 = .ok (.dup, 1) := by decide +kernel
theorem d_Line_init_28 : decode prog_6_method_1_code 28 = .ok (.iload_n 1, 1) := by decide +kernel
theorem d_Line_init_29 : decode prog_6_method_1_code 29 = .ok (.invokespecial 17, 3) := by decide +kernel
theorem d_Line_init_32 : decode prog_6_method_1_code 32 = .ok (.aastore, 1) := by decide +kernel
theorem d_Line_init_33 : decode prog_6_method_1_code 33 = .ok (.iinc 2 1, 3) := by decide +kernel
theorem d_Line_init_36 : decode prog_6_method_1_code 36 = .ok (.goto (-22), 3) := by decide +kernel
theorem d_Line_init_39 : decode prog_6_method_1_code 39 = .ok (.return_, 1) := by decide +kernel
theorem d_Line_at_0 : decode prog_6_method_3_code 0 = .ok (.aload_n 0, 1) := by decide +kernel
theorem d_Line_at_1 : decode prog_6_method_3_code 1 = .ok (.getfield 11, 3) := by decide +kernel
theorem d_Line_at_4 : decode prog_6_method_3_code 4 = .ok (.aload_n 0, 1) := by decide +kernel
theorem d_Line_at_5 : decode prog_6_method_3_code 5 = .ok (.getfield 20, 3) := by decide +kernel
theorem d_Line_at_8 : decode prog_6_method_3_code 8 = .ok (.iload_n 1, 1) := by decide +kernel
theorem d_Line_at_9 : decode prog_6_method_3_code 9 = .ok (.iadd, 1) := by decide +kernel
theorem d_Line_at_10 : decode prog_6_method_3_code 10 = .ok (.iconst 3, 1) := by decide +kernel
theorem d_Line_at_11 : decode prog_6_method_3_code 11 = .ok (.iand, 1) := by decide +kernel
theorem d_Line_at_12 : decode prog_6_method_3_code 12 = .ok (.aaload, 1) := by decide +kernel
theorem d_Line_at_13 : decode prog_6_method_3_code 13 = .ok (.areturn, 1) := by decide +kernel
theorem d_Line_first_0 : decode prog_6_method_2_code 0 = .ok (.aload_n 0, 1) := by decide +kernel
theorem d_Line_first_1 : decode prog_6_method_2_code 1 = .ok (.getfield 11, 3) := by decide +kernel
theorem d_Line_first_4 : decode prog_6_method_2_code 4 = .ok (.aload_n 0, 1) := by decide +kernel
theorem d_Line_first_5 : decode prog_6_method_2_code 5 = .ok (.getfield 20, 3) := by decide +kernel
theorem d_Line_first_8 : decode prog_6_method_2_code 8 = .ok (.aaload, 1) := by decide +kernel
theorem d_Line_first_9 : decode prog_6_method_2_code 9 = .ok (.areturn, 1) := by decide +kernel
theorem d_Line_grow_0 : decode prog_6_method_4_code 0 = .ok (.aload_n 0, 1) := by decide +kernel
theorem d_Line_grow_1 : decode prog_6_method_4_code 1 = .ok (.getfield 24, 3) := by decide +kernel
theorem d_Line_grow_4 : decode prog_6_method_4_code 4 = .ok (.iconst 4, 1) := by decide +kernel
theorem d_Line_grow_5 : decode prog_6_method_4_code 5 = .ok (.if_icmp .lt 5, 3) := by decide +kernel
theorem d_Line_grow_8 : decode prog_6_method_4_code 8 = .ok (.aconst_null, 1) := by decide +kernel
theorem d_Line_grow_9 : decode prog_6_method_4_code 9 = .ok (.areturn, 1) := by decide +kernel
theorem d_Line_grow_10 : decode prog_6_method_4_code 10 = .ok (.aload_n 0, 1) := by decide +kernel
theorem d_Line_grow_11 : decode prog_6_method_4_code 11 = .ok (.dup, 1) := by decide +kernel
theorem d_Line_grow_12 : decode prog_6_method_4_code 12 = .ok (.getfield 24, 3) := by decide +kernel
theorem d_Line_grow_15 : decode prog_6_method_4_code 15 = .ok (.iconst 1, 1) := by decide +kernel
theorem d_Line_grow_16 : decode prog_6_method_4_code 16 = .ok (.iadd, 1) := by decide +kernel
theorem d_Line_grow_17 : decode prog_6_method_4_code 17 = .ok (.putfield 24, 3) := by decide +kernel
theorem d_Line_grow_20 : decode prog_6_method_4_code 20 = .ok (.aload_n 0, 1) := by decide +kernel
theorem d_Line_grow_21 : decode prog_6_method_4_code 21 = .ok (.aload_n 0, 1) := by decide +kernel
theorem d_Line_grow_22 : decode prog_6_method_4_code 22 = .ok (.getfield 24, 3) := by decide +kernel
theorem d_Line_grow_25 : decode prog_6_method_4_code 25 = .ok (.iconst 1, 1) := by decide +kernel
theorem d_Line_grow_26 : decode prog_6_method_4_code 26 = .ok (.isub, 1) := by decide +kernel
theorem d_Line_grow_27 : decode prog_6_method_4_code 27 = .ok (.invokevirtual 27, 3) := by decide +kernel
theorem d_Line_grow_30 : decode prog_6_method_4_code 30 = .ok (.areturn, 1) := by decide +kernel
theorem d_Line_removeFirst_0 : decode prog_6_method_5_code 0 = .ok (.aload_n 0, 1) := by decide +kernel
theorem d_Line_removeFirst_1 : decode prog_6_method_5_code 1 = .ok (.getfield 24, 3) := by decide +kernel
theorem d_Line_removeFirst_4 : decode prog_6_method_5_code 4 = .ok (.ifCond .le 25, 3) := by decide +kernel
theorem d_Line_removeFirst_7 : decode prog_6_method_5_code 7 = .ok (.aload_n 0, 1) := by decide +kernel
theorem d_Line_removeFirst_8 : decode prog_6_method_5_code 8 = .ok (.aload_n 0, 1) := by decide +kernel
theorem d_Line_removeFirst_9 : decode prog_6_method_5_code 9 = .ok (.getfield 20, 3) := by decide +kernel
theorem d_Line_removeFirst_12 : decode prog_6_method_5_code 12 = .ok (.iconst 1, 1) := by decide +kernel
theorem d_Line_removeFirst_13 : decode prog_6_method_5_code 13 = .ok (.iadd, 1) := by decide +kernel
theorem d_Line_removeFirst_14 : decode prog_6_method_5_code 14 = .ok (.iconst 3, 1) := by decide +kernel
theorem d_Line_removeFirst_15 : decode prog_6_method_5_code 15 = .ok (.iand, 1) := by decide +kernel
theorem d_Line_removeFirst_16 : decode prog_6_method_5_code 16 = .ok (.putfield 20, 3) := by decide +kernel
theorem d_Line_removeFirst_19 : decode prog_6_method_5_code 19 = .ok (.aload_n 0, 1) := by decide +kernel
theorem d_Line_removeFirst_20 : decode prog_6_method_5_code 20 = .ok (.dup, 1) := by decide +kernel
theorem d_Line_removeFirst_21 : decode prog_6_method_5_code 21 = .ok (.getfield 24, 3) := by decide +kernel
theorem d_Line_removeFirst_24 : decode prog_6_method_5_code 24 = .ok (.iconst 1, 1) := by decide +kernel
theorem d_Line_removeFirst_25 : decode prog_6_method_5_code 25 = .ok (.isub, 1) := by decide +kernel
theorem d_Line_removeFirst_26 : decode prog_6_method_5_code 26 = .ok (.putfield 24, 3) := by decide +kernel
theorem d_Line_removeFirst_29 : decode prog_6_method_5_code 29 = .ok (.return_, 1) := by decide +kernel
theorem d_Line_removeNotBegun_0 : decode prog_6_method_6_code 0 = .ok (.aload_n 0, 1) := by decide +kernel
theorem d_Line_removeNotBegun_1 : decode prog_6_method_6_code 1 = .ok (.getfield 24, 3) := by decide +kernel
theorem d_Line_removeNotBegun_4 : decode prog_6_method_6_code 4 = .ok (.istore_n 1, 1) := by decide +kernel
theorem d_Line_removeNotBegun_5 : decode prog_6_method_6_code 5 = .ok (.aload_n 0, 1) := by decide +kernel
theorem d_Line_removeNotBegun_6 : decode prog_6_method_6_code 6 = .ok (.aload_n 0, 1) := by decide +kernel
theorem d_Line_removeNotBegun_7 : decode prog_6_method_6_code 7 = .ok (.getfield 24, 3) := by decide +kernel
theorem d_Line_removeNotBegun_10 : decode prog_6_method_6_code 10 = .ok (.ifCond .le 17, 3) := by decide +kernel
theorem d_Line_removeNotBegun_13 : decode prog_6_method_6_code 13 = .ok (.aload_n 0, 1) := by decide +kernel
theorem d_Line_removeNotBegun_14 : decode prog_6_method_6_code 14 = .ok (.invokevirtual 31, 3) := by decide +kernel
theorem d_Line_removeNotBegun_17 : decode prog_6_method_6_code 17 = .ok (.getfield 35, 3) := by decide +kernel
theorem d_Line_removeNotBegun_20 : decode prog_6_method_6_code 20 = .ok (.ifCond .eq 7, 3) := by decide +kernel
theorem d_Line_removeNotBegun_23 : decode prog_6_method_6_code 23 = .ok (.iconst 1, 1) := by decide +kernel
theorem d_Line_removeNotBegun_24 : decode prog_6_method_6_code 24 = .ok (.goto 4, 3) := by decide +kernel
theorem d_Line_removeNotBegun_27 : decode prog_6_method_6_code 27 = .ok (.iconst 0, 1) := by decide +kernel
theorem d_Line_removeNotBegun_28 : decode prog_6_method_6_code 28 = .ok (.putfield 24, 3) := by decide +kernel
theorem d_Line_removeNotBegun_31 : decode prog_6_method_6_code 31 = .ok (.iload_n 1, 1) := by decide +kernel
theorem d_Line_removeNotBegun_32 : decode prog_6_method_6_code 32 = .ok (.aload_n 0, 1) := by decide +kernel
theorem d_Line_removeNotBegun_33 : decode prog_6_method_6_code 33 = .ok (.getfield 24, 3) := by decide +kernel
theorem d_Line_removeNotBegun_36 : decode prog_6_method_6_code 36 = .ok (.isub, 1) := by decide +kernel
theorem d_Line_removeNotBegun_37 : decode prog_6_method_6_code 37 = .ok (.ireturn, 1) := by decide +kernel
theorem d_MissionArea_init_0 : decode prog_7_method_1_code 0 = .ok (.aload_n 0, 1) := by decide +kernel
theorem d_MissionArea_init_1 : decode prog_7_method_1_code 1 = .ok (.invokespecial 1, 3) := by decide +kernel
theorem d_MissionArea_init_4 : decode prog_7_method_1_code 4 = .ok (.return_, 1) := by decide +kernel
theorem d_MissionArea_clear_0 : decode prog_7_method_3_code 0 = .ok (.aload_n 0, 1) := by decide +kernel
theorem d_MissionArea_clear_1 : decode prog_7_method_3_code 1 = .ok (.iconst 0, 1) := by decide +kernel
theorem d_MissionArea_clear_2 : decode prog_7_method_3_code 2 = .ok (.putfield 7, 3) := by decide +kernel
theorem d_MissionArea_clear_5 : decode prog_7_method_3_code 5 = .ok (.aload_n 0, 1) := by decide +kernel
theorem d_MissionArea_clear_6 : decode prog_7_method_3_code 6 = .ok (.iconst 0, 1) := by decide +kernel
theorem d_MissionArea_clear_7 : decode prog_7_method_3_code 7 = .ok (.putfield 13, 3) := by decide +kernel
theorem d_MissionArea_clear_10 : decode prog_7_method_3_code 10 = .ok (.return_, 1) := by decide +kernel
theorem d_MissionArea_make_0 : decode prog_7_method_4_code 0 = .ok (.iload_n 1, 1) := by decide +kernel
theorem d_MissionArea_make_1 : decode prog_7_method_4_code 1 = .ok (.aload_n 0, 1) := by decide +kernel
theorem d_MissionArea_make_2 : decode prog_7_method_4_code 2 = .ok (.getfield 7, 3) := by decide +kernel
theorem d_MissionArea_make_5 : decode prog_7_method_4_code 5 = .ok (.if_icmp .le 5, 3) := by decide +kernel
theorem d_MissionArea_make_8 : decode prog_7_method_4_code 8 = .ok (.iconst 0, 1) := by decide +kernel
theorem d_MissionArea_make_9 : decode prog_7_method_4_code 9 = .ok (.ireturn, 1) := by decide +kernel
theorem d_MissionArea_make_10 : decode prog_7_method_4_code 10 = .ok (.aload_n 0, 1) := by decide +kernel
theorem d_MissionArea_make_11 : decode prog_7_method_4_code 11 = .ok (.dup, 1) := by decide +kernel
theorem d_MissionArea_make_12 : decode prog_7_method_4_code 12 = .ok (.getfield 7, 3) := by decide +kernel
theorem d_MissionArea_make_15 : decode prog_7_method_4_code 15 = .ok (.iload_n 1, 1) := by decide +kernel
theorem d_MissionArea_make_16 : decode prog_7_method_4_code 16 = .ok (.isub, 1) := by decide +kernel
theorem d_MissionArea_make_17 : decode prog_7_method_4_code 17 = .ok (.putfield 7, 3) := by decide +kernel
theorem d_MissionArea_make_20 : decode prog_7_method_4_code 20 = .ok (.aload_n 0, 1) := by decide +kernel
theorem d_MissionArea_make_21 : decode prog_7_method_4_code 21 = .ok (.dup, 1) := by decide +kernel
theorem d_MissionArea_make_22 : decode prog_7_method_4_code 22 = .ok (.getfield 13, 3) := by decide +kernel
theorem d_MissionArea_make_25 : decode prog_7_method_4_code 25 = .ok (.iconst 1, 1) := by decide +kernel
theorem d_MissionArea_make_26 : decode prog_7_method_4_code 26 = .ok (.iadd, 1) := by decide +kernel
theorem d_MissionArea_make_27 : decode prog_7_method_4_code 27 = .ok (.putfield 13, 3) := by decide +kernel
theorem d_MissionArea_make_30 : decode prog_7_method_4_code 30 = .ok (.iconst 1, 1) := by decide +kernel
theorem d_MissionArea_make_31 : decode prog_7_method_4_code 31 = .ok (.ireturn, 1) := by decide +kernel
theorem d_MissionArea_open_0 : decode prog_7_method_2_code 0 = .ok (.aload_n 0, 1) := by decide +kernel
theorem d_MissionArea_open_1 : decode prog_7_method_2_code 1 = .ok (.iload_n 1, 1) := by decide +kernel
theorem d_MissionArea_open_2 : decode prog_7_method_2_code 2 = .ok (.putfield 7, 3) := by decide +kernel
theorem d_MissionArea_open_5 : decode prog_7_method_2_code 5 = .ok (.aload_n 0, 1) := by decide +kernel
theorem d_MissionArea_open_6 : decode prog_7_method_2_code 6 = .ok (.iconst 0, 1) := by decide +kernel
theorem d_MissionArea_open_7 : decode prog_7_method_2_code 7 = .ok (.putfield 13, 3) := by decide +kernel
theorem d_MissionArea_open_10 : decode prog_7_method_2_code 10 = .ok (.return_, 1) := by decide +kernel
theorem d_Release_init_0 : decode prog_8_method_1_code 0 = .ok (.aload_n 0, 1) := by decide +kernel
theorem d_Release_init_1 : decode prog_8_method_1_code 1 = .ok (.invokespecial 1, 3) := by decide +kernel
theorem d_Release_init_4 : decode prog_8_method_1_code 4 = .ok (.aload_n 0, 1) := by decide +kernel
theorem d_Release_init_5 : decode prog_8_method_1_code 5 = .ok (.iload_n 1, 1) := by decide +kernel
theorem d_Release_init_6 : decode prog_8_method_1_code 6 = .ok (.putfield 7, 3) := by decide +kernel
theorem d_Release_init_9 : decode prog_8_method_1_code 9 = .ok (.aload_n 0, 1) := by decide +kernel
theorem d_Release_init_10 : decode prog_8_method_1_code 10 = .ok (.new 13, 3) := by decide +kernel
theorem d_Release_init_13 : decode prog_8_method_1_code 13 = .ok (.dup, 1) := by decide +kernel
theorem d_Release_init_14 : decode prog_8_method_1_code 14 = .ok (.invokespecial 15, 3) := by decide +kernel
theorem d_Release_init_17 : decode prog_8_method_1_code 17 = .ok (.putfield 16, 3) := by decide +kernel
theorem d_Release_init_20 : decode prog_8_method_1_code 20 = .ok (.aload_n 0, 1) := by decide +kernel
theorem d_Release_init_21 : decode prog_8_method_1_code 21 = .ok (.new 20, 3) := by decide +kernel
theorem d_Release_init_24 : decode prog_8_method_1_code 24 = .ok (.dup, 1) := by decide +kernel
theorem d_Release_init_25 : decode prog_8_method_1_code 25 = .ok (.invokespecial 22, 3) := by decide +kernel
theorem d_Release_init_28 : decode prog_8_method_1_code 28 = .ok (.putfield 23, 3) := by decide +kernel
theorem d_Release_init_31 : decode prog_8_method_1_code 31 = .ok (.return_, 1) := by decide +kernel
theorem d_Release_come_0 : decode prog_8_method_2_code 0 = .ok (.aload_n 0, 1) := by decide +kernel
theorem d_Release_come_1 : decode prog_8_method_2_code 1 = .ok (.iload_n 1, 1) := by decide +kernel
theorem d_Release_come_2 : decode prog_8_method_2_code 2 = .ok (.putfield 27, 3) := by decide +kernel
theorem d_Release_come_5 : decode prog_8_method_2_code 5 = .ok (.aload_n 0, 1) := by decide +kernel
theorem d_Release_come_6 : decode prog_8_method_2_code 6 = .ok (.iload_n 2, 1) := by decide +kernel
theorem d_Release_come_7 : decode prog_8_method_2_code 7 = .ok (.putfield 30, 3) := by decide +kernel
theorem d_Release_come_10 : decode prog_8_method_2_code 10 = .ok (.aload_n 0, 1) := by decide +kernel
theorem d_Release_come_11 : decode prog_8_method_2_code 11 = .ok (.iconst 0, 1) := by decide +kernel
theorem d_Release_come_12 : decode prog_8_method_2_code 12 = .ok (.putfield 33, 3) := by decide +kernel
theorem d_Release_come_15 : decode prog_8_method_2_code 15 = .ok (.aload_n 0, 1) := by decide +kernel
theorem d_Release_come_16 : decode prog_8_method_2_code 16 = .ok (.iconst 0, 1) := by decide +kernel
theorem d_Release_come_17 : decode prog_8_method_2_code 17 = .ok (.putfield 37, 3) := by decide +kernel
theorem d_Release_come_20 : decode prog_8_method_2_code 20 = .ok (.aload_n 0, 1) := by decide +kernel
theorem d_Release_come_21 : decode prog_8_method_2_code 21 = .ok (.iconst 0, 1) := by decide +kernel
theorem d_Release_come_22 : decode prog_8_method_2_code 22 = .ok (.putfield 40, 3) := by decide +kernel
theorem d_Release_come_25 : decode prog_8_method_2_code 25 = .ok (.aload_n 0, 1) := by decide +kernel
theorem d_Release_come_26 : decode prog_8_method_2_code 26 = .ok (.getfield 23, 3) := by decide +kernel
theorem d_Release_come_29 : decode prog_8_method_2_code 29 = .ok (.iconst 0, 1) := by decide +kernel
theorem d_Release_come_30 : decode prog_8_method_2_code 30 = .ok (.putfield 43, 3) := by decide +kernel
theorem d_Release_come_33 : decode prog_8_method_2_code 33 = .ok (.return_, 1) := by decide +kernel
theorem d_Release_start_0 : decode prog_8_method_3_code 0 = .ok (.aload_n 0, 1) := by decide +kernel
theorem d_Release_start_1 : decode prog_8_method_3_code 1 = .ok (.iconst 1, 1) := by decide +kernel
theorem d_Release_start_2 : decode prog_8_method_3_code 2 = .ok (.putfield 33, 3) := by decide +kernel
theorem d_Release_start_5 : decode prog_8_method_3_code 5 = .ok (.aload_n 0, 1) := by decide +kernel
theorem d_Release_start_6 : decode prog_8_method_3_code 6 = .ok (.getfield 16, 3) := by decide +kernel
theorem d_Release_start_9 : decode prog_8_method_3_code 9 = .ok (.iload_n 1, 1) := by decide +kernel
theorem d_Release_start_10 : decode prog_8_method_3_code 10 = .ok (.invokevirtual 46, 3) := by decide +kernel
theorem d_Release_start_13 : decode prog_8_method_3_code 13 = .ok (.return_, 1) := by decide +kernel
theorem d_Scopes_init_0 : decode prog_9_method_1_code 0 = .ok (.aload_n 0, 1) := by decide +kernel
theorem d_Scopes_init_1 : decode prog_9_method_1_code 1 = .ok (.invokespecial 3, 3) := by decide +kernel
theorem d_Scopes_init_4 : decode prog_9_method_1_code 4 = .ok (.aload_n 0, 1) := by decide +kernel
theorem d_Scopes_init_5 : decode prog_9_method_1_code 5 = .ok (.bipush 12, 2) := by decide +kernel
theorem d_Scopes_init_7 : decode prog_9_method_1_code 7 = .ok (.newarray .int, 2) := by decide +kernel
theorem d_Scopes_init_9 : decode prog_9_method_1_code 9 = .ok (.putfield 9, 3) := by decide +kernel
theorem d_Scopes_init_12 : decode prog_9_method_1_code 12 = .ok (.aload_n 0, 1) := by decide +kernel
theorem d_Scopes_init_13 : decode prog_9_method_1_code 13 = .ok (.bipush 12, 2) := by decide +kernel
theorem d_Scopes_init_15 : decode prog_9_method_1_code 15 = .ok (.newarray .int, 2) := by decide +kernel
theorem d_Scopes_init_17 : decode prog_9_method_1_code 17 = .ok (.putfield 15, 3) := by decide +kernel
theorem d_Scopes_init_20 : decode prog_9_method_1_code 20 = .ok (.aload_n 0, 1) := by decide +kernel
theorem d_Scopes_init_21 : decode prog_9_method_1_code 21 = .ok (.bipush 10, 2) := by decide +kernel
theorem d_Scopes_init_23 : decode prog_9_method_1_code 23 = .ok (.newarray .int, 2) := by decide +kernel
theorem d_Scopes_init_25 : decode prog_9_method_1_code 25 = .ok (.putfield 18, 3) := by decide +kernel
theorem d_Scopes_init_28 : decode prog_9_method_1_code 28 = .ok (.aload_n 0, 1) := by decide +kernel
theorem d_Scopes_init_29 : decode prog_9_method_1_code 29 = .ok (.bipush 10, 2) := by decide +kernel
theorem d_Scopes_init_31 : decode prog_9_method_1_code 31 = .ok (.newarray .int, 2) := by decide +kernel
theorem d_Scopes_init_33 : decode prog_9_method_1_code 33 = .ok (.putfield 21, 3) := by decide +kernel
theorem d_Scopes_init_36 : decode prog_9_method_1_code 36 = .ok (.return_, 1) := by decide +kernel
theorem d_Scopes_makeHere_0 : decode prog_9_method_4_code 0 = .ok (.iload_n 1, 1) := by decide +kernel
theorem d_Scopes_makeHere_1 : decode prog_9_method_4_code 1 = .ok (.aload_n 0, 1) := by decide +kernel
theorem d_Scopes_makeHere_2 : decode prog_9_method_4_code 2 = .ok (.getfield 9, 3) := by decide +kernel
theorem d_Scopes_makeHere_5 : decode prog_9_method_4_code 5 = .ok (.aload_n 0, 1) := by decide +kernel
theorem d_Scopes_makeHere_6 : decode prog_9_method_4_code 6 = .ok (.getfield 24, 3) := by decide +kernel
theorem d_Scopes_makeHere_9 : decode prog_9_method_4_code 9 = .ok (.iaload, 1) := by decide +kernel
theorem d_Scopes_makeHere_10 : decode prog_9_method_4_code 10 = .ok (.if_icmp .le 5, 3) := by decide +kernel
theorem d_Scopes_makeHere_13 : decode prog_9_method_4_code 13 = .ok (.iconst 0, 1) := by decide +kernel
theorem d_Scopes_makeHere_14 : decode prog_9_method_4_code 14 = .ok (.ireturn, 1) := by decide +kernel
theorem d_Scopes_makeHere_15 : decode prog_9_method_4_code 15 = .ok (.aload_n 0, 1) := by decide +kernel
theorem d_Scopes_makeHere_16 : decode prog_9_method_4_code 16 = .ok (.getfield 9, 3) := by decide +kernel
theorem d_Scopes_makeHere_19 : decode prog_9_method_4_code 19 = .ok (.aload_n 0, 1) := by decide +kernel
theorem d_Scopes_makeHere_20 : decode prog_9_method_4_code 20 = .ok (.getfield 24, 3) := by decide +kernel
theorem d_Scopes_makeHere_23 : decode prog_9_method_4_code 23 = .ok (.dup2, 1) := by decide +kernel
theorem d_Scopes_makeHere_24 : decode prog_9_method_4_code 24 = .ok (.iaload, 1) := by decide +kernel
theorem d_Scopes_makeHere_25 : decode prog_9_method_4_code 25 = .ok (.iload_n 1, 1) := by decide +kernel
theorem d_Scopes_makeHere_26 : decode prog_9_method_4_code 26 = .ok (.isub, 1) := by decide +kernel
theorem d_Scopes_makeHere_27 : decode prog_9_method_4_code 27 = .ok (.iastore, 1) := by decide +kernel
theorem d_Scopes_makeHere_28 : decode prog_9_method_4_code 28 = .ok (.aload_n 0, 1) := by decide +kernel
theorem d_Scopes_makeHere_29 : decode prog_9_method_4_code 29 = .ok (.iload_n 1, 1) := by decide +kernel
theorem d_Scopes_makeHere_30 : decode prog_9_method_4_code 30 = .ok (.aload_n 0, 1) := by decide +kernel
theorem d_Scopes_makeHere_31 : decode prog_9_method_4_code 31 = .ok (.getfield 24, 3) := by decide +kernel
theorem d_Scopes_makeHere_34 : decode prog_9_method_4_code 34 = .ok (.invokevirtual 31, 3) := by decide +kernel
theorem d_Scopes_makeHere_37 : decode prog_9_method_4_code 37 = .ok (.iconst 1, 1) := by decide +kernel
theorem d_Scopes_makeHere_38 : decode prog_9_method_4_code 38 = .ok (.ireturn, 1) := by decide +kernel
theorem d_Scopes_note_0 : decode prog_9_method_6_code 0 = .ok (.aload_n 0, 1) := by decide +kernel
theorem d_Scopes_note_1 : decode prog_9_method_6_code 1 = .ok (.getfield 28, 3) := by decide +kernel
theorem d_Scopes_note_4 : decode prog_9_method_6_code 4 = .ok (.bipush 10, 2) := by decide +kernel
theorem d_Scopes_note_6 : decode prog_9_method_6_code 6 = .ok (.if_icmp .ge 33, 3) := by decide +kernel
theorem d_Scopes_note_9 : decode prog_9_method_6_code 9 = .ok (.aload_n 0, 1) := by decide +kernel
theorem d_Scopes_note_10 : decode prog_9_method_6_code 10 = .ok (.getfield 18, 3) := by decide +kernel
theorem d_Scopes_note_13 : decode prog_9_method_6_code 13 = .ok (.aload_n 0, 1) := by decide +kernel
theorem d_Scopes_note_14 : decode prog_9_method_6_code 14 = .ok (.getfield 28, 3) := by decide +kernel
theorem d_Scopes_note_17 : decode prog_9_method_6_code 17 = .ok (.iload_n 1, 1) := by decide +kernel
theorem d_Scopes_note_18 : decode prog_9_method_6_code 18 = .ok (.iastore, 1) := by decide +kernel
theorem d_Scopes_note_19 : decode prog_9_method_6_code 19 = .ok (.aload_n 0, 1) := by decide +kernel
theorem d_Scopes_note_20 : decode prog_9_method_6_code 20 = .ok (.getfield 21, 3) := by decide +kernel
theorem d_Scopes_note_23 : decode prog_9_method_6_code 23 = .ok (.aload_n 0, 1) := by decide +kernel
theorem d_Scopes_note_24 : decode prog_9_method_6_code 24 = .ok (.getfield 28, 3) := by decide +kernel
theorem d_Scopes_note_27 : decode prog_9_method_6_code 27 = .ok (.iload_n 2, 1) := by decide +kernel
theorem d_Scopes_note_28 : decode prog_9_method_6_code 28 = .ok (.iastore, 1) := by decide +kernel
theorem d_Scopes_note_29 : decode prog_9_method_6_code 29 = .ok (.aload_n 0, 1) := by decide +kernel
theorem d_Scopes_note_30 : decode prog_9_method_6_code 30 = .ok (.dup, 1) := by decide +kernel
theorem d_Scopes_note_31 : decode prog_9_method_6_code 31 = .ok (.getfield 28, 3) := by decide +kernel
theorem d_Scopes_note_34 : decode prog_9_method_6_code 34 = .ok (.iconst 1, 1) := by decide +kernel
theorem d_Scopes_note_35 : decode prog_9_method_6_code 35 = .ok (.iadd, 1) := by decide +kernel
theorem d_Scopes_note_36 : decode prog_9_method_6_code 36 = .ok (.putfield 28, 3) := by decide +kernel
theorem d_Scopes_note_39 : decode prog_9_method_6_code 39 = .ok (.return_, 1) := by decide +kernel
theorem d_Scopes_noteKept_0 : decode prog_9_method_5_code 0 = .ok (.aload_n 0, 1) := by decide +kernel
theorem d_Scopes_noteKept_1 : decode prog_9_method_5_code 1 = .ok (.iload_n 1, 1) := by decide +kernel
theorem d_Scopes_noteKept_2 : decode prog_9_method_5_code 2 = .ok (.iconst 0, 1) := by decide +kernel
theorem d_Scopes_noteKept_3 : decode prog_9_method_5_code 3 = .ok (.invokevirtual 31, 3) := by decide +kernel
theorem d_Scopes_noteKept_6 : decode prog_9_method_5_code 6 = .ok (.return_, 1) := by decide +kernel
theorem d_Scopes_open_0 : decode prog_9_method_2_code 0 = .ok (.aload_n 0, 1) := by decide +kernel
theorem d_Scopes_open_1 : decode prog_9_method_2_code 1 = .ok (.iconst 1, 1) := by decide +kernel
theorem d_Scopes_open_2 : decode prog_9_method_2_code 2 = .ok (.putfield 24, 3) := by decide +kernel
theorem d_Scopes_open_5 : decode prog_9_method_2_code 5 = .ok (.aload_n 0, 1) := by decide +kernel
theorem d_Scopes_open_6 : decode prog_9_method_2_code 6 = .ok (.getfield 9, 3) := by decide +kernel
theorem d_Scopes_open_9 : decode prog_9_method_2_code 9 = .ok (.iconst 1, 1) := by decide +kernel
theorem d_Scopes_open_10 : decode prog_9_method_2_code 10 = .ok (.iload_n 1, 1) := by decide +kernel
theorem d_Scopes_open_11 : decode prog_9_method_2_code 11 = .ok (.iastore, 1) := by decide +kernel
theorem d_Scopes_open_12 : decode prog_9_method_2_code 12 = .ok (.aload_n 0, 1) := by decide +kernel
theorem d_Scopes_open_13 : decode prog_9_method_2_code 13 = .ok (.iconst 0, 1) := by decide +kernel
theorem d_Scopes_open_14 : decode prog_9_method_2_code 14 = .ok (.putfield 28, 3) := by decide +kernel
theorem d_Scopes_open_17 : decode prog_9_method_2_code 17 = .ok (.return_, 1) := by decide +kernel
theorem d_Scopes_roomLeft_0 : decode prog_9_method_3_code 0 = .ok (.aload_n 0, 1) := by decide +kernel
theorem d_Scopes_roomLeft_1 : decode prog_9_method_3_code 1 = .ok (.getfield 9, 3) := by decide +kernel
theorem d_Scopes_roomLeft_4 : decode prog_9_method_3_code 4 = .ok (.aload_n 0, 1) := by decide +kernel
theorem d_Scopes_roomLeft_5 : decode prog_9_method_3_code 5 = .ok (.getfield 24, 3) := by decide +kernel
theorem d_Scopes_roomLeft_8 : decode prog_9_method_3_code 8 = .ok (.iaload, 1) := by decide +kernel
theorem d_Scopes_roomLeft_9 : decode prog_9_method_3_code 9 = .ok (.ireturn, 1) := by decide +kernel
theorem d_Turns_init_0 : decode prog_10_method_1_code 0 = .ok (.aload_n 0, 1) := by decide +kernel
theorem d_Turns_init_1 : decode prog_10_method_1_code 1 = .ok (.invokespecial 3, 3) := by decide +kernel
theorem d_Turns_init_4 : decode prog_10_method_1_code 4 = .ok (.aload_n 0, 1) := by decide +kernel
theorem d_Turns_init_5 : decode prog_10_method_1_code 5 = .ok (.iconst 4, 1) := by decide +kernel
theorem d_Turns_init_6 : decode prog_10_method_1_code 6 = .ok (.anewarray 9, 3) := by decide +kernel
theorem d_Turns_init_9 : decode prog_10_method_1_code 9 = .ok (.putfield 11, 3) := by decide +kernel
theorem d_Turns_init_12 : decode prog_10_method_1_code 12 = .ok (.iconst 0, 1) := by decide +kernel
theorem d_Turns_init_13 : decode prog_10_method_1_code 13 = .ok (.istore_n 1, 1) := by decide +kernel
theorem d_Turns_init_14 : decode prog_10_method_1_code 14 = .ok (.iload_n 1, 1) := by decide +kernel
theorem d_Turns_init_15 : decode prog_10_method_1_code 15 = .ok (.iconst 4, 1) := by decide +kernel
theorem d_Turns_init_16 : decode prog_10_method_1_code 16 = .ok (.if_icmp .ge 22, 3) := by decide +kernel
theorem d_Turns_init_19 : decode prog_10_method_1_code 19 = .ok (.aload_n 0, 1) := by decide +kernel
theorem d_Turns_init_20 : decode prog_10_method_1_code 20 = .ok (.getfield 11, 3) := by decide +kernel
theorem d_Turns_init_23 : decode prog_10_method_1_code 23 = .ok (.iload_n 1, 1) := by decide +kernel
theorem d_Turns_init_24 : decode prog_10_method_1_code 24 = .ok (.new 9, 3) := by decide +kernel
theorem d_Turns_init_27 : decode prog_10_method_1_code 27 = .ok (.dup, 1) := by decide +kernel
theorem d_Turns_init_28 : decode prog_10_method_1_code 28 = .ok (.invokespecial 17, 3) := by decide +kernel
theorem d_Turns_init_31 : decode prog_10_method_1_code 31 = .ok (.aastore, 1) := by decide +kernel
theorem d_Turns_init_32 : decode prog_10_method_1_code 32 = .ok (.iinc 1 1, 3) := by decide +kernel
theorem d_Turns_init_35 : decode prog_10_method_1_code 35 = .ok (.goto (-21), 3) := by decide +kernel
theorem d_Turns_init_38 : decode prog_10_method_1_code 38 = .ok (.aload_n 0, 1) := by decide +kernel
theorem d_Turns_init_39 : decode prog_10_method_1_code 39 = .ok (.bipush (-2), 2) := by decide +kernel
theorem d_Turns_init_41 : decode prog_10_method_1_code 41 = .ok (.putfield 18, 3) := by decide +kernel
theorem d_Turns_init_44 : decode prog_10_method_1_code 44 = .ok (.return_, 1) := by decide +kernel
theorem d_Turns_anyFrame_0 : decode prog_10_method_2_code 0 = .ok (.iconst 0, 1) := by decide +kernel
theorem d_Turns_anyFrame_1 : decode prog_10_method_2_code 1 = .ok (.istore_n 1, 1) := by decide +kernel
theorem d_Turns_anyFrame_2 : decode prog_10_method_2_code 2 = .ok (.iload_n 1, 1) := by decide +kernel
theorem d_Turns_anyFrame_3 : decode prog_10_method_2_code 3 = .ok (.iconst 4, 1) := by decide +kernel
theorem d_Turns_anyFrame_4 : decode prog_10_method_2_code 4 = .ok (.if_icmp .ge 23, 3) := by decide +kernel
theorem d_Turns_anyFrame_7 : decode prog_10_method_2_code 7 = .ok (.aload_n 0, 1) := by decide +kernel
theorem d_Turns_anyFrame_8 : decode prog_10_method_2_code 8 = .ok (.getfield 11, 3) := by decide +kernel
theorem d_Turns_anyFrame_11 : decode prog_10_method_2_code 11 = .ok (.iload_n 1, 1) := by decide +kernel
theorem d_Turns_anyFrame_12 : decode prog_10_method_2_code 12 = .ok (.aaload, 1) := by decide +kernel
theorem d_Turns_anyFrame_13 : decode prog_10_method_2_code 13 = .ok (.invokevirtual 22, 3) := by decide +kernel
theorem d_Turns_anyFrame_16 : decode prog_10_method_2_code 16 = .ok (.ifCond .eq 5, 3) := by decide +kernel
theorem d_Turns_anyFrame_21 : decode prog_10_method_2_code 21 = .ok (.iinc 1 1, 3) := by decide +kernel
theorem d_Turns_anyFrame_24 : decode prog_10_method_2_code 24 = .ok (.goto (-22), 3) := by decide +kernel
theorem d_Turns_anyFrame_27 : decode prog_10_method_2_code 27 = .ok (.iconst 0, 1) := by decide +kernel
theorem d_Turns_anyFrame_28 : decode prog_10_method_2_code 28 = .ok (.ireturn, 1) := by decide +kernel
theorem d_Turns_clear_0 : decode prog_10_method_4_code 0 = .ok (.aload_n 0, 1) := by decide +kernel
theorem d_Turns_clear_1 : decode prog_10_method_4_code 1 = .ok (.bipush (-2), 2) := by decide +kernel
theorem d_Turns_clear_3 : decode prog_10_method_4_code 3 = .ok (.putfield 18, 3) := by decide +kernel
theorem d_Turns_clear_6 : decode prog_10_method_4_code 6 = .ok (.aload_n 0, 1) := by decide +kernel
theorem d_Turns_clear_7 : decode prog_10_method_4_code 7 = .ok (.iconst 0, 1) := by decide +kernel
theorem d_Turns_clear_8 : decode prog_10_method_4_code 8 = .ok (.putfield 39, 3) := by decide +kernel
theorem d_Turns_clear_11 : decode prog_10_method_4_code 11 = .ok (.return_, 1) := by decide +kernel
theorem d_Turns_start_0 : decode prog_10_method_3_code 0 = .ok (.aload_n 0, 1) := by decide +kernel
theorem d_Turns_start_1 : decode prog_10_method_3_code 1 = .ok (.invokevirtual 26, 3) := by decide +kernel
theorem d_Turns_start_4 : decode prog_10_method_3_code 4 = .ok (.aload_n 0, 1) := by decide +kernel
theorem d_Turns_start_5 : decode prog_10_method_3_code 5 = .ok (.aload_n 0, 1) := by decide +kernel
theorem d_Turns_start_6 : decode prog_10_method_3_code 6 = .ok (.iconst 3, 1) := by decide +kernel
theorem d_Turns_start_7 : decode prog_10_method_3_code 7 = .ok (.invokevirtual 29, 3) := by decide +kernel
theorem d_Turns_start_10 : decode prog_10_method_3_code 10 = .ok (.putfield 33, 3) := by decide +kernel
theorem d_Turns_start_13 : decode prog_10_method_3_code 13 = .ok (.aload_n 0, 1) := by decide +kernel
theorem d_Turns_start_14 : decode prog_10_method_3_code 14 = .ok (.iload_n 1, 1) := by decide +kernel
theorem d_Turns_start_15 : decode prog_10_method_3_code 15 = .ok (.putfield 36, 3) := by decide +kernel
theorem d_Turns_start_18 : decode prog_10_method_3_code 18 = .ok (.return_, 1) := by decide +kernel
theorem d_Turns_thereBehind_0 : decode prog_10_method_6_code 0 = .ok (.iconst 1, 1) := by decide +kernel
theorem d_Turns_thereBehind_1 : decode prog_10_method_6_code 1 = .ok (.istore_n 2, 1) := by decide +kernel
theorem d_Turns_thereBehind_2 : decode prog_10_method_6_code 2 = .ok (.iload_n 2, 1) := by decide +kernel
theorem d_Turns_thereBehind_3 : decode prog_10_method_6_code 3 = .ok (.iconst 4, 1) := by decide +kernel
theorem d_Turns_thereBehind_4 : decode prog_10_method_6_code 4 = .ok (.if_icmp .ge 29, 3) := by decide +kernel
theorem d_Turns_thereBehind_7 : decode prog_10_method_6_code 7 = .ok (.iload_n 1, 1) := by decide +kernel
theorem d_Turns_thereBehind_8 : decode prog_10_method_6_code 8 = .ok (.iload_n 2, 1) := by decide +kernel
theorem d_Turns_thereBehind_9 : decode prog_10_method_6_code 9 = .ok (.iadd, 1) := by decide +kernel
theorem d_Turns_thereBehind_10 : decode prog_10_method_6_code 10 = .ok (.iconst 3, 1) := by decide +kernel
theorem d_Turns_thereBehind_11 : decode prog_10_method_6_code 11 = .ok (.iand, 1) := by decide +kernel
theorem d_Turns_thereBehind_12 : decode prog_10_method_6_code 12 = .ok (.istore_n 3, 1) := by decide +kernel
theorem d_Turns_thereBehind_13 : decode prog_10_method_6_code 13 = .ok (.aload_n 0, 1) := by decide +kernel
theorem d_Turns_thereBehind_14 : decode prog_10_method_6_code 14 = .ok (.getfield 11, 3) := by decide +kernel
theorem d_Turns_thereBehind_17 : decode prog_10_method_6_code 17 = .ok (.iload_n 3, 1) := by decide +kernel
theorem d_Turns_thereBehind_18 : decode prog_10_method_6_code 18 = .ok (.aaload, 1) := by decide +kernel
theorem d_Turns_thereBehind_19 : decode prog_10_method_6_code 19 = .ok (.invokevirtual 22, 3) := by decide +kernel
theorem d_Turns_thereBehind_22 : decode prog_10_method_6_code 22 = .ok (.ifCond .eq 5, 3) := by decide +kernel
theorem d_Turns_thereBehind_27 : decode prog_10_method_6_code 27 = .ok (.iinc 2 1, 3) := by decide +kernel
theorem d_Turns_thereBehind_30 : decode prog_10_method_6_code 30 = .ok (.goto (-28), 3) := by decide +kernel
theorem d_Turns_thereBehind_33 : decode prog_10_method_6_code 33 = .ok (.iload_n 1, 1) := by decide +kernel
theorem d_Turns_thereBehind_34 : decode prog_10_method_6_code 34 = .ok (.ireturn, 1) := by decide +kernel
theorem d_Law_law_0 : decode code 0 = .ok (.new 7, 3) := by decide +kernel
theorem d_Law_law_3 : decode code 3 = .ok (.dup, 1) := by decide +kernel
theorem d_Law_law_4 : decode code 4 = .ok (.invokespecial 9, 3) := by decide +kernel
theorem d_Law_law_7 : decode code 7 = .ok (.astore_n 1, 1) := by decide +kernel
theorem d_Law_law_8 : decode code 8 = .ok (.new 10, 3) := by decide +kernel
theorem d_Law_law_11 : decode code 11 = .ok (.dup, 1) := by decide +kernel
theorem d_Law_law_12 : decode code 12 = .ok (.invokespecial 12, 3) := by decide +kernel
theorem d_Law_law_15 : decode code 15 = .ok (.astore_n 2, 1) := by decide +kernel
theorem d_Law_law_16 : decode code 16 = .ok (.iconst 0, 1) := by decide +kernel
theorem d_Law_law_17 : decode code 17 = .ok (.istore_n 3, 1) := by decide +kernel
theorem d_Law_law_18 : decode code 18 = .ok (.iload_n 3, 1) := by decide +kernel
theorem d_Law_law_19 : decode code 19 = .ok (.aload_n 0, 1) := by decide +kernel
theorem d_Law_law_20 : decode code 20 = .ok (.arraylength, 1) := by decide +kernel
theorem d_Law_law_21 : decode code 21 = .ok (.bipush 6, 2) := by decide +kernel
theorem d_Law_law_23 : decode code 23 = .ok (.isub, 1) := by decide +kernel
theorem d_Law_law_24 : decode code 24 = .ok (.if_icmp .gt 548, 3) := by decide +kernel
theorem d_Law_law_27 : decode code 27 = .ok (.aload_n 0, 1) := by decide +kernel
theorem d_Law_law_28 : decode code 28 = .ok (.iload_n 3, 1) := by decide +kernel
theorem d_Law_law_29 : decode code 29 = .ok (.iaload, 1) := by decide +kernel
theorem d_Law_law_30 : decode code 30 = .ok (.bipush 15, 2) := by decide +kernel
theorem d_Law_law_32 : decode code 32 = .ok (.iand, 1) := by decide +kernel
theorem d_Law_law_33 : decode code 33 = .ok (.tableswitch 533 0 13 #[71, 134, 187, 230, 263, 296, 329, 362, 385, 408, 421, 454, 487, 510], 71) := by decide +kernel
theorem d_Law_law_104 : decode code 104 = .ok (.aload_n 1, 1) := by decide +kernel
theorem d_Law_law_105 : decode code 105 = .ok (.aload_n 0, 1) := by decide +kernel
theorem d_Law_law_106 : decode code 106 = .ok (.iload_n 3, 1) := by decide +kernel
theorem d_Law_law_107 : decode code 107 = .ok (.iconst 1, 1) := by decide +kernel
theorem d_Law_law_108 : decode code 108 = .ok (.iadd, 1) := by decide +kernel
theorem d_Law_law_109 : decode code 109 = .ok (.iaload, 1) := by decide +kernel
theorem d_Law_law_110 : decode code 110 = .ok (.aload_n 0, 1) := by decide +kernel
theorem d_Law_law_111 : decode code 111 = .ok (.iload_n 3, 1) := by decide +kernel
theorem d_Law_law_112 : decode code 112 = .ok (.iconst 2, 1) := by decide +kernel
theorem d_Law_law_113 : decode code 113 = .ok (.iadd, 1) := by decide +kernel
theorem d_Law_law_114 : decode code 114 = .ok (.iaload, 1) := by decide +kernel
theorem d_Law_law_115 : decode code 115 = .ok (.aload_n 0, 1) := by decide +kernel
theorem d_Law_law_116 : decode code 116 = .ok (.iload_n 3, 1) := by decide +kernel
theorem d_Law_law_117 : decode code 117 = .ok (.iconst 3, 1) := by decide +kernel
theorem d_Law_law_118 : decode code 118 = .ok (.iadd, 1) := by decide +kernel
theorem d_Law_law_119 : decode code 119 = .ok (.iaload, 1) := by decide +kernel
theorem d_Law_law_120 : decode code 120 = .ok (.aload_n 0, 1) := by decide +kernel
theorem d_Law_law_121 : decode code 121 = .ok (.iload_n 3, 1) := by decide +kernel
theorem d_Law_law_122 : decode code 122 = .ok (.iconst 4, 1) := by decide +kernel
theorem d_Law_law_123 : decode code 123 = .ok (.iadd, 1) := by decide +kernel
theorem d_Law_law_124 : decode code 124 = .ok (.iaload, 1) := by decide +kernel
theorem d_Law_law_125 : decode code 125 = .ok (.aload_n 0, 1) := by decide +kernel
theorem d_Law_law_126 : decode code 126 = .ok (.iload_n 3, 1) := by decide +kernel
theorem d_Law_law_127 : decode code 127 = .ok (.iconst 5, 1) := by decide +kernel
theorem d_Law_law_128 : decode code 128 = .ok (.iadd, 1) := by decide +kernel
theorem d_Law_law_129 : decode code 129 = .ok (.iaload, 1) := by decide +kernel
theorem d_Law_law_130 : decode code 130 = .ok (.invokevirtual 13, 3) := by decide +kernel
theorem d_Law_law_133 : decode code 133 = .ok (.aload_n 2, 1) := by decide +kernel
theorem d_Law_law_134 : decode code 134 = .ok (.aload_n 0, 1) := by decide +kernel
theorem d_Law_law_135 : decode code 135 = .ok (.iload_n 3, 1) := by decide +kernel
theorem d_Law_law_136 : decode code 136 = .ok (.iconst 1, 1) := by decide +kernel
theorem d_Law_law_137 : decode code 137 = .ok (.iadd, 1) := by decide +kernel
theorem d_Law_law_138 : decode code 138 = .ok (.iaload, 1) := by decide +kernel
theorem d_Law_law_139 : decode code 139 = .ok (.aload_n 0, 1) := by decide +kernel
theorem d_Law_law_140 : decode code 140 = .ok (.iload_n 3, 1) := by decide +kernel
theorem d_Law_law_141 : decode code 141 = .ok (.iconst 2, 1) := by decide +kernel
theorem d_Law_law_142 : decode code 142 = .ok (.iadd, 1) := by decide +kernel
theorem d_Law_law_143 : decode code 143 = .ok (.iaload, 1) := by decide +kernel
theorem d_Law_law_144 : decode code 144 = .ok (.aload_n 0, 1) := by decide +kernel
theorem d_Law_law_145 : decode code 145 = .ok (.iload_n 3, 1) := by decide +kernel
theorem d_Law_law_146 : decode code 146 = .ok (.iconst 3, 1) := by decide +kernel
theorem d_Law_law_147 : decode code 147 = .ok (.iadd, 1) := by decide +kernel
theorem d_Law_law_148 : decode code 148 = .ok (.iaload, 1) := by decide +kernel
theorem d_Law_law_149 : decode code 149 = .ok (.aload_n 0, 1) := by decide +kernel
theorem d_Law_law_150 : decode code 150 = .ok (.iload_n 3, 1) := by decide +kernel
theorem d_Law_law_151 : decode code 151 = .ok (.iconst 4, 1) := by decide +kernel
theorem d_Law_law_152 : decode code 152 = .ok (.iadd, 1) := by decide +kernel
theorem d_Law_law_153 : decode code 153 = .ok (.iaload, 1) := by decide +kernel
theorem d_Law_law_154 : decode code 154 = .ok (.aload_n 0, 1) := by decide +kernel
theorem d_Law_law_155 : decode code 155 = .ok (.iload_n 3, 1) := by decide +kernel
theorem d_Law_law_156 : decode code 156 = .ok (.iconst 5, 1) := by decide +kernel
theorem d_Law_law_157 : decode code 157 = .ok (.iadd, 1) := by decide +kernel
theorem d_Law_law_158 : decode code 158 = .ok (.iaload, 1) := by decide +kernel
theorem d_Law_law_159 : decode code 159 = .ok (.invokevirtual 17, 3) := by decide +kernel
theorem d_Law_law_162 : decode code 162 = .ok (.if_icmp .eq 404, 3) := by decide +kernel
theorem d_Law_law_167 : decode code 167 = .ok (.aload_n 1, 1) := by decide +kernel
theorem d_Law_law_168 : decode code 168 = .ok (.aload_n 0, 1) := by decide +kernel
theorem d_Law_law_169 : decode code 169 = .ok (.iload_n 3, 1) := by decide +kernel
theorem d_Law_law_170 : decode code 170 = .ok (.iconst 1, 1) := by decide +kernel
theorem d_Law_law_171 : decode code 171 = .ok (.iadd, 1) := by decide +kernel
theorem d_Law_law_172 : decode code 172 = .ok (.iaload, 1) := by decide +kernel
theorem d_Law_law_173 : decode code 173 = .ok (.aload_n 0, 1) := by decide +kernel
theorem d_Law_law_174 : decode code 174 = .ok (.iload_n 3, 1) := by decide +kernel
theorem d_Law_law_175 : decode code 175 = .ok (.iconst 2, 1) := by decide +kernel
theorem d_Law_law_176 : decode code 176 = .ok (.iadd, 1) := by decide +kernel
theorem d_Law_law_177 : decode code 177 = .ok (.iaload, 1) := by decide +kernel
theorem d_Law_law_178 : decode code 178 = .ok (.aload_n 0, 1) := by decide +kernel
theorem d_Law_law_179 : decode code 179 = .ok (.iload_n 3, 1) := by decide +kernel
theorem d_Law_law_180 : decode code 180 = .ok (.iconst 3, 1) := by decide +kernel
theorem d_Law_law_181 : decode code 181 = .ok (.iadd, 1) := by decide +kernel
theorem d_Law_law_182 : decode code 182 = .ok (.iaload, 1) := by decide +kernel
theorem d_Law_law_183 : decode code 183 = .ok (.aload_n 0, 1) := by decide +kernel
theorem d_Law_law_184 : decode code 184 = .ok (.iload_n 3, 1) := by decide +kernel
theorem d_Law_law_185 : decode code 185 = .ok (.iconst 4, 1) := by decide +kernel
theorem d_Law_law_186 : decode code 186 = .ok (.iadd, 1) := by decide +kernel
theorem d_Law_law_187 : decode code 187 = .ok (.iaload, 1) := by decide +kernel
theorem d_Law_law_188 : decode code 188 = .ok (.invokevirtual 18, 3) := by decide +kernel
theorem d_Law_law_191 : decode code 191 = .ok (.aload_n 2, 1) := by decide +kernel
theorem d_Law_law_192 : decode code 192 = .ok (.aload_n 0, 1) := by decide +kernel
theorem d_Law_law_193 : decode code 193 = .ok (.iload_n 3, 1) := by decide +kernel
theorem d_Law_law_194 : decode code 194 = .ok (.iconst 1, 1) := by decide +kernel
theorem d_Law_law_195 : decode code 195 = .ok (.iadd, 1) := by decide +kernel
theorem d_Law_law_196 : decode code 196 = .ok (.iaload, 1) := by decide +kernel
theorem d_Law_law_197 : decode code 197 = .ok (.aload_n 0, 1) := by decide +kernel
theorem d_Law_law_198 : decode code 198 = .ok (.iload_n 3, 1) := by decide +kernel
theorem d_Law_law_199 : decode code 199 = .ok (.iconst 2, 1) := by decide +kernel
theorem d_Law_law_200 : decode code 200 = .ok (.iadd, 1) := by decide +kernel
theorem d_Law_law_201 : decode code 201 = .ok (.iaload, 1) := by decide +kernel
theorem d_Law_law_202 : decode code 202 = .ok (.aload_n 0, 1) := by decide +kernel
theorem d_Law_law_203 : decode code 203 = .ok (.iload_n 3, 1) := by decide +kernel
theorem d_Law_law_204 : decode code 204 = .ok (.iconst 3, 1) := by decide +kernel
theorem d_Law_law_205 : decode code 205 = .ok (.iadd, 1) := by decide +kernel
theorem d_Law_law_206 : decode code 206 = .ok (.iaload, 1) := by decide +kernel
theorem d_Law_law_207 : decode code 207 = .ok (.aload_n 0, 1) := by decide +kernel
theorem d_Law_law_208 : decode code 208 = .ok (.iload_n 3, 1) := by decide +kernel
theorem d_Law_law_209 : decode code 209 = .ok (.iconst 4, 1) := by decide +kernel
theorem d_Law_law_210 : decode code 210 = .ok (.iadd, 1) := by decide +kernel
theorem d_Law_law_211 : decode code 211 = .ok (.iaload, 1) := by decide +kernel
theorem d_Law_law_212 : decode code 212 = .ok (.invokevirtual 22, 3) := by decide +kernel
theorem d_Law_law_215 : decode code 215 = .ok (.if_icmp .eq 351, 3) := by decide +kernel
theorem d_Law_law_220 : decode code 220 = .ok (.aload_n 1, 1) := by decide +kernel
theorem d_Law_law_221 : decode code 221 = .ok (.aload_n 0, 1) := by decide +kernel
theorem d_Law_law_222 : decode code 222 = .ok (.iload_n 3, 1) := by decide +kernel
theorem d_Law_law_223 : decode code 223 = .ok (.iconst 1, 1) := by decide +kernel
theorem d_Law_law_224 : decode code 224 = .ok (.iadd, 1) := by decide +kernel
theorem d_Law_law_225 : decode code 225 = .ok (.iaload, 1) := by decide +kernel
theorem d_Law_law_226 : decode code 226 = .ok (.aload_n 0, 1) := by decide +kernel
theorem d_Law_law_227 : decode code 227 = .ok (.iload_n 3, 1) := by decide +kernel
theorem d_Law_law_228 : decode code 228 = .ok (.iconst 2, 1) := by decide +kernel
theorem d_Law_law_229 : decode code 229 = .ok (.iadd, 1) := by decide +kernel
theorem d_Law_law_230 : decode code 230 = .ok (.iaload, 1) := by decide +kernel
theorem d_Law_law_231 : decode code 231 = .ok (.aload_n 0, 1) := by decide +kernel
theorem d_Law_law_232 : decode code 232 = .ok (.iload_n 3, 1) := by decide +kernel
theorem d_Law_law_233 : decode code 233 = .ok (.iconst 3, 1) := by decide +kernel
theorem d_Law_law_234 : decode code 234 = .ok (.iadd, 1) := by decide +kernel
theorem d_Law_law_235 : decode code 235 = .ok (.iaload, 1) := by decide +kernel
theorem d_Law_law_236 : decode code 236 = .ok (.invokevirtual 23, 3) := by decide +kernel
theorem d_Law_law_239 : decode code 239 = .ok (.aload_n 2, 1) := by decide +kernel
theorem d_Law_law_240 : decode code 240 = .ok (.aload_n 0, 1) := by decide +kernel
theorem d_Law_law_241 : decode code 241 = .ok (.iload_n 3, 1) := by decide +kernel
theorem d_Law_law_242 : decode code 242 = .ok (.iconst 1, 1) := by decide +kernel
theorem d_Law_law_243 : decode code 243 = .ok (.iadd, 1) := by decide +kernel
theorem d_Law_law_244 : decode code 244 = .ok (.iaload, 1) := by decide +kernel
theorem d_Law_law_245 : decode code 245 = .ok (.aload_n 0, 1) := by decide +kernel
theorem d_Law_law_246 : decode code 246 = .ok (.iload_n 3, 1) := by decide +kernel
theorem d_Law_law_247 : decode code 247 = .ok (.iconst 2, 1) := by decide +kernel
theorem d_Law_law_248 : decode code 248 = .ok (.iadd, 1) := by decide +kernel
theorem d_Law_law_249 : decode code 249 = .ok (.iaload, 1) := by decide +kernel
theorem d_Law_law_250 : decode code 250 = .ok (.aload_n 0, 1) := by decide +kernel
theorem d_Law_law_251 : decode code 251 = .ok (.iload_n 3, 1) := by decide +kernel
theorem d_Law_law_252 : decode code 252 = .ok (.iconst 3, 1) := by decide +kernel
theorem d_Law_law_253 : decode code 253 = .ok (.iadd, 1) := by decide +kernel
theorem d_Law_law_254 : decode code 254 = .ok (.iaload, 1) := by decide +kernel
theorem d_Law_law_255 : decode code 255 = .ok (.invokevirtual 27, 3) := by decide +kernel
theorem d_Law_law_258 : decode code 258 = .ok (.if_icmp .eq 308, 3) := by decide +kernel
theorem d_Law_law_263 : decode code 263 = .ok (.aload_n 1, 1) := by decide +kernel
theorem d_Law_law_264 : decode code 264 = .ok (.aload_n 0, 1) := by decide +kernel
theorem d_Law_law_265 : decode code 265 = .ok (.iload_n 3, 1) := by decide +kernel
theorem d_Law_law_266 : decode code 266 = .ok (.iconst 1, 1) := by decide +kernel
theorem d_Law_law_267 : decode code 267 = .ok (.iadd, 1) := by decide +kernel
theorem d_Law_law_268 : decode code 268 = .ok (.iaload, 1) := by decide +kernel
theorem d_Law_law_269 : decode code 269 = .ok (.aload_n 0, 1) := by decide +kernel
theorem d_Law_law_270 : decode code 270 = .ok (.iload_n 3, 1) := by decide +kernel
theorem d_Law_law_271 : decode code 271 = .ok (.iconst 2, 1) := by decide +kernel
theorem d_Law_law_272 : decode code 272 = .ok (.iadd, 1) := by decide +kernel
theorem d_Law_law_273 : decode code 273 = .ok (.iaload, 1) := by decide +kernel
theorem d_Law_law_274 : decode code 274 = .ok (.invokevirtual 28, 3) := by decide +kernel
theorem d_Law_law_277 : decode code 277 = .ok (.aload_n 2, 1) := by decide +kernel
theorem d_Law_law_278 : decode code 278 = .ok (.aload_n 0, 1) := by decide +kernel
theorem d_Law_law_279 : decode code 279 = .ok (.iload_n 3, 1) := by decide +kernel
theorem d_Law_law_280 : decode code 280 = .ok (.iconst 1, 1) := by decide +kernel
theorem d_Law_law_281 : decode code 281 = .ok (.iadd, 1) := by decide +kernel
theorem d_Law_law_282 : decode code 282 = .ok (.iaload, 1) := by decide +kernel
theorem d_Law_law_283 : decode code 283 = .ok (.aload_n 0, 1) := by decide +kernel
theorem d_Law_law_284 : decode code 284 = .ok (.iload_n 3, 1) := by decide +kernel
theorem d_Law_law_285 : decode code 285 = .ok (.iconst 2, 1) := by decide +kernel
theorem d_Law_law_286 : decode code 286 = .ok (.iadd, 1) := by decide +kernel
theorem d_Law_law_287 : decode code 287 = .ok (.iaload, 1) := by decide +kernel
theorem d_Law_law_288 : decode code 288 = .ok (.invokevirtual 32, 3) := by decide +kernel
theorem d_Law_law_291 : decode code 291 = .ok (.if_icmp .eq 275, 3) := by decide +kernel
theorem d_Law_law_296 : decode code 296 = .ok (.aload_n 1, 1) := by decide +kernel
theorem d_Law_law_297 : decode code 297 = .ok (.aload_n 0, 1) := by decide +kernel
theorem d_Law_law_298 : decode code 298 = .ok (.iload_n 3, 1) := by decide +kernel
theorem d_Law_law_299 : decode code 299 = .ok (.iconst 1, 1) := by decide +kernel
theorem d_Law_law_300 : decode code 300 = .ok (.iadd, 1) := by decide +kernel
theorem d_Law_law_301 : decode code 301 = .ok (.iaload, 1) := by decide +kernel
theorem d_Law_law_302 : decode code 302 = .ok (.aload_n 0, 1) := by decide +kernel
theorem d_Law_law_303 : decode code 303 = .ok (.iload_n 3, 1) := by decide +kernel
theorem d_Law_law_304 : decode code 304 = .ok (.iconst 2, 1) := by decide +kernel
theorem d_Law_law_305 : decode code 305 = .ok (.iadd, 1) := by decide +kernel
theorem d_Law_law_306 : decode code 306 = .ok (.iaload, 1) := by decide +kernel
theorem d_Law_law_307 : decode code 307 = .ok (.invokevirtual 33, 3) := by decide +kernel
theorem d_Law_law_310 : decode code 310 = .ok (.aload_n 2, 1) := by decide +kernel
theorem d_Law_law_311 : decode code 311 = .ok (.aload_n 0, 1) := by decide +kernel
theorem d_Law_law_312 : decode code 312 = .ok (.iload_n 3, 1) := by decide +kernel
theorem d_Law_law_313 : decode code 313 = .ok (.iconst 1, 1) := by decide +kernel
theorem d_Law_law_314 : decode code 314 = .ok (.iadd, 1) := by decide +kernel
theorem d_Law_law_315 : decode code 315 = .ok (.iaload, 1) := by decide +kernel
theorem d_Law_law_316 : decode code 316 = .ok (.aload_n 0, 1) := by decide +kernel
theorem d_Law_law_317 : decode code 317 = .ok (.iload_n 3, 1) := by decide +kernel
theorem d_Law_law_318 : decode code 318 = .ok (.iconst 2, 1) := by decide +kernel
theorem d_Law_law_319 : decode code 319 = .ok (.iadd, 1) := by decide +kernel
theorem d_Law_law_320 : decode code 320 = .ok (.iaload, 1) := by decide +kernel
theorem d_Law_law_321 : decode code 321 = .ok (.invokevirtual 36, 3) := by decide +kernel
theorem d_Law_law_324 : decode code 324 = .ok (.if_icmp .eq 242, 3) := by decide +kernel
theorem d_Law_law_329 : decode code 329 = .ok (.aload_n 1, 1) := by decide +kernel
theorem d_Law_law_330 : decode code 330 = .ok (.aload_n 0, 1) := by decide +kernel
theorem d_Law_law_331 : decode code 331 = .ok (.iload_n 3, 1) := by decide +kernel
theorem d_Law_law_332 : decode code 332 = .ok (.iconst 1, 1) := by decide +kernel
theorem d_Law_law_333 : decode code 333 = .ok (.iadd, 1) := by decide +kernel
theorem d_Law_law_334 : decode code 334 = .ok (.iaload, 1) := by decide +kernel
theorem d_Law_law_335 : decode code 335 = .ok (.aload_n 0, 1) := by decide +kernel
theorem d_Law_law_336 : decode code 336 = .ok (.iload_n 3, 1) := by decide +kernel
theorem d_Law_law_337 : decode code 337 = .ok (.iconst 2, 1) := by decide +kernel
theorem d_Law_law_338 : decode code 338 = .ok (.iadd, 1) := by decide +kernel
theorem d_Law_law_339 : decode code 339 = .ok (.iaload, 1) := by decide +kernel
theorem d_Law_law_340 : decode code 340 = .ok (.invokevirtual 37, 3) := by decide +kernel
theorem d_Law_law_343 : decode code 343 = .ok (.aload_n 2, 1) := by decide +kernel
theorem d_Law_law_344 : decode code 344 = .ok (.aload_n 0, 1) := by decide +kernel
theorem d_Law_law_345 : decode code 345 = .ok (.iload_n 3, 1) := by decide +kernel
theorem d_Law_law_346 : decode code 346 = .ok (.iconst 1, 1) := by decide +kernel
theorem d_Law_law_347 : decode code 347 = .ok (.iadd, 1) := by decide +kernel
theorem d_Law_law_348 : decode code 348 = .ok (.iaload, 1) := by decide +kernel
theorem d_Law_law_349 : decode code 349 = .ok (.aload_n 0, 1) := by decide +kernel
theorem d_Law_law_350 : decode code 350 = .ok (.iload_n 3, 1) := by decide +kernel
theorem d_Law_law_351 : decode code 351 = .ok (.iconst 2, 1) := by decide +kernel
theorem d_Law_law_352 : decode code 352 = .ok (.iadd, 1) := by decide +kernel
theorem d_Law_law_353 : decode code 353 = .ok (.iaload, 1) := by decide +kernel
theorem d_Law_law_354 : decode code 354 = .ok (.invokevirtual 41, 3) := by decide +kernel
theorem d_Law_law_357 : decode code 357 = .ok (.if_icmp .eq 209, 3) := by decide +kernel
theorem d_Law_law_362 : decode code 362 = .ok (.aload_n 1, 1) := by decide +kernel
theorem d_Law_law_363 : decode code 363 = .ok (.aload_n 0, 1) := by decide +kernel
theorem d_Law_law_364 : decode code 364 = .ok (.iload_n 3, 1) := by decide +kernel
theorem d_Law_law_365 : decode code 365 = .ok (.iconst 1, 1) := by decide +kernel
theorem d_Law_law_366 : decode code 366 = .ok (.iadd, 1) := by decide +kernel
theorem d_Law_law_367 : decode code 367 = .ok (.iaload, 1) := by decide +kernel
theorem d_Law_law_368 : decode code 368 = .ok (.aload_n 0, 1) := by decide +kernel
theorem d_Law_law_369 : decode code 369 = .ok (.iload_n 3, 1) := by decide +kernel
theorem d_Law_law_370 : decode code 370 = .ok (.iconst 2, 1) := by decide +kernel
theorem d_Law_law_371 : decode code 371 = .ok (.iadd, 1) := by decide +kernel
theorem d_Law_law_372 : decode code 372 = .ok (.iaload, 1) := by decide +kernel
theorem d_Law_law_373 : decode code 373 = .ok (.invokevirtual 42, 3) := by decide +kernel
theorem d_Law_law_376 : decode code 376 = .ok (.aload_n 2, 1) := by decide +kernel
theorem d_Law_law_377 : decode code 377 = .ok (.aload_n 0, 1) := by decide +kernel
theorem d_Law_law_378 : decode code 378 = .ok (.iload_n 3, 1) := by decide +kernel
theorem d_Law_law_379 : decode code 379 = .ok (.iconst 1, 1) := by decide +kernel
theorem d_Law_law_380 : decode code 380 = .ok (.iadd, 1) := by decide +kernel
theorem d_Law_law_381 : decode code 381 = .ok (.iaload, 1) := by decide +kernel
theorem d_Law_law_382 : decode code 382 = .ok (.aload_n 0, 1) := by decide +kernel
theorem d_Law_law_383 : decode code 383 = .ok (.iload_n 3, 1) := by decide +kernel
theorem d_Law_law_384 : decode code 384 = .ok (.iconst 2, 1) := by decide +kernel
theorem d_Law_law_385 : decode code 385 = .ok (.iadd, 1) := by decide +kernel
theorem d_Law_law_386 : decode code 386 = .ok (.iaload, 1) := by decide +kernel
theorem d_Law_law_387 : decode code 387 = .ok (.invokevirtual 45, 3) := by decide +kernel
theorem d_Law_law_390 : decode code 390 = .ok (.if_icmp .eq 176, 3) := by decide +kernel
theorem d_Law_law_395 : decode code 395 = .ok (.aload_n 1, 1) := by decide +kernel
theorem d_Law_law_396 : decode code 396 = .ok (.aload_n 0, 1) := by decide +kernel
theorem d_Law_law_397 : decode code 397 = .ok (.iload_n 3, 1) := by decide +kernel
theorem d_Law_law_398 : decode code 398 = .ok (.iconst 1, 1) := by decide +kernel
theorem d_Law_law_399 : decode code 399 = .ok (.iadd, 1) := by decide +kernel
theorem d_Law_law_400 : decode code 400 = .ok (.iaload, 1) := by decide +kernel
theorem d_Law_law_401 : decode code 401 = .ok (.invokevirtual 46, 3) := by decide +kernel
theorem d_Law_law_404 : decode code 404 = .ok (.aload_n 2, 1) := by decide +kernel
theorem d_Law_law_405 : decode code 405 = .ok (.aload_n 0, 1) := by decide +kernel
theorem d_Law_law_406 : decode code 406 = .ok (.iload_n 3, 1) := by decide +kernel
theorem d_Law_law_407 : decode code 407 = .ok (.iconst 1, 1) := by decide +kernel
theorem d_Law_law_408 : decode code 408 = .ok (.iadd, 1) := by decide +kernel
theorem d_Law_law_409 : decode code 409 = .ok (.iaload, 1) := by decide +kernel
theorem d_Law_law_410 : decode code 410 = .ok (.invokevirtual 50, 3) := by decide +kernel
theorem d_Law_law_413 : decode code 413 = .ok (.if_icmp .eq 153, 3) := by decide +kernel
theorem d_Law_law_418 : decode code 418 = .ok (.aload_n 1, 1) := by decide +kernel
theorem d_Law_law_419 : decode code 419 = .ok (.aload_n 0, 1) := by decide +kernel
theorem d_Law_law_420 : decode code 420 = .ok (.iload_n 3, 1) := by decide +kernel
theorem d_Law_law_421 : decode code 421 = .ok (.iconst 1, 1) := by decide +kernel
theorem d_Law_law_422 : decode code 422 = .ok (.iadd, 1) := by decide +kernel
theorem d_Law_law_423 : decode code 423 = .ok (.iaload, 1) := by decide +kernel
theorem d_Law_law_424 : decode code 424 = .ok (.invokevirtual 51, 3) := by decide +kernel
theorem d_Law_law_427 : decode code 427 = .ok (.aload_n 2, 1) := by decide +kernel
theorem d_Law_law_428 : decode code 428 = .ok (.aload_n 0, 1) := by decide +kernel
theorem d_Law_law_429 : decode code 429 = .ok (.iload_n 3, 1) := by decide +kernel
theorem d_Law_law_430 : decode code 430 = .ok (.iconst 1, 1) := by decide +kernel
theorem d_Law_law_431 : decode code 431 = .ok (.iadd, 1) := by decide +kernel
theorem d_Law_law_432 : decode code 432 = .ok (.iaload, 1) := by decide +kernel
theorem d_Law_law_433 : decode code 433 = .ok (.invokevirtual 54, 3) := by decide +kernel
theorem d_Law_law_436 : decode code 436 = .ok (.if_icmp .eq 130, 3) := by decide +kernel
theorem d_Law_law_441 : decode code 441 = .ok (.aload_n 1, 1) := by decide +kernel
theorem d_Law_law_442 : decode code 442 = .ok (.invokevirtual 55, 3) := by decide +kernel
theorem d_Law_law_445 : decode code 445 = .ok (.aload_n 2, 1) := by decide +kernel
theorem d_Law_law_446 : decode code 446 = .ok (.invokevirtual 59, 3) := by decide +kernel
theorem d_Law_law_449 : decode code 449 = .ok (.if_icmp .eq 117, 3) := by decide +kernel
theorem d_Law_law_454 : decode code 454 = .ok (.aload_n 1, 1) := by decide +kernel
theorem d_Law_law_455 : decode code 455 = .ok (.aload_n 0, 1) := by decide +kernel
theorem d_Law_law_456 : decode code 456 = .ok (.iload_n 3, 1) := by decide +kernel
theorem d_Law_law_457 : decode code 457 = .ok (.iconst 1, 1) := by decide +kernel
theorem d_Law_law_458 : decode code 458 = .ok (.iadd, 1) := by decide +kernel
theorem d_Law_law_459 : decode code 459 = .ok (.iaload, 1) := by decide +kernel
theorem d_Law_law_460 : decode code 460 = .ok (.aload_n 0, 1) := by decide +kernel
theorem d_Law_law_461 : decode code 461 = .ok (.iload_n 3, 1) := by decide +kernel
theorem d_Law_law_462 : decode code 462 = .ok (.iconst 2, 1) := by decide +kernel
theorem d_Law_law_463 : decode code 463 = .ok (.iadd, 1) := by decide +kernel
theorem d_Law_law_464 : decode code 464 = .ok (.iaload, 1) := by decide +kernel
theorem d_Law_law_465 : decode code 465 = .ok (.invokevirtual 60, 3) := by decide +kernel
theorem d_Law_law_468 : decode code 468 = .ok (.aload_n 2, 1) := by decide +kernel
theorem d_Law_law_469 : decode code 469 = .ok (.aload_n 0, 1) := by decide +kernel
theorem d_Law_law_470 : decode code 470 = .ok (.iload_n 3, 1) := by decide +kernel
theorem d_Law_law_471 : decode code 471 = .ok (.iconst 1, 1) := by decide +kernel
theorem d_Law_law_472 : decode code 472 = .ok (.iadd, 1) := by decide +kernel
theorem d_Law_law_473 : decode code 473 = .ok (.iaload, 1) := by decide +kernel
theorem d_Law_law_474 : decode code 474 = .ok (.aload_n 0, 1) := by decide +kernel
theorem d_Law_law_475 : decode code 475 = .ok (.iload_n 3, 1) := by decide +kernel
theorem d_Law_law_476 : decode code 476 = .ok (.iconst 2, 1) := by decide +kernel
theorem d_Law_law_477 : decode code 477 = .ok (.iadd, 1) := by decide +kernel
theorem d_Law_law_478 : decode code 478 = .ok (.iaload, 1) := by decide +kernel
theorem d_Law_law_479 : decode code 479 = .ok (.invokevirtual 63, 3) := by decide +kernel
theorem d_Law_law_482 : decode code 482 = .ok (.if_icmp .eq 84, 3) := by decide +kernel
theorem d_Law_law_487 : decode code 487 = .ok (.aload_n 1, 1) := by decide +kernel
theorem d_Law_law_488 : decode code 488 = .ok (.aload_n 0, 1) := by decide +kernel
theorem d_Law_law_489 : decode code 489 = .ok (.iload_n 3, 1) := by decide +kernel
theorem d_Law_law_490 : decode code 490 = .ok (.iconst 1, 1) := by decide +kernel
theorem d_Law_law_491 : decode code 491 = .ok (.iadd, 1) := by decide +kernel
theorem d_Law_law_492 : decode code 492 = .ok (.iaload, 1) := by decide +kernel
theorem d_Law_law_493 : decode code 493 = .ok (.aload_n 0, 1) := by decide +kernel
theorem d_Law_law_494 : decode code 494 = .ok (.iload_n 3, 1) := by decide +kernel
theorem d_Law_law_495 : decode code 495 = .ok (.iconst 2, 1) := by decide +kernel
theorem d_Law_law_496 : decode code 496 = .ok (.iadd, 1) := by decide +kernel
theorem d_Law_law_497 : decode code 497 = .ok (.iaload, 1) := by decide +kernel
theorem d_Law_law_498 : decode code 498 = .ok (.invokevirtual 64, 3) := by decide +kernel
theorem d_Law_law_501 : decode code 501 = .ok (.aload_n 2, 1) := by decide +kernel
theorem d_Law_law_502 : decode code 502 = .ok (.aload_n 0, 1) := by decide +kernel
theorem d_Law_law_503 : decode code 503 = .ok (.iload_n 3, 1) := by decide +kernel
theorem d_Law_law_504 : decode code 504 = .ok (.iconst 1, 1) := by decide +kernel
theorem d_Law_law_505 : decode code 505 = .ok (.iadd, 1) := by decide +kernel
theorem d_Law_law_506 : decode code 506 = .ok (.iaload, 1) := by decide +kernel
theorem d_Law_law_507 : decode code 507 = .ok (.aload_n 0, 1) := by decide +kernel
theorem d_Law_law_508 : decode code 508 = .ok (.iload_n 3, 1) := by decide +kernel
theorem d_Law_law_509 : decode code 509 = .ok (.iconst 2, 1) := by decide +kernel
theorem d_Law_law_510 : decode code 510 = .ok (.iadd, 1) := by decide +kernel
theorem d_Law_law_511 : decode code 511 = .ok (.iaload, 1) := by decide +kernel
theorem d_Law_law_512 : decode code 512 = .ok (.invokevirtual 67, 3) := by decide +kernel
theorem d_Law_law_515 : decode code 515 = .ok (.if_icmp .eq 51, 3) := by decide +kernel
theorem d_Law_law_520 : decode code 520 = .ok (.aload_n 1, 1) := by decide +kernel
theorem d_Law_law_521 : decode code 521 = .ok (.aload_n 0, 1) := by decide +kernel
theorem d_Law_law_522 : decode code 522 = .ok (.iload_n 3, 1) := by decide +kernel
theorem d_Law_law_523 : decode code 523 = .ok (.iconst 1, 1) := by decide +kernel
theorem d_Law_law_524 : decode code 524 = .ok (.iadd, 1) := by decide +kernel
theorem d_Law_law_525 : decode code 525 = .ok (.iaload, 1) := by decide +kernel
theorem d_Law_law_526 : decode code 526 = .ok (.invokevirtual 68, 3) := by decide +kernel
theorem d_Law_law_529 : decode code 529 = .ok (.aload_n 2, 1) := by decide +kernel
theorem d_Law_law_530 : decode code 530 = .ok (.aload_n 0, 1) := by decide +kernel
theorem d_Law_law_531 : decode code 531 = .ok (.iload_n 3, 1) := by decide +kernel
theorem d_Law_law_532 : decode code 532 = .ok (.iconst 1, 1) := by decide +kernel
theorem d_Law_law_533 : decode code 533 = .ok (.iadd, 1) := by decide +kernel
theorem d_Law_law_534 : decode code 534 = .ok (.iaload, 1) := by decide +kernel
theorem d_Law_law_535 : decode code 535 = .ok (.invokevirtual 71, 3) := by decide +kernel
theorem d_Law_law_538 : decode code 538 = .ok (.if_icmp .eq 28, 3) := by decide +kernel
theorem d_Law_law_543 : decode code 543 = .ok (.aload_n 1, 1) := by decide +kernel
theorem d_Law_law_544 : decode code 544 = .ok (.aload_n 0, 1) := by decide +kernel
theorem d_Law_law_545 : decode code 545 = .ok (.iload_n 3, 1) := by decide +kernel
theorem d_Law_law_546 : decode code 546 = .ok (.iconst 1, 1) := by decide +kernel
theorem d_Law_law_547 : decode code 547 = .ok (.iadd, 1) := by decide +kernel
theorem d_Law_law_548 : decode code 548 = .ok (.iaload, 1) := by decide +kernel
theorem d_Law_law_549 : decode code 549 = .ok (.invokevirtual 72, 3) := by decide +kernel
theorem d_Law_law_552 : decode code 552 = .ok (.aload_n 2, 1) := by decide +kernel
theorem d_Law_law_553 : decode code 553 = .ok (.aload_n 0, 1) := by decide +kernel
theorem d_Law_law_554 : decode code 554 = .ok (.iload_n 3, 1) := by decide +kernel
theorem d_Law_law_555 : decode code 555 = .ok (.iconst 1, 1) := by decide +kernel
theorem d_Law_law_556 : decode code 556 = .ok (.iadd, 1) := by decide +kernel
theorem d_Law_law_557 : decode code 557 = .ok (.iaload, 1) := by decide +kernel
theorem d_Law_law_558 : decode code 558 = .ok (.invokevirtual 75, 3) := by decide +kernel
theorem d_Law_law_561 : decode code 561 = .ok (.if_icmp .eq 5, 3) := by decide +kernel
theorem d_Law_law_566 : decode code 566 = .ok (.iinc 3 6, 3) := by decide +kernel
theorem d_Law_law_569 : decode code 569 = .ok (.goto (-551), 3) := by decide +kernel
theorem d_Law_law_572 : decode code 572 = .ok (.iconst 1, 1) := by decide +kernel
theorem d_Law_law_573 : decode code 573 = .ok (.ireturn, 1) := by decide +kernel
theorem d_Model_init_0 : decode prog_12_method_1_code 0 = .ok (.aload_n 0, 1) := by decide +kernel
theorem d_Model_init_1 : decode prog_12_method_1_code 1 = .ok (.invokespecial 1, 3) := by decide +kernel
theorem d_Model_init_4 : decode prog_12_method_1_code 4 = .ok (.aload_n 0, 1) := by decide +kernel
theorem d_Model_init_5 : decode prog_12_method_1_code 5 = .ok (.bipush 8, 2) := by decide +kernel
theorem d_Model_init_7 : decode prog_12_method_1_code 7 = .ok (.newarray .boolean, 2) := by decide +kernel
theorem d_Model_init_9 : decode prog_12_method_1_code 9 = .ok (.putfield 7, 3) := by decide +kernel
theorem d_Model_init_12 : decode prog_12_method_1_code 12 = .ok (.aload_n 0, 1) := by decide +kernel
theorem d_Model_init_13 : decode prog_12_method_1_code 13 = .ok (.bipush 8, 2) := by decide +kernel
theorem d_Model_init_15 : decode prog_12_method_1_code 15 = .ok (.newarray .int, 2) := by decide +kernel
theorem d_Model_init_17 : decode prog_12_method_1_code 17 = .ok (.putfield 13, 3) := by decide +kernel
theorem d_Model_init_20 : decode prog_12_method_1_code 20 = .ok (.aload_n 0, 1) := by decide +kernel
theorem d_Model_init_21 : decode prog_12_method_1_code 21 = .ok (.bipush 8, 2) := by decide +kernel
theorem d_Model_init_23 : decode prog_12_method_1_code 23 = .ok (.newarray .int, 2) := by decide +kernel
theorem d_Model_init_25 : decode prog_12_method_1_code 25 = .ok (.putfield 17, 3) := by decide +kernel
theorem d_Model_init_28 : decode prog_12_method_1_code 28 = .ok (.aload_n 0, 1) := by decide +kernel
theorem d_Model_init_29 : decode prog_12_method_1_code 29 = .ok (.bipush 8, 2) := by decide +kernel
theorem d_Model_init_31 : decode prog_12_method_1_code 31 = .ok (.newarray .int, 2) := by decide +kernel
theorem d_Model_init_33 : decode prog_12_method_1_code 33 = .ok (.putfield 20, 3) := by decide +kernel
theorem d_Model_init_36 : decode prog_12_method_1_code 36 = .ok (.aload_n 0, 1) := by decide +kernel
theorem d_Model_init_37 : decode prog_12_method_1_code 37 = .ok (.bipush 8, 2) := by decide +kernel
theorem d_Model_init_39 : decode prog_12_method_1_code 39 = .ok (.newarray .int, 2) := by decide +kernel
theorem d_Model_init_41 : decode prog_12_method_1_code 41 = .ok (.putfield 23, 3) := by decide +kernel
theorem d_Model_init_44 : decode prog_12_method_1_code 44 = .ok (.aload_n 0, 1) := by decide +kernel
theorem d_Model_init_45 : decode prog_12_method_1_code 45 = .ok (.bipush 8, 2) := by decide +kernel
theorem d_Model_init_47 : decode prog_12_method_1_code 47 = .ok (.newarray .int, 2) := by decide +kernel
theorem d_Model_init_49 : decode prog_12_method_1_code 49 = .ok (.putfield 26, 3) := by decide +kernel
theorem d_Model_init_52 : decode prog_12_method_1_code 52 = .ok (.aload_n 0, 1) := by decide +kernel
theorem d_Model_init_53 : decode prog_12_method_1_code 53 = .ok (.bipush 8, 2) := by decide +kernel
theorem d_Model_init_55 : decode prog_12_method_1_code 55 = .ok (.newarray .int, 2) := by decide +kernel
theorem d_Model_init_57 : decode prog_12_method_1_code 57 = .ok (.putfield 29, 3) := by decide +kernel
theorem d_Model_init_60 : decode prog_12_method_1_code 60 = .ok (.aload_n 0, 1) := by decide +kernel
theorem d_Model_init_61 : decode prog_12_method_1_code 61 = .ok (.bipush 8, 2) := by decide +kernel
theorem d_Model_init_63 : decode prog_12_method_1_code 63 = .ok (.newarray .int, 2) := by decide +kernel
theorem d_Model_init_65 : decode prog_12_method_1_code 65 = .ok (.putfield 32, 3) := by decide +kernel
theorem d_Model_init_68 : decode prog_12_method_1_code 68 = .ok (.aload_n 0, 1) := by decide +kernel
theorem d_Model_init_69 : decode prog_12_method_1_code 69 = .ok (.bipush 8, 2) := by decide +kernel
theorem d_Model_init_71 : decode prog_12_method_1_code 71 = .ok (.newarray .int, 2) := by decide +kernel
theorem d_Model_init_73 : decode prog_12_method_1_code 73 = .ok (.putfield 35, 3) := by decide +kernel
theorem d_Model_init_76 : decode prog_12_method_1_code 76 = .ok (.aload_n 0, 1) := by decide +kernel
theorem d_Model_init_77 : decode prog_12_method_1_code 77 = .ok (.bipush 80, 2) := by decide +kernel
theorem d_Model_init_79 : decode prog_12_method_1_code 79 = .ok (.newarray .int, 2) := by decide +kernel
theorem d_Model_init_81 : decode prog_12_method_1_code 81 = .ok (.putfield 38, 3) := by decide +kernel
theorem d_Model_init_84 : decode prog_12_method_1_code 84 = .ok (.aload_n 0, 1) := by decide +kernel
theorem d_Model_init_85 : decode prog_12_method_1_code 85 = .ok (.bipush 80, 2) := by decide +kernel
theorem d_Model_init_87 : decode prog_12_method_1_code 87 = .ok (.newarray .int, 2) := by decide +kernel
theorem d_Model_init_89 : decode prog_12_method_1_code 89 = .ok (.putfield 41, 3) := by decide +kernel
theorem d_Model_init_92 : decode prog_12_method_1_code 92 = .ok (.aload_n 0, 1) := by decide +kernel
theorem d_Model_init_93 : decode prog_12_method_1_code 93 = .ok (.iconst 4, 1) := by decide +kernel
theorem d_Model_init_94 : decode prog_12_method_1_code 94 = .ok (.newarray .int, 2) := by decide +kernel
theorem d_Model_init_96 : decode prog_12_method_1_code 96 = .ok (.putfield 44, 3) := by decide +kernel
theorem d_Model_init_99 : decode prog_12_method_1_code 99 = .ok (.aload_n 0, 1) := by decide +kernel
theorem d_Model_init_100 : decode prog_12_method_1_code 100 = .ok (.iconst 4, 1) := by decide +kernel
theorem d_Model_init_101 : decode prog_12_method_1_code 101 = .ok (.newarray .int, 2) := by decide +kernel
theorem d_Model_init_103 : decode prog_12_method_1_code 103 = .ok (.putfield 47, 3) := by decide +kernel
theorem d_Model_init_106 : decode prog_12_method_1_code 106 = .ok (.aload_n 0, 1) := by decide +kernel
theorem d_Model_init_107 : decode prog_12_method_1_code 107 = .ok (.iconst 4, 1) := by decide +kernel
theorem d_Model_init_108 : decode prog_12_method_1_code 108 = .ok (.newarray .int, 2) := by decide +kernel
theorem d_Model_init_110 : decode prog_12_method_1_code 110 = .ok (.putfield 50, 3) := by decide +kernel
theorem d_Model_init_113 : decode prog_12_method_1_code 113 = .ok (.aload_n 0, 1) := by decide +kernel
theorem d_Model_init_114 : decode prog_12_method_1_code 114 = .ok (.bipush 16, 2) := by decide +kernel
theorem d_Model_init_116 : decode prog_12_method_1_code 116 = .ok (.newarray .int, 2) := by decide +kernel
theorem d_Model_init_118 : decode prog_12_method_1_code 118 = .ok (.putfield 53, 3) := by decide +kernel
theorem d_Model_init_121 : decode prog_12_method_1_code 121 = .ok (.aload_n 0, 1) := by decide +kernel
theorem d_Model_init_122 : decode prog_12_method_1_code 122 = .ok (.bipush 8, 2) := by decide +kernel
theorem d_Model_init_124 : decode prog_12_method_1_code 124 = .ok (.newarray .int, 2) := by decide +kernel
theorem d_Model_init_126 : decode prog_12_method_1_code 126 = .ok (.putfield 56, 3) := by decide +kernel
theorem d_Model_init_129 : decode prog_12_method_1_code 129 = .ok (.aload_n 0, 1) := by decide +kernel
theorem d_Model_init_130 : decode prog_12_method_1_code 130 = .ok (.bipush 32, 2) := by decide +kernel
theorem d_Model_init_132 : decode prog_12_method_1_code 132 = .ok (.newarray .int, 2) := by decide +kernel
theorem d_Model_init_134 : decode prog_12_method_1_code 134 = .ok (.putfield 59, 3) := by decide +kernel
theorem d_Model_init_137 : decode prog_12_method_1_code 137 = .ok (.aload_n 0, 1) := by decide +kernel
theorem d_Model_init_138 : decode prog_12_method_1_code 138 = .ok (.bipush 32, 2) := by decide +kernel
theorem d_Model_init_140 : decode prog_12_method_1_code 140 = .ok (.newarray .int, 2) := by decide +kernel
theorem d_Model_init_142 : decode prog_12_method_1_code 142 = .ok (.putfield 62, 3) := by decide +kernel
theorem d_Model_init_145 : decode prog_12_method_1_code 145 = .ok (.aload_n 0, 1) := by decide +kernel
theorem d_Model_init_146 : decode prog_12_method_1_code 146 = .ok (.bipush 8, 2) := by decide +kernel
theorem d_Model_init_148 : decode prog_12_method_1_code 148 = .ok (.newarray .boolean, 2) := by decide +kernel
theorem d_Model_init_150 : decode prog_12_method_1_code 150 = .ok (.putfield 65, 3) := by decide +kernel
theorem d_Model_init_153 : decode prog_12_method_1_code 153 = .ok (.aload_n 0, 1) := by decide +kernel
theorem d_Model_init_154 : decode prog_12_method_1_code 154 = .ok (.bipush 8, 2) := by decide +kernel
theorem d_Model_init_156 : decode prog_12_method_1_code 156 = .ok (.newarray .int, 2) := by decide +kernel
theorem d_Model_init_158 : decode prog_12_method_1_code 158 = .ok (.putfield 68, 3) := by decide +kernel
theorem d_Model_init_161 : decode prog_12_method_1_code 161 = .ok (.aload_n 0, 1) := by decide +kernel
theorem d_Model_init_162 : decode prog_12_method_1_code 162 = .ok (.bipush 8, 2) := by decide +kernel
theorem d_Model_init_164 : decode prog_12_method_1_code 164 = .ok (.newarray .int, 2) := by decide +kernel
theorem d_Model_init_166 : decode prog_12_method_1_code 166 = .ok (.putfield 71, 3) := by decide +kernel
theorem d_Model_init_169 : decode prog_12_method_1_code 169 = .ok (.aload_n 0, 1) := by decide +kernel
theorem d_Model_init_170 : decode prog_12_method_1_code 170 = .ok (.bipush 8, 2) := by decide +kernel
theorem d_Model_init_172 : decode prog_12_method_1_code 172 = .ok (.newarray .int, 2) := by decide +kernel
theorem d_Model_init_174 : decode prog_12_method_1_code 174 = .ok (.putfield 74, 3) := by decide +kernel
theorem d_Model_init_177 : decode prog_12_method_1_code 177 = .ok (.aload_n 0, 1) := by decide +kernel
theorem d_Model_init_178 : decode prog_12_method_1_code 178 = .ok (.bipush 96, 2) := by decide +kernel
theorem d_Model_init_180 : decode prog_12_method_1_code 180 = .ok (.newarray .int, 2) := by decide +kernel
theorem d_Model_init_182 : decode prog_12_method_1_code 182 = .ok (.putfield 77, 3) := by decide +kernel
theorem d_Model_init_185 : decode prog_12_method_1_code 185 = .ok (.aload_n 0, 1) := by decide +kernel
theorem d_Model_init_186 : decode prog_12_method_1_code 186 = .ok (.bipush 96, 2) := by decide +kernel
theorem d_Model_init_188 : decode prog_12_method_1_code 188 = .ok (.newarray .int, 2) := by decide +kernel
theorem d_Model_init_190 : decode prog_12_method_1_code 190 = .ok (.putfield 80, 3) := by decide +kernel
theorem d_Model_init_193 : decode prog_12_method_1_code 193 = .ok (.aload_n 0, 1) := by decide +kernel
theorem d_Model_init_194 : decode prog_12_method_1_code 194 = .ok (.bipush 8, 2) := by decide +kernel
theorem d_Model_init_196 : decode prog_12_method_1_code 196 = .ok (.newarray .int, 2) := by decide +kernel
theorem d_Model_init_198 : decode prog_12_method_1_code 198 = .ok (.putfield 83, 3) := by decide +kernel
theorem d_Model_init_201 : decode prog_12_method_1_code 201 = .ok (.aload_n 0, 1) := by decide +kernel
theorem d_Model_init_202 : decode prog_12_method_1_code 202 = .ok (.bipush 80, 2) := by decide +kernel
theorem d_Model_init_204 : decode prog_12_method_1_code 204 = .ok (.newarray .int, 2) := by decide +kernel
theorem d_Model_init_206 : decode prog_12_method_1_code 206 = .ok (.putfield 86, 3) := by decide +kernel
theorem d_Model_init_209 : decode prog_12_method_1_code 209 = .ok (.aload_n 0, 1) := by decide +kernel
theorem d_Model_init_210 : decode prog_12_method_1_code 210 = .ok (.bipush 80, 2) := by decide +kernel
theorem d_Model_init_212 : decode prog_12_method_1_code 212 = .ok (.newarray .int, 2) := by decide +kernel
theorem d_Model_init_214 : decode prog_12_method_1_code 214 = .ok (.putfield 89, 3) := by decide +kernel
theorem d_Model_init_217 : decode prog_12_method_1_code 217 = .ok (.aload_n 0, 1) := by decide +kernel
theorem d_Model_init_218 : decode prog_12_method_1_code 218 = .ok (.bipush 8, 2) := by decide +kernel
theorem d_Model_init_220 : decode prog_12_method_1_code 220 = .ok (.newarray .int, 2) := by decide +kernel
theorem d_Model_init_222 : decode prog_12_method_1_code 222 = .ok (.putfield 92, 3) := by decide +kernel
theorem d_Model_init_225 : decode prog_12_method_1_code 225 = .ok (.aload_n 0, 1) := by decide +kernel
theorem d_Model_init_226 : decode prog_12_method_1_code 226 = .ok (.bipush 32, 2) := by decide +kernel
theorem d_Model_init_228 : decode prog_12_method_1_code 228 = .ok (.newarray .int, 2) := by decide +kernel
theorem d_Model_init_230 : decode prog_12_method_1_code 230 = .ok (.putfield 95, 3) := by decide +kernel
theorem d_Model_init_233 : decode prog_12_method_1_code 233 = .ok (.aload_n 0, 1) := by decide +kernel
theorem d_Model_init_234 : decode prog_12_method_1_code 234 = .ok (.iconst (-1), 1) := by decide +kernel
theorem d_Model_init_235 : decode prog_12_method_1_code 235 = .ok (.putfield 98, 3) := by decide +kernel
theorem d_Model_init_238 : decode prog_12_method_1_code 238 = .ok (.aload_n 0, 1) := by decide +kernel
theorem d_Model_init_239 : decode prog_12_method_1_code 239 = .ok (.bipush 64, 2) := by decide +kernel
theorem d_Model_init_241 : decode prog_12_method_1_code 241 = .ok (.newarray .int, 2) := by decide +kernel
theorem d_Model_init_243 : decode prog_12_method_1_code 243 = .ok (.putfield 102, 3) := by decide +kernel
theorem d_Model_init_246 : decode prog_12_method_1_code 246 = .ok (.aload_n 0, 1) := by decide +kernel
theorem d_Model_init_247 : decode prog_12_method_1_code 247 = .ok (.bipush 32, 2) := by decide +kernel
theorem d_Model_init_249 : decode prog_12_method_1_code 249 = .ok (.newarray .int, 2) := by decide +kernel
theorem d_Model_init_251 : decode prog_12_method_1_code 251 = .ok (.putfield 105, 3) := by decide +kernel
theorem d_Model_init_254 : decode prog_12_method_1_code 254 = .ok (.iconst 0, 1) := by decide +kernel
theorem d_Model_init_255 : decode prog_12_method_1_code 255 = .ok (.istore_n 1, 1) := by decide +kernel
theorem d_Model_init_256 : decode prog_12_method_1_code 256 = .ok (.iload_n 1, 1) := by decide +kernel
theorem d_Model_init_257 : decode prog_12_method_1_code 257 = .ok (.iconst 4, 1) := by decide +kernel
theorem d_Model_init_258 : decode prog_12_method_1_code 258 = .ok (.if_icmp .ge 17, 3) := by decide +kernel
theorem d_Model_init_261 : decode prog_12_method_1_code 261 = .ok (.aload_n 0, 1) := by decide +kernel
theorem d_Model_init_262 : decode prog_12_method_1_code 262 = .ok (.getfield 44, 3) := by decide +kernel
theorem d_Model_init_265 : decode prog_12_method_1_code 265 = .ok (.iload_n 1, 1) := by decide +kernel
theorem d_Model_init_266 : decode prog_12_method_1_code 266 = .ok (.bipush 9, 2) := by decide +kernel
theorem d_Model_init_268 : decode prog_12_method_1_code 268 = .ok (.iastore, 1) := by decide +kernel
theorem d_Model_init_269 : decode prog_12_method_1_code 269 = .ok (.iinc 1 1, 3) := by decide +kernel
theorem d_Model_init_272 : decode prog_12_method_1_code 272 = .ok (.goto (-16), 3) := by decide +kernel
theorem d_Model_init_275 : decode prog_12_method_1_code 275 = .ok (.return_, 1) := by decide +kernel
theorem d_Model_all_0 : decode prog_12_method_15_code 0 = .ok (.iconst 0, 1) := by decide +kernel
theorem d_Model_all_1 : decode prog_12_method_15_code 1 = .ok (.istore_n 1, 1) := by decide +kernel
theorem d_Model_all_2 : decode prog_12_method_15_code 2 = .ok (.iconst 0, 1) := by decide +kernel
theorem d_Model_all_3 : decode prog_12_method_15_code 3 = .ok (.istore_n 2, 1) := by decide +kernel
theorem d_Model_all_4 : decode prog_12_method_15_code 4 = .ok (.iload_n 2, 1) := by decide +kernel
theorem d_Model_all_5 : decode prog_12_method_15_code 5 = .ok (.bipush 8, 2) := by decide +kernel
theorem d_Model_all_7 : decode prog_12_method_15_code 7 = .ok (.if_icmp .ge 18, 3) := by decide +kernel
theorem d_Model_all_10 : decode prog_12_method_15_code 10 = .ok (.iload_n 1, 1) := by decide +kernel
theorem d_Model_all_11 : decode prog_12_method_15_code 11 = .ok (.aload_n 0, 1) := by decide +kernel
theorem d_Model_all_12 : decode prog_12_method_15_code 12 = .ok (.getfield 56, 3) := by decide +kernel
theorem d_Model_all_15 : decode prog_12_method_15_code 15 = .ok (.iload_n 2, 1) := by decide +kernel
theorem d_Model_all_16 : decode prog_12_method_15_code 16 = .ok (.iaload, 1) := by decide +kernel
theorem d_Model_all_17 : decode prog_12_method_15_code 17 = .ok (.iadd, 1) := by decide +kernel
theorem d_Model_all_18 : decode prog_12_method_15_code 18 = .ok (.istore_n 1, 1) := by decide +kernel
theorem d_Model_all_19 : decode prog_12_method_15_code 19 = .ok (.iinc 2 1, 3) := by decide +kernel
theorem d_Model_all_22 : decode prog_12_method_15_code 22 = .ok (.goto (-18), 3) := by decide +kernel
theorem d_Model_all_25 : decode prog_12_method_15_code 25 = .ok (.iload_n 1, 1) := by decide +kernel
theorem d_Model_all_26 : decode prog_12_method_15_code 26 = .ok (.ireturn, 1) := by decide +kernel
theorem d_Model_begin_0 : decode prog_12_method_14_code 0 = .ok (.iload_n 1, 1) := by decide +kernel
theorem d_Model_begin_1 : decode prog_12_method_14_code 1 = .ok (.iconst 0, 1) := by decide +kernel
theorem d_Model_begin_2 : decode prog_12_method_14_code 2 = .ok (.iconst 1, 1) := by decide +kernel
theorem d_Model_begin_3 : decode prog_12_method_14_code 3 = .ok (.invokestatic 108, 3) := by decide +kernel
theorem d_Model_begin_6 : decode prog_12_method_14_code 6 = .ok (.ifCond .eq 13, 3) := by decide +kernel
theorem d_Model_begin_9 : decode prog_12_method_14_code 9 = .ok (.iload_n 2, 1) := by decide +kernel
theorem d_Model_begin_10 : decode prog_12_method_14_code 10 = .ok (.iconst 0, 1) := by decide +kernel
theorem d_Model_begin_11 : decode prog_12_method_14_code 11 = .ok (.bipush 100, 2) := by decide +kernel
theorem d_Model_begin_13 : decode prog_12_method_14_code 13 = .ok (.invokestatic 108, 3) := by decide +kernel
theorem d_Model_begin_16 : decode prog_12_method_14_code 16 = .ok (.ifCond .ne 5, 3) := by decide +kernel
theorem d_Model_begin_19 : decode prog_12_method_14_code 19 = .ok (.iconst (-1), 1) := by decide +kernel
theorem d_Model_begin_20 : decode prog_12_method_14_code 20 = .ok (.ireturn, 1) := by decide +kernel
theorem d_Model_begin_21 : decode prog_12_method_14_code 21 = .ok (.aload_n 0, 1) := by decide +kernel
theorem d_Model_begin_22 : decode prog_12_method_14_code 22 = .ok (.getfield 115, 3) := by decide +kernel
theorem d_Model_begin_25 : decode prog_12_method_14_code 25 = .ok (.ifCond .ne 15, 3) := by decide +kernel
theorem d_Model_begin_28 : decode prog_12_method_14_code 28 = .ok (.iload_n 1, 1) := by decide +kernel
theorem d_Model_begin_29 : decode prog_12_method_14_code 29 = .ok (.ifCond .ne 14, 3) := by decide +kernel
theorem d_Model_begin_32 : decode prog_12_method_14_code 32 = .ok (.aload_n 0, 1) := by decide +kernel
theorem d_Model_begin_33 : decode prog_12_method_14_code 33 = .ok (.iconst 3, 1) := by decide +kernel
theorem d_Model_begin_34 : decode prog_12_method_14_code 34 = .ok (.invokevirtual 126, 3) := by decide +kernel
theorem d_Model_begin_37 : decode prog_12_method_14_code 37 = .ok (.ifCond .ge 6, 3) := by decide +kernel
theorem d_Model_begin_40 : decode prog_12_method_14_code 40 = .ok (.bipush (-2), 2) := by decide +kernel
theorem d_Model_begin_42 : decode prog_12_method_14_code 42 = .ok (.ireturn, 1) := by decide +kernel
theorem d_Model_begin_43 : decode prog_12_method_14_code 43 = .ok (.aload_n 0, 1) := by decide +kernel
theorem d_Model_begin_44 : decode prog_12_method_14_code 44 = .ok (.iload_n 1, 1) := by decide +kernel
theorem d_Model_begin_45 : decode prog_12_method_14_code 45 = .ok (.putfield 130, 3) := by decide +kernel
theorem d_Model_begin_48 : decode prog_12_method_14_code 48 = .ok (.aload_n 0, 1) := by decide +kernel
theorem d_Model_begin_49 : decode prog_12_method_14_code 49 = .ok (.iload_n 2, 1) := by decide +kernel
theorem d_Model_begin_50 : decode prog_12_method_14_code 50 = .ok (.putfield 133, 3) := by decide +kernel
theorem d_Model_begin_53 : decode prog_12_method_14_code 53 = .ok (.aload_n 0, 1) := by decide +kernel
theorem d_Model_begin_54 : decode prog_12_method_14_code 54 = .ok (.iconst 0, 1) := by decide +kernel
theorem d_Model_begin_55 : decode prog_12_method_14_code 55 = .ok (.putfield 136, 3) := by decide +kernel
theorem d_Model_begin_58 : decode prog_12_method_14_code 58 = .ok (.aload_n 0, 1) := by decide +kernel
theorem d_Model_begin_59 : decode prog_12_method_14_code 59 = .ok (.iconst 1, 1) := by decide +kernel
theorem d_Model_begin_60 : decode prog_12_method_14_code 60 = .ok (.putfield 115, 3) := by decide +kernel
theorem d_Model_begin_63 : decode prog_12_method_14_code 63 = .ok (.aload_n 0, 1) := by decide +kernel
theorem d_Model_begin_64 : decode prog_12_method_14_code 64 = .ok (.aload_n 0, 1) := by decide +kernel
theorem d_Model_begin_65 : decode prog_12_method_14_code 65 = .ok (.getfield 139, 3) := by decide +kernel
theorem d_Model_begin_68 : decode prog_12_method_14_code 68 = .ok (.putfield 142, 3) := by decide +kernel
theorem d_Model_begin_71 : decode prog_12_method_14_code 71 = .ok (.aload_n 0, 1) := by decide +kernel
theorem d_Model_begin_72 : decode prog_12_method_14_code 72 = .ok (.aload_n 0, 1) := by decide +kernel
theorem d_Model_begin_73 : decode prog_12_method_14_code 73 = .ok (.getfield 139, 3) := by decide +kernel
theorem d_Model_begin_76 : decode prog_12_method_14_code 76 = .ok (.putfield 145, 3) := by decide +kernel
theorem d_Model_begin_79 : decode prog_12_method_14_code 79 = .ok (.aload_n 0, 1) := by decide +kernel
theorem d_Model_begin_80 : decode prog_12_method_14_code 80 = .ok (.iconst (-1), 1) := by decide +kernel
theorem d_Model_begin_81 : decode prog_12_method_14_code 81 = .ok (.putfield 98, 3) := by decide +kernel
theorem d_Model_begin_84 : decode prog_12_method_14_code 84 = .ok (.aload_n 0, 1) := by decide +kernel
theorem d_Model_begin_85 : decode prog_12_method_14_code 85 = .ok (.iconst 0, 1) := by decide +kernel
theorem d_Model_begin_86 : decode prog_12_method_14_code 86 = .ok (.putfield 148, 3) := by decide +kernel
theorem d_Model_begin_89 : decode prog_12_method_14_code 89 = .ok (.aload_n 0, 1) := by decide +kernel
theorem d_Model_begin_90 : decode prog_12_method_14_code 90 = .ok (.dup, 1) := by decide +kernel
theorem d_Model_begin_91 : decode prog_12_method_14_code 91 = .ok (.getfield 151, 3) := by decide +kernel
theorem d_Model_begin_94 : decode prog_12_method_14_code 94 = .ok (.iconst 1, 1) := by decide +kernel
theorem d_Model_begin_95 : decode prog_12_method_14_code 95 = .ok (.iadd, 1) := by decide +kernel
theorem d_Model_begin_96 : decode prog_12_method_14_code 96 = .ok (.putfield 151, 3) := by decide +kernel
theorem d_Model_begin_99 : decode prog_12_method_14_code 99 = .ok (.aload_n 0, 1) := by decide +kernel
theorem d_Model_begin_100 : decode prog_12_method_14_code 100 = .ok (.getfield 151, 3) := by decide +kernel
theorem d_Model_begin_103 : decode prog_12_method_14_code 103 = .ok (.ireturn, 1) := by decide +kernel
theorem d_Model_call_0 : decode prog_12_method_39_code 0 = .ok (.aload_n 0, 1) := by decide +kernel
theorem d_Model_call_1 : decode prog_12_method_39_code 1 = .ok (.iload_n 1, 1) := by decide +kernel
theorem d_Model_call_2 : decode prog_12_method_39_code 2 = .ok (.invokevirtual 118, 3) := by decide +kernel
theorem d_Model_call_5 : decode prog_12_method_39_code 5 = .ok (.ifCond .eq 13, 3) := by decide +kernel
theorem d_Model_call_18 : decode prog_12_method_39_code 18 = .ok (.iconst (-1), 1) := by decide +kernel
theorem d_Model_call_19 : decode prog_12_method_39_code 19 = .ok (.ireturn, 1) := by decide +kernel
theorem d_Model_ceiling_0 : decode prog_12_method_10_code 0 = .ok (.iload_n 1, 1) := by decide +kernel
theorem d_Model_ceiling_1 : decode prog_12_method_10_code 1 = .ok (.iconst 0, 1) := by decide +kernel
theorem d_Model_ceiling_2 : decode prog_12_method_10_code 2 = .ok (.iconst 3, 1) := by decide +kernel
theorem d_Model_ceiling_3 : decode prog_12_method_10_code 3 = .ok (.invokestatic 108, 3) := by decide +kernel
theorem d_Model_ceiling_6 : decode prog_12_method_10_code 6 = .ok (.ifCond .eq 20, 3) := by decide +kernel
theorem d_Model_ceiling_9 : decode prog_12_method_10_code 9 = .ok (.iload_n 2, 1) := by decide +kernel
theorem d_Model_ceiling_10 : decode prog_12_method_10_code 10 = .ok (.iconst 1, 1) := by decide +kernel
theorem d_Model_ceiling_11 : decode prog_12_method_10_code 11 = .ok (.bipush 9, 2) := by decide +kernel
theorem d_Model_ceiling_13 : decode prog_12_method_10_code 13 = .ok (.invokestatic 108, 3) := by decide +kernel
theorem d_Model_ceiling_16 : decode prog_12_method_10_code 16 = .ok (.ifCond .eq 10, 3) := by decide +kernel
theorem d_Model_ceiling_19 : decode prog_12_method_10_code 19 = .ok (.aload_n 0, 1) := by decide +kernel
theorem d_Model_ceiling_20 : decode prog_12_method_10_code 20 = .ok (.getfield 115, 3) := by decide +kernel
theorem d_Model_ceiling_23 : decode prog_12_method_10_code 23 = .ok (.ifCond .eq 5, 3) := by decide +kernel
theorem d_Model_ceiling_26 : decode prog_12_method_10_code 26 = .ok (.iconst 0, 1) := by decide +kernel
theorem d_Model_ceiling_27 : decode prog_12_method_10_code 27 = .ok (.ireturn, 1) := by decide +kernel
theorem d_Model_ceiling_28 : decode prog_12_method_10_code 28 = .ok (.aload_n 0, 1) := by decide +kernel
theorem d_Model_ceiling_29 : decode prog_12_method_10_code 29 = .ok (.getfield 44, 3) := by decide +kernel
theorem d_Model_ceiling_32 : decode prog_12_method_10_code 32 = .ok (.iload_n 1, 1) := by decide +kernel
theorem d_Model_ceiling_33 : decode prog_12_method_10_code 33 = .ok (.iload_n 2, 1) := by decide +kernel
theorem d_Model_ceiling_34 : decode prog_12_method_10_code 34 = .ok (.iastore, 1) := by decide +kernel
theorem d_Model_ceiling_35 : decode prog_12_method_10_code 35 = .ok (.iconst 1, 1) := by decide +kernel
theorem d_Model_ceiling_36 : decode prog_12_method_10_code 36 = .ok (.ireturn, 1) := by decide +kernel
theorem d_Model_chosen_0 : decode prog_12_method_19_code 0 = .ok (.iconst (-1), 1) := by decide +kernel
theorem d_Model_chosen_1 : decode prog_12_method_19_code 1 = .ok (.istore_n 1, 1) := by decide +kernel
theorem d_Model_chosen_2 : decode prog_12_method_19_code 2 = .ok (.iconst 0, 1) := by decide +kernel
theorem d_Model_chosen_3 : decode prog_12_method_19_code 3 = .ok (.istore_n 2, 1) := by decide +kernel
theorem d_Model_chosen_4 : decode prog_12_method_19_code 4 = .ok (.iload_n 2, 1) := by decide +kernel
theorem d_Model_chosen_5 : decode prog_12_method_19_code 5 = .ok (.bipush 8, 2) := by decide +kernel
theorem d_Model_chosen_7 : decode prog_12_method_19_code 7 = .ok (.if_icmp .ge 94, 3) := by decide +kernel
theorem d_Model_chosen_10 : decode prog_12_method_19_code 10 = .ok (.aload_n 0, 1) := by decide +kernel
theorem d_Model_chosen_11 : decode prog_12_method_19_code 11 = .ok (.getfield 56, 3) := by decide +kernel
theorem d_Model_chosen_14 : decode prog_12_method_19_code 14 = .ok (.iload_n 2, 1) := by decide +kernel
theorem d_Model_chosen_15 : decode prog_12_method_19_code 15 = .ok (.iaload, 1) := by decide +kernel
theorem d_Model_chosen_16 : decode prog_12_method_19_code 16 = .ok (.ifCond .ne 6, 3) := by decide +kernel
theorem d_Model_chosen_19 : decode prog_12_method_19_code 19 = .ok (.goto 76, 3) := by decide +kernel
theorem d_Model_chosen_95 : decode prog_12_method_19_code 95 = .ok (.iinc 2 1, 3) := by decide +kernel
theorem d_Model_chosen_98 : decode prog_12_method_19_code 98 = .ok (.goto (-94), 3) := by decide +kernel
theorem d_Model_chosen_101 : decode prog_12_method_19_code 101 = .ok (.iload_n 1, 1) := by decide +kernel
theorem d_Model_chosen_102 : decode prog_12_method_19_code 102 = .ok (.ireturn, 1) := by decide +kernel
theorem d_Model_desk_0 : decode prog_12_method_44_code 0 = .ok (.iload_n 1, 1) := by decide +kernel
theorem d_Model_desk_1 : decode prog_12_method_44_code 1 = .ok (.tableswitch 164 0 13 #[71, 76, 81, 86, 91, 107, 112, 117, 122, 127, 144, 149, 154, 159], 71) := by decide +kernel
theorem d_Model_desk_72 : decode prog_12_method_44_code 72 = .ok (.aload_n 0, 1) := by decide +kernel
theorem d_Model_desk_73 : decode prog_12_method_44_code 73 = .ok (.getfield 115, 3) := by decide +kernel
theorem d_Model_desk_76 : decode prog_12_method_44_code 76 = .ok (.ireturn, 1) := by decide +kernel
theorem d_Model_desk_77 : decode prog_12_method_44_code 77 = .ok (.aload_n 0, 1) := by decide +kernel
theorem d_Model_desk_78 : decode prog_12_method_44_code 78 = .ok (.getfield 139, 3) := by decide +kernel
theorem d_Model_desk_81 : decode prog_12_method_44_code 81 = .ok (.ireturn, 1) := by decide +kernel
theorem d_Model_desk_82 : decode prog_12_method_44_code 82 = .ok (.aload_n 0, 1) := by decide +kernel
theorem d_Model_desk_83 : decode prog_12_method_44_code 83 = .ok (.getfield 151, 3) := by decide +kernel
theorem d_Model_desk_86 : decode prog_12_method_44_code 86 = .ok (.ireturn, 1) := by decide +kernel
theorem d_Model_desk_87 : decode prog_12_method_44_code 87 = .ok (.aload_n 0, 1) := by decide +kernel
theorem d_Model_desk_88 : decode prog_12_method_44_code 88 = .ok (.invokevirtual 170, 3) := by decide +kernel
theorem d_Model_desk_91 : decode prog_12_method_44_code 91 = .ok (.ireturn, 1) := by decide +kernel
theorem d_Model_desk_92 : decode prog_12_method_44_code 92 = .ok (.aload_n 0, 1) := by decide +kernel
theorem d_Model_desk_93 : decode prog_12_method_44_code 93 = .ok (.invokevirtual 234, 3) := by decide +kernel
theorem d_Model_desk_96 : decode prog_12_method_44_code 96 = .ok (.istore_n 2, 1) := by decide +kernel
theorem d_Model_desk_97 : decode prog_12_method_44_code 97 = .ok (.iload_n 2, 1) := by decide +kernel
theorem d_Model_desk_98 : decode prog_12_method_44_code 98 = .ok (.ifCond .ge 8, 3) := by decide +kernel
theorem d_Model_desk_101 : decode prog_12_method_44_code 101 = .ok (.bipush (-2), 2) := by decide +kernel
theorem d_Model_desk_103 : decode prog_12_method_44_code 103 = .ok (.goto 4, 3) := by decide +kernel
theorem d_Model_desk_107 : decode prog_12_method_44_code 107 = .ok (.ireturn, 1) := by decide +kernel
theorem d_Model_desk_108 : decode prog_12_method_44_code 108 = .ok (.aload_n 0, 1) := by decide +kernel
theorem d_Model_desk_109 : decode prog_12_method_44_code 109 = .ok (.getfield 136, 3) := by decide +kernel
theorem d_Model_desk_112 : decode prog_12_method_44_code 112 = .ok (.ireturn, 1) := by decide +kernel
theorem d_Model_desk_113 : decode prog_12_method_44_code 113 = .ok (.aload_n 0, 1) := by decide +kernel
theorem d_Model_desk_114 : decode prog_12_method_44_code 114 = .ok (.getfield 133, 3) := by decide +kernel
theorem d_Model_desk_117 : decode prog_12_method_44_code 117 = .ok (.ireturn, 1) := by decide +kernel
theorem d_Model_desk_118 : decode prog_12_method_44_code 118 = .ok (.aload_n 0, 1) := by decide +kernel
theorem d_Model_desk_119 : decode prog_12_method_44_code 119 = .ok (.getfield 191, 3) := by decide +kernel
theorem d_Model_desk_122 : decode prog_12_method_44_code 122 = .ok (.ireturn, 1) := by decide +kernel
theorem d_Model_desk_123 : decode prog_12_method_44_code 123 = .ok (.aload_n 0, 1) := by decide +kernel
theorem d_Model_desk_124 : decode prog_12_method_44_code 124 = .ok (.getfield 184, 3) := by decide +kernel
theorem d_Model_desk_127 : decode prog_12_method_44_code 127 = .ok (.ireturn, 1) := by decide +kernel
theorem d_Model_desk_128 : decode prog_12_method_44_code 128 = .ok (.aload_n 0, 1) := by decide +kernel
theorem d_Model_desk_129 : decode prog_12_method_44_code 129 = .ok (.getfield 98, 3) := by decide +kernel
theorem d_Model_desk_132 : decode prog_12_method_44_code 132 = .ok (.ifCond .ge 8, 3) := by decide +kernel
theorem d_Model_desk_135 : decode prog_12_method_44_code 135 = .ok (.bipush (-2), 2) := by decide +kernel
theorem d_Model_desk_137 : decode prog_12_method_44_code 137 = .ok (.goto 7, 3) := by decide +kernel
theorem d_Model_desk_144 : decode prog_12_method_44_code 144 = .ok (.ireturn, 1) := by decide +kernel
theorem d_Model_desk_145 : decode prog_12_method_44_code 145 = .ok (.aload_n 0, 1) := by decide +kernel
theorem d_Model_desk_146 : decode prog_12_method_44_code 146 = .ok (.getfield 148, 3) := by decide +kernel
theorem d_Model_desk_149 : decode prog_12_method_44_code 149 = .ok (.ireturn, 1) := by decide +kernel
theorem d_Model_desk_150 : decode prog_12_method_44_code 150 = .ok (.aload_n 0, 1) := by decide +kernel
theorem d_Model_desk_151 : decode prog_12_method_44_code 151 = .ok (.getfield 225, 3) := by decide +kernel
theorem d_Model_desk_154 : decode prog_12_method_44_code 154 = .ok (.ireturn, 1) := by decide +kernel
theorem d_Model_desk_155 : decode prog_12_method_44_code 155 = .ok (.aload_n 0, 1) := by decide +kernel
theorem d_Model_desk_156 : decode prog_12_method_44_code 156 = .ok (.getfield 181, 3) := by decide +kernel
theorem d_Model_desk_159 : decode prog_12_method_44_code 159 = .ok (.ireturn, 1) := by decide +kernel
theorem d_Model_desk_160 : decode prog_12_method_44_code 160 = .ok (.aload_n 0, 1) := by decide +kernel
theorem d_Model_desk_161 : decode prog_12_method_44_code 161 = .ok (.getfield 247, 3) := by decide +kernel
theorem d_Model_desk_164 : decode prog_12_method_44_code 164 = .ok (.ireturn, 1) := by decide +kernel
theorem d_Model_desk_165 : decode prog_12_method_44_code 165 = .ok (.iconst (-1), 1) := by decide +kernel
theorem d_Model_desk_166 : decode prog_12_method_44_code 166 = .ok (.ireturn, 1) := by decide +kernel
theorem d_Model_event_0 : decode prog_12_method_45_code 0 = .ok (.iload_n 1, 1) := by decide +kernel
theorem d_Model_event_1 : decode prog_12_method_45_code 1 = .ok (.iconst 0, 1) := by decide +kernel
theorem d_Model_event_2 : decode prog_12_method_45_code 2 = .ok (.bipush 31, 2) := by decide +kernel
theorem d_Model_event_4 : decode prog_12_method_45_code 4 = .ok (.invokestatic 108, 3) := by decide +kernel
theorem d_Model_event_7 : decode prog_12_method_45_code 7 = .ok (.ifCond .eq 30, 3) := by decide +kernel
theorem d_Model_event_10 : decode prog_12_method_45_code 10 = .ok (.iload_n 1, 1) := by decide +kernel
theorem d_Model_event_11 : decode prog_12_method_45_code 11 = .ok (.aload_n 0, 1) := by decide +kernel
theorem d_Model_event_12 : decode prog_12_method_45_code 12 = .ok (.getfield 112, 3) := by decide +kernel
theorem d_Model_event_15 : decode prog_12_method_45_code 15 = .ok (.if_icmp .ge 22, 3) := by decide +kernel
theorem d_Model_event_37 : decode prog_12_method_45_code 37 = .ok (.bipush (-2), 2) := by decide +kernel
theorem d_Model_event_39 : decode prog_12_method_45_code 39 = .ok (.ireturn, 1) := by decide +kernel
theorem d_Model_frame_0 : decode prog_12_method_11_code 0 = .ok (.iload_n 1, 1) := by decide +kernel
theorem d_Model_frame_1 : decode prog_12_method_11_code 1 = .ok (.iconst 0, 1) := by decide +kernel
theorem d_Model_frame_2 : decode prog_12_method_11_code 2 = .ok (.iconst 3, 1) := by decide +kernel
theorem d_Model_frame_3 : decode prog_12_method_11_code 3 = .ok (.invokestatic 108, 3) := by decide +kernel
theorem d_Model_frame_6 : decode prog_12_method_11_code 6 = .ok (.ifCond .eq 20, 3) := by decide +kernel
theorem d_Model_frame_9 : decode prog_12_method_11_code 9 = .ok (.iload_n 2, 1) := by decide +kernel
theorem d_Model_frame_10 : decode prog_12_method_11_code 10 = .ok (.iconst 0, 1) := by decide +kernel
theorem d_Model_frame_11 : decode prog_12_method_11_code 11 = .ok (.bipush 30, 2) := by decide +kernel
theorem d_Model_frame_13 : decode prog_12_method_11_code 13 = .ok (.invokestatic 108, 3) := by decide +kernel
theorem d_Model_frame_16 : decode prog_12_method_11_code 16 = .ok (.ifCond .eq 10, 3) := by decide +kernel
theorem d_Model_frame_19 : decode prog_12_method_11_code 19 = .ok (.aload_n 0, 1) := by decide +kernel
theorem d_Model_frame_20 : decode prog_12_method_11_code 20 = .ok (.getfield 115, 3) := by decide +kernel
theorem d_Model_frame_23 : decode prog_12_method_11_code 23 = .ok (.ifCond .eq 5, 3) := by decide +kernel
theorem d_Model_frame_26 : decode prog_12_method_11_code 26 = .ok (.iconst 0, 1) := by decide +kernel
theorem d_Model_frame_27 : decode prog_12_method_11_code 27 = .ok (.ireturn, 1) := by decide +kernel
theorem d_Model_frame_28 : decode prog_12_method_11_code 28 = .ok (.aload_n 0, 1) := by decide +kernel
theorem d_Model_frame_29 : decode prog_12_method_11_code 29 = .ok (.getfield 47, 3) := by decide +kernel
theorem d_Model_frame_32 : decode prog_12_method_11_code 32 = .ok (.iload_n 1, 1) := by decide +kernel
theorem d_Model_frame_33 : decode prog_12_method_11_code 33 = .ok (.iload_n 2, 1) := by decide +kernel
theorem d_Model_frame_34 : decode prog_12_method_11_code 34 = .ok (.iastore, 1) := by decide +kernel
theorem d_Model_frame_35 : decode prog_12_method_11_code 35 = .ok (.aload_n 0, 1) := by decide +kernel
theorem d_Model_frame_36 : decode prog_12_method_11_code 36 = .ok (.getfield 50, 3) := by decide +kernel
theorem d_Model_frame_39 : decode prog_12_method_11_code 39 = .ok (.iload_n 1, 1) := by decide +kernel
theorem d_Model_frame_40 : decode prog_12_method_11_code 40 = .ok (.iconst 0, 1) := by decide +kernel
theorem d_Model_frame_41 : decode prog_12_method_11_code 41 = .ok (.iastore, 1) := by decide +kernel
theorem d_Model_frame_42 : decode prog_12_method_11_code 42 = .ok (.iconst 1, 1) := by decide +kernel
theorem d_Model_frame_43 : decode prog_12_method_11_code 43 = .ok (.ireturn, 1) := by decide +kernel
theorem d_Model_frameBehind_0 : decode prog_12_method_13_code 0 = .ok (.iconst 1, 1) := by decide +kernel
theorem d_Model_frameBehind_1 : decode prog_12_method_13_code 1 = .ok (.istore_n 2, 1) := by decide +kernel
theorem d_Model_frameBehind_2 : decode prog_12_method_13_code 2 = .ok (.iload_n 2, 1) := by decide +kernel
theorem d_Model_frameBehind_3 : decode prog_12_method_13_code 3 = .ok (.iconst 4, 1) := by decide +kernel
theorem d_Model_frameBehind_4 : decode prog_12_method_13_code 4 = .ok (.if_icmp .gt 28, 3) := by decide +kernel
theorem d_Model_frameBehind_7 : decode prog_12_method_13_code 7 = .ok (.aload_n 0, 1) := by decide +kernel
theorem d_Model_frameBehind_8 : decode prog_12_method_13_code 8 = .ok (.getfield 47, 3) := by decide +kernel
theorem d_Model_frameBehind_11 : decode prog_12_method_13_code 11 = .ok (.iload_n 1, 1) := by decide +kernel
theorem d_Model_frameBehind_12 : decode prog_12_method_13_code 12 = .ok (.iload_n 2, 1) := by decide +kernel
theorem d_Model_frameBehind_13 : decode prog_12_method_13_code 13 = .ok (.iadd, 1) := by decide +kernel
theorem d_Model_frameBehind_14 : decode prog_12_method_13_code 14 = .ok (.iconst 4, 1) := by decide +kernel
theorem d_Model_frameBehind_15 : decode prog_12_method_13_code 15 = .ok (.irem, 1) := by decide +kernel
theorem d_Model_frameBehind_16 : decode prog_12_method_13_code 16 = .ok (.iaload, 1) := by decide +kernel
theorem d_Model_frameBehind_17 : decode prog_12_method_13_code 17 = .ok (.ifCond .le 9, 3) := by decide +kernel
theorem d_Model_frameBehind_26 : decode prog_12_method_13_code 26 = .ok (.iinc 2 1, 3) := by decide +kernel
theorem d_Model_frameBehind_29 : decode prog_12_method_13_code 29 = .ok (.goto (-27), 3) := by decide +kernel
theorem d_Model_frameBehind_32 : decode prog_12_method_13_code 32 = .ok (.iconst (-1), 1) := by decide +kernel
theorem d_Model_frameBehind_33 : decode prog_12_method_13_code 33 = .ok (.ireturn, 1) := by decide +kernel
theorem d_Model_handler_0 : decode prog_12_method_6_code 0 = .ok (.iload_n 1, 1) := by decide +kernel
theorem d_Model_handler_1 : decode prog_12_method_6_code 1 = .ok (.iconst 0, 1) := by decide +kernel
theorem d_Model_handler_2 : decode prog_12_method_6_code 2 = .ok (.bipush 7, 2) := by decide +kernel
theorem d_Model_handler_4 : decode prog_12_method_6_code 4 = .ok (.invokestatic 108, 3) := by decide +kernel
theorem d_Model_handler_7 : decode prog_12_method_6_code 7 = .ok (.ifCond .eq 51, 3) := by decide +kernel
theorem d_Model_handler_10 : decode prog_12_method_6_code 10 = .ok (.iload_n 2, 1) := by decide +kernel
theorem d_Model_handler_11 : decode prog_12_method_6_code 11 = .ok (.iconst 0, 1) := by decide +kernel
theorem d_Model_handler_12 : decode prog_12_method_6_code 12 = .ok (.iconst 2, 1) := by decide +kernel
theorem d_Model_handler_13 : decode prog_12_method_6_code 13 = .ok (.invokestatic 108, 3) := by decide +kernel
theorem d_Model_handler_16 : decode prog_12_method_6_code 16 = .ok (.ifCond .eq 42, 3) := by decide +kernel
theorem d_Model_handler_19 : decode prog_12_method_6_code 19 = .ok (.iload_n 3, 1) := by decide +kernel
theorem d_Model_handler_20 : decode prog_12_method_6_code 20 = .ok (.iconst 1, 1) := by decide +kernel
theorem d_Model_handler_21 : decode prog_12_method_6_code 21 = .ok (.bipush 9, 2) := by decide +kernel
theorem d_Model_handler_23 : decode prog_12_method_6_code 23 = .ok (.invokestatic 108, 3) := by decide +kernel
theorem d_Model_handler_26 : decode prog_12_method_6_code 26 = .ok (.ifCond .eq 32, 3) := by decide +kernel
theorem d_Model_handler_29 : decode prog_12_method_6_code 29 = .ok (.iload 4, 2) := by decide +kernel
theorem d_Model_handler_31 : decode prog_12_method_6_code 31 = .ok (.iconst 0, 1) := by decide +kernel
theorem d_Model_handler_32 : decode prog_12_method_6_code 32 = .ok (.bipush 50, 2) := by decide +kernel
theorem d_Model_handler_34 : decode prog_12_method_6_code 34 = .ok (.invokestatic 108, 3) := by decide +kernel
theorem d_Model_handler_37 : decode prog_12_method_6_code 37 = .ok (.ifCond .eq 21, 3) := by decide +kernel
theorem d_Model_handler_40 : decode prog_12_method_6_code 40 = .ok (.iload 5, 2) := by decide +kernel
theorem d_Model_handler_42 : decode prog_12_method_6_code 42 = .ok (.iconst 1, 1) := by decide +kernel
theorem d_Model_handler_43 : decode prog_12_method_6_code 43 = .ok (.bipush 50, 2) := by decide +kernel
theorem d_Model_handler_45 : decode prog_12_method_6_code 45 = .ok (.invokestatic 108, 3) := by decide +kernel
theorem d_Model_handler_48 : decode prog_12_method_6_code 48 = .ok (.ifCond .eq 10, 3) := by decide +kernel
theorem d_Model_handler_51 : decode prog_12_method_6_code 51 = .ok (.aload_n 0, 1) := by decide +kernel
theorem d_Model_handler_52 : decode prog_12_method_6_code 52 = .ok (.getfield 115, 3) := by decide +kernel
theorem d_Model_handler_55 : decode prog_12_method_6_code 55 = .ok (.ifCond .eq 5, 3) := by decide +kernel
theorem d_Model_handler_58 : decode prog_12_method_6_code 58 = .ok (.iconst 0, 1) := by decide +kernel
theorem d_Model_handler_59 : decode prog_12_method_6_code 59 = .ok (.ireturn, 1) := by decide +kernel
theorem d_Model_handler_60 : decode prog_12_method_6_code 60 = .ok (.aload_n 0, 1) := by decide +kernel
theorem d_Model_handler_61 : decode prog_12_method_6_code 61 = .ok (.getfield 7, 3) := by decide +kernel
theorem d_Model_handler_64 : decode prog_12_method_6_code 64 = .ok (.iload_n 1, 1) := by decide +kernel
theorem d_Model_handler_65 : decode prog_12_method_6_code 65 = .ok (.iconst 1, 1) := by decide +kernel
theorem d_Model_handler_66 : decode prog_12_method_6_code 66 = .ok (.bastore, 1) := by decide +kernel
theorem d_Model_handler_67 : decode prog_12_method_6_code 67 = .ok (.aload_n 0, 1) := by decide +kernel
theorem d_Model_handler_68 : decode prog_12_method_6_code 68 = .ok (.getfield 13, 3) := by decide +kernel
theorem d_Model_handler_71 : decode prog_12_method_6_code 71 = .ok (.iload_n 1, 1) := by decide +kernel
theorem d_Model_handler_72 : decode prog_12_method_6_code 72 = .ok (.iload_n 2, 1) := by decide +kernel
theorem d_Model_handler_73 : decode prog_12_method_6_code 73 = .ok (.iastore, 1) := by decide +kernel
theorem d_Model_handler_74 : decode prog_12_method_6_code 74 = .ok (.aload_n 0, 1) := by decide +kernel
theorem d_Model_handler_75 : decode prog_12_method_6_code 75 = .ok (.getfield 17, 3) := by decide +kernel
theorem d_Model_handler_78 : decode prog_12_method_6_code 78 = .ok (.iload_n 1, 1) := by decide +kernel
theorem d_Model_handler_79 : decode prog_12_method_6_code 79 = .ok (.iload_n 3, 1) := by decide +kernel
theorem d_Model_handler_80 : decode prog_12_method_6_code 80 = .ok (.iastore, 1) := by decide +kernel
theorem d_Model_handler_81 : decode prog_12_method_6_code 81 = .ok (.aload_n 0, 1) := by decide +kernel
theorem d_Model_handler_82 : decode prog_12_method_6_code 82 = .ok (.getfield 20, 3) := by decide +kernel
theorem d_Model_handler_85 : decode prog_12_method_6_code 85 = .ok (.iload_n 1, 1) := by decide +kernel
theorem d_Model_handler_86 : decode prog_12_method_6_code 86 = .ok (.iload 4, 2) := by decide +kernel
theorem d_Model_handler_88 : decode prog_12_method_6_code 88 = .ok (.iastore, 1) := by decide +kernel
theorem d_Model_handler_89 : decode prog_12_method_6_code 89 = .ok (.aload_n 0, 1) := by decide +kernel
theorem d_Model_handler_90 : decode prog_12_method_6_code 90 = .ok (.getfield 23, 3) := by decide +kernel
theorem d_Model_handler_93 : decode prog_12_method_6_code 93 = .ok (.iload_n 1, 1) := by decide +kernel
theorem d_Model_handler_94 : decode prog_12_method_6_code 94 = .ok (.iload 5, 2) := by decide +kernel
theorem d_Model_handler_96 : decode prog_12_method_6_code 96 = .ok (.iastore, 1) := by decide +kernel
theorem d_Model_handler_97 : decode prog_12_method_6_code 97 = .ok (.aload_n 0, 1) := by decide +kernel
theorem d_Model_handler_98 : decode prog_12_method_6_code 98 = .ok (.getfield 26, 3) := by decide +kernel
theorem d_Model_handler_101 : decode prog_12_method_6_code 101 = .ok (.iload_n 1, 1) := by decide +kernel
theorem d_Model_handler_102 : decode prog_12_method_6_code 102 = .ok (.iconst 0, 1) := by decide +kernel
theorem d_Model_handler_103 : decode prog_12_method_6_code 103 = .ok (.iastore, 1) := by decide +kernel
theorem d_Model_handler_104 : decode prog_12_method_6_code 104 = .ok (.aload_n 0, 1) := by decide +kernel
theorem d_Model_handler_105 : decode prog_12_method_6_code 105 = .ok (.getfield 29, 3) := by decide +kernel
theorem d_Model_handler_108 : decode prog_12_method_6_code 108 = .ok (.iload_n 1, 1) := by decide +kernel
theorem d_Model_handler_109 : decode prog_12_method_6_code 109 = .ok (.iconst (-1), 1) := by decide +kernel
theorem d_Model_handler_110 : decode prog_12_method_6_code 110 = .ok (.iastore, 1) := by decide +kernel
theorem d_Model_handler_111 : decode prog_12_method_6_code 111 = .ok (.aload_n 0, 1) := by decide +kernel
theorem d_Model_handler_112 : decode prog_12_method_6_code 112 = .ok (.getfield 32, 3) := by decide +kernel
theorem d_Model_handler_115 : decode prog_12_method_6_code 115 = .ok (.iload_n 1, 1) := by decide +kernel
theorem d_Model_handler_116 : decode prog_12_method_6_code 116 = .ok (.bipush 20, 2) := by decide +kernel
theorem d_Model_handler_118 : decode prog_12_method_6_code 118 = .ok (.iastore, 1) := by decide +kernel
theorem d_Model_handler_119 : decode prog_12_method_6_code 119 = .ok (.aload_n 0, 1) := by decide +kernel
theorem d_Model_handler_120 : decode prog_12_method_6_code 120 = .ok (.getfield 35, 3) := by decide +kernel
theorem d_Model_handler_123 : decode prog_12_method_6_code 123 = .ok (.iload_n 1, 1) := by decide +kernel
theorem d_Model_handler_124 : decode prog_12_method_6_code 124 = .ok (.iconst 0, 1) := by decide +kernel
theorem d_Model_handler_125 : decode prog_12_method_6_code 125 = .ok (.iastore, 1) := by decide +kernel
theorem d_Model_handler_126 : decode prog_12_method_6_code 126 = .ok (.iconst 1, 1) := by decide +kernel
theorem d_Model_handler_127 : decode prog_12_method_6_code 127 = .ok (.ireturn, 1) := by decide +kernel
theorem d_Model_in_0 : decode prog_12_method_2_code 0 = .ok (.iload_n 0, 1) := by decide +kernel
theorem d_Model_in_1 : decode prog_12_method_2_code 1 = .ok (.iload_n 1, 1) := by decide +kernel
theorem d_Model_in_2 : decode prog_12_method_2_code 2 = .ok (.if_icmp .lt 12, 3) := by decide +kernel
theorem d_Model_in_5 : decode prog_12_method_2_code 5 = .ok (.iload_n 0, 1) := by decide +kernel
theorem d_Model_in_6 : decode prog_12_method_2_code 6 = .ok (.iload_n 2, 1) := by decide +kernel
theorem d_Model_in_7 : decode prog_12_method_2_code 7 = .ok (.if_icmp .gt 7, 3) := by decide +kernel
theorem d_Model_in_10 : decode prog_12_method_2_code 10 = .ok (.iconst 1, 1) := by decide +kernel
theorem d_Model_in_11 : decode prog_12_method_2_code 11 = .ok (.goto 4, 3) := by decide +kernel
theorem d_Model_in_14 : decode prog_12_method_2_code 14 = .ok (.iconst 0, 1) := by decide +kernel
theorem d_Model_in_15 : decode prog_12_method_2_code 15 = .ok (.ireturn, 1) := by decide +kernel
theorem d_Model_isStep_0 : decode prog_12_method_8_code 0 = .ok (.iload_n 0, 1) := by decide +kernel
theorem d_Model_isStep_1 : decode prog_12_method_8_code 1 = .ok (.tableswitch 95 0 9 #[55, 55, 55, 63, 71, 73, 73, 80, 71, 88], 55) := by decide +kernel
theorem d_Model_isStep_56 : decode prog_12_method_8_code 56 = .ok (.iload_n 1, 1) := by decide +kernel
theorem d_Model_isStep_57 : decode prog_12_method_8_code 57 = .ok (.iconst 1, 1) := by decide +kernel
theorem d_Model_isStep_58 : decode prog_12_method_8_code 58 = .ok (.bipush 20, 2) := by decide +kernel
theorem d_Model_isStep_60 : decode prog_12_method_8_code 60 = .ok (.invokestatic 108, 3) := by decide +kernel
theorem d_Model_isStep_63 : decode prog_12_method_8_code 63 = .ok (.ireturn, 1) := by decide +kernel
theorem d_Model_isStep_64 : decode prog_12_method_8_code 64 = .ok (.iload_n 1, 1) := by decide +kernel
theorem d_Model_isStep_65 : decode prog_12_method_8_code 65 = .ok (.iconst 1, 1) := by decide +kernel
theorem d_Model_isStep_66 : decode prog_12_method_8_code 66 = .ok (.bipush 30, 2) := by decide +kernel
theorem d_Model_isStep_68 : decode prog_12_method_8_code 68 = .ok (.invokestatic 108, 3) := by decide +kernel
theorem d_Model_isStep_71 : decode prog_12_method_8_code 71 = .ok (.ireturn, 1) := by decide +kernel
theorem d_Model_isStep_72 : decode prog_12_method_8_code 72 = .ok (.iconst 1, 1) := by decide +kernel
theorem d_Model_isStep_73 : decode prog_12_method_8_code 73 = .ok (.ireturn, 1) := by decide +kernel
theorem d_Model_isStep_74 : decode prog_12_method_8_code 74 = .ok (.iload_n 1, 1) := by decide +kernel
theorem d_Model_isStep_75 : decode prog_12_method_8_code 75 = .ok (.iconst 0, 1) := by decide +kernel
theorem d_Model_isStep_76 : decode prog_12_method_8_code 76 = .ok (.iconst 3, 1) := by decide +kernel
theorem d_Model_isStep_77 : decode prog_12_method_8_code 77 = .ok (.invokestatic 108, 3) := by decide +kernel
theorem d_Model_isStep_80 : decode prog_12_method_8_code 80 = .ok (.ireturn, 1) := by decide +kernel
theorem d_Model_isStep_81 : decode prog_12_method_8_code 81 = .ok (.iload_n 1, 1) := by decide +kernel
theorem d_Model_isStep_82 : decode prog_12_method_8_code 82 = .ok (.iconst 0, 1) := by decide +kernel
theorem d_Model_isStep_83 : decode prog_12_method_8_code 83 = .ok (.bipush 7, 2) := by decide +kernel
theorem d_Model_isStep_85 : decode prog_12_method_8_code 85 = .ok (.invokestatic 108, 3) := by decide +kernel
theorem d_Model_isStep_88 : decode prog_12_method_8_code 88 = .ok (.ireturn, 1) := by decide +kernel
theorem d_Model_isStep_89 : decode prog_12_method_8_code 89 = .ok (.iload_n 1, 1) := by decide +kernel
theorem d_Model_isStep_90 : decode prog_12_method_8_code 90 = .ok (.iconst 0, 1) := by decide +kernel
theorem d_Model_isStep_91 : decode prog_12_method_8_code 91 = .ok (.iconst 1, 1) := by decide +kernel
theorem d_Model_isStep_92 : decode prog_12_method_8_code 92 = .ok (.invokestatic 108, 3) := by decide +kernel
theorem d_Model_isStep_95 : decode prog_12_method_8_code 95 = .ok (.ireturn, 1) := by decide +kernel
theorem d_Model_isStep_96 : decode prog_12_method_8_code 96 = .ok (.iconst 0, 1) := by decide +kernel
theorem d_Model_isStep_97 : decode prog_12_method_8_code 97 = .ok (.ireturn, 1) := by decide +kernel
theorem d_Model_isThere_0 : decode prog_12_method_3_code 0 = .ok (.iload_n 1, 1) := by decide +kernel
theorem d_Model_isThere_1 : decode prog_12_method_3_code 1 = .ok (.iconst 0, 1) := by decide +kernel
theorem d_Model_isThere_2 : decode prog_12_method_3_code 2 = .ok (.bipush 7, 2) := by decide +kernel
theorem d_Model_isThere_4 : decode prog_12_method_3_code 4 = .ok (.invokestatic 108, 3) := by decide +kernel
theorem d_Model_isThere_7 : decode prog_12_method_3_code 7 = .ok (.ifCond .eq 16, 3) := by decide +kernel
theorem d_Model_isThere_10 : decode prog_12_method_3_code 10 = .ok (.aload_n 0, 1) := by decide +kernel
theorem d_Model_isThere_11 : decode prog_12_method_3_code 11 = .ok (.getfield 7, 3) := by decide +kernel
theorem d_Model_isThere_14 : decode prog_12_method_3_code 14 = .ok (.iload_n 1, 1) := by decide +kernel
theorem d_Model_isThere_15 : decode prog_12_method_3_code 15 = .ok (.baload, 1) := by decide +kernel
theorem d_Model_isThere_16 : decode prog_12_method_3_code 16 = .ok (.ifCond .eq 7, 3) := by decide +kernel
theorem d_Model_isThere_23 : decode prog_12_method_3_code 23 = .ok (.iconst 0, 1) := by decide +kernel
theorem d_Model_isThere_24 : decode prog_12_method_3_code 24 = .ok (.ireturn, 1) := by decide +kernel
theorem d_Model_limit_0 : decode prog_12_method_7_code 0 = .ok (.aload_n 0, 1) := by decide +kernel
theorem d_Model_limit_1 : decode prog_12_method_7_code 1 = .ok (.iload_n 1, 1) := by decide +kernel
theorem d_Model_limit_2 : decode prog_12_method_7_code 2 = .ok (.invokevirtual 118, 3) := by decide +kernel
theorem d_Model_limit_5 : decode prog_12_method_7_code 5 = .ok (.ifCond .eq 41, 3) := by decide +kernel
theorem d_Model_limit_46 : decode prog_12_method_7_code 46 = .ok (.iconst 0, 1) := by decide +kernel
theorem d_Model_limit_47 : decode prog_12_method_7_code 47 = .ok (.ireturn, 1) := by decide +kernel
theorem d_Model_memory_0 : decode prog_12_method_43_code 0 = .ok (.aload_n 0, 1) := by decide +kernel
theorem d_Model_memory_1 : decode prog_12_method_43_code 1 = .ok (.iload_n 1, 1) := by decide +kernel
theorem d_Model_memory_2 : decode prog_12_method_43_code 2 = .ok (.invokevirtual 118, 3) := by decide +kernel
theorem d_Model_memory_5 : decode prog_12_method_43_code 5 = .ok (.ifCond .eq 12, 3) := by decide +kernel
theorem d_Model_memory_17 : decode prog_12_method_43_code 17 = .ok (.iconst (-1), 1) := by decide +kernel
theorem d_Model_memory_18 : decode prog_12_method_43_code 18 = .ok (.ireturn, 1) := by decide +kernel
theorem d_Model_of_0 : decode prog_12_method_41_code 0 = .ok (.aload_n 0, 1) := by decide +kernel
theorem d_Model_of_1 : decode prog_12_method_41_code 1 = .ok (.iload_n 1, 1) := by decide +kernel
theorem d_Model_of_2 : decode prog_12_method_41_code 2 = .ok (.invokevirtual 118, 3) := by decide +kernel
theorem d_Model_of_5 : decode prog_12_method_41_code 5 = .ok (.ifCond .eq 13, 3) := by decide +kernel
theorem d_Model_of_18 : decode prog_12_method_41_code 18 = .ok (.iconst (-1), 1) := by decide +kernel
theorem d_Model_of_19 : decode prog_12_method_41_code 19 = .ok (.ireturn, 1) := by decide +kernel
theorem d_Model_place_0 : decode prog_12_method_12_code 0 = .ok (.iload_n 1, 1) := by decide +kernel
theorem d_Model_place_1 : decode prog_12_method_12_code 1 = .ok (.iconst 0, 1) := by decide +kernel
theorem d_Model_place_2 : decode prog_12_method_12_code 2 = .ok (.iconst 3, 1) := by decide +kernel
theorem d_Model_place_3 : decode prog_12_method_12_code 3 = .ok (.invokestatic 108, 3) := by decide +kernel
theorem d_Model_place_6 : decode prog_12_method_12_code 6 = .ok (.ifCond .eq 13, 3) := by decide +kernel
theorem d_Model_place_9 : decode prog_12_method_12_code 9 = .ok (.iload_n 2, 1) := by decide +kernel
theorem d_Model_place_10 : decode prog_12_method_12_code 10 = .ok (.iconst 0, 1) := by decide +kernel
theorem d_Model_place_11 : decode prog_12_method_12_code 11 = .ok (.bipush 7, 2) := by decide +kernel
theorem d_Model_place_13 : decode prog_12_method_12_code 13 = .ok (.invokestatic 108, 3) := by decide +kernel
theorem d_Model_place_16 : decode prog_12_method_12_code 16 = .ok (.ifCond .ne 5, 3) := by decide +kernel
theorem d_Model_place_19 : decode prog_12_method_12_code 19 = .ok (.iconst (-1), 1) := by decide +kernel
theorem d_Model_place_20 : decode prog_12_method_12_code 20 = .ok (.ireturn, 1) := by decide +kernel
theorem d_Model_place_21 : decode prog_12_method_12_code 21 = .ok (.aload_n 0, 1) := by decide +kernel
theorem d_Model_place_22 : decode prog_12_method_12_code 22 = .ok (.getfield 47, 3) := by decide +kernel
theorem d_Model_place_25 : decode prog_12_method_12_code 25 = .ok (.iload_n 1, 1) := by decide +kernel
theorem d_Model_place_26 : decode prog_12_method_12_code 26 = .ok (.iaload, 1) := by decide +kernel
theorem d_Model_place_27 : decode prog_12_method_12_code 27 = .ok (.ifCond .eq 10, 3) := by decide +kernel
theorem d_Model_place_37 : decode prog_12_method_12_code 37 = .ok (.bipush (-2), 2) := by decide +kernel
theorem d_Model_place_39 : decode prog_12_method_12_code 39 = .ok (.ireturn, 1) := by decide +kernel
theorem d_Model_run_0 : decode prog_12_method_38_code 0 = .ok (.iload_n 1, 1) := by decide +kernel
theorem d_Model_run_1 : decode prog_12_method_38_code 1 = .ok (.iconst 1, 1) := by decide +kernel
theorem d_Model_run_2 : decode prog_12_method_38_code 2 = .ok (.bipush 20, 2) := by decide +kernel
theorem d_Model_run_4 : decode prog_12_method_38_code 4 = .ok (.invokestatic 108, 3) := by decide +kernel
theorem d_Model_run_7 : decode prog_12_method_38_code 7 = .ok (.ifCond .ne 5, 3) := by decide +kernel
theorem d_Model_run_10 : decode prog_12_method_38_code 10 = .ok (.iconst (-1), 1) := by decide +kernel
theorem d_Model_run_11 : decode prog_12_method_38_code 11 = .ok (.ireturn, 1) := by decide +kernel
theorem d_Model_run_12 : decode prog_12_method_38_code 12 = .ok (.aload_n 0, 1) := by decide +kernel
theorem d_Model_run_13 : decode prog_12_method_38_code 13 = .ok (.getfield 115, 3) := by decide +kernel
theorem d_Model_run_16 : decode prog_12_method_38_code 16 = .ok (.ifCond .ne 6, 3) := by decide +kernel
theorem d_Model_run_19 : decode prog_12_method_38_code 19 = .ok (.bipush (-2), 2) := by decide +kernel
theorem d_Model_run_21 : decode prog_12_method_38_code 21 = .ok (.ireturn, 1) := by decide +kernel
theorem d_Model_step_0 : decode prog_12_method_9_code 0 = .ok (.iload_n 2, 1) := by decide +kernel
theorem d_Model_step_1 : decode prog_12_method_9_code 1 = .ok (.iload_n 3, 1) := by decide +kernel
theorem d_Model_step_2 : decode prog_12_method_9_code 2 = .ok (.invokestatic 122, 3) := by decide +kernel
theorem d_Model_step_5 : decode prog_12_method_9_code 5 = .ok (.istore 4, 2) := by decide +kernel
theorem d_Model_step_7 : decode prog_12_method_9_code 7 = .ok (.aload_n 0, 1) := by decide +kernel
theorem d_Model_step_8 : decode prog_12_method_9_code 8 = .ok (.iload_n 1, 1) := by decide +kernel
theorem d_Model_step_9 : decode prog_12_method_9_code 9 = .ok (.invokevirtual 118, 3) := by decide +kernel
theorem d_Model_step_12 : decode prog_12_method_9_code 12 = .ok (.ifCond .eq 8, 3) := by decide +kernel
theorem d_Model_step_20 : decode prog_12_method_9_code 20 = .ok (.iconst (-1), 1) := by decide +kernel
theorem d_Model_step_21 : decode prog_12_method_9_code 21 = .ok (.ireturn, 1) := by decide +kernel
theorem d_Model_stop_0 : decode prog_12_method_40_code 0 = .ok (.aload_n 0, 1) := by decide +kernel
theorem d_Model_stop_1 : decode prog_12_method_40_code 1 = .ok (.getfield 115, 3) := by decide +kernel
theorem d_Model_stop_4 : decode prog_12_method_40_code 4 = .ok (.iconst 1, 1) := by decide +kernel
theorem d_Model_stop_5 : decode prog_12_method_40_code 5 = .ok (.if_icmp .eq 5, 3) := by decide +kernel
theorem d_Model_stop_8 : decode prog_12_method_40_code 8 = .ok (.iconst 0, 1) := by decide +kernel
theorem d_Model_stop_9 : decode prog_12_method_40_code 9 = .ok (.ireturn, 1) := by decide +kernel
theorem F_Desk_106 {D : va_G} {tys : List (ClassId × FieldType)} {z : Nat} {zs : j_Zs} : j_F (jT, D, vwCl, tys, z, zs) "MissionDesk" 106 0 7 := ⟨"MissionDesk", T_0, 16, rfl, by decide, in_0, jm 322 (by decide +kernel) rfl⟩
theorem F_Desk_11 {D : va_G} {tys : List (ClassId × FieldType)} {z : Nat} {zs : j_Zs} : j_F (jT, D, vwCl, tys, z, zs) "MissionDesk" 11 0 0 := ⟨"MissionDesk", T_0, 16, rfl, by decide, in_0, jm 315 (by decide +kernel) rfl⟩
theorem F_Desk_112 {D : va_G} {tys : List (ClassId × FieldType)} {z : Nat} {zs : j_Zs} : j_F (jT, D, vwCl, tys, z, zs) "MissionDesk" 112 1 3 := ⟨"MissionDesk$Handler", T_1, 14, rfl, by decide, in_1, jm 191 (by decide +kernel) rfl⟩
theorem F_Desk_118 {D : va_G} {tys : List (ClassId × FieldType)} {z : Nat} {zs : j_Zs} : j_F (jT, D, vwCl, tys, z, zs) "MissionDesk" 118 0 8 := ⟨"MissionDesk", T_0, 16, rfl, by decide, in_0, jm 323 (by decide +kernel) rfl⟩
theorem F_Desk_130 {D : va_G} {tys : List (ClassId × FieldType)} {z : Nat} {zs : j_Zs} : j_F (jT, D, vwCl, tys, z, zs) "MissionDesk" 130 1 12 := ⟨"MissionDesk$Handler", T_1, 14, rfl, by decide, in_1, jm 209 (by decide +kernel) rfl⟩
theorem F_Desk_134 {D : va_G} {tys : List (ClassId × FieldType)} {z : Nat} {zs : j_Zs} : j_F (jT, D, vwCl, tys, z, zs) "MissionDesk" 134 2 2 := ⟨"MissionDesk$Line", T_2, 3, rfl, by decide, in_2, jm 176 (by decide +kernel) rfl⟩
theorem F_Desk_18 {D : va_G} {tys : List (ClassId × FieldType)} {z : Nat} {zs : j_Zs} : j_F (jT, D, vwCl, tys, z, zs) "MissionDesk" 18 0 1 := ⟨"MissionDesk", T_0, 16, rfl, by decide, in_0, jm 316 (by decide +kernel) rfl⟩
theorem F_Desk_196 {D : va_G} {tys : List (ClassId × FieldType)} {z : Nat} {zs : j_Zs} : j_F (jT, D, vwCl, tys, z, zs) "MissionDesk" 196 0 9 := ⟨"MissionDesk", T_0, 16, rfl, by decide, in_0, jm 324 (by decide +kernel) rfl⟩
theorem F_Desk_202 {D : va_G} {tys : List (ClassId × FieldType)} {z : Nat} {zs : j_Zs} : j_F (jT, D, vwCl, tys, z, zs) "MissionDesk" 202 8 1 := ⟨"MissionDesk$MissionArea", T_8, 2, rfl, by decide, in_8, jm 296 (by decide +kernel) rfl⟩
theorem F_Desk_205 {D : va_G} {tys : List (ClassId × FieldType)} {z : Nat} {zs : j_Zs} : j_F (jT, D, vwCl, tys, z, zs) "MissionDesk" 205 8 0 := ⟨"MissionDesk$MissionArea", T_8, 2, rfl, by decide, in_8, jm 294 (by decide +kernel) rfl⟩
theorem F_Desk_208 {D : va_G} {tys : List (ClassId × FieldType)} {z : Nat} {zs : j_Zs} : j_F (jT, D, vwCl, tys, z, zs) "MissionDesk" 208 0 11 := ⟨"MissionDesk", T_0, 16, rfl, by decide, in_0, jm 326 (by decide +kernel) rfl⟩
theorem F_Desk_211 {D : va_G} {tys : List (ClassId × FieldType)} {z : Nat} {zs : j_Zs} : j_F (jT, D, vwCl, tys, z, zs) "MissionDesk" 211 0 12 := ⟨"MissionDesk", T_0, 16, rfl, by decide, in_0, jm 327 (by decide +kernel) rfl⟩
theorem F_Desk_214 {D : va_G} {tys : List (ClassId × FieldType)} {z : Nat} {zs : j_Zs} : j_F (jT, D, vwCl, tys, z, zs) "MissionDesk" 214 6 3 := ⟨"MissionDesk$Turns", T_6, 5, rfl, by decide, in_6, jm 273 (by decide +kernel) rfl⟩
theorem F_Desk_216 {D : va_G} {tys : List (ClassId × FieldType)} {z : Nat} {zs : j_Zs} : j_F (jT, D, vwCl, tys, z, zs) "MissionDesk" 216 6 4 := ⟨"MissionDesk$Turns", T_6, 5, rfl, by decide, in_6, jm 275 (by decide +kernel) rfl⟩
theorem F_Desk_218 {D : va_G} {tys : List (ClassId × FieldType)} {z : Nat} {zs : j_Zs} : j_F (jT, D, vwCl, tys, z, zs) "MissionDesk" 218 0 13 := ⟨"MissionDesk", T_0, 16, rfl, by decide, in_0, jm 328 (by decide +kernel) rfl⟩
theorem F_Desk_221 {D : va_G} {tys : List (ClassId × FieldType)} {z : Nat} {zs : j_Zs} : j_F (jT, D, vwCl, tys, z, zs) "MissionDesk" 221 0 14 := ⟨"MissionDesk", T_0, 16, rfl, by decide, in_0, jm 329 (by decide +kernel) rfl⟩
theorem F_Desk_224 {D : va_G} {tys : List (ClassId × FieldType)} {z : Nat} {zs : j_Zs} : j_F (jT, D, vwCl, tys, z, zs) "MissionDesk" 224 0 15 := ⟨"MissionDesk", T_0, 16, rfl, by decide, in_0, jm 330 (by decide +kernel) rfl⟩
theorem F_Desk_235 {D : va_G} {tys : List (ClassId × FieldType)} {z : Nat} {zs : j_Zs} : j_F (jT, D, vwCl, tys, z, zs) "MissionDesk" 235 1 0 := ⟨"MissionDesk$Handler", T_1, 14, rfl, by decide, in_1, jm 185 (by decide +kernel) rfl⟩
theorem F_Desk_25 {D : va_G} {tys : List (ClassId × FieldType)} {z : Nat} {zs : j_Zs} : j_F (jT, D, vwCl, tys, z, zs) "MissionDesk" 25 0 2 := ⟨"MissionDesk", T_0, 16, rfl, by decide, in_0, jm 317 (by decide +kernel) rfl⟩
theorem F_Desk_32 {D : va_G} {tys : List (ClassId × FieldType)} {z : Nat} {zs : j_Zs} : j_F (jT, D, vwCl, tys, z, zs) "MissionDesk" 32 0 3 := ⟨"MissionDesk", T_0, 16, rfl, by decide, in_0, jm 318 (by decide +kernel) rfl⟩
theorem F_Desk_39 {D : va_G} {tys : List (ClassId × FieldType)} {z : Nat} {zs : j_Zs} : j_F (jT, D, vwCl, tys, z, zs) "MissionDesk" 39 0 4 := ⟨"MissionDesk", T_0, 16, rfl, by decide, in_0, jm 319 (by decide +kernel) rfl⟩
theorem F_Desk_43 {D : va_G} {tys : List (ClassId × FieldType)} {z : Nat} {zs : j_Zs} : j_F (jT, D, vwCl, tys, z, zs) "MissionDesk" 43 0 5 := ⟨"MissionDesk", T_0, 16, rfl, by decide, in_0, jm 320 (by decide +kernel) rfl⟩
theorem F_Desk_82 {D : va_G} {tys : List (ClassId × FieldType)} {z : Nat} {zs : j_Zs} : j_F (jT, D, vwCl, tys, z, zs) "MissionDesk" 82 6 0 := ⟨"MissionDesk$Turns", T_6, 5, rfl, by decide, in_6, jm 267 (by decide +kernel) rfl⟩
theorem F_Frame_15 {D : va_G} {tys : List (ClassId × FieldType)} {z : Nat} {zs : j_Zs} : j_F (jT, D, vwCl, tys, z, zs) "MissionDesk$Frame" 15 7 0 := ⟨"MissionDesk$Frame", T_7, 3, rfl, by decide, in_7, jm 253 (by decide +kernel) rfl⟩
theorem F_Frame_19 {D : va_G} {tys : List (ClassId × FieldType)} {z : Nat} {zs : j_Zs} : j_F (jT, D, vwCl, tys, z, zs) "MissionDesk$Frame" 19 7 1 := ⟨"MissionDesk$Frame", T_7, 3, rfl, by decide, in_7, jm 255 (by decide +kernel) rfl⟩
theorem F_Frame_9 {D : va_G} {tys : List (ClassId × FieldType)} {z : Nat} {zs : j_Zs} : j_F (jT, D, vwCl, tys, z, zs) "MissionDesk$Frame" 9 7 2 := ⟨"MissionDesk$Frame", T_7, 3, rfl, by decide, in_7, jm 257 (by decide +kernel) rfl⟩
theorem F_HeldLocks_15 {D : va_G} {tys : List (ClassId × FieldType)} {z : Nat} {zs : j_Zs} : j_F (jT, D, vwCl, tys, z, zs) "MissionDesk$HeldLocks" 15 5 1 := ⟨"MissionDesk$HeldLocks", T_5, 2, rfl, by decide, in_5, jm 129 (by decide +kernel) rfl⟩
theorem F_HeldLocks_9 {D : va_G} {tys : List (ClassId × FieldType)} {z : Nat} {zs : j_Zs} : j_F (jT, D, vwCl, tys, z, zs) "MissionDesk$HeldLocks" 9 5 0 := ⟨"MissionDesk$HeldLocks", T_5, 2, rfl, by decide, in_5, jm 128 (by decide +kernel) rfl⟩
theorem F_Journal_15 {D : va_G} {tys : List (ClassId × FieldType)} {z : Nat} {zs : j_Zs} : j_F (jT, D, vwCl, tys, z, zs) "MissionDesk$Journal" 15 9 1 := ⟨"MissionDesk$Journal", T_9, 2, rfl, by decide, in_9, jm 309 (by decide +kernel) rfl⟩
theorem F_Journal_9 {D : va_G} {tys : List (ClassId × FieldType)} {z : Nat} {zs : j_Zs} : j_F (jT, D, vwCl, tys, z, zs) "MissionDesk$Journal" 9 9 0 := ⟨"MissionDesk$Journal", T_9, 2, rfl, by decide, in_9, jm 308 (by decide +kernel) rfl⟩
theorem F_Line_11 {D : va_G} {tys : List (ClassId × FieldType)} {z : Nat} {zs : j_Zs} : j_F (jT, D, vwCl, tys, z, zs) "MissionDesk$Line" 11 2 0 := ⟨"MissionDesk$Line", T_2, 3, rfl, by decide, in_2, jm 173 (by decide +kernel) rfl⟩
theorem F_Line_20 {D : va_G} {tys : List (ClassId × FieldType)} {z : Nat} {zs : j_Zs} : j_F (jT, D, vwCl, tys, z, zs) "MissionDesk$Line" 20 2 1 := ⟨"MissionDesk$Line", T_2, 3, rfl, by decide, in_2, jm 174 (by decide +kernel) rfl⟩
theorem F_Line_24 {D : va_G} {tys : List (ClassId × FieldType)} {z : Nat} {zs : j_Zs} : j_F (jT, D, vwCl, tys, z, zs) "MissionDesk$Line" 24 2 2 := ⟨"MissionDesk$Line", T_2, 3, rfl, by decide, in_2, jm 175 (by decide +kernel) rfl⟩
theorem F_Line_35 {D : va_G} {tys : List (ClassId × FieldType)} {z : Nat} {zs : j_Zs} : j_F (jT, D, vwCl, tys, z, zs) "MissionDesk$Line" 35 3 5 := ⟨"MissionDesk$Release", T_3, 8, rfl, by decide, in_3, jm 150 (by decide +kernel) rfl⟩
theorem F_MissionArea_13 {D : va_G} {tys : List (ClassId × FieldType)} {z : Nat} {zs : j_Zs} : j_F (jT, D, vwCl, tys, z, zs) "MissionDesk$MissionArea" 13 8 1 := ⟨"MissionDesk$MissionArea", T_8, 2, rfl, by decide, in_8, jm 295 (by decide +kernel) rfl⟩
theorem F_MissionArea_7 {D : va_G} {tys : List (ClassId × FieldType)} {z : Nat} {zs : j_Zs} : j_F (jT, D, vwCl, tys, z, zs) "MissionDesk$MissionArea" 7 8 0 := ⟨"MissionDesk$MissionArea", T_8, 2, rfl, by decide, in_8, jm 293 (by decide +kernel) rfl⟩
theorem F_Model_112 {D : va_G} {tys : List (ClassId × FieldType)} {z : Nat} {zs : j_Zs} : j_F (jT, D, vwCl, tys, z, zs) "MissionDeskModel" 112 10 47 := ⟨"MissionDeskModel", T_10, 48, rfl, by decide, in_10, jm 744 (by decide +kernel) rfl⟩
theorem F_Model_115 {D : va_G} {tys : List (ClassId × FieldType)} {z : Nat} {zs : j_Zs} : j_F (jT, D, vwCl, tys, z, zs) "MissionDeskModel" 115 10 30 := ⟨"MissionDeskModel", T_10, 48, rfl, by decide, in_10, jm 727 (by decide +kernel) rfl⟩
theorem F_Model_13 {D : va_G} {tys : List (ClassId × FieldType)} {z : Nat} {zs : j_Zs} : j_F (jT, D, vwCl, tys, z, zs) "MissionDeskModel" 13 10 1 := ⟨"MissionDeskModel", T_10, 48, rfl, by decide, in_10, jm 698 (by decide +kernel) rfl⟩
theorem F_Model_133 {D : va_G} {tys : List (ClassId × FieldType)} {z : Nat} {zs : j_Zs} : j_F (jT, D, vwCl, tys, z, zs) "MissionDeskModel" 133 10 35 := ⟨"MissionDeskModel", T_10, 48, rfl, by decide, in_10, jm 732 (by decide +kernel) rfl⟩
theorem F_Model_136 {D : va_G} {tys : List (ClassId × FieldType)} {z : Nat} {zs : j_Zs} : j_F (jT, D, vwCl, tys, z, zs) "MissionDeskModel" 136 10 36 := ⟨"MissionDeskModel", T_10, 48, rfl, by decide, in_10, jm 733 (by decide +kernel) rfl⟩
theorem F_Model_139 {D : va_G} {tys : List (ClassId × FieldType)} {z : Nat} {zs : j_Zs} : j_F (jT, D, vwCl, tys, z, zs) "MissionDeskModel" 139 10 31 := ⟨"MissionDeskModel", T_10, 48, rfl, by decide, in_10, jm 728 (by decide +kernel) rfl⟩
theorem F_Model_148 {D : va_G} {tys : List (ClassId × FieldType)} {z : Nat} {zs : j_Zs} : j_F (jT, D, vwCl, tys, z, zs) "MissionDeskModel" 148 10 40 := ⟨"MissionDeskModel", T_10, 48, rfl, by decide, in_10, jm 737 (by decide +kernel) rfl⟩
theorem F_Model_151 {D : va_G} {tys : List (ClassId × FieldType)} {z : Nat} {zs : j_Zs} : j_F (jT, D, vwCl, tys, z, zs) "MissionDeskModel" 151 10 32 := ⟨"MissionDeskModel", T_10, 48, rfl, by decide, in_10, jm 729 (by decide +kernel) rfl⟩
theorem F_Model_17 {D : va_G} {tys : List (ClassId × FieldType)} {z : Nat} {zs : j_Zs} : j_F (jT, D, vwCl, tys, z, zs) "MissionDeskModel" 17 10 2 := ⟨"MissionDeskModel", T_10, 48, rfl, by decide, in_10, jm 699 (by decide +kernel) rfl⟩
theorem F_Model_181 {D : va_G} {tys : List (ClassId × FieldType)} {z : Nat} {zs : j_Zs} : j_F (jT, D, vwCl, tys, z, zs) "MissionDeskModel" 181 10 43 := ⟨"MissionDeskModel", T_10, 48, rfl, by decide, in_10, jm 740 (by decide +kernel) rfl⟩
theorem F_Model_184 {D : va_G} {tys : List (ClassId × FieldType)} {z : Nat} {zs : j_Zs} : j_F (jT, D, vwCl, tys, z, zs) "MissionDeskModel" 184 10 38 := ⟨"MissionDeskModel", T_10, 48, rfl, by decide, in_10, jm 735 (by decide +kernel) rfl⟩
theorem F_Model_191 {D : va_G} {tys : List (ClassId × FieldType)} {z : Nat} {zs : j_Zs} : j_F (jT, D, vwCl, tys, z, zs) "MissionDeskModel" 191 10 37 := ⟨"MissionDeskModel", T_10, 48, rfl, by decide, in_10, jm 734 (by decide +kernel) rfl⟩
theorem F_Model_20 {D : va_G} {tys : List (ClassId × FieldType)} {z : Nat} {zs : j_Zs} : j_F (jT, D, vwCl, tys, z, zs) "MissionDeskModel" 20 10 3 := ⟨"MissionDeskModel", T_10, 48, rfl, by decide, in_10, jm 700 (by decide +kernel) rfl⟩
theorem F_Model_225 {D : va_G} {tys : List (ClassId × FieldType)} {z : Nat} {zs : j_Zs} : j_F (jT, D, vwCl, tys, z, zs) "MissionDeskModel" 225 10 42 := ⟨"MissionDeskModel", T_10, 48, rfl, by decide, in_10, jm 739 (by decide +kernel) rfl⟩
theorem F_Model_23 {D : va_G} {tys : List (ClassId × FieldType)} {z : Nat} {zs : j_Zs} : j_F (jT, D, vwCl, tys, z, zs) "MissionDeskModel" 23 10 4 := ⟨"MissionDeskModel", T_10, 48, rfl, by decide, in_10, jm 701 (by decide +kernel) rfl⟩
theorem F_Model_247 {D : va_G} {tys : List (ClassId × FieldType)} {z : Nat} {zs : j_Zs} : j_F (jT, D, vwCl, tys, z, zs) "MissionDeskModel" 247 10 44 := ⟨"MissionDeskModel", T_10, 48, rfl, by decide, in_10, jm 741 (by decide +kernel) rfl⟩
theorem F_Model_26 {D : va_G} {tys : List (ClassId × FieldType)} {z : Nat} {zs : j_Zs} : j_F (jT, D, vwCl, tys, z, zs) "MissionDeskModel" 26 10 5 := ⟨"MissionDeskModel", T_10, 48, rfl, by decide, in_10, jm 702 (by decide +kernel) rfl⟩
theorem F_Model_29 {D : va_G} {tys : List (ClassId × FieldType)} {z : Nat} {zs : j_Zs} : j_F (jT, D, vwCl, tys, z, zs) "MissionDeskModel" 29 10 6 := ⟨"MissionDeskModel", T_10, 48, rfl, by decide, in_10, jm 703 (by decide +kernel) rfl⟩
theorem F_Model_32 {D : va_G} {tys : List (ClassId × FieldType)} {z : Nat} {zs : j_Zs} : j_F (jT, D, vwCl, tys, z, zs) "MissionDeskModel" 32 10 7 := ⟨"MissionDeskModel", T_10, 48, rfl, by decide, in_10, jm 704 (by decide +kernel) rfl⟩
theorem F_Model_35 {D : va_G} {tys : List (ClassId × FieldType)} {z : Nat} {zs : j_Zs} : j_F (jT, D, vwCl, tys, z, zs) "MissionDeskModel" 35 10 8 := ⟨"MissionDeskModel", T_10, 48, rfl, by decide, in_10, jm 705 (by decide +kernel) rfl⟩
theorem F_Model_44 {D : va_G} {tys : List (ClassId × FieldType)} {z : Nat} {zs : j_Zs} : j_F (jT, D, vwCl, tys, z, zs) "MissionDeskModel" 44 10 11 := ⟨"MissionDeskModel", T_10, 48, rfl, by decide, in_10, jm 708 (by decide +kernel) rfl⟩
theorem F_Model_47 {D : va_G} {tys : List (ClassId × FieldType)} {z : Nat} {zs : j_Zs} : j_F (jT, D, vwCl, tys, z, zs) "MissionDeskModel" 47 10 12 := ⟨"MissionDeskModel", T_10, 48, rfl, by decide, in_10, jm 709 (by decide +kernel) rfl⟩
theorem F_Model_50 {D : va_G} {tys : List (ClassId × FieldType)} {z : Nat} {zs : j_Zs} : j_F (jT, D, vwCl, tys, z, zs) "MissionDeskModel" 50 10 13 := ⟨"MissionDeskModel", T_10, 48, rfl, by decide, in_10, jm 710 (by decide +kernel) rfl⟩
theorem F_Model_56 {D : va_G} {tys : List (ClassId × FieldType)} {z : Nat} {zs : j_Zs} : j_F (jT, D, vwCl, tys, z, zs) "MissionDeskModel" 56 10 15 := ⟨"MissionDeskModel", T_10, 48, rfl, by decide, in_10, jm 712 (by decide +kernel) rfl⟩
theorem F_Model_7 {D : va_G} {tys : List (ClassId × FieldType)} {z : Nat} {zs : j_Zs} : j_F (jT, D, vwCl, tys, z, zs) "MissionDeskModel" 7 10 0 := ⟨"MissionDeskModel", T_10, 48, rfl, by decide, in_10, jm 697 (by decide +kernel) rfl⟩
theorem F_Model_98 {D : va_G} {tys : List (ClassId × FieldType)} {z : Nat} {zs : j_Zs} : j_F (jT, D, vwCl, tys, z, zs) "MissionDeskModel" 98 10 39 := ⟨"MissionDeskModel", T_10, 48, rfl, by decide, in_10, jm 736 (by decide +kernel) rfl⟩
theorem F_Release_16 {D : va_G} {tys : List (ClassId × FieldType)} {z : Nat} {zs : j_Zs} : j_F (jT, D, vwCl, tys, z, zs) "MissionDesk$Release" 16 3 1 := ⟨"MissionDesk$Release", T_3, 8, rfl, by decide, in_3, jm 139 (by decide +kernel) rfl⟩
theorem F_Release_23 {D : va_G} {tys : List (ClassId × FieldType)} {z : Nat} {zs : j_Zs} : j_F (jT, D, vwCl, tys, z, zs) "MissionDesk$Release" 23 3 2 := ⟨"MissionDesk$Release", T_3, 8, rfl, by decide, in_3, jm 141 (by decide +kernel) rfl⟩
theorem F_Scopes_18 {D : va_G} {tys : List (ClassId × FieldType)} {z : Nat} {zs : j_Zs} : j_F (jT, D, vwCl, tys, z, zs) "MissionDesk$Scopes" 18 4 3 := ⟨"MissionDesk$Scopes", T_4, 6, rfl, by decide, in_4, jm 105 (by decide +kernel) rfl⟩
theorem F_Scopes_21 {D : va_G} {tys : List (ClassId × FieldType)} {z : Nat} {zs : j_Zs} : j_F (jT, D, vwCl, tys, z, zs) "MissionDesk$Scopes" 21 4 4 := ⟨"MissionDesk$Scopes", T_4, 6, rfl, by decide, in_4, jm 106 (by decide +kernel) rfl⟩
theorem F_Scopes_24 {D : va_G} {tys : List (ClassId × FieldType)} {z : Nat} {zs : j_Zs} : j_F (jT, D, vwCl, tys, z, zs) "MissionDesk$Scopes" 24 4 2 := ⟨"MissionDesk$Scopes", T_4, 6, rfl, by decide, in_4, jm 103 (by decide +kernel) rfl⟩
theorem F_Scopes_28 {D : va_G} {tys : List (ClassId × FieldType)} {z : Nat} {zs : j_Zs} : j_F (jT, D, vwCl, tys, z, zs) "MissionDesk$Scopes" 28 4 5 := ⟨"MissionDesk$Scopes", T_4, 6, rfl, by decide, in_4, jm 107 (by decide +kernel) rfl⟩
theorem F_Scopes_9 {D : va_G} {tys : List (ClassId × FieldType)} {z : Nat} {zs : j_Zs} : j_F (jT, D, vwCl, tys, z, zs) "MissionDesk$Scopes" 9 4 0 := ⟨"MissionDesk$Scopes", T_4, 6, rfl, by decide, in_4, jm 101 (by decide +kernel) rfl⟩
theorem F_Turns_11 {D : va_G} {tys : List (ClassId × FieldType)} {z : Nat} {zs : j_Zs} : j_F (jT, D, vwCl, tys, z, zs) "MissionDesk$Turns" 11 6 0 := ⟨"MissionDesk$Turns", T_6, 5, rfl, by decide, in_6, jm 266 (by decide +kernel) rfl⟩
theorem P_Desk_100 {D : va_G} {tys : List (ClassId × FieldType)} {z : Nat} {zs : j_Zs} : j_P (jT, D, vwCl, tys, z, zs) "MissionDesk" 100 0 6 false (.int) := ⟨"MissionDesk", T_0, 16, ty_0, rfl, by decide, in_0, jm 321 (by decide +kernel) rfl, ty_0_ok, nm_0, rfl, by decide +kernel, by decide +kernel⟩
theorem P_Desk_11 {D : va_G} {tys : List (ClassId × FieldType)} {z : Nat} {zs : j_Zs} : j_P (jT, D, vwCl, tys, z, zs) "MissionDesk" 11 0 0 true (.array (.object "MissionDesk$Handler")) := ⟨"MissionDesk", T_0, 16, ty_0, rfl, by decide, in_0, jm 315 (by decide +kernel) rfl, ty_0_ok, nm_0, rfl, by decide +kernel, by decide +kernel⟩
theorem P_Desk_115 {D : va_G} {tys : List (ClassId × FieldType)} {z : Nat} {zs : j_Zs} : j_P (jT, D, vwCl, tys, z, zs) "MissionDesk" 115 1 13 false (.int) := ⟨"MissionDesk$Handler", T_1, 14, ty_1, rfl, by decide, in_1, jm 210 (by decide +kernel) rfl, ty_1_ok, nm_1, rfl, by decide +kernel, by decide +kernel⟩
theorem P_Desk_118 {D : va_G} {tys : List (ClassId × FieldType)} {z : Nat} {zs : j_Zs} : j_P (jT, D, vwCl, tys, z, zs) "MissionDesk" 118 0 8 false (.int) := ⟨"MissionDesk", T_0, 16, ty_0, rfl, by decide, in_0, jm 323 (by decide +kernel) rfl, ty_0_ok, nm_0, rfl, by decide +kernel, by decide +kernel⟩
theorem P_Desk_18 {D : va_G} {tys : List (ClassId × FieldType)} {z : Nat} {zs : j_Zs} : j_P (jT, D, vwCl, tys, z, zs) "MissionDesk" 18 0 1 true (.array .int) := ⟨"MissionDesk", T_0, 16, ty_0, rfl, by decide, in_0, jm 316 (by decide +kernel) rfl, ty_0_ok, nm_0, rfl, by decide +kernel, by decide +kernel⟩
theorem P_Desk_25 {D : va_G} {tys : List (ClassId × FieldType)} {z : Nat} {zs : j_Zs} : j_P (jT, D, vwCl, tys, z, zs) "MissionDesk" 25 0 2 true (.object "MissionDesk$Turns") := ⟨"MissionDesk", T_0, 16, ty_0, rfl, by decide, in_0, jm 317 (by decide +kernel) rfl, ty_0_ok, nm_0, rfl, by decide +kernel, by decide +kernel⟩
theorem P_Desk_32 {D : va_G} {tys : List (ClassId × FieldType)} {z : Nat} {zs : j_Zs} : j_P (jT, D, vwCl, tys, z, zs) "MissionDesk" 32 0 3 true (.object "MissionDesk$MissionArea") := ⟨"MissionDesk", T_0, 16, ty_0, rfl, by decide, in_0, jm 318 (by decide +kernel) rfl, ty_0_ok, nm_0, rfl, by decide +kernel, by decide +kernel⟩
theorem P_Desk_39 {D : va_G} {tys : List (ClassId × FieldType)} {z : Nat} {zs : j_Zs} : j_P (jT, D, vwCl, tys, z, zs) "MissionDesk" 39 0 4 true (.object "MissionDesk$Journal") := ⟨"MissionDesk", T_0, 16, ty_0, rfl, by decide, in_0, jm 319 (by decide +kernel) rfl, ty_0_ok, nm_0, rfl, by decide +kernel, by decide +kernel⟩
theorem P_Desk_43 {D : va_G} {tys : List (ClassId × FieldType)} {z : Nat} {zs : j_Zs} : j_P (jT, D, vwCl, tys, z, zs) "MissionDesk" 43 0 5 false (.int) := ⟨"MissionDesk", T_0, 16, ty_0, rfl, by decide, in_0, jm 320 (by decide +kernel) rfl, ty_0_ok, nm_0, rfl, by decide +kernel, by decide +kernel⟩
theorem P_Frame_15 {D : va_G} {tys : List (ClassId × FieldType)} {z : Nat} {zs : j_Zs} : j_P (jT, D, vwCl, tys, z, zs) "MissionDesk$Frame" 15 7 0 false (.int) := ⟨"MissionDesk$Frame", T_7, 3, ty_7, rfl, by decide, in_7, jm 253 (by decide +kernel) rfl, ty_7_ok, nm_7, rfl, by decide +kernel, by decide +kernel⟩
theorem P_Frame_19 {D : va_G} {tys : List (ClassId × FieldType)} {z : Nat} {zs : j_Zs} : j_P (jT, D, vwCl, tys, z, zs) "MissionDesk$Frame" 19 7 1 false (.int) := ⟨"MissionDesk$Frame", T_7, 3, ty_7, rfl, by decide, in_7, jm 255 (by decide +kernel) rfl, ty_7_ok, nm_7, rfl, by decide +kernel, by decide +kernel⟩
theorem P_Frame_9 {D : va_G} {tys : List (ClassId × FieldType)} {z : Nat} {zs : j_Zs} : j_P (jT, D, vwCl, tys, z, zs) "MissionDesk$Frame" 9 7 2 true (.array .int) := ⟨"MissionDesk$Frame", T_7, 3, ty_7, rfl, by decide, in_7, jm 257 (by decide +kernel) rfl, ty_7_ok, nm_7, rfl, by decide +kernel, by decide +kernel⟩
theorem P_Handler_15 {D : va_G} {tys : List (ClassId × FieldType)} {z : Nat} {zs : j_Zs} : j_P (jT, D, vwCl, tys, z, zs) "MissionDesk$Handler" 15 1 10 true (.array .int) := ⟨"MissionDesk$Handler", T_1, 14, ty_1, rfl, by decide, in_1, jm 204 (by decide +kernel) rfl, ty_1_ok, nm_1, rfl, by decide +kernel, by decide +kernel⟩
theorem P_Handler_18 {D : va_G} {tys : List (ClassId × FieldType)} {z : Nat} {zs : j_Zs} : j_P (jT, D, vwCl, tys, z, zs) "MissionDesk$Handler" 18 1 11 true (.array .int) := ⟨"MissionDesk$Handler", T_1, 14, ty_1, rfl, by decide, in_1, jm 206 (by decide +kernel) rfl, ty_1_ok, nm_1, rfl, by decide +kernel, by decide +kernel⟩
theorem P_Handler_26 {D : va_G} {tys : List (ClassId × FieldType)} {z : Nat} {zs : j_Zs} : j_P (jT, D, vwCl, tys, z, zs) "MissionDesk$Handler" 26 1 12 true (.object "MissionDesk$Line") := ⟨"MissionDesk$Handler", T_1, 14, ty_1, rfl, by decide, in_1, jm 208 (by decide +kernel) rfl, ty_1_ok, nm_1, rfl, by decide +kernel, by decide +kernel⟩
theorem P_Handler_30 {D : va_G} {tys : List (ClassId × FieldType)} {z : Nat} {zs : j_Zs} : j_P (jT, D, vwCl, tys, z, zs) "MissionDesk$Handler" 30 1 0 false (.boolean) := ⟨"MissionDesk$Handler", T_1, 14, ty_1, rfl, by decide, in_1, jm 184 (by decide +kernel) rfl, ty_1_ok, nm_1, rfl, by decide +kernel, by decide +kernel⟩
theorem P_Handler_34 {D : va_G} {tys : List (ClassId × FieldType)} {z : Nat} {zs : j_Zs} : j_P (jT, D, vwCl, tys, z, zs) "MissionDesk$Handler" 34 1 1 false (.int) := ⟨"MissionDesk$Handler", T_1, 14, ty_1, rfl, by decide, in_1, jm 186 (by decide +kernel) rfl, ty_1_ok, nm_1, rfl, by decide +kernel, by decide +kernel⟩
theorem P_Handler_38 {D : va_G} {tys : List (ClassId × FieldType)} {z : Nat} {zs : j_Zs} : j_P (jT, D, vwCl, tys, z, zs) "MissionDesk$Handler" 38 1 2 false (.int) := ⟨"MissionDesk$Handler", T_1, 14, ty_1, rfl, by decide, in_1, jm 188 (by decide +kernel) rfl, ty_1_ok, nm_1, rfl, by decide +kernel, by decide +kernel⟩
theorem P_Handler_41 {D : va_G} {tys : List (ClassId × FieldType)} {z : Nat} {zs : j_Zs} : j_P (jT, D, vwCl, tys, z, zs) "MissionDesk$Handler" 41 1 3 false (.int) := ⟨"MissionDesk$Handler", T_1, 14, ty_1, rfl, by decide, in_1, jm 190 (by decide +kernel) rfl, ty_1_ok, nm_1, rfl, by decide +kernel, by decide +kernel⟩
theorem P_Handler_44 {D : va_G} {tys : List (ClassId × FieldType)} {z : Nat} {zs : j_Zs} : j_P (jT, D, vwCl, tys, z, zs) "MissionDesk$Handler" 44 1 4 false (.int) := ⟨"MissionDesk$Handler", T_1, 14, ty_1, rfl, by decide, in_1, jm 192 (by decide +kernel) rfl, ty_1_ok, nm_1, rfl, by decide +kernel, by decide +kernel⟩
theorem P_Handler_47 {D : va_G} {tys : List (ClassId × FieldType)} {z : Nat} {zs : j_Zs} : j_P (jT, D, vwCl, tys, z, zs) "MissionDesk$Handler" 47 1 5 false (.int) := ⟨"MissionDesk$Handler", T_1, 14, ty_1, rfl, by decide, in_1, jm 194 (by decide +kernel) rfl, ty_1_ok, nm_1, rfl, by decide +kernel, by decide +kernel⟩
theorem P_Handler_50 {D : va_G} {tys : List (ClassId × FieldType)} {z : Nat} {zs : j_Zs} : j_P (jT, D, vwCl, tys, z, zs) "MissionDesk$Handler" 50 1 6 false (.int) := ⟨"MissionDesk$Handler", T_1, 14, ty_1, rfl, by decide, in_1, jm 196 (by decide +kernel) rfl, ty_1_ok, nm_1, rfl, by decide +kernel, by decide +kernel⟩
theorem P_Handler_53 {D : va_G} {tys : List (ClassId × FieldType)} {z : Nat} {zs : j_Zs} : j_P (jT, D, vwCl, tys, z, zs) "MissionDesk$Handler" 53 1 7 false (.int) := ⟨"MissionDesk$Handler", T_1, 14, ty_1, rfl, by decide, in_1, jm 198 (by decide +kernel) rfl, ty_1_ok, nm_1, rfl, by decide +kernel, by decide +kernel⟩
theorem P_Handler_56 {D : va_G} {tys : List (ClassId × FieldType)} {z : Nat} {zs : j_Zs} : j_P (jT, D, vwCl, tys, z, zs) "MissionDesk$Handler" 56 1 8 false (.int) := ⟨"MissionDesk$Handler", T_1, 14, ty_1, rfl, by decide, in_1, jm 200 (by decide +kernel) rfl, ty_1_ok, nm_1, rfl, by decide +kernel, by decide +kernel⟩
theorem P_Handler_9 {D : va_G} {tys : List (ClassId × FieldType)} {z : Nat} {zs : j_Zs} : j_P (jT, D, vwCl, tys, z, zs) "MissionDesk$Handler" 9 1 9 true (.array .int) := ⟨"MissionDesk$Handler", T_1, 14, ty_1, rfl, by decide, in_1, jm 202 (by decide +kernel) rfl, ty_1_ok, nm_1, rfl, by decide +kernel, by decide +kernel⟩
theorem P_HeldLocks_15 {D : va_G} {tys : List (ClassId × FieldType)} {z : Nat} {zs : j_Zs} : j_P (jT, D, vwCl, tys, z, zs) "MissionDesk$HeldLocks" 15 5 1 false (.int) := ⟨"MissionDesk$HeldLocks", T_5, 2, ty_5, rfl, by decide, in_5, jm 129 (by decide +kernel) rfl, ty_5_ok, nm_5, rfl, by decide +kernel, by decide +kernel⟩
theorem P_HeldLocks_9 {D : va_G} {tys : List (ClassId × FieldType)} {z : Nat} {zs : j_Zs} : j_P (jT, D, vwCl, tys, z, zs) "MissionDesk$HeldLocks" 9 5 0 true (.array .int) := ⟨"MissionDesk$HeldLocks", T_5, 2, ty_5, rfl, by decide, in_5, jm 128 (by decide +kernel) rfl, ty_5_ok, nm_5, rfl, by decide +kernel, by decide +kernel⟩
theorem P_Journal_15 {D : va_G} {tys : List (ClassId × FieldType)} {z : Nat} {zs : j_Zs} : j_P (jT, D, vwCl, tys, z, zs) "MissionDesk$Journal" 15 9 1 false (.int) := ⟨"MissionDesk$Journal", T_9, 2, ty_9, rfl, by decide, in_9, jm 309 (by decide +kernel) rfl, ty_9_ok, nm_9, rfl, by decide +kernel, by decide +kernel⟩
theorem P_Journal_9 {D : va_G} {tys : List (ClassId × FieldType)} {z : Nat} {zs : j_Zs} : j_P (jT, D, vwCl, tys, z, zs) "MissionDesk$Journal" 9 9 0 true (.array .int) := ⟨"MissionDesk$Journal", T_9, 2, ty_9, rfl, by decide, in_9, jm 308 (by decide +kernel) rfl, ty_9_ok, nm_9, rfl, by decide +kernel, by decide +kernel⟩
theorem P_Line_11 {D : va_G} {tys : List (ClassId × FieldType)} {z : Nat} {zs : j_Zs} : j_P (jT, D, vwCl, tys, z, zs) "MissionDesk$Line" 11 2 0 true (.array (.object "MissionDesk$Release")) := ⟨"MissionDesk$Line", T_2, 3, ty_2, rfl, by decide, in_2, jm 173 (by decide +kernel) rfl, ty_2_ok, nm_2, rfl, by decide +kernel, by decide +kernel⟩
theorem P_Line_20 {D : va_G} {tys : List (ClassId × FieldType)} {z : Nat} {zs : j_Zs} : j_P (jT, D, vwCl, tys, z, zs) "MissionDesk$Line" 20 2 1 false (.int) := ⟨"MissionDesk$Line", T_2, 3, ty_2, rfl, by decide, in_2, jm 174 (by decide +kernel) rfl, ty_2_ok, nm_2, rfl, by decide +kernel, by decide +kernel⟩
theorem P_Line_24 {D : va_G} {tys : List (ClassId × FieldType)} {z : Nat} {zs : j_Zs} : j_P (jT, D, vwCl, tys, z, zs) "MissionDesk$Line" 24 2 2 false (.int) := ⟨"MissionDesk$Line", T_2, 3, ty_2, rfl, by decide, in_2, jm 175 (by decide +kernel) rfl, ty_2_ok, nm_2, rfl, by decide +kernel, by decide +kernel⟩
theorem P_MissionArea_13 {D : va_G} {tys : List (ClassId × FieldType)} {z : Nat} {zs : j_Zs} : j_P (jT, D, vwCl, tys, z, zs) "MissionDesk$MissionArea" 13 8 1 false (.int) := ⟨"MissionDesk$MissionArea", T_8, 2, ty_8, rfl, by decide, in_8, jm 295 (by decide +kernel) rfl, ty_8_ok, nm_8, rfl, by decide +kernel, by decide +kernel⟩
theorem P_MissionArea_7 {D : va_G} {tys : List (ClassId × FieldType)} {z : Nat} {zs : j_Zs} : j_P (jT, D, vwCl, tys, z, zs) "MissionDesk$MissionArea" 7 8 0 false (.int) := ⟨"MissionDesk$MissionArea", T_8, 2, ty_8, rfl, by decide, in_8, jm 293 (by decide +kernel) rfl, ty_8_ok, nm_8, rfl, by decide +kernel, by decide +kernel⟩
theorem P_Model_102 {D : va_G} {tys : List (ClassId × FieldType)} {z : Nat} {zs : j_Zs} : j_P (jT, D, vwCl, tys, z, zs) "MissionDeskModel" 102 10 45 true (.array .int) := ⟨"MissionDeskModel", T_10, 48, ty_10, rfl, by decide, in_10, jm 742 (by decide +kernel) rfl, ty_10_ok, nm_10, rfl, by decide +kernel, by decide +kernel⟩
theorem P_Model_105 {D : va_G} {tys : List (ClassId × FieldType)} {z : Nat} {zs : j_Zs} : j_P (jT, D, vwCl, tys, z, zs) "MissionDeskModel" 105 10 46 true (.array .int) := ⟨"MissionDeskModel", T_10, 48, ty_10, rfl, by decide, in_10, jm 743 (by decide +kernel) rfl, ty_10_ok, nm_10, rfl, by decide +kernel, by decide +kernel⟩
theorem P_Model_115 {D : va_G} {tys : List (ClassId × FieldType)} {z : Nat} {zs : j_Zs} : j_P (jT, D, vwCl, tys, z, zs) "MissionDeskModel" 115 10 30 false (.int) := ⟨"MissionDeskModel", T_10, 48, ty_10, rfl, by decide, in_10, jm 727 (by decide +kernel) rfl, ty_10_ok, nm_10, rfl, by decide +kernel, by decide +kernel⟩
theorem P_Model_13 {D : va_G} {tys : List (ClassId × FieldType)} {z : Nat} {zs : j_Zs} : j_P (jT, D, vwCl, tys, z, zs) "MissionDeskModel" 13 10 1 true (.array .int) := ⟨"MissionDeskModel", T_10, 48, ty_10, rfl, by decide, in_10, jm 698 (by decide +kernel) rfl, ty_10_ok, nm_10, rfl, by decide +kernel, by decide +kernel⟩
theorem P_Model_130 {D : va_G} {tys : List (ClassId × FieldType)} {z : Nat} {zs : j_Zs} : j_P (jT, D, vwCl, tys, z, zs) "MissionDeskModel" 130 10 33 false (.int) := ⟨"MissionDeskModel", T_10, 48, ty_10, rfl, by decide, in_10, jm 730 (by decide +kernel) rfl, ty_10_ok, nm_10, rfl, by decide +kernel, by decide +kernel⟩
theorem P_Model_133 {D : va_G} {tys : List (ClassId × FieldType)} {z : Nat} {zs : j_Zs} : j_P (jT, D, vwCl, tys, z, zs) "MissionDeskModel" 133 10 35 false (.int) := ⟨"MissionDeskModel", T_10, 48, ty_10, rfl, by decide, in_10, jm 732 (by decide +kernel) rfl, ty_10_ok, nm_10, rfl, by decide +kernel, by decide +kernel⟩
theorem P_Model_136 {D : va_G} {tys : List (ClassId × FieldType)} {z : Nat} {zs : j_Zs} : j_P (jT, D, vwCl, tys, z, zs) "MissionDeskModel" 136 10 36 false (.int) := ⟨"MissionDeskModel", T_10, 48, ty_10, rfl, by decide, in_10, jm 733 (by decide +kernel) rfl, ty_10_ok, nm_10, rfl, by decide +kernel, by decide +kernel⟩
theorem P_Model_142 {D : va_G} {tys : List (ClassId × FieldType)} {z : Nat} {zs : j_Zs} : j_P (jT, D, vwCl, tys, z, zs) "MissionDeskModel" 142 10 34 false (.int) := ⟨"MissionDeskModel", T_10, 48, ty_10, rfl, by decide, in_10, jm 731 (by decide +kernel) rfl, ty_10_ok, nm_10, rfl, by decide +kernel, by decide +kernel⟩
theorem P_Model_145 {D : va_G} {tys : List (ClassId × FieldType)} {z : Nat} {zs : j_Zs} : j_P (jT, D, vwCl, tys, z, zs) "MissionDeskModel" 145 10 41 false (.int) := ⟨"MissionDeskModel", T_10, 48, ty_10, rfl, by decide, in_10, jm 738 (by decide +kernel) rfl, ty_10_ok, nm_10, rfl, by decide +kernel, by decide +kernel⟩
theorem P_Model_148 {D : va_G} {tys : List (ClassId × FieldType)} {z : Nat} {zs : j_Zs} : j_P (jT, D, vwCl, tys, z, zs) "MissionDeskModel" 148 10 40 false (.int) := ⟨"MissionDeskModel", T_10, 48, ty_10, rfl, by decide, in_10, jm 737 (by decide +kernel) rfl, ty_10_ok, nm_10, rfl, by decide +kernel, by decide +kernel⟩
theorem P_Model_151 {D : va_G} {tys : List (ClassId × FieldType)} {z : Nat} {zs : j_Zs} : j_P (jT, D, vwCl, tys, z, zs) "MissionDeskModel" 151 10 32 false (.int) := ⟨"MissionDeskModel", T_10, 48, ty_10, rfl, by decide, in_10, jm 729 (by decide +kernel) rfl, ty_10_ok, nm_10, rfl, by decide +kernel, by decide +kernel⟩
theorem P_Model_17 {D : va_G} {tys : List (ClassId × FieldType)} {z : Nat} {zs : j_Zs} : j_P (jT, D, vwCl, tys, z, zs) "MissionDeskModel" 17 10 2 true (.array .int) := ⟨"MissionDeskModel", T_10, 48, ty_10, rfl, by decide, in_10, jm 699 (by decide +kernel) rfl, ty_10_ok, nm_10, rfl, by decide +kernel, by decide +kernel⟩
theorem P_Model_20 {D : va_G} {tys : List (ClassId × FieldType)} {z : Nat} {zs : j_Zs} : j_P (jT, D, vwCl, tys, z, zs) "MissionDeskModel" 20 10 3 true (.array .int) := ⟨"MissionDeskModel", T_10, 48, ty_10, rfl, by decide, in_10, jm 700 (by decide +kernel) rfl, ty_10_ok, nm_10, rfl, by decide +kernel, by decide +kernel⟩
theorem P_Model_23 {D : va_G} {tys : List (ClassId × FieldType)} {z : Nat} {zs : j_Zs} : j_P (jT, D, vwCl, tys, z, zs) "MissionDeskModel" 23 10 4 true (.array .int) := ⟨"MissionDeskModel", T_10, 48, ty_10, rfl, by decide, in_10, jm 701 (by decide +kernel) rfl, ty_10_ok, nm_10, rfl, by decide +kernel, by decide +kernel⟩
theorem P_Model_26 {D : va_G} {tys : List (ClassId × FieldType)} {z : Nat} {zs : j_Zs} : j_P (jT, D, vwCl, tys, z, zs) "MissionDeskModel" 26 10 5 true (.array .int) := ⟨"MissionDeskModel", T_10, 48, ty_10, rfl, by decide, in_10, jm 702 (by decide +kernel) rfl, ty_10_ok, nm_10, rfl, by decide +kernel, by decide +kernel⟩
theorem P_Model_29 {D : va_G} {tys : List (ClassId × FieldType)} {z : Nat} {zs : j_Zs} : j_P (jT, D, vwCl, tys, z, zs) "MissionDeskModel" 29 10 6 true (.array .int) := ⟨"MissionDeskModel", T_10, 48, ty_10, rfl, by decide, in_10, jm 703 (by decide +kernel) rfl, ty_10_ok, nm_10, rfl, by decide +kernel, by decide +kernel⟩
theorem P_Model_32 {D : va_G} {tys : List (ClassId × FieldType)} {z : Nat} {zs : j_Zs} : j_P (jT, D, vwCl, tys, z, zs) "MissionDeskModel" 32 10 7 true (.array .int) := ⟨"MissionDeskModel", T_10, 48, ty_10, rfl, by decide, in_10, jm 704 (by decide +kernel) rfl, ty_10_ok, nm_10, rfl, by decide +kernel, by decide +kernel⟩
theorem P_Model_35 {D : va_G} {tys : List (ClassId × FieldType)} {z : Nat} {zs : j_Zs} : j_P (jT, D, vwCl, tys, z, zs) "MissionDeskModel" 35 10 8 true (.array .int) := ⟨"MissionDeskModel", T_10, 48, ty_10, rfl, by decide, in_10, jm 705 (by decide +kernel) rfl, ty_10_ok, nm_10, rfl, by decide +kernel, by decide +kernel⟩
theorem P_Model_38 {D : va_G} {tys : List (ClassId × FieldType)} {z : Nat} {zs : j_Zs} : j_P (jT, D, vwCl, tys, z, zs) "MissionDeskModel" 38 10 9 true (.array .int) := ⟨"MissionDeskModel", T_10, 48, ty_10, rfl, by decide, in_10, jm 706 (by decide +kernel) rfl, ty_10_ok, nm_10, rfl, by decide +kernel, by decide +kernel⟩
theorem P_Model_41 {D : va_G} {tys : List (ClassId × FieldType)} {z : Nat} {zs : j_Zs} : j_P (jT, D, vwCl, tys, z, zs) "MissionDeskModel" 41 10 10 true (.array .int) := ⟨"MissionDeskModel", T_10, 48, ty_10, rfl, by decide, in_10, jm 707 (by decide +kernel) rfl, ty_10_ok, nm_10, rfl, by decide +kernel, by decide +kernel⟩
theorem P_Model_44 {D : va_G} {tys : List (ClassId × FieldType)} {z : Nat} {zs : j_Zs} : j_P (jT, D, vwCl, tys, z, zs) "MissionDeskModel" 44 10 11 true (.array .int) := ⟨"MissionDeskModel", T_10, 48, ty_10, rfl, by decide, in_10, jm 708 (by decide +kernel) rfl, ty_10_ok, nm_10, rfl, by decide +kernel, by decide +kernel⟩
theorem P_Model_47 {D : va_G} {tys : List (ClassId × FieldType)} {z : Nat} {zs : j_Zs} : j_P (jT, D, vwCl, tys, z, zs) "MissionDeskModel" 47 10 12 true (.array .int) := ⟨"MissionDeskModel", T_10, 48, ty_10, rfl, by decide, in_10, jm 709 (by decide +kernel) rfl, ty_10_ok, nm_10, rfl, by decide +kernel, by decide +kernel⟩
theorem P_Model_50 {D : va_G} {tys : List (ClassId × FieldType)} {z : Nat} {zs : j_Zs} : j_P (jT, D, vwCl, tys, z, zs) "MissionDeskModel" 50 10 13 true (.array .int) := ⟨"MissionDeskModel", T_10, 48, ty_10, rfl, by decide, in_10, jm 710 (by decide +kernel) rfl, ty_10_ok, nm_10, rfl, by decide +kernel, by decide +kernel⟩
theorem P_Model_53 {D : va_G} {tys : List (ClassId × FieldType)} {z : Nat} {zs : j_Zs} : j_P (jT, D, vwCl, tys, z, zs) "MissionDeskModel" 53 10 14 true (.array .int) := ⟨"MissionDeskModel", T_10, 48, ty_10, rfl, by decide, in_10, jm 711 (by decide +kernel) rfl, ty_10_ok, nm_10, rfl, by decide +kernel, by decide +kernel⟩
theorem P_Model_56 {D : va_G} {tys : List (ClassId × FieldType)} {z : Nat} {zs : j_Zs} : j_P (jT, D, vwCl, tys, z, zs) "MissionDeskModel" 56 10 15 true (.array .int) := ⟨"MissionDeskModel", T_10, 48, ty_10, rfl, by decide, in_10, jm 712 (by decide +kernel) rfl, ty_10_ok, nm_10, rfl, by decide +kernel, by decide +kernel⟩
theorem P_Model_59 {D : va_G} {tys : List (ClassId × FieldType)} {z : Nat} {zs : j_Zs} : j_P (jT, D, vwCl, tys, z, zs) "MissionDeskModel" 59 10 16 true (.array .int) := ⟨"MissionDeskModel", T_10, 48, ty_10, rfl, by decide, in_10, jm 713 (by decide +kernel) rfl, ty_10_ok, nm_10, rfl, by decide +kernel, by decide +kernel⟩
theorem P_Model_62 {D : va_G} {tys : List (ClassId × FieldType)} {z : Nat} {zs : j_Zs} : j_P (jT, D, vwCl, tys, z, zs) "MissionDeskModel" 62 10 17 true (.array .int) := ⟨"MissionDeskModel", T_10, 48, ty_10, rfl, by decide, in_10, jm 714 (by decide +kernel) rfl, ty_10_ok, nm_10, rfl, by decide +kernel, by decide +kernel⟩
theorem P_Model_65 {D : va_G} {tys : List (ClassId × FieldType)} {z : Nat} {zs : j_Zs} : j_P (jT, D, vwCl, tys, z, zs) "MissionDeskModel" 65 10 19 true (.array .boolean) := ⟨"MissionDeskModel", T_10, 48, ty_10, rfl, by decide, in_10, jm 716 (by decide +kernel) rfl, ty_10_ok, nm_10, rfl, by decide +kernel, by decide +kernel⟩
theorem P_Model_68 {D : va_G} {tys : List (ClassId × FieldType)} {z : Nat} {zs : j_Zs} : j_P (jT, D, vwCl, tys, z, zs) "MissionDeskModel" 68 10 20 true (.array .int) := ⟨"MissionDeskModel", T_10, 48, ty_10, rfl, by decide, in_10, jm 717 (by decide +kernel) rfl, ty_10_ok, nm_10, rfl, by decide +kernel, by decide +kernel⟩
theorem P_Model_7 {D : va_G} {tys : List (ClassId × FieldType)} {z : Nat} {zs : j_Zs} : j_P (jT, D, vwCl, tys, z, zs) "MissionDeskModel" 7 10 0 true (.array .boolean) := ⟨"MissionDeskModel", T_10, 48, ty_10, rfl, by decide, in_10, jm 697 (by decide +kernel) rfl, ty_10_ok, nm_10, rfl, by decide +kernel, by decide +kernel⟩
theorem P_Model_71 {D : va_G} {tys : List (ClassId × FieldType)} {z : Nat} {zs : j_Zs} : j_P (jT, D, vwCl, tys, z, zs) "MissionDeskModel" 71 10 21 true (.array .int) := ⟨"MissionDeskModel", T_10, 48, ty_10, rfl, by decide, in_10, jm 718 (by decide +kernel) rfl, ty_10_ok, nm_10, rfl, by decide +kernel, by decide +kernel⟩
theorem P_Model_74 {D : va_G} {tys : List (ClassId × FieldType)} {z : Nat} {zs : j_Zs} : j_P (jT, D, vwCl, tys, z, zs) "MissionDeskModel" 74 10 22 true (.array .int) := ⟨"MissionDeskModel", T_10, 48, ty_10, rfl, by decide, in_10, jm 719 (by decide +kernel) rfl, ty_10_ok, nm_10, rfl, by decide +kernel, by decide +kernel⟩
theorem P_Model_77 {D : va_G} {tys : List (ClassId × FieldType)} {z : Nat} {zs : j_Zs} : j_P (jT, D, vwCl, tys, z, zs) "MissionDeskModel" 77 10 23 true (.array .int) := ⟨"MissionDeskModel", T_10, 48, ty_10, rfl, by decide, in_10, jm 720 (by decide +kernel) rfl, ty_10_ok, nm_10, rfl, by decide +kernel, by decide +kernel⟩
theorem P_Model_80 {D : va_G} {tys : List (ClassId × FieldType)} {z : Nat} {zs : j_Zs} : j_P (jT, D, vwCl, tys, z, zs) "MissionDeskModel" 80 10 24 true (.array .int) := ⟨"MissionDeskModel", T_10, 48, ty_10, rfl, by decide, in_10, jm 721 (by decide +kernel) rfl, ty_10_ok, nm_10, rfl, by decide +kernel, by decide +kernel⟩
theorem P_Model_83 {D : va_G} {tys : List (ClassId × FieldType)} {z : Nat} {zs : j_Zs} : j_P (jT, D, vwCl, tys, z, zs) "MissionDeskModel" 83 10 25 true (.array .int) := ⟨"MissionDeskModel", T_10, 48, ty_10, rfl, by decide, in_10, jm 722 (by decide +kernel) rfl, ty_10_ok, nm_10, rfl, by decide +kernel, by decide +kernel⟩
theorem P_Model_86 {D : va_G} {tys : List (ClassId × FieldType)} {z : Nat} {zs : j_Zs} : j_P (jT, D, vwCl, tys, z, zs) "MissionDeskModel" 86 10 26 true (.array .int) := ⟨"MissionDeskModel", T_10, 48, ty_10, rfl, by decide, in_10, jm 723 (by decide +kernel) rfl, ty_10_ok, nm_10, rfl, by decide +kernel, by decide +kernel⟩
theorem P_Model_89 {D : va_G} {tys : List (ClassId × FieldType)} {z : Nat} {zs : j_Zs} : j_P (jT, D, vwCl, tys, z, zs) "MissionDeskModel" 89 10 27 true (.array .int) := ⟨"MissionDeskModel", T_10, 48, ty_10, rfl, by decide, in_10, jm 724 (by decide +kernel) rfl, ty_10_ok, nm_10, rfl, by decide +kernel, by decide +kernel⟩
theorem P_Model_92 {D : va_G} {tys : List (ClassId × FieldType)} {z : Nat} {zs : j_Zs} : j_P (jT, D, vwCl, tys, z, zs) "MissionDeskModel" 92 10 28 true (.array .int) := ⟨"MissionDeskModel", T_10, 48, ty_10, rfl, by decide, in_10, jm 725 (by decide +kernel) rfl, ty_10_ok, nm_10, rfl, by decide +kernel, by decide +kernel⟩
theorem P_Model_95 {D : va_G} {tys : List (ClassId × FieldType)} {z : Nat} {zs : j_Zs} : j_P (jT, D, vwCl, tys, z, zs) "MissionDeskModel" 95 10 29 true (.array .int) := ⟨"MissionDeskModel", T_10, 48, ty_10, rfl, by decide, in_10, jm 726 (by decide +kernel) rfl, ty_10_ok, nm_10, rfl, by decide +kernel, by decide +kernel⟩
theorem P_Model_98 {D : va_G} {tys : List (ClassId × FieldType)} {z : Nat} {zs : j_Zs} : j_P (jT, D, vwCl, tys, z, zs) "MissionDeskModel" 98 10 39 false (.int) := ⟨"MissionDeskModel", T_10, 48, ty_10, rfl, by decide, in_10, jm 736 (by decide +kernel) rfl, ty_10_ok, nm_10, rfl, by decide +kernel, by decide +kernel⟩
theorem P_Release_16 {D : va_G} {tys : List (ClassId × FieldType)} {z : Nat} {zs : j_Zs} : j_P (jT, D, vwCl, tys, z, zs) "MissionDesk$Release" 16 3 1 true (.object "MissionDesk$Scopes") := ⟨"MissionDesk$Release", T_3, 8, ty_3, rfl, by decide, in_3, jm 139 (by decide +kernel) rfl, ty_3_ok, nm_3, rfl, by decide +kernel, by decide +kernel⟩
theorem P_Release_23 {D : va_G} {tys : List (ClassId × FieldType)} {z : Nat} {zs : j_Zs} : j_P (jT, D, vwCl, tys, z, zs) "MissionDesk$Release" 23 3 2 true (.object "MissionDesk$HeldLocks") := ⟨"MissionDesk$Release", T_3, 8, ty_3, rfl, by decide, in_3, jm 141 (by decide +kernel) rfl, ty_3_ok, nm_3, rfl, by decide +kernel, by decide +kernel⟩
theorem P_Release_27 {D : va_G} {tys : List (ClassId × FieldType)} {z : Nat} {zs : j_Zs} : j_P (jT, D, vwCl, tys, z, zs) "MissionDesk$Release" 27 3 3 false (.int) := ⟨"MissionDesk$Release", T_3, 8, ty_3, rfl, by decide, in_3, jm 143 (by decide +kernel) rfl, ty_3_ok, nm_3, rfl, by decide +kernel, by decide +kernel⟩
theorem P_Release_30 {D : va_G} {tys : List (ClassId × FieldType)} {z : Nat} {zs : j_Zs} : j_P (jT, D, vwCl, tys, z, zs) "MissionDesk$Release" 30 3 4 false (.int) := ⟨"MissionDesk$Release", T_3, 8, ty_3, rfl, by decide, in_3, jm 146 (by decide +kernel) rfl, ty_3_ok, nm_3, rfl, by decide +kernel, by decide +kernel⟩
theorem P_Release_33 {D : va_G} {tys : List (ClassId × FieldType)} {z : Nat} {zs : j_Zs} : j_P (jT, D, vwCl, tys, z, zs) "MissionDesk$Release" 33 3 5 false (.boolean) := ⟨"MissionDesk$Release", T_3, 8, ty_3, rfl, by decide, in_3, jm 149 (by decide +kernel) rfl, ty_3_ok, nm_3, rfl, by decide +kernel, by decide +kernel⟩
theorem P_Release_37 {D : va_G} {tys : List (ClassId × FieldType)} {z : Nat} {zs : j_Zs} : j_P (jT, D, vwCl, tys, z, zs) "MissionDesk$Release" 37 3 6 false (.int) := ⟨"MissionDesk$Release", T_3, 8, ty_3, rfl, by decide, in_3, jm 152 (by decide +kernel) rfl, ty_3_ok, nm_3, rfl, by decide +kernel, by decide +kernel⟩
theorem P_Release_40 {D : va_G} {tys : List (ClassId × FieldType)} {z : Nat} {zs : j_Zs} : j_P (jT, D, vwCl, tys, z, zs) "MissionDesk$Release" 40 3 7 false (.int) := ⟨"MissionDesk$Release", T_3, 8, ty_3, rfl, by decide, in_3, jm 154 (by decide +kernel) rfl, ty_3_ok, nm_3, rfl, by decide +kernel, by decide +kernel⟩
theorem P_Release_43 {D : va_G} {tys : List (ClassId × FieldType)} {z : Nat} {zs : j_Zs} : j_P (jT, D, vwCl, tys, z, zs) "MissionDesk$Release" 43 5 1 false (.int) := ⟨"MissionDesk$HeldLocks", T_5, 2, ty_5, rfl, by decide, in_5, jm 130 (by decide +kernel) rfl, ty_5_ok, nm_5, rfl, by decide +kernel, by decide +kernel⟩
theorem P_Release_7 {D : va_G} {tys : List (ClassId × FieldType)} {z : Nat} {zs : j_Zs} : j_P (jT, D, vwCl, tys, z, zs) "MissionDesk$Release" 7 3 0 true (.int) := ⟨"MissionDesk$Release", T_3, 8, ty_3, rfl, by decide, in_3, jm 137 (by decide +kernel) rfl, ty_3_ok, nm_3, rfl, by decide +kernel, by decide +kernel⟩
theorem P_Scopes_15 {D : va_G} {tys : List (ClassId × FieldType)} {z : Nat} {zs : j_Zs} : j_P (jT, D, vwCl, tys, z, zs) "MissionDesk$Scopes" 15 4 1 true (.array .int) := ⟨"MissionDesk$Scopes", T_4, 6, ty_4, rfl, by decide, in_4, jm 102 (by decide +kernel) rfl, ty_4_ok, nm_4, rfl, by decide +kernel, by decide +kernel⟩
theorem P_Scopes_18 {D : va_G} {tys : List (ClassId × FieldType)} {z : Nat} {zs : j_Zs} : j_P (jT, D, vwCl, tys, z, zs) "MissionDesk$Scopes" 18 4 3 true (.array .int) := ⟨"MissionDesk$Scopes", T_4, 6, ty_4, rfl, by decide, in_4, jm 105 (by decide +kernel) rfl, ty_4_ok, nm_4, rfl, by decide +kernel, by decide +kernel⟩
theorem P_Scopes_21 {D : va_G} {tys : List (ClassId × FieldType)} {z : Nat} {zs : j_Zs} : j_P (jT, D, vwCl, tys, z, zs) "MissionDesk$Scopes" 21 4 4 true (.array .int) := ⟨"MissionDesk$Scopes", T_4, 6, ty_4, rfl, by decide, in_4, jm 106 (by decide +kernel) rfl, ty_4_ok, nm_4, rfl, by decide +kernel, by decide +kernel⟩
theorem P_Scopes_24 {D : va_G} {tys : List (ClassId × FieldType)} {z : Nat} {zs : j_Zs} : j_P (jT, D, vwCl, tys, z, zs) "MissionDesk$Scopes" 24 4 2 false (.int) := ⟨"MissionDesk$Scopes", T_4, 6, ty_4, rfl, by decide, in_4, jm 103 (by decide +kernel) rfl, ty_4_ok, nm_4, rfl, by decide +kernel, by decide +kernel⟩
theorem P_Scopes_28 {D : va_G} {tys : List (ClassId × FieldType)} {z : Nat} {zs : j_Zs} : j_P (jT, D, vwCl, tys, z, zs) "MissionDesk$Scopes" 28 4 5 false (.int) := ⟨"MissionDesk$Scopes", T_4, 6, ty_4, rfl, by decide, in_4, jm 107 (by decide +kernel) rfl, ty_4_ok, nm_4, rfl, by decide +kernel, by decide +kernel⟩
theorem P_Scopes_9 {D : va_G} {tys : List (ClassId × FieldType)} {z : Nat} {zs : j_Zs} : j_P (jT, D, vwCl, tys, z, zs) "MissionDesk$Scopes" 9 4 0 true (.array .int) := ⟨"MissionDesk$Scopes", T_4, 6, ty_4, rfl, by decide, in_4, jm 101 (by decide +kernel) rfl, ty_4_ok, nm_4, rfl, by decide +kernel, by decide +kernel⟩
theorem P_Turns_11 {D : va_G} {tys : List (ClassId × FieldType)} {z : Nat} {zs : j_Zs} : j_P (jT, D, vwCl, tys, z, zs) "MissionDesk$Turns" 11 6 0 true (.array (.object "MissionDesk$Frame")) := ⟨"MissionDesk$Turns", T_6, 5, ty_6, rfl, by decide, in_6, jm 266 (by decide +kernel) rfl, ty_6_ok, nm_6, rfl, by decide +kernel, by decide +kernel⟩
theorem P_Turns_18 {D : va_G} {tys : List (ClassId × FieldType)} {z : Nat} {zs : j_Zs} : j_P (jT, D, vwCl, tys, z, zs) "MissionDesk$Turns" 18 6 3 false (.int) := ⟨"MissionDesk$Turns", T_6, 5, ty_6, rfl, by decide, in_6, jm 272 (by decide +kernel) rfl, ty_6_ok, nm_6, rfl, by decide +kernel, by decide +kernel⟩
theorem P_Turns_33 {D : va_G} {tys : List (ClassId × FieldType)} {z : Nat} {zs : j_Zs} : j_P (jT, D, vwCl, tys, z, zs) "MissionDesk$Turns" 33 6 1 false (.int) := ⟨"MissionDesk$Turns", T_6, 5, ty_6, rfl, by decide, in_6, jm 268 (by decide +kernel) rfl, ty_6_ok, nm_6, rfl, by decide +kernel, by decide +kernel⟩
theorem P_Turns_36 {D : va_G} {tys : List (ClassId × FieldType)} {z : Nat} {zs : j_Zs} : j_P (jT, D, vwCl, tys, z, zs) "MissionDesk$Turns" 36 6 2 false (.int) := ⟨"MissionDesk$Turns", T_6, 5, ty_6, rfl, by decide, in_6, jm 270 (by decide +kernel) rfl, ty_6_ok, nm_6, rfl, by decide +kernel, by decide +kernel⟩
theorem P_Turns_39 {D : va_G} {tys : List (ClassId × FieldType)} {z : Nat} {zs : j_Zs} : j_P (jT, D, vwCl, tys, z, zs) "MissionDesk$Turns" 39 6 4 false (.int) := ⟨"MissionDesk$Turns", T_6, 5, ty_6, rfl, by decide, in_6, jm 274 (by decide +kernel) rfl, ty_6_ok, nm_6, rfl, by decide +kernel, by decide +kernel⟩
theorem L_Desk_103 {D : va_G} {tys : List (ClassId × FieldType)} {z : Nat} {zs : j_Zs} : j_L (jT, D, vwCl, tys, z, zs) "MissionDesk" 103 1 Y_MissionArea_open 0 := ⟨jm 437 (by decide +kernel) rfl, jm 63 (by decide +kernel) rfl, jm 440 (by decide +kernel) rfl, by decide, by decide, by decide, by decide +kernel, (fun _ => ⟨jm 438 (by decide +kernel) rfl, jm 439 (by decide +kernel) rfl⟩), (fun h => absurd h (by decide)), (fun h => absurd h (by decide))⟩
theorem L_Desk_109 {D : va_G} {tys : List (ClassId × FieldType)} {z : Nat} {zs : j_Zs} : j_L (jT, D, vwCl, tys, z, zs) "MissionDesk" 109 1 Y_Turns_start 0 := ⟨jm 441 (by decide +kernel) rfl, jm 61 (by decide +kernel) rfl, jm 444 (by decide +kernel) rfl, by decide, by decide, by decide, by decide +kernel, (fun _ => ⟨jm 442 (by decide +kernel) rfl, jm 443 (by decide +kernel) rfl⟩), (fun h => absurd h (by decide)), (fun h => absurd h (by decide))⟩
theorem L_Desk_15 {D : va_G} {tys : List (ClassId × FieldType)} {z : Nat} {zs : j_Zs} : j_L (jT, D, vwCl, tys, z, zs) "MissionDesk" 15 1 Y_Handler_init 2 := ⟨jm 78 (by decide +kernel) rfl, jm 56 (by decide +kernel) rfl, jm 80 (by decide +kernel) rfl, by decide, by decide, by decide, by decide +kernel, (fun h => absurd h (by decide)), (fun h => absurd h (by decide)), (fun _ => ⟨rfl, rfl, jm 79 (by decide +kernel) rfl⟩)⟩
theorem L_Desk_199 {D : va_G} {tys : List (ClassId × FieldType)} {z : Nat} {zs : j_Zs} : j_L (jT, D, vwCl, tys, z, zs) "MissionDesk" 199 0 Y_Desk_chosenHandler 0 := ⟨jm 513 (by decide +kernel) rfl, jm 55 (by decide +kernel) rfl, jm 516 (by decide +kernel) rfl, by decide, by decide, by decide, by decide +kernel, (fun _ => ⟨jm 515 (by decide +kernel) rfl, jm 10 (by decide +kernel) rfl⟩), (fun h => absurd h (by decide)), (fun h => absurd h (by decide))⟩
theorem L_Desk_227 {D : va_G} {tys : List (ClassId × FieldType)} {z : Nat} {zs : j_Zs} : j_L (jT, D, vwCl, tys, z, zs) "MissionDesk" 227 1 Y_Journal_latest 0 := ⟨jm 687 (by decide +kernel) rfl, jm 64 (by decide +kernel) rfl, jm 690 (by decide +kernel) rfl, by decide, by decide, by decide, by decide +kernel, (fun _ => ⟨jm 688 (by decide +kernel) rfl, jm 689 (by decide +kernel) rfl⟩), (fun h => absurd h (by decide)), (fun h => absurd h (by decide))⟩
theorem L_Desk_24 {D : va_G} {tys : List (ClassId × FieldType)} {z : Nat} {zs : j_Zs} : j_L (jT, D, vwCl, tys, z, zs) "MissionDesk" 24 0 Y_Turns_init 2 := ⟨jm 242 (by decide +kernel) rfl, jm 61 (by decide +kernel) rfl, jm 244 (by decide +kernel) rfl, by decide, by decide, by decide, by decide +kernel, (fun h => absurd h (by decide)), (fun h => absurd h (by decide)), (fun _ => ⟨rfl, rfl, jm 243 (by decide +kernel) rfl⟩)⟩
theorem L_Desk_38 {D : va_G} {tys : List (ClassId × FieldType)} {z : Nat} {zs : j_Zs} : j_L (jT, D, vwCl, tys, z, zs) "MissionDesk" 38 0 Y_Journal_init 2 := ⟨jm 304 (by decide +kernel) rfl, jm 64 (by decide +kernel) rfl, jm 306 (by decide +kernel) rfl, by decide, by decide, by decide, by decide +kernel, (fun h => absurd h (by decide)), (fun h => absurd h (by decide)), (fun _ => ⟨rfl, rfl, jm 305 (by decide +kernel) rfl⟩)⟩
theorem L_Desk_47 {D : va_G} {tys : List (ClassId × FieldType)} {z : Nat} {zs : j_Zs} : j_L (jT, D, vwCl, tys, z, zs) "MissionDesk" 47 1 Y_Desk_isHandler 1 := ⟨jm 368 (by decide +kernel) rfl, jm 55 (by decide +kernel) rfl, jm 370 (by decide +kernel) rfl, by decide, by decide, by decide, by decide +kernel, (fun h => absurd h (by decide)), (fun _ => jm 369 (by decide +kernel) rfl), (fun h => absurd h (by decide))⟩
theorem L_Desk_51 {D : va_G} {tys : List (ClassId × FieldType)} {z : Nat} {zs : j_Zs} : j_L (jT, D, vwCl, tys, z, zs) "MissionDesk" 51 3 Y_Desk_within 1 := ⟨jm 371 (by decide +kernel) rfl, jm 55 (by decide +kernel) rfl, jm 373 (by decide +kernel) rfl, by decide, by decide, by decide, by decide +kernel, (fun h => absurd h (by decide)), (fun _ => jm 372 (by decide +kernel) rfl), (fun h => absurd h (by decide))⟩
theorem L_Desk_55 {D : va_G} {tys : List (ClassId × FieldType)} {z : Nat} {zs : j_Zs} : j_L (jT, D, vwCl, tys, z, zs) "MissionDesk" 55 4 Y_Handler_layDown 0 := ⟨jm 374 (by decide +kernel) rfl, jm 56 (by decide +kernel) rfl, jm 377 (by decide +kernel) rfl, by decide, by decide, by decide, by decide +kernel, (fun _ => ⟨jm 375 (by decide +kernel) rfl, jm 376 (by decide +kernel) rfl⟩), (fun h => absurd h (by decide)), (fun h => absurd h (by decide))⟩
theorem L_Desk_59 {D : va_G} {tys : List (ClassId × FieldType)} {z : Nat} {zs : j_Zs} : j_L (jT, D, vwCl, tys, z, zs) "MissionDesk" 59 1 Y_Desk_isThere 0 := ⟨jm 382 (by decide +kernel) rfl, jm 55 (by decide +kernel) rfl, jm 385 (by decide +kernel) rfl, by decide, by decide, by decide, by decide +kernel, (fun _ => ⟨jm 384 (by decide +kernel) rfl, jm 0 (by decide +kernel) rfl⟩), (fun h => absurd h (by decide)), (fun h => absurd h (by decide))⟩
theorem L_Desk_79 {D : va_G} {tys : List (ClassId × FieldType)} {z : Nat} {zs : j_Zs} : j_L (jT, D, vwCl, tys, z, zs) "MissionDesk" 79 1 Y_Desk_isFrame 1 := ⟨jm 409 (by decide +kernel) rfl, jm 55 (by decide +kernel) rfl, jm 411 (by decide +kernel) rfl, by decide, by decide, by decide, by decide +kernel, (fun h => absurd h (by decide)), (fun _ => jm 410 (by decide +kernel) rfl), (fun h => absurd h (by decide))⟩
theorem L_Desk_86 {D : va_G} {tys : List (ClassId × FieldType)} {z : Nat} {zs : j_Zs} : j_L (jT, D, vwCl, tys, z, zs) "MissionDesk" 86 1 Y_Frame_layDown 0 := ⟨jm 412 (by decide +kernel) rfl, jm 62 (by decide +kernel) rfl, jm 415 (by decide +kernel) rfl, by decide, by decide, by decide, by decide +kernel, (fun _ => ⟨jm 413 (by decide +kernel) rfl, jm 414 (by decide +kernel) rfl⟩), (fun h => absurd h (by decide)), (fun h => absurd h (by decide))⟩
theorem L_Desk_90 {D : va_G} {tys : List (ClassId × FieldType)} {z : Nat} {zs : j_Zs} : j_L (jT, D, vwCl, tys, z, zs) "MissionDesk" 90 0 Y_Frame_isThere 0 := ⟨jm 420 (by decide +kernel) rfl, jm 62 (by decide +kernel) rfl, jm 423 (by decide +kernel) rfl, by decide, by decide, by decide, by decide +kernel, (fun _ => ⟨jm 421 (by decide +kernel) rfl, jm 422 (by decide +kernel) rfl⟩), (fun h => absurd h (by decide)), (fun h => absurd h (by decide))⟩
theorem L_Desk_97 {D : va_G} {tys : List (ClassId × FieldType)} {z : Nat} {zs : j_Zs} : j_L (jT, D, vwCl, tys, z, zs) "MissionDesk" 97 0 Y_Turns_anyFrame 0 := ⟨jm 432 (by decide +kernel) rfl, jm 61 (by decide +kernel) rfl, jm 435 (by decide +kernel) rfl, by decide, by decide, by decide, by decide +kernel, (fun _ => ⟨jm 433 (by decide +kernel) rfl, jm 434 (by decide +kernel) rfl⟩), (fun h => absurd h (by decide)), (fun h => absurd h (by decide))⟩
theorem L_Handler_23 {D : va_G} {tys : List (ClassId × FieldType)} {z : Nat} {zs : j_Zs} : j_L (jT, D, vwCl, tys, z, zs) "MissionDesk$Handler" 23 1 Y_Line_init 2 := ⟨jm 84 (by decide +kernel) rfl, jm 57 (by decide +kernel) rfl, jm 86 (by decide +kernel) rfl, by decide, by decide, by decide, by decide +kernel, (fun h => absurd h (by decide)), (fun h => absurd h (by decide)), (fun _ => ⟨rfl, rfl, jm 85 (by decide +kernel) rfl⟩)⟩
theorem L_Law_12 {D : va_G} {tys : List (ClassId × FieldType)} {z : Nat} {zs : j_Zs} : j_L (jT, D, vwCl, tys, z, zs) "MissionDeskLaw" 12 0 Y_Model_init 2 := ⟨jm 693 (by decide +kernel) rfl, jm 65 (by decide +kernel) rfl, jm 695 (by decide +kernel) rfl, by decide, by decide, by decide, by decide +kernel, (fun h => absurd h (by decide)), (fun h => absurd h (by decide)), (fun _ => ⟨rfl, rfl, jm 694 (by decide +kernel) rfl⟩)⟩
theorem L_Law_13 {D : va_G} {tys : List (ClassId × FieldType)} {z : Nat} {zs : j_Zs} : j_L (jT, D, vwCl, tys, z, zs) "MissionDeskLaw" 13 5 Y_Desk_handler 0 := ⟨jm 364 (by decide +kernel) rfl, jm 55 (by decide +kernel) rfl, jm 367 (by decide +kernel) rfl, by decide, by decide, by decide, by decide +kernel, (fun _ => ⟨jm 365 (by decide +kernel) rfl, jm 366 (by decide +kernel) rfl⟩), (fun h => absurd h (by decide)), (fun h => absurd h (by decide))⟩
theorem L_Law_17 {D : va_G} {tys : List (ClassId × FieldType)} {z : Nat} {zs : j_Zs} : j_L (jT, D, vwCl, tys, z, zs) "MissionDeskLaw" 17 5 Y_Model_handler 0 := ⟨jm 843 (by decide +kernel) rfl, jm 65 (by decide +kernel) rfl, jm 846 (by decide +kernel) rfl, by decide, by decide, by decide, by decide +kernel, (fun _ => ⟨jm 844 (by decide +kernel) rfl, jm 845 (by decide +kernel) rfl⟩), (fun h => absurd h (by decide)), (fun h => absurd h (by decide))⟩
theorem L_Law_18 {D : va_G} {tys : List (ClassId × FieldType)} {z : Nat} {zs : j_Zs} : j_L (jT, D, vwCl, tys, z, zs) "MissionDeskLaw" 18 4 Y_Desk_limit 0 := ⟨jm 378 (by decide +kernel) rfl, jm 55 (by decide +kernel) rfl, jm 381 (by decide +kernel) rfl, by decide, by decide, by decide, by decide +kernel, (fun _ => ⟨jm 379 (by decide +kernel) rfl, jm 380 (by decide +kernel) rfl⟩), (fun h => absurd h (by decide)), (fun h => absurd h (by decide))⟩
theorem L_Law_22 {D : va_G} {tys : List (ClassId × FieldType)} {z : Nat} {zs : j_Zs} : j_L (jT, D, vwCl, tys, z, zs) "MissionDeskLaw" 22 4 Y_Model_limit 0 := ⟨jm 850 (by decide +kernel) rfl, jm 65 (by decide +kernel) rfl, jm 853 (by decide +kernel) rfl, by decide, by decide, by decide, by decide +kernel, (fun _ => ⟨jm 851 (by decide +kernel) rfl, jm 852 (by decide +kernel) rfl⟩), (fun h => absurd h (by decide)), (fun h => absurd h (by decide))⟩
theorem L_Law_23 {D : va_G} {tys : List (ClassId × FieldType)} {z : Nat} {zs : j_Zs} : j_L (jT, D, vwCl, tys, z, zs) "MissionDeskLaw" 23 3 Y_Desk_step 0 := ⟨jm 386 (by decide +kernel) rfl, jm 55 (by decide +kernel) rfl, jm 389 (by decide +kernel) rfl, by decide, by decide, by decide, by decide +kernel, (fun _ => ⟨jm 387 (by decide +kernel) rfl, jm 388 (by decide +kernel) rfl⟩), (fun h => absurd h (by decide)), (fun h => absurd h (by decide))⟩
theorem L_Law_27 {D : va_G} {tys : List (ClassId × FieldType)} {z : Nat} {zs : j_Zs} : j_L (jT, D, vwCl, tys, z, zs) "MissionDeskLaw" 27 3 Y_Model_step 0 := ⟨jm 858 (by decide +kernel) rfl, jm 65 (by decide +kernel) rfl, jm 861 (by decide +kernel) rfl, by decide, by decide, by decide, by decide +kernel, (fun _ => ⟨jm 859 (by decide +kernel) rfl, jm 860 (by decide +kernel) rfl⟩), (fun h => absurd h (by decide)), (fun h => absurd h (by decide))⟩
theorem L_Law_28 {D : va_G} {tys : List (ClassId × FieldType)} {z : Nat} {zs : j_Zs} : j_L (jT, D, vwCl, tys, z, zs) "MissionDeskLaw" 28 2 Y_Desk_ceiling 0 := ⟨jm 401 (by decide +kernel) rfl, jm 55 (by decide +kernel) rfl, jm 404 (by decide +kernel) rfl, by decide, by decide, by decide, by decide +kernel, (fun _ => ⟨jm 402 (by decide +kernel) rfl, jm 403 (by decide +kernel) rfl⟩), (fun h => absurd h (by decide)), (fun h => absurd h (by decide))⟩
theorem L_Law_32 {D : va_G} {tys : List (ClassId × FieldType)} {z : Nat} {zs : j_Zs} : j_L (jT, D, vwCl, tys, z, zs) "MissionDeskLaw" 32 2 Y_Model_ceiling 0 := ⟨jm 865 (by decide +kernel) rfl, jm 65 (by decide +kernel) rfl, jm 868 (by decide +kernel) rfl, by decide, by decide, by decide, by decide +kernel, (fun _ => ⟨jm 866 (by decide +kernel) rfl, jm 867 (by decide +kernel) rfl⟩), (fun h => absurd h (by decide)), (fun h => absurd h (by decide))⟩
theorem L_Law_33 {D : va_G} {tys : List (ClassId × FieldType)} {z : Nat} {zs : j_Zs} : j_L (jT, D, vwCl, tys, z, zs) "MissionDeskLaw" 33 2 Y_Desk_frame 0 := ⟨jm 405 (by decide +kernel) rfl, jm 55 (by decide +kernel) rfl, jm 408 (by decide +kernel) rfl, by decide, by decide, by decide, by decide +kernel, (fun _ => ⟨jm 406 (by decide +kernel) rfl, jm 407 (by decide +kernel) rfl⟩), (fun h => absurd h (by decide)), (fun h => absurd h (by decide))⟩
theorem L_Law_36 {D : va_G} {tys : List (ClassId × FieldType)} {z : Nat} {zs : j_Zs} : j_L (jT, D, vwCl, tys, z, zs) "MissionDeskLaw" 36 2 Y_Model_frame 0 := ⟨jm 869 (by decide +kernel) rfl, jm 65 (by decide +kernel) rfl, jm 872 (by decide +kernel) rfl, by decide, by decide, by decide, by decide +kernel, (fun _ => ⟨jm 870 (by decide +kernel) rfl, jm 871 (by decide +kernel) rfl⟩), (fun h => absurd h (by decide)), (fun h => absurd h (by decide))⟩
theorem L_Law_37 {D : va_G} {tys : List (ClassId × FieldType)} {z : Nat} {zs : j_Zs} : j_L (jT, D, vwCl, tys, z, zs) "MissionDeskLaw" 37 2 Y_Desk_place 0 := ⟨jm 416 (by decide +kernel) rfl, jm 55 (by decide +kernel) rfl, jm 419 (by decide +kernel) rfl, by decide, by decide, by decide, by decide +kernel, (fun _ => ⟨jm 417 (by decide +kernel) rfl, jm 418 (by decide +kernel) rfl⟩), (fun h => absurd h (by decide)), (fun h => absurd h (by decide))⟩
theorem L_Law_41 {D : va_G} {tys : List (ClassId × FieldType)} {z : Nat} {zs : j_Zs} : j_L (jT, D, vwCl, tys, z, zs) "MissionDeskLaw" 41 2 Y_Model_place 0 := ⟨jm 873 (by decide +kernel) rfl, jm 65 (by decide +kernel) rfl, jm 876 (by decide +kernel) rfl, by decide, by decide, by decide, by decide +kernel, (fun _ => ⟨jm 874 (by decide +kernel) rfl, jm 875 (by decide +kernel) rfl⟩), (fun h => absurd h (by decide)), (fun h => absurd h (by decide))⟩
theorem L_Law_42 {D : va_G} {tys : List (ClassId × FieldType)} {z : Nat} {zs : j_Zs} : j_L (jT, D, vwCl, tys, z, zs) "MissionDeskLaw" 42 2 Y_Desk_begin 0 := ⟨jm 428 (by decide +kernel) rfl, jm 55 (by decide +kernel) rfl, jm 431 (by decide +kernel) rfl, by decide, by decide, by decide, by decide +kernel, (fun _ => ⟨jm 429 (by decide +kernel) rfl, jm 430 (by decide +kernel) rfl⟩), (fun h => absurd h (by decide)), (fun h => absurd h (by decide))⟩
theorem L_Law_45 {D : va_G} {tys : List (ClassId × FieldType)} {z : Nat} {zs : j_Zs} : j_L (jT, D, vwCl, tys, z, zs) "MissionDeskLaw" 45 2 Y_Model_begin 0 := ⟨jm 877 (by decide +kernel) rfl, jm 65 (by decide +kernel) rfl, jm 880 (by decide +kernel) rfl, by decide, by decide, by decide, by decide +kernel, (fun _ => ⟨jm 878 (by decide +kernel) rfl, jm 879 (by decide +kernel) rfl⟩), (fun h => absurd h (by decide)), (fun h => absurd h (by decide))⟩
theorem L_Law_46 {D : va_G} {tys : List (ClassId × FieldType)} {z : Nat} {zs : j_Zs} : j_L (jT, D, vwCl, tys, z, zs) "MissionDeskLaw" 46 1 Y_Desk_run 0 := ⟨jm 453 (by decide +kernel) rfl, jm 55 (by decide +kernel) rfl, jm 456 (by decide +kernel) rfl, by decide, by decide, by decide, by decide +kernel, (fun _ => ⟨jm 454 (by decide +kernel) rfl, jm 455 (by decide +kernel) rfl⟩), (fun h => absurd h (by decide)), (fun h => absurd h (by decide))⟩
theorem L_Law_50 {D : va_G} {tys : List (ClassId × FieldType)} {z : Nat} {zs : j_Zs} : j_L (jT, D, vwCl, tys, z, zs) "MissionDeskLaw" 50 1 Y_Model_run 0 := ⟨jm 885 (by decide +kernel) rfl, jm 65 (by decide +kernel) rfl, jm 888 (by decide +kernel) rfl, by decide, by decide, by decide, by decide +kernel, (fun _ => ⟨jm 886 (by decide +kernel) rfl, jm 887 (by decide +kernel) rfl⟩), (fun h => absurd h (by decide)), (fun h => absurd h (by decide))⟩
theorem L_Law_51 {D : va_G} {tys : List (ClassId × FieldType)} {z : Nat} {zs : j_Zs} : j_L (jT, D, vwCl, tys, z, zs) "MissionDeskLaw" 51 1 Y_Desk_call 0 := ⟨jm 643 (by decide +kernel) rfl, jm 55 (by decide +kernel) rfl, jm 646 (by decide +kernel) rfl, by decide, by decide, by decide, by decide +kernel, (fun _ => ⟨jm 644 (by decide +kernel) rfl, jm 645 (by decide +kernel) rfl⟩), (fun h => absurd h (by decide)), (fun h => absurd h (by decide))⟩
theorem L_Law_54 {D : va_G} {tys : List (ClassId × FieldType)} {z : Nat} {zs : j_Zs} : j_L (jT, D, vwCl, tys, z, zs) "MissionDeskLaw" 54 1 Y_Model_call 0 := ⟨jm 989 (by decide +kernel) rfl, jm 65 (by decide +kernel) rfl, jm 992 (by decide +kernel) rfl, by decide, by decide, by decide, by decide +kernel, (fun _ => ⟨jm 990 (by decide +kernel) rfl, jm 991 (by decide +kernel) rfl⟩), (fun h => absurd h (by decide)), (fun h => absurd h (by decide))⟩
theorem L_Law_55 {D : va_G} {tys : List (ClassId × FieldType)} {z : Nat} {zs : j_Zs} : j_L (jT, D, vwCl, tys, z, zs) "MissionDeskLaw" 55 0 Y_Desk_stop 0 := ⟨jm 647 (by decide +kernel) rfl, jm 55 (by decide +kernel) rfl, jm 650 (by decide +kernel) rfl, by decide, by decide, by decide, by decide +kernel, (fun _ => ⟨jm 648 (by decide +kernel) rfl, jm 649 (by decide +kernel) rfl⟩), (fun h => absurd h (by decide)), (fun h => absurd h (by decide))⟩
theorem L_Law_59 {D : va_G} {tys : List (ClassId × FieldType)} {z : Nat} {zs : j_Zs} : j_L (jT, D, vwCl, tys, z, zs) "MissionDeskLaw" 59 0 Y_Model_stop 0 := ⟨jm 993 (by decide +kernel) rfl, jm 65 (by decide +kernel) rfl, jm 996 (by decide +kernel) rfl, by decide, by decide, by decide, by decide +kernel, (fun _ => ⟨jm 994 (by decide +kernel) rfl, jm 995 (by decide +kernel) rfl⟩), (fun h => absurd h (by decide)), (fun h => absurd h (by decide))⟩
theorem L_Law_60 {D : va_G} {tys : List (ClassId × FieldType)} {z : Nat} {zs : j_Zs} : j_L (jT, D, vwCl, tys, z, zs) "MissionDeskLaw" 60 2 Y_Desk_of 0 := ⟨jm 651 (by decide +kernel) rfl, jm 55 (by decide +kernel) rfl, jm 654 (by decide +kernel) rfl, by decide, by decide, by decide, by decide +kernel, (fun _ => ⟨jm 652 (by decide +kernel) rfl, jm 653 (by decide +kernel) rfl⟩), (fun h => absurd h (by decide)), (fun h => absurd h (by decide))⟩
theorem L_Law_63 {D : va_G} {tys : List (ClassId × FieldType)} {z : Nat} {zs : j_Zs} : j_L (jT, D, vwCl, tys, z, zs) "MissionDeskLaw" 63 2 Y_Model_of 0 := ⟨jm 997 (by decide +kernel) rfl, jm 65 (by decide +kernel) rfl, jm 1000 (by decide +kernel) rfl, by decide, by decide, by decide, by decide +kernel, (fun _ => ⟨jm 998 (by decide +kernel) rfl, jm 999 (by decide +kernel) rfl⟩), (fun h => absurd h (by decide)), (fun h => absurd h (by decide))⟩
theorem L_Law_64 {D : va_G} {tys : List (ClassId × FieldType)} {z : Nat} {zs : j_Zs} : j_L (jT, D, vwCl, tys, z, zs) "MissionDeskLaw" 64 2 Y_Desk_memory 0 := ⟨jm 659 (by decide +kernel) rfl, jm 55 (by decide +kernel) rfl, jm 662 (by decide +kernel) rfl, by decide, by decide, by decide, by decide +kernel, (fun _ => ⟨jm 660 (by decide +kernel) rfl, jm 661 (by decide +kernel) rfl⟩), (fun h => absurd h (by decide)), (fun h => absurd h (by decide))⟩
theorem L_Law_67 {D : va_G} {tys : List (ClassId × FieldType)} {z : Nat} {zs : j_Zs} : j_L (jT, D, vwCl, tys, z, zs) "MissionDeskLaw" 67 2 Y_Model_memory 0 := ⟨jm 1001 (by decide +kernel) rfl, jm 65 (by decide +kernel) rfl, jm 1004 (by decide +kernel) rfl, by decide, by decide, by decide, by decide +kernel, (fun _ => ⟨jm 1002 (by decide +kernel) rfl, jm 1003 (by decide +kernel) rfl⟩), (fun h => absurd h (by decide)), (fun h => absurd h (by decide))⟩
theorem L_Law_68 {D : va_G} {tys : List (ClassId × FieldType)} {z : Nat} {zs : j_Zs} : j_L (jT, D, vwCl, tys, z, zs) "MissionDeskLaw" 68 1 Y_Desk_desk 0 := ⟨jm 679 (by decide +kernel) rfl, jm 55 (by decide +kernel) rfl, jm 682 (by decide +kernel) rfl, by decide, by decide, by decide, by decide +kernel, (fun _ => ⟨jm 680 (by decide +kernel) rfl, jm 681 (by decide +kernel) rfl⟩), (fun h => absurd h (by decide)), (fun h => absurd h (by decide))⟩
theorem L_Law_71 {D : va_G} {tys : List (ClassId × FieldType)} {z : Nat} {zs : j_Zs} : j_L (jT, D, vwCl, tys, z, zs) "MissionDeskLaw" 71 1 Y_Model_desk 0 := ⟨jm 1009 (by decide +kernel) rfl, jm 65 (by decide +kernel) rfl, jm 1012 (by decide +kernel) rfl, by decide, by decide, by decide, by decide +kernel, (fun _ => ⟨jm 1010 (by decide +kernel) rfl, jm 1011 (by decide +kernel) rfl⟩), (fun h => absurd h (by decide)), (fun h => absurd h (by decide))⟩
theorem L_Law_72 {D : va_G} {tys : List (ClassId × FieldType)} {z : Nat} {zs : j_Zs} : j_L (jT, D, vwCl, tys, z, zs) "MissionDeskLaw" 72 1 Y_Desk_event 0 := ⟨jm 683 (by decide +kernel) rfl, jm 55 (by decide +kernel) rfl, jm 686 (by decide +kernel) rfl, by decide, by decide, by decide, by decide +kernel, (fun _ => ⟨jm 684 (by decide +kernel) rfl, jm 685 (by decide +kernel) rfl⟩), (fun h => absurd h (by decide)), (fun h => absurd h (by decide))⟩
theorem L_Law_75 {D : va_G} {tys : List (ClassId × FieldType)} {z : Nat} {zs : j_Zs} : j_L (jT, D, vwCl, tys, z, zs) "MissionDeskLaw" 75 1 Y_Model_event 0 := ⟨jm 1013 (by decide +kernel) rfl, jm 65 (by decide +kernel) rfl, jm 1016 (by decide +kernel) rfl, by decide, by decide, by decide, by decide +kernel, (fun _ => ⟨jm 1014 (by decide +kernel) rfl, jm 1015 (by decide +kernel) rfl⟩), (fun h => absurd h (by decide)), (fun h => absurd h (by decide))⟩
theorem L_Law_9 {D : va_G} {tys : List (ClassId × FieldType)} {z : Nat} {zs : j_Zs} : j_L (jT, D, vwCl, tys, z, zs) "MissionDeskLaw" 9 0 Y_Desk_init 2 := ⟨jm 69 (by decide +kernel) rfl, jm 55 (by decide +kernel) rfl, jm 71 (by decide +kernel) rfl, by decide, by decide, by decide, by decide +kernel, (fun h => absurd h (by decide)), (fun h => absurd h (by decide)), (fun _ => ⟨rfl, rfl, jm 70 (by decide +kernel) rfl⟩)⟩
theorem L_Line_17 {D : va_G} {tys : List (ClassId × FieldType)} {z : Nat} {zs : j_Zs} : j_L (jT, D, vwCl, tys, z, zs) "MissionDesk$Line" 17 1 Y_Release_init 2 := ⟨jm 91 (by decide +kernel) rfl, jm 58 (by decide +kernel) rfl, jm 93 (by decide +kernel) rfl, by decide, by decide, by decide, by decide +kernel, (fun h => absurd h (by decide)), (fun h => absurd h (by decide)), (fun _ => ⟨rfl, rfl, jm 92 (by decide +kernel) rfl⟩)⟩
theorem L_Line_27 {D : va_G} {tys : List (ClassId × FieldType)} {z : Nat} {zs : j_Zs} : j_L (jT, D, vwCl, tys, z, zs) "MissionDesk$Line" 27 1 Y_Line_at 0 := ⟨jm 473 (by decide +kernel) rfl, jm 57 (by decide +kernel) rfl, jm 476 (by decide +kernel) rfl, by decide, by decide, by decide, by decide +kernel, (fun _ => ⟨jm 474 (by decide +kernel) rfl, jm 475 (by decide +kernel) rfl⟩), (fun h => absurd h (by decide)), (fun h => absurd h (by decide))⟩
theorem L_Line_31 {D : va_G} {tys : List (ClassId × FieldType)} {z : Nat} {zs : j_Zs} : j_L (jT, D, vwCl, tys, z, zs) "MissionDesk$Line" 31 0 Y_Line_first 0 := ⟨jm 621 (by decide +kernel) rfl, jm 57 (by decide +kernel) rfl, jm 528 (by decide +kernel) rfl, by decide, by decide, by decide, by decide +kernel, (fun _ => ⟨jm 526 (by decide +kernel) rfl, jm 527 (by decide +kernel) rfl⟩), (fun h => absurd h (by decide)), (fun h => absurd h (by decide))⟩
theorem L_Model_108 {D : va_G} {tys : List (ClassId × FieldType)} {z : Nat} {zs : j_Zs} : j_L (jT, D, vwCl, tys, z, zs) "MissionDeskModel" 108 3 Y_Model_in 1 := ⟨jm 847 (by decide +kernel) rfl, jm 65 (by decide +kernel) rfl, jm 849 (by decide +kernel) rfl, by decide, by decide, by decide, by decide +kernel, (fun h => absurd h (by decide)), (fun _ => jm 848 (by decide +kernel) rfl), (fun h => absurd h (by decide))⟩
theorem L_Model_118 {D : va_G} {tys : List (ClassId × FieldType)} {z : Nat} {zs : j_Zs} : j_L (jT, D, vwCl, tys, z, zs) "MissionDeskModel" 118 1 Y_Model_isThere 0 := ⟨jm 854 (by decide +kernel) rfl, jm 65 (by decide +kernel) rfl, jm 857 (by decide +kernel) rfl, by decide, by decide, by decide, by decide +kernel, (fun _ => ⟨jm 856 (by decide +kernel) rfl, jm 26 (by decide +kernel) rfl⟩), (fun h => absurd h (by decide)), (fun h => absurd h (by decide))⟩
theorem L_Model_122 {D : va_G} {tys : List (ClassId × FieldType)} {z : Nat} {zs : j_Zs} : j_L (jT, D, vwCl, tys, z, zs) "MissionDeskModel" 122 2 Y_Model_isStep 1 := ⟨jm 862 (by decide +kernel) rfl, jm 65 (by decide +kernel) rfl, jm 864 (by decide +kernel) rfl, by decide, by decide, by decide, by decide +kernel, (fun h => absurd h (by decide)), (fun _ => jm 863 (by decide +kernel) rfl), (fun h => absurd h (by decide))⟩
theorem L_Model_126 {D : va_G} {tys : List (ClassId × FieldType)} {z : Nat} {zs : j_Zs} : j_L (jT, D, vwCl, tys, z, zs) "MissionDeskModel" 126 1 Y_Model_frameBehind 0 := ⟨jm 881 (by decide +kernel) rfl, jm 65 (by decide +kernel) rfl, jm 884 (by decide +kernel) rfl, by decide, by decide, by decide, by decide +kernel, (fun _ => ⟨jm 883 (by decide +kernel) rfl, jm 27 (by decide +kernel) rfl⟩), (fun h => absurd h (by decide)), (fun h => absurd h (by decide))⟩
theorem L_Model_170 {D : va_G} {tys : List (ClassId × FieldType)} {z : Nat} {zs : j_Zs} : j_L (jT, D, vwCl, tys, z, zs) "MissionDeskModel" 170 0 Y_Model_all 0 := ⟨jm 901 (by decide +kernel) rfl, jm 65 (by decide +kernel) rfl, jm 904 (by decide +kernel) rfl, by decide, by decide, by decide, by decide +kernel, (fun _ => ⟨jm 903 (by decide +kernel) rfl, jm 31 (by decide +kernel) rfl⟩), (fun h => absurd h (by decide)), (fun h => absurd h (by decide))⟩
theorem L_Model_234 {D : va_G} {tys : List (ClassId × FieldType)} {z : Nat} {zs : j_Zs} : j_L (jT, D, vwCl, tys, z, zs) "MissionDeskModel" 234 0 Y_Model_chosen 0 := ⟨jm 925 (by decide +kernel) rfl, jm 65 (by decide +kernel) rfl, jm 928 (by decide +kernel) rfl, by decide, by decide, by decide, by decide +kernel, (fun _ => ⟨jm 927 (by decide +kernel) rfl, jm 37 (by decide +kernel) rfl⟩), (fun h => absurd h (by decide)), (fun h => absurd h (by decide))⟩
theorem L_Release_15 {D : va_G} {tys : List (ClassId × FieldType)} {z : Nat} {zs : j_Zs} : j_L (jT, D, vwCl, tys, z, zs) "MissionDesk$Release" 15 0 Y_Scopes_init 2 := ⟨jm 97 (by decide +kernel) rfl, jm 59 (by decide +kernel) rfl, jm 99 (by decide +kernel) rfl, by decide, by decide, by decide, by decide +kernel, (fun h => absurd h (by decide)), (fun h => absurd h (by decide)), (fun _ => ⟨rfl, rfl, jm 98 (by decide +kernel) rfl⟩)⟩
theorem L_Release_22 {D : va_G} {tys : List (ClassId × FieldType)} {z : Nat} {zs : j_Zs} : j_L (jT, D, vwCl, tys, z, zs) "MissionDesk$Release" 22 0 Y_HeldLocks_init 2 := ⟨jm 124 (by decide +kernel) rfl, jm 60 (by decide +kernel) rfl, jm 126 (by decide +kernel) rfl, by decide, by decide, by decide, by decide +kernel, (fun h => absurd h (by decide)), (fun h => absurd h (by decide)), (fun _ => ⟨rfl, rfl, jm 125 (by decide +kernel) rfl⟩)⟩
theorem L_Release_46 {D : va_G} {tys : List (ClassId × FieldType)} {z : Nat} {zs : j_Zs} : j_L (jT, D, vwCl, tys, z, zs) "MissionDesk$Release" 46 1 Y_Scopes_open 0 := ⟨jm 541 (by decide +kernel) rfl, jm 59 (by decide +kernel) rfl, jm 544 (by decide +kernel) rfl, by decide, by decide, by decide, by decide +kernel, (fun _ => ⟨jm 542 (by decide +kernel) rfl, jm 543 (by decide +kernel) rfl⟩), (fun h => absurd h (by decide)), (fun h => absurd h (by decide))⟩
theorem L_Scopes_31 {D : va_G} {tys : List (ClassId × FieldType)} {z : Nat} {zs : j_Zs} : j_L (jT, D, vwCl, tys, z, zs) "MissionDesk$Scopes" 31 2 Y_Scopes_note 0 := ⟨jm 573 (by decide +kernel) rfl, jm 59 (by decide +kernel) rfl, jm 576 (by decide +kernel) rfl, by decide, by decide, by decide, by decide +kernel, (fun _ => ⟨jm 575 (by decide +kernel) rfl, jm 18 (by decide +kernel) rfl⟩), (fun h => absurd h (by decide)), (fun h => absurd h (by decide))⟩
theorem L_Turns_17 {D : va_G} {tys : List (ClassId × FieldType)} {z : Nat} {zs : j_Zs} : j_L (jT, D, vwCl, tys, z, zs) "MissionDesk$Turns" 17 0 Y_Frame_init 2 := ⟨jm 249 (by decide +kernel) rfl, jm 62 (by decide +kernel) rfl, jm 251 (by decide +kernel) rfl, by decide, by decide, by decide, by decide +kernel, (fun h => absurd h (by decide)), (fun h => absurd h (by decide)), (fun _ => ⟨rfl, rfl, jm 250 (by decide +kernel) rfl⟩)⟩
theorem L_Turns_22 {D : va_G} {tys : List (ClassId × FieldType)} {z : Nat} {zs : j_Zs} : j_L (jT, D, vwCl, tys, z, zs) "MissionDesk$Turns" 22 0 Y_Frame_isThere 0 := ⟨jm 436 (by decide +kernel) rfl, jm 62 (by decide +kernel) rfl, jm 423 (by decide +kernel) rfl, by decide, by decide, by decide, by decide +kernel, (fun _ => ⟨jm 421 (by decide +kernel) rfl, jm 422 (by decide +kernel) rfl⟩), (fun h => absurd h (by decide)), (fun h => absurd h (by decide))⟩
theorem L_Turns_26 {D : va_G} {tys : List (ClassId × FieldType)} {z : Nat} {zs : j_Zs} : j_L (jT, D, vwCl, tys, z, zs) "MissionDesk$Turns" 26 0 Y_Turns_clear 0 := ⟨jm 445 (by decide +kernel) rfl, jm 61 (by decide +kernel) rfl, jm 448 (by decide +kernel) rfl, by decide, by decide, by decide, by decide +kernel, (fun _ => ⟨jm 446 (by decide +kernel) rfl, jm 447 (by decide +kernel) rfl⟩), (fun h => absurd h (by decide)), (fun h => absurd h (by decide))⟩
theorem L_Turns_29 {D : va_G} {tys : List (ClassId × FieldType)} {z : Nat} {zs : j_Zs} : j_L (jT, D, vwCl, tys, z, zs) "MissionDesk$Turns" 29 1 Y_Turns_thereBehind 0 := ⟨jm 449 (by decide +kernel) rfl, jm 61 (by decide +kernel) rfl, jm 452 (by decide +kernel) rfl, by decide, by decide, by decide, by decide +kernel, (fun _ => ⟨jm 451 (by decide +kernel) rfl, jm 1 (by decide +kernel) rfl⟩), (fun h => absurd h (by decide)), (fun h => absurd h (by decide))⟩
theorem N_Desk_22 : Cond.classLink "MissionDesk" 22 "MissionDesk$Turns" ∈ jT ∧ Cond.instantiable "MissionDesk$Turns" 5 ∈ jT ∧ Cond.initialized "MissionDesk$Turns" ∈ jT := ⟨jm 240 (by decide +kernel) rfl, jm 241 (by decide +kernel) rfl, jm 61 (by decide +kernel) rfl⟩
theorem N_Desk_29 : Cond.classLink "MissionDesk" 29 "MissionDesk$MissionArea" ∈ jT ∧ Cond.instantiable "MissionDesk$MissionArea" 2 ∈ jT ∧ Cond.initialized "MissionDesk$MissionArea" ∈ jT := ⟨jm 287 (by decide +kernel) rfl, jm 288 (by decide +kernel) rfl, jm 63 (by decide +kernel) rfl⟩
theorem N_Desk_36 : Cond.classLink "MissionDesk" 36 "MissionDesk$Journal" ∈ jT ∧ Cond.instantiable "MissionDesk$Journal" 2 ∈ jT ∧ Cond.initialized "MissionDesk$Journal" ∈ jT := ⟨jm 302 (by decide +kernel) rfl, jm 303 (by decide +kernel) rfl, jm 64 (by decide +kernel) rfl⟩
theorem N_Desk_9 : Cond.classLink "MissionDesk" 9 "MissionDesk$Handler" ∈ jT ∧ Cond.instantiable "MissionDesk$Handler" 14 ∈ jT ∧ Cond.initialized "MissionDesk$Handler" ∈ jT := ⟨jm 75 (by decide +kernel) rfl, jm 77 (by decide +kernel) rfl, jm 56 (by decide +kernel) rfl⟩
theorem N_Handler_21 : Cond.classLink "MissionDesk$Handler" 21 "MissionDesk$Line" ∈ jT ∧ Cond.instantiable "MissionDesk$Line" 3 ∈ jT ∧ Cond.initialized "MissionDesk$Line" ∈ jT := ⟨jm 82 (by decide +kernel) rfl, jm 83 (by decide +kernel) rfl, jm 57 (by decide +kernel) rfl⟩
theorem N_Law_10 : Cond.classLink "MissionDeskLaw" 10 "MissionDeskModel" ∈ jT ∧ Cond.instantiable "MissionDeskModel" 48 ∈ jT ∧ Cond.initialized "MissionDeskModel" ∈ jT := ⟨jm 691 (by decide +kernel) rfl, jm 692 (by decide +kernel) rfl, jm 65 (by decide +kernel) rfl⟩
theorem N_Law_7 : Cond.classLink "MissionDeskLaw" 7 "MissionDesk" ∈ jT ∧ Cond.instantiable "MissionDesk" 16 ∈ jT ∧ Cond.initialized "MissionDesk" ∈ jT := ⟨jm 67 (by decide +kernel) rfl, jm 68 (by decide +kernel) rfl, jm 55 (by decide +kernel) rfl⟩
theorem N_Line_9 : Cond.classLink "MissionDesk$Line" 9 "MissionDesk$Release" ∈ jT ∧ Cond.instantiable "MissionDesk$Release" 8 ∈ jT ∧ Cond.initialized "MissionDesk$Release" ∈ jT := ⟨jm 88 (by decide +kernel) rfl, jm 90 (by decide +kernel) rfl, jm 58 (by decide +kernel) rfl⟩
theorem N_Release_13 : Cond.classLink "MissionDesk$Release" 13 "MissionDesk$Scopes" ∈ jT ∧ Cond.instantiable "MissionDesk$Scopes" 6 ∈ jT ∧ Cond.initialized "MissionDesk$Scopes" ∈ jT := ⟨jm 95 (by decide +kernel) rfl, jm 96 (by decide +kernel) rfl, jm 59 (by decide +kernel) rfl⟩
theorem N_Release_20 : Cond.classLink "MissionDesk$Release" 20 "MissionDesk$HeldLocks" ∈ jT ∧ Cond.instantiable "MissionDesk$HeldLocks" 2 ∈ jT ∧ Cond.initialized "MissionDesk$HeldLocks" ∈ jT := ⟨jm 122 (by decide +kernel) rfl, jm 123 (by decide +kernel) rfl, jm 60 (by decide +kernel) rfl⟩
theorem N_Turns_9 : Cond.classLink "MissionDesk$Turns" 9 "MissionDesk$Frame" ∈ jT ∧ Cond.instantiable "MissionDesk$Frame" 3 ∈ jT ∧ Cond.initialized "MissionDesk$Frame" ∈ jT := ⟨jm 246 (by decide +kernel) rfl, jm 248 (by decide +kernel) rfl, jm 62 (by decide +kernel) rfl⟩
theorem A_Desk_9 : Cond.classLink "MissionDesk" 9 "MissionDesk$Handler" ∈ jT := jm 75 (by decide +kernel) rfl
theorem A_Line_9 : Cond.classLink "MissionDesk$Line" 9 "MissionDesk$Release" ∈ jT := jm 88 (by decide +kernel) rfl
theorem A_Turns_9 : Cond.classLink "MissionDesk$Turns" 9 "MissionDesk$Frame" ∈ jT := jm 246 (by decide +kernel) rfl
theorem O_Desk_1 : Cond.methodLink "MissionDesk" 1 Lib.objectInit ∈ jT ∧ Cond.instanceMethod Lib.objectInit ∈ jT ∧ Cond.code Lib.objectInit ⟨#[0xb1]⟩ 1 none ∈ jT := ⟨jm 72 (by decide +kernel) rfl, jm 73 (by decide +kernel) rfl, jm 74 (by decide +kernel) rfl⟩
theorem O_Frame_3 : Cond.methodLink "MissionDesk$Frame" 3 Lib.objectInit ∈ jT ∧ Cond.instanceMethod Lib.objectInit ∈ jT ∧ Cond.code Lib.objectInit ⟨#[0xb1]⟩ 1 none ∈ jT := ⟨jm 252 (by decide +kernel) rfl, jm 73 (by decide +kernel) rfl, jm 74 (by decide +kernel) rfl⟩
theorem O_Handler_3 : Cond.methodLink "MissionDesk$Handler" 3 Lib.objectInit ∈ jT ∧ Cond.instanceMethod Lib.objectInit ∈ jT ∧ Cond.code Lib.objectInit ⟨#[0xb1]⟩ 1 none ∈ jT := ⟨jm 81 (by decide +kernel) rfl, jm 73 (by decide +kernel) rfl, jm 74 (by decide +kernel) rfl⟩
theorem O_HeldLocks_3 : Cond.methodLink "MissionDesk$HeldLocks" 3 Lib.objectInit ∈ jT ∧ Cond.instanceMethod Lib.objectInit ∈ jT ∧ Cond.code Lib.objectInit ⟨#[0xb1]⟩ 1 none ∈ jT := ⟨jm 127 (by decide +kernel) rfl, jm 73 (by decide +kernel) rfl, jm 74 (by decide +kernel) rfl⟩
theorem O_Journal_3 : Cond.methodLink "MissionDesk$Journal" 3 Lib.objectInit ∈ jT ∧ Cond.instanceMethod Lib.objectInit ∈ jT ∧ Cond.code Lib.objectInit ⟨#[0xb1]⟩ 1 none ∈ jT := ⟨jm 307 (by decide +kernel) rfl, jm 73 (by decide +kernel) rfl, jm 74 (by decide +kernel) rfl⟩
theorem O_Line_3 : Cond.methodLink "MissionDesk$Line" 3 Lib.objectInit ∈ jT ∧ Cond.instanceMethod Lib.objectInit ∈ jT ∧ Cond.code Lib.objectInit ⟨#[0xb1]⟩ 1 none ∈ jT := ⟨jm 87 (by decide +kernel) rfl, jm 73 (by decide +kernel) rfl, jm 74 (by decide +kernel) rfl⟩
theorem O_MissionArea_1 : Cond.methodLink "MissionDesk$MissionArea" 1 Lib.objectInit ∈ jT ∧ Cond.instanceMethod Lib.objectInit ∈ jT ∧ Cond.code Lib.objectInit ⟨#[0xb1]⟩ 1 none ∈ jT := ⟨jm 292 (by decide +kernel) rfl, jm 73 (by decide +kernel) rfl, jm 74 (by decide +kernel) rfl⟩
theorem O_Model_1 : Cond.methodLink "MissionDeskModel" 1 Lib.objectInit ∈ jT ∧ Cond.instanceMethod Lib.objectInit ∈ jT ∧ Cond.code Lib.objectInit ⟨#[0xb1]⟩ 1 none ∈ jT := ⟨jm 696 (by decide +kernel) rfl, jm 73 (by decide +kernel) rfl, jm 74 (by decide +kernel) rfl⟩
theorem O_Release_1 : Cond.methodLink "MissionDesk$Release" 1 Lib.objectInit ∈ jT ∧ Cond.instanceMethod Lib.objectInit ∈ jT ∧ Cond.code Lib.objectInit ⟨#[0xb1]⟩ 1 none ∈ jT := ⟨jm 94 (by decide +kernel) rfl, jm 73 (by decide +kernel) rfl, jm 74 (by decide +kernel) rfl⟩
theorem O_Scopes_3 : Cond.methodLink "MissionDesk$Scopes" 3 Lib.objectInit ∈ jT ∧ Cond.instanceMethod Lib.objectInit ∈ jT ∧ Cond.code Lib.objectInit ⟨#[0xb1]⟩ 1 none ∈ jT := ⟨jm 100 (by decide +kernel) rfl, jm 73 (by decide +kernel) rfl, jm 74 (by decide +kernel) rfl⟩
theorem O_Turns_3 : Cond.methodLink "MissionDesk$Turns" 3 Lib.objectInit ∈ jT ∧ Cond.instanceMethod Lib.objectInit ∈ jT ∧ Cond.code Lib.objectInit ⟨#[0xb1]⟩ 1 none ∈ jT := ⟨jm 245 (by decide +kernel) rfl, jm 73 (by decide +kernel) rfl, jm 74 (by decide +kernel) rfl⟩
