set_option maxRecDepth 100000 in
set_option maxHeartbeats 4000000 in
theorem C_in {D : va_G} {z : Nat} {zs : j_Zs} {ca : Nat → ClassId} (s : k_S) (x lo hi : Int32)  : k_F D z zs ca Y_Model_in 0 [.int x, .int lo, .int hi] s (some (.int (jb (lo ≤ x ∧ x ≤ hi)))) s := by
  refine k_of [(0, .int x), (1, .int lo), (2, .int hi)] (by decide) (Nat.le_of_ble_eq_true rfl) rfl (fun K X E => ?_)
  refine v_iload_n X d_Model_in_0 rfl ?_
  refine v_iload_n X d_Model_in_1 rfl ?_
  refine v_icmp_lt X 14 d_Model_in_2 (by decide) (fun c2 => ?_) (fun c2 => ?_)
  · refine v_iconst X (v := 0) d_Model_in_14 rfl ?_
    exact w_iret X E d_Model_in_15 rfl (by first | rfl | decide | exact jb_nar) ⟨by rw [jb_f (fun h => absurd c2 (Int32.not_lt.mpr h.1))], rfl⟩
  · refine v_iload_n X d_Model_in_5 rfl ?_
    refine v_iload_n X d_Model_in_6 rfl ?_
    refine v_icmp_gt X 14 d_Model_in_7 (by decide) (fun c7 => ?_) (fun c7 => ?_)
    · refine v_iconst X (v := 0) d_Model_in_14 rfl ?_
      exact w_iret X E d_Model_in_15 rfl (by first | rfl | decide | exact jb_nar) ⟨by rw [jb_f (fun h => absurd c7 (Int32.not_lt.mpr h.2))], rfl⟩
    · refine v_iconst X (v := 1) d_Model_in_10 rfl ?_
      refine v_goto X (tgt := 15) d_Model_in_11 (by decide) ?_
      exact w_iret X E d_Model_in_15 rfl (by first | rfl | decide | exact jb_nar) ⟨by rw [jb_t ⟨Int32.not_lt.mp c2, Int32.not_lt.mp c7⟩], rfl⟩
set_option maxRecDepth 100000 in
set_option maxHeartbeats 4000000 in
theorem M_isThere_0 {D : va_G} {z : Nat} {zs : j_Zs} {ca : Nat → ClassId} (s : k_S) (x : Int32) (hth : ∀ h, h < 8 → s 25 0 h = 0) : k_F D z zs ca Y_Model_isThere 1 [.ref (ad z 24 0), .int x] s (some (.int 0)) s := by
  refine k_of [(0, .ref (ad z 24 0)), (1, .int x)] (by decide) (Nat.le_of_ble_eq_true rfl) rfl (fun K X E => ?_)
  refine v_iload_n X d_Model_isThere_0 rfl ?_
  refine v_iconst X (v := 0) d_Model_isThere_1 rfl ?_
  refine v_bipush X (v := 7) d_Model_isThere_2 rfl ?_
  refine w_fSi X (As := [.int x, .int 0, .int 7]) (rest := []) L_Model_108 d_Model_isThere_4 (C_in _ _ _ _) rfl E (by decide) rfl (Nat.le_of_ble_eq_true rfl) ?_
  refine v_if_eq X 23 d_Model_isThere_7 (by decide) (fun c7 => ?_) (fun c7 => ?_)
  · refine v_iconst X (v := 0) d_Model_isThere_23 rfl ?_
    exact w_iret X E d_Model_isThere_24 rfl (by first | rfl | decide | exact jb_nar) ⟨rfl, rfl⟩
  · obtain ⟨k, hk, rfl⟩ := ix_le 7 rfl (by decide) (jb_n.mp c7)
    refine v_aload_n X d_Model_isThere_10 rfl rfl ?_
    refine w_getr X (ix2 := 0) rfl rfl F_Model_7 d_Model_isThere_11 rfl (by decide) ?_
    refine v_iload_n X d_Model_isThere_14 rfl ?_
    refine w_baldN X k rfl rfl d_Model_isThere_15 (by decide) (show k < 8 by omega) (by decide) ?_
    refine v_int (y := 0) (hth k hk) ?_
    refine v_if_eq X 23 d_Model_isThere_16 (by decide) (fun _ => ?_) (fun c16 => absurd (by decide) c16)
    refine v_iconst X (v := 0) d_Model_isThere_23 rfl ?_
    exact w_iret X E d_Model_isThere_24 rfl (by first | rfl | decide | exact jb_nar) ⟨rfl, rfl⟩
set_option maxRecDepth 100000 in
set_option maxHeartbeats 4000000 in
theorem M_handler {D : va_G} {z : Nat} {zs : j_Zs} {ca : Nat → ClassId} (s : k_S) (x1 x2 x3 x4 x5 : Int32) (hmo : s 24 0 30 = 0) : k_C D z zs ca Y_Model_handler 1 [.ref (ad z 24 0), .int x1, .int x2, .int x3, .int x4, .int x5] s (fun r s' => r = some (.int (jb (okH x1 x2 x3 x4 x5)))) := by
  refine k_of [(0, .ref (ad z 24 0)), (1, .int x1), (2, .int x2), (3, .int x3), (4, .int x4), (5, .int x5)] (by decide) (Nat.le_of_ble_eq_true rfl) rfl (fun K X E => ?_)
  refine v_iload_n X d_Model_handler_0 rfl ?_
  refine v_iconst X (v := 0) d_Model_handler_1 rfl ?_
  refine v_bipush X (v := 7) d_Model_handler_2 rfl ?_
  refine w_fSi X (As := [.int x1, .int 0, .int 7]) (rest := []) L_Model_108 d_Model_handler_4 (C_in _ _ _ _) rfl E (by decide) rfl (Nat.le_of_ble_eq_true rfl) ?_
  refine v_if_eq X 58 d_Model_handler_7 (by decide) (fun c7 => ?_) (fun c7 => ?_)
  · refine v_iconst X (v := 0) d_Model_handler_58 rfl ?_
    exact w_iret X E d_Model_handler_59 rfl (by first | rfl | decide | exact jb_nar) (by rw [jb_f (fun h => jb_0.mp c7 ⟨h.1.1, lt8.mp h.1.2⟩)])
  · obtain ⟨k, hk, rfl⟩ := ix_le 7 rfl (by decide) (jb_n.mp c7)
    refine v_iload_n X d_Model_handler_10 rfl ?_
    refine v_iconst X (v := 0) d_Model_handler_11 rfl ?_
    refine v_iconst X (v := 2) d_Model_handler_12 rfl ?_
    refine w_fSi X (As := [.int x2, .int 0, .int 2]) (rest := []) L_Model_108 d_Model_handler_13 (C_in _ _ _ _) rfl E (by decide) rfl (Nat.le_of_ble_eq_true rfl) ?_
    refine v_if_eq X 58 d_Model_handler_16 (by decide) (fun c16 => ?_) (fun c16 => ?_)
    · refine v_iconst X (v := 0) d_Model_handler_58 rfl ?_
      exact w_iret X E d_Model_handler_59 rfl (by first | rfl | decide | exact jb_nar) (by rw [jb_f (fun h => jb_0.mp c16 h.2.1)])
    · refine v_iload_n X d_Model_handler_19 rfl ?_
      refine v_iconst X (v := 1) d_Model_handler_20 rfl ?_
      refine v_bipush X (v := 9) d_Model_handler_21 rfl ?_
      refine w_fSi X (As := [.int x3, .int 1, .int 9]) (rest := []) L_Model_108 d_Model_handler_23 (C_in _ _ _ _) rfl E (by decide) rfl (Nat.le_of_ble_eq_true rfl) ?_
      refine v_if_eq X 58 d_Model_handler_26 (by decide) (fun c26 => ?_) (fun c26 => ?_)
      · refine v_iconst X (v := 0) d_Model_handler_58 rfl ?_
        exact w_iret X E d_Model_handler_59 rfl (by first | rfl | decide | exact jb_nar) (by rw [jb_f (fun h => jb_0.mp c26 h.2.2.1)])
      · refine v_iload X d_Model_handler_29 rfl ?_
        refine v_iconst X (v := 0) d_Model_handler_31 rfl ?_
        refine v_bipush X (v := 50) d_Model_handler_32 rfl ?_
        refine w_fSi X (As := [.int x4, .int 0, .int 50]) (rest := []) L_Model_108 d_Model_handler_34 (C_in _ _ _ _) rfl E (by decide) rfl (Nat.le_of_ble_eq_true rfl) ?_
        refine v_if_eq X 58 d_Model_handler_37 (by decide) (fun c37 => ?_) (fun c37 => ?_)
        · refine v_iconst X (v := 0) d_Model_handler_58 rfl ?_
          exact w_iret X E d_Model_handler_59 rfl (by first | rfl | decide | exact jb_nar) (by rw [jb_f (fun h => jb_0.mp c37 h.2.2.2.1)])
        · refine v_iload X d_Model_handler_40 rfl ?_
          refine v_iconst X (v := 1) d_Model_handler_42 rfl ?_
          refine v_bipush X (v := 50) d_Model_handler_43 rfl ?_
          refine w_fSi X (As := [.int x5, .int 1, .int 50]) (rest := []) L_Model_108 d_Model_handler_45 (C_in _ _ _ _) rfl E (by decide) rfl (Nat.le_of_ble_eq_true rfl) ?_
          refine v_if_eq X 58 d_Model_handler_48 (by decide) (fun c48 => ?_) (fun c48 => ?_)
          · refine v_iconst X (v := 0) d_Model_handler_58 rfl ?_
            exact w_iret X E d_Model_handler_59 rfl (by first | rfl | decide | exact jb_nar) (by rw [jb_f (fun h => jb_0.mp c48 h.2.2.2.2)])
          · refine v_aload_n X d_Model_handler_51 rfl rfl ?_
            refine w_geti X rfl rfl F_Model_115 d_Model_handler_52 (by decide) ?_
            refine v_if_eq X 60 d_Model_handler_55 (by decide) (fun _ => ?_) (fun c55 => absurd hmo c55)
            refine v_aload_n X d_Model_handler_60 rfl rfl ?_
            refine w_getr X (ix2 := 0) rfl rfl F_Model_7 d_Model_handler_61 rfl (by decide) ?_
            refine v_iload_n X d_Model_handler_64 rfl ?_
            refine v_iconst X (v := 1) d_Model_handler_65 rfl ?_
            refine w_bastN X k rfl rfl d_Model_handler_66 (by decide) (show k < 8 by omega) (by decide) (by decide) ?_
            refine v_aload_n X d_Model_handler_67 rfl rfl ?_
            refine w_getr X (ix2 := 0) rfl rfl F_Model_13 d_Model_handler_68 rfl (by decide) ?_
            refine v_iload_n X d_Model_handler_71 rfl ?_
            refine v_iload_n X d_Model_handler_72 rfl ?_
            refine w_iastN X k rfl rfl d_Model_handler_73 (by decide) (show k < 8 by omega) (by decide) ?_
            refine v_aload_n X d_Model_handler_74 rfl rfl ?_
            refine w_getr X (ix2 := 0) rfl rfl F_Model_17 d_Model_handler_75 rfl (by decide) ?_
            refine v_iload_n X d_Model_handler_78 rfl ?_
            refine v_iload_n X d_Model_handler_79 rfl ?_
            refine w_iastN X k rfl rfl d_Model_handler_80 (by decide) (show k < 8 by omega) (by decide) ?_
            refine v_aload_n X d_Model_handler_81 rfl rfl ?_
            refine w_getr X (ix2 := 0) rfl rfl F_Model_20 d_Model_handler_82 rfl (by decide) ?_
            refine v_iload_n X d_Model_handler_85 rfl ?_
            refine v_iload X d_Model_handler_86 rfl ?_
            refine w_iastN X k rfl rfl d_Model_handler_88 (by decide) (show k < 8 by omega) (by decide) ?_
            refine v_aload_n X d_Model_handler_89 rfl rfl ?_
            refine w_getr X (ix2 := 0) rfl rfl F_Model_23 d_Model_handler_90 rfl (by decide) ?_
            refine v_iload_n X d_Model_handler_93 rfl ?_
            refine v_iload X d_Model_handler_94 rfl ?_
            refine w_iastN X k rfl rfl d_Model_handler_96 (by decide) (show k < 8 by omega) (by decide) ?_
            refine v_aload_n X d_Model_handler_97 rfl rfl ?_
            refine w_getr X (ix2 := 0) rfl rfl F_Model_26 d_Model_handler_98 rfl (by decide) ?_
            refine v_iload_n X d_Model_handler_101 rfl ?_
            refine v_iconst X (v := 0) d_Model_handler_102 rfl ?_
            refine w_iastN X k rfl rfl d_Model_handler_103 (by decide) (show k < 8 by omega) (by decide) ?_
            refine v_aload_n X d_Model_handler_104 rfl rfl ?_
            refine w_getr X (ix2 := 0) rfl rfl F_Model_29 d_Model_handler_105 rfl (by decide) ?_
            refine v_iload_n X d_Model_handler_108 rfl ?_
            refine v_iconst X (v := -1) d_Model_handler_109 rfl ?_
            refine w_iastN X k rfl rfl d_Model_handler_110 (by decide) (show k < 8 by omega) (by decide) ?_
            refine v_aload_n X d_Model_handler_111 rfl rfl ?_
            refine w_getr X (ix2 := 0) rfl rfl F_Model_32 d_Model_handler_112 rfl (by decide) ?_
            refine v_iload_n X d_Model_handler_115 rfl ?_
            refine v_bipush X (v := 20) d_Model_handler_116 rfl ?_
            refine w_iastN X k rfl rfl d_Model_handler_118 (by decide) (show k < 8 by omega) (by decide) ?_
            refine v_aload_n X d_Model_handler_119 rfl rfl ?_
            refine w_getr X (ix2 := 0) rfl rfl F_Model_35 d_Model_handler_120 rfl (by decide) ?_
            refine v_iload_n X d_Model_handler_123 rfl ?_
            refine v_iconst X (v := 0) d_Model_handler_124 rfl ?_
            refine w_iastN X k rfl rfl d_Model_handler_125 (by decide) (show k < 8 by omega) (by decide) ?_
            refine v_iconst X (v := 1) d_Model_handler_126 rfl ?_
            exact w_iret X E d_Model_handler_127 rfl (by first | rfl | decide | exact jb_nar) (by rw [jb_t ⟨⟨(jb_n.mp c7).1, lt8.mpr (jb_n.mp c7).2⟩, jb_n.mp c16, jb_n.mp c26, jb_n.mp c37, jb_n.mp c48⟩])
set_option maxRecDepth 100000 in
set_option maxHeartbeats 4000000 in
theorem M_limit {D : va_G} {z : Nat} {zs : j_Zs} {ca : Nat → ClassId} (s : k_S) (x1 x2 x3 x4 : Int32) (hth : ∀ h, h < 8 → s 25 0 h = 0) : k_C D z zs ca Y_Model_limit 2 [.ref (ad z 24 0), .int x1, .int x2, .int x3, .int x4] s (fun r s' => r = some (.int 0)) := by
  refine k_of [(0, .ref (ad z 24 0)), (1, .int x1), (2, .int x2), (3, .int x3), (4, .int x4)] (by decide) (Nat.le_of_ble_eq_true rfl) rfl (fun K X E => ?_)
  refine v_aload_n X d_Model_limit_0 rfl rfl ?_
  refine v_iload_n X d_Model_limit_1 rfl ?_
  refine w_fVi X (As := [.int x1]) (rest := []) rfl rfl L_Model_118 d_Model_limit_2 (by decide) (M_isThere_0 s x1 hth) rfl E (by decide) rfl (Nat.le_of_ble_eq_true rfl) ?_
  refine v_if_eq X 46 d_Model_limit_5 (by decide) (fun _ => ?_) (fun c5 => absurd (by decide) c5)
  refine v_iconst X (v := 0) d_Model_limit_46 rfl ?_
  exact w_iret X E d_Model_limit_47 rfl (by first | rfl | decide | exact jb_nar) rfl
set_option maxRecDepth 100000 in
set_option maxHeartbeats 4000000 in
theorem M_call {D : va_G} {z : Nat} {zs : j_Zs} {ca : Nat → ClassId} (s : k_S) (x1 : Int32) (hth : ∀ h, h < 8 → s 25 0 h = 0) : k_C D z zs ca Y_Model_call 2 [.ref (ad z 24 0), .int x1] s (fun r s' => r = some (.int (-1))) := by
  refine k_of [(0, .ref (ad z 24 0)), (1, .int x1)] (by decide) (Nat.le_of_ble_eq_true rfl) rfl (fun K X E => ?_)
  refine v_aload_n X d_Model_call_0 rfl rfl ?_
  refine v_iload_n X d_Model_call_1 rfl ?_
  refine w_fVi X (As := [.int x1]) (rest := []) rfl rfl L_Model_118 d_Model_call_2 (by decide) (M_isThere_0 s x1 hth) rfl E (by decide) rfl (Nat.le_of_ble_eq_true rfl) ?_
  refine v_if_eq X 18 d_Model_call_5 (by decide) (fun _ => ?_) (fun c5 => absurd (by decide) c5)
  refine v_iconst X (v := -1) d_Model_call_18 rfl ?_
  exact w_iret X E d_Model_call_19 rfl rfl rfl
set_option maxRecDepth 100000 in
set_option maxHeartbeats 4000000 in
theorem M_of {D : va_G} {z : Nat} {zs : j_Zs} {ca : Nat → ClassId} (s : k_S) (x1 x2 : Int32) (hth : ∀ h, h < 8 → s 25 0 h = 0) : k_C D z zs ca Y_Model_of 2 [.ref (ad z 24 0), .int x1, .int x2] s (fun r s' => r = some (.int (-1))) := by
  refine k_of [(0, .ref (ad z 24 0)), (1, .int x1), (2, .int x2)] (by decide) (Nat.le_of_ble_eq_true rfl) rfl (fun K X E => ?_)
  refine v_aload_n X d_Model_of_0 rfl rfl ?_
  refine v_iload_n X d_Model_of_1 rfl ?_
  refine w_fVi X (As := [.int x1]) (rest := []) rfl rfl L_Model_118 d_Model_of_2 (by decide) (M_isThere_0 s x1 hth) rfl E (by decide) rfl (Nat.le_of_ble_eq_true rfl) ?_
  refine v_if_eq X 18 d_Model_of_5 (by decide) (fun _ => ?_) (fun c5 => absurd (by decide) c5)
  refine v_iconst X (v := -1) d_Model_of_18 rfl ?_
  exact w_iret X E d_Model_of_19 rfl rfl rfl
set_option maxRecDepth 100000 in
set_option maxHeartbeats 4000000 in
theorem M_memory {D : va_G} {z : Nat} {zs : j_Zs} {ca : Nat → ClassId} (s : k_S) (x1 x2 : Int32) (hth : ∀ h, h < 8 → s 25 0 h = 0) : k_C D z zs ca Y_Model_memory 2 [.ref (ad z 24 0), .int x1, .int x2] s (fun r s' => r = some (.int (-1))) := by
  refine k_of [(0, .ref (ad z 24 0)), (1, .int x1), (2, .int x2)] (by decide) (Nat.le_of_ble_eq_true rfl) rfl (fun K X E => ?_)
  refine v_aload_n X d_Model_memory_0 rfl rfl ?_
  refine v_iload_n X d_Model_memory_1 rfl ?_
  refine w_fVi X (As := [.int x1]) (rest := []) rfl rfl L_Model_118 d_Model_memory_2 (by decide) (M_isThere_0 s x1 hth) rfl E (by decide) rfl (Nat.le_of_ble_eq_true rfl) ?_
  refine v_if_eq X 17 d_Model_memory_5 (by decide) (fun _ => ?_) (fun c5 => absurd (by decide) c5)
  refine v_iconst X (v := -1) d_Model_memory_17 rfl ?_
  exact w_iret X E d_Model_memory_18 rfl rfl rfl
set_option maxRecDepth 100000 in
set_option maxHeartbeats 4000000 in
theorem M_isStep_0 {D : va_G} {z : Nat} {zs : j_Zs} {ca : Nat → ClassId} (s : k_S) (a : Int32)  : k_F D z zs ca Y_Model_isStep 1 [.int 0, .int a] s (some (.int (jb (1 ≤ a ∧ a ≤ 20)))) s := by
  refine k_of [(0, .int 0), (1, .int a)] (by decide) (Nat.le_of_ble_eq_true rfl) rfl (fun K X E => ?_)
  refine v_iload_n X d_Model_isStep_0 rfl ?_
  refine v_tableIn X (off := 55) (tgt := 56) d_Model_isStep_1 (by decide) (by decide) rfl (by decide) ?_
  refine v_iload_n X d_Model_isStep_56 rfl ?_
  refine v_iconst X (v := 1) d_Model_isStep_57 rfl ?_
  refine v_bipush X (v := 20) d_Model_isStep_58 rfl ?_
  refine w_fSi X (As := [.int a, .int 1, .int 20]) (rest := []) L_Model_108 d_Model_isStep_60 (C_in _ _ _ _) rfl E (by decide) rfl (Nat.le_of_ble_eq_true rfl) ?_
  exact w_iret X E d_Model_isStep_63 rfl (by first | rfl | decide | exact jb_nar) ⟨rfl, rfl⟩
set_option maxRecDepth 100000 in
set_option maxHeartbeats 4000000 in
theorem M_isStep_1 {D : va_G} {z : Nat} {zs : j_Zs} {ca : Nat → ClassId} (s : k_S) (a : Int32)  : k_F D z zs ca Y_Model_isStep 1 [.int 1, .int a] s (some (.int (jb (1 ≤ a ∧ a ≤ 20)))) s := by
  refine k_of [(0, .int 1), (1, .int a)] (by decide) (Nat.le_of_ble_eq_true rfl) rfl (fun K X E => ?_)
  refine v_iload_n X d_Model_isStep_0 rfl ?_
  refine v_tableIn X (off := 55) (tgt := 56) d_Model_isStep_1 (by decide) (by decide) rfl (by decide) ?_
  refine v_iload_n X d_Model_isStep_56 rfl ?_
  refine v_iconst X (v := 1) d_Model_isStep_57 rfl ?_
  refine v_bipush X (v := 20) d_Model_isStep_58 rfl ?_
  refine w_fSi X (As := [.int a, .int 1, .int 20]) (rest := []) L_Model_108 d_Model_isStep_60 (C_in _ _ _ _) rfl E (by decide) rfl (Nat.le_of_ble_eq_true rfl) ?_
  exact w_iret X E d_Model_isStep_63 rfl (by first | rfl | decide | exact jb_nar) ⟨rfl, rfl⟩
set_option maxRecDepth 100000 in
set_option maxHeartbeats 4000000 in
theorem M_isStep_2 {D : va_G} {z : Nat} {zs : j_Zs} {ca : Nat → ClassId} (s : k_S) (a : Int32)  : k_F D z zs ca Y_Model_isStep 1 [.int 2, .int a] s (some (.int (jb (1 ≤ a ∧ a ≤ 20)))) s := by
  refine k_of [(0, .int 2), (1, .int a)] (by decide) (Nat.le_of_ble_eq_true rfl) rfl (fun K X E => ?_)
  refine v_iload_n X d_Model_isStep_0 rfl ?_
  refine v_tableIn X (off := 55) (tgt := 56) d_Model_isStep_1 (by decide) (by decide) rfl (by decide) ?_
  refine v_iload_n X d_Model_isStep_56 rfl ?_
  refine v_iconst X (v := 1) d_Model_isStep_57 rfl ?_
  refine v_bipush X (v := 20) d_Model_isStep_58 rfl ?_
  refine w_fSi X (As := [.int a, .int 1, .int 20]) (rest := []) L_Model_108 d_Model_isStep_60 (C_in _ _ _ _) rfl E (by decide) rfl (Nat.le_of_ble_eq_true rfl) ?_
  exact w_iret X E d_Model_isStep_63 rfl (by first | rfl | decide | exact jb_nar) ⟨rfl, rfl⟩
set_option maxRecDepth 100000 in
set_option maxHeartbeats 4000000 in
theorem M_isStep_3 {D : va_G} {z : Nat} {zs : j_Zs} {ca : Nat → ClassId} (s : k_S) (a : Int32)  : k_F D z zs ca Y_Model_isStep 1 [.int 3, .int a] s (some (.int (jb (1 ≤ a ∧ a ≤ 30)))) s := by
  refine k_of [(0, .int 3), (1, .int a)] (by decide) (Nat.le_of_ble_eq_true rfl) rfl (fun K X E => ?_)
  refine v_iload_n X d_Model_isStep_0 rfl ?_
  refine v_tableIn X (off := 63) (tgt := 64) d_Model_isStep_1 (by decide) (by decide) rfl (by decide) ?_
  refine v_iload_n X d_Model_isStep_64 rfl ?_
  refine v_iconst X (v := 1) d_Model_isStep_65 rfl ?_
  refine v_bipush X (v := 30) d_Model_isStep_66 rfl ?_
  refine w_fSi X (As := [.int a, .int 1, .int 30]) (rest := []) L_Model_108 d_Model_isStep_68 (C_in _ _ _ _) rfl E (by decide) rfl (Nat.le_of_ble_eq_true rfl) ?_
  exact w_iret X E d_Model_isStep_71 rfl (by first | rfl | decide | exact jb_nar) ⟨rfl, rfl⟩
set_option maxRecDepth 100000 in
set_option maxHeartbeats 4000000 in
theorem M_isStep_4 {D : va_G} {z : Nat} {zs : j_Zs} {ca : Nat → ClassId} (s : k_S) (a : Int32)  : k_F D z zs ca Y_Model_isStep 1 [.int 4, .int a] s (some (.int 1)) s := by
  refine k_of [(0, .int 4), (1, .int a)] (by decide) (Nat.le_of_ble_eq_true rfl) rfl (fun K X E => ?_)
  refine v_iload_n X d_Model_isStep_0 rfl ?_
  refine v_tableIn X (off := 71) (tgt := 72) d_Model_isStep_1 (by decide) (by decide) rfl (by decide) ?_
  refine v_iconst X (v := 1) d_Model_isStep_72 rfl ?_
  exact w_iret X E d_Model_isStep_73 rfl (by first | rfl | decide | exact jb_nar) ⟨rfl, rfl⟩
set_option maxRecDepth 100000 in
set_option maxHeartbeats 4000000 in
theorem M_isStep_5 {D : va_G} {z : Nat} {zs : j_Zs} {ca : Nat → ClassId} (s : k_S) (a : Int32)  : k_F D z zs ca Y_Model_isStep 1 [.int 5, .int a] s (some (.int (jb (0 ≤ a ∧ a ≤ 3)))) s := by
  refine k_of [(0, .int 5), (1, .int a)] (by decide) (Nat.le_of_ble_eq_true rfl) rfl (fun K X E => ?_)
  refine v_iload_n X d_Model_isStep_0 rfl ?_
  refine v_tableIn X (off := 73) (tgt := 74) d_Model_isStep_1 (by decide) (by decide) rfl (by decide) ?_
  refine v_iload_n X d_Model_isStep_74 rfl ?_
  refine v_iconst X (v := 0) d_Model_isStep_75 rfl ?_
  refine v_iconst X (v := 3) d_Model_isStep_76 rfl ?_
  refine w_fSi X (As := [.int a, .int 0, .int 3]) (rest := []) L_Model_108 d_Model_isStep_77 (C_in _ _ _ _) rfl E (by decide) rfl (Nat.le_of_ble_eq_true rfl) ?_
  exact w_iret X E d_Model_isStep_80 rfl (by first | rfl | decide | exact jb_nar) ⟨rfl, rfl⟩
set_option maxRecDepth 100000 in
set_option maxHeartbeats 4000000 in
theorem M_isStep_6 {D : va_G} {z : Nat} {zs : j_Zs} {ca : Nat → ClassId} (s : k_S) (a : Int32)  : k_F D z zs ca Y_Model_isStep 1 [.int 6, .int a] s (some (.int (jb (0 ≤ a ∧ a ≤ 3)))) s := by
  refine k_of [(0, .int 6), (1, .int a)] (by decide) (Nat.le_of_ble_eq_true rfl) rfl (fun K X E => ?_)
  refine v_iload_n X d_Model_isStep_0 rfl ?_
  refine v_tableIn X (off := 73) (tgt := 74) d_Model_isStep_1 (by decide) (by decide) rfl (by decide) ?_
  refine v_iload_n X d_Model_isStep_74 rfl ?_
  refine v_iconst X (v := 0) d_Model_isStep_75 rfl ?_
  refine v_iconst X (v := 3) d_Model_isStep_76 rfl ?_
  refine w_fSi X (As := [.int a, .int 0, .int 3]) (rest := []) L_Model_108 d_Model_isStep_77 (C_in _ _ _ _) rfl E (by decide) rfl (Nat.le_of_ble_eq_true rfl) ?_
  exact w_iret X E d_Model_isStep_80 rfl (by first | rfl | decide | exact jb_nar) ⟨rfl, rfl⟩
set_option maxRecDepth 100000 in
set_option maxHeartbeats 4000000 in
theorem M_isStep_7 {D : va_G} {z : Nat} {zs : j_Zs} {ca : Nat → ClassId} (s : k_S) (a : Int32)  : k_F D z zs ca Y_Model_isStep 1 [.int 7, .int a] s (some (.int (jb (0 ≤ a ∧ a ≤ 7)))) s := by
  refine k_of [(0, .int 7), (1, .int a)] (by decide) (Nat.le_of_ble_eq_true rfl) rfl (fun K X E => ?_)
  refine v_iload_n X d_Model_isStep_0 rfl ?_
  refine v_tableIn X (off := 80) (tgt := 81) d_Model_isStep_1 (by decide) (by decide) rfl (by decide) ?_
  refine v_iload_n X d_Model_isStep_81 rfl ?_
  refine v_iconst X (v := 0) d_Model_isStep_82 rfl ?_
  refine v_bipush X (v := 7) d_Model_isStep_83 rfl ?_
  refine w_fSi X (As := [.int a, .int 0, .int 7]) (rest := []) L_Model_108 d_Model_isStep_85 (C_in _ _ _ _) rfl E (by decide) rfl (Nat.le_of_ble_eq_true rfl) ?_
  exact w_iret X E d_Model_isStep_88 rfl (by first | rfl | decide | exact jb_nar) ⟨rfl, rfl⟩
set_option maxRecDepth 100000 in
set_option maxHeartbeats 4000000 in
theorem M_isStep_8 {D : va_G} {z : Nat} {zs : j_Zs} {ca : Nat → ClassId} (s : k_S) (a : Int32)  : k_F D z zs ca Y_Model_isStep 1 [.int 8, .int a] s (some (.int 1)) s := by
  refine k_of [(0, .int 8), (1, .int a)] (by decide) (Nat.le_of_ble_eq_true rfl) rfl (fun K X E => ?_)
  refine v_iload_n X d_Model_isStep_0 rfl ?_
  refine v_tableIn X (off := 71) (tgt := 72) d_Model_isStep_1 (by decide) (by decide) rfl (by decide) ?_
  refine v_iconst X (v := 1) d_Model_isStep_72 rfl ?_
  exact w_iret X E d_Model_isStep_73 rfl (by first | rfl | decide | exact jb_nar) ⟨rfl, rfl⟩
set_option maxRecDepth 100000 in
set_option maxHeartbeats 4000000 in
theorem M_isStep_9 {D : va_G} {z : Nat} {zs : j_Zs} {ca : Nat → ClassId} (s : k_S) (a : Int32)  : k_F D z zs ca Y_Model_isStep 1 [.int 9, .int a] s (some (.int (jb (0 ≤ a ∧ a ≤ 1)))) s := by
  refine k_of [(0, .int 9), (1, .int a)] (by decide) (Nat.le_of_ble_eq_true rfl) rfl (fun K X E => ?_)
  refine v_iload_n X d_Model_isStep_0 rfl ?_
  refine v_tableIn X (off := 88) (tgt := 89) d_Model_isStep_1 (by decide) (by decide) rfl (by decide) ?_
  refine v_iload_n X d_Model_isStep_89 rfl ?_
  refine v_iconst X (v := 0) d_Model_isStep_90 rfl ?_
  refine v_iconst X (v := 1) d_Model_isStep_91 rfl ?_
  refine w_fSi X (As := [.int a, .int 0, .int 1]) (rest := []) L_Model_108 d_Model_isStep_92 (C_in _ _ _ _) rfl E (by decide) rfl (Nat.le_of_ble_eq_true rfl) ?_
  exact w_iret X E d_Model_isStep_95 rfl (by first | rfl | decide | exact jb_nar) ⟨rfl, rfl⟩
set_option maxRecDepth 100000 in
set_option maxHeartbeats 4000000 in
theorem M_isStep_out {D : va_G} {z : Nat} {zs : j_Zs} {ca : Nat → ClassId} (s : k_S) (x a : Int32) (ho : x.toInt < 0 ∨ 9 < x.toInt) : k_F D z zs ca Y_Model_isStep 1 [.int x, .int a] s (some (.int 0)) s := by
  refine k_of [(0, .int x), (1, .int a)] (by decide) (Nat.le_of_ble_eq_true rfl) rfl (fun K X E => ?_)
  refine v_iload_n X d_Model_isStep_0 rfl ?_
  refine v_tableOut X (tgt := 96) d_Model_isStep_1 ho (by decide) ?_
  refine v_iconst X (v := 0) d_Model_isStep_96 rfl ?_
  exact w_iret X E d_Model_isStep_97 rfl (by first | rfl | decide | exact jb_nar) ⟨rfl, rfl⟩
theorem tab_cases {x : Int32} (n : Nat) (hn : n < 2 ^ 31) : (x.toInt < 0 ∨ (n : Int) - 1 < x.toInt) ∨ ∃ k : Nat, k < n ∧ x = nI k := by
  rcases pk_ix x hn with h1 | h1 | h1
  · exact Or.inl (Or.inl (by rw [Int32.lt_iff_toInt_lt] at h1; exact h1))
  · refine Or.inl (Or.inr ?_)
    rw [Int32.le_iff_toInt_le, nI_toInt hn] at h1
    omega
  · exact Or.inr h1
theorem M_isStep {D : va_G} {z : Nat} {zs : j_Zs} {ca : Nat → ClassId} (s : k_S) (x a : Int32) : ∃ v : Int32, k_F D z zs ca Y_Model_isStep 1 [.int x, .int a] s (some (.int v)) s := by
  rcases tab_cases (x := x) 10 (by decide) with h | ⟨k, hk, rfl⟩
  · exact ⟨_, M_isStep_out s x a h⟩
  · rcases (show k = 0 ∨ k = 1 ∨ k = 2 ∨ k = 3 ∨ k = 4 ∨ k = 5 ∨ k = 6 ∨ k = 7 ∨ k = 8 ∨ k = 9 by omega) with rfl | rfl | rfl | rfl | rfl | rfl | rfl | rfl | rfl | rfl
    · exact ⟨_, M_isStep_0 s a⟩
    · exact ⟨_, M_isStep_1 s a⟩
    · exact ⟨_, M_isStep_2 s a⟩
    · exact ⟨_, M_isStep_3 s a⟩
    · exact ⟨_, M_isStep_4 s a⟩
    · exact ⟨_, M_isStep_5 s a⟩
    · exact ⟨_, M_isStep_6 s a⟩
    · exact ⟨_, M_isStep_7 s a⟩
    · exact ⟨_, M_isStep_8 s a⟩
    · exact ⟨_, M_isStep_9 s a⟩
set_option maxRecDepth 100000 in
set_option maxHeartbeats 4000000 in
theorem M_step {D : va_G} {z : Nat} {zs : j_Zs} {ca : Nat → ClassId} (s : k_S) (x1 x2 x3 : Int32) (hth : ∀ h, h < 8 → s 25 0 h = 0) : k_C D z zs ca Y_Model_step 2 [.ref (ad z 24 0), .int x1, .int x2, .int x3] s (fun r s' => r = some (.int (-1))) := by
  obtain ⟨v, hv⟩ := M_isStep (D := D) (z := z) (zs := zs) (ca := ca) s x2 x3
  refine k_of [(0, .ref (ad z 24 0)), (1, .int x1), (2, .int x2), (3, .int x3)] (by decide) (Nat.le_of_ble_eq_true rfl) rfl (fun K X E => ?_)
  refine v_iload_n X d_Model_step_0 rfl ?_
  refine v_iload_n X d_Model_step_1 rfl ?_
  refine w_fSi X (As := [.int x2, .int x3]) (rest := []) L_Model_122 d_Model_step_2 hv rfl E (by decide) rfl (Nat.le_of_ble_eq_true rfl) ?_
  refine v_istore X [(4, .int v), (0, .ref (ad z 24 0)), (1, .int x1), (2, .int x2), (3, .int x3)] d_Model_step_5 (by decide) rfl ?_
  refine v_aload_n X d_Model_step_7 rfl rfl ?_
  refine v_iload_n X d_Model_step_8 rfl ?_
  refine w_fVi X (As := [.int x1]) (rest := []) rfl rfl L_Model_118 d_Model_step_9 (by decide) (M_isThere_0 s x1 hth) rfl E (by decide) rfl (Nat.le_of_ble_eq_true rfl) ?_
  refine v_if_eq X 20 d_Model_step_12 (by decide) (fun _ => ?_) (fun c12 => absurd (by decide) c12)
  refine v_iconst X (v := -1) d_Model_step_20 rfl ?_
  exact w_iret X E d_Model_step_21 rfl rfl rfl
set_option maxRecDepth 100000 in
set_option maxHeartbeats 4000000 in
theorem M_ceiling {D : va_G} {z : Nat} {zs : j_Zs} {ca : Nat → ClassId} (s : k_S) (x1 x2 : Int32) (hmo : s 24 0 30 = 0) : k_C D z zs ca Y_Model_ceiling 1 [.ref (ad z 24 0), .int x1, .int x2] s (fun r s' => r = some (.int (jb (okC x1 x2)))) := by
  refine k_of [(0, .ref (ad z 24 0)), (1, .int x1), (2, .int x2)] (by decide) (Nat.le_of_ble_eq_true rfl) rfl (fun K X E => ?_)
  refine v_iload_n X d_Model_ceiling_0 rfl ?_
  refine v_iconst X (v := 0) d_Model_ceiling_1 rfl ?_
  refine v_iconst X (v := 3) d_Model_ceiling_2 rfl ?_
  refine w_fSi X (As := [.int x1, .int 0, .int 3]) (rest := []) L_Model_108 d_Model_ceiling_3 (C_in _ _ _ _) rfl E (by decide) rfl (Nat.le_of_ble_eq_true rfl) ?_
  refine v_if_eq X 26 d_Model_ceiling_6 (by decide) (fun c6 => ?_) (fun c6 => ?_)
  · refine v_iconst X (v := 0) d_Model_ceiling_26 rfl ?_
    exact w_iret X E d_Model_ceiling_27 rfl (by first | rfl | decide | exact jb_nar) (by rw [jb_f (fun h => jb_0.mp c6 h.1)])
  · obtain ⟨k, hk, rfl⟩ := ix_le 3 rfl (by decide) (jb_n.mp c6)
    refine v_iload_n X d_Model_ceiling_9 rfl ?_
    refine v_iconst X (v := 1) d_Model_ceiling_10 rfl ?_
    refine v_bipush X (v := 9) d_Model_ceiling_11 rfl ?_
    refine w_fSi X (As := [.int x2, .int 1, .int 9]) (rest := []) L_Model_108 d_Model_ceiling_13 (C_in _ _ _ _) rfl E (by decide) rfl (Nat.le_of_ble_eq_true rfl) ?_
    refine v_if_eq X 26 d_Model_ceiling_16 (by decide) (fun c16 => ?_) (fun c16 => ?_)
    · refine v_iconst X (v := 0) d_Model_ceiling_26 rfl ?_
      exact w_iret X E d_Model_ceiling_27 rfl (by first | rfl | decide | exact jb_nar) (by rw [jb_f (fun h => jb_0.mp c16 h.2)])
    · refine v_aload_n X d_Model_ceiling_19 rfl rfl ?_
      refine w_geti X rfl rfl F_Model_115 d_Model_ceiling_20 (by decide) ?_
      refine v_if_eq X 28 d_Model_ceiling_23 (by decide) (fun _ => ?_) (fun c23 => absurd hmo c23)
      refine v_aload_n X d_Model_ceiling_28 rfl rfl ?_
      refine w_getr X (ix2 := 0) rfl rfl F_Model_44 d_Model_ceiling_29 rfl (by decide) ?_
      refine v_iload_n X d_Model_ceiling_32 rfl ?_
      refine v_iload_n X d_Model_ceiling_33 rfl ?_
      refine w_iastN X k rfl rfl d_Model_ceiling_34 (by decide) (show k < 4 by omega) (by decide) ?_
      refine v_iconst X (v := 1) d_Model_ceiling_35 rfl ?_
      exact w_iret X E d_Model_ceiling_36 rfl (by first | rfl | decide | exact jb_nar) (by rw [jb_t ⟨jb_n.mp c6, jb_n.mp c16⟩])
set_option maxRecDepth 100000 in
set_option maxHeartbeats 4000000 in
theorem M_frame {D : va_G} {z : Nat} {zs : j_Zs} {ca : Nat → ClassId} (s : k_S) (x1 x2 : Int32) (hmo : s 24 0 30 = 0) : k_C D z zs ca Y_Model_frame 1 [.ref (ad z 24 0), .int x1, .int x2] s (fun r s' => r = some (.int (jb (okF x1 x2)))) := by
  refine k_of [(0, .ref (ad z 24 0)), (1, .int x1), (2, .int x2)] (by decide) (Nat.le_of_ble_eq_true rfl) rfl (fun K X E => ?_)
  refine v_iload_n X d_Model_frame_0 rfl ?_
  refine v_iconst X (v := 0) d_Model_frame_1 rfl ?_
  refine v_iconst X (v := 3) d_Model_frame_2 rfl ?_
  refine w_fSi X (As := [.int x1, .int 0, .int 3]) (rest := []) L_Model_108 d_Model_frame_3 (C_in _ _ _ _) rfl E (by decide) rfl (Nat.le_of_ble_eq_true rfl) ?_
  refine v_if_eq X 26 d_Model_frame_6 (by decide) (fun c6 => ?_) (fun c6 => ?_)
  · refine v_iconst X (v := 0) d_Model_frame_26 rfl ?_
    exact w_iret X E d_Model_frame_27 rfl (by first | rfl | decide | exact jb_nar) (by rw [jb_f (fun h => jb_0.mp c6 ⟨h.1.1, lt4.mp h.1.2⟩)])
  · obtain ⟨k, hk, rfl⟩ := ix_le 3 rfl (by decide) (jb_n.mp c6)
    refine v_iload_n X d_Model_frame_9 rfl ?_
    refine v_iconst X (v := 0) d_Model_frame_10 rfl ?_
    refine v_bipush X (v := 30) d_Model_frame_11 rfl ?_
    refine w_fSi X (As := [.int x2, .int 0, .int 30]) (rest := []) L_Model_108 d_Model_frame_13 (C_in _ _ _ _) rfl E (by decide) rfl (Nat.le_of_ble_eq_true rfl) ?_
    refine v_if_eq X 26 d_Model_frame_16 (by decide) (fun c16 => ?_) (fun c16 => ?_)
    · refine v_iconst X (v := 0) d_Model_frame_26 rfl ?_
      exact w_iret X E d_Model_frame_27 rfl (by first | rfl | decide | exact jb_nar) (by rw [jb_f (fun h => jb_0.mp c16 h.2)])
    · refine v_aload_n X d_Model_frame_19 rfl rfl ?_
      refine w_geti X rfl rfl F_Model_115 d_Model_frame_20 (by decide) ?_
      refine v_if_eq X 28 d_Model_frame_23 (by decide) (fun _ => ?_) (fun c23 => absurd hmo c23)
      refine v_aload_n X d_Model_frame_28 rfl rfl ?_
      refine w_getr X (ix2 := 0) rfl rfl F_Model_47 d_Model_frame_29 rfl (by decide) ?_
      refine v_iload_n X d_Model_frame_32 rfl ?_
      refine v_iload_n X d_Model_frame_33 rfl ?_
      refine w_iastN X k rfl rfl d_Model_frame_34 (by decide) (show k < 4 by omega) (by decide) ?_
      refine v_aload_n X d_Model_frame_35 rfl rfl ?_
      refine w_getr X (ix2 := 0) rfl rfl F_Model_50 d_Model_frame_36 rfl (by decide) ?_
      refine v_iload_n X d_Model_frame_39 rfl ?_
      refine v_iconst X (v := 0) d_Model_frame_40 rfl ?_
      refine w_iastN X k rfl rfl d_Model_frame_41 (by decide) (show k < 4 by omega) (by decide) ?_
      refine v_iconst X (v := 1) d_Model_frame_42 rfl ?_
      exact w_iret X E d_Model_frame_43 rfl (by first | rfl | decide | exact jb_nar) (by rw [jb_t ⟨⟨(jb_n.mp c6).1, lt4.mpr (jb_n.mp c6).2⟩, jb_n.mp c16⟩])
set_option maxRecDepth 100000 in
set_option maxHeartbeats 4000000 in
theorem M_place {D : va_G} {z : Nat} {zs : j_Zs} {ca : Nat → ClassId} (s : k_S) (x1 x2 : Int32) (htk : ∀ f, f < 4 → s 37 0 f = 0) : k_C D z zs ca Y_Model_place 1 [.ref (ad z 24 0), .int x1, .int x2] s (fun r s' => r = some (.int (aP x1 x2))) := by
  refine k_of [(0, .ref (ad z 24 0)), (1, .int x1), (2, .int x2)] (by decide) (Nat.le_of_ble_eq_true rfl) rfl (fun K X E => ?_)
  refine v_iload_n X d_Model_place_0 rfl ?_
  refine v_iconst X (v := 0) d_Model_place_1 rfl ?_
  refine v_iconst X (v := 3) d_Model_place_2 rfl ?_
  refine w_fSi X (As := [.int x1, .int 0, .int 3]) (rest := []) L_Model_108 d_Model_place_3 (C_in _ _ _ _) rfl E (by decide) rfl (Nat.le_of_ble_eq_true rfl) ?_
  refine v_if_eq X 19 d_Model_place_6 (by decide) (fun c6 => ?_) (fun c6 => ?_)
  · refine v_iconst X (v := -1) d_Model_place_19 rfl ?_
    exact w_iret X E d_Model_place_20 rfl rfl (by rw [aP, if_neg (fun h => jb_0.mp c6 ⟨h.1.1, lt4.mp h.1.2⟩)])
  · obtain ⟨k, hk, rfl⟩ := ix_le 3 rfl (by decide) (jb_n.mp c6)
    refine v_iload_n X d_Model_place_9 rfl ?_
    refine v_iconst X (v := 0) d_Model_place_10 rfl ?_
    refine v_bipush X (v := 7) d_Model_place_11 rfl ?_
    refine w_fSi X (As := [.int x2, .int 0, .int 7]) (rest := []) L_Model_108 d_Model_place_13 (C_in _ _ _ _) rfl E (by decide) rfl (Nat.le_of_ble_eq_true rfl) ?_
    refine v_if_ne X 21 d_Model_place_16 (by decide) (fun c16 => ?_) (fun c16 => ?_)
    · refine v_aload_n X d_Model_place_21 rfl rfl ?_
      refine w_getr X (ix2 := 0) rfl rfl F_Model_47 d_Model_place_22 rfl (by decide) ?_
      refine v_iload_n X d_Model_place_25 rfl ?_
      refine w_ialdN X k rfl rfl d_Model_place_26 (by decide) (show k < 4 by omega) (by decide) ?_
      refine v_int (y := 0) (htk k hk) ?_
      refine v_if_eq X 37 d_Model_place_27 (by decide) (fun _ => ?_) (fun c27 => absurd (by decide) c27)
      refine v_bipush X (v := -2) d_Model_place_37 rfl ?_
      exact w_iret X E d_Model_place_39 rfl rfl (by rw [aP, if_pos ⟨⟨(jb_n.mp c6).1, lt4.mpr (jb_n.mp c6).2⟩, ⟨(jb_n.mp c16).1, lt8.mpr (jb_n.mp c16).2⟩⟩])
    · refine v_iconst X (v := -1) d_Model_place_19 rfl ?_
      exact w_iret X E d_Model_place_20 rfl rfl (by rw [aP, if_neg (fun h => jb_0.mp c16 ⟨h.2.1, lt8.mp h.2.2⟩)])
set_option maxRecDepth 100000 in
set_option maxHeartbeats 4000000 in
theorem M_run {D : va_G} {z : Nat} {zs : j_Zs} {ca : Nat → ClassId} (s : k_S) (x1 : Int32) (hmo : s 24 0 30 = 0) : k_C D z zs ca Y_Model_run 1 [.ref (ad z 24 0), .int x1] s (fun r s' => r = some (.int (aR x1))) := by
  refine k_of [(0, .ref (ad z 24 0)), (1, .int x1)] (by decide) (Nat.le_of_ble_eq_true rfl) rfl (fun K X E => ?_)
  refine v_iload_n X d_Model_run_0 rfl ?_
  refine v_iconst X (v := 1) d_Model_run_1 rfl ?_
  refine v_bipush X (v := 20) d_Model_run_2 rfl ?_
  refine w_fSi X (As := [.int x1, .int 1, .int 20]) (rest := []) L_Model_108 d_Model_run_4 (C_in _ _ _ _) rfl E (by decide) rfl (Nat.le_of_ble_eq_true rfl) ?_
  refine v_if_ne X 12 d_Model_run_7 (by decide) (fun c7 => ?_) (fun c7 => ?_)
  · refine v_aload_n X d_Model_run_12 rfl rfl ?_
    refine w_geti X rfl rfl F_Model_115 d_Model_run_13 (by decide) ?_
    refine v_if_ne X 22 d_Model_run_16 (by decide) (fun c16 => absurd hmo c16) (fun _ => ?_)
    refine v_bipush X (v := -2) d_Model_run_19 rfl ?_
    exact w_iret X E d_Model_run_21 rfl rfl (by rw [aR, if_pos (jb_n.mp c7)])
  · refine v_iconst X (v := -1) d_Model_run_10 rfl ?_
    exact w_iret X E d_Model_run_11 rfl rfl (by rw [aR, if_neg (fun h => jb_0.mp c7 h)])
set_option maxRecDepth 100000 in
set_option maxHeartbeats 4000000 in
theorem M_stop {D : va_G} {z : Nat} {zs : j_Zs} {ca : Nat → ClassId} (s : k_S) (hmo : s 24 0 30 = 0) : k_C D z zs ca Y_Model_stop 1 [.ref (ad z 24 0)] s (fun r s' => r = some (.int 0)) := by
  refine k_of [(0, .ref (ad z 24 0))] (by decide) (Nat.le_of_ble_eq_true rfl) rfl (fun K X E => ?_)
  refine v_aload_n X d_Model_stop_0 rfl rfl ?_
  refine w_geti X rfl rfl F_Model_115 d_Model_stop_1 (by decide) ?_
  refine v_int (y := 0) hmo ?_
  refine v_iconst X (v := 1) d_Model_stop_4 rfl ?_
  refine v_icmp_eq X 10 d_Model_stop_5 (by decide) (fun c5 => absurd c5 (by decide)) (fun _ => ?_)
  refine v_iconst X (v := 0) d_Model_stop_8 rfl ?_
  exact w_iret X E d_Model_stop_9 rfl (by first | rfl | decide | exact jb_nar) rfl
set_option maxRecDepth 100000 in
set_option maxHeartbeats 4000000 in
theorem M_event {D : va_G} {z : Nat} {zs : j_Zs} {ca : Nat → ClassId} (s : k_S) (x1 : Int32) (hev : s 24 0 47 = 0) : k_C D z zs ca Y_Model_event 1 [.ref (ad z 24 0), .int x1] s (fun r s' => r = some (.int (-2))) := by
  refine k_of [(0, .ref (ad z 24 0)), (1, .int x1)] (by decide) (Nat.le_of_ble_eq_true rfl) rfl (fun K X E => ?_)
  refine v_iload_n X d_Model_event_0 rfl ?_
  refine v_iconst X (v := 0) d_Model_event_1 rfl ?_
  refine v_bipush X (v := 31) d_Model_event_2 rfl ?_
  refine w_fSi X (As := [.int x1, .int 0, .int 31]) (rest := []) L_Model_108 d_Model_event_4 (C_in _ _ _ _) rfl E (by decide) rfl (Nat.le_of_ble_eq_true rfl) ?_
  refine v_if_eq X 37 d_Model_event_7 (by decide) (fun c7 => ?_) (fun c7 => ?_)
  · refine v_bipush X (v := -2) d_Model_event_37 rfl ?_
    exact w_iret X E d_Model_event_39 rfl rfl rfl
  · refine v_iload_n X d_Model_event_10 rfl ?_
    refine v_aload_n X d_Model_event_11 rfl rfl ?_
    refine w_geti X rfl rfl F_Model_112 d_Model_event_12 (by decide) ?_
    refine v_int (y := 0) hev ?_
    refine v_icmp_ge X 37 d_Model_event_15 (by decide) (fun _ => ?_) (fun c15 => absurd (jb_n.mp c7).1 c15)
    refine v_bipush X (v := -2) d_Model_event_37 rfl ?_
    exact w_iret X E d_Model_event_39 rfl rfl rfl
set_option maxRecDepth 100000 in
set_option maxHeartbeats 4000000 in
theorem M_frameBehind_0 {D : va_G} {z : Nat} {zs : j_Zs} {ca : Nat → ClassId} (s : k_S) (htk : ∀ f, f < 4 → s 37 0 f = 0) : k_F D z zs ca Y_Model_frameBehind 0 [.ref (ad z 24 0), .int 3] s (some (.int (-1))) s := by
  refine k_of [(0, .ref (ad z 24 0)), (1, .int 3)] (by decide) (Nat.le_of_ble_eq_true rfl) rfl (fun K X E => ?_)
  refine v_iconst X (v := 1) d_Model_frameBehind_0 rfl ?_
  refine v_istore_n X [(2, .int 1), (0, .ref (ad z 24 0)), (1, .int 3)] d_Model_frameBehind_1 (by decide) rfl ?_
  refine v_iload_n X d_Model_frameBehind_2 rfl ?_
  refine v_iconst X (v := 4) d_Model_frameBehind_3 rfl ?_
  refine v_icmp_gt X 32 d_Model_frameBehind_4 (by decide) (fun c4 => absurd c4 (by decide)) (fun _ => ?_)
  refine v_aload_n X d_Model_frameBehind_7 rfl rfl ?_
  refine w_getr X (ix2 := 0) rfl rfl F_Model_47 d_Model_frameBehind_8 rfl (by decide) ?_
  refine v_iload_n X d_Model_frameBehind_11 rfl ?_
  refine v_iload_n X d_Model_frameBehind_12 rfl ?_
  refine v_iadd X d_Model_frameBehind_13 ?_
  refine v_int (y := 4) (by decide) ?_
  refine v_iconst X (v := 4) d_Model_frameBehind_14 rfl ?_
  refine v_irem X d_Model_frameBehind_15 (by decide) ?_
  refine v_int (y := 0) (by decide) ?_
  refine w_ialdN X 0 rfl rfl d_Model_frameBehind_16 (by decide) (by decide) (by decide) ?_
  refine v_int (y := 0) (htk 0 (by decide)) ?_
  refine v_if_le X 26 d_Model_frameBehind_17 (by decide) (fun _ => ?_) (fun c17 => absurd (by decide) c17)
  refine v_iinc X (v := 2) [(2, .int 2), (0, .ref (ad z 24 0)), (1, .int 3)] d_Model_frameBehind_26 rfl (by decide) (by decide) rfl ?_
  refine v_goto X (tgt := 2) d_Model_frameBehind_29 (by decide) ?_
  refine v_iload_n X d_Model_frameBehind_2 rfl ?_
  refine v_iconst X (v := 4) d_Model_frameBehind_3 rfl ?_
  refine v_icmp_gt X 32 d_Model_frameBehind_4 (by decide) (fun c4 => absurd c4 (by decide)) (fun _ => ?_)
  refine v_aload_n X d_Model_frameBehind_7 rfl rfl ?_
  refine w_getr X (ix2 := 0) rfl rfl F_Model_47 d_Model_frameBehind_8 rfl (by decide) ?_
  refine v_iload_n X d_Model_frameBehind_11 rfl ?_
  refine v_iload_n X d_Model_frameBehind_12 rfl ?_
  refine v_iadd X d_Model_frameBehind_13 ?_
  refine v_int (y := 5) (by decide) ?_
  refine v_iconst X (v := 4) d_Model_frameBehind_14 rfl ?_
  refine v_irem X d_Model_frameBehind_15 (by decide) ?_
  refine v_int (y := 1) (by decide) ?_
  refine w_ialdN X 1 rfl rfl d_Model_frameBehind_16 (by decide) (by decide) (by decide) ?_
  refine v_int (y := 0) (htk 1 (by decide)) ?_
  refine v_if_le X 26 d_Model_frameBehind_17 (by decide) (fun _ => ?_) (fun c17 => absurd (by decide) c17)
  refine v_iinc X (v := 3) [(2, .int 3), (0, .ref (ad z 24 0)), (1, .int 3)] d_Model_frameBehind_26 rfl (by decide) (by decide) rfl ?_
  refine v_goto X (tgt := 2) d_Model_frameBehind_29 (by decide) ?_
  refine v_iload_n X d_Model_frameBehind_2 rfl ?_
  refine v_iconst X (v := 4) d_Model_frameBehind_3 rfl ?_
  refine v_icmp_gt X 32 d_Model_frameBehind_4 (by decide) (fun c4 => absurd c4 (by decide)) (fun _ => ?_)
  refine v_aload_n X d_Model_frameBehind_7 rfl rfl ?_
  refine w_getr X (ix2 := 0) rfl rfl F_Model_47 d_Model_frameBehind_8 rfl (by decide) ?_
  refine v_iload_n X d_Model_frameBehind_11 rfl ?_
  refine v_iload_n X d_Model_frameBehind_12 rfl ?_
  refine v_iadd X d_Model_frameBehind_13 ?_
  refine v_int (y := 6) (by decide) ?_
  refine v_iconst X (v := 4) d_Model_frameBehind_14 rfl ?_
  refine v_irem X d_Model_frameBehind_15 (by decide) ?_
  refine v_int (y := 2) (by decide) ?_
  refine w_ialdN X 2 rfl rfl d_Model_frameBehind_16 (by decide) (by decide) (by decide) ?_
  refine v_int (y := 0) (htk 2 (by decide)) ?_
  refine v_if_le X 26 d_Model_frameBehind_17 (by decide) (fun _ => ?_) (fun c17 => absurd (by decide) c17)
  refine v_iinc X (v := 4) [(2, .int 4), (0, .ref (ad z 24 0)), (1, .int 3)] d_Model_frameBehind_26 rfl (by decide) (by decide) rfl ?_
  refine v_goto X (tgt := 2) d_Model_frameBehind_29 (by decide) ?_
  refine v_iload_n X d_Model_frameBehind_2 rfl ?_
  refine v_iconst X (v := 4) d_Model_frameBehind_3 rfl ?_
  refine v_icmp_gt X 32 d_Model_frameBehind_4 (by decide) (fun c4 => absurd c4 (by decide)) (fun _ => ?_)
  refine v_aload_n X d_Model_frameBehind_7 rfl rfl ?_
  refine w_getr X (ix2 := 0) rfl rfl F_Model_47 d_Model_frameBehind_8 rfl (by decide) ?_
  refine v_iload_n X d_Model_frameBehind_11 rfl ?_
  refine v_iload_n X d_Model_frameBehind_12 rfl ?_
  refine v_iadd X d_Model_frameBehind_13 ?_
  refine v_int (y := 7) (by decide) ?_
  refine v_iconst X (v := 4) d_Model_frameBehind_14 rfl ?_
  refine v_irem X d_Model_frameBehind_15 (by decide) ?_
  refine v_int (y := 3) (by decide) ?_
  refine w_ialdN X 3 rfl rfl d_Model_frameBehind_16 (by decide) (by decide) (by decide) ?_
  refine v_int (y := 0) (htk 3 (by decide)) ?_
  refine v_if_le X 26 d_Model_frameBehind_17 (by decide) (fun _ => ?_) (fun c17 => absurd (by decide) c17)
  refine v_iinc X (v := 5) [(2, .int 5), (0, .ref (ad z 24 0)), (1, .int 3)] d_Model_frameBehind_26 rfl (by decide) (by decide) rfl ?_
  refine v_goto X (tgt := 2) d_Model_frameBehind_29 (by decide) ?_
  refine v_iload_n X d_Model_frameBehind_2 rfl ?_
  refine v_iconst X (v := 4) d_Model_frameBehind_3 rfl ?_
  refine v_icmp_gt X 32 d_Model_frameBehind_4 (by decide) (fun _ => ?_) (fun c4 => absurd (by decide) c4)
  refine v_iconst X (v := -1) d_Model_frameBehind_32 rfl ?_
  exact w_iret X E d_Model_frameBehind_33 rfl rfl ⟨rfl, rfl⟩
set_option maxRecDepth 100000 in
set_option maxHeartbeats 4000000 in
theorem M_all_0 {D : va_G} {z : Nat} {zs : j_Zs} {ca : Nat → ClassId} (s : k_S) (hrw : ∀ h, h < 8 → s 40 0 h = 0) : k_F D z zs ca Y_Model_all 0 [.ref (ad z 24 0)] s (some (.int 0)) s := by
  refine k_of [(0, .ref (ad z 24 0))] (by decide) (Nat.le_of_ble_eq_true rfl) rfl (fun K X E => ?_)
  refine v_iconst X (v := 0) d_Model_all_0 rfl ?_
  refine v_istore_n X [(1, .int 0), (0, .ref (ad z 24 0))] d_Model_all_1 (by decide) rfl ?_
  refine v_iconst X (v := 0) d_Model_all_2 rfl ?_
  refine v_istore_n X [(2, .int 0), (1, .int 0), (0, .ref (ad z 24 0))] d_Model_all_3 (by decide) rfl ?_
  refine v_iload_n X d_Model_all_4 rfl ?_
  refine v_bipush X (v := 8) d_Model_all_5 rfl ?_
  refine v_icmp_ge X 25 d_Model_all_7 (by decide) (fun c7 => absurd c7 (by decide)) (fun _ => ?_)
  refine v_iload_n X d_Model_all_10 rfl ?_
  refine v_aload_n X d_Model_all_11 rfl rfl ?_
  refine w_getr X (ix2 := 0) rfl rfl F_Model_56 d_Model_all_12 rfl (by decide) ?_
  refine v_iload_n X d_Model_all_15 rfl ?_
  refine w_ialdN X 0 rfl rfl d_Model_all_16 (by decide) (by decide) (by decide) ?_
  refine v_int (y := 0) (hrw 0 (by decide)) ?_
  refine v_iadd X d_Model_all_17 ?_
  refine v_int (y := 0) (by decide) ?_
  refine v_istore_n X [(1, .int 0), (2, .int 0), (0, .ref (ad z 24 0))] d_Model_all_18 (by decide) rfl ?_
  refine v_iinc X (v := 1) [(2, .int 1), (1, .int 0), (0, .ref (ad z 24 0))] d_Model_all_19 rfl (by decide) (by decide) rfl ?_
  refine v_goto X (tgt := 4) d_Model_all_22 (by decide) ?_
  refine v_iload_n X d_Model_all_4 rfl ?_
  refine v_bipush X (v := 8) d_Model_all_5 rfl ?_
  refine v_icmp_ge X 25 d_Model_all_7 (by decide) (fun c7 => absurd c7 (by decide)) (fun _ => ?_)
  refine v_iload_n X d_Model_all_10 rfl ?_
  refine v_aload_n X d_Model_all_11 rfl rfl ?_
  refine w_getr X (ix2 := 0) rfl rfl F_Model_56 d_Model_all_12 rfl (by decide) ?_
  refine v_iload_n X d_Model_all_15 rfl ?_
  refine w_ialdN X 1 rfl rfl d_Model_all_16 (by decide) (by decide) (by decide) ?_
  refine v_int (y := 0) (hrw 1 (by decide)) ?_
  refine v_iadd X d_Model_all_17 ?_
  refine v_int (y := 0) (by decide) ?_
  refine v_istore_n X [(1, .int 0), (2, .int 1), (0, .ref (ad z 24 0))] d_Model_all_18 (by decide) rfl ?_
  refine v_iinc X (v := 2) [(2, .int 2), (1, .int 0), (0, .ref (ad z 24 0))] d_Model_all_19 rfl (by decide) (by decide) rfl ?_
  refine v_goto X (tgt := 4) d_Model_all_22 (by decide) ?_
  refine v_iload_n X d_Model_all_4 rfl ?_
  refine v_bipush X (v := 8) d_Model_all_5 rfl ?_
  refine v_icmp_ge X 25 d_Model_all_7 (by decide) (fun c7 => absurd c7 (by decide)) (fun _ => ?_)
  refine v_iload_n X d_Model_all_10 rfl ?_
  refine v_aload_n X d_Model_all_11 rfl rfl ?_
  refine w_getr X (ix2 := 0) rfl rfl F_Model_56 d_Model_all_12 rfl (by decide) ?_
  refine v_iload_n X d_Model_all_15 rfl ?_
  refine w_ialdN X 2 rfl rfl d_Model_all_16 (by decide) (by decide) (by decide) ?_
  refine v_int (y := 0) (hrw 2 (by decide)) ?_
  refine v_iadd X d_Model_all_17 ?_
  refine v_int (y := 0) (by decide) ?_
  refine v_istore_n X [(1, .int 0), (2, .int 2), (0, .ref (ad z 24 0))] d_Model_all_18 (by decide) rfl ?_
  refine v_iinc X (v := 3) [(2, .int 3), (1, .int 0), (0, .ref (ad z 24 0))] d_Model_all_19 rfl (by decide) (by decide) rfl ?_
  refine v_goto X (tgt := 4) d_Model_all_22 (by decide) ?_
  refine v_iload_n X d_Model_all_4 rfl ?_
  refine v_bipush X (v := 8) d_Model_all_5 rfl ?_
  refine v_icmp_ge X 25 d_Model_all_7 (by decide) (fun c7 => absurd c7 (by decide)) (fun _ => ?_)
  refine v_iload_n X d_Model_all_10 rfl ?_
  refine v_aload_n X d_Model_all_11 rfl rfl ?_
  refine w_getr X (ix2 := 0) rfl rfl F_Model_56 d_Model_all_12 rfl (by decide) ?_
  refine v_iload_n X d_Model_all_15 rfl ?_
  refine w_ialdN X 3 rfl rfl d_Model_all_16 (by decide) (by decide) (by decide) ?_
  refine v_int (y := 0) (hrw 3 (by decide)) ?_
  refine v_iadd X d_Model_all_17 ?_
  refine v_int (y := 0) (by decide) ?_
  refine v_istore_n X [(1, .int 0), (2, .int 3), (0, .ref (ad z 24 0))] d_Model_all_18 (by decide) rfl ?_
  refine v_iinc X (v := 4) [(2, .int 4), (1, .int 0), (0, .ref (ad z 24 0))] d_Model_all_19 rfl (by decide) (by decide) rfl ?_
  refine v_goto X (tgt := 4) d_Model_all_22 (by decide) ?_
  refine v_iload_n X d_Model_all_4 rfl ?_
  refine v_bipush X (v := 8) d_Model_all_5 rfl ?_
  refine v_icmp_ge X 25 d_Model_all_7 (by decide) (fun c7 => absurd c7 (by decide)) (fun _ => ?_)
  refine v_iload_n X d_Model_all_10 rfl ?_
  refine v_aload_n X d_Model_all_11 rfl rfl ?_
  refine w_getr X (ix2 := 0) rfl rfl F_Model_56 d_Model_all_12 rfl (by decide) ?_
  refine v_iload_n X d_Model_all_15 rfl ?_
  refine w_ialdN X 4 rfl rfl d_Model_all_16 (by decide) (by decide) (by decide) ?_
  refine v_int (y := 0) (hrw 4 (by decide)) ?_
  refine v_iadd X d_Model_all_17 ?_
  refine v_int (y := 0) (by decide) ?_
  refine v_istore_n X [(1, .int 0), (2, .int 4), (0, .ref (ad z 24 0))] d_Model_all_18 (by decide) rfl ?_
  refine v_iinc X (v := 5) [(2, .int 5), (1, .int 0), (0, .ref (ad z 24 0))] d_Model_all_19 rfl (by decide) (by decide) rfl ?_
  refine v_goto X (tgt := 4) d_Model_all_22 (by decide) ?_
  refine v_iload_n X d_Model_all_4 rfl ?_
  refine v_bipush X (v := 8) d_Model_all_5 rfl ?_
  refine v_icmp_ge X 25 d_Model_all_7 (by decide) (fun c7 => absurd c7 (by decide)) (fun _ => ?_)
  refine v_iload_n X d_Model_all_10 rfl ?_
  refine v_aload_n X d_Model_all_11 rfl rfl ?_
  refine w_getr X (ix2 := 0) rfl rfl F_Model_56 d_Model_all_12 rfl (by decide) ?_
  refine v_iload_n X d_Model_all_15 rfl ?_
  refine w_ialdN X 5 rfl rfl d_Model_all_16 (by decide) (by decide) (by decide) ?_
  refine v_int (y := 0) (hrw 5 (by decide)) ?_
  refine v_iadd X d_Model_all_17 ?_
  refine v_int (y := 0) (by decide) ?_
  refine v_istore_n X [(1, .int 0), (2, .int 5), (0, .ref (ad z 24 0))] d_Model_all_18 (by decide) rfl ?_
  refine v_iinc X (v := 6) [(2, .int 6), (1, .int 0), (0, .ref (ad z 24 0))] d_Model_all_19 rfl (by decide) (by decide) rfl ?_
  refine v_goto X (tgt := 4) d_Model_all_22 (by decide) ?_
  refine v_iload_n X d_Model_all_4 rfl ?_
  refine v_bipush X (v := 8) d_Model_all_5 rfl ?_
  refine v_icmp_ge X 25 d_Model_all_7 (by decide) (fun c7 => absurd c7 (by decide)) (fun _ => ?_)
  refine v_iload_n X d_Model_all_10 rfl ?_
  refine v_aload_n X d_Model_all_11 rfl rfl ?_
  refine w_getr X (ix2 := 0) rfl rfl F_Model_56 d_Model_all_12 rfl (by decide) ?_
  refine v_iload_n X d_Model_all_15 rfl ?_
  refine w_ialdN X 6 rfl rfl d_Model_all_16 (by decide) (by decide) (by decide) ?_
  refine v_int (y := 0) (hrw 6 (by decide)) ?_
  refine v_iadd X d_Model_all_17 ?_
  refine v_int (y := 0) (by decide) ?_
  refine v_istore_n X [(1, .int 0), (2, .int 6), (0, .ref (ad z 24 0))] d_Model_all_18 (by decide) rfl ?_
  refine v_iinc X (v := 7) [(2, .int 7), (1, .int 0), (0, .ref (ad z 24 0))] d_Model_all_19 rfl (by decide) (by decide) rfl ?_
  refine v_goto X (tgt := 4) d_Model_all_22 (by decide) ?_
  refine v_iload_n X d_Model_all_4 rfl ?_
  refine v_bipush X (v := 8) d_Model_all_5 rfl ?_
  refine v_icmp_ge X 25 d_Model_all_7 (by decide) (fun c7 => absurd c7 (by decide)) (fun _ => ?_)
  refine v_iload_n X d_Model_all_10 rfl ?_
  refine v_aload_n X d_Model_all_11 rfl rfl ?_
  refine w_getr X (ix2 := 0) rfl rfl F_Model_56 d_Model_all_12 rfl (by decide) ?_
  refine v_iload_n X d_Model_all_15 rfl ?_
  refine w_ialdN X 7 rfl rfl d_Model_all_16 (by decide) (by decide) (by decide) ?_
  refine v_int (y := 0) (hrw 7 (by decide)) ?_
  refine v_iadd X d_Model_all_17 ?_
  refine v_int (y := 0) (by decide) ?_
  refine v_istore_n X [(1, .int 0), (2, .int 7), (0, .ref (ad z 24 0))] d_Model_all_18 (by decide) rfl ?_
  refine v_iinc X (v := 8) [(2, .int 8), (1, .int 0), (0, .ref (ad z 24 0))] d_Model_all_19 rfl (by decide) (by decide) rfl ?_
  refine v_goto X (tgt := 4) d_Model_all_22 (by decide) ?_
  refine v_iload_n X d_Model_all_4 rfl ?_
  refine v_bipush X (v := 8) d_Model_all_5 rfl ?_
  refine v_icmp_ge X 25 d_Model_all_7 (by decide) (fun _ => ?_) (fun c7 => absurd (by decide) c7)
  refine v_iload_n X d_Model_all_25 rfl ?_
  exact w_iret X E d_Model_all_26 rfl rfl ⟨rfl, rfl⟩
set_option maxRecDepth 100000 in
set_option maxHeartbeats 4000000 in
theorem M_chosen_0 {D : va_G} {z : Nat} {zs : j_Zs} {ca : Nat → ClassId} (s : k_S) (hrw : ∀ h, h < 8 → s 40 0 h = 0) : k_F D z zs ca Y_Model_chosen 1 [.ref (ad z 24 0)] s (some (.int (-1))) s := by
  refine k_of [(0, .ref (ad z 24 0))] (by decide) (Nat.le_of_ble_eq_true rfl) rfl (fun K X E => ?_)
  refine v_iconst X (v := -1) d_Model_chosen_0 rfl ?_
  refine v_istore_n X [(1, .int (-1)), (0, .ref (ad z 24 0))] d_Model_chosen_1 (by decide) rfl ?_
  refine v_iconst X (v := 0) d_Model_chosen_2 rfl ?_
  refine v_istore_n X [(2, .int 0), (1, .int (-1)), (0, .ref (ad z 24 0))] d_Model_chosen_3 (by decide) rfl ?_
  refine v_iload_n X d_Model_chosen_4 rfl ?_
  refine v_bipush X (v := 8) d_Model_chosen_5 rfl ?_
  refine v_icmp_ge X 101 d_Model_chosen_7 (by decide) (fun c7 => absurd c7 (by decide)) (fun _ => ?_)
  refine v_aload_n X d_Model_chosen_10 rfl rfl ?_
  refine w_getr X (ix2 := 0) rfl rfl F_Model_56 d_Model_chosen_11 rfl (by decide) ?_
  refine v_iload_n X d_Model_chosen_14 rfl ?_
  refine w_ialdN X 0 rfl rfl d_Model_chosen_15 (by decide) (by decide) (by decide) ?_
  refine v_int (y := 0) (hrw 0 (by decide)) ?_
  refine v_if_ne X 22 d_Model_chosen_16 (by decide) (fun c16 => absurd (by decide) c16) (fun _ => ?_)
  refine v_goto X (tgt := 95) d_Model_chosen_19 (by decide) ?_
  refine v_iinc X (v := 1) [(2, .int 1), (1, .int (-1)), (0, .ref (ad z 24 0))] d_Model_chosen_95 rfl (by decide) (by decide) rfl ?_
  refine v_goto X (tgt := 4) d_Model_chosen_98 (by decide) ?_
  refine v_iload_n X d_Model_chosen_4 rfl ?_
  refine v_bipush X (v := 8) d_Model_chosen_5 rfl ?_
  refine v_icmp_ge X 101 d_Model_chosen_7 (by decide) (fun c7 => absurd c7 (by decide)) (fun _ => ?_)
  refine v_aload_n X d_Model_chosen_10 rfl rfl ?_
  refine w_getr X (ix2 := 0) rfl rfl F_Model_56 d_Model_chosen_11 rfl (by decide) ?_
  refine v_iload_n X d_Model_chosen_14 rfl ?_
  refine w_ialdN X 1 rfl rfl d_Model_chosen_15 (by decide) (by decide) (by decide) ?_
  refine v_int (y := 0) (hrw 1 (by decide)) ?_
  refine v_if_ne X 22 d_Model_chosen_16 (by decide) (fun c16 => absurd (by decide) c16) (fun _ => ?_)
  refine v_goto X (tgt := 95) d_Model_chosen_19 (by decide) ?_
  refine v_iinc X (v := 2) [(2, .int 2), (1, .int (-1)), (0, .ref (ad z 24 0))] d_Model_chosen_95 rfl (by decide) (by decide) rfl ?_
  refine v_goto X (tgt := 4) d_Model_chosen_98 (by decide) ?_
  refine v_iload_n X d_Model_chosen_4 rfl ?_
  refine v_bipush X (v := 8) d_Model_chosen_5 rfl ?_
  refine v_icmp_ge X 101 d_Model_chosen_7 (by decide) (fun c7 => absurd c7 (by decide)) (fun _ => ?_)
  refine v_aload_n X d_Model_chosen_10 rfl rfl ?_
  refine w_getr X (ix2 := 0) rfl rfl F_Model_56 d_Model_chosen_11 rfl (by decide) ?_
  refine v_iload_n X d_Model_chosen_14 rfl ?_
  refine w_ialdN X 2 rfl rfl d_Model_chosen_15 (by decide) (by decide) (by decide) ?_
  refine v_int (y := 0) (hrw 2 (by decide)) ?_
  refine v_if_ne X 22 d_Model_chosen_16 (by decide) (fun c16 => absurd (by decide) c16) (fun _ => ?_)
  refine v_goto X (tgt := 95) d_Model_chosen_19 (by decide) ?_
  refine v_iinc X (v := 3) [(2, .int 3), (1, .int (-1)), (0, .ref (ad z 24 0))] d_Model_chosen_95 rfl (by decide) (by decide) rfl ?_
  refine v_goto X (tgt := 4) d_Model_chosen_98 (by decide) ?_
  refine v_iload_n X d_Model_chosen_4 rfl ?_
  refine v_bipush X (v := 8) d_Model_chosen_5 rfl ?_
  refine v_icmp_ge X 101 d_Model_chosen_7 (by decide) (fun c7 => absurd c7 (by decide)) (fun _ => ?_)
  refine v_aload_n X d_Model_chosen_10 rfl rfl ?_
  refine w_getr X (ix2 := 0) rfl rfl F_Model_56 d_Model_chosen_11 rfl (by decide) ?_
  refine v_iload_n X d_Model_chosen_14 rfl ?_
  refine w_ialdN X 3 rfl rfl d_Model_chosen_15 (by decide) (by decide) (by decide) ?_
  refine v_int (y := 0) (hrw 3 (by decide)) ?_
  refine v_if_ne X 22 d_Model_chosen_16 (by decide) (fun c16 => absurd (by decide) c16) (fun _ => ?_)
  refine v_goto X (tgt := 95) d_Model_chosen_19 (by decide) ?_
  refine v_iinc X (v := 4) [(2, .int 4), (1, .int (-1)), (0, .ref (ad z 24 0))] d_Model_chosen_95 rfl (by decide) (by decide) rfl ?_
  refine v_goto X (tgt := 4) d_Model_chosen_98 (by decide) ?_
  refine v_iload_n X d_Model_chosen_4 rfl ?_
  refine v_bipush X (v := 8) d_Model_chosen_5 rfl ?_
  refine v_icmp_ge X 101 d_Model_chosen_7 (by decide) (fun c7 => absurd c7 (by decide)) (fun _ => ?_)
  refine v_aload_n X d_Model_chosen_10 rfl rfl ?_
  refine w_getr X (ix2 := 0) rfl rfl F_Model_56 d_Model_chosen_11 rfl (by decide) ?_
  refine v_iload_n X d_Model_chosen_14 rfl ?_
  refine w_ialdN X 4 rfl rfl d_Model_chosen_15 (by decide) (by decide) (by decide) ?_
  refine v_int (y := 0) (hrw 4 (by decide)) ?_
  refine v_if_ne X 22 d_Model_chosen_16 (by decide) (fun c16 => absurd (by decide) c16) (fun _ => ?_)
  refine v_goto X (tgt := 95) d_Model_chosen_19 (by decide) ?_
  refine v_iinc X (v := 5) [(2, .int 5), (1, .int (-1)), (0, .ref (ad z 24 0))] d_Model_chosen_95 rfl (by decide) (by decide) rfl ?_
  refine v_goto X (tgt := 4) d_Model_chosen_98 (by decide) ?_
  refine v_iload_n X d_Model_chosen_4 rfl ?_
  refine v_bipush X (v := 8) d_Model_chosen_5 rfl ?_
  refine v_icmp_ge X 101 d_Model_chosen_7 (by decide) (fun c7 => absurd c7 (by decide)) (fun _ => ?_)
  refine v_aload_n X d_Model_chosen_10 rfl rfl ?_
  refine w_getr X (ix2 := 0) rfl rfl F_Model_56 d_Model_chosen_11 rfl (by decide) ?_
  refine v_iload_n X d_Model_chosen_14 rfl ?_
  refine w_ialdN X 5 rfl rfl d_Model_chosen_15 (by decide) (by decide) (by decide) ?_
  refine v_int (y := 0) (hrw 5 (by decide)) ?_
  refine v_if_ne X 22 d_Model_chosen_16 (by decide) (fun c16 => absurd (by decide) c16) (fun _ => ?_)
  refine v_goto X (tgt := 95) d_Model_chosen_19 (by decide) ?_
  refine v_iinc X (v := 6) [(2, .int 6), (1, .int (-1)), (0, .ref (ad z 24 0))] d_Model_chosen_95 rfl (by decide) (by decide) rfl ?_
  refine v_goto X (tgt := 4) d_Model_chosen_98 (by decide) ?_
  refine v_iload_n X d_Model_chosen_4 rfl ?_
  refine v_bipush X (v := 8) d_Model_chosen_5 rfl ?_
  refine v_icmp_ge X 101 d_Model_chosen_7 (by decide) (fun c7 => absurd c7 (by decide)) (fun _ => ?_)
  refine v_aload_n X d_Model_chosen_10 rfl rfl ?_
  refine w_getr X (ix2 := 0) rfl rfl F_Model_56 d_Model_chosen_11 rfl (by decide) ?_
  refine v_iload_n X d_Model_chosen_14 rfl ?_
  refine w_ialdN X 6 rfl rfl d_Model_chosen_15 (by decide) (by decide) (by decide) ?_
  refine v_int (y := 0) (hrw 6 (by decide)) ?_
  refine v_if_ne X 22 d_Model_chosen_16 (by decide) (fun c16 => absurd (by decide) c16) (fun _ => ?_)
  refine v_goto X (tgt := 95) d_Model_chosen_19 (by decide) ?_
  refine v_iinc X (v := 7) [(2, .int 7), (1, .int (-1)), (0, .ref (ad z 24 0))] d_Model_chosen_95 rfl (by decide) (by decide) rfl ?_
  refine v_goto X (tgt := 4) d_Model_chosen_98 (by decide) ?_
  refine v_iload_n X d_Model_chosen_4 rfl ?_
  refine v_bipush X (v := 8) d_Model_chosen_5 rfl ?_
  refine v_icmp_ge X 101 d_Model_chosen_7 (by decide) (fun c7 => absurd c7 (by decide)) (fun _ => ?_)
  refine v_aload_n X d_Model_chosen_10 rfl rfl ?_
  refine w_getr X (ix2 := 0) rfl rfl F_Model_56 d_Model_chosen_11 rfl (by decide) ?_
  refine v_iload_n X d_Model_chosen_14 rfl ?_
  refine w_ialdN X 7 rfl rfl d_Model_chosen_15 (by decide) (by decide) (by decide) ?_
  refine v_int (y := 0) (hrw 7 (by decide)) ?_
  refine v_if_ne X 22 d_Model_chosen_16 (by decide) (fun c16 => absurd (by decide) c16) (fun _ => ?_)
  refine v_goto X (tgt := 95) d_Model_chosen_19 (by decide) ?_
  refine v_iinc X (v := 8) [(2, .int 8), (1, .int (-1)), (0, .ref (ad z 24 0))] d_Model_chosen_95 rfl (by decide) (by decide) rfl ?_
  refine v_goto X (tgt := 4) d_Model_chosen_98 (by decide) ?_
  refine v_iload_n X d_Model_chosen_4 rfl ?_
  refine v_bipush X (v := 8) d_Model_chosen_5 rfl ?_
  refine v_icmp_ge X 101 d_Model_chosen_7 (by decide) (fun _ => ?_) (fun c7 => absurd (by decide) c7)
  refine v_iload_n X d_Model_chosen_101 rfl ?_
  exact w_iret X E d_Model_chosen_102 rfl rfl ⟨rfl, rfl⟩
set_option maxRecDepth 100000 in
set_option maxHeartbeats 4000000 in
theorem M_begin {D : va_G} {z : Nat} {zs : j_Zs} {ca : Nat → ClassId} (s : k_S) (x1 x2 : Int32) (hmo : s 24 0 30 = 0) (htk : ∀ f, f < 4 → s 37 0 f = 0) (hms : s 24 0 32 = 0) : k_C D z zs ca Y_Model_begin 1 [.ref (ad z 24 0), .int x1, .int x2] s (fun r s' => r = some (.int (aB x1 x2))) := by
  refine k_of [(0, .ref (ad z 24 0)), (1, .int x1), (2, .int x2)] (by decide) (Nat.le_of_ble_eq_true rfl) rfl (fun K X E => ?_)
  refine v_iload_n X d_Model_begin_0 rfl ?_
  refine v_iconst X (v := 0) d_Model_begin_1 rfl ?_
  refine v_iconst X (v := 1) d_Model_begin_2 rfl ?_
  refine w_fSi X (As := [.int x1, .int 0, .int 1]) (rest := []) L_Model_108 d_Model_begin_3 (C_in _ _ _ _) rfl E (by decide) rfl (Nat.le_of_ble_eq_true rfl) ?_
  refine v_if_eq X 19 d_Model_begin_6 (by decide) (fun c6 => ?_) (fun c6 => ?_)
  · refine v_iconst X (v := -1) d_Model_begin_19 rfl ?_
    exact w_iret X E d_Model_begin_20 rfl rfl (by rw [aB, if_neg (fun h => jb_0.mp c6 h.1)])
  · refine v_iload_n X d_Model_begin_9 rfl ?_
    refine v_iconst X (v := 0) d_Model_begin_10 rfl ?_
    refine v_bipush X (v := 100) d_Model_begin_11 rfl ?_
    refine w_fSi X (As := [.int x2, .int 0, .int 100]) (rest := []) L_Model_108 d_Model_begin_13 (C_in _ _ _ _) rfl E (by decide) rfl (Nat.le_of_ble_eq_true rfl) ?_
    refine v_if_ne X 21 d_Model_begin_16 (by decide) (fun c16 => ?_) (fun c16 => ?_)
    · refine v_aload_n X d_Model_begin_21 rfl rfl ?_
      refine w_geti X rfl rfl F_Model_115 d_Model_begin_22 (by decide) ?_
      refine v_if_ne X 40 d_Model_begin_25 (by decide) (fun c25 => absurd hmo c25) (fun _ => ?_)
      refine v_iload_n X d_Model_begin_28 rfl ?_
      refine v_if_ne X 43 d_Model_begin_29 (by decide) (fun c29 => ?_) (fun c29 => ?_)
      · refine v_aload_n X d_Model_begin_43 rfl rfl ?_
        refine v_iload_n X d_Model_begin_44 rfl ?_
        refine w_put X rfl rfl P_Model_130 d_Model_begin_45 rfl rfl (by decide) ?_
        refine v_aload_n X d_Model_begin_48 rfl rfl ?_
        refine v_iload_n X d_Model_begin_49 rfl ?_
        refine w_put X rfl rfl P_Model_133 d_Model_begin_50 rfl rfl (by decide) ?_
        refine v_aload_n X d_Model_begin_53 rfl rfl ?_
        refine v_iconst X (v := 0) d_Model_begin_54 rfl ?_
        refine w_put X rfl rfl P_Model_136 d_Model_begin_55 rfl rfl (by decide) ?_
        refine v_aload_n X d_Model_begin_58 rfl rfl ?_
        refine v_iconst X (v := 1) d_Model_begin_59 rfl ?_
        refine w_put X rfl rfl P_Model_115 d_Model_begin_60 rfl rfl (by decide) ?_
        refine v_aload_n X d_Model_begin_63 rfl rfl ?_
        refine v_aload_n X d_Model_begin_64 rfl rfl ?_
        refine w_geti X rfl rfl F_Model_139 d_Model_begin_65 (by decide) ?_
        refine v_int (y := s 24 0 31) (by simp [k_set_of]) ?_
        refine w_put X rfl rfl P_Model_142 d_Model_begin_68 rfl rfl (by decide) ?_
        refine v_aload_n X d_Model_begin_71 rfl rfl ?_
        refine v_aload_n X d_Model_begin_72 rfl rfl ?_
        refine w_geti X rfl rfl F_Model_139 d_Model_begin_73 (by decide) ?_
        refine v_int (y := s 24 0 31) (by simp [k_set_of]) ?_
        refine w_put X rfl rfl P_Model_145 d_Model_begin_76 rfl rfl (by decide) ?_
        refine v_aload_n X d_Model_begin_79 rfl rfl ?_
        refine v_iconst X (v := -1) d_Model_begin_80 rfl ?_
        refine w_put X rfl rfl P_Model_98 d_Model_begin_81 rfl rfl (by decide) ?_
        refine v_aload_n X d_Model_begin_84 rfl rfl ?_
        refine v_iconst X (v := 0) d_Model_begin_85 rfl ?_
        refine w_put X rfl rfl P_Model_148 d_Model_begin_86 rfl rfl (by decide) ?_
        refine v_aload_n X d_Model_begin_89 rfl rfl ?_
        refine v_dup X d_Model_begin_90 rfl ?_
        refine w_geti X rfl rfl F_Model_151 d_Model_begin_91 (by decide) ?_
        refine v_int (y := s 24 0 32) (by simp [k_set_of]) ?_
        refine v_int (y := 0) hms ?_
        refine v_iconst X (v := 1) d_Model_begin_94 rfl ?_
        refine v_iadd X d_Model_begin_95 ?_
        refine v_int (y := 1) (by decide) ?_
        refine w_put X rfl rfl P_Model_151 d_Model_begin_96 rfl rfl (by decide) ?_
        refine v_aload_n X d_Model_begin_99 rfl rfl ?_
        refine w_geti X rfl rfl F_Model_151 d_Model_begin_100 (by decide) ?_
        refine v_int (y := 1) (by simp [k_set_of]) ?_
        exact w_iret X E d_Model_begin_103 rfl rfl (by rw [aB, if_pos ⟨jb_n.mp c6, jb_n.mp c16⟩, if_neg c29])
      · refine v_aload_n X d_Model_begin_32 rfl rfl ?_
        refine v_iconst X (v := 3) d_Model_begin_33 rfl ?_
        refine w_fVi X (As := [.int 3]) (rest := []) rfl rfl L_Model_126 d_Model_begin_34 (by decide) (M_frameBehind_0 s htk) rfl E (by decide) rfl (Nat.le_of_ble_eq_true rfl) ?_
        refine v_if_ge X 43 d_Model_begin_37 (by decide) (fun c37 => absurd c37 (by decide)) (fun _ => ?_)
        refine v_bipush X (v := -2) d_Model_begin_40 rfl ?_
        exact w_iret X E d_Model_begin_42 rfl rfl (by rw [aB, if_pos ⟨jb_n.mp c6, jb_n.mp c16⟩, if_pos c29])
    · refine v_iconst X (v := -1) d_Model_begin_19 rfl ?_
      exact w_iret X E d_Model_begin_20 rfl rfl (by rw [aB, if_neg (fun h => jb_0.mp c16 h.2)])
set_option maxRecDepth 100000 in
set_option maxHeartbeats 4000000 in
theorem M_desk_0 {D : va_G} {z : Nat} {zs : j_Zs} {ca : Nat → ClassId} (s : k_S)  : k_F D z zs ca Y_Model_desk 2 [.ref (ad z 24 0), .int 0] s (some (.int (s 24 0 30))) s := by
  refine k_of [(0, .ref (ad z 24 0)), (1, .int 0)] (by decide) (Nat.le_of_ble_eq_true rfl) rfl (fun K X E => ?_)
  refine v_iload_n X d_Model_desk_0 rfl ?_
  refine v_tableIn X (off := 71) (tgt := 72) d_Model_desk_1 (by decide) (by decide) rfl (by decide) ?_
  refine v_aload_n X d_Model_desk_72 rfl rfl ?_
  refine w_geti X rfl rfl F_Model_115 d_Model_desk_73 (by decide) ?_
  exact w_iret X E d_Model_desk_76 rfl rfl ⟨rfl, rfl⟩
set_option maxRecDepth 100000 in
set_option maxHeartbeats 4000000 in
theorem M_desk_1 {D : va_G} {z : Nat} {zs : j_Zs} {ca : Nat → ClassId} (s : k_S)  : k_F D z zs ca Y_Model_desk 2 [.ref (ad z 24 0), .int 1] s (some (.int (s 24 0 31))) s := by
  refine k_of [(0, .ref (ad z 24 0)), (1, .int 1)] (by decide) (Nat.le_of_ble_eq_true rfl) rfl (fun K X E => ?_)
  refine v_iload_n X d_Model_desk_0 rfl ?_
  refine v_tableIn X (off := 76) (tgt := 77) d_Model_desk_1 (by decide) (by decide) rfl (by decide) ?_
  refine v_aload_n X d_Model_desk_77 rfl rfl ?_
  refine w_geti X rfl rfl F_Model_139 d_Model_desk_78 (by decide) ?_
  exact w_iret X E d_Model_desk_81 rfl rfl ⟨rfl, rfl⟩
set_option maxRecDepth 100000 in
set_option maxHeartbeats 4000000 in
theorem M_desk_2 {D : va_G} {z : Nat} {zs : j_Zs} {ca : Nat → ClassId} (s : k_S)  : k_F D z zs ca Y_Model_desk 2 [.ref (ad z 24 0), .int 2] s (some (.int (s 24 0 32))) s := by
  refine k_of [(0, .ref (ad z 24 0)), (1, .int 2)] (by decide) (Nat.le_of_ble_eq_true rfl) rfl (fun K X E => ?_)
  refine v_iload_n X d_Model_desk_0 rfl ?_
  refine v_tableIn X (off := 81) (tgt := 82) d_Model_desk_1 (by decide) (by decide) rfl (by decide) ?_
  refine v_aload_n X d_Model_desk_82 rfl rfl ?_
  refine w_geti X rfl rfl F_Model_151 d_Model_desk_83 (by decide) ?_
  exact w_iret X E d_Model_desk_86 rfl rfl ⟨rfl, rfl⟩
set_option maxRecDepth 100000 in
set_option maxHeartbeats 4000000 in
theorem M_desk_3 {D : va_G} {z : Nat} {zs : j_Zs} {ca : Nat → ClassId} (s : k_S) (hrw : ∀ h, h < 8 → s 40 0 h = 0) : k_F D z zs ca Y_Model_desk 2 [.ref (ad z 24 0), .int 3] s (some (.int 0)) s := by
  refine k_of [(0, .ref (ad z 24 0)), (1, .int 3)] (by decide) (Nat.le_of_ble_eq_true rfl) rfl (fun K X E => ?_)
  refine v_iload_n X d_Model_desk_0 rfl ?_
  refine v_tableIn X (off := 86) (tgt := 87) d_Model_desk_1 (by decide) (by decide) rfl (by decide) ?_
  refine v_aload_n X d_Model_desk_87 rfl rfl ?_
  refine w_fVi X (As := []) (rest := []) rfl rfl L_Model_170 d_Model_desk_88 (by decide) (M_all_0 s hrw) rfl E (by decide) rfl (Nat.le_of_ble_eq_true rfl) ?_
  exact w_iret X E d_Model_desk_91 rfl rfl ⟨rfl, rfl⟩
set_option maxRecDepth 100000 in
set_option maxHeartbeats 4000000 in
theorem M_desk_4 {D : va_G} {z : Nat} {zs : j_Zs} {ca : Nat → ClassId} (s : k_S) (hrw : ∀ h, h < 8 → s 40 0 h = 0) : k_F D z zs ca Y_Model_desk 2 [.ref (ad z 24 0), .int 4] s (some (.int (-2))) s := by
  refine k_of [(0, .ref (ad z 24 0)), (1, .int 4)] (by decide) (Nat.le_of_ble_eq_true rfl) rfl (fun K X E => ?_)
  refine v_iload_n X d_Model_desk_0 rfl ?_
  refine v_tableIn X (off := 91) (tgt := 92) d_Model_desk_1 (by decide) (by decide) rfl (by decide) ?_
  refine v_aload_n X d_Model_desk_92 rfl rfl ?_
  refine w_fVi X (As := []) (rest := []) rfl rfl L_Model_234 d_Model_desk_93 (by decide) (M_chosen_0 s hrw) rfl E (by decide) rfl (Nat.le_of_ble_eq_true rfl) ?_
  refine v_istore_n X [(2, .int (-1)), (0, .ref (ad z 24 0)), (1, .int 4)] d_Model_desk_96 (by decide) rfl ?_
  refine v_iload_n X d_Model_desk_97 rfl ?_
  refine v_if_ge X 106 d_Model_desk_98 (by decide) (fun c98 => absurd c98 (by decide)) (fun _ => ?_)
  refine v_bipush X (v := -2) d_Model_desk_101 rfl ?_
  refine v_goto X (tgt := 107) d_Model_desk_103 (by decide) ?_
  exact w_iret X E d_Model_desk_107 rfl rfl ⟨rfl, rfl⟩
set_option maxRecDepth 100000 in
set_option maxHeartbeats 4000000 in
theorem M_desk_5 {D : va_G} {z : Nat} {zs : j_Zs} {ca : Nat → ClassId} (s : k_S)  : k_F D z zs ca Y_Model_desk 2 [.ref (ad z 24 0), .int 5] s (some (.int (s 24 0 36))) s := by
  refine k_of [(0, .ref (ad z 24 0)), (1, .int 5)] (by decide) (Nat.le_of_ble_eq_true rfl) rfl (fun K X E => ?_)
  refine v_iload_n X d_Model_desk_0 rfl ?_
  refine v_tableIn X (off := 107) (tgt := 108) d_Model_desk_1 (by decide) (by decide) rfl (by decide) ?_
  refine v_aload_n X d_Model_desk_108 rfl rfl ?_
  refine w_geti X rfl rfl F_Model_136 d_Model_desk_109 (by decide) ?_
  exact w_iret X E d_Model_desk_112 rfl rfl ⟨rfl, rfl⟩
set_option maxRecDepth 100000 in
set_option maxHeartbeats 4000000 in
theorem M_desk_6 {D : va_G} {z : Nat} {zs : j_Zs} {ca : Nat → ClassId} (s : k_S)  : k_F D z zs ca Y_Model_desk 2 [.ref (ad z 24 0), .int 6] s (some (.int (s 24 0 35))) s := by
  refine k_of [(0, .ref (ad z 24 0)), (1, .int 6)] (by decide) (Nat.le_of_ble_eq_true rfl) rfl (fun K X E => ?_)
  refine v_iload_n X d_Model_desk_0 rfl ?_
  refine v_tableIn X (off := 112) (tgt := 113) d_Model_desk_1 (by decide) (by decide) rfl (by decide) ?_
  refine v_aload_n X d_Model_desk_113 rfl rfl ?_
  refine w_geti X rfl rfl F_Model_133 d_Model_desk_114 (by decide) ?_
  exact w_iret X E d_Model_desk_117 rfl rfl ⟨rfl, rfl⟩
set_option maxRecDepth 100000 in
set_option maxHeartbeats 4000000 in
theorem M_desk_7 {D : va_G} {z : Nat} {zs : j_Zs} {ca : Nat → ClassId} (s : k_S)  : k_F D z zs ca Y_Model_desk 2 [.ref (ad z 24 0), .int 7] s (some (.int (s 24 0 37))) s := by
  refine k_of [(0, .ref (ad z 24 0)), (1, .int 7)] (by decide) (Nat.le_of_ble_eq_true rfl) rfl (fun K X E => ?_)
  refine v_iload_n X d_Model_desk_0 rfl ?_
  refine v_tableIn X (off := 117) (tgt := 118) d_Model_desk_1 (by decide) (by decide) rfl (by decide) ?_
  refine v_aload_n X d_Model_desk_118 rfl rfl ?_
  refine w_geti X rfl rfl F_Model_191 d_Model_desk_119 (by decide) ?_
  exact w_iret X E d_Model_desk_122 rfl rfl ⟨rfl, rfl⟩
set_option maxRecDepth 100000 in
set_option maxHeartbeats 4000000 in
theorem M_desk_8 {D : va_G} {z : Nat} {zs : j_Zs} {ca : Nat → ClassId} (s : k_S)  : k_F D z zs ca Y_Model_desk 2 [.ref (ad z 24 0), .int 8] s (some (.int (s 24 0 38))) s := by
  refine k_of [(0, .ref (ad z 24 0)), (1, .int 8)] (by decide) (Nat.le_of_ble_eq_true rfl) rfl (fun K X E => ?_)
  refine v_iload_n X d_Model_desk_0 rfl ?_
  refine v_tableIn X (off := 122) (tgt := 123) d_Model_desk_1 (by decide) (by decide) rfl (by decide) ?_
  refine v_aload_n X d_Model_desk_123 rfl rfl ?_
  refine w_geti X rfl rfl F_Model_184 d_Model_desk_124 (by decide) ?_
  exact w_iret X E d_Model_desk_127 rfl rfl ⟨rfl, rfl⟩
set_option maxRecDepth 100000 in
set_option maxHeartbeats 4000000 in
theorem M_desk_9 {D : va_G} {z : Nat} {zs : j_Zs} {ca : Nat → ClassId} (s : k_S) (hfm : s 24 0 39 = -1) : k_F D z zs ca Y_Model_desk 2 [.ref (ad z 24 0), .int 9] s (some (.int (-2))) s := by
  refine k_of [(0, .ref (ad z 24 0)), (1, .int 9)] (by decide) (Nat.le_of_ble_eq_true rfl) rfl (fun K X E => ?_)
  refine v_iload_n X d_Model_desk_0 rfl ?_
  refine v_tableIn X (off := 127) (tgt := 128) d_Model_desk_1 (by decide) (by decide) rfl (by decide) ?_
  refine v_aload_n X d_Model_desk_128 rfl rfl ?_
  refine w_geti X rfl rfl F_Model_98 d_Model_desk_129 (by decide) ?_
  refine v_int (y := -1) hfm ?_
  refine v_if_ge X 140 d_Model_desk_132 (by decide) (fun c132 => absurd c132 (by decide)) (fun _ => ?_)
  refine v_bipush X (v := -2) d_Model_desk_135 rfl ?_
  refine v_goto X (tgt := 144) d_Model_desk_137 (by decide) ?_
  exact w_iret X E d_Model_desk_144 rfl rfl ⟨rfl, rfl⟩
set_option maxRecDepth 100000 in
set_option maxHeartbeats 4000000 in
theorem M_desk_10 {D : va_G} {z : Nat} {zs : j_Zs} {ca : Nat → ClassId} (s : k_S)  : k_F D z zs ca Y_Model_desk 2 [.ref (ad z 24 0), .int 10] s (some (.int (s 24 0 40))) s := by
  refine k_of [(0, .ref (ad z 24 0)), (1, .int 10)] (by decide) (Nat.le_of_ble_eq_true rfl) rfl (fun K X E => ?_)
  refine v_iload_n X d_Model_desk_0 rfl ?_
  refine v_tableIn X (off := 144) (tgt := 145) d_Model_desk_1 (by decide) (by decide) rfl (by decide) ?_
  refine v_aload_n X d_Model_desk_145 rfl rfl ?_
  refine w_geti X rfl rfl F_Model_148 d_Model_desk_146 (by decide) ?_
  exact w_iret X E d_Model_desk_149 rfl rfl ⟨rfl, rfl⟩
set_option maxRecDepth 100000 in
set_option maxHeartbeats 4000000 in
theorem M_desk_11 {D : va_G} {z : Nat} {zs : j_Zs} {ca : Nat → ClassId} (s : k_S)  : k_F D z zs ca Y_Model_desk 2 [.ref (ad z 24 0), .int 11] s (some (.int (s 24 0 42))) s := by
  refine k_of [(0, .ref (ad z 24 0)), (1, .int 11)] (by decide) (Nat.le_of_ble_eq_true rfl) rfl (fun K X E => ?_)
  refine v_iload_n X d_Model_desk_0 rfl ?_
  refine v_tableIn X (off := 149) (tgt := 150) d_Model_desk_1 (by decide) (by decide) rfl (by decide) ?_
  refine v_aload_n X d_Model_desk_150 rfl rfl ?_
  refine w_geti X rfl rfl F_Model_225 d_Model_desk_151 (by decide) ?_
  exact w_iret X E d_Model_desk_154 rfl rfl ⟨rfl, rfl⟩
set_option maxRecDepth 100000 in
set_option maxHeartbeats 4000000 in
theorem M_desk_12 {D : va_G} {z : Nat} {zs : j_Zs} {ca : Nat → ClassId} (s : k_S)  : k_F D z zs ca Y_Model_desk 2 [.ref (ad z 24 0), .int 12] s (some (.int (s 24 0 43))) s := by
  refine k_of [(0, .ref (ad z 24 0)), (1, .int 12)] (by decide) (Nat.le_of_ble_eq_true rfl) rfl (fun K X E => ?_)
  refine v_iload_n X d_Model_desk_0 rfl ?_
  refine v_tableIn X (off := 154) (tgt := 155) d_Model_desk_1 (by decide) (by decide) rfl (by decide) ?_
  refine v_aload_n X d_Model_desk_155 rfl rfl ?_
  refine w_geti X rfl rfl F_Model_181 d_Model_desk_156 (by decide) ?_
  exact w_iret X E d_Model_desk_159 rfl rfl ⟨rfl, rfl⟩
set_option maxRecDepth 100000 in
set_option maxHeartbeats 4000000 in
theorem M_desk_13 {D : va_G} {z : Nat} {zs : j_Zs} {ca : Nat → ClassId} (s : k_S)  : k_F D z zs ca Y_Model_desk 2 [.ref (ad z 24 0), .int 13] s (some (.int (s 24 0 44))) s := by
  refine k_of [(0, .ref (ad z 24 0)), (1, .int 13)] (by decide) (Nat.le_of_ble_eq_true rfl) rfl (fun K X E => ?_)
  refine v_iload_n X d_Model_desk_0 rfl ?_
  refine v_tableIn X (off := 159) (tgt := 160) d_Model_desk_1 (by decide) (by decide) rfl (by decide) ?_
  refine v_aload_n X d_Model_desk_160 rfl rfl ?_
  refine w_geti X rfl rfl F_Model_247 d_Model_desk_161 (by decide) ?_
  exact w_iret X E d_Model_desk_164 rfl rfl ⟨rfl, rfl⟩
set_option maxRecDepth 100000 in
set_option maxHeartbeats 4000000 in
theorem M_desk_out {D : va_G} {z : Nat} {zs : j_Zs} {ca : Nat → ClassId} (s : k_S) (x : Int32) (ho : x.toInt < 0 ∨ 13 < x.toInt) : k_F D z zs ca Y_Model_desk 2 [.ref (ad z 24 0), .int x] s (some (.int (-1))) s := by
  refine k_of [(0, .ref (ad z 24 0)), (1, .int x)] (by decide) (Nat.le_of_ble_eq_true rfl) rfl (fun K X E => ?_)
  refine v_iload_n X d_Model_desk_0 rfl ?_
  refine v_tableOut X (tgt := 165) d_Model_desk_1 ho (by decide) ?_
  refine v_iconst X (v := -1) d_Model_desk_165 rfl ?_
  exact w_iret X E d_Model_desk_166 rfl rfl ⟨rfl, rfl⟩
