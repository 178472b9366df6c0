def c_note (s : k_S) (e : Int32) : k_S := k_set (k_set s 23 0 ((s 22 0 1).toBitVec.toNat % 32) e) 22 0 1 (s 22 0 1 + 1)
theorem jb_nar {p : Prop} [Decidable p] : narrow .boolean (.int (jb p)) = .int (jb p) := by
  unfold jb
  by_cases h : p
  · rw [if_pos h]; rfl
  · rw [if_neg h]; rfl
set_option maxRecDepth 100000 in
set_option maxHeartbeats 4000000 in
theorem C_within {D : va_G} {z : Nat} {zs : j_Zs} {ca : Nat → ClassId} (s : k_S) (x lo hi : Int32)  : k_F D z zs ca Y_Desk_within 0 [.int x, .int lo, .int hi] s (some (.int (jb (lo ≤ x ∧ x ≤ hi)))) s := by
  refine k_of [(0, .int x), (1, .int lo), (2, .int hi)] (by decide) (Nat.le_of_ble_eq_true rfl) rfl (fun K X E => ?_)
  refine v_iload_n X d_Desk_within_0 rfl ?_
  refine v_iload_n X d_Desk_within_1 rfl ?_
  refine v_icmp_lt X 14 d_Desk_within_2 (by decide) (fun c2 => ?_) (fun c2 => ?_)
  · refine v_iconst X (v := 0) d_Desk_within_14 rfl ?_
    exact w_iret X E d_Desk_within_15 rfl (by first | rfl | decide | exact jb_nar) ⟨by rw [jb_f (fun h => absurd c2 (Int32.not_lt.mpr h.1))], rfl⟩
  · refine v_iload_n X d_Desk_within_5 rfl ?_
    refine v_iload_n X d_Desk_within_6 rfl ?_
    refine v_icmp_gt X 14 d_Desk_within_7 (by decide) (fun c7 => ?_) (fun c7 => ?_)
    · refine v_iconst X (v := 0) d_Desk_within_14 rfl ?_
      exact w_iret X E d_Desk_within_15 rfl (by first | rfl | decide | exact jb_nar) ⟨by rw [jb_f (fun h => absurd c7 (Int32.not_lt.mpr h.2))], rfl⟩
    · refine v_iconst X (v := 1) d_Desk_within_10 rfl ?_
      refine v_goto X (tgt := 15) d_Desk_within_11 (by decide) ?_
      exact w_iret X E d_Desk_within_15 rfl (by first | rfl | decide | exact jb_nar) ⟨by rw [jb_t ⟨Int32.not_lt.mp c2, Int32.not_lt.mp c7⟩], rfl⟩
set_option maxRecDepth 100000 in
set_option maxHeartbeats 4000000 in
theorem C_isHandler {D : va_G} {z : Nat} {zs : j_Zs} {ca : Nat → ClassId} (s : k_S) (x : Int32)  : k_F D z zs ca Y_Desk_isHandler 0 [.int x] s (some (.int (jb (0 ≤ x ∧ x < 8)))) s := by
  refine k_of [(0, .int x)] (by decide) (Nat.le_of_ble_eq_true rfl) rfl (fun K X E => ?_)
  refine v_iload_n X d_Desk_isHandler_0 rfl ?_
  refine v_if_lt X 14 d_Desk_isHandler_1 (by decide) (fun c1 => ?_) (fun c1 => ?_)
  · refine v_iconst X (v := 0) d_Desk_isHandler_14 rfl ?_
    exact w_iret X E d_Desk_isHandler_15 rfl (by first | rfl | decide | exact jb_nar) ⟨by rw [jb_f (fun h => absurd c1 (Int32.not_lt.mpr h.1))], rfl⟩
  · refine v_iload_n X d_Desk_isHandler_4 rfl ?_
    refine v_bipush X (v := 8) d_Desk_isHandler_5 rfl ?_
    refine v_icmp_ge X 14 d_Desk_isHandler_7 (by decide) (fun c7 => ?_) (fun c7 => ?_)
    · refine v_iconst X (v := 0) d_Desk_isHandler_14 rfl ?_
      exact w_iret X E d_Desk_isHandler_15 rfl (by first | rfl | decide | exact jb_nar) ⟨by rw [jb_f (fun h => absurd h.2 (Int32.not_lt.mpr c7))], rfl⟩
    · refine v_iconst X (v := 1) d_Desk_isHandler_10 rfl ?_
      refine v_goto X (tgt := 15) d_Desk_isHandler_11 (by decide) ?_
      exact w_iret X E d_Desk_isHandler_15 rfl (by first | rfl | decide | exact jb_nar) ⟨by rw [jb_t ⟨Int32.not_lt.mp c1, Int32.not_le.mp c7⟩], rfl⟩
set_option maxRecDepth 100000 in
set_option maxHeartbeats 4000000 in
theorem C_isFrame {D : va_G} {z : Nat} {zs : j_Zs} {ca : Nat → ClassId} (s : k_S) (x : Int32)  : k_F D z zs ca Y_Desk_isFrame 0 [.int x] s (some (.int (jb (0 ≤ x ∧ x < 4)))) s := by
  refine k_of [(0, .int x)] (by decide) (Nat.le_of_ble_eq_true rfl) rfl (fun K X E => ?_)
  refine v_iload_n X d_Desk_isFrame_0 rfl ?_
  refine v_if_lt X 13 d_Desk_isFrame_1 (by decide) (fun c1 => ?_) (fun c1 => ?_)
  · refine v_iconst X (v := 0) d_Desk_isFrame_13 rfl ?_
    exact w_iret X E d_Desk_isFrame_14 rfl (by first | rfl | decide | exact jb_nar) ⟨by rw [jb_f (fun h => absurd c1 (Int32.not_lt.mpr h.1))], rfl⟩
  · refine v_iload_n X d_Desk_isFrame_4 rfl ?_
    refine v_iconst X (v := 4) d_Desk_isFrame_5 rfl ?_
    refine v_icmp_ge X 13 d_Desk_isFrame_6 (by decide) (fun c6 => ?_) (fun c6 => ?_)
    · refine v_iconst X (v := 0) d_Desk_isFrame_13 rfl ?_
      exact w_iret X E d_Desk_isFrame_14 rfl (by first | rfl | decide | exact jb_nar) ⟨by rw [jb_f (fun h => absurd h.2 (Int32.not_lt.mpr c6))], rfl⟩
    · refine v_iconst X (v := 1) d_Desk_isFrame_9 rfl ?_
      refine v_goto X (tgt := 14) d_Desk_isFrame_10 (by decide) ?_
      exact w_iret X E d_Desk_isFrame_14 rfl (by first | rfl | decide | exact jb_nar) ⟨by rw [jb_t ⟨Int32.not_lt.mp c1, Int32.not_le.mp c6⟩], rfl⟩
set_option maxRecDepth 100000 in
set_option maxHeartbeats 4000000 in
theorem C_Frame_isThere {D : va_G} {z : Nat} {zs : j_Zs} {ca : Nat → ClassId} (s : k_S) (f : Nat) (hf : f < 4) : k_F D z zs ca Y_Frame_isThere 0 [.ref (ad z 19 f)] s (some (.int (jb (0 < s 19 f 0)))) s := by
  refine k_of [(0, .ref (ad z 19 f))] (by decide) (Nat.le_of_ble_eq_true rfl) rfl (fun K X E => ?_)
  refine v_aload_n X d_Frame_isThere_0 rfl rfl ?_
  refine w_geti X rfl rfl F_Frame_15 d_Frame_isThere_1 (show f < 4 by omega) ?_
  refine v_if_le X 11 d_Frame_isThere_4 (by decide) (fun c4 => ?_) (fun c4 => ?_)
  · refine v_iconst X (v := 0) d_Frame_isThere_11 rfl ?_
    exact w_iret X E d_Frame_isThere_12 rfl (by first | rfl | decide | exact jb_nar) ⟨by rw [jb_f (Int32.not_lt.mpr c4)], rfl⟩
  · refine v_iconst X (v := 1) d_Frame_isThere_7 rfl ?_
    refine v_goto X (tgt := 12) d_Frame_isThere_8 (by decide) ?_
    exact w_iret X E d_Frame_isThere_12 rfl (by first | rfl | decide | exact jb_nar) ⟨by rw [jb_t (Int32.not_le.mp c4)], rfl⟩
set_option maxRecDepth 100000 in
set_option maxHeartbeats 4000000 in
theorem C_Frame_layDown {D : va_G} {z : Nat} {zs : j_Zs} {ca : Nat → ClassId} (s : k_S) (f : Nat) (x : Int32) (hf : f < 4) : k_F D z zs ca Y_Frame_layDown 0 [.ref (ad z 19 f), .int x] s none (k_set (k_set s 19 f 0 x) 19 f 1 0) := by
  refine k_of [(0, .ref (ad z 19 f)), (1, .int x)] (by decide) (Nat.le_of_ble_eq_true rfl) rfl (fun K X E => ?_)
  refine v_aload_n X d_Frame_layDown_0 rfl rfl ?_
  refine v_iload_n X d_Frame_layDown_1 rfl ?_
  refine w_put X rfl rfl P_Frame_15 d_Frame_layDown_2 rfl rfl (show f < 4 by omega) ?_
  refine v_aload_n X d_Frame_layDown_5 rfl rfl ?_
  refine v_iconst X (v := 0) d_Frame_layDown_6 rfl ?_
  refine w_put X rfl rfl P_Frame_19 d_Frame_layDown_7 rfl rfl (show f < 4 by omega) ?_
  exact w_vret X E d_Frame_layDown_10 rfl ⟨rfl, rfl⟩
set_option maxRecDepth 100000 in
set_option maxHeartbeats 4000000 in
theorem C_Frame_addPlace_full {D : va_G} {z : Nat} {zs : j_Zs} {ca : Nat → ClassId} (s : k_S) (f : Nat) (x : Int32) (hf : f < 4) (hc : ¬ s 19 f 1 < 4) : k_F D z zs ca Y_Frame_addPlace 0 [.ref (ad z 19 f), .int x] s (some (.int (-3))) s := by
  refine k_of [(0, .ref (ad z 19 f)), (1, .int x)] (by decide) (Nat.le_of_ble_eq_true rfl) rfl (fun K X E => ?_)
  refine v_aload_n X d_Frame_addPlace_0 rfl rfl ?_
  refine w_geti X rfl rfl F_Frame_19 d_Frame_addPlace_1 (show f < 4 by omega) ?_
  refine v_iconst X (v := 4) d_Frame_addPlace_4 rfl ?_
  refine v_icmp_lt X 11 d_Frame_addPlace_5 (by decide) (fun c5 => absurd c5 hc) (fun _ => ?_)
  refine v_bipush X (v := -3) d_Frame_addPlace_8 rfl ?_
  exact w_iret X E d_Frame_addPlace_10 rfl rfl ⟨rfl, rfl⟩
set_option maxRecDepth 100000 in
set_option maxHeartbeats 4000000 in
theorem C_Frame_addPlace {D : va_G} {z : Nat} {zs : j_Zs} {ca : Nat → ClassId} (s : k_S) (f n : Nat) (x : Int32) (hf : f < 4) (hn : n < 4) (e : s 19 f 1 = nI n) : k_F D z zs ca Y_Frame_addPlace 0 [.ref (ad z 19 f), .int x] s (some (.int (s 19 f 1 + 1))) (k_set (k_set s 20 f n x) 19 f 1 (s 19 f 1 + 1)) := by
  refine k_of [(0, .ref (ad z 19 f)), (1, .int x)] (by decide) (Nat.le_of_ble_eq_true rfl) rfl (fun K X E => ?_)
  refine v_aload_n X d_Frame_addPlace_0 rfl rfl ?_
  refine w_geti X rfl rfl F_Frame_19 d_Frame_addPlace_1 (show f < 4 by omega) ?_
  refine v_iconst X (v := 4) d_Frame_addPlace_4 rfl ?_
  refine v_icmp_lt X 11 d_Frame_addPlace_5 (by decide) (fun _ => ?_) (fun c5 => absurd (by rw [e]; exact nI_lt (b := 4) hn (by decide)) c5)
  refine v_aload_n X d_Frame_addPlace_11 rfl rfl ?_
  refine w_getr X (ix2 := f) rfl rfl F_Frame_9 d_Frame_addPlace_12 rfl (show f < 4 by omega) ?_
  refine v_aload_n X d_Frame_addPlace_15 rfl rfl ?_
  refine w_geti X rfl rfl F_Frame_19 d_Frame_addPlace_16 (show f < 4 by omega) ?_
  refine v_iload_n X d_Frame_addPlace_19 rfl ?_
  refine w_iastN X n e rfl d_Frame_addPlace_20 (show f < 4 by omega) (show n < 4 by omega) (by decide) ?_
  refine v_aload_n X d_Frame_addPlace_21 rfl rfl ?_
  refine v_dup X d_Frame_addPlace_22 rfl ?_
  refine w_geti X rfl rfl F_Frame_19 d_Frame_addPlace_23 (show f < 4 by omega) ?_
  refine v_int (y := s 19 f 1) (by simp [k_set_of]) ?_
  refine v_iconst X (v := 1) d_Frame_addPlace_26 rfl ?_
  refine v_iadd X d_Frame_addPlace_27 ?_
  refine w_put X rfl rfl P_Frame_19 d_Frame_addPlace_28 rfl rfl (show f < 4 by omega) ?_
  refine v_aload_n X d_Frame_addPlace_31 rfl rfl ?_
  refine w_geti X rfl rfl F_Frame_19 d_Frame_addPlace_32 (show f < 4 by omega) ?_
  refine v_int (y := (s 19 f 1) + 1) (by simp [k_set_of]) ?_
  exact w_iret X E d_Frame_addPlace_35 rfl rfl ⟨rfl, rfl⟩
set_option maxRecDepth 100000 in
set_option maxHeartbeats 4000000 in
theorem C_Area_open {D : va_G} {z : Nat} {zs : j_Zs} {ca : Nat → ClassId} (s : k_S) (x : Int32)  : k_F D z zs ca Y_MissionArea_open 0 [.ref (ad z 21 0), .int x] s none (k_set (k_set s 21 0 0 x) 21 0 1 0) := by
  refine k_of [(0, .ref (ad z 21 0)), (1, .int x)] (by decide) (Nat.le_of_ble_eq_true rfl) rfl (fun K X E => ?_)
  refine v_aload_n X d_MissionArea_open_0 rfl rfl ?_
  refine v_iload_n X d_MissionArea_open_1 rfl ?_
  refine w_put X rfl rfl P_MissionArea_7 d_MissionArea_open_2 rfl rfl (by decide) ?_
  refine v_aload_n X d_MissionArea_open_5 rfl rfl ?_
  refine v_iconst X (v := 0) d_MissionArea_open_6 rfl ?_
  refine w_put X rfl rfl P_MissionArea_13 d_MissionArea_open_7 rfl rfl (by decide) ?_
  exact w_vret X E d_MissionArea_open_10 rfl ⟨rfl, rfl⟩
set_option maxRecDepth 100000 in
set_option maxHeartbeats 4000000 in
theorem C_Area_clear {D : va_G} {z : Nat} {zs : j_Zs} {ca : Nat → ClassId} (s : k_S)  : k_F D z zs ca Y_MissionArea_clear 0 [.ref (ad z 21 0)] s none (k_set (k_set s 21 0 0 0) 21 0 1 0) := by
  refine k_of [(0, .ref (ad z 21 0))] (by decide) (Nat.le_of_ble_eq_true rfl) rfl (fun K X E => ?_)
  refine v_aload_n X d_MissionArea_clear_0 rfl rfl ?_
  refine v_iconst X (v := 0) d_MissionArea_clear_1 rfl ?_
  refine w_put X rfl rfl P_MissionArea_7 d_MissionArea_clear_2 rfl rfl (by decide) ?_
  refine v_aload_n X d_MissionArea_clear_5 rfl rfl ?_
  refine v_iconst X (v := 0) d_MissionArea_clear_6 rfl ?_
  refine w_put X rfl rfl P_MissionArea_13 d_MissionArea_clear_7 rfl rfl (by decide) ?_
  exact w_vret X E d_MissionArea_clear_10 rfl ⟨rfl, rfl⟩
set_option maxRecDepth 100000 in
set_option maxHeartbeats 4000000 in
theorem C_Area_make_f {D : va_G} {z : Nat} {zs : j_Zs} {ca : Nat → ClassId} (s : k_S) (x : Int32) (hc : ¬ x ≤ s 21 0 0) : k_F D z zs ca Y_MissionArea_make 0 [.ref (ad z 21 0), .int x] s (some (.int 0)) s := by
  refine k_of [(0, .ref (ad z 21 0)), (1, .int x)] (by decide) (Nat.le_of_ble_eq_true rfl) rfl (fun K X E => ?_)
  refine v_iload_n X d_MissionArea_make_0 rfl ?_
  refine v_aload_n X d_MissionArea_make_1 rfl rfl ?_
  refine w_geti X rfl rfl F_MissionArea_7 d_MissionArea_make_2 (by decide) ?_
  refine v_icmp_le X 10 d_MissionArea_make_5 (by decide) (fun c5 => absurd c5 hc) (fun _ => ?_)
  refine v_iconst X (v := 0) d_MissionArea_make_8 rfl ?_
  exact w_iret X E d_MissionArea_make_9 rfl (by first | rfl | decide | exact jb_nar) ⟨rfl, rfl⟩
set_option maxRecDepth 100000 in
set_option maxHeartbeats 4000000 in
theorem C_Area_make_t {D : va_G} {z : Nat} {zs : j_Zs} {ca : Nat → ClassId} (s : k_S) (x : Int32) (hc : x ≤ s 21 0 0) : k_F D z zs ca Y_MissionArea_make 0 [.ref (ad z 21 0), .int x] s (some (.int 1)) (k_set (k_set s 21 0 0 (s 21 0 0 - x)) 21 0 1 (s 21 0 1 + 1)) := by
  refine k_of [(0, .ref (ad z 21 0)), (1, .int x)] (by decide) (Nat.le_of_ble_eq_true rfl) rfl (fun K X E => ?_)
  refine v_iload_n X d_MissionArea_make_0 rfl ?_
  refine v_aload_n X d_MissionArea_make_1 rfl rfl ?_
  refine w_geti X rfl rfl F_MissionArea_7 d_MissionArea_make_2 (by decide) ?_
  refine v_icmp_le X 10 d_MissionArea_make_5 (by decide) (fun _ => ?_) (fun c5 => absurd hc c5)
  refine v_aload_n X d_MissionArea_make_10 rfl rfl ?_
  refine v_dup X d_MissionArea_make_11 rfl ?_
  refine w_geti X rfl rfl F_MissionArea_7 d_MissionArea_make_12 (by decide) ?_
  refine v_iload_n X d_MissionArea_make_15 rfl ?_
  refine v_isub X d_MissionArea_make_16 ?_
  refine w_put X rfl rfl P_MissionArea_7 d_MissionArea_make_17 rfl rfl (by decide) ?_
  refine v_aload_n X d_MissionArea_make_20 rfl rfl ?_
  refine v_dup X d_MissionArea_make_21 rfl ?_
  refine w_geti X rfl rfl F_MissionArea_13 d_MissionArea_make_22 (by decide) ?_
  refine v_int (y := s 21 0 1) (by simp [k_set_of]) ?_
  refine v_iconst X (v := 1) d_MissionArea_make_25 rfl ?_
  refine v_iadd X d_MissionArea_make_26 ?_
  refine w_put X rfl rfl P_MissionArea_13 d_MissionArea_make_27 rfl rfl (by decide) ?_
  refine v_iconst X (v := 1) d_MissionArea_make_30 rfl ?_
  exact w_iret X E d_MissionArea_make_31 rfl (by first | rfl | decide | exact jb_nar) ⟨rfl, rfl⟩
set_option maxRecDepth 100000 in
set_option maxHeartbeats 4000000 in
theorem C_Journal_note {D : va_G} {z : Nat} {zs : j_Zs} {ca : Nat → ClassId} (s : k_S) (x y : Int32)  : k_F D z zs ca Y_Journal_note 0 [.ref (ad z 22 0), .int x, .int y] s none (c_note s (8 * x + y)) := by
  refine k_of [(0, .ref (ad z 22 0)), (1, .int x), (2, .int y)] (by decide) (Nat.le_of_ble_eq_true rfl) rfl (fun K X E => ?_)
  refine v_aload_n X d_Journal_note_0 rfl rfl ?_
  refine w_getr X (ix2 := 0) rfl rfl F_Journal_9 d_Journal_note_1 rfl (by decide) ?_
  refine v_aload_n X d_Journal_note_4 rfl rfl ?_
  refine w_geti X rfl rfl F_Journal_15 d_Journal_note_5 (by decide) ?_
  refine v_bipush X (v := 31) d_Journal_note_8 rfl ?_
  refine v_iand X d_Journal_note_10 ?_
  refine v_bipush X (v := 8) d_Journal_note_11 rfl ?_
  refine v_iload_n X d_Journal_note_13 rfl ?_
  refine v_imul X d_Journal_note_14 ?_
  refine v_iload_n X d_Journal_note_15 rfl ?_
  refine v_iadd X d_Journal_note_16 ?_
  refine w_iastN X ((s 22 0 1).toBitVec.toNat % 32) (pk_and _ 5 rfl) rfl d_Journal_note_17 (by decide) (show (s 22 0 1).toBitVec.toNat % 32 < 32 by omega) (by decide) ?_
  refine v_aload_n X d_Journal_note_18 rfl rfl ?_
  refine v_dup X d_Journal_note_19 rfl ?_
  refine w_geti X rfl rfl F_Journal_15 d_Journal_note_20 (by decide) ?_
  refine v_int (y := s 22 0 1) (by simp [k_set_of]) ?_
  refine v_iconst X (v := 1) d_Journal_note_23 rfl ?_
  refine v_iadd X d_Journal_note_24 ?_
  refine w_put X rfl rfl P_Journal_15 d_Journal_note_25 rfl rfl (by decide) ?_
  exact w_vret X E d_Journal_note_28 rfl ⟨rfl, rfl⟩
set_option maxRecDepth 100000 in
set_option maxHeartbeats 4000000 in
theorem C_Held_latest {D : va_G} {z : Nat} {zs : j_Zs} {ca : Nat → ClassId} (s : k_S) (r n : Nat) (hr : r < 32) (hn : n < 4) (e : s 15 r 1 = nI (n + 1)) : k_F D z zs ca Y_HeldLocks_latest 0 [.ref (ad z 15 r)] s (some (.int (s 16 r n))) s := by
  refine k_of [(0, .ref (ad z 15 r))] (by decide) (Nat.le_of_ble_eq_true rfl) rfl (fun K X E => ?_)
  refine v_aload_n X d_HeldLocks_latest_0 rfl rfl ?_
  refine w_geti X rfl rfl F_HeldLocks_15 d_HeldLocks_latest_1 (show r < 32 by omega) ?_
  refine v_if_ne X 12 d_HeldLocks_latest_4 (by decide) (fun _ => ?_) (fun c4 => absurd c4 (by rw [e]; exact nI_ne0 (by omega) (by omega)))
  refine v_aload_n X d_HeldLocks_latest_12 rfl rfl ?_
  refine w_getr X (ix2 := r) rfl rfl F_HeldLocks_9 d_HeldLocks_latest_13 rfl (show r < 32 by omega) ?_
  refine v_aload_n X d_HeldLocks_latest_16 rfl rfl ?_
  refine w_geti X rfl rfl F_HeldLocks_15 d_HeldLocks_latest_17 (show r < 32 by omega) ?_
  refine v_iconst X (v := 1) d_HeldLocks_latest_20 rfl ?_
  refine v_isub X d_HeldLocks_latest_21 ?_
  refine w_ialdN X n (by rw [e]; exact nI_pred n) rfl d_HeldLocks_latest_22 (show r < 32 by omega) (show n < 4 by omega) (by decide) ?_
  exact w_iret X E d_HeldLocks_latest_23 rfl rfl ⟨rfl, rfl⟩
set_option maxRecDepth 100000 in
set_option maxHeartbeats 4000000 in
theorem C_Held_latest_0 {D : va_G} {z : Nat} {zs : j_Zs} {ca : Nat → ClassId} (s : k_S) (r : Nat) (hr : r < 32) (e : s 15 r 1 = 0) : k_F D z zs ca Y_HeldLocks_latest 0 [.ref (ad z 15 r)] s (some (.int (-2))) s := by
  refine k_of [(0, .ref (ad z 15 r))] (by decide) (Nat.le_of_ble_eq_true rfl) rfl (fun K X E => ?_)
  refine v_aload_n X d_HeldLocks_latest_0 rfl rfl ?_
  refine w_geti X rfl rfl F_HeldLocks_15 d_HeldLocks_latest_1 (show r < 32 by omega) ?_
  refine v_if_ne X 12 d_HeldLocks_latest_4 (by decide) (fun c4 => absurd e c4) (fun _ => ?_)
  refine v_bipush X (v := -2) d_HeldLocks_latest_7 rfl ?_
  refine v_goto X (tgt := 23) d_HeldLocks_latest_9 (by decide) ?_
  exact w_iret X E d_HeldLocks_latest_23 rfl rfl ⟨rfl, rfl⟩
set_option maxRecDepth 100000 in
set_option maxHeartbeats 4000000 in
theorem C_Held_take {D : va_G} {z : Nat} {zs : j_Zs} {ca : Nat → ClassId} (s : k_S) (r n : Nat) (x : Int32) (hr : r < 32) (hn : n < 4) (e : s 15 r 1 = nI n) : k_F D z zs ca Y_HeldLocks_take 0 [.ref (ad z 15 r), .int x] s none (k_set (k_set s 16 r n x) 15 r 1 (s 15 r 1 + 1)) := by
  refine k_of [(0, .ref (ad z 15 r)), (1, .int x)] (by decide) (Nat.le_of_ble_eq_true rfl) rfl (fun K X E => ?_)
  refine v_aload_n X d_HeldLocks_take_0 rfl rfl ?_
  refine w_geti X rfl rfl F_HeldLocks_15 d_HeldLocks_take_1 (show r < 32 by omega) ?_
  refine v_iconst X (v := 4) d_HeldLocks_take_4 rfl ?_
  refine v_icmp_ge X 28 d_HeldLocks_take_5 (by decide) (fun c5 => absurd c5 (by rw [e]; exact nI_ge (b := 4) hn (by decide))) (fun _ => ?_)
  refine v_aload_n X d_HeldLocks_take_8 rfl rfl ?_
  refine w_getr X (ix2 := r) rfl rfl F_HeldLocks_9 d_HeldLocks_take_9 rfl (show r < 32 by omega) ?_
  refine v_aload_n X d_HeldLocks_take_12 rfl rfl ?_
  refine w_geti X rfl rfl F_HeldLocks_15 d_HeldLocks_take_13 (show r < 32 by omega) ?_
  refine v_iload_n X d_HeldLocks_take_16 rfl ?_
  refine w_iastN X n e rfl d_HeldLocks_take_17 (show r < 32 by omega) (show n < 4 by omega) (by decide) ?_
  refine v_aload_n X d_HeldLocks_take_18 rfl rfl ?_
  refine v_dup X d_HeldLocks_take_19 rfl ?_
  refine w_geti X rfl rfl F_HeldLocks_15 d_HeldLocks_take_20 (show r < 32 by omega) ?_
  refine v_int (y := s 15 r 1) (by simp [k_set_of]) ?_
  refine v_iconst X (v := 1) d_HeldLocks_take_23 rfl ?_
  refine v_iadd X d_HeldLocks_take_24 ?_
  refine w_put X rfl rfl P_HeldLocks_15 d_HeldLocks_take_25 rfl rfl (show r < 32 by omega) ?_
  exact w_vret X E d_HeldLocks_take_28 rfl ⟨rfl, rfl⟩
set_option maxRecDepth 100000 in
set_option maxHeartbeats 4000000 in
theorem C_Held_free_0 {D : va_G} {z : Nat} {zs : j_Zs} {ca : Nat → ClassId} (s : k_S) (r : Nat) (x : Int32) (hr : r < 32) (e : s 15 r 1 = 0) : k_F D z zs ca Y_HeldLocks_free 0 [.ref (ad z 15 r), .int x] s (some (.int 0)) s := by
  refine k_of [(0, .ref (ad z 15 r)), (1, .int x)] (by decide) (Nat.le_of_ble_eq_true rfl) rfl (fun K X E => ?_)
  refine v_aload_n X d_HeldLocks_free_0 rfl rfl ?_
  refine w_geti X rfl rfl F_HeldLocks_15 d_HeldLocks_free_1 (show r < 32 by omega) ?_
  refine v_if_eq X 22 d_HeldLocks_free_4 (by decide) (fun _ => ?_) (fun c4 => absurd e c4)
  refine v_iconst X (v := 0) d_HeldLocks_free_22 rfl ?_
  exact w_iret X E d_HeldLocks_free_23 rfl (by first | rfl | decide | exact jb_nar) ⟨rfl, rfl⟩
set_option maxRecDepth 100000 in
set_option maxHeartbeats 4000000 in
theorem C_Held_free_f {D : va_G} {z : Nat} {zs : j_Zs} {ca : Nat → ClassId} (s : k_S) (r n : Nat) (x : Int32) (hr : r < 32) (hn : n < 4) (e : s 15 r 1 = nI (n + 1)) (hx : ¬ s 16 r n = x) : k_F D z zs ca Y_HeldLocks_free 0 [.ref (ad z 15 r), .int x] s (some (.int 0)) s := by
  refine k_of [(0, .ref (ad z 15 r)), (1, .int x)] (by decide) (Nat.le_of_ble_eq_true rfl) rfl (fun K X E => ?_)
  refine v_aload_n X d_HeldLocks_free_0 rfl rfl ?_
  refine w_geti X rfl rfl F_HeldLocks_15 d_HeldLocks_free_1 (show r < 32 by omega) ?_
  refine v_if_eq X 22 d_HeldLocks_free_4 (by decide) (fun c4 => absurd c4 (by rw [e]; exact nI_ne0 (by omega) (by omega))) (fun _ => ?_)
  refine v_aload_n X d_HeldLocks_free_7 rfl rfl ?_
  refine w_getr X (ix2 := r) rfl rfl F_HeldLocks_9 d_HeldLocks_free_8 rfl (show r < 32 by omega) ?_
  refine v_aload_n X d_HeldLocks_free_11 rfl rfl ?_
  refine w_geti X rfl rfl F_HeldLocks_15 d_HeldLocks_free_12 (show r < 32 by omega) ?_
  refine v_iconst X (v := 1) d_HeldLocks_free_15 rfl ?_
  refine v_isub X d_HeldLocks_free_16 ?_
  refine w_ialdN X n (by rw [e]; exact nI_pred n) rfl d_HeldLocks_free_17 (show r < 32 by omega) (show n < 4 by omega) (by decide) ?_
  refine v_iload_n X d_HeldLocks_free_18 rfl ?_
  refine v_icmp_eq X 24 d_HeldLocks_free_19 (by decide) (fun c19 => absurd c19 hx) (fun _ => ?_)
  refine v_iconst X (v := 0) d_HeldLocks_free_22 rfl ?_
  exact w_iret X E d_HeldLocks_free_23 rfl (by first | rfl | decide | exact jb_nar) ⟨rfl, rfl⟩
set_option maxRecDepth 100000 in
set_option maxHeartbeats 4000000 in
theorem C_Held_free_t {D : va_G} {z : Nat} {zs : j_Zs} {ca : Nat → ClassId} (s : k_S) (r n : Nat) (x : Int32) (hr : r < 32) (hn : n < 4) (e : s 15 r 1 = nI (n + 1)) (hx : s 16 r n = x) : k_F D z zs ca Y_HeldLocks_free 0 [.ref (ad z 15 r), .int x] s (some (.int 1)) (k_set s 15 r 1 (s 15 r 1 - 1)) := by
  refine k_of [(0, .ref (ad z 15 r)), (1, .int x)] (by decide) (Nat.le_of_ble_eq_true rfl) rfl (fun K X E => ?_)
  refine v_aload_n X d_HeldLocks_free_0 rfl rfl ?_
  refine w_geti X rfl rfl F_HeldLocks_15 d_HeldLocks_free_1 (show r < 32 by omega) ?_
  refine v_if_eq X 22 d_HeldLocks_free_4 (by decide) (fun c4 => absurd c4 (by rw [e]; exact nI_ne0 (by omega) (by omega))) (fun _ => ?_)
  refine v_aload_n X d_HeldLocks_free_7 rfl rfl ?_
  refine w_getr X (ix2 := r) rfl rfl F_HeldLocks_9 d_HeldLocks_free_8 rfl (show r < 32 by omega) ?_
  refine v_aload_n X d_HeldLocks_free_11 rfl rfl ?_
  refine w_geti X rfl rfl F_HeldLocks_15 d_HeldLocks_free_12 (show r < 32 by omega) ?_
  refine v_iconst X (v := 1) d_HeldLocks_free_15 rfl ?_
  refine v_isub X d_HeldLocks_free_16 ?_
  refine w_ialdN X n (by rw [e]; exact nI_pred n) rfl d_HeldLocks_free_17 (show r < 32 by omega) (show n < 4 by omega) (by decide) ?_
  refine v_iload_n X d_HeldLocks_free_18 rfl ?_
  refine v_icmp_eq X 24 d_HeldLocks_free_19 (by decide) (fun _ => ?_) (fun c19 => absurd hx c19)
  refine v_aload_n X d_HeldLocks_free_24 rfl rfl ?_
  refine v_dup X d_HeldLocks_free_25 rfl ?_
  refine w_geti X rfl rfl F_HeldLocks_15 d_HeldLocks_free_26 (show r < 32 by omega) ?_
  refine v_iconst X (v := 1) d_HeldLocks_free_29 rfl ?_
  refine v_isub X d_HeldLocks_free_30 ?_
  refine w_put X rfl rfl P_HeldLocks_15 d_HeldLocks_free_31 rfl rfl (show r < 32 by omega) ?_
  refine v_iconst X (v := 1) d_HeldLocks_free_34 rfl ?_
  exact w_iret X E d_HeldLocks_free_35 rfl (by first | rfl | decide | exact jb_nar) ⟨rfl, rfl⟩
set_option maxRecDepth 100000 in
set_option maxHeartbeats 4000000 in
theorem C_Scopes_open {D : va_G} {z : Nat} {zs : j_Zs} {ca : Nat → ClassId} (s : k_S) (r : Nat) (x : Int32) (hr : r < 32) : k_F D z zs ca Y_Scopes_open 0 [.ref (ad z 10 r), .int x] s none (k_set (k_set (k_set s 10 r 2 1) 11 r 1 x) 10 r 5 0) := by
  refine k_of [(0, .ref (ad z 10 r)), (1, .int x)] (by decide) (Nat.le_of_ble_eq_true rfl) rfl (fun K X E => ?_)
  refine v_aload_n X d_Scopes_open_0 rfl rfl ?_
  refine v_iconst X (v := 1) d_Scopes_open_1 rfl ?_
  refine w_put X rfl rfl P_Scopes_24 d_Scopes_open_2 rfl rfl (show r < 32 by omega) ?_
  refine v_aload_n X d_Scopes_open_5 rfl rfl ?_
  refine w_getr X (ix2 := r) rfl rfl F_Scopes_9 d_Scopes_open_6 rfl (show r < 32 by omega) ?_
  refine v_iconst X (v := 1) d_Scopes_open_9 rfl ?_
  refine v_iload_n X d_Scopes_open_10 rfl ?_
  refine w_iastN X 1 rfl rfl d_Scopes_open_11 (show r < 32 by omega) (by decide) (by decide) ?_
  refine v_aload_n X d_Scopes_open_12 rfl rfl ?_
  refine v_iconst X (v := 0) d_Scopes_open_13 rfl ?_
  refine w_put X rfl rfl P_Scopes_28 d_Scopes_open_14 rfl rfl (show r < 32 by omega) ?_
  exact w_vret X E d_Scopes_open_17 rfl ⟨rfl, rfl⟩
set_option maxRecDepth 100000 in
set_option maxHeartbeats 4000000 in
theorem C_Scopes_roomLeft {D : va_G} {z : Nat} {zs : j_Zs} {ca : Nat → ClassId} (s : k_S) (r n : Nat) (hr : r < 32) (hn : n < 12) (e : s 10 r 2 = nI n) : k_F D z zs ca Y_Scopes_roomLeft 0 [.ref (ad z 10 r)] s (some (.int (s 11 r n))) s := by
  refine k_of [(0, .ref (ad z 10 r))] (by decide) (Nat.le_of_ble_eq_true rfl) rfl (fun K X E => ?_)
  refine v_aload_n X d_Scopes_roomLeft_0 rfl rfl ?_
  refine w_getr X (ix2 := r) rfl rfl F_Scopes_9 d_Scopes_roomLeft_1 rfl (show r < 32 by omega) ?_
  refine v_aload_n X d_Scopes_roomLeft_4 rfl rfl ?_
  refine w_geti X rfl rfl F_Scopes_24 d_Scopes_roomLeft_5 (show r < 32 by omega) ?_
  refine w_ialdN X n e rfl d_Scopes_roomLeft_8 (show r < 32 by omega) (show n < 12 by omega) (by decide) ?_
  exact w_iret X E d_Scopes_roomLeft_9 rfl rfl ⟨rfl, rfl⟩
set_option maxRecDepth 100000 in
set_option maxHeartbeats 4000000 in
theorem C_Scopes_note {D : va_G} {z : Nat} {zs : j_Zs} {ca : Nat → ClassId} (s : k_S) (r k : Nat) (x y : Int32) (hr : r < 32) (hk : k < 10) (eo : s 10 r 5 = nI k) : k_F D z zs ca Y_Scopes_note 0 [.ref (ad z 10 r), .int x, .int y] s none (k_set (k_set (k_set s 13 r k x) 14 r k y) 10 r 5 (s 10 r 5 + 1)) := by
  refine k_of [(0, .ref (ad z 10 r)), (1, .int x), (2, .int y)] (by decide) (Nat.le_of_ble_eq_true rfl) rfl (fun K X E => ?_)
  refine v_aload_n X d_Scopes_note_0 rfl rfl ?_
  refine w_geti X rfl rfl F_Scopes_28 d_Scopes_note_1 (show r < 32 by omega) ?_
  refine v_bipush X (v := 10) d_Scopes_note_4 rfl ?_
  refine v_icmp_ge X 39 d_Scopes_note_6 (by decide) (fun c6 => absurd c6 (by rw [eo]; exact nI_ge (b := 10) hk (by decide))) (fun _ => ?_)
  refine v_aload_n X d_Scopes_note_9 rfl rfl ?_
  refine w_getr X (ix2 := r) rfl rfl F_Scopes_18 d_Scopes_note_10 rfl (show r < 32 by omega) ?_
  refine v_aload_n X d_Scopes_note_13 rfl rfl ?_
  refine w_geti X rfl rfl F_Scopes_28 d_Scopes_note_14 (show r < 32 by omega) ?_
  refine v_iload_n X d_Scopes_note_17 rfl ?_
  refine w_iastN X k eo rfl d_Scopes_note_18 (show r < 32 by omega) (show k < 10 by omega) (by decide) ?_
  refine v_aload_n X d_Scopes_note_19 rfl rfl ?_
  refine w_getr X (ix2 := r) rfl rfl F_Scopes_21 d_Scopes_note_20 rfl (show r < 32 by omega) ?_
  refine v_aload_n X d_Scopes_note_23 rfl rfl ?_
  refine w_geti X rfl rfl F_Scopes_28 d_Scopes_note_24 (show r < 32 by omega) ?_
  refine v_int (y := s 10 r 5) (by simp [k_set_of]) ?_
  refine v_iload_n X d_Scopes_note_27 rfl ?_
  refine w_iastN X k eo rfl d_Scopes_note_28 (show r < 32 by omega) (show k < 10 by omega) (by decide) ?_
  refine v_aload_n X d_Scopes_note_29 rfl rfl ?_
  refine v_dup X d_Scopes_note_30 rfl ?_
  refine w_geti X rfl rfl F_Scopes_28 d_Scopes_note_31 (show r < 32 by omega) ?_
  refine v_int (y := s 10 r 5) (by simp [k_set_of]) ?_
  refine v_iconst X (v := 1) d_Scopes_note_34 rfl ?_
  refine v_iadd X d_Scopes_note_35 ?_
  refine w_put X rfl rfl P_Scopes_28 d_Scopes_note_36 rfl rfl (show r < 32 by omega) ?_
  exact w_vret X E d_Scopes_note_39 rfl ⟨rfl, rfl⟩
set_option maxRecDepth 100000 in
set_option maxHeartbeats 4000000 in
theorem C_Scopes_noteKept {D : va_G} {z : Nat} {zs : j_Zs} {ca : Nat → ClassId} (s : k_S) (r k : Nat) (x : Int32) (hr : r < 32) (hk : k < 10) (eo : s 10 r 5 = nI k) : k_F D z zs ca Y_Scopes_noteKept 1 [.ref (ad z 10 r), .int x] s none (k_set (k_set (k_set s 13 r k x) 14 r k 0) 10 r 5 (s 10 r 5 + 1)) := by
  refine k_of [(0, .ref (ad z 10 r)), (1, .int x)] (by decide) (Nat.le_of_ble_eq_true rfl) rfl (fun K X E => ?_)
  refine v_aload_n X d_Scopes_noteKept_0 rfl rfl ?_
  refine v_iload_n X d_Scopes_noteKept_1 rfl ?_
  refine v_iconst X (v := 0) d_Scopes_noteKept_2 rfl ?_
  refine w_fVv X (As := [.int x, .int 0]) (rest := []) rfl rfl L_Scopes_31 d_Scopes_noteKept_3 (show r < 32 by omega) (C_Scopes_note s r k x 0 hr hk eo) rfl E (by decide) rfl (Nat.le_of_ble_eq_true rfl) ?_
  exact w_vret X E d_Scopes_noteKept_6 rfl ⟨rfl, rfl⟩
set_option maxRecDepth 100000 in
set_option maxHeartbeats 4000000 in
theorem C_Scopes_makeHere_f {D : va_G} {z : Nat} {zs : j_Zs} {ca : Nat → ClassId} (s : k_S) (r n : Nat) (x : Int32) (hr : r < 32) (hn : n < 12) (e : s 10 r 2 = nI n) (hc : ¬ x ≤ s 11 r n) : k_F D z zs ca Y_Scopes_makeHere 1 [.ref (ad z 10 r), .int x] s (some (.int 0)) s := by
  refine k_of [(0, .ref (ad z 10 r)), (1, .int x)] (by decide) (Nat.le_of_ble_eq_true rfl) rfl (fun K X E => ?_)
  refine v_iload_n X d_Scopes_makeHere_0 rfl ?_
  refine v_aload_n X d_Scopes_makeHere_1 rfl rfl ?_
  refine w_getr X (ix2 := r) rfl rfl F_Scopes_9 d_Scopes_makeHere_2 rfl (show r < 32 by omega) ?_
  refine v_aload_n X d_Scopes_makeHere_5 rfl rfl ?_
  refine w_geti X rfl rfl F_Scopes_24 d_Scopes_makeHere_6 (show r < 32 by omega) ?_
  refine w_ialdN X n e rfl d_Scopes_makeHere_9 (show r < 32 by omega) (show n < 12 by omega) (by decide) ?_
  refine v_icmp_le X 15 d_Scopes_makeHere_10 (by decide) (fun c10 => absurd c10 hc) (fun _ => ?_)
  refine v_iconst X (v := 0) d_Scopes_makeHere_13 rfl ?_
  exact w_iret X E d_Scopes_makeHere_14 rfl (by first | rfl | decide | exact jb_nar) ⟨rfl, rfl⟩
set_option maxRecDepth 100000 in
set_option maxHeartbeats 4000000 in
theorem C_Scopes_makeHere_t {D : va_G} {z : Nat} {zs : j_Zs} {ca : Nat → ClassId} (s : k_S) (r n k : Nat) (x : Int32) (hr : r < 32) (hn : n < 12) (e : s 10 r 2 = nI n) (hk : k < 10) (eo : s 10 r 5 = nI k) (hc : x ≤ s 11 r n) : k_F D z zs ca Y_Scopes_makeHere 1 [.ref (ad z 10 r), .int x] s (some (.int 1)) (k_set (k_set (k_set (k_set s 11 r n (s 11 r n - x)) 13 r k x) 14 r k (nI n)) 10 r 5 (s 10 r 5 + 1)) := by
  refine k_of [(0, .ref (ad z 10 r)), (1, .int x)] (by decide) (Nat.le_of_ble_eq_true rfl) rfl (fun K X E => ?_)
  refine v_iload_n X d_Scopes_makeHere_0 rfl ?_
  refine v_aload_n X d_Scopes_makeHere_1 rfl rfl ?_
  refine w_getr X (ix2 := r) rfl rfl F_Scopes_9 d_Scopes_makeHere_2 rfl (show r < 32 by omega) ?_
  refine v_aload_n X d_Scopes_makeHere_5 rfl rfl ?_
  refine w_geti X rfl rfl F_Scopes_24 d_Scopes_makeHere_6 (show r < 32 by omega) ?_
  refine w_ialdN X n e rfl d_Scopes_makeHere_9 (show r < 32 by omega) (show n < 12 by omega) (by decide) ?_
  refine v_icmp_le X 15 d_Scopes_makeHere_10 (by decide) (fun _ => ?_) (fun c10 => absurd hc c10)
  refine v_aload_n X d_Scopes_makeHere_15 rfl rfl ?_
  refine w_getr X (ix2 := r) rfl rfl F_Scopes_9 d_Scopes_makeHere_16 rfl (show r < 32 by omega) ?_
  refine v_aload_n X d_Scopes_makeHere_19 rfl rfl ?_
  refine w_geti X rfl rfl F_Scopes_24 d_Scopes_makeHere_20 (show r < 32 by omega) ?_
  refine v_dup2 X d_Scopes_makeHere_23 rfl rfl ?_
  refine w_ialdN X n e rfl d_Scopes_makeHere_24 (show r < 32 by omega) (show n < 12 by omega) (by decide) ?_
  refine v_iload_n X d_Scopes_makeHere_25 rfl ?_
  refine v_isub X d_Scopes_makeHere_26 ?_
  refine w_iastN X n e rfl d_Scopes_makeHere_27 (show r < 32 by omega) (show n < 12 by omega) (by decide) ?_
  refine v_aload_n X d_Scopes_makeHere_28 rfl rfl ?_
  refine v_iload_n X d_Scopes_makeHere_29 rfl ?_
  refine v_aload_n X d_Scopes_makeHere_30 rfl rfl ?_
  refine w_geti X rfl rfl F_Scopes_24 d_Scopes_makeHere_31 (show r < 32 by omega) ?_
  refine v_int (y := s 10 r 2) (by simp [k_set_of]) ?_
  refine v_int (y := nI n) e ?_
  refine w_fVv X (As := [.int x, .int (nI n)]) (rest := []) rfl rfl L_Scopes_31 d_Scopes_makeHere_34 (show r < 32 by omega) (by have h := C_Scopes_note (D := D) (z := z) (zs := zs) (ca := ca) (k_set s 11 r n (s 11 r n - x)) r k x (nI n) hr hk (by simpa [k_set_of] using eo); simpa [k_set_of] using h) rfl E (by decide) rfl (Nat.le_of_ble_eq_true rfl) ?_
  refine v_iconst X (v := 1) d_Scopes_makeHere_37 rfl ?_
  exact w_iret X E d_Scopes_makeHere_38 rfl (by first | rfl | decide | exact jb_nar) ⟨rfl, rfl⟩
set_option maxRecDepth 100000 in
set_option maxHeartbeats 4000000 in
theorem C_Line_first {D : va_G} {z : Nat} {zs : j_Zs} {ca : Nat → ClassId} (s : k_S) (h a : Nat) (hh : h < 8) (ha : a < 4) (e1 : s 7 h 1 = nI a) : k_F D z zs ca Y_Line_first 0 [.ref (ad z 7 h)] s (some (.ref (ad z 9 (4 * h + a)))) s := by
  refine k_of [(0, .ref (ad z 7 h))] (by decide) (Nat.le_of_ble_eq_true rfl) rfl (fun K X E => ?_)
  refine v_aload_n X d_Line_first_0 rfl rfl ?_
  refine w_getr X (ix2 := h) rfl rfl F_Line_11 d_Line_first_1 rfl (show h < 8 by omega) ?_
  refine v_aload_n X d_Line_first_4 rfl rfl ?_
  refine w_geti X rfl rfl F_Line_20 d_Line_first_5 (show h < 8 by omega) ?_
  refine w_aaldN X (ix2 := 4 * h + a) a e1 rfl rfl d_Line_first_8 rfl (show h < 8 by omega) (show a < 4 by omega) (by decide) ?_
  exact w_aret X E d_Line_first_9 rfl (Or.inr ⟨_, rfl⟩) ⟨rfl, rfl⟩
set_option maxRecDepth 100000 in
set_option maxHeartbeats 4000000 in
theorem C_Line_at {D : va_G} {z : Nat} {zs : j_Zs} {ca : Nat → ClassId} (s : k_S) (h a i : Nat) (hh : h < 8) (ha : a < 4) (e1 : s 7 h 1 = nI a) (hi : i < 8) : k_F D z zs ca Y_Line_at 0 [.ref (ad z 7 h), .int (nI i)] s (some (.ref (ad z 9 (4 * h + (a + i) % 4)))) s := by
  refine k_of [(0, .ref (ad z 7 h)), (1, .int (nI i))] (by decide) (Nat.le_of_ble_eq_true rfl) rfl (fun K X E => ?_)
  refine v_aload_n X d_Line_at_0 rfl rfl ?_
  refine w_getr X (ix2 := h) rfl rfl F_Line_11 d_Line_at_1 rfl (show h < 8 by omega) ?_
  refine v_aload_n X d_Line_at_4 rfl rfl ?_
  refine w_geti X rfl rfl F_Line_20 d_Line_at_5 (show h < 8 by omega) ?_
  refine v_iload_n X d_Line_at_8 rfl ?_
  refine v_iadd X d_Line_at_9 ?_
  refine v_iconst X (v := 3) d_Line_at_10 rfl ?_
  refine v_iand X d_Line_at_11 ?_
  refine w_aaldN X (ix2 := 4 * h + (a + i) % 4) ((a + i) % 4) (by rw [e1, nI_add]; exact pk_andN (by omega) 2 rfl) rfl rfl d_Line_at_12 rfl (show h < 8 by omega) (show (a + i) % 4 < 4 by omega) (by decide) ?_
  exact w_aret X E d_Line_at_13 rfl (Or.inr ⟨_, rfl⟩) ⟨rfl, rfl⟩
set_option maxRecDepth 100000 in
set_option maxHeartbeats 4000000 in
theorem C_Line_grow_full {D : va_G} {z : Nat} {zs : j_Zs} {ca : Nat → ClassId} (s : k_S) (h : Nat) (hh : h < 8) (e2 : s 7 h 2 = 4) : k_F D z zs ca Y_Line_grow 1 [.ref (ad z 7 h)] s (some (.null)) s := by
  refine k_of [(0, .ref (ad z 7 h))] (by decide) (Nat.le_of_ble_eq_true rfl) rfl (fun K X E => ?_)
  refine v_aload_n X d_Line_grow_0 rfl rfl ?_
  refine w_geti X rfl rfl F_Line_24 d_Line_grow_1 (show h < 8 by omega) ?_
  refine v_iconst X (v := 4) d_Line_grow_4 rfl ?_
  refine v_icmp_lt X 10 d_Line_grow_5 (by decide) (fun c5 => absurd c5 (by rw [e2]; decide)) (fun _ => ?_)
  refine v_null X d_Line_grow_8 ?_
  exact w_aret X E d_Line_grow_9 rfl (Or.inl rfl) ⟨rfl, rfl⟩
set_option maxRecDepth 100000 in
set_option maxHeartbeats 4000000 in
theorem C_Line_grow {D : va_G} {z : Nat} {zs : j_Zs} {ca : Nat → ClassId} (s : k_S) (h a n : Nat) (hh : h < 8) (ha : a < 4) (e1 : s 7 h 1 = nI a) (hn : n < 4) (e2 : s 7 h 2 = nI n) : k_F D z zs ca Y_Line_grow 1 [.ref (ad z 7 h)] s (some (.ref (ad z 9 (4 * h + (a + n) % 4)))) (k_set s 7 h 2 (nI (n + 1))) := by
  refine k_of [(0, .ref (ad z 7 h))] (by decide) (Nat.le_of_ble_eq_true rfl) rfl (fun K X E => ?_)
  refine v_aload_n X d_Line_grow_0 rfl rfl ?_
  refine w_geti X rfl rfl F_Line_24 d_Line_grow_1 (show h < 8 by omega) ?_
  refine v_iconst X (v := 4) d_Line_grow_4 rfl ?_
  refine v_icmp_lt X 10 d_Line_grow_5 (by decide) (fun _ => ?_) (fun c5 => absurd (by rw [e2]; exact nI_lt (b := 4) hn (by decide)) c5)
  refine v_aload_n X d_Line_grow_10 rfl rfl ?_
  refine v_dup X d_Line_grow_11 rfl ?_
  refine w_geti X rfl rfl F_Line_24 d_Line_grow_12 (show h < 8 by omega) ?_
  refine v_iconst X (v := 1) d_Line_grow_15 rfl ?_
  refine v_iadd X d_Line_grow_16 ?_
  refine v_int (y := nI (n + 1)) (by rw [e2]; exact nI_1 n) ?_
  refine w_put X rfl rfl P_Line_24 d_Line_grow_17 rfl rfl (show h < 8 by omega) ?_
  refine v_aload_n X d_Line_grow_20 rfl rfl ?_
  refine v_aload_n X d_Line_grow_21 rfl rfl ?_
  refine w_geti X rfl rfl F_Line_24 d_Line_grow_22 (show h < 8 by omega) ?_
  refine v_int (y := nI (n + 1)) (by simp [k_set_of]) ?_
  refine v_iconst X (v := 1) d_Line_grow_25 rfl ?_
  refine v_isub X d_Line_grow_26 ?_
  refine v_int (y := nI n) (nI_pred n) ?_
  refine w_fVr X (As := [.int (nI n)]) (rest := []) rfl rfl L_Line_27 d_Line_grow_27 (show h < 8 by omega) (C_Line_at _ h a n hh ha (by simpa [k_set_of] using e1) (by omega)) rfl E (by decide) rfl (Nat.le_of_ble_eq_true rfl) ?_
  exact w_aret X E d_Line_grow_30 rfl (Or.inr ⟨_, rfl⟩) ⟨rfl, rfl⟩
set_option maxRecDepth 100000 in
set_option maxHeartbeats 4000000 in
theorem C_Line_removeFirst {D : va_G} {z : Nat} {zs : j_Zs} {ca : Nat → ClassId} (s : k_S) (h a n : Nat) (hh : h < 8) (ha : a < 4) (e1 : s 7 h 1 = nI a) (hn : n < 4) (e2 : s 7 h 2 = nI (n + 1)) : k_F D z zs ca Y_Line_removeFirst 0 [.ref (ad z 7 h)] s none (k_set (k_set s 7 h 1 (nI ((a + 1) % 4))) 7 h 2 (nI n)) := by
  refine k_of [(0, .ref (ad z 7 h))] (by decide) (Nat.le_of_ble_eq_true rfl) rfl (fun K X E => ?_)
  refine v_aload_n X d_Line_removeFirst_0 rfl rfl ?_
  refine w_geti X rfl rfl F_Line_24 d_Line_removeFirst_1 (show h < 8 by omega) ?_
  refine v_if_le X 29 d_Line_removeFirst_4 (by decide) (fun c4 => absurd c4 (by rw [e2]; exact nI_nle (by omega) (by omega))) (fun _ => ?_)
  refine v_aload_n X d_Line_removeFirst_7 rfl rfl ?_
  refine v_aload_n X d_Line_removeFirst_8 rfl rfl ?_
  refine w_geti X rfl rfl F_Line_20 d_Line_removeFirst_9 (show h < 8 by omega) ?_
  refine v_iconst X (v := 1) d_Line_removeFirst_12 rfl ?_
  refine v_iadd X d_Line_removeFirst_13 ?_
  refine v_iconst X (v := 3) d_Line_removeFirst_14 rfl ?_
  refine v_iand X d_Line_removeFirst_15 ?_
  refine v_int (y := nI ((a + 1) % 4)) (by rw [e1, nI_1]; exact pk_andN (by omega) 2 rfl) ?_
  refine w_put X rfl rfl P_Line_20 d_Line_removeFirst_16 rfl rfl (show h < 8 by omega) ?_
  refine v_aload_n X d_Line_removeFirst_19 rfl rfl ?_
  refine v_dup X d_Line_removeFirst_20 rfl ?_
  refine w_geti X rfl rfl F_Line_24 d_Line_removeFirst_21 (show h < 8 by omega) ?_
  refine v_int (y := s 7 h 2) (by simp [k_set_of]) ?_
  refine v_iconst X (v := 1) d_Line_removeFirst_24 rfl ?_
  refine v_isub X d_Line_removeFirst_25 ?_
  refine v_int (y := nI n) (by rw [e2]; exact nI_pred n) ?_
  refine w_put X rfl rfl P_Line_24 d_Line_removeFirst_26 rfl rfl (show h < 8 by omega) ?_
  exact w_vret X E d_Line_removeFirst_29 rfl ⟨rfl, rfl⟩
set_option maxRecDepth 100000 in
set_option maxHeartbeats 4000000 in
theorem C_Line_removeNotBegun_0 {D : va_G} {z : Nat} {zs : j_Zs} {ca : Nat → ClassId} (s : k_S) (h : Nat) (hh : h < 8) (e2 : s 7 h 2 = 0) : k_F D z zs ca Y_Line_removeNotBegun 1 [.ref (ad z 7 h)] s (some (.int 0)) (k_set s 7 h 2 0) := by
  refine k_of [(0, .ref (ad z 7 h))] (by decide) (Nat.le_of_ble_eq_true rfl) rfl (fun K X E => ?_)
  refine v_aload_n X d_Line_removeNotBegun_0 rfl rfl ?_
  refine w_geti X rfl rfl F_Line_24 d_Line_removeNotBegun_1 (show h < 8 by omega) ?_
  refine v_istore_n X [(1, .int (s 7 h 2)), (0, .ref (ad z 7 h))] d_Line_removeNotBegun_4 (by decide) rfl ?_
  refine v_aload_n X d_Line_removeNotBegun_5 rfl rfl ?_
  refine v_aload_n X d_Line_removeNotBegun_6 rfl rfl ?_
  refine w_geti X rfl rfl F_Line_24 d_Line_removeNotBegun_7 (show h < 8 by omega) ?_
  refine v_if_le X 27 d_Line_removeNotBegun_10 (by decide) (fun _ => ?_) (fun c10 => absurd (by rw [e2]; decide) c10)
  refine v_iconst X (v := 0) d_Line_removeNotBegun_27 rfl ?_
  refine w_put X rfl rfl P_Line_24 d_Line_removeNotBegun_28 rfl rfl (show h < 8 by omega) ?_
  refine v_iload_n X d_Line_removeNotBegun_31 rfl ?_
  refine v_aload_n X d_Line_removeNotBegun_32 rfl rfl ?_
  refine w_geti X rfl rfl F_Line_24 d_Line_removeNotBegun_33 (show h < 8 by omega) ?_
  refine v_int (y := 0) (by simp [k_set_of]) ?_
  refine v_isub X d_Line_removeNotBegun_36 ?_
  exact w_iret X E d_Line_removeNotBegun_37 rfl rfl ⟨by rw [e2]; rfl, rfl⟩
set_option maxRecDepth 100000 in
set_option maxHeartbeats 4000000 in
theorem C_Line_removeNotBegun_t {D : va_G} {z : Nat} {zs : j_Zs} {ca : Nat → ClassId} (s : k_S) (h a n : Nat) (hh : h < 8) (ha : a < 4) (e1 : s 7 h 1 = nI a) (hn : n < 4) (e2 : s 7 h 2 = nI (n + 1)) (hb : ¬ s 9 (4 * h + a) 5 = 0) : k_F D z zs ca Y_Line_removeNotBegun 1 [.ref (ad z 7 h)] s (some (.int (nI n))) (k_set s 7 h 2 1) := by
  refine k_of [(0, .ref (ad z 7 h))] (by decide) (Nat.le_of_ble_eq_true rfl) rfl (fun K X E => ?_)
  refine v_aload_n X d_Line_removeNotBegun_0 rfl rfl ?_
  refine w_geti X rfl rfl F_Line_24 d_Line_removeNotBegun_1 (show h < 8 by omega) ?_
  refine v_istore_n X [(1, .int (s 7 h 2)), (0, .ref (ad z 7 h))] d_Line_removeNotBegun_4 (by decide) rfl ?_
  refine v_aload_n X d_Line_removeNotBegun_5 rfl rfl ?_
  refine v_aload_n X d_Line_removeNotBegun_6 rfl rfl ?_
  refine w_geti X rfl rfl F_Line_24 d_Line_removeNotBegun_7 (show h < 8 by omega) ?_
  refine v_if_le X 27 d_Line_removeNotBegun_10 (by decide) (fun c10 => absurd c10 (by rw [e2]; exact nI_nle (by omega) (by omega))) (fun _ => ?_)
  refine v_aload_n X d_Line_removeNotBegun_13 rfl rfl ?_
  refine w_fVr X (As := []) (rest := [.ref (ad z 7 h)]) rfl rfl L_Line_31 d_Line_removeNotBegun_14 (show h < 8 by omega) (C_Line_first s h a hh ha e1) rfl E (by decide) rfl (Nat.le_of_ble_eq_true rfl) ?_
  refine w_geti X rfl rfl F_Line_35 d_Line_removeNotBegun_17 (show 4 * h + a < 32 by omega) ?_
  refine v_if_eq X 27 d_Line_removeNotBegun_20 (by decide) (fun c20 => absurd c20 hb) (fun _ => ?_)
  refine v_iconst X (v := 1) d_Line_removeNotBegun_23 rfl ?_
  refine v_goto X (tgt := 28) d_Line_removeNotBegun_24 (by decide) ?_
  refine w_put X rfl rfl P_Line_24 d_Line_removeNotBegun_28 rfl rfl (show h < 8 by omega) ?_
  refine v_iload_n X d_Line_removeNotBegun_31 rfl ?_
  refine v_aload_n X d_Line_removeNotBegun_32 rfl rfl ?_
  refine w_geti X rfl rfl F_Line_24 d_Line_removeNotBegun_33 (show h < 8 by omega) ?_
  refine v_int (y := 1) (by simp [k_set_of]) ?_
  refine v_isub X d_Line_removeNotBegun_36 ?_
  exact w_iret X E d_Line_removeNotBegun_37 rfl rfl ⟨by rw [e2, nI_pred], rfl⟩
set_option maxRecDepth 100000 in
set_option maxHeartbeats 4000000 in
theorem C_Line_removeNotBegun_f {D : va_G} {z : Nat} {zs : j_Zs} {ca : Nat → ClassId} (s : k_S) (h a n : Nat) (hh : h < 8) (ha : a < 4) (e1 : s 7 h 1 = nI a) (hn : n < 4) (e2 : s 7 h 2 = nI (n + 1)) (hb : s 9 (4 * h + a) 5 = 0) : k_F D z zs ca Y_Line_removeNotBegun 1 [.ref (ad z 7 h)] s (some (.int (nI (n + 1)))) (k_set s 7 h 2 0) := by
  refine k_of [(0, .ref (ad z 7 h))] (by decide) (Nat.le_of_ble_eq_true rfl) rfl (fun K X E => ?_)
  refine v_aload_n X d_Line_removeNotBegun_0 rfl rfl ?_
  refine w_geti X rfl rfl F_Line_24 d_Line_removeNotBegun_1 (show h < 8 by omega) ?_
  refine v_istore_n X [(1, .int (s 7 h 2)), (0, .ref (ad z 7 h))] d_Line_removeNotBegun_4 (by decide) rfl ?_
  refine v_aload_n X d_Line_removeNotBegun_5 rfl rfl ?_
  refine v_aload_n X d_Line_removeNotBegun_6 rfl rfl ?_
  refine w_geti X rfl rfl F_Line_24 d_Line_removeNotBegun_7 (show h < 8 by omega) ?_
  refine v_if_le X 27 d_Line_removeNotBegun_10 (by decide) (fun c10 => absurd c10 (by rw [e2]; exact nI_nle (by omega) (by omega))) (fun _ => ?_)
  refine v_aload_n X d_Line_removeNotBegun_13 rfl rfl ?_
  refine w_fVr X (As := []) (rest := [.ref (ad z 7 h)]) rfl rfl L_Line_31 d_Line_removeNotBegun_14 (show h < 8 by omega) (C_Line_first s h a hh ha e1) rfl E (by decide) rfl (Nat.le_of_ble_eq_true rfl) ?_
  refine w_geti X rfl rfl F_Line_35 d_Line_removeNotBegun_17 (show 4 * h + a < 32 by omega) ?_
  refine v_if_eq X 27 d_Line_removeNotBegun_20 (by decide) (fun _ => ?_) (fun c20 => absurd hb c20)
  refine v_iconst X (v := 0) d_Line_removeNotBegun_27 rfl ?_
  refine w_put X rfl rfl P_Line_24 d_Line_removeNotBegun_28 rfl rfl (show h < 8 by omega) ?_
  refine v_iload_n X d_Line_removeNotBegun_31 rfl ?_
  refine v_aload_n X d_Line_removeNotBegun_32 rfl rfl ?_
  refine w_geti X rfl rfl F_Line_24 d_Line_removeNotBegun_33 (show h < 8 by omega) ?_
  refine v_int (y := 0) (by simp [k_set_of]) ?_
  refine v_isub X d_Line_removeNotBegun_36 ?_
  exact w_iret X E d_Line_removeNotBegun_37 rfl rfl ⟨by rw [e2, Int32.sub_zero], rfl⟩
set_option maxRecDepth 100000 in
set_option maxHeartbeats 4000000 in
theorem C_Release_come {D : va_G} {z : Nat} {zs : j_Zs} {ca : Nat → ClassId} (s : k_S) (r : Nat) (x y : Int32) (hr : r < 32) : k_F D z zs ca Y_Release_come 0 [.ref (ad z 9 r), .int x, .int y] s none (k_set (k_set (k_set (k_set (k_set (k_set s 9 r 3 x) 9 r 4 y) 9 r 5 0) 9 r 6 0) 9 r 7 0) 15 r 1 0) := by
  refine k_of [(0, .ref (ad z 9 r)), (1, .int x), (2, .int y)] (by decide) (Nat.le_of_ble_eq_true rfl) rfl (fun K X E => ?_)
  refine v_aload_n X d_Release_come_0 rfl rfl ?_
  refine v_iload_n X d_Release_come_1 rfl ?_
  refine w_put X rfl rfl P_Release_27 d_Release_come_2 rfl rfl (show r < 32 by omega) ?_
  refine v_aload_n X d_Release_come_5 rfl rfl ?_
  refine v_iload_n X d_Release_come_6 rfl ?_
  refine w_put X rfl rfl P_Release_30 d_Release_come_7 rfl rfl (show r < 32 by omega) ?_
  refine v_aload_n X d_Release_come_10 rfl rfl ?_
  refine v_iconst X (v := 0) d_Release_come_11 rfl ?_
  refine w_put X rfl rfl P_Release_33 d_Release_come_12 rfl rfl (show r < 32 by omega) ?_
  refine v_aload_n X d_Release_come_15 rfl rfl ?_
  refine v_iconst X (v := 0) d_Release_come_16 rfl ?_
  refine w_put X rfl rfl P_Release_37 d_Release_come_17 rfl rfl (show r < 32 by omega) ?_
  refine v_aload_n X d_Release_come_20 rfl rfl ?_
  refine v_iconst X (v := 0) d_Release_come_21 rfl ?_
  refine w_put X rfl rfl P_Release_40 d_Release_come_22 rfl rfl (show r < 32 by omega) ?_
  refine v_aload_n X d_Release_come_25 rfl rfl ?_
  refine w_getr X (ix2 := r) rfl rfl F_Release_23 d_Release_come_26 rfl (show r < 32 by omega) ?_
  refine v_iconst X (v := 0) d_Release_come_29 rfl ?_
  refine w_put X rfl rfl P_Release_43 d_Release_come_30 rfl rfl (show r < 32 by omega) ?_
  exact w_vret X E d_Release_come_33 rfl ⟨rfl, rfl⟩
set_option maxRecDepth 100000 in
set_option maxHeartbeats 4000000 in
theorem C_Release_start {D : va_G} {z : Nat} {zs : j_Zs} {ca : Nat → ClassId} (s : k_S) (r : Nat) (x : Int32) (hr : r < 32) : k_F D z zs ca Y_Release_start 1 [.ref (ad z 9 r), .int x] s none (k_set (k_set (k_set (k_set s 9 r 5 1) 10 r 2 1) 11 r 1 x) 10 r 5 0) := by
  refine k_of [(0, .ref (ad z 9 r)), (1, .int x)] (by decide) (Nat.le_of_ble_eq_true rfl) rfl (fun K X E => ?_)
  refine v_aload_n X d_Release_start_0 rfl rfl ?_
  refine v_iconst X (v := 1) d_Release_start_1 rfl ?_
  refine w_put X rfl rfl P_Release_33 d_Release_start_2 rfl rfl (show r < 32 by omega) ?_
  refine v_aload_n X d_Release_start_5 rfl rfl ?_
  refine w_getr X (ix2 := r) rfl rfl F_Release_16 d_Release_start_6 rfl (show r < 32 by omega) ?_
  refine v_iload_n X d_Release_start_9 rfl ?_
  refine w_fVv X (As := [.int x]) (rest := []) rfl rfl L_Release_46 d_Release_start_10 (show r < 32 by omega) (C_Scopes_open _ r x hr) rfl E (by decide) rfl (Nat.le_of_ble_eq_true rfl) ?_
  exact w_vret X E d_Release_start_13 rfl ⟨rfl, rfl⟩
