/-! The first call on a fresh object. -/
def k_same (s s' : k_S) : Prop := ∀ k, 24 ≤ k → ∀ i j, s' k i j = s k i j
theorem k_same_refl {s : k_S} : k_same s s := fun _ _ _ _ => rfl
theorem k_same_set {s s' : k_S} {kd ix j : Nat} {v : Int32} (h : k_same s s') (hk : kd < 24) : k_same s (k_set s' kd ix j v) := fun k h24 i q => by
  rw [k_set_of, if_neg (fun e => by omega)]
  exact h k h24 i q
theorem ix_lt {x : Int32} (n : Nat) {m : Int32} (hm : m = nI n) (hn : n < 2 ^ 31) (h : 0 ≤ x ∧ x < m) : ∃ k : Nat, k < n ∧ x = nI k := by
  subst hm
  rcases pk_ix x hn with h1 | h1 | h1
  · exact absurd h1 (Int32.not_lt.mpr h.1)
  · exact absurd h.2 (Int32.not_lt.mpr h1)
  · exact h1
theorem ix_le {x : Int32} (n : Nat) {m : Int32} (hm : m = nI n) (hn : n + 1 < 2 ^ 31) (h : 0 ≤ x ∧ x ≤ m) : ∃ k : Nat, k < n + 1 ∧ x = nI k := by
  subst hm
  rcases pk_ix x hn with h1 | h1 | h1
  · exact absurd h1 (Int32.not_lt.mpr h.1)
  · exact absurd (Int32.le_trans h1 h.2) (Int32.not_le.mpr (nI_lt (by omega) hn))
  · exact h1
theorem lt8 {x : Int32} : x < 8 ↔ x ≤ 7 := by
  rw [Int32.lt_iff_toInt_lt, Int32.le_iff_toInt_le]
  show x.toInt < 8 ↔ x.toInt ≤ 7
  omega
theorem lt4 {x : Int32} : x < 4 ↔ x ≤ 3 := by
  rw [Int32.lt_iff_toInt_lt, Int32.le_iff_toInt_le]
  show x.toInt < 4 ↔ x.toInt ≤ 3
  omega
abbrev okH (x1 x2 x3 x4 x5 : Int32) : Prop := (0 ≤ x1 ∧ x1 < 8) ∧ (0 ≤ x2 ∧ x2 ≤ 2) ∧ (1 ≤ x3 ∧ x3 ≤ 9) ∧ (0 ≤ x4 ∧ x4 ≤ 50) ∧ (1 ≤ x5 ∧ x5 ≤ 50)
abbrev okC (x1 x2 : Int32) : Prop := (0 ≤ x1 ∧ x1 ≤ 3) ∧ (1 ≤ x2 ∧ x2 ≤ 9)
abbrev okF (x1 x2 : Int32) : Prop := (0 ≤ x1 ∧ x1 < 4) ∧ (0 ≤ x2 ∧ x2 ≤ 30)
abbrev okP (x1 x2 : Int32) : Prop := (0 ≤ x1 ∧ x1 < 4) ∧ (0 ≤ x2 ∧ x2 < 8)
abbrev okB (x1 x2 : Int32) : Prop := (0 ≤ x1 ∧ x1 ≤ 1) ∧ (0 ≤ x2 ∧ x2 ≤ 100)
abbrev okR (x1 : Int32) : Prop := 1 ≤ x1 ∧ x1 ≤ 20
def aP (x1 x2 : Int32) : Int32 := if okP x1 x2 then -2 else -1
def aB (x1 x2 : Int32) : Int32 := if okB x1 x2 then (if x1 = 0 then -2 else 1) else -1
def aR (x1 : Int32) : Int32 := if okR x1 then -2 else -1
set_option maxRecDepth 100000 in
set_option maxHeartbeats 4000000 in
theorem C_isThere_0 {D : va_G} {z : Nat} {zs : j_Zs} {ca : Nat → ClassId} (s : k_S) (x : Int32) (hth : ∀ h, h < 8 → s 3 h 0 = 0) : k_F D z zs ca Y_Desk_isThere 1 [.ref (ad z 0 0), .int x] s (some (.int 0)) s := by
  refine k_of [(0, .ref (ad z 0 0)), (1, .int x)] (by decide) (Nat.le_of_ble_eq_true rfl) rfl (fun K X E => ?_)
  refine v_iload_n X d_Desk_isThere_0 rfl ?_
  refine w_fSi X (As := [.int x]) (rest := []) L_Desk_47 d_Desk_isThere_1 (C_isHandler _ _) rfl E (by decide) rfl (Nat.le_of_ble_eq_true rfl) ?_
  refine v_if_eq X 23 d_Desk_isThere_4 (by decide) (fun c4 => ?_) (fun c4 => ?_)
  · refine v_iconst X (v := 0) d_Desk_isThere_23 rfl ?_
    exact w_iret X E d_Desk_isThere_24 rfl (by first | rfl | decide | exact jb_nar) ⟨rfl, rfl⟩
  · obtain ⟨k, hk, rfl⟩ := ix_lt 8 rfl (by decide) (jb_n.mp c4)
    refine v_aload_n X d_Desk_isThere_7 rfl rfl ?_
    refine w_getr X (ix2 := 0) rfl rfl F_Desk_11 d_Desk_isThere_8 rfl (by decide) ?_
    refine v_iload_n X d_Desk_isThere_11 rfl ?_
    refine w_aaldN X (ix2 := k) k rfl rfl rfl d_Desk_isThere_12 rfl (by decide) (show k < 8 by omega) (by decide) ?_
    refine w_geti X rfl rfl F_Desk_235 d_Desk_isThere_13 (show k < 8 by omega) ?_
    refine v_int (y := 0) (hth k hk) ?_
    refine v_if_eq X 23 d_Desk_isThere_16 (by decide) (fun _ => ?_) (fun c16 => absurd (by decide) c16)
    refine v_iconst X (v := 0) d_Desk_isThere_23 rfl ?_
    exact w_iret X E d_Desk_isThere_24 rfl (by first | rfl | decide | exact jb_nar) ⟨rfl, rfl⟩
set_option maxRecDepth 100000 in
set_option maxHeartbeats 4000000 in
theorem C_Handler_layDown {D : va_G} {z : Nat} {zs : j_Zs} {ca : Nat → ClassId} (s : k_S) (h : Nat) (x2 x3 x4 x5 : Int32) (hh : h < 8) : k_F D z zs ca Y_Handler_layDown 0 [.ref (ad z 3 h), .int x2, .int x3, .int x4, .int x5] s none (k_set (k_set (k_set (k_set (k_set (k_set (k_set (k_set (k_set s 3 h 0 1) 3 h 1 x2) 3 h 2 x3) 3 h 3 x4) 3 h 4 x5) 3 h 5 0) 3 h 6 (-1)) 3 h 7 20) 3 h 8 0) := by
  refine k_of [(0, .ref (ad z 3 h)), (1, .int x2), (2, .int x3), (3, .int x4), (4, .int x5)] (by decide) (Nat.le_of_ble_eq_true rfl) rfl (fun K X E => ?_)
  refine v_aload_n X d_Handler_layDown_0 rfl rfl ?_
  refine v_iconst X (v := 1) d_Handler_layDown_1 rfl ?_
  refine w_put X rfl rfl P_Handler_30 d_Handler_layDown_2 rfl rfl (show h < 8 by omega) ?_
  refine v_aload_n X d_Handler_layDown_5 rfl rfl ?_
  refine v_iload_n X d_Handler_layDown_6 rfl ?_
  refine w_put X rfl rfl P_Handler_34 d_Handler_layDown_7 rfl rfl (show h < 8 by omega) ?_
  refine v_aload_n X d_Handler_layDown_10 rfl rfl ?_
  refine v_iload_n X d_Handler_layDown_11 rfl ?_
  refine w_put X rfl rfl P_Handler_38 d_Handler_layDown_12 rfl rfl (show h < 8 by omega) ?_
  refine v_aload_n X d_Handler_layDown_15 rfl rfl ?_
  refine v_iload_n X d_Handler_layDown_16 rfl ?_
  refine w_put X rfl rfl P_Handler_41 d_Handler_layDown_17 rfl rfl (show h < 8 by omega) ?_
  refine v_aload_n X d_Handler_layDown_20 rfl rfl ?_
  refine v_iload X d_Handler_layDown_21 rfl ?_
  refine w_put X rfl rfl P_Handler_44 d_Handler_layDown_23 rfl rfl (show h < 8 by omega) ?_
  refine v_aload_n X d_Handler_layDown_26 rfl rfl ?_
  refine v_iconst X (v := 0) d_Handler_layDown_27 rfl ?_
  refine w_put X rfl rfl P_Handler_47 d_Handler_layDown_28 rfl rfl (show h < 8 by omega) ?_
  refine v_aload_n X d_Handler_layDown_31 rfl rfl ?_
  refine v_iconst X (v := -1) d_Handler_layDown_32 rfl ?_
  refine w_put X rfl rfl P_Handler_50 d_Handler_layDown_33 rfl rfl (show h < 8 by omega) ?_
  refine v_aload_n X d_Handler_layDown_36 rfl rfl ?_
  refine v_bipush X (v := 20) d_Handler_layDown_37 rfl ?_
  refine w_put X rfl rfl P_Handler_53 d_Handler_layDown_39 rfl rfl (show h < 8 by omega) ?_
  refine v_aload_n X d_Handler_layDown_42 rfl rfl ?_
  refine v_iconst X (v := 0) d_Handler_layDown_43 rfl ?_
  refine w_put X rfl rfl P_Handler_56 d_Handler_layDown_44 rfl rfl (show h < 8 by omega) ?_
  exact w_vret X E d_Handler_layDown_47 rfl ⟨rfl, rfl⟩
set_option maxRecDepth 100000 in
set_option maxHeartbeats 4000000 in
theorem P_handler {D : va_G} {z : Nat} {zs : j_Zs} {ca : Nat → ClassId} (s : k_S) (x1 x2 x3 x4 x5 : Int32) (hp : s 0 0 5 = 0) : k_C D z zs ca Y_Desk_handler 2 [.ref (ad z 0 0), .int x1, .int x2, .int x3, .int x4, .int x5] s (fun r s' => r = some (.int (jb (okH x1 x2 x3 x4 x5))) ∧ k_same s s') := by
  refine k_of [(0, .ref (ad z 0 0)), (1, .int x1), (2, .int x2), (3, .int x3), (4, .int x4), (5, .int x5)] (by decide) (Nat.le_of_ble_eq_true rfl) rfl (fun K X E => ?_)
  refine v_iload_n X d_Desk_handler_0 rfl ?_
  refine w_fSi X (As := [.int x1]) (rest := []) L_Desk_47 d_Desk_handler_1 (C_isHandler _ _) rfl E (by decide) rfl (Nat.le_of_ble_eq_true rfl) ?_
  refine v_if_eq X 55 d_Desk_handler_4 (by decide) (fun c4 => ?_) (fun c4 => ?_)
  · refine v_iconst X (v := 0) d_Desk_handler_55 rfl ?_
    exact w_iret X E d_Desk_handler_56 rfl (by first | rfl | decide | exact jb_nar) ⟨by rw [jb_f (fun h => jb_0.mp c4 h.1)], (by repeat (first | exact k_same_refl | refine k_same_set ?_ (by decide)))⟩
  · obtain ⟨k, hk, rfl⟩ := ix_lt 8 rfl (by decide) (jb_n.mp c4)
    refine v_iload_n X d_Desk_handler_7 rfl ?_
    refine v_iconst X (v := 0) d_Desk_handler_8 rfl ?_
    refine v_iconst X (v := 2) d_Desk_handler_9 rfl ?_
    refine w_fSi X (As := [.int x2, .int 0, .int 2]) (rest := []) L_Desk_51 d_Desk_handler_10 (C_within _ _ _ _) rfl E (by decide) rfl (Nat.le_of_ble_eq_true rfl) ?_
    refine v_if_eq X 55 d_Desk_handler_13 (by decide) (fun c13 => ?_) (fun c13 => ?_)
    · refine v_iconst X (v := 0) d_Desk_handler_55 rfl ?_
      exact w_iret X E d_Desk_handler_56 rfl (by first | rfl | decide | exact jb_nar) ⟨by rw [jb_f (fun h => jb_0.mp c13 h.2.1)], (by repeat (first | exact k_same_refl | refine k_same_set ?_ (by decide)))⟩
    · refine v_iload_n X d_Desk_handler_16 rfl ?_
      refine v_iconst X (v := 1) d_Desk_handler_17 rfl ?_
      refine v_bipush X (v := 9) d_Desk_handler_18 rfl ?_
      refine w_fSi X (As := [.int x3, .int 1, .int 9]) (rest := []) L_Desk_51 d_Desk_handler_20 (C_within _ _ _ _) rfl E (by decide) rfl (Nat.le_of_ble_eq_true rfl) ?_
      refine v_if_eq X 55 d_Desk_handler_23 (by decide) (fun c23 => ?_) (fun c23 => ?_)
      · refine v_iconst X (v := 0) d_Desk_handler_55 rfl ?_
        exact w_iret X E d_Desk_handler_56 rfl (by first | rfl | decide | exact jb_nar) ⟨by rw [jb_f (fun h => jb_0.mp c23 h.2.2.1)], (by repeat (first | exact k_same_refl | refine k_same_set ?_ (by decide)))⟩
      · refine v_iload X d_Desk_handler_26 rfl ?_
        refine v_iconst X (v := 0) d_Desk_handler_28 rfl ?_
        refine v_bipush X (v := 50) d_Desk_handler_29 rfl ?_
        refine w_fSi X (As := [.int x4, .int 0, .int 50]) (rest := []) L_Desk_51 d_Desk_handler_31 (C_within _ _ _ _) rfl E (by decide) rfl (Nat.le_of_ble_eq_true rfl) ?_
        refine v_if_eq X 55 d_Desk_handler_34 (by decide) (fun c34 => ?_) (fun c34 => ?_)
        · refine v_iconst X (v := 0) d_Desk_handler_55 rfl ?_
          exact w_iret X E d_Desk_handler_56 rfl (by first | rfl | decide | exact jb_nar) ⟨by rw [jb_f (fun h => jb_0.mp c34 h.2.2.2.1)], (by repeat (first | exact k_same_refl | refine k_same_set ?_ (by decide)))⟩
        · refine v_iload X d_Desk_handler_37 rfl ?_
          refine v_iconst X (v := 1) d_Desk_handler_39 rfl ?_
          refine v_bipush X (v := 50) d_Desk_handler_40 rfl ?_
          refine w_fSi X (As := [.int x5, .int 1, .int 50]) (rest := []) L_Desk_51 d_Desk_handler_42 (C_within _ _ _ _) rfl E (by decide) rfl (Nat.le_of_ble_eq_true rfl) ?_
          refine v_if_eq X 55 d_Desk_handler_45 (by decide) (fun c45 => ?_) (fun c45 => ?_)
          · refine v_iconst X (v := 0) d_Desk_handler_55 rfl ?_
            exact w_iret X E d_Desk_handler_56 rfl (by first | rfl | decide | exact jb_nar) ⟨by rw [jb_f (fun h => jb_0.mp c45 h.2.2.2.2)], (by repeat (first | exact k_same_refl | refine k_same_set ?_ (by decide)))⟩
          · refine v_aload_n X d_Desk_handler_48 rfl rfl ?_
            refine w_geti X rfl rfl F_Desk_43 d_Desk_handler_49 (by decide) ?_
            refine v_if_eq X 57 d_Desk_handler_52 (by decide) (fun _ => ?_) (fun c52 => absurd hp c52)
            refine v_aload_n X d_Desk_handler_57 rfl rfl ?_
            refine w_getr X (ix2 := 0) rfl rfl F_Desk_11 d_Desk_handler_58 rfl (by decide) ?_
            refine v_iload_n X d_Desk_handler_61 rfl ?_
            refine w_aaldN X (ix2 := k) k rfl rfl rfl d_Desk_handler_62 rfl (by decide) (show k < 8 by omega) (by decide) ?_
            refine v_iload_n X d_Desk_handler_63 rfl ?_
            refine v_iload_n X d_Desk_handler_64 rfl ?_
            refine v_iload X d_Desk_handler_65 rfl ?_
            refine v_iload X d_Desk_handler_67 rfl ?_
            refine w_fVv X (As := [.int x2, .int x3, .int x4, .int x5]) (rest := []) rfl rfl L_Desk_55 d_Desk_handler_69 (show k < 8 by omega) (C_Handler_layDown s k x2 x3 x4 x5 hk) rfl E (by decide) rfl (Nat.le_of_ble_eq_true rfl) ?_
            refine v_iconst X (v := 1) d_Desk_handler_72 rfl ?_
            exact w_iret X E d_Desk_handler_73 rfl (by first | rfl | decide | exact jb_nar) ⟨by rw [jb_t ⟨jb_n.mp c4, jb_n.mp c13, jb_n.mp c23, jb_n.mp c34, jb_n.mp c45⟩], (by repeat (first | exact k_same_refl | refine k_same_set ?_ (by decide)))⟩
set_option maxRecDepth 100000 in
set_option maxHeartbeats 4000000 in
theorem P_limit {D : va_G} {z : Nat} {zs : j_Zs} {ca : Nat → ClassId} (s : k_S) (x1 x2 x3 x4 : Int32) (hth : ∀ h, h < 8 → s 3 h 0 = 0) : k_C D z zs ca Y_Desk_limit 2 [.ref (ad z 0 0), .int x1, .int x2, .int x3, .int x4] s (fun r s' => r = some (.int 0) ∧ k_same s s') := by
  refine k_of [(0, .ref (ad z 0 0)), (1, .int x1), (2, .int x2), (3, .int x3), (4, .int x4)] (by decide) (Nat.le_of_ble_eq_true rfl) rfl (fun K X E => ?_)
  refine v_aload_n X d_Desk_limit_0 rfl rfl ?_
  refine v_iload_n X d_Desk_limit_1 rfl ?_
  refine w_fVi X (As := [.int x1]) (rest := []) rfl rfl L_Desk_59 d_Desk_limit_2 (by decide) (C_isThere_0 s x1 hth) rfl E (by decide) rfl (Nat.le_of_ble_eq_true rfl) ?_
  refine v_if_eq X 46 d_Desk_limit_5 (by decide) (fun _ => ?_) (fun c5 => absurd (by decide) c5)
  refine v_iconst X (v := 0) d_Desk_limit_46 rfl ?_
  exact w_iret X E d_Desk_limit_47 rfl (by first | rfl | decide | exact jb_nar) ⟨rfl, k_same_refl⟩
set_option maxRecDepth 100000 in
set_option maxHeartbeats 4000000 in
theorem P_step {D : va_G} {z : Nat} {zs : j_Zs} {ca : Nat → ClassId} (s : k_S) (x1 x2 x3 : Int32) (hth : ∀ h, h < 8 → s 3 h 0 = 0) : k_C D z zs ca Y_Desk_step 2 [.ref (ad z 0 0), .int x1, .int x2, .int x3] s (fun r s' => r = some (.int (-1)) ∧ k_same s s') := by
  refine k_of [(0, .ref (ad z 0 0)), (1, .int x1), (2, .int x2), (3, .int x3)] (by decide) (Nat.le_of_ble_eq_true rfl) rfl (fun K X E => ?_)
  refine v_aload_n X d_Desk_step_0 rfl rfl ?_
  refine v_iload_n X d_Desk_step_1 rfl ?_
  refine w_fVi X (As := [.int x1]) (rest := []) rfl rfl L_Desk_59 d_Desk_step_2 (by decide) (C_isThere_0 s x1 hth) rfl E (by decide) rfl (Nat.le_of_ble_eq_true rfl) ?_
  refine v_if_eq X 16 d_Desk_step_5 (by decide) (fun _ => ?_) (fun c5 => absurd (by decide) c5)
  refine v_iconst X (v := -1) d_Desk_step_16 rfl ?_
  exact w_iret X E d_Desk_step_17 rfl rfl ⟨rfl, k_same_refl⟩
set_option maxRecDepth 100000 in
set_option maxHeartbeats 4000000 in
theorem P_call {D : va_G} {z : Nat} {zs : j_Zs} {ca : Nat → ClassId} (s : k_S) (x1 : Int32) (hth : ∀ h, h < 8 → s 3 h 0 = 0) : k_C D z zs ca Y_Desk_call 2 [.ref (ad z 0 0), .int x1] s (fun r s' => r = some (.int (-1)) ∧ k_same s s') := by
  refine k_of [(0, .ref (ad z 0 0)), (1, .int x1)] (by decide) (Nat.le_of_ble_eq_true rfl) rfl (fun K X E => ?_)
  refine v_aload_n X d_Desk_call_0 rfl rfl ?_
  refine v_iload_n X d_Desk_call_1 rfl ?_
  refine w_fVi X (As := [.int x1]) (rest := []) rfl rfl L_Desk_59 d_Desk_call_2 (by decide) (C_isThere_0 s x1 hth) rfl E (by decide) rfl (Nat.le_of_ble_eq_true rfl) ?_
  refine v_if_eq X 21 d_Desk_call_5 (by decide) (fun _ => ?_) (fun c5 => absurd (by decide) c5)
  refine v_iconst X (v := -1) d_Desk_call_21 rfl ?_
  exact w_iret X E d_Desk_call_22 rfl rfl ⟨rfl, k_same_refl⟩
set_option maxRecDepth 100000 in
set_option maxHeartbeats 4000000 in
theorem P_of {D : va_G} {z : Nat} {zs : j_Zs} {ca : Nat → ClassId} (s : k_S) (x1 x2 : Int32) (hth : ∀ h, h < 8 → s 3 h 0 = 0) : k_C D z zs ca Y_Desk_of 2 [.ref (ad z 0 0), .int x1, .int x2] s (fun r s' => r = some (.int (-1)) ∧ k_same s s') := by
  refine k_of [(0, .ref (ad z 0 0)), (1, .int x1), (2, .int x2)] (by decide) (Nat.le_of_ble_eq_true rfl) rfl (fun K X E => ?_)
  refine v_aload_n X d_Desk_of_0 rfl rfl ?_
  refine v_iload_n X d_Desk_of_1 rfl ?_
  refine w_fVi X (As := [.int x1]) (rest := []) rfl rfl L_Desk_59 d_Desk_of_2 (by decide) (C_isThere_0 s x1 hth) rfl E (by decide) rfl (Nat.le_of_ble_eq_true rfl) ?_
  refine v_if_eq X 18 d_Desk_of_5 (by decide) (fun _ => ?_) (fun c5 => absurd (by decide) c5)
  refine v_iconst X (v := -1) d_Desk_of_18 rfl ?_
  exact w_iret X E d_Desk_of_19 rfl rfl ⟨rfl, k_same_refl⟩
set_option maxRecDepth 100000 in
set_option maxHeartbeats 4000000 in
theorem P_memory {D : va_G} {z : Nat} {zs : j_Zs} {ca : Nat → ClassId} (s : k_S) (x1 x2 : Int32) (hth : ∀ h, h < 8 → s 3 h 0 = 0) : k_C D z zs ca Y_Desk_memory 2 [.ref (ad z 0 0), .int x1, .int x2] s (fun r s' => r = some (.int (-1)) ∧ k_same s s') := by
  refine k_of [(0, .ref (ad z 0 0)), (1, .int x1), (2, .int x2)] (by decide) (Nat.le_of_ble_eq_true rfl) rfl (fun K X E => ?_)
  refine v_aload_n X d_Desk_memory_0 rfl rfl ?_
  refine v_iload_n X d_Desk_memory_1 rfl ?_
  refine w_fVi X (As := [.int x1]) (rest := []) rfl rfl L_Desk_59 d_Desk_memory_2 (by decide) (C_isThere_0 s x1 hth) rfl E (by decide) rfl (Nat.le_of_ble_eq_true rfl) ?_
  refine v_if_eq X 17 d_Desk_memory_5 (by decide) (fun _ => ?_) (fun c5 => absurd (by decide) c5)
  refine v_iconst X (v := -1) d_Desk_memory_17 rfl ?_
  exact w_iret X E d_Desk_memory_18 rfl rfl ⟨rfl, k_same_refl⟩
set_option maxRecDepth 100000 in
set_option maxHeartbeats 4000000 in
theorem P_ceiling {D : va_G} {z : Nat} {zs : j_Zs} {ca : Nat → ClassId} (s : k_S) (x1 x2 : Int32) (hp : s 0 0 5 = 0) : k_C D z zs ca Y_Desk_ceiling 1 [.ref (ad z 0 0), .int x1, .int x2] s (fun r s' => r = some (.int (jb (okC x1 x2))) ∧ k_same s s') := by
  refine k_of [(0, .ref (ad z 0 0)), (1, .int x1), (2, .int x2)] (by decide) (Nat.le_of_ble_eq_true rfl) rfl (fun K X E => ?_)
  refine v_iload_n X d_Desk_ceiling_0 rfl ?_
  refine v_iconst X (v := 0) d_Desk_ceiling_1 rfl ?_
  refine v_iconst X (v := 3) d_Desk_ceiling_2 rfl ?_
  refine w_fSi X (As := [.int x1, .int 0, .int 3]) (rest := []) L_Desk_51 d_Desk_ceiling_3 (C_within _ _ _ _) rfl E (by decide) rfl (Nat.le_of_ble_eq_true rfl) ?_
  refine v_if_eq X 26 d_Desk_ceiling_6 (by decide) (fun c6 => ?_) (fun c6 => ?_)
  · refine v_iconst X (v := 0) d_Desk_ceiling_26 rfl ?_
    exact w_iret X E d_Desk_ceiling_27 rfl (by first | rfl | decide | exact jb_nar) ⟨by rw [jb_f (fun h => jb_0.mp c6 h.1)], (by repeat (first | exact k_same_refl | refine k_same_set ?_ (by decide)))⟩
  · obtain ⟨k, hk, rfl⟩ := ix_le 3 rfl (by decide) (jb_n.mp c6)
    refine v_iload_n X d_Desk_ceiling_9 rfl ?_
    refine v_iconst X (v := 1) d_Desk_ceiling_10 rfl ?_
    refine v_bipush X (v := 9) d_Desk_ceiling_11 rfl ?_
    refine w_fSi X (As := [.int x2, .int 1, .int 9]) (rest := []) L_Desk_51 d_Desk_ceiling_13 (C_within _ _ _ _) rfl E (by decide) rfl (Nat.le_of_ble_eq_true rfl) ?_
    refine v_if_eq X 26 d_Desk_ceiling_16 (by decide) (fun c16 => ?_) (fun c16 => ?_)
    · refine v_iconst X (v := 0) d_Desk_ceiling_26 rfl ?_
      exact w_iret X E d_Desk_ceiling_27 rfl (by first | rfl | decide | exact jb_nar) ⟨by rw [jb_f (fun h => jb_0.mp c16 h.2)], (by repeat (first | exact k_same_refl | refine k_same_set ?_ (by decide)))⟩
    · refine v_aload_n X d_Desk_ceiling_19 rfl rfl ?_
      refine w_geti X rfl rfl F_Desk_43 d_Desk_ceiling_20 (by decide) ?_
      refine v_if_eq X 28 d_Desk_ceiling_23 (by decide) (fun _ => ?_) (fun c23 => absurd hp c23)
      refine v_aload_n X d_Desk_ceiling_28 rfl rfl ?_
      refine w_getr X (ix2 := 0) rfl rfl F_Desk_18 d_Desk_ceiling_29 rfl (by decide) ?_
      refine v_iload_n X d_Desk_ceiling_32 rfl ?_
      refine v_iload_n X d_Desk_ceiling_33 rfl ?_
      refine w_iastN X k rfl rfl d_Desk_ceiling_34 (by decide) (show k < 4 by omega) (by decide) ?_
      refine v_iconst X (v := 1) d_Desk_ceiling_35 rfl ?_
      exact w_iret X E d_Desk_ceiling_36 rfl (by first | rfl | decide | exact jb_nar) ⟨by rw [jb_t ⟨jb_n.mp c6, jb_n.mp c16⟩], (by repeat (first | exact k_same_refl | refine k_same_set ?_ (by decide)))⟩
set_option maxRecDepth 100000 in
set_option maxHeartbeats 4000000 in
theorem P_frame {D : va_G} {z : Nat} {zs : j_Zs} {ca : Nat → ClassId} (s : k_S) (x1 x2 : Int32) (hp : s 0 0 5 = 0) : k_C D z zs ca Y_Desk_frame 1 [.ref (ad z 0 0), .int x1, .int x2] s (fun r s' => r = some (.int (jb (okF x1 x2))) ∧ k_same s s') := by
  refine k_of [(0, .ref (ad z 0 0)), (1, .int x1), (2, .int x2)] (by decide) (Nat.le_of_ble_eq_true rfl) rfl (fun K X E => ?_)
  refine v_iload_n X d_Desk_frame_0 rfl ?_
  refine w_fSi X (As := [.int x1]) (rest := []) L_Desk_79 d_Desk_frame_1 (C_isFrame _ _) rfl E (by decide) rfl (Nat.le_of_ble_eq_true rfl) ?_
  refine v_if_eq X 24 d_Desk_frame_4 (by decide) (fun c4 => ?_) (fun c4 => ?_)
  · refine v_iconst X (v := 0) d_Desk_frame_24 rfl ?_
    exact w_iret X E d_Desk_frame_25 rfl (by first | rfl | decide | exact jb_nar) ⟨by rw [jb_f (fun h => jb_0.mp c4 h.1)], (by repeat (first | exact k_same_refl | refine k_same_set ?_ (by decide)))⟩
  · obtain ⟨k, hk, rfl⟩ := ix_lt 4 rfl (by decide) (jb_n.mp c4)
    refine v_iload_n X d_Desk_frame_7 rfl ?_
    refine v_iconst X (v := 0) d_Desk_frame_8 rfl ?_
    refine v_bipush X (v := 30) d_Desk_frame_9 rfl ?_
    refine w_fSi X (As := [.int x2, .int 0, .int 30]) (rest := []) L_Desk_51 d_Desk_frame_11 (C_within _ _ _ _) rfl E (by decide) rfl (Nat.le_of_ble_eq_true rfl) ?_
    refine v_if_eq X 24 d_Desk_frame_14 (by decide) (fun c14 => ?_) (fun c14 => ?_)
    · refine v_iconst X (v := 0) d_Desk_frame_24 rfl ?_
      exact w_iret X E d_Desk_frame_25 rfl (by first | rfl | decide | exact jb_nar) ⟨by rw [jb_f (fun h => jb_0.mp c14 h.2)], (by repeat (first | exact k_same_refl | refine k_same_set ?_ (by decide)))⟩
    · refine v_aload_n X d_Desk_frame_17 rfl rfl ?_
      refine w_geti X rfl rfl F_Desk_43 d_Desk_frame_18 (by decide) ?_
      refine v_if_eq X 26 d_Desk_frame_21 (by decide) (fun _ => ?_) (fun c21 => absurd hp c21)
      refine v_aload_n X d_Desk_frame_26 rfl rfl ?_
      refine w_getr X (ix2 := 0) rfl rfl F_Desk_25 d_Desk_frame_27 rfl (by decide) ?_
      refine w_getr X (ix2 := 0) rfl rfl F_Desk_82 d_Desk_frame_30 rfl (by decide) ?_
      refine v_iload_n X d_Desk_frame_33 rfl ?_
      refine w_aaldN X (ix2 := k) k rfl rfl rfl d_Desk_frame_34 rfl (by decide) (show k < 4 by omega) (by decide) ?_
      refine v_iload_n X d_Desk_frame_35 rfl ?_
      refine w_fVv X (As := [.int x2]) (rest := []) rfl rfl L_Desk_86 d_Desk_frame_36 (show k < 4 by omega) (C_Frame_layDown s k x2 hk) rfl E (by decide) rfl (Nat.le_of_ble_eq_true rfl) ?_
      refine v_iconst X (v := 1) d_Desk_frame_39 rfl ?_
      exact w_iret X E d_Desk_frame_40 rfl (by first | rfl | decide | exact jb_nar) ⟨by rw [jb_t ⟨jb_n.mp c4, jb_n.mp c14⟩], (by repeat (first | exact k_same_refl | refine k_same_set ?_ (by decide)))⟩
set_option maxRecDepth 100000 in
set_option maxHeartbeats 4000000 in
theorem P_place {D : va_G} {z : Nat} {zs : j_Zs} {ca : Nat → ClassId} (s : k_S) (x1 x2 : Int32) (hfr : ∀ f, f < 4 → s 19 f 0 = 0) : k_C D z zs ca Y_Desk_place 1 [.ref (ad z 0 0), .int x1, .int x2] s (fun r s' => r = some (.int (aP x1 x2)) ∧ k_same s s') := by
  refine k_of [(0, .ref (ad z 0 0)), (1, .int x1), (2, .int x2)] (by decide) (Nat.le_of_ble_eq_true rfl) rfl (fun K X E => ?_)
  refine v_iload_n X d_Desk_place_0 rfl ?_
  refine w_fSi X (As := [.int x1]) (rest := []) L_Desk_79 d_Desk_place_1 (C_isFrame _ _) rfl E (by decide) rfl (Nat.le_of_ble_eq_true rfl) ?_
  refine v_if_eq X 14 d_Desk_place_4 (by decide) (fun c4 => ?_) (fun c4 => ?_)
  · refine v_iconst X (v := -1) d_Desk_place_14 rfl ?_
    exact w_iret X E d_Desk_place_15 rfl rfl ⟨by rw [aP, if_neg (fun h => jb_0.mp c4 h.1)], (by repeat (first | exact k_same_refl | refine k_same_set ?_ (by decide)))⟩
  · obtain ⟨k, hk, rfl⟩ := ix_lt 4 rfl (by decide) (jb_n.mp c4)
    refine v_iload_n X d_Desk_place_7 rfl ?_
    refine w_fSi X (As := [.int x2]) (rest := []) L_Desk_47 d_Desk_place_8 (C_isHandler _ _) rfl E (by decide) rfl (Nat.le_of_ble_eq_true rfl) ?_
    refine v_if_ne X 16 d_Desk_place_11 (by decide) (fun c11 => ?_) (fun c11 => ?_)
    · refine v_aload_n X d_Desk_place_16 rfl rfl ?_
      refine w_getr X (ix2 := 0) rfl rfl F_Desk_25 d_Desk_place_17 rfl (by decide) ?_
      refine w_getr X (ix2 := 0) rfl rfl F_Desk_82 d_Desk_place_20 rfl (by decide) ?_
      refine v_iload_n X d_Desk_place_23 rfl ?_
      refine w_aaldN X (ix2 := k) k rfl rfl rfl d_Desk_place_24 rfl (by decide) (show k < 4 by omega) (by decide) ?_
      refine w_fVi X (As := []) (rest := []) rfl rfl L_Desk_90 d_Desk_place_25 (show k < 4 by omega) (by have h := C_Frame_isThere (D := D) (z := z) (zs := zs) (ca := ca) s k hk; rw [jb_f (by rw [hfr k hk]; decide)] at h; exact h) rfl E (by decide) rfl (Nat.le_of_ble_eq_true rfl) ?_
      refine v_if_eq X 38 d_Desk_place_28 (by decide) (fun _ => ?_) (fun c28 => absurd (by decide) c28)
      refine v_bipush X (v := -2) d_Desk_place_38 rfl ?_
      exact w_iret X E d_Desk_place_40 rfl rfl ⟨by rw [aP, if_pos ⟨jb_n.mp c4, jb_n.mp c11⟩], (by repeat (first | exact k_same_refl | refine k_same_set ?_ (by decide)))⟩
    · refine v_iconst X (v := -1) d_Desk_place_14 rfl ?_
      exact w_iret X E d_Desk_place_15 rfl rfl ⟨by rw [aP, if_neg (fun h => jb_0.mp c11 h.2)], (by repeat (first | exact k_same_refl | refine k_same_set ?_ (by decide)))⟩
set_option maxRecDepth 100000 in
set_option maxHeartbeats 4000000 in
theorem P_run {D : va_G} {z : Nat} {zs : j_Zs} {ca : Nat → ClassId} (s : k_S) (x1 : Int32) (hp : s 0 0 5 = 0) : k_C D z zs ca Y_Desk_run 1 [.ref (ad z 0 0), .int x1] s (fun r s' => r = some (.int (aR x1)) ∧ k_same s s') := by
  refine k_of [(0, .ref (ad z 0 0)), (1, .int x1)] (by decide) (Nat.le_of_ble_eq_true rfl) rfl (fun K X E => ?_)
  refine v_iload_n X d_Desk_run_0 rfl ?_
  refine v_iconst X (v := 1) d_Desk_run_1 rfl ?_
  refine v_bipush X (v := 20) d_Desk_run_2 rfl ?_
  refine w_fSi X (As := [.int x1, .int 1, .int 20]) (rest := []) L_Desk_51 d_Desk_run_4 (C_within _ _ _ _) rfl E (by decide) rfl (Nat.le_of_ble_eq_true rfl) ?_
  refine v_if_ne X 12 d_Desk_run_7 (by decide) (fun c7 => ?_) (fun c7 => ?_)
  · refine v_aload_n X d_Desk_run_12 rfl rfl ?_
    refine w_geti X rfl rfl F_Desk_43 d_Desk_run_13 (by decide) ?_
    refine v_if_ne X 22 d_Desk_run_16 (by decide) (fun c16 => absurd hp c16) (fun _ => ?_)
    refine v_bipush X (v := -2) d_Desk_run_19 rfl ?_
    exact w_iret X E d_Desk_run_21 rfl rfl ⟨by rw [aR, if_pos (jb_n.mp c7)], (by repeat (first | exact k_same_refl | refine k_same_set ?_ (by decide)))⟩
  · refine v_iconst X (v := -1) d_Desk_run_10 rfl ?_
    exact w_iret X E d_Desk_run_11 rfl rfl ⟨by rw [aR, if_neg (fun h => jb_0.mp c7 h)], (by repeat (first | exact k_same_refl | refine k_same_set ?_ (by decide)))⟩
set_option maxRecDepth 100000 in
set_option maxHeartbeats 4000000 in
theorem P_stop {D : va_G} {z : Nat} {zs : j_Zs} {ca : Nat → ClassId} (s : k_S) (hp : s 0 0 5 = 0) : k_C D z zs ca Y_Desk_stop 1 [.ref (ad z 0 0)] s (fun r s' => r = some (.int 0) ∧ k_same s s') := by
  refine k_of [(0, .ref (ad z 0 0))] (by decide) (Nat.le_of_ble_eq_true rfl) rfl (fun K X E => ?_)
  refine v_aload_n X d_Desk_stop_0 rfl rfl ?_
  refine w_geti X rfl rfl F_Desk_43 d_Desk_stop_1 (by decide) ?_
  refine v_int (y := 0) hp ?_
  refine v_iconst X (v := 1) d_Desk_stop_4 rfl ?_
  refine v_icmp_eq X 10 d_Desk_stop_5 (by decide) (fun c5 => absurd c5 (by decide)) (fun _ => ?_)
  refine v_iconst X (v := 0) d_Desk_stop_8 rfl ?_
  exact w_iret X E d_Desk_stop_9 rfl (by first | rfl | decide | exact jb_nar) ⟨rfl, k_same_refl⟩
set_option maxRecDepth 100000 in
set_option maxHeartbeats 4000000 in
theorem C_Journal_latest_0 {D : va_G} {z : Nat} {zs : j_Zs} {ca : Nat → ClassId} (s : k_S) (x : Int32) (hj : s 22 0 1 = 0) : k_F D z zs ca Y_Journal_latest 0 [.ref (ad z 22 0), .int x] s (some (.int (-2))) s := by
  refine k_of [(0, .ref (ad z 22 0)), (1, .int x)] (by decide) (Nat.le_of_ble_eq_true rfl) rfl (fun K X E => ?_)
  refine v_iload_n X d_Journal_latest_0 rfl ?_
  refine v_if_lt X 18 d_Journal_latest_1 (by decide) (fun c1 => ?_) (fun c1 => ?_)
  · refine v_bipush X (v := -2) d_Journal_latest_18 rfl ?_
    exact w_iret X E d_Journal_latest_20 rfl rfl ⟨rfl, rfl⟩
  · refine v_iload_n X d_Journal_latest_4 rfl ?_
    refine v_bipush X (v := 32) d_Journal_latest_5 rfl ?_
    refine v_icmp_ge X 18 d_Journal_latest_7 (by decide) (fun c7 => ?_) (fun c7 => ?_)
    · refine v_bipush X (v := -2) d_Journal_latest_18 rfl ?_
      exact w_iret X E d_Journal_latest_20 rfl rfl ⟨rfl, rfl⟩
    · refine v_iload_n X d_Journal_latest_10 rfl ?_
      refine v_aload_n X d_Journal_latest_11 rfl rfl ?_
      refine w_geti X rfl rfl F_Journal_15 d_Journal_latest_12 (by decide) ?_
      refine v_int (y := 0) hj ?_
      refine v_icmp_lt X 21 d_Journal_latest_15 (by decide) (fun c15 => absurd c15 c1) (fun _ => ?_)
      refine v_bipush X (v := -2) d_Journal_latest_18 rfl ?_
      exact w_iret X E d_Journal_latest_20 rfl rfl ⟨rfl, rfl⟩
set_option maxRecDepth 100000 in
set_option maxHeartbeats 4000000 in
theorem P_event {D : va_G} {z : Nat} {zs : j_Zs} {ca : Nat → ClassId} (s : k_S) (x1 : Int32) (hj : s 22 0 1 = 0) : k_C D z zs ca Y_Desk_event 1 [.ref (ad z 0 0), .int x1] s (fun r s' => r = some (.int (-2)) ∧ k_same s s') := by
  refine k_of [(0, .ref (ad z 0 0)), (1, .int x1)] (by decide) (Nat.le_of_ble_eq_true rfl) rfl (fun K X E => ?_)
  refine v_aload_n X d_Desk_event_0 rfl rfl ?_
  refine w_getr X (ix2 := 0) rfl rfl F_Desk_39 d_Desk_event_1 rfl (by decide) ?_
  refine v_iload_n X d_Desk_event_4 rfl ?_
  refine w_fVi X (As := [.int x1]) (rest := []) rfl rfl L_Desk_227 d_Desk_event_5 (by decide) (C_Journal_latest_0 s x1 hj) rfl E (by decide) rfl (Nat.le_of_ble_eq_true rfl) ?_
  exact w_iret X E d_Desk_event_8 rfl rfl ⟨rfl, k_same_refl⟩
set_option maxRecDepth 100000 in
set_option maxHeartbeats 4000000 in
theorem C_chosenHandler_0 {D : va_G} {z : Nat} {zs : j_Zs} {ca : Nat → ClassId} (s : k_S) (hsz : ∀ h, h < 8 → s 7 h 2 = 0) : k_F D z zs ca Y_Desk_chosenHandler 1 [.ref (ad z 0 0)] s (some (.int (-2))) s := by
  refine k_of [(0, .ref (ad z 0 0))] (by decide) (Nat.le_of_ble_eq_true rfl) rfl (fun K X E => ?_)
  refine v_bipush X (v := -2) d_Desk_chosenHandler_0 rfl ?_
  refine v_istore_n X [(1, .int (-2)), (0, .ref (ad z 0 0))] d_Desk_chosenHandler_2 (by decide) rfl ?_
  refine v_iconst X (v := 0) d_Desk_chosenHandler_3 rfl ?_
  refine v_istore_n X [(2, .int 0), (1, .int (-2)), (0, .ref (ad z 0 0))] d_Desk_chosenHandler_4 (by decide) rfl ?_
  refine v_iload_n X d_Desk_chosenHandler_5 rfl ?_
  refine v_bipush X (v := 8) d_Desk_chosenHandler_6 rfl ?_
  refine v_icmp_ge X 59 d_Desk_chosenHandler_8 (by decide) (fun c8 => absurd c8 (by decide)) (fun _ => ?_)
  refine v_aload_n X d_Desk_chosenHandler_11 rfl rfl ?_
  refine w_getr X (ix2 := 0) rfl rfl F_Desk_11 d_Desk_chosenHandler_12 rfl (by decide) ?_
  refine v_iload_n X d_Desk_chosenHandler_15 rfl ?_
  refine w_aaldN X (ix2 := 0) 0 rfl rfl rfl d_Desk_chosenHandler_16 rfl (by decide) (by decide) (by decide) ?_
  refine w_getr X (ix2 := 0) rfl rfl F_Desk_130 d_Desk_chosenHandler_17 rfl (by decide) ?_
  refine w_geti X rfl rfl F_Desk_134 d_Desk_chosenHandler_20 (by decide) ?_
  refine v_int (y := 0) (hsz 0 (by decide)) ?_
  refine v_if_le X 53 d_Desk_chosenHandler_23 (by decide) (fun _ => ?_) (fun c23 => absurd (by decide) c23)
  refine v_iinc X (v := 1) [(2, .int 1), (1, .int (-2)), (0, .ref (ad z 0 0))] d_Desk_chosenHandler_53 rfl (by decide) (by decide) rfl ?_
  refine v_goto X (tgt := 5) d_Desk_chosenHandler_56 (by decide) ?_
  refine v_iload_n X d_Desk_chosenHandler_5 rfl ?_
  refine v_bipush X (v := 8) d_Desk_chosenHandler_6 rfl ?_
  refine v_icmp_ge X 59 d_Desk_chosenHandler_8 (by decide) (fun c8 => absurd c8 (by decide)) (fun _ => ?_)
  refine v_aload_n X d_Desk_chosenHandler_11 rfl rfl ?_
  refine w_getr X (ix2 := 0) rfl rfl F_Desk_11 d_Desk_chosenHandler_12 rfl (by decide) ?_
  refine v_iload_n X d_Desk_chosenHandler_15 rfl ?_
  refine w_aaldN X (ix2 := 1) 1 rfl rfl rfl d_Desk_chosenHandler_16 rfl (by decide) (by decide) (by decide) ?_
  refine w_getr X (ix2 := 1) rfl rfl F_Desk_130 d_Desk_chosenHandler_17 rfl (by decide) ?_
  refine w_geti X rfl rfl F_Desk_134 d_Desk_chosenHandler_20 (by decide) ?_
  refine v_int (y := 0) (hsz 1 (by decide)) ?_
  refine v_if_le X 53 d_Desk_chosenHandler_23 (by decide) (fun _ => ?_) (fun c23 => absurd (by decide) c23)
  refine v_iinc X (v := 2) [(2, .int 2), (1, .int (-2)), (0, .ref (ad z 0 0))] d_Desk_chosenHandler_53 rfl (by decide) (by decide) rfl ?_
  refine v_goto X (tgt := 5) d_Desk_chosenHandler_56 (by decide) ?_
  refine v_iload_n X d_Desk_chosenHandler_5 rfl ?_
  refine v_bipush X (v := 8) d_Desk_chosenHandler_6 rfl ?_
  refine v_icmp_ge X 59 d_Desk_chosenHandler_8 (by decide) (fun c8 => absurd c8 (by decide)) (fun _ => ?_)
  refine v_aload_n X d_Desk_chosenHandler_11 rfl rfl ?_
  refine w_getr X (ix2 := 0) rfl rfl F_Desk_11 d_Desk_chosenHandler_12 rfl (by decide) ?_
  refine v_iload_n X d_Desk_chosenHandler_15 rfl ?_
  refine w_aaldN X (ix2 := 2) 2 rfl rfl rfl d_Desk_chosenHandler_16 rfl (by decide) (by decide) (by decide) ?_
  refine w_getr X (ix2 := 2) rfl rfl F_Desk_130 d_Desk_chosenHandler_17 rfl (by decide) ?_
  refine w_geti X rfl rfl F_Desk_134 d_Desk_chosenHandler_20 (by decide) ?_
  refine v_int (y := 0) (hsz 2 (by decide)) ?_
  refine v_if_le X 53 d_Desk_chosenHandler_23 (by decide) (fun _ => ?_) (fun c23 => absurd (by decide) c23)
  refine v_iinc X (v := 3) [(2, .int 3), (1, .int (-2)), (0, .ref (ad z 0 0))] d_Desk_chosenHandler_53 rfl (by decide) (by decide) rfl ?_
  refine v_goto X (tgt := 5) d_Desk_chosenHandler_56 (by decide) ?_
  refine v_iload_n X d_Desk_chosenHandler_5 rfl ?_
  refine v_bipush X (v := 8) d_Desk_chosenHandler_6 rfl ?_
  refine v_icmp_ge X 59 d_Desk_chosenHandler_8 (by decide) (fun c8 => absurd c8 (by decide)) (fun _ => ?_)
  refine v_aload_n X d_Desk_chosenHandler_11 rfl rfl ?_
  refine w_getr X (ix2 := 0) rfl rfl F_Desk_11 d_Desk_chosenHandler_12 rfl (by decide) ?_
  refine v_iload_n X d_Desk_chosenHandler_15 rfl ?_
  refine w_aaldN X (ix2 := 3) 3 rfl rfl rfl d_Desk_chosenHandler_16 rfl (by decide) (by decide) (by decide) ?_
  refine w_getr X (ix2 := 3) rfl rfl F_Desk_130 d_Desk_chosenHandler_17 rfl (by decide) ?_
  refine w_geti X rfl rfl F_Desk_134 d_Desk_chosenHandler_20 (by decide) ?_
  refine v_int (y := 0) (hsz 3 (by decide)) ?_
  refine v_if_le X 53 d_Desk_chosenHandler_23 (by decide) (fun _ => ?_) (fun c23 => absurd (by decide) c23)
  refine v_iinc X (v := 4) [(2, .int 4), (1, .int (-2)), (0, .ref (ad z 0 0))] d_Desk_chosenHandler_53 rfl (by decide) (by decide) rfl ?_
  refine v_goto X (tgt := 5) d_Desk_chosenHandler_56 (by decide) ?_
  refine v_iload_n X d_Desk_chosenHandler_5 rfl ?_
  refine v_bipush X (v := 8) d_Desk_chosenHandler_6 rfl ?_
  refine v_icmp_ge X 59 d_Desk_chosenHandler_8 (by decide) (fun c8 => absurd c8 (by decide)) (fun _ => ?_)
  refine v_aload_n X d_Desk_chosenHandler_11 rfl rfl ?_
  refine w_getr X (ix2 := 0) rfl rfl F_Desk_11 d_Desk_chosenHandler_12 rfl (by decide) ?_
  refine v_iload_n X d_Desk_chosenHandler_15 rfl ?_
  refine w_aaldN X (ix2 := 4) 4 rfl rfl rfl d_Desk_chosenHandler_16 rfl (by decide) (by decide) (by decide) ?_
  refine w_getr X (ix2 := 4) rfl rfl F_Desk_130 d_Desk_chosenHandler_17 rfl (by decide) ?_
  refine w_geti X rfl rfl F_Desk_134 d_Desk_chosenHandler_20 (by decide) ?_
  refine v_int (y := 0) (hsz 4 (by decide)) ?_
  refine v_if_le X 53 d_Desk_chosenHandler_23 (by decide) (fun _ => ?_) (fun c23 => absurd (by decide) c23)
  refine v_iinc X (v := 5) [(2, .int 5), (1, .int (-2)), (0, .ref (ad z 0 0))] d_Desk_chosenHandler_53 rfl (by decide) (by decide) rfl ?_
  refine v_goto X (tgt := 5) d_Desk_chosenHandler_56 (by decide) ?_
  refine v_iload_n X d_Desk_chosenHandler_5 rfl ?_
  refine v_bipush X (v := 8) d_Desk_chosenHandler_6 rfl ?_
  refine v_icmp_ge X 59 d_Desk_chosenHandler_8 (by decide) (fun c8 => absurd c8 (by decide)) (fun _ => ?_)
  refine v_aload_n X d_Desk_chosenHandler_11 rfl rfl ?_
  refine w_getr X (ix2 := 0) rfl rfl F_Desk_11 d_Desk_chosenHandler_12 rfl (by decide) ?_
  refine v_iload_n X d_Desk_chosenHandler_15 rfl ?_
  refine w_aaldN X (ix2 := 5) 5 rfl rfl rfl d_Desk_chosenHandler_16 rfl (by decide) (by decide) (by decide) ?_
  refine w_getr X (ix2 := 5) rfl rfl F_Desk_130 d_Desk_chosenHandler_17 rfl (by decide) ?_
  refine w_geti X rfl rfl F_Desk_134 d_Desk_chosenHandler_20 (by decide) ?_
  refine v_int (y := 0) (hsz 5 (by decide)) ?_
  refine v_if_le X 53 d_Desk_chosenHandler_23 (by decide) (fun _ => ?_) (fun c23 => absurd (by decide) c23)
  refine v_iinc X (v := 6) [(2, .int 6), (1, .int (-2)), (0, .ref (ad z 0 0))] d_Desk_chosenHandler_53 rfl (by decide) (by decide) rfl ?_
  refine v_goto X (tgt := 5) d_Desk_chosenHandler_56 (by decide) ?_
  refine v_iload_n X d_Desk_chosenHandler_5 rfl ?_
  refine v_bipush X (v := 8) d_Desk_chosenHandler_6 rfl ?_
  refine v_icmp_ge X 59 d_Desk_chosenHandler_8 (by decide) (fun c8 => absurd c8 (by decide)) (fun _ => ?_)
  refine v_aload_n X d_Desk_chosenHandler_11 rfl rfl ?_
  refine w_getr X (ix2 := 0) rfl rfl F_Desk_11 d_Desk_chosenHandler_12 rfl (by decide) ?_
  refine v_iload_n X d_Desk_chosenHandler_15 rfl ?_
  refine w_aaldN X (ix2 := 6) 6 rfl rfl rfl d_Desk_chosenHandler_16 rfl (by decide) (by decide) (by decide) ?_
  refine w_getr X (ix2 := 6) rfl rfl F_Desk_130 d_Desk_chosenHandler_17 rfl (by decide) ?_
  refine w_geti X rfl rfl F_Desk_134 d_Desk_chosenHandler_20 (by decide) ?_
  refine v_int (y := 0) (hsz 6 (by decide)) ?_
  refine v_if_le X 53 d_Desk_chosenHandler_23 (by decide) (fun _ => ?_) (fun c23 => absurd (by decide) c23)
  refine v_iinc X (v := 7) [(2, .int 7), (1, .int (-2)), (0, .ref (ad z 0 0))] d_Desk_chosenHandler_53 rfl (by decide) (by decide) rfl ?_
  refine v_goto X (tgt := 5) d_Desk_chosenHandler_56 (by decide) ?_
  refine v_iload_n X d_Desk_chosenHandler_5 rfl ?_
  refine v_bipush X (v := 8) d_Desk_chosenHandler_6 rfl ?_
  refine v_icmp_ge X 59 d_Desk_chosenHandler_8 (by decide) (fun c8 => absurd c8 (by decide)) (fun _ => ?_)
  refine v_aload_n X d_Desk_chosenHandler_11 rfl rfl ?_
  refine w_getr X (ix2 := 0) rfl rfl F_Desk_11 d_Desk_chosenHandler_12 rfl (by decide) ?_
  refine v_iload_n X d_Desk_chosenHandler_15 rfl ?_
  refine w_aaldN X (ix2 := 7) 7 rfl rfl rfl d_Desk_chosenHandler_16 rfl (by decide) (by decide) (by decide) ?_
  refine w_getr X (ix2 := 7) rfl rfl F_Desk_130 d_Desk_chosenHandler_17 rfl (by decide) ?_
  refine w_geti X rfl rfl F_Desk_134 d_Desk_chosenHandler_20 (by decide) ?_
  refine v_int (y := 0) (hsz 7 (by decide)) ?_
  refine v_if_le X 53 d_Desk_chosenHandler_23 (by decide) (fun _ => ?_) (fun c23 => absurd (by decide) c23)
  refine v_iinc X (v := 8) [(2, .int 8), (1, .int (-2)), (0, .ref (ad z 0 0))] d_Desk_chosenHandler_53 rfl (by decide) (by decide) rfl ?_
  refine v_goto X (tgt := 5) d_Desk_chosenHandler_56 (by decide) ?_
  refine v_iload_n X d_Desk_chosenHandler_5 rfl ?_
  refine v_bipush X (v := 8) d_Desk_chosenHandler_6 rfl ?_
  refine v_icmp_ge X 59 d_Desk_chosenHandler_8 (by decide) (fun _ => ?_) (fun c8 => absurd (by decide) c8)
  refine v_iload_n X d_Desk_chosenHandler_59 rfl ?_
  exact w_iret X E d_Desk_chosenHandler_60 rfl rfl ⟨rfl, rfl⟩
set_option maxRecDepth 100000 in
set_option maxHeartbeats 4000000 in
theorem C_desk_0 {D : va_G} {z : Nat} {zs : j_Zs} {ca : Nat → ClassId} (s : k_S)  : k_F D z zs ca Y_Desk_desk 2 [.ref (ad z 0 0), .int 0] s (some (.int (s 0 0 5))) s := by
  refine k_of [(0, .ref (ad z 0 0)), (1, .int 0)] (by decide) (Nat.le_of_ble_eq_true rfl) rfl (fun K X E => ?_)
  refine v_iload_n X d_Desk_desk_0 rfl ?_
  refine v_tableIn X (off := 71) (tgt := 72) d_Desk_desk_1 (by decide) (by decide) rfl (by decide) ?_
  refine v_aload_n X d_Desk_desk_72 rfl rfl ?_
  refine w_geti X rfl rfl F_Desk_43 d_Desk_desk_73 (by decide) ?_
  exact w_iret X E d_Desk_desk_76 rfl rfl ⟨rfl, rfl⟩
set_option maxRecDepth 100000 in
set_option maxHeartbeats 4000000 in
theorem C_desk_1 {D : va_G} {z : Nat} {zs : j_Zs} {ca : Nat → ClassId} (s : k_S)  : k_F D z zs ca Y_Desk_desk 2 [.ref (ad z 0 0), .int 1] s (some (.int (s 0 0 7))) s := by
  refine k_of [(0, .ref (ad z 0 0)), (1, .int 1)] (by decide) (Nat.le_of_ble_eq_true rfl) rfl (fun K X E => ?_)
  refine v_iload_n X d_Desk_desk_0 rfl ?_
  refine v_tableIn X (off := 76) (tgt := 77) d_Desk_desk_1 (by decide) (by decide) rfl (by decide) ?_
  refine v_aload_n X d_Desk_desk_77 rfl rfl ?_
  refine w_geti X rfl rfl F_Desk_106 d_Desk_desk_78 (by decide) ?_
  exact w_iret X E d_Desk_desk_81 rfl rfl ⟨rfl, rfl⟩
set_option maxRecDepth 100000 in
set_option maxHeartbeats 4000000 in
theorem C_desk_2 {D : va_G} {z : Nat} {zs : j_Zs} {ca : Nat → ClassId} (s : k_S)  : k_F D z zs ca Y_Desk_desk 2 [.ref (ad z 0 0), .int 2] s (some (.int (s 0 0 8))) s := by
  refine k_of [(0, .ref (ad z 0 0)), (1, .int 2)] (by decide) (Nat.le_of_ble_eq_true rfl) rfl (fun K X E => ?_)
  refine v_iload_n X d_Desk_desk_0 rfl ?_
  refine v_tableIn X (off := 81) (tgt := 82) d_Desk_desk_1 (by decide) (by decide) rfl (by decide) ?_
  refine v_aload_n X d_Desk_desk_82 rfl rfl ?_
  refine w_geti X rfl rfl F_Desk_118 d_Desk_desk_83 (by decide) ?_
  exact w_iret X E d_Desk_desk_86 rfl rfl ⟨rfl, rfl⟩
set_option maxRecDepth 100000 in
set_option maxHeartbeats 4000000 in
theorem C_desk_3 {D : va_G} {z : Nat} {zs : j_Zs} {ca : Nat → ClassId} (s : k_S)  : k_F D z zs ca Y_Desk_desk 2 [.ref (ad z 0 0), .int 3] s (some (.int (s 0 0 9))) s := by
  refine k_of [(0, .ref (ad z 0 0)), (1, .int 3)] (by decide) (Nat.le_of_ble_eq_true rfl) rfl (fun K X E => ?_)
  refine v_iload_n X d_Desk_desk_0 rfl ?_
  refine v_tableIn X (off := 86) (tgt := 87) d_Desk_desk_1 (by decide) (by decide) rfl (by decide) ?_
  refine v_aload_n X d_Desk_desk_87 rfl rfl ?_
  refine w_geti X rfl rfl F_Desk_196 d_Desk_desk_88 (by decide) ?_
  exact w_iret X E d_Desk_desk_91 rfl rfl ⟨rfl, rfl⟩
set_option maxRecDepth 100000 in
set_option maxHeartbeats 4000000 in
theorem C_desk_4 {D : va_G} {z : Nat} {zs : j_Zs} {ca : Nat → ClassId} (s : k_S) (hsz : ∀ h, h < 8 → s 7 h 2 = 0) : k_F D z zs ca Y_Desk_desk 2 [.ref (ad z 0 0), .int 4] s (some (.int (-2))) s := by
  refine k_of [(0, .ref (ad z 0 0)), (1, .int 4)] (by decide) (Nat.le_of_ble_eq_true rfl) rfl (fun K X E => ?_)
  refine v_iload_n X d_Desk_desk_0 rfl ?_
  refine v_tableIn X (off := 91) (tgt := 92) d_Desk_desk_1 (by decide) (by decide) rfl (by decide) ?_
  refine v_aload_n X d_Desk_desk_92 rfl rfl ?_
  refine w_fVi X (As := []) (rest := []) rfl rfl L_Desk_199 d_Desk_desk_93 (by decide) (C_chosenHandler_0 s hsz) rfl E (by decide) rfl (Nat.le_of_ble_eq_true rfl) ?_
  exact w_iret X E d_Desk_desk_96 rfl rfl ⟨rfl, rfl⟩
set_option maxRecDepth 100000 in
set_option maxHeartbeats 4000000 in
theorem C_desk_5 {D : va_G} {z : Nat} {zs : j_Zs} {ca : Nat → ClassId} (s : k_S)  : k_F D z zs ca Y_Desk_desk 2 [.ref (ad z 0 0), .int 5] s (some (.int (s 21 0 1))) s := by
  refine k_of [(0, .ref (ad z 0 0)), (1, .int 5)] (by decide) (Nat.le_of_ble_eq_true rfl) rfl (fun K X E => ?_)
  refine v_iload_n X d_Desk_desk_0 rfl ?_
  refine v_tableIn X (off := 96) (tgt := 97) d_Desk_desk_1 (by decide) (by decide) rfl (by decide) ?_
  refine v_aload_n X d_Desk_desk_97 rfl rfl ?_
  refine w_getr X (ix2 := 0) rfl rfl F_Desk_32 d_Desk_desk_98 rfl (by decide) ?_
  refine w_geti X rfl rfl F_Desk_202 d_Desk_desk_101 (by decide) ?_
  exact w_iret X E d_Desk_desk_104 rfl rfl ⟨rfl, rfl⟩
set_option maxRecDepth 100000 in
set_option maxHeartbeats 4000000 in
theorem C_desk_6 {D : va_G} {z : Nat} {zs : j_Zs} {ca : Nat → ClassId} (s : k_S)  : k_F D z zs ca Y_Desk_desk 2 [.ref (ad z 0 0), .int 6] s (some (.int (s 21 0 0))) s := by
  refine k_of [(0, .ref (ad z 0 0)), (1, .int 6)] (by decide) (Nat.le_of_ble_eq_true rfl) rfl (fun K X E => ?_)
  refine v_iload_n X d_Desk_desk_0 rfl ?_
  refine v_tableIn X (off := 104) (tgt := 105) d_Desk_desk_1 (by decide) (by decide) rfl (by decide) ?_
  refine v_aload_n X d_Desk_desk_105 rfl rfl ?_
  refine w_getr X (ix2 := 0) rfl rfl F_Desk_32 d_Desk_desk_106 rfl (by decide) ?_
  refine w_geti X rfl rfl F_Desk_205 d_Desk_desk_109 (by decide) ?_
  exact w_iret X E d_Desk_desk_112 rfl rfl ⟨rfl, rfl⟩
set_option maxRecDepth 100000 in
set_option maxHeartbeats 4000000 in
theorem C_desk_7 {D : va_G} {z : Nat} {zs : j_Zs} {ca : Nat → ClassId} (s : k_S)  : k_F D z zs ca Y_Desk_desk 2 [.ref (ad z 0 0), .int 7] s (some (.int (s 0 0 11))) s := by
  refine k_of [(0, .ref (ad z 0 0)), (1, .int 7)] (by decide) (Nat.le_of_ble_eq_true rfl) rfl (fun K X E => ?_)
  refine v_iload_n X d_Desk_desk_0 rfl ?_
  refine v_tableIn X (off := 112) (tgt := 113) d_Desk_desk_1 (by decide) (by decide) rfl (by decide) ?_
  refine v_aload_n X d_Desk_desk_113 rfl rfl ?_
  refine w_geti X rfl rfl F_Desk_208 d_Desk_desk_114 (by decide) ?_
  exact w_iret X E d_Desk_desk_117 rfl rfl ⟨rfl, rfl⟩
set_option maxRecDepth 100000 in
set_option maxHeartbeats 4000000 in
theorem C_desk_8 {D : va_G} {z : Nat} {zs : j_Zs} {ca : Nat → ClassId} (s : k_S)  : k_F D z zs ca Y_Desk_desk 2 [.ref (ad z 0 0), .int 8] s (some (.int (s 0 0 12))) s := by
  refine k_of [(0, .ref (ad z 0 0)), (1, .int 8)] (by decide) (Nat.le_of_ble_eq_true rfl) rfl (fun K X E => ?_)
  refine v_iload_n X d_Desk_desk_0 rfl ?_
  refine v_tableIn X (off := 117) (tgt := 118) d_Desk_desk_1 (by decide) (by decide) rfl (by decide) ?_
  refine v_aload_n X d_Desk_desk_118 rfl rfl ?_
  refine w_geti X rfl rfl F_Desk_211 d_Desk_desk_119 (by decide) ?_
  exact w_iret X E d_Desk_desk_122 rfl rfl ⟨rfl, rfl⟩
set_option maxRecDepth 100000 in
set_option maxHeartbeats 4000000 in
theorem C_desk_9 {D : va_G} {z : Nat} {zs : j_Zs} {ca : Nat → ClassId} (s : k_S)  : k_F D z zs ca Y_Desk_desk 2 [.ref (ad z 0 0), .int 9] s (some (.int (s 17 0 3))) s := by
  refine k_of [(0, .ref (ad z 0 0)), (1, .int 9)] (by decide) (Nat.le_of_ble_eq_true rfl) rfl (fun K X E => ?_)
  refine v_iload_n X d_Desk_desk_0 rfl ?_
  refine v_tableIn X (off := 122) (tgt := 123) d_Desk_desk_1 (by decide) (by decide) rfl (by decide) ?_
  refine v_aload_n X d_Desk_desk_123 rfl rfl ?_
  refine w_getr X (ix2 := 0) rfl rfl F_Desk_25 d_Desk_desk_124 rfl (by decide) ?_
  refine w_geti X rfl rfl F_Desk_214 d_Desk_desk_127 (by decide) ?_
  exact w_iret X E d_Desk_desk_130 rfl rfl ⟨rfl, rfl⟩
set_option maxRecDepth 100000 in
set_option maxHeartbeats 4000000 in
theorem C_desk_10 {D : va_G} {z : Nat} {zs : j_Zs} {ca : Nat → ClassId} (s : k_S)  : k_F D z zs ca Y_Desk_desk 2 [.ref (ad z 0 0), .int 10] s (some (.int (s 17 0 4))) s := by
  refine k_of [(0, .ref (ad z 0 0)), (1, .int 10)] (by decide) (Nat.le_of_ble_eq_true rfl) rfl (fun K X E => ?_)
  refine v_iload_n X d_Desk_desk_0 rfl ?_
  refine v_tableIn X (off := 130) (tgt := 131) d_Desk_desk_1 (by decide) (by decide) rfl (by decide) ?_
  refine v_aload_n X d_Desk_desk_131 rfl rfl ?_
  refine w_getr X (ix2 := 0) rfl rfl F_Desk_25 d_Desk_desk_132 rfl (by decide) ?_
  refine w_geti X rfl rfl F_Desk_216 d_Desk_desk_135 (by decide) ?_
  exact w_iret X E d_Desk_desk_138 rfl rfl ⟨rfl, rfl⟩
set_option maxRecDepth 100000 in
set_option maxHeartbeats 4000000 in
theorem C_desk_11 {D : va_G} {z : Nat} {zs : j_Zs} {ca : Nat → ClassId} (s : k_S)  : k_F D z zs ca Y_Desk_desk 2 [.ref (ad z 0 0), .int 11] s (some (.int (s 0 0 13))) s := by
  refine k_of [(0, .ref (ad z 0 0)), (1, .int 11)] (by decide) (Nat.le_of_ble_eq_true rfl) rfl (fun K X E => ?_)
  refine v_iload_n X d_Desk_desk_0 rfl ?_
  refine v_tableIn X (off := 138) (tgt := 139) d_Desk_desk_1 (by decide) (by decide) rfl (by decide) ?_
  refine v_aload_n X d_Desk_desk_139 rfl rfl ?_
  refine w_geti X rfl rfl F_Desk_218 d_Desk_desk_140 (by decide) ?_
  exact w_iret X E d_Desk_desk_143 rfl rfl ⟨rfl, rfl⟩
set_option maxRecDepth 100000 in
set_option maxHeartbeats 4000000 in
theorem C_desk_12 {D : va_G} {z : Nat} {zs : j_Zs} {ca : Nat → ClassId} (s : k_S)  : k_F D z zs ca Y_Desk_desk 2 [.ref (ad z 0 0), .int 12] s (some (.int (s 0 0 14))) s := by
  refine k_of [(0, .ref (ad z 0 0)), (1, .int 12)] (by decide) (Nat.le_of_ble_eq_true rfl) rfl (fun K X E => ?_)
  refine v_iload_n X d_Desk_desk_0 rfl ?_
  refine v_tableIn X (off := 143) (tgt := 144) d_Desk_desk_1 (by decide) (by decide) rfl (by decide) ?_
  refine v_aload_n X d_Desk_desk_144 rfl rfl ?_
  refine w_geti X rfl rfl F_Desk_221 d_Desk_desk_145 (by decide) ?_
  exact w_iret X E d_Desk_desk_148 rfl rfl ⟨rfl, rfl⟩
set_option maxRecDepth 100000 in
set_option maxHeartbeats 4000000 in
theorem C_desk_13 {D : va_G} {z : Nat} {zs : j_Zs} {ca : Nat → ClassId} (s : k_S)  : k_F D z zs ca Y_Desk_desk 2 [.ref (ad z 0 0), .int 13] s (some (.int (s 0 0 15))) s := by
  refine k_of [(0, .ref (ad z 0 0)), (1, .int 13)] (by decide) (Nat.le_of_ble_eq_true rfl) rfl (fun K X E => ?_)
  refine v_iload_n X d_Desk_desk_0 rfl ?_
  refine v_tableIn X (off := 148) (tgt := 149) d_Desk_desk_1 (by decide) (by decide) rfl (by decide) ?_
  refine v_aload_n X d_Desk_desk_149 rfl rfl ?_
  refine w_geti X rfl rfl F_Desk_224 d_Desk_desk_150 (by decide) ?_
  exact w_iret X E d_Desk_desk_153 rfl rfl ⟨rfl, rfl⟩
set_option maxRecDepth 100000 in
set_option maxHeartbeats 4000000 in
theorem C_desk_out {D : va_G} {z : Nat} {zs : j_Zs} {ca : Nat → ClassId} (s : k_S) (x : Int32) (ho : x.toInt < 0 ∨ 13 < x.toInt) : k_F D z zs ca Y_Desk_desk 2 [.ref (ad z 0 0), .int x] s (some (.int (-1))) s := by
  refine k_of [(0, .ref (ad z 0 0)), (1, .int x)] (by decide) (Nat.le_of_ble_eq_true rfl) rfl (fun K X E => ?_)
  refine v_iload_n X d_Desk_desk_0 rfl ?_
  refine v_tableOut X (tgt := 154) d_Desk_desk_1 ho (by decide) ?_
  refine v_iconst X (v := -1) d_Desk_desk_154 rfl ?_
  exact w_iret X E d_Desk_desk_155 rfl rfl ⟨rfl, rfl⟩
set_option maxRecDepth 100000 in
set_option maxHeartbeats 4000000 in
theorem C_Turns_anyFrame_0 {D : va_G} {z : Nat} {zs : j_Zs} {ca : Nat → ClassId} (s : k_S) (hfr : ∀ f, f < 4 → s 19 f 0 = 0) : k_F D z zs ca Y_Turns_anyFrame 1 [.ref (ad z 17 0)] s (some (.int 0)) s := by
  refine k_of [(0, .ref (ad z 17 0))] (by decide) (Nat.le_of_ble_eq_true rfl) rfl (fun K X E => ?_)
  refine v_iconst X (v := 0) d_Turns_anyFrame_0 rfl ?_
  refine v_istore_n X [(1, .int 0), (0, .ref (ad z 17 0))] d_Turns_anyFrame_1 (by decide) rfl ?_
  refine v_iload_n X d_Turns_anyFrame_2 rfl ?_
  refine v_iconst X (v := 4) d_Turns_anyFrame_3 rfl ?_
  refine v_icmp_ge X 27 d_Turns_anyFrame_4 (by decide) (fun c4 => absurd c4 (by decide)) (fun _ => ?_)
  refine v_aload_n X d_Turns_anyFrame_7 rfl rfl ?_
  refine w_getr X (ix2 := 0) rfl rfl F_Turns_11 d_Turns_anyFrame_8 rfl (by decide) ?_
  refine v_iload_n X d_Turns_anyFrame_11 rfl ?_
  refine w_aaldN X (ix2 := 0) 0 rfl rfl rfl d_Turns_anyFrame_12 rfl (by decide) (by decide) (by decide) ?_
  refine w_fVi X (As := []) (rest := []) rfl rfl L_Turns_22 d_Turns_anyFrame_13 (by decide) (by have h := C_Frame_isThere (D := D) (z := z) (zs := zs) (ca := ca) s 0 (by decide); rw [jb_f (by rw [hfr 0 (by decide)]; decide)] at h; exact h) rfl E (by decide) rfl (Nat.le_of_ble_eq_true rfl) ?_
  refine v_if_eq X 21 d_Turns_anyFrame_16 (by decide) (fun _ => ?_) (fun c16 => absurd (by decide) c16)
  refine v_iinc X (v := 1) [(1, .int 1), (0, .ref (ad z 17 0))] d_Turns_anyFrame_21 rfl (by decide) (by decide) rfl ?_
  refine v_goto X (tgt := 2) d_Turns_anyFrame_24 (by decide) ?_
  refine v_iload_n X d_Turns_anyFrame_2 rfl ?_
  refine v_iconst X (v := 4) d_Turns_anyFrame_3 rfl ?_
  refine v_icmp_ge X 27 d_Turns_anyFrame_4 (by decide) (fun c4 => absurd c4 (by decide)) (fun _ => ?_)
  refine v_aload_n X d_Turns_anyFrame_7 rfl rfl ?_
  refine w_getr X (ix2 := 0) rfl rfl F_Turns_11 d_Turns_anyFrame_8 rfl (by decide) ?_
  refine v_iload_n X d_Turns_anyFrame_11 rfl ?_
  refine w_aaldN X (ix2 := 1) 1 rfl rfl rfl d_Turns_anyFrame_12 rfl (by decide) (by decide) (by decide) ?_
  refine w_fVi X (As := []) (rest := []) rfl rfl L_Turns_22 d_Turns_anyFrame_13 (by decide) (by have h := C_Frame_isThere (D := D) (z := z) (zs := zs) (ca := ca) s 1 (by decide); rw [jb_f (by rw [hfr 1 (by decide)]; decide)] at h; exact h) rfl E (by decide) rfl (Nat.le_of_ble_eq_true rfl) ?_
  refine v_if_eq X 21 d_Turns_anyFrame_16 (by decide) (fun _ => ?_) (fun c16 => absurd (by decide) c16)
  refine v_iinc X (v := 2) [(1, .int 2), (0, .ref (ad z 17 0))] d_Turns_anyFrame_21 rfl (by decide) (by decide) rfl ?_
  refine v_goto X (tgt := 2) d_Turns_anyFrame_24 (by decide) ?_
  refine v_iload_n X d_Turns_anyFrame_2 rfl ?_
  refine v_iconst X (v := 4) d_Turns_anyFrame_3 rfl ?_
  refine v_icmp_ge X 27 d_Turns_anyFrame_4 (by decide) (fun c4 => absurd c4 (by decide)) (fun _ => ?_)
  refine v_aload_n X d_Turns_anyFrame_7 rfl rfl ?_
  refine w_getr X (ix2 := 0) rfl rfl F_Turns_11 d_Turns_anyFrame_8 rfl (by decide) ?_
  refine v_iload_n X d_Turns_anyFrame_11 rfl ?_
  refine w_aaldN X (ix2 := 2) 2 rfl rfl rfl d_Turns_anyFrame_12 rfl (by decide) (by decide) (by decide) ?_
  refine w_fVi X (As := []) (rest := []) rfl rfl L_Turns_22 d_Turns_anyFrame_13 (by decide) (by have h := C_Frame_isThere (D := D) (z := z) (zs := zs) (ca := ca) s 2 (by decide); rw [jb_f (by rw [hfr 2 (by decide)]; decide)] at h; exact h) rfl E (by decide) rfl (Nat.le_of_ble_eq_true rfl) ?_
  refine v_if_eq X 21 d_Turns_anyFrame_16 (by decide) (fun _ => ?_) (fun c16 => absurd (by decide) c16)
  refine v_iinc X (v := 3) [(1, .int 3), (0, .ref (ad z 17 0))] d_Turns_anyFrame_21 rfl (by decide) (by decide) rfl ?_
  refine v_goto X (tgt := 2) d_Turns_anyFrame_24 (by decide) ?_
  refine v_iload_n X d_Turns_anyFrame_2 rfl ?_
  refine v_iconst X (v := 4) d_Turns_anyFrame_3 rfl ?_
  refine v_icmp_ge X 27 d_Turns_anyFrame_4 (by decide) (fun c4 => absurd c4 (by decide)) (fun _ => ?_)
  refine v_aload_n X d_Turns_anyFrame_7 rfl rfl ?_
  refine w_getr X (ix2 := 0) rfl rfl F_Turns_11 d_Turns_anyFrame_8 rfl (by decide) ?_
  refine v_iload_n X d_Turns_anyFrame_11 rfl ?_
  refine w_aaldN X (ix2 := 3) 3 rfl rfl rfl d_Turns_anyFrame_12 rfl (by decide) (by decide) (by decide) ?_
  refine w_fVi X (As := []) (rest := []) rfl rfl L_Turns_22 d_Turns_anyFrame_13 (by decide) (by have h := C_Frame_isThere (D := D) (z := z) (zs := zs) (ca := ca) s 3 (by decide); rw [jb_f (by rw [hfr 3 (by decide)]; decide)] at h; exact h) rfl E (by decide) rfl (Nat.le_of_ble_eq_true rfl) ?_
  refine v_if_eq X 21 d_Turns_anyFrame_16 (by decide) (fun _ => ?_) (fun c16 => absurd (by decide) c16)
  refine v_iinc X (v := 4) [(1, .int 4), (0, .ref (ad z 17 0))] d_Turns_anyFrame_21 rfl (by decide) (by decide) rfl ?_
  refine v_goto X (tgt := 2) d_Turns_anyFrame_24 (by decide) ?_
  refine v_iload_n X d_Turns_anyFrame_2 rfl ?_
  refine v_iconst X (v := 4) d_Turns_anyFrame_3 rfl ?_
  refine v_icmp_ge X 27 d_Turns_anyFrame_4 (by decide) (fun _ => ?_) (fun c4 => absurd (by decide) c4)
  refine v_iconst X (v := 0) d_Turns_anyFrame_27 rfl ?_
  exact w_iret X E d_Turns_anyFrame_28 rfl (by first | rfl | decide | exact jb_nar) ⟨rfl, rfl⟩
set_option maxRecDepth 100000 in
set_option maxHeartbeats 4000000 in
theorem C_Turns_thereBehind_0 {D : va_G} {z : Nat} {zs : j_Zs} {ca : Nat → ClassId} (s : k_S) (hfr : ∀ f, f < 4 → s 19 f 0 = 0) : k_F D z zs ca Y_Turns_thereBehind 1 [.ref (ad z 17 0), .int 3] s (some (.int 3)) s := by
  refine k_of [(0, .ref (ad z 17 0)), (1, .int 3)] (by decide) (Nat.le_of_ble_eq_true rfl) rfl (fun K X E => ?_)
  refine v_iconst X (v := 1) d_Turns_thereBehind_0 rfl ?_
  refine v_istore_n X [(2, .int 1), (0, .ref (ad z 17 0)), (1, .int 3)] d_Turns_thereBehind_1 (by decide) rfl ?_
  refine v_iload_n X d_Turns_thereBehind_2 rfl ?_
  refine v_iconst X (v := 4) d_Turns_thereBehind_3 rfl ?_
  refine v_icmp_ge X 33 d_Turns_thereBehind_4 (by decide) (fun c4 => absurd c4 (by decide)) (fun _ => ?_)
  refine v_iload_n X d_Turns_thereBehind_7 rfl ?_
  refine v_iload_n X d_Turns_thereBehind_8 rfl ?_
  refine v_iadd X d_Turns_thereBehind_9 ?_
  refine v_int (y := 4) (by decide) ?_
  refine v_iconst X (v := 3) d_Turns_thereBehind_10 rfl ?_
  refine v_iand X d_Turns_thereBehind_11 ?_
  refine v_int (y := 0) (by decide) ?_
  refine v_istore_n X [(3, .int 0), (2, .int 1), (0, .ref (ad z 17 0)), (1, .int 3)] d_Turns_thereBehind_12 (by decide) rfl ?_
  refine v_aload_n X d_Turns_thereBehind_13 rfl rfl ?_
  refine w_getr X (ix2 := 0) rfl rfl F_Turns_11 d_Turns_thereBehind_14 rfl (by decide) ?_
  refine v_iload_n X d_Turns_thereBehind_17 rfl ?_
  refine w_aaldN X (ix2 := 0) 0 rfl rfl rfl d_Turns_thereBehind_18 rfl (by decide) (by decide) (by decide) ?_
  refine w_fVi X (As := []) (rest := []) rfl rfl L_Turns_22 d_Turns_thereBehind_19 (by decide) (by have h := C_Frame_isThere (D := D) (z := z) (zs := zs) (ca := ca) s 0 (by decide); rw [jb_f (by rw [hfr 0 (by decide)]; decide)] at h; exact h) rfl E (by decide) rfl (Nat.le_of_ble_eq_true rfl) ?_
  refine v_if_eq X 27 d_Turns_thereBehind_22 (by decide) (fun _ => ?_) (fun c22 => absurd (by decide) c22)
  refine v_iinc X (v := 2) [(2, .int 2), (3, .int 0), (0, .ref (ad z 17 0)), (1, .int 3)] d_Turns_thereBehind_27 rfl (by decide) (by decide) rfl ?_
  refine v_goto X (tgt := 2) d_Turns_thereBehind_30 (by decide) ?_
  refine v_iload_n X d_Turns_thereBehind_2 rfl ?_
  refine v_iconst X (v := 4) d_Turns_thereBehind_3 rfl ?_
  refine v_icmp_ge X 33 d_Turns_thereBehind_4 (by decide) (fun c4 => absurd c4 (by decide)) (fun _ => ?_)
  refine v_iload_n X d_Turns_thereBehind_7 rfl ?_
  refine v_iload_n X d_Turns_thereBehind_8 rfl ?_
  refine v_iadd X d_Turns_thereBehind_9 ?_
  refine v_int (y := 5) (by decide) ?_
  refine v_iconst X (v := 3) d_Turns_thereBehind_10 rfl ?_
  refine v_iand X d_Turns_thereBehind_11 ?_
  refine v_int (y := 1) (by decide) ?_
  refine v_istore_n X [(3, .int 1), (2, .int 2), (0, .ref (ad z 17 0)), (1, .int 3)] d_Turns_thereBehind_12 (by decide) rfl ?_
  refine v_aload_n X d_Turns_thereBehind_13 rfl rfl ?_
  refine w_getr X (ix2 := 0) rfl rfl F_Turns_11 d_Turns_thereBehind_14 rfl (by decide) ?_
  refine v_iload_n X d_Turns_thereBehind_17 rfl ?_
  refine w_aaldN X (ix2 := 1) 1 rfl rfl rfl d_Turns_thereBehind_18 rfl (by decide) (by decide) (by decide) ?_
  refine w_fVi X (As := []) (rest := []) rfl rfl L_Turns_22 d_Turns_thereBehind_19 (by decide) (by have h := C_Frame_isThere (D := D) (z := z) (zs := zs) (ca := ca) s 1 (by decide); rw [jb_f (by rw [hfr 1 (by decide)]; decide)] at h; exact h) rfl E (by decide) rfl (Nat.le_of_ble_eq_true rfl) ?_
  refine v_if_eq X 27 d_Turns_thereBehind_22 (by decide) (fun _ => ?_) (fun c22 => absurd (by decide) c22)
  refine v_iinc X (v := 3) [(2, .int 3), (3, .int 1), (0, .ref (ad z 17 0)), (1, .int 3)] d_Turns_thereBehind_27 rfl (by decide) (by decide) rfl ?_
  refine v_goto X (tgt := 2) d_Turns_thereBehind_30 (by decide) ?_
  refine v_iload_n X d_Turns_thereBehind_2 rfl ?_
  refine v_iconst X (v := 4) d_Turns_thereBehind_3 rfl ?_
  refine v_icmp_ge X 33 d_Turns_thereBehind_4 (by decide) (fun c4 => absurd c4 (by decide)) (fun _ => ?_)
  refine v_iload_n X d_Turns_thereBehind_7 rfl ?_
  refine v_iload_n X d_Turns_thereBehind_8 rfl ?_
  refine v_iadd X d_Turns_thereBehind_9 ?_
  refine v_int (y := 6) (by decide) ?_
  refine v_iconst X (v := 3) d_Turns_thereBehind_10 rfl ?_
  refine v_iand X d_Turns_thereBehind_11 ?_
  refine v_int (y := 2) (by decide) ?_
  refine v_istore_n X [(3, .int 2), (2, .int 3), (0, .ref (ad z 17 0)), (1, .int 3)] d_Turns_thereBehind_12 (by decide) rfl ?_
  refine v_aload_n X d_Turns_thereBehind_13 rfl rfl ?_
  refine w_getr X (ix2 := 0) rfl rfl F_Turns_11 d_Turns_thereBehind_14 rfl (by decide) ?_
  refine v_iload_n X d_Turns_thereBehind_17 rfl ?_
  refine w_aaldN X (ix2 := 2) 2 rfl rfl rfl d_Turns_thereBehind_18 rfl (by decide) (by decide) (by decide) ?_
  refine w_fVi X (As := []) (rest := []) rfl rfl L_Turns_22 d_Turns_thereBehind_19 (by decide) (by have h := C_Frame_isThere (D := D) (z := z) (zs := zs) (ca := ca) s 2 (by decide); rw [jb_f (by rw [hfr 2 (by decide)]; decide)] at h; exact h) rfl E (by decide) rfl (Nat.le_of_ble_eq_true rfl) ?_
  refine v_if_eq X 27 d_Turns_thereBehind_22 (by decide) (fun _ => ?_) (fun c22 => absurd (by decide) c22)
  refine v_iinc X (v := 4) [(2, .int 4), (3, .int 2), (0, .ref (ad z 17 0)), (1, .int 3)] d_Turns_thereBehind_27 rfl (by decide) (by decide) rfl ?_
  refine v_goto X (tgt := 2) d_Turns_thereBehind_30 (by decide) ?_
  refine v_iload_n X d_Turns_thereBehind_2 rfl ?_
  refine v_iconst X (v := 4) d_Turns_thereBehind_3 rfl ?_
  refine v_icmp_ge X 33 d_Turns_thereBehind_4 (by decide) (fun _ => ?_) (fun c4 => absurd (by decide) c4)
  refine v_iload_n X d_Turns_thereBehind_33 rfl ?_
  exact w_iret X E d_Turns_thereBehind_34 rfl rfl ⟨rfl, rfl⟩
set_option maxRecDepth 100000 in
set_option maxHeartbeats 4000000 in
theorem C_Turns_clear {D : va_G} {z : Nat} {zs : j_Zs} {ca : Nat → ClassId} (s : k_S)  : k_F D z zs ca Y_Turns_clear 0 [.ref (ad z 17 0)] s none (k_set (k_set s 17 0 3 (-2)) 17 0 4 0) := by
  refine k_of [(0, .ref (ad z 17 0))] (by decide) (Nat.le_of_ble_eq_true rfl) rfl (fun K X E => ?_)
  refine v_aload_n X d_Turns_clear_0 rfl rfl ?_
  refine v_bipush X (v := -2) d_Turns_clear_1 rfl ?_
  refine w_put X rfl rfl P_Turns_18 d_Turns_clear_3 rfl rfl (by decide) ?_
  refine v_aload_n X d_Turns_clear_6 rfl rfl ?_
  refine v_iconst X (v := 0) d_Turns_clear_7 rfl ?_
  refine w_put X rfl rfl P_Turns_39 d_Turns_clear_8 rfl rfl (by decide) ?_
  exact w_vret X E d_Turns_clear_11 rfl ⟨rfl, rfl⟩
set_option maxRecDepth 100000 in
set_option maxHeartbeats 4000000 in
theorem C_Turns_start_0 {D : va_G} {z : Nat} {zs : j_Zs} {ca : Nat → ClassId} (s : k_S) (x : Int32) (hfr : ∀ f, f < 4 → s 19 f 0 = 0) : k_F D z zs ca Y_Turns_start 2 [.ref (ad z 17 0), .int x] s none (k_set (k_set (k_set (k_set s 17 0 3 (-2)) 17 0 4 0) 17 0 1 3) 17 0 2 x) := by
  refine k_of [(0, .ref (ad z 17 0)), (1, .int x)] (by decide) (Nat.le_of_ble_eq_true rfl) rfl (fun K X E => ?_)
  refine v_aload_n X d_Turns_start_0 rfl rfl ?_
  refine w_fVv X (As := []) (rest := []) rfl rfl L_Turns_26 d_Turns_start_1 (by decide) (C_Turns_clear s) rfl E (by decide) rfl (Nat.le_of_ble_eq_true rfl) ?_
  refine v_aload_n X d_Turns_start_4 rfl rfl ?_
  refine v_aload_n X d_Turns_start_5 rfl rfl ?_
  refine v_iconst X (v := 3) d_Turns_start_6 rfl ?_
  refine w_fVi X (As := [.int 3]) (rest := [.ref (ad z 17 0)]) rfl rfl L_Turns_29 d_Turns_start_7 (by decide) (C_Turns_thereBehind_0 (k_set (k_set s 17 0 3 (-2)) 17 0 4 0) (fun f hf => by simpa [k_set_of] using hfr f hf)) rfl E (by decide) rfl (Nat.le_of_ble_eq_true rfl) ?_
  refine w_put X rfl rfl P_Turns_33 d_Turns_start_10 rfl rfl (by decide) ?_
  refine v_aload_n X d_Turns_start_13 rfl rfl ?_
  refine v_iload_n X d_Turns_start_14 rfl ?_
  refine w_put X rfl rfl P_Turns_36 d_Turns_start_15 rfl rfl (by decide) ?_
  exact w_vret X E d_Turns_start_18 rfl ⟨rfl, rfl⟩
set_option maxRecDepth 100000 in
set_option maxHeartbeats 4000000 in
theorem P_begin {D : va_G} {z : Nat} {zs : j_Zs} {ca : Nat → ClassId} (s : k_S) (x1 x2 : Int32) (hp : s 0 0 5 = 0) (hfr : ∀ f, f < 4 → s 19 f 0 = 0) (hms : s 0 0 8 = 0) : k_C D z zs ca Y_Desk_begin 3 [.ref (ad z 0 0), .int x1, .int x2] s (fun r s' => r = some (.int (aB x1 x2)) ∧ k_same s s') := by
  refine k_of [(0, .ref (ad z 0 0)), (1, .int x1), (2, .int x2)] (by decide) (Nat.le_of_ble_eq_true rfl) rfl (fun K X E => ?_)
  refine v_iload_n X d_Desk_begin_0 rfl ?_
  refine v_iconst X (v := 0) d_Desk_begin_1 rfl ?_
  refine v_iconst X (v := 1) d_Desk_begin_2 rfl ?_
  refine w_fSi X (As := [.int x1, .int 0, .int 1]) (rest := []) L_Desk_51 d_Desk_begin_3 (C_within _ _ _ _) rfl E (by decide) rfl (Nat.le_of_ble_eq_true rfl) ?_
  refine v_if_eq X 19 d_Desk_begin_6 (by decide) (fun c6 => ?_) (fun c6 => ?_)
  · refine v_iconst X (v := -1) d_Desk_begin_19 rfl ?_
    exact w_iret X E d_Desk_begin_20 rfl rfl ⟨by rw [aB, if_neg (fun h => jb_0.mp c6 h.1)], (by repeat (first | exact k_same_refl | refine k_same_set ?_ (by decide)))⟩
  · refine v_iload_n X d_Desk_begin_9 rfl ?_
    refine v_iconst X (v := 0) d_Desk_begin_10 rfl ?_
    refine v_bipush X (v := 100) d_Desk_begin_11 rfl ?_
    refine w_fSi X (As := [.int x2, .int 0, .int 100]) (rest := []) L_Desk_51 d_Desk_begin_13 (C_within _ _ _ _) rfl E (by decide) rfl (Nat.le_of_ble_eq_true rfl) ?_
    refine v_if_ne X 21 d_Desk_begin_16 (by decide) (fun c16 => ?_) (fun c16 => ?_)
    · refine v_aload_n X d_Desk_begin_21 rfl rfl ?_
      refine w_geti X rfl rfl F_Desk_43 d_Desk_begin_22 (by decide) ?_
      refine v_if_ne X 42 d_Desk_begin_25 (by decide) (fun c25 => absurd hp c25) (fun _ => ?_)
      refine v_iload_n X d_Desk_begin_28 rfl ?_
      refine v_if_ne X 45 d_Desk_begin_29 (by decide) (fun c29 => ?_) (fun c29 => ?_)
      · refine v_aload_n X d_Desk_begin_45 rfl rfl ?_
        refine v_iload_n X d_Desk_begin_46 rfl ?_
        refine w_put X rfl rfl P_Desk_100 d_Desk_begin_47 rfl rfl (by decide) ?_
        refine v_aload_n X d_Desk_begin_50 rfl rfl ?_
        refine v_iconst X (v := 1) d_Desk_begin_51 rfl ?_
        refine w_put X rfl rfl P_Desk_43 d_Desk_begin_52 rfl rfl (by decide) ?_
        refine v_aload_n X d_Desk_begin_55 rfl rfl ?_
        refine w_getr X (ix2 := 0) rfl rfl F_Desk_32 d_Desk_begin_56 rfl (by decide) ?_
        refine v_iload_n X d_Desk_begin_59 rfl ?_
        refine w_fVv X (As := [.int x2]) (rest := []) rfl rfl L_Desk_103 d_Desk_begin_60 (by decide) (C_Area_open _ _) rfl E (by decide) rfl (Nat.le_of_ble_eq_true rfl) ?_
        refine v_aload_n X d_Desk_begin_63 rfl rfl ?_
        refine w_getr X (ix2 := 0) rfl rfl F_Desk_25 d_Desk_begin_64 rfl (by decide) ?_
        refine v_aload_n X d_Desk_begin_67 rfl rfl ?_
        refine w_geti X rfl rfl F_Desk_106 d_Desk_begin_68 (by decide) ?_
        refine v_int (y := s 0 0 7) (by simp [k_set_of]) ?_
        refine w_fVv X (As := [.int (s 0 0 7)]) (rest := []) rfl rfl L_Desk_109 d_Desk_begin_71 (by decide) (C_Turns_start_0 _ _ (fun f hf => by simpa [k_set_of] using hfr f hf)) rfl E (by decide) rfl (Nat.le_of_ble_eq_true rfl) ?_
        refine v_iconst X (v := 0) d_Desk_begin_74 rfl ?_
        refine v_istore_n X [(3, .int 0), (0, .ref (ad z 0 0)), (1, .int x1), (2, .int x2)] d_Desk_begin_75 (by decide) rfl ?_
        refine v_iload_n X d_Desk_begin_76 rfl ?_
        refine v_bipush X (v := 8) d_Desk_begin_77 rfl ?_
        refine v_icmp_ge X 111 d_Desk_begin_79 (by decide) (fun c79 => absurd c79 (by decide)) (fun _ => ?_)
        refine v_aload_n X d_Desk_begin_82 rfl rfl ?_
        refine w_getr X (ix2 := 0) rfl rfl F_Desk_11 d_Desk_begin_83 rfl (by decide) ?_
        refine v_iload_n X d_Desk_begin_86 rfl ?_
        refine w_aaldN X (ix2 := 0) 0 rfl rfl rfl d_Desk_begin_87 rfl (by decide) (by decide) (by decide) ?_
        refine v_aload_n X d_Desk_begin_88 rfl rfl ?_
        refine w_geti X rfl rfl F_Desk_106 d_Desk_begin_89 (by decide) ?_
        refine v_int (y := s 0 0 7) (by simp [k_set_of]) ?_
        refine v_aload_n X d_Desk_begin_92 rfl rfl ?_
        refine w_getr X (ix2 := 0) rfl rfl F_Desk_11 d_Desk_begin_93 rfl (by decide) ?_
        refine v_iload_n X d_Desk_begin_96 rfl ?_
        refine w_aaldN X (ix2 := 0) 0 rfl rfl rfl d_Desk_begin_97 rfl (by decide) (by decide) (by decide) ?_
        refine w_geti X rfl rfl F_Desk_112 d_Desk_begin_98 (by decide) ?_
        refine v_int (y := s 3 0 3) (by simp [k_set_of]) ?_
        refine v_iadd X d_Desk_begin_101 ?_
        refine w_put X rfl rfl P_Desk_115 d_Desk_begin_102 rfl rfl (by decide) ?_
        refine v_iinc X (v := 1) [(3, .int 1), (0, .ref (ad z 0 0)), (1, .int x1), (2, .int x2)] d_Desk_begin_105 rfl (by decide) (by decide) rfl ?_
        refine v_goto X (tgt := 76) d_Desk_begin_108 (by decide) ?_
        refine v_iload_n X d_Desk_begin_76 rfl ?_
        refine v_bipush X (v := 8) d_Desk_begin_77 rfl ?_
        refine v_icmp_ge X 111 d_Desk_begin_79 (by decide) (fun c79 => absurd c79 (by decide)) (fun _ => ?_)
        refine v_aload_n X d_Desk_begin_82 rfl rfl ?_
        refine w_getr X (ix2 := 0) rfl rfl F_Desk_11 d_Desk_begin_83 rfl (by decide) ?_
        refine v_iload_n X d_Desk_begin_86 rfl ?_
        refine w_aaldN X (ix2 := 1) 1 rfl rfl rfl d_Desk_begin_87 rfl (by decide) (by decide) (by decide) ?_
        refine v_aload_n X d_Desk_begin_88 rfl rfl ?_
        refine w_geti X rfl rfl F_Desk_106 d_Desk_begin_89 (by decide) ?_
        refine v_int (y := s 0 0 7) (by simp [k_set_of]) ?_
        refine v_aload_n X d_Desk_begin_92 rfl rfl ?_
        refine w_getr X (ix2 := 0) rfl rfl F_Desk_11 d_Desk_begin_93 rfl (by decide) ?_
        refine v_iload_n X d_Desk_begin_96 rfl ?_
        refine w_aaldN X (ix2 := 1) 1 rfl rfl rfl d_Desk_begin_97 rfl (by decide) (by decide) (by decide) ?_
        refine w_geti X rfl rfl F_Desk_112 d_Desk_begin_98 (by decide) ?_
        refine v_int (y := s 3 1 3) (by simp [k_set_of]) ?_
        refine v_iadd X d_Desk_begin_101 ?_
        refine w_put X rfl rfl P_Desk_115 d_Desk_begin_102 rfl rfl (by decide) ?_
        refine v_iinc X (v := 2) [(3, .int 2), (0, .ref (ad z 0 0)), (1, .int x1), (2, .int x2)] d_Desk_begin_105 rfl (by decide) (by decide) rfl ?_
        refine v_goto X (tgt := 76) d_Desk_begin_108 (by decide) ?_
        refine v_iload_n X d_Desk_begin_76 rfl ?_
        refine v_bipush X (v := 8) d_Desk_begin_77 rfl ?_
        refine v_icmp_ge X 111 d_Desk_begin_79 (by decide) (fun c79 => absurd c79 (by decide)) (fun _ => ?_)
        refine v_aload_n X d_Desk_begin_82 rfl rfl ?_
        refine w_getr X (ix2 := 0) rfl rfl F_Desk_11 d_Desk_begin_83 rfl (by decide) ?_
        refine v_iload_n X d_Desk_begin_86 rfl ?_
        refine w_aaldN X (ix2 := 2) 2 rfl rfl rfl d_Desk_begin_87 rfl (by decide) (by decide) (by decide) ?_
        refine v_aload_n X d_Desk_begin_88 rfl rfl ?_
        refine w_geti X rfl rfl F_Desk_106 d_Desk_begin_89 (by decide) ?_
        refine v_int (y := s 0 0 7) (by simp [k_set_of]) ?_
        refine v_aload_n X d_Desk_begin_92 rfl rfl ?_
        refine w_getr X (ix2 := 0) rfl rfl F_Desk_11 d_Desk_begin_93 rfl (by decide) ?_
        refine v_iload_n X d_Desk_begin_96 rfl ?_
        refine w_aaldN X (ix2 := 2) 2 rfl rfl rfl d_Desk_begin_97 rfl (by decide) (by decide) (by decide) ?_
        refine w_geti X rfl rfl F_Desk_112 d_Desk_begin_98 (by decide) ?_
        refine v_int (y := s 3 2 3) (by simp [k_set_of]) ?_
        refine v_iadd X d_Desk_begin_101 ?_
        refine w_put X rfl rfl P_Desk_115 d_Desk_begin_102 rfl rfl (by decide) ?_
        refine v_iinc X (v := 3) [(3, .int 3), (0, .ref (ad z 0 0)), (1, .int x1), (2, .int x2)] d_Desk_begin_105 rfl (by decide) (by decide) rfl ?_
        refine v_goto X (tgt := 76) d_Desk_begin_108 (by decide) ?_
        refine v_iload_n X d_Desk_begin_76 rfl ?_
        refine v_bipush X (v := 8) d_Desk_begin_77 rfl ?_
        refine v_icmp_ge X 111 d_Desk_begin_79 (by decide) (fun c79 => absurd c79 (by decide)) (fun _ => ?_)
        refine v_aload_n X d_Desk_begin_82 rfl rfl ?_
        refine w_getr X (ix2 := 0) rfl rfl F_Desk_11 d_Desk_begin_83 rfl (by decide) ?_
        refine v_iload_n X d_Desk_begin_86 rfl ?_
        refine w_aaldN X (ix2 := 3) 3 rfl rfl rfl d_Desk_begin_87 rfl (by decide) (by decide) (by decide) ?_
        refine v_aload_n X d_Desk_begin_88 rfl rfl ?_
        refine w_geti X rfl rfl F_Desk_106 d_Desk_begin_89 (by decide) ?_
        refine v_int (y := s 0 0 7) (by simp [k_set_of]) ?_
        refine v_aload_n X d_Desk_begin_92 rfl rfl ?_
        refine w_getr X (ix2 := 0) rfl rfl F_Desk_11 d_Desk_begin_93 rfl (by decide) ?_
        refine v_iload_n X d_Desk_begin_96 rfl ?_
        refine w_aaldN X (ix2 := 3) 3 rfl rfl rfl d_Desk_begin_97 rfl (by decide) (by decide) (by decide) ?_
        refine w_geti X rfl rfl F_Desk_112 d_Desk_begin_98 (by decide) ?_
        refine v_int (y := s 3 3 3) (by simp [k_set_of]) ?_
        refine v_iadd X d_Desk_begin_101 ?_
        refine w_put X rfl rfl P_Desk_115 d_Desk_begin_102 rfl rfl (by decide) ?_
        refine v_iinc X (v := 4) [(3, .int 4), (0, .ref (ad z 0 0)), (1, .int x1), (2, .int x2)] d_Desk_begin_105 rfl (by decide) (by decide) rfl ?_
        refine v_goto X (tgt := 76) d_Desk_begin_108 (by decide) ?_
        refine v_iload_n X d_Desk_begin_76 rfl ?_
        refine v_bipush X (v := 8) d_Desk_begin_77 rfl ?_
        refine v_icmp_ge X 111 d_Desk_begin_79 (by decide) (fun c79 => absurd c79 (by decide)) (fun _ => ?_)
        refine v_aload_n X d_Desk_begin_82 rfl rfl ?_
        refine w_getr X (ix2 := 0) rfl rfl F_Desk_11 d_Desk_begin_83 rfl (by decide) ?_
        refine v_iload_n X d_Desk_begin_86 rfl ?_
        refine w_aaldN X (ix2 := 4) 4 rfl rfl rfl d_Desk_begin_87 rfl (by decide) (by decide) (by decide) ?_
        refine v_aload_n X d_Desk_begin_88 rfl rfl ?_
        refine w_geti X rfl rfl F_Desk_106 d_Desk_begin_89 (by decide) ?_
        refine v_int (y := s 0 0 7) (by simp [k_set_of]) ?_
        refine v_aload_n X d_Desk_begin_92 rfl rfl ?_
        refine w_getr X (ix2 := 0) rfl rfl F_Desk_11 d_Desk_begin_93 rfl (by decide) ?_
        refine v_iload_n X d_Desk_begin_96 rfl ?_
        refine w_aaldN X (ix2 := 4) 4 rfl rfl rfl d_Desk_begin_97 rfl (by decide) (by decide) (by decide) ?_
        refine w_geti X rfl rfl F_Desk_112 d_Desk_begin_98 (by decide) ?_
        refine v_int (y := s 3 4 3) (by simp [k_set_of]) ?_
        refine v_iadd X d_Desk_begin_101 ?_
        refine w_put X rfl rfl P_Desk_115 d_Desk_begin_102 rfl rfl (by decide) ?_
        refine v_iinc X (v := 5) [(3, .int 5), (0, .ref (ad z 0 0)), (1, .int x1), (2, .int x2)] d_Desk_begin_105 rfl (by decide) (by decide) rfl ?_
        refine v_goto X (tgt := 76) d_Desk_begin_108 (by decide) ?_
        refine v_iload_n X d_Desk_begin_76 rfl ?_
        refine v_bipush X (v := 8) d_Desk_begin_77 rfl ?_
        refine v_icmp_ge X 111 d_Desk_begin_79 (by decide) (fun c79 => absurd c79 (by decide)) (fun _ => ?_)
        refine v_aload_n X d_Desk_begin_82 rfl rfl ?_
        refine w_getr X (ix2 := 0) rfl rfl F_Desk_11 d_Desk_begin_83 rfl (by decide) ?_
        refine v_iload_n X d_Desk_begin_86 rfl ?_
        refine w_aaldN X (ix2 := 5) 5 rfl rfl rfl d_Desk_begin_87 rfl (by decide) (by decide) (by decide) ?_
        refine v_aload_n X d_Desk_begin_88 rfl rfl ?_
        refine w_geti X rfl rfl F_Desk_106 d_Desk_begin_89 (by decide) ?_
        refine v_int (y := s 0 0 7) (by simp [k_set_of]) ?_
        refine v_aload_n X d_Desk_begin_92 rfl rfl ?_
        refine w_getr X (ix2 := 0) rfl rfl F_Desk_11 d_Desk_begin_93 rfl (by decide) ?_
        refine v_iload_n X d_Desk_begin_96 rfl ?_
        refine w_aaldN X (ix2 := 5) 5 rfl rfl rfl d_Desk_begin_97 rfl (by decide) (by decide) (by decide) ?_
        refine w_geti X rfl rfl F_Desk_112 d_Desk_begin_98 (by decide) ?_
        refine v_int (y := s 3 5 3) (by simp [k_set_of]) ?_
        refine v_iadd X d_Desk_begin_101 ?_
        refine w_put X rfl rfl P_Desk_115 d_Desk_begin_102 rfl rfl (by decide) ?_
        refine v_iinc X (v := 6) [(3, .int 6), (0, .ref (ad z 0 0)), (1, .int x1), (2, .int x2)] d_Desk_begin_105 rfl (by decide) (by decide) rfl ?_
        refine v_goto X (tgt := 76) d_Desk_begin_108 (by decide) ?_
        refine v_iload_n X d_Desk_begin_76 rfl ?_
        refine v_bipush X (v := 8) d_Desk_begin_77 rfl ?_
        refine v_icmp_ge X 111 d_Desk_begin_79 (by decide) (fun c79 => absurd c79 (by decide)) (fun _ => ?_)
        refine v_aload_n X d_Desk_begin_82 rfl rfl ?_
        refine w_getr X (ix2 := 0) rfl rfl F_Desk_11 d_Desk_begin_83 rfl (by decide) ?_
        refine v_iload_n X d_Desk_begin_86 rfl ?_
        refine w_aaldN X (ix2 := 6) 6 rfl rfl rfl d_Desk_begin_87 rfl (by decide) (by decide) (by decide) ?_
        refine v_aload_n X d_Desk_begin_88 rfl rfl ?_
        refine w_geti X rfl rfl F_Desk_106 d_Desk_begin_89 (by decide) ?_
        refine v_int (y := s 0 0 7) (by simp [k_set_of]) ?_
        refine v_aload_n X d_Desk_begin_92 rfl rfl ?_
        refine w_getr X (ix2 := 0) rfl rfl F_Desk_11 d_Desk_begin_93 rfl (by decide) ?_
        refine v_iload_n X d_Desk_begin_96 rfl ?_
        refine w_aaldN X (ix2 := 6) 6 rfl rfl rfl d_Desk_begin_97 rfl (by decide) (by decide) (by decide) ?_
        refine w_geti X rfl rfl F_Desk_112 d_Desk_begin_98 (by decide) ?_
        refine v_int (y := s 3 6 3) (by simp [k_set_of]) ?_
        refine v_iadd X d_Desk_begin_101 ?_
        refine w_put X rfl rfl P_Desk_115 d_Desk_begin_102 rfl rfl (by decide) ?_
        refine v_iinc X (v := 7) [(3, .int 7), (0, .ref (ad z 0 0)), (1, .int x1), (2, .int x2)] d_Desk_begin_105 rfl (by decide) (by decide) rfl ?_
        refine v_goto X (tgt := 76) d_Desk_begin_108 (by decide) ?_
        refine v_iload_n X d_Desk_begin_76 rfl ?_
        refine v_bipush X (v := 8) d_Desk_begin_77 rfl ?_
        refine v_icmp_ge X 111 d_Desk_begin_79 (by decide) (fun c79 => absurd c79 (by decide)) (fun _ => ?_)
        refine v_aload_n X d_Desk_begin_82 rfl rfl ?_
        refine w_getr X (ix2 := 0) rfl rfl F_Desk_11 d_Desk_begin_83 rfl (by decide) ?_
        refine v_iload_n X d_Desk_begin_86 rfl ?_
        refine w_aaldN X (ix2 := 7) 7 rfl rfl rfl d_Desk_begin_87 rfl (by decide) (by decide) (by decide) ?_
        refine v_aload_n X d_Desk_begin_88 rfl rfl ?_
        refine w_geti X rfl rfl F_Desk_106 d_Desk_begin_89 (by decide) ?_
        refine v_int (y := s 0 0 7) (by simp [k_set_of]) ?_
        refine v_aload_n X d_Desk_begin_92 rfl rfl ?_
        refine w_getr X (ix2 := 0) rfl rfl F_Desk_11 d_Desk_begin_93 rfl (by decide) ?_
        refine v_iload_n X d_Desk_begin_96 rfl ?_
        refine w_aaldN X (ix2 := 7) 7 rfl rfl rfl d_Desk_begin_97 rfl (by decide) (by decide) (by decide) ?_
        refine w_geti X rfl rfl F_Desk_112 d_Desk_begin_98 (by decide) ?_
        refine v_int (y := s 3 7 3) (by simp [k_set_of]) ?_
        refine v_iadd X d_Desk_begin_101 ?_
        refine w_put X rfl rfl P_Desk_115 d_Desk_begin_102 rfl rfl (by decide) ?_
        refine v_iinc X (v := 8) [(3, .int 8), (0, .ref (ad z 0 0)), (1, .int x1), (2, .int x2)] d_Desk_begin_105 rfl (by decide) (by decide) rfl ?_
        refine v_goto X (tgt := 76) d_Desk_begin_108 (by decide) ?_
        refine v_iload_n X d_Desk_begin_76 rfl ?_
        refine v_bipush X (v := 8) d_Desk_begin_77 rfl ?_
        refine v_icmp_ge X 111 d_Desk_begin_79 (by decide) (fun _ => ?_) (fun c79 => absurd (by decide) c79)
        refine v_aload_n X d_Desk_begin_111 rfl rfl ?_
        refine v_dup X d_Desk_begin_112 rfl ?_
        refine w_geti X rfl rfl F_Desk_118 d_Desk_begin_113 (by decide) ?_
        refine v_int (y := s 0 0 8) (by simp [k_set_of]) ?_
        refine v_int (y := 0) hms ?_
        refine v_iconst X (v := 1) d_Desk_begin_116 rfl ?_
        refine v_iadd X d_Desk_begin_117 ?_
        refine v_int (y := 1) (by decide) ?_
        refine w_put X rfl rfl P_Desk_118 d_Desk_begin_118 rfl rfl (by decide) ?_
        refine v_aload_n X d_Desk_begin_121 rfl rfl ?_
        refine w_geti X rfl rfl F_Desk_118 d_Desk_begin_122 (by decide) ?_
        refine v_int (y := 1) (by simp [k_set_of]) ?_
        exact w_iret X E d_Desk_begin_125 rfl rfl ⟨by rw [aB, if_pos ⟨jb_n.mp c6, jb_n.mp c16⟩, if_neg c29], (by repeat (first | exact k_same_refl | refine k_same_set ?_ (by decide)))⟩
      · refine v_aload_n X d_Desk_begin_32 rfl rfl ?_
        refine w_getr X (ix2 := 0) rfl rfl F_Desk_25 d_Desk_begin_33 rfl (by decide) ?_
        refine w_fVi X (As := []) (rest := []) rfl rfl L_Desk_97 d_Desk_begin_36 (by decide) (C_Turns_anyFrame_0 s hfr) rfl E (by decide) rfl (Nat.le_of_ble_eq_true rfl) ?_
        refine v_if_ne X 45 d_Desk_begin_39 (by decide) (fun c39 => absurd (by decide) c39) (fun _ => ?_)
        refine v_bipush X (v := -2) d_Desk_begin_42 rfl ?_
        exact w_iret X E d_Desk_begin_44 rfl rfl ⟨by rw [aB, if_pos ⟨jb_n.mp c6, jb_n.mp c16⟩, if_pos c29], (by repeat (first | exact k_same_refl | refine k_same_set ?_ (by decide)))⟩
    · refine v_iconst X (v := -1) d_Desk_begin_19 rfl ?_
      exact w_iret X E d_Desk_begin_20 rfl rfl ⟨by rw [aB, if_neg (fun h => jb_0.mp c16 h.2)], (by repeat (first | exact k_same_refl | refine k_same_set ?_ (by decide)))⟩
