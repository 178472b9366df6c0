set_option maxRecDepth 100000 in
set_option maxHeartbeats 4000000 in
theorem I_Desk {D : va_G} {z : Nat} {zs : j_Zs} {ca : Nat → ClassId} (s : k_S) (n q : Nat) (hn : 1 = n) (hz : ∀ j, s 0 0 j = 0) (haor : "MissionDesk$Handler" ∈ zs.2.2.2) (haoe : "MissionDesk$Release" ∈ zs.2.2.2) (haof : "MissionDesk$Frame" ∈ zs.2.2.2) (hnest : ("MissionDesk", 31, ⟨"MissionDesk$MissionArea", "<init>", "()V"⟩, "MissionDesk") ∈ zs.2.2.1) : p_C D z zs ca Y_Desk_init 5 [.ref (ad z 0 0)] n q 319 2525 s (fun s' => (∀ k i, k < 24 → i < cnt k → okc s' k i) ∧ (∀ h, h < 8 → s' 3 h 0 = 0) ∧ (∀ h, h < 8 → s' 7 h 2 = 0) ∧ (∀ f, f < 4 → s' 19 f 0 = 0) ∧ (∀ j, 5 ≤ j → j ≤ 15 → s' 0 0 j = 0) ∧ s' 21 0 0 = 0 ∧ s' 21 0 1 = 0 ∧ s' 17 0 3 = -2 ∧ s' 17 0 4 = 0 ∧ s' 22 0 1 = 0) := by
  refine p_of [(0, .ref (ad z 0 0))] (by decide) (Nat.le_of_ble_eq_true rfl) rfl (fun K X E B => ?_)
  refine v_aload_n X d_Desk_init_0 rfl rfl ?_
  refine v_objinit X O_Desk_1 d_Desk_init_1 (by decide) (Nat.le_of_ble_eq_true rfl) ?_
  refine v_aload_n X d_Desk_init_4 rfl rfl ?_
  refine v_bipush X (v := 8) d_Desk_init_5 rfl ?_
  refine p_newR X (kd := 1) (ix := 0) B rfl rfl A_Desk_9 haor d_Desk_init_7 (by decide) (by decide) (by decide) (by decide) (show 1 = n by omega) (by omega) (by omega) ?_
  refine p_putF X (v := 1) rfl rfl rfl P_Desk_11 rfl d_Desk_init_10 rfl rfl (by decide) (show 0 < n + 1 by omega) ?_
  refine v_iconst X (v := 0) d_Desk_init_13 rfl ?_
  refine v_istore_n X [(1, .int 0), (0, .ref (ad z 0 0))] d_Desk_init_14 (by decide) rfl ?_
  refine v_iload_n X d_Desk_init_15 rfl ?_
  refine v_bipush X (v := 8) d_Desk_init_16 rfl ?_
  refine v_icmp_ge X 41 d_Desk_init_18 (by decide) (fun c => absurd c (by decide)) (fun _ => ?_)
  refine v_aload_n X d_Desk_init_21 rfl rfl ?_
  refine p_getr X (ix2 := 0) rfl rfl F_Desk_11 d_Desk_init_22 rfl (by decide) (show 0 < n + 1 by omega) (by simp [k_set_of, k_up_of]) ?_
  refine v_iload_n X d_Desk_init_25 rfl ?_
  refine p_newO X (kd := 3) (ix := 0) ty_1 B rfl rfl in_1 ty_1_ok N_Desk_9 df_3 d_Desk_init_26 (by decide) (show 2 + 38 * 0 = n + 1 by omega) (by omega) (by omega) ?_
  refine v_dup X d_Desk_init_29 rfl ?_
  refine v_iload_n X d_Desk_init_30 rfl ?_
  refine p_callI X (As := [.int 0]) (rest := [.ref (ad z 3 0), .int 0, .ref (ad z 1 0)]) B L_Desk_15 d_Desk_init_31 (I_Handler _ 0 _ _ 0 (by decide) (by omega) (by simp [k_up_of]) haoe) rfl (by decide) (by omega) (by omega) rfl (Nat.le_of_ble_eq_true rfl) (fun t0 ⟨f0, o0, z0, y0⟩ => ?_)
  have e0 : ∀ k i, ¬ ((3 ≤ k ∧ k ≤ 8 ∧ i = 0) ∨ (9 ≤ k ∧ k ≤ 16 ∧ i / 4 = 0)) → t0 k i = (k_set (k_up s 1 0 (fun _ => 0)) 0 0 0 1) k i := fun k i h0 => by rw [f0 k i h0, k_up_of, if_neg (by omega)]
  have a0 : ∀ q, t0 0 0 q = if q = 0 then 1 else 0 := fun q => by rw [e0 0 0 (by omega)]; simp [k_set_of, k_up_of, hz]
  have b0 : ∀ q, q < 0 → t0 1 0 q = 1 := fun q hq => by rw [e0 1 0 (by omega), k_set_of]; omega
  refine p_aast X 0 rfl rfl rfl rfl rfl d_Desk_init_34 rfl (by decide) (show 1 < n + 1 + 1 + 37 by omega) (by decide) (show 2 + 38 * 0 < n + 1 + 1 + 37 by omega) (by decide) (by decide) ?_
  refine v_iinc X (v := 1) [(1, .int 1), (0, .ref (ad z 0 0))] d_Desk_init_35 rfl (by decide) (by decide) rfl ?_
  refine v_goto X (tgt := 15) d_Desk_init_38 (by decide) ?_
  refine v_iload_n X d_Desk_init_15 rfl ?_
  refine v_bipush X (v := 8) d_Desk_init_16 rfl ?_
  refine v_icmp_ge X 41 d_Desk_init_18 (by decide) (fun c => absurd c (by decide)) (fun _ => ?_)
  refine v_aload_n X d_Desk_init_21 rfl rfl ?_
  refine p_getr X (ix2 := 0) rfl rfl F_Desk_11 d_Desk_init_22 rfl (by decide) (show 0 < n + 1 + 1 + 37 by omega) (by simp [k_set_of, k_up_of, a0]) ?_
  refine v_iload_n X d_Desk_init_25 rfl ?_
  refine p_newO X (kd := 3) (ix := 1) ty_1 B rfl rfl in_1 ty_1_ok N_Desk_9 df_3 d_Desk_init_26 (by decide) (show 2 + 38 * 1 = n + 1 + 1 + 37 by omega) (by omega) (by omega) ?_
  refine v_dup X d_Desk_init_29 rfl ?_
  refine v_iload_n X d_Desk_init_30 rfl ?_
  refine p_callI X (As := [.int 1]) (rest := [.ref (ad z 3 1), .int 1, .ref (ad z 1 0)]) B L_Desk_15 d_Desk_init_31 (I_Handler _ 1 _ _ 1 (by decide) (by omega) (by simp [k_up_of]) haoe) rfl (by decide) (by omega) (by omega) rfl (Nat.le_of_ble_eq_true rfl) (fun t1 ⟨f1, o1, z1, y1⟩ => ?_)
  have e1 : ∀ k i, ¬ ((3 ≤ k ∧ k ≤ 8 ∧ i = 1) ∨ (9 ≤ k ∧ k ≤ 16 ∧ i / 4 = 1)) → t1 k i = (k_set t0 1 0 0 1) k i := fun k i h0 => by rw [f1 k i h0, k_up_of, if_neg (by omega)]
  have a1 : ∀ q, t1 0 0 q = if q = 0 then 1 else 0 := fun q => by rw [e1 0 0 (by omega)]; simp [k_set_of, k_up_of, a0]
  have b1 : ∀ q, q < 1 → t1 1 0 q = 1 := fun q hq => by rw [e1 1 0 (by omega), k_set_of]; by_cases h0 : q = 0; (rw [if_pos ⟨rfl, rfl, h0⟩]); (rw [if_neg (by omega)]; exact b0 q (by omega))
  refine p_aast X 1 rfl rfl rfl rfl rfl d_Desk_init_34 rfl (by decide) (show 1 < n + 1 + 1 + 37 + 1 + 37 by omega) (by decide) (show 2 + 38 * 1 < n + 1 + 1 + 37 + 1 + 37 by omega) (by decide) (by decide) ?_
  refine v_iinc X (v := 2) [(1, .int 2), (0, .ref (ad z 0 0))] d_Desk_init_35 rfl (by decide) (by decide) rfl ?_
  refine v_goto X (tgt := 15) d_Desk_init_38 (by decide) ?_
  refine v_iload_n X d_Desk_init_15 rfl ?_
  refine v_bipush X (v := 8) d_Desk_init_16 rfl ?_
  refine v_icmp_ge X 41 d_Desk_init_18 (by decide) (fun c => absurd c (by decide)) (fun _ => ?_)
  refine v_aload_n X d_Desk_init_21 rfl rfl ?_
  refine p_getr X (ix2 := 0) rfl rfl F_Desk_11 d_Desk_init_22 rfl (by decide) (show 0 < n + 1 + 1 + 37 + 1 + 37 by omega) (by simp [k_set_of, k_up_of, a1]) ?_
  refine v_iload_n X d_Desk_init_25 rfl ?_
  refine p_newO X (kd := 3) (ix := 2) ty_1 B rfl rfl in_1 ty_1_ok N_Desk_9 df_3 d_Desk_init_26 (by decide) (show 2 + 38 * 2 = n + 1 + 1 + 37 + 1 + 37 by omega) (by omega) (by omega) ?_
  refine v_dup X d_Desk_init_29 rfl ?_
  refine v_iload_n X d_Desk_init_30 rfl ?_
  refine p_callI X (As := [.int 2]) (rest := [.ref (ad z 3 2), .int 2, .ref (ad z 1 0)]) B L_Desk_15 d_Desk_init_31 (I_Handler _ 2 _ _ 2 (by decide) (by omega) (by simp [k_up_of]) haoe) rfl (by decide) (by omega) (by omega) rfl (Nat.le_of_ble_eq_true rfl) (fun t2 ⟨f2, o2, z2, y2⟩ => ?_)
  have e2 : ∀ k i, ¬ ((3 ≤ k ∧ k ≤ 8 ∧ i = 2) ∨ (9 ≤ k ∧ k ≤ 16 ∧ i / 4 = 2)) → t2 k i = (k_set t1 1 0 1 1) k i := fun k i h0 => by rw [f2 k i h0, k_up_of, if_neg (by omega)]
  have a2 : ∀ q, t2 0 0 q = if q = 0 then 1 else 0 := fun q => by rw [e2 0 0 (by omega)]; simp [k_set_of, k_up_of, a1]
  have b2 : ∀ q, q < 2 → t2 1 0 q = 1 := fun q hq => by rw [e2 1 0 (by omega), k_set_of]; by_cases h0 : q = 1; (rw [if_pos ⟨rfl, rfl, h0⟩]); (rw [if_neg (by omega)]; exact b1 q (by omega))
  refine p_aast X 2 rfl rfl rfl rfl rfl d_Desk_init_34 rfl (by decide) (show 1 < n + 1 + 1 + 37 + 1 + 37 + 1 + 37 by omega) (by decide) (show 2 + 38 * 2 < n + 1 + 1 + 37 + 1 + 37 + 1 + 37 by omega) (by decide) (by decide) ?_
  refine v_iinc X (v := 3) [(1, .int 3), (0, .ref (ad z 0 0))] d_Desk_init_35 rfl (by decide) (by decide) rfl ?_
  refine v_goto X (tgt := 15) d_Desk_init_38 (by decide) ?_
  refine v_iload_n X d_Desk_init_15 rfl ?_
  refine v_bipush X (v := 8) d_Desk_init_16 rfl ?_
  refine v_icmp_ge X 41 d_Desk_init_18 (by decide) (fun c => absurd c (by decide)) (fun _ => ?_)
  refine v_aload_n X d_Desk_init_21 rfl rfl ?_
  refine p_getr X (ix2 := 0) rfl rfl F_Desk_11 d_Desk_init_22 rfl (by decide) (show 0 < n + 1 + 1 + 37 + 1 + 37 + 1 + 37 by omega) (by simp [k_set_of, k_up_of, a2]) ?_
  refine v_iload_n X d_Desk_init_25 rfl ?_
  refine p_newO X (kd := 3) (ix := 3) ty_1 B rfl rfl in_1 ty_1_ok N_Desk_9 df_3 d_Desk_init_26 (by decide) (show 2 + 38 * 3 = n + 1 + 1 + 37 + 1 + 37 + 1 + 37 by omega) (by omega) (by omega) ?_
  refine v_dup X d_Desk_init_29 rfl ?_
  refine v_iload_n X d_Desk_init_30 rfl ?_
  refine p_callI X (As := [.int 3]) (rest := [.ref (ad z 3 3), .int 3, .ref (ad z 1 0)]) B L_Desk_15 d_Desk_init_31 (I_Handler _ 3 _ _ 3 (by decide) (by omega) (by simp [k_up_of]) haoe) rfl (by decide) (by omega) (by omega) rfl (Nat.le_of_ble_eq_true rfl) (fun t3 ⟨f3, o3, z3, y3⟩ => ?_)
  have e3 : ∀ k i, ¬ ((3 ≤ k ∧ k ≤ 8 ∧ i = 3) ∨ (9 ≤ k ∧ k ≤ 16 ∧ i / 4 = 3)) → t3 k i = (k_set t2 1 0 2 1) k i := fun k i h0 => by rw [f3 k i h0, k_up_of, if_neg (by omega)]
  have a3 : ∀ q, t3 0 0 q = if q = 0 then 1 else 0 := fun q => by rw [e3 0 0 (by omega)]; simp [k_set_of, k_up_of, a2]
  have b3 : ∀ q, q < 3 → t3 1 0 q = 1 := fun q hq => by rw [e3 1 0 (by omega), k_set_of]; by_cases h0 : q = 2; (rw [if_pos ⟨rfl, rfl, h0⟩]); (rw [if_neg (by omega)]; exact b2 q (by omega))
  refine p_aast X 3 rfl rfl rfl rfl rfl d_Desk_init_34 rfl (by decide) (show 1 < n + 1 + 1 + 37 + 1 + 37 + 1 + 37 + 1 + 37 by omega) (by decide) (show 2 + 38 * 3 < n + 1 + 1 + 37 + 1 + 37 + 1 + 37 + 1 + 37 by omega) (by decide) (by decide) ?_
  refine v_iinc X (v := 4) [(1, .int 4), (0, .ref (ad z 0 0))] d_Desk_init_35 rfl (by decide) (by decide) rfl ?_
  refine v_goto X (tgt := 15) d_Desk_init_38 (by decide) ?_
  refine v_iload_n X d_Desk_init_15 rfl ?_
  refine v_bipush X (v := 8) d_Desk_init_16 rfl ?_
  refine v_icmp_ge X 41 d_Desk_init_18 (by decide) (fun c => absurd c (by decide)) (fun _ => ?_)
  refine v_aload_n X d_Desk_init_21 rfl rfl ?_
  refine p_getr X (ix2 := 0) rfl rfl F_Desk_11 d_Desk_init_22 rfl (by decide) (show 0 < n + 1 + 1 + 37 + 1 + 37 + 1 + 37 + 1 + 37 by omega) (by simp [k_set_of, k_up_of, a3]) ?_
  refine v_iload_n X d_Desk_init_25 rfl ?_
  refine p_newO X (kd := 3) (ix := 4) ty_1 B rfl rfl in_1 ty_1_ok N_Desk_9 df_3 d_Desk_init_26 (by decide) (show 2 + 38 * 4 = n + 1 + 1 + 37 + 1 + 37 + 1 + 37 + 1 + 37 by omega) (by omega) (by omega) ?_
  refine v_dup X d_Desk_init_29 rfl ?_
  refine v_iload_n X d_Desk_init_30 rfl ?_
  refine p_callI X (As := [.int 4]) (rest := [.ref (ad z 3 4), .int 4, .ref (ad z 1 0)]) B L_Desk_15 d_Desk_init_31 (I_Handler _ 4 _ _ 4 (by decide) (by omega) (by simp [k_up_of]) haoe) rfl (by decide) (by omega) (by omega) rfl (Nat.le_of_ble_eq_true rfl) (fun t4 ⟨f4, o4, z4, y4⟩ => ?_)
  have e4 : ∀ k i, ¬ ((3 ≤ k ∧ k ≤ 8 ∧ i = 4) ∨ (9 ≤ k ∧ k ≤ 16 ∧ i / 4 = 4)) → t4 k i = (k_set t3 1 0 3 1) k i := fun k i h0 => by rw [f4 k i h0, k_up_of, if_neg (by omega)]
  have a4 : ∀ q, t4 0 0 q = if q = 0 then 1 else 0 := fun q => by rw [e4 0 0 (by omega)]; simp [k_set_of, k_up_of, a3]
  have b4 : ∀ q, q < 4 → t4 1 0 q = 1 := fun q hq => by rw [e4 1 0 (by omega), k_set_of]; by_cases h0 : q = 3; (rw [if_pos ⟨rfl, rfl, h0⟩]); (rw [if_neg (by omega)]; exact b3 q (by omega))
  refine p_aast X 4 rfl rfl rfl rfl rfl d_Desk_init_34 rfl (by decide) (show 1 < n + 1 + 1 + 37 + 1 + 37 + 1 + 37 + 1 + 37 + 1 + 37 by omega) (by decide) (show 2 + 38 * 4 < n + 1 + 1 + 37 + 1 + 37 + 1 + 37 + 1 + 37 + 1 + 37 by omega) (by decide) (by decide) ?_
  refine v_iinc X (v := 5) [(1, .int 5), (0, .ref (ad z 0 0))] d_Desk_init_35 rfl (by decide) (by decide) rfl ?_
  refine v_goto X (tgt := 15) d_Desk_init_38 (by decide) ?_
  refine v_iload_n X d_Desk_init_15 rfl ?_
  refine v_bipush X (v := 8) d_Desk_init_16 rfl ?_
  refine v_icmp_ge X 41 d_Desk_init_18 (by decide) (fun c => absurd c (by decide)) (fun _ => ?_)
  refine v_aload_n X d_Desk_init_21 rfl rfl ?_
  refine p_getr X (ix2 := 0) rfl rfl F_Desk_11 d_Desk_init_22 rfl (by decide) (show 0 < n + 1 + 1 + 37 + 1 + 37 + 1 + 37 + 1 + 37 + 1 + 37 by omega) (by simp [k_set_of, k_up_of, a4]) ?_
  refine v_iload_n X d_Desk_init_25 rfl ?_
  refine p_newO X (kd := 3) (ix := 5) ty_1 B rfl rfl in_1 ty_1_ok N_Desk_9 df_3 d_Desk_init_26 (by decide) (show 2 + 38 * 5 = n + 1 + 1 + 37 + 1 + 37 + 1 + 37 + 1 + 37 + 1 + 37 by omega) (by omega) (by omega) ?_
  refine v_dup X d_Desk_init_29 rfl ?_
  refine v_iload_n X d_Desk_init_30 rfl ?_
  refine p_callI X (As := [.int 5]) (rest := [.ref (ad z 3 5), .int 5, .ref (ad z 1 0)]) B L_Desk_15 d_Desk_init_31 (I_Handler _ 5 _ _ 5 (by decide) (by omega) (by simp [k_up_of]) haoe) rfl (by decide) (by omega) (by omega) rfl (Nat.le_of_ble_eq_true rfl) (fun t5 ⟨f5, o5, z5, y5⟩ => ?_)
  have e5 : ∀ k i, ¬ ((3 ≤ k ∧ k ≤ 8 ∧ i = 5) ∨ (9 ≤ k ∧ k ≤ 16 ∧ i / 4 = 5)) → t5 k i = (k_set t4 1 0 4 1) k i := fun k i h0 => by rw [f5 k i h0, k_up_of, if_neg (by omega)]
  have a5 : ∀ q, t5 0 0 q = if q = 0 then 1 else 0 := fun q => by rw [e5 0 0 (by omega)]; simp [k_set_of, k_up_of, a4]
  have b5 : ∀ q, q < 5 → t5 1 0 q = 1 := fun q hq => by rw [e5 1 0 (by omega), k_set_of]; by_cases h0 : q = 4; (rw [if_pos ⟨rfl, rfl, h0⟩]); (rw [if_neg (by omega)]; exact b4 q (by omega))
  refine p_aast X 5 rfl rfl rfl rfl rfl d_Desk_init_34 rfl (by decide) (show 1 < n + 1 + 1 + 37 + 1 + 37 + 1 + 37 + 1 + 37 + 1 + 37 + 1 + 37 by omega) (by decide) (show 2 + 38 * 5 < n + 1 + 1 + 37 + 1 + 37 + 1 + 37 + 1 + 37 + 1 + 37 + 1 + 37 by omega) (by decide) (by decide) ?_
  refine v_iinc X (v := 6) [(1, .int 6), (0, .ref (ad z 0 0))] d_Desk_init_35 rfl (by decide) (by decide) rfl ?_
  refine v_goto X (tgt := 15) d_Desk_init_38 (by decide) ?_
  refine v_iload_n X d_Desk_init_15 rfl ?_
  refine v_bipush X (v := 8) d_Desk_init_16 rfl ?_
  refine v_icmp_ge X 41 d_Desk_init_18 (by decide) (fun c => absurd c (by decide)) (fun _ => ?_)
  refine v_aload_n X d_Desk_init_21 rfl rfl ?_
  refine p_getr X (ix2 := 0) rfl rfl F_Desk_11 d_Desk_init_22 rfl (by decide) (show 0 < n + 1 + 1 + 37 + 1 + 37 + 1 + 37 + 1 + 37 + 1 + 37 + 1 + 37 by omega) (by simp [k_set_of, k_up_of, a5]) ?_
  refine v_iload_n X d_Desk_init_25 rfl ?_
  refine p_newO X (kd := 3) (ix := 6) ty_1 B rfl rfl in_1 ty_1_ok N_Desk_9 df_3 d_Desk_init_26 (by decide) (show 2 + 38 * 6 = n + 1 + 1 + 37 + 1 + 37 + 1 + 37 + 1 + 37 + 1 + 37 + 1 + 37 by omega) (by omega) (by omega) ?_
  refine v_dup X d_Desk_init_29 rfl ?_
  refine v_iload_n X d_Desk_init_30 rfl ?_
  refine p_callI X (As := [.int 6]) (rest := [.ref (ad z 3 6), .int 6, .ref (ad z 1 0)]) B L_Desk_15 d_Desk_init_31 (I_Handler _ 6 _ _ 6 (by decide) (by omega) (by simp [k_up_of]) haoe) rfl (by decide) (by omega) (by omega) rfl (Nat.le_of_ble_eq_true rfl) (fun t6 ⟨f6, o6, z6, y6⟩ => ?_)
  have e6 : ∀ k i, ¬ ((3 ≤ k ∧ k ≤ 8 ∧ i = 6) ∨ (9 ≤ k ∧ k ≤ 16 ∧ i / 4 = 6)) → t6 k i = (k_set t5 1 0 5 1) k i := fun k i h0 => by rw [f6 k i h0, k_up_of, if_neg (by omega)]
  have a6 : ∀ q, t6 0 0 q = if q = 0 then 1 else 0 := fun q => by rw [e6 0 0 (by omega)]; simp [k_set_of, k_up_of, a5]
  have b6 : ∀ q, q < 6 → t6 1 0 q = 1 := fun q hq => by rw [e6 1 0 (by omega), k_set_of]; by_cases h0 : q = 5; (rw [if_pos ⟨rfl, rfl, h0⟩]); (rw [if_neg (by omega)]; exact b5 q (by omega))
  refine p_aast X 6 rfl rfl rfl rfl rfl d_Desk_init_34 rfl (by decide) (show 1 < n + 1 + 1 + 37 + 1 + 37 + 1 + 37 + 1 + 37 + 1 + 37 + 1 + 37 + 1 + 37 by omega) (by decide) (show 2 + 38 * 6 < n + 1 + 1 + 37 + 1 + 37 + 1 + 37 + 1 + 37 + 1 + 37 + 1 + 37 + 1 + 37 by omega) (by decide) (by decide) ?_
  refine v_iinc X (v := 7) [(1, .int 7), (0, .ref (ad z 0 0))] d_Desk_init_35 rfl (by decide) (by decide) rfl ?_
  refine v_goto X (tgt := 15) d_Desk_init_38 (by decide) ?_
  refine v_iload_n X d_Desk_init_15 rfl ?_
  refine v_bipush X (v := 8) d_Desk_init_16 rfl ?_
  refine v_icmp_ge X 41 d_Desk_init_18 (by decide) (fun c => absurd c (by decide)) (fun _ => ?_)
  refine v_aload_n X d_Desk_init_21 rfl rfl ?_
  refine p_getr X (ix2 := 0) rfl rfl F_Desk_11 d_Desk_init_22 rfl (by decide) (show 0 < n + 1 + 1 + 37 + 1 + 37 + 1 + 37 + 1 + 37 + 1 + 37 + 1 + 37 + 1 + 37 by omega) (by simp [k_set_of, k_up_of, a6]) ?_
  refine v_iload_n X d_Desk_init_25 rfl ?_
  refine p_newO X (kd := 3) (ix := 7) ty_1 B rfl rfl in_1 ty_1_ok N_Desk_9 df_3 d_Desk_init_26 (by decide) (show 2 + 38 * 7 = n + 1 + 1 + 37 + 1 + 37 + 1 + 37 + 1 + 37 + 1 + 37 + 1 + 37 + 1 + 37 by omega) (by omega) (by omega) ?_
  refine v_dup X d_Desk_init_29 rfl ?_
  refine v_iload_n X d_Desk_init_30 rfl ?_
  refine p_callI X (As := [.int 7]) (rest := [.ref (ad z 3 7), .int 7, .ref (ad z 1 0)]) B L_Desk_15 d_Desk_init_31 (I_Handler _ 7 _ _ 7 (by decide) (by omega) (by simp [k_up_of]) haoe) rfl (by decide) (by omega) (by omega) rfl (Nat.le_of_ble_eq_true rfl) (fun t7 ⟨f7, o7, z7, y7⟩ => ?_)
  have e7 : ∀ k i, ¬ ((3 ≤ k ∧ k ≤ 8 ∧ i = 7) ∨ (9 ≤ k ∧ k ≤ 16 ∧ i / 4 = 7)) → t7 k i = (k_set t6 1 0 6 1) k i := fun k i h0 => by rw [f7 k i h0, k_up_of, if_neg (by omega)]
  have a7 : ∀ q, t7 0 0 q = if q = 0 then 1 else 0 := fun q => by rw [e7 0 0 (by omega)]; simp [k_set_of, k_up_of, a6]
  have b7 : ∀ q, q < 7 → t7 1 0 q = 1 := fun q hq => by rw [e7 1 0 (by omega), k_set_of]; by_cases h0 : q = 6; (rw [if_pos ⟨rfl, rfl, h0⟩]); (rw [if_neg (by omega)]; exact b6 q (by omega))
  refine p_aast X 7 rfl rfl rfl rfl rfl d_Desk_init_34 rfl (by decide) (show 1 < n + 1 + 1 + 37 + 1 + 37 + 1 + 37 + 1 + 37 + 1 + 37 + 1 + 37 + 1 + 37 + 1 + 37 by omega) (by decide) (show 2 + 38 * 7 < n + 1 + 1 + 37 + 1 + 37 + 1 + 37 + 1 + 37 + 1 + 37 + 1 + 37 + 1 + 37 + 1 + 37 by omega) (by decide) (by decide) ?_
  refine v_iinc X (v := 8) [(1, .int 8), (0, .ref (ad z 0 0))] d_Desk_init_35 rfl (by decide) (by decide) rfl ?_
  refine v_goto X (tgt := 15) d_Desk_init_38 (by decide) ?_
  refine v_iload_n X d_Desk_init_15 rfl ?_
  refine v_bipush X (v := 8) d_Desk_init_16 rfl ?_
  refine v_icmp_ge X 41 d_Desk_init_18 (by decide) (fun _ => ?_) (fun c => absurd (by decide) c)
  refine v_aload_n X d_Desk_init_41 rfl rfl ?_
  refine v_iconst X (v := 4) d_Desk_init_42 rfl ?_
  refine p_newI X (kd := 2) (ix := 0) B rfl (Or.inl rfl) rfl AI d_Desk_init_43 (by decide) (by decide) (by decide) (by decide) (show 306 = n + 1 + 1 + 37 + 1 + 37 + 1 + 37 + 1 + 37 + 1 + 37 + 1 + 37 + 1 + 37 + 1 + 37 by omega) (by omega) (by omega) ?_
  refine p_putF X (v := 1) rfl rfl rfl P_Desk_18 rfl d_Desk_init_45 rfl rfl (by decide) (show 0 < n + 1 + 1 + 37 + 1 + 37 + 1 + 37 + 1 + 37 + 1 + 37 + 1 + 37 + 1 + 37 + 1 + 37 + 1 by omega) ?_
  refine v_iconst X (v := 0) d_Desk_init_48 rfl ?_
  refine v_istore_n X [(1, .int 0), (0, .ref (ad z 0 0))] d_Desk_init_49 (by decide) rfl ?_
  refine v_iload_n X d_Desk_init_50 rfl ?_
  refine v_iconst X (v := 4) d_Desk_init_51 rfl ?_
  refine v_icmp_ge X 69 d_Desk_init_52 (by decide) (fun c => absurd c (by decide)) (fun _ => ?_)
  refine v_aload_n X d_Desk_init_55 rfl rfl ?_
  refine p_getr X (ix2 := 0) rfl rfl F_Desk_18 d_Desk_init_56 rfl (by decide) (show 0 < n + 1 + 1 + 37 + 1 + 37 + 1 + 37 + 1 + 37 + 1 + 37 + 1 + 37 + 1 + 37 + 1 + 37 + 1 by omega) (by simp [k_set_of, k_up_of, a7]) ?_
  refine v_iload_n X d_Desk_init_59 rfl ?_
  refine v_bipush X (v := 9) d_Desk_init_60 rfl ?_
  refine p_iast X 0 rfl rfl d_Desk_init_62 (by decide) (show 306 < n + 1 + 1 + 37 + 1 + 37 + 1 + 37 + 1 + 37 + 1 + 37 + 1 + 37 + 1 + 37 + 1 + 37 + 1 by omega) (by decide) (by decide) ?_
  refine v_iinc X (v := 1) [(1, .int 1), (0, .ref (ad z 0 0))] d_Desk_init_63 rfl (by decide) (by decide) rfl ?_
  refine v_goto X (tgt := 50) d_Desk_init_66 (by decide) ?_
  refine v_iload_n X d_Desk_init_50 rfl ?_
  refine v_iconst X (v := 4) d_Desk_init_51 rfl ?_
  refine v_icmp_ge X 69 d_Desk_init_52 (by decide) (fun c => absurd c (by decide)) (fun _ => ?_)
  refine v_aload_n X d_Desk_init_55 rfl rfl ?_
  refine p_getr X (ix2 := 0) rfl rfl F_Desk_18 d_Desk_init_56 rfl (by decide) (show 0 < n + 1 + 1 + 37 + 1 + 37 + 1 + 37 + 1 + 37 + 1 + 37 + 1 + 37 + 1 + 37 + 1 + 37 + 1 by omega) (by simp [k_set_of, k_up_of, a7]) ?_
  refine v_iload_n X d_Desk_init_59 rfl ?_
  refine v_bipush X (v := 9) d_Desk_init_60 rfl ?_
  refine p_iast X 1 rfl rfl d_Desk_init_62 (by decide) (show 306 < n + 1 + 1 + 37 + 1 + 37 + 1 + 37 + 1 + 37 + 1 + 37 + 1 + 37 + 1 + 37 + 1 + 37 + 1 by omega) (by decide) (by decide) ?_
  refine v_iinc X (v := 2) [(1, .int 2), (0, .ref (ad z 0 0))] d_Desk_init_63 rfl (by decide) (by decide) rfl ?_
  refine v_goto X (tgt := 50) d_Desk_init_66 (by decide) ?_
  refine v_iload_n X d_Desk_init_50 rfl ?_
  refine v_iconst X (v := 4) d_Desk_init_51 rfl ?_
  refine v_icmp_ge X 69 d_Desk_init_52 (by decide) (fun c => absurd c (by decide)) (fun _ => ?_)
  refine v_aload_n X d_Desk_init_55 rfl rfl ?_
  refine p_getr X (ix2 := 0) rfl rfl F_Desk_18 d_Desk_init_56 rfl (by decide) (show 0 < n + 1 + 1 + 37 + 1 + 37 + 1 + 37 + 1 + 37 + 1 + 37 + 1 + 37 + 1 + 37 + 1 + 37 + 1 by omega) (by simp [k_set_of, k_up_of, a7]) ?_
  refine v_iload_n X d_Desk_init_59 rfl ?_
  refine v_bipush X (v := 9) d_Desk_init_60 rfl ?_
  refine p_iast X 2 rfl rfl d_Desk_init_62 (by decide) (show 306 < n + 1 + 1 + 37 + 1 + 37 + 1 + 37 + 1 + 37 + 1 + 37 + 1 + 37 + 1 + 37 + 1 + 37 + 1 by omega) (by decide) (by decide) ?_
  refine v_iinc X (v := 3) [(1, .int 3), (0, .ref (ad z 0 0))] d_Desk_init_63 rfl (by decide) (by decide) rfl ?_
  refine v_goto X (tgt := 50) d_Desk_init_66 (by decide) ?_
  refine v_iload_n X d_Desk_init_50 rfl ?_
  refine v_iconst X (v := 4) d_Desk_init_51 rfl ?_
  refine v_icmp_ge X 69 d_Desk_init_52 (by decide) (fun c => absurd c (by decide)) (fun _ => ?_)
  refine v_aload_n X d_Desk_init_55 rfl rfl ?_
  refine p_getr X (ix2 := 0) rfl rfl F_Desk_18 d_Desk_init_56 rfl (by decide) (show 0 < n + 1 + 1 + 37 + 1 + 37 + 1 + 37 + 1 + 37 + 1 + 37 + 1 + 37 + 1 + 37 + 1 + 37 + 1 by omega) (by simp [k_set_of, k_up_of, a7]) ?_
  refine v_iload_n X d_Desk_init_59 rfl ?_
  refine v_bipush X (v := 9) d_Desk_init_60 rfl ?_
  refine p_iast X 3 rfl rfl d_Desk_init_62 (by decide) (show 306 < n + 1 + 1 + 37 + 1 + 37 + 1 + 37 + 1 + 37 + 1 + 37 + 1 + 37 + 1 + 37 + 1 + 37 + 1 by omega) (by decide) (by decide) ?_
  refine v_iinc X (v := 4) [(1, .int 4), (0, .ref (ad z 0 0))] d_Desk_init_63 rfl (by decide) (by decide) rfl ?_
  refine v_goto X (tgt := 50) d_Desk_init_66 (by decide) ?_
  refine v_iload_n X d_Desk_init_50 rfl ?_
  refine v_iconst X (v := 4) d_Desk_init_51 rfl ?_
  refine v_icmp_ge X 69 d_Desk_init_52 (by decide) (fun _ => ?_) (fun c => absurd (by decide) c)
  refine v_aload_n X d_Desk_init_69 rfl rfl ?_
  refine p_newO X (kd := 17) (ix := 0) ty_6 B rfl rfl in_6 ty_6_ok N_Desk_22 df_17 d_Desk_init_70 (by decide) (show 307 = n + 1 + 1 + 37 + 1 + 37 + 1 + 37 + 1 + 37 + 1 + 37 + 1 + 37 + 1 + 37 + 1 + 37 + 1 by omega) (by omega) (by omega) ?_
  refine v_dup X d_Desk_init_73 rfl ?_
  refine p_callI X (As := []) (rest := [.ref (ad z 17 0), .ref (ad z 0 0)]) B L_Desk_24 d_Desk_init_74 (I_Turns _ _ _ (by omega) (by simp [k_up_of]) haof) rfl (by decide) (by omega) (by omega) rfl (Nat.le_of_ble_eq_true rfl) (fun tT ⟨fT, oT17, oT18, oT19, zT, lT, bT⟩ => ?_)
  have eT : ∀ k i, ¬ ((17 ≤ k ∧ k ≤ 18 ∧ i = 0) ∨ (19 ≤ k ∧ k ≤ 20 ∧ i < 4)) → tT k i = (k_up (k_set (k_set (k_set (k_set (k_set (k_up (k_set t7 1 0 7 1) 2 0 (fun _ => 0)) 0 0 1 1) 2 0 0 9) 2 0 1 9) 2 0 2 9) 2 0 3 9) 17 0 (fun _ => 0)) k i := fT
  have aT : ∀ q, tT 0 0 q = if q = 0 ∨ q = 1 then 1 else 0 := fun q => by
    rw [eT 0 0 (by omega)]
    by_cases h0 : q = 0
    · subst h0; simp [k_set_of, k_up_of, a7]
    · by_cases h1 : q = 1
      · subst h1; simp [k_set_of, k_up_of, a7]
      · simp [k_set_of, k_up_of, a7, h0, h1]
  refine p_putF X (v := 1) rfl rfl rfl P_Desk_25 rfl d_Desk_init_77 rfl rfl (by decide) (show 0 < n + 1 + 1 + 37 + 1 + 37 + 1 + 37 + 1 + 37 + 1 + 37 + 1 + 37 + 1 + 37 + 1 + 37 + 1 + 1 + 9 by omega) ?_
  refine v_aload_n X d_Desk_init_80 rfl rfl ?_
  refine p_newO X (kd := 21) (ix := 0) ty_8 B rfl rfl in_8 ty_8_ok N_Desk_29 df_21 d_Desk_init_81 (by decide) (show 317 = n + 1 + 1 + 37 + 1 + 37 + 1 + 37 + 1 + 37 + 1 + 37 + 1 + 37 + 1 + 37 + 1 + 37 + 1 + 1 + 9 by omega) (by omega) (by omega) ?_
  refine v_dup X d_Desk_init_84 rfl ?_
  refine p_callIN X (As := []) (rest := [.ref (ad z 21 0), .ref (ad z 0 0)]) (host := "MissionDesk") B hnest NEST d_Desk_init_85 (I_Area _ _ _) rfl (by decide) (by omega) (by omega) rfl (Nat.le_of_ble_eq_true rfl) (fun tA eA => ?_)
  refine p_putF X (v := 1) rfl rfl rfl P_Desk_32 rfl d_Desk_init_88 rfl rfl (by decide) (show 0 < n + 1 + 1 + 37 + 1 + 37 + 1 + 37 + 1 + 37 + 1 + 37 + 1 + 37 + 1 + 37 + 1 + 37 + 1 + 1 + 9 + 1 + 0 by omega) ?_
  refine v_aload_n X d_Desk_init_91 rfl rfl ?_
  refine p_newO X (kd := 22) (ix := 0) ty_9 B rfl rfl in_9 ty_9_ok N_Desk_36 df_22 d_Desk_init_92 (by decide) (show 318 = n + 1 + 1 + 37 + 1 + 37 + 1 + 37 + 1 + 37 + 1 + 37 + 1 + 37 + 1 + 37 + 1 + 37 + 1 + 1 + 9 + 1 + 0 by omega) (by omega) (by omega) ?_
  refine v_dup X d_Desk_init_95 rfl ?_
  refine p_callI X (As := []) (rest := [.ref (ad z 22 0), .ref (ad z 0 0)]) B L_Desk_38 d_Desk_init_96 (I_Journal _ _ _ (by omega) (by simp [k_up_of])) rfl (by decide) (by omega) (by omega) rfl (Nat.le_of_ble_eq_true rfl) (fun tJ ⟨fJ, oJ22, oJ23, zJ⟩ => ?_)
  have eJ : ∀ k i, ¬ (22 ≤ k ∧ k ≤ 23 ∧ i = 0) → tJ k i = (k_up (k_set tA 0 0 3 1) 22 0 (fun _ => 0)) k i := fJ
  refine p_putF X (v := 1) rfl rfl rfl P_Desk_39 rfl d_Desk_init_99 rfl rfl (by decide) (show 0 < n + 1 + 1 + 37 + 1 + 37 + 1 + 37 + 1 + 37 + 1 + 37 + 1 + 37 + 1 + 37 + 1 + 37 + 1 + 1 + 9 + 1 + 0 + 1 + 1 by omega) ?_
  refine v_aload_n X d_Desk_init_102 rfl rfl ?_
  refine v_iconst X (v := 0) d_Desk_init_103 rfl ?_
  refine p_put X (v := 0) rfl rfl rfl P_Desk_43 d_Desk_init_104 rfl rfl (by decide) (show 0 < n + 1 + 1 + 37 + 1 + 37 + 1 + 37 + 1 + 37 + 1 + 37 + 1 + 37 + 1 + 37 + 1 + 37 + 1 + 1 + 9 + 1 + 0 + 1 + 1 by omega) ?_
  refine p_ret X B E d_Desk_init_107 rfl (by omega) (by omega) ?_
  have G0 : ∀ k i, ¬ (k = 0 ∧ i = 0) → (k_set (k_set tJ 0 0 4 1) 0 0 5 0) k i = tJ k i := fun k i h0 => by rw [k_set_up, if_neg h0, k_set_up, if_neg h0]
  have G1 : ∀ k i, ¬ (k = 0 ∧ i = 0) → ¬ (21 ≤ k ∧ k ≤ 23) → tJ k i = tT k i := fun k i h0 h1 => by rw [eJ k i (by omega), k_up_of, if_neg (by omega), k_set_up, if_neg h0, eA, k_up_of, if_neg (by omega), k_set_up, if_neg h0]
  have G2 : ∀ k i, ¬ (17 ≤ k ∧ k ≤ 20) → tT k i = (k_set (k_set (k_set (k_set (k_set (k_up (k_set t7 1 0 7 1) 2 0 (fun _ => 0)) 0 0 1 1) 2 0 0 9) 2 0 1 9) 2 0 2 9) 2 0 3 9) k i := fun k i h1 => by rw [eT k i (by omega), k_up_of, if_neg (by omega)]
  have G : ∀ k i, ¬ (k = 0 ∧ i = 0) → ¬ (17 ≤ k ∧ k ≤ 23) → (k_set (k_set tJ 0 0 4 1) 0 0 5 0) k i = (k_set (k_set (k_set (k_set (k_set (k_up (k_set t7 1 0 7 1) 2 0 (fun _ => 0)) 0 0 1 1) 2 0 0 9) 2 0 1 9) 2 0 2 9) 2 0 3 9) k i := fun k i h0 h1 => (G0 k i h0).trans ((G1 k i h0 (by omega)).trans (G2 k i (by omega)))
  have G7 : ∀ k i, 3 ≤ k → k ≤ 16 → (k_set (k_set tJ 0 0 4 1) 0 0 5 0) k i = t7 k i := fun k i h0 h1 => by
    rw [G k i (by omega) (by omega)]
    simp only [k_up_of, k_set_up]
    repeat rw [if_neg (by omega)]
  have H7 : ∀ k i, ((3 ≤ k ∧ k ≤ 8 ∧ i = 7) ∨ (9 ≤ k ∧ k ≤ 16 ∧ i / 4 = 7)) → (k_set (k_set tJ 0 0 4 1) 0 0 5 0) k i = t7 k i := fun k i h0 => G7 k i (by omega) (by omega)
  have H6 : ∀ k i, ((3 ≤ k ∧ k ≤ 8 ∧ i = 6) ∨ (9 ≤ k ∧ k ≤ 16 ∧ i / 4 = 6)) → (k_set (k_set tJ 0 0 4 1) 0 0 5 0) k i = t6 k i := fun k i h0 => by rw [G7 k i (by omega) (by omega), e7 k i (by omega), k_set_up, if_neg (by omega)]
  have H5 : ∀ k i, ((3 ≤ k ∧ k ≤ 8 ∧ i = 5) ∨ (9 ≤ k ∧ k ≤ 16 ∧ i / 4 = 5)) → (k_set (k_set tJ 0 0 4 1) 0 0 5 0) k i = t5 k i := fun k i h0 => by rw [G7 k i (by omega) (by omega), e7 k i (by omega), k_set_up, if_neg (by omega), e6 k i (by omega), k_set_up, if_neg (by omega)]
  have H4 : ∀ k i, ((3 ≤ k ∧ k ≤ 8 ∧ i = 4) ∨ (9 ≤ k ∧ k ≤ 16 ∧ i / 4 = 4)) → (k_set (k_set tJ 0 0 4 1) 0 0 5 0) k i = t4 k i := fun k i h0 => by rw [G7 k i (by omega) (by omega), e7 k i (by omega), k_set_up, if_neg (by omega), e6 k i (by omega), k_set_up, if_neg (by omega), e5 k i (by omega), k_set_up, if_neg (by omega)]
  have H3 : ∀ k i, ((3 ≤ k ∧ k ≤ 8 ∧ i = 3) ∨ (9 ≤ k ∧ k ≤ 16 ∧ i / 4 = 3)) → (k_set (k_set tJ 0 0 4 1) 0 0 5 0) k i = t3 k i := fun k i h0 => by rw [G7 k i (by omega) (by omega), e7 k i (by omega), k_set_up, if_neg (by omega), e6 k i (by omega), k_set_up, if_neg (by omega), e5 k i (by omega), k_set_up, if_neg (by omega), e4 k i (by omega), k_set_up, if_neg (by omega)]
  have H2 : ∀ k i, ((3 ≤ k ∧ k ≤ 8 ∧ i = 2) ∨ (9 ≤ k ∧ k ≤ 16 ∧ i / 4 = 2)) → (k_set (k_set tJ 0 0 4 1) 0 0 5 0) k i = t2 k i := fun k i h0 => by rw [G7 k i (by omega) (by omega), e7 k i (by omega), k_set_up, if_neg (by omega), e6 k i (by omega), k_set_up, if_neg (by omega), e5 k i (by omega), k_set_up, if_neg (by omega), e4 k i (by omega), k_set_up, if_neg (by omega), e3 k i (by omega), k_set_up, if_neg (by omega)]
  have H1 : ∀ k i, ((3 ≤ k ∧ k ≤ 8 ∧ i = 1) ∨ (9 ≤ k ∧ k ≤ 16 ∧ i / 4 = 1)) → (k_set (k_set tJ 0 0 4 1) 0 0 5 0) k i = t1 k i := fun k i h0 => by rw [G7 k i (by omega) (by omega), e7 k i (by omega), k_set_up, if_neg (by omega), e6 k i (by omega), k_set_up, if_neg (by omega), e5 k i (by omega), k_set_up, if_neg (by omega), e4 k i (by omega), k_set_up, if_neg (by omega), e3 k i (by omega), k_set_up, if_neg (by omega), e2 k i (by omega), k_set_up, if_neg (by omega)]
  have H0 : ∀ k i, ((3 ≤ k ∧ k ≤ 8 ∧ i = 0) ∨ (9 ≤ k ∧ k ≤ 16 ∧ i / 4 = 0)) → (k_set (k_set tJ 0 0 4 1) 0 0 5 0) k i = t0 k i := fun k i h0 => by rw [G7 k i (by omega) (by omega), e7 k i (by omega), k_set_up, if_neg (by omega), e6 k i (by omega), k_set_up, if_neg (by omega), e5 k i (by omega), k_set_up, if_neg (by omega), e4 k i (by omega), k_set_up, if_neg (by omega), e3 k i (by omega), k_set_up, if_neg (by omega), e2 k i (by omega), k_set_up, if_neg (by omega), e1 k i (by omega), k_set_up, if_neg (by omega)]
  have J0 : ∀ q, tJ 0 0 q = if q = 0 ∨ q = 1 ∨ q = 2 ∨ q = 3 then 1 else 0 := fun q => by
    rw [eJ 0 0 (by omega)]
    rcases (show q = 0 ∨ q = 1 ∨ q = 2 ∨ q = 3 ∨ 4 ≤ q by omega) with rfl | rfl | rfl | rfl | h4
    · simp [k_set_of, k_up_of, eA, aT]
    · simp [k_set_of, k_up_of, eA, aT]
    · simp [k_set_of, k_up_of, eA, aT]
    · simp [k_set_of, k_up_of, eA, aT]
    · simp [k_set_of, k_up_of, eA, aT, show ¬ q = 0 by omega, show ¬ q = 1 by omega, show ¬ q = 2 by omega, show ¬ q = 3 by omega]
  have T1 : ∀ k i, 17 ≤ k → k ≤ 20 → (k_set (k_set tJ 0 0 4 1) 0 0 5 0) k i = tT k i := fun k i h0 h1 => (G0 k i (by omega)).trans (G1 k i (by omega) (by omega))
  have T2 : ∀ i q, (k_set (k_set tJ 0 0 4 1) 0 0 5 0) 22 i q = tJ 22 i q := fun i q => by simp [k_set_of]
  refine ⟨fun k i hk hi => ?_, fun h hh => ?_, fun h hh => ?_, fun f hf => ?_, fun j h5 h15 => ?_, ?_, ?_, ?_, ?_, ?_⟩
  · by_cases hm : 3 ≤ k ∧ k ≤ 16
    · obtain ⟨h, hh, hb⟩ : ∃ h, h < 8 ∧ ((3 ≤ k ∧ k ≤ 8 ∧ i = h) ∨ (9 ≤ k ∧ k ≤ 16 ∧ i / 4 = h)) := by
        by_cases h8 : k ≤ 8
        · refine ⟨i, ?_, Or.inl ⟨hm.1, h8, rfl⟩⟩
          have hc : ∀ k, 3 ≤ k → k ≤ 8 → cnt k = 8 := by intro k h1 h2; rcases (show k = 3 ∨ k = 4 ∨ k = 5 ∨ k = 6 ∨ k = 7 ∨ k = 8 by omega) with rfl | rfl | rfl | rfl | rfl | rfl <;> rfl
          rw [hc k hm.1 h8] at hi; exact hi
        · refine ⟨i / 4, ?_, Or.inr ⟨by omega, hm.2, rfl⟩⟩
          have hc : ∀ k, 9 ≤ k → k ≤ 16 → cnt k = 32 := by intro k h1 h2; rcases (show k = 9 ∨ k = 10 ∨ k = 11 ∨ k = 12 ∨ k = 13 ∨ k = 14 ∨ k = 15 ∨ k = 16 by omega) with rfl | rfl | rfl | rfl | rfl | rfl | rfl | rfl <;> rfl
          rw [hc k (by omega) hm.2] at hi; omega
      rcases (show h = 0 ∨ h = 1 ∨ h = 2 ∨ h = 3 ∨ h = 4 ∨ h = 5 ∨ h = 6 ∨ h = 7 by omega) with rfl | rfl | rfl | rfl | rfl | rfl | rfl | rfl
      · exact okc_cong (H0 k i hb) (o0 k i hb)
      · exact okc_cong (H1 k i hb) (o1 k i hb)
      · exact okc_cong (H2 k i hb) (o2 k i hb)
      · exact okc_cong (H3 k i hb) (o3 k i hb)
      · exact okc_cong (H4 k i hb) (o4 k i hb)
      · exact okc_cong (H5 k i hb) (o5 k i hb)
      · exact okc_cong (H6 k i hb) (o6 k i hb)
      · exact okc_cong (H7 k i hb) (o7 k i hb)
    · rcases (show k = 0 ∨ k = 1 ∨ k = 2 ∨ k = 17 ∨ k = 18 ∨ k = 19 ∨ k = 20 ∨ k = 21 ∨ k = 22 ∨ k = 23 by omega) with rfl | rfl | rfl | rfl | rfl | rfl | rfl | rfl | rfl | rfl
      · obtain rfl : i = 0 := by have : cnt 0 = 1 := rfl; omega
        exact okc_0 (by simp [k_set_of, J0]) (by simp [k_set_of, J0]) (by simp [k_set_of, J0]) (by simp [k_set_of, J0]) (by simp [k_set_of])
      · obtain rfl : i = 0 := by have : cnt 1 = 1 := rfl; omega
        refine okc_1 (fun j hj => ?_)
        have h1 : (k_set (k_set tJ 0 0 4 1) 0 0 5 0) 1 0 j = 1 := by
          rw [G 1 0 (by omega) (by omega)]
          by_cases h7 : j = 7
          · subst h7; simp [k_set_of, k_up_of]
          · simp [k_set_of, k_up_of, h7, b7 j (by omega)]
        rw [h1]; decide
      · exact fun ca z => rfl
      · obtain rfl : i = 0 := by have : cnt 17 = 1 := rfl; omega
        exact okc_cong (T1 17 0 (by omega) (by omega)) oT17
      · obtain rfl : i = 0 := by have : cnt 18 = 1 := rfl; omega
        exact okc_cong (T1 18 0 (by omega) (by omega)) oT18
      · exact okc_cong (T1 19 i (by omega) (by omega)) (oT19 19 i (by omega) (by omega) hi)
      · exact okc_cong (T1 20 i (by omega) (by omega)) (oT19 20 i (by omega) (by omega) hi)
      · exact okc_21
      · obtain rfl : i = 0 := by have : cnt 22 = 1 := rfl; omega
        exact okc_cong (by simp [k_set_up]) oJ22
      · exact fun ca z => rfl
  · rcases (show h = 0 ∨ h = 1 ∨ h = 2 ∨ h = 3 ∨ h = 4 ∨ h = 5 ∨ h = 6 ∨ h = 7 by omega) with rfl | rfl | rfl | rfl | rfl | rfl | rfl | rfl
    · rw [H0 3 0 (by omega)]; exact z0
    · rw [H1 3 1 (by omega)]; exact z1
    · rw [H2 3 2 (by omega)]; exact z2
    · rw [H3 3 3 (by omega)]; exact z3
    · rw [H4 3 4 (by omega)]; exact z4
    · rw [H5 3 5 (by omega)]; exact z5
    · rw [H6 3 6 (by omega)]; exact z6
    · rw [H7 3 7 (by omega)]; exact z7
  · rcases (show h = 0 ∨ h = 1 ∨ h = 2 ∨ h = 3 ∨ h = 4 ∨ h = 5 ∨ h = 6 ∨ h = 7 by omega) with rfl | rfl | rfl | rfl | rfl | rfl | rfl | rfl
    · rw [H0 7 0 (by omega)]; exact y0
    · rw [H1 7 1 (by omega)]; exact y1
    · rw [H2 7 2 (by omega)]; exact y2
    · rw [H3 7 3 (by omega)]; exact y3
    · rw [H4 7 4 (by omega)]; exact y4
    · rw [H5 7 5 (by omega)]; exact y5
    · rw [H6 7 6 (by omega)]; exact y6
    · rw [H7 7 7 (by omega)]; exact y7
  · rw [T1 19 f (by omega) (by omega)]; exact zT f hf
  · by_cases hj : j = 5
    · subst hj; simp [k_set_of]
    · simp [k_set_of, J0, hj, show ¬ j = 4 by omega, show ¬ j = 0 by omega, show ¬ j = 1 by omega, show ¬ j = 2 by omega, show ¬ j = 3 by omega]
  · rw [k_set_of, if_neg (by omega), k_set_of, if_neg (by omega), eJ 21 0 (by omega)]; simp [k_set_of, k_up_of, eA]
  · rw [k_set_of, if_neg (by omega), k_set_of, if_neg (by omega), eJ 21 0 (by omega)]; simp [k_set_of, k_up_of, eA]
  · rw [T1 17 0 (by omega) (by omega)]; exact lT
  · rw [T1 17 0 (by omega) (by omega)]; exact bT
  · rw [T2]; exact zJ
