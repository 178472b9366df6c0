theorem AI : Cond.arrayClass (newarray.typeOf .int) ∈ jT := jm 121 (by decide +kernel) rfl
theorem AZ : Cond.arrayClass (newarray.typeOf .boolean) ∈ jT := jm 842 (by decide +kernel) rfl
theorem NEST : Cond.initialized "MissionDesk$MissionArea" ∈ jT ∧ Cond.code Y_MissionArea_init.1 Y_MissionArea_init.2.1 Y_MissionArea_init.2.2.1 Y_MissionArea_init.2.2.2 ∈ jT ∧ Y_MissionArea_init.2.2.1 ≤ 13 ∧ Y_MissionArea_init.1.cls ≠ "java/lang/invoke/MethodHandle" ∧ Y_MissionArea_init.1.cls ≠ "java/lang/invoke/VarHandle" ∧ (parseMethodDescriptor Y_MissionArea_init.1.desc).map (fun d => d.parameters.length) = some 0 ∧ Y_MissionArea_init.1.name = "<init>" ∧ Y_MissionArea_init.2.2.2 = none ∧ Cond.instanceMethod Y_MissionArea_init.1 ∈ jT := ⟨jm 63 (by decide +kernel) rfl, jm 291 (by decide +kernel) rfl, by decide, by decide, by decide, by decide +kernel, rfl, rfl, jm 290 (by decide +kernel) rfl⟩
theorem df_0 : ∀ j, j < 16 → defaultValue (ty_0 j) = vp_V (p_dflt [some (1, fun _ => 0), some (2, fun _ => 0), some (17, fun _ => 0), some (21, fun _ => 0), some (22, fun _ => 0), none, none, none, none, none, none, none, none, none, none, none]) j := by decide +kernel
theorem okc_0 {s : k_S} {i : Nat} (h0 : ¬ s 0 i 0 = 0) (h1 : ¬ s 0 i 1 = 0) (h2 : ¬ s 0 i 2 = 0) (h3 : ¬ s 0 i 3 = 0) (h4 : ¬ s 0 i 4 = 0) : okc s 0 i := fun ca z => by
  show (Sum.inr (0, p_slots z i (s 0 i) [some (1, fun _ => 0), some (2, fun _ => 0), some (17, fun _ => 0), some (21, fun _ => 0), some (22, fun _ => 0), none, none, none, none, none, none, none, none, none, none, none]) : va_E) = .inr (0, k_slots z i (s 0 i) [some (1, fun _ => 0), some (2, fun _ => 0), some (17, fun _ => 0), some (21, fun _ => 0), some (22, fun _ => 0), none, none, none, none, none, none, none, none, none, none, none])
  simp [p_slots, k_slots, h0, h1, h2, h3, h4]
theorem df_3 : ∀ j, j < 14 → defaultValue (ty_1 j) = vp_V (p_dflt [none, none, none, none, none, none, none, none, none, some (4, fun i => i), some (5, fun i => i), some (6, fun i => i), some (7, fun i => i), none]) j := by decide +kernel
theorem okc_3 {s : k_S} {i : Nat} (h9 : ¬ s 3 i 9 = 0) (h10 : ¬ s 3 i 10 = 0) (h11 : ¬ s 3 i 11 = 0) (h12 : ¬ s 3 i 12 = 0) : okc s 3 i := fun ca z => by
  show (Sum.inr (1, p_slots z i (s 3 i) [none, none, none, none, none, none, none, none, none, some (4, fun i => i), some (5, fun i => i), some (6, fun i => i), some (7, fun i => i), none]) : va_E) = .inr (1, k_slots z i (s 3 i) [none, none, none, none, none, none, none, none, none, some (4, fun i => i), some (5, fun i => i), some (6, fun i => i), some (7, fun i => i), none])
  simp [p_slots, k_slots, h9, h10, h11, h12]
theorem df_7 : ∀ j, j < 3 → defaultValue (ty_2 j) = vp_V (p_dflt [some (8, fun i => i), none, none]) j := by decide +kernel
theorem okc_7 {s : k_S} {i : Nat} (h0 : ¬ s 7 i 0 = 0) : okc s 7 i := fun ca z => by
  show (Sum.inr (2, p_slots z i (s 7 i) [some (8, fun i => i), none, none]) : va_E) = .inr (2, k_slots z i (s 7 i) [some (8, fun i => i), none, none])
  simp [p_slots, k_slots, h0]
theorem df_9 : ∀ j, j < 8 → defaultValue (ty_3 j) = vp_V (p_dflt [none, some (10, fun i => i), some (15, fun i => i), none, none, none, none, none]) j := by decide +kernel
theorem okc_9 {s : k_S} {i : Nat} (h1 : ¬ s 9 i 1 = 0) (h2 : ¬ s 9 i 2 = 0) : okc s 9 i := fun ca z => by
  show (Sum.inr (3, p_slots z i (s 9 i) [none, some (10, fun i => i), some (15, fun i => i), none, none, none, none, none]) : va_E) = .inr (3, k_slots z i (s 9 i) [none, some (10, fun i => i), some (15, fun i => i), none, none, none, none, none])
  simp [p_slots, k_slots, h1, h2]
theorem df_10 : ∀ j, j < 6 → defaultValue (ty_4 j) = vp_V (p_dflt [some (11, fun i => i), some (12, fun i => i), none, some (13, fun i => i), some (14, fun i => i), none]) j := by decide +kernel
theorem okc_10 {s : k_S} {i : Nat} (h0 : ¬ s 10 i 0 = 0) (h1 : ¬ s 10 i 1 = 0) (h3 : ¬ s 10 i 3 = 0) (h4 : ¬ s 10 i 4 = 0) : okc s 10 i := fun ca z => by
  show (Sum.inr (4, p_slots z i (s 10 i) [some (11, fun i => i), some (12, fun i => i), none, some (13, fun i => i), some (14, fun i => i), none]) : va_E) = .inr (4, k_slots z i (s 10 i) [some (11, fun i => i), some (12, fun i => i), none, some (13, fun i => i), some (14, fun i => i), none])
  simp [p_slots, k_slots, h0, h1, h3, h4]
theorem df_15 : ∀ j, j < 2 → defaultValue (ty_5 j) = vp_V (p_dflt [some (16, fun i => i), none]) j := by decide +kernel
theorem okc_15 {s : k_S} {i : Nat} (h0 : ¬ s 15 i 0 = 0) : okc s 15 i := fun ca z => by
  show (Sum.inr (5, p_slots z i (s 15 i) [some (16, fun i => i), none]) : va_E) = .inr (5, k_slots z i (s 15 i) [some (16, fun i => i), none])
  simp [p_slots, k_slots, h0]
theorem df_17 : ∀ j, j < 5 → defaultValue (ty_6 j) = vp_V (p_dflt [some (18, fun _ => 0), none, none, none, none]) j := by decide +kernel
theorem okc_17 {s : k_S} {i : Nat} (h0 : ¬ s 17 i 0 = 0) : okc s 17 i := fun ca z => by
  show (Sum.inr (6, p_slots z i (s 17 i) [some (18, fun _ => 0), none, none, none, none]) : va_E) = .inr (6, k_slots z i (s 17 i) [some (18, fun _ => 0), none, none, none, none])
  simp [p_slots, k_slots, h0]
theorem df_19 : ∀ j, j < 3 → defaultValue (ty_7 j) = vp_V (p_dflt [none, none, some (20, fun i => i)]) j := by decide +kernel
theorem okc_19 {s : k_S} {i : Nat} (h2 : ¬ s 19 i 2 = 0) : okc s 19 i := fun ca z => by
  show (Sum.inr (7, p_slots z i (s 19 i) [none, none, some (20, fun i => i)]) : va_E) = .inr (7, k_slots z i (s 19 i) [none, none, some (20, fun i => i)])
  simp [p_slots, k_slots, h2]
theorem df_21 : ∀ j, j < 2 → defaultValue (ty_8 j) = vp_V (p_dflt [none, none]) j := by decide +kernel
theorem okc_21 {s : k_S} {i : Nat} : okc s 21 i := fun ca z => rfl
theorem df_22 : ∀ j, j < 2 → defaultValue (ty_9 j) = vp_V (p_dflt [some (23, fun _ => 0), none]) j := by decide +kernel
theorem okc_22 {s : k_S} {i : Nat} (h0 : ¬ s 22 i 0 = 0) : okc s 22 i := fun ca z => by
  show (Sum.inr (9, p_slots z i (s 22 i) [some (23, fun _ => 0), none]) : va_E) = .inr (9, k_slots z i (s 22 i) [some (23, fun _ => 0), none])
  simp [p_slots, k_slots, h0]
theorem df_24 : ∀ j, j < 48 → defaultValue (ty_10 j) = vp_V (p_dflt [some (25, fun _ => 0), some (26, fun _ => 0), some (27, fun _ => 0), some (28, fun _ => 0), some (29, fun _ => 0), some (30, fun _ => 0), some (31, fun _ => 0), some (32, fun _ => 0), some (33, fun _ => 0), some (34, fun _ => 0), some (35, fun _ => 0), some (36, fun _ => 0), some (37, fun _ => 0), some (38, fun _ => 0), some (39, fun _ => 0), some (40, fun _ => 0), some (41, fun _ => 0), some (42, fun _ => 0), none, some (43, fun _ => 0), some (44, fun _ => 0), some (45, fun _ => 0), some (46, fun _ => 0), some (47, fun _ => 0), some (48, fun _ => 0), some (49, fun _ => 0), some (50, fun _ => 0), some (51, fun _ => 0), some (52, fun _ => 0), some (53, fun _ => 0), none, none, none, none, none, none, none, none, none, none, none, none, none, none, none, some (54, fun _ => 0), some (55, fun _ => 0), none]) j := by decide +kernel
theorem okc_24 {s : k_S} {i : Nat} (h0 : ¬ s 24 i 0 = 0) (h1 : ¬ s 24 i 1 = 0) (h2 : ¬ s 24 i 2 = 0) (h3 : ¬ s 24 i 3 = 0) (h4 : ¬ s 24 i 4 = 0) (h5 : ¬ s 24 i 5 = 0) (h6 : ¬ s 24 i 6 = 0) (h7 : ¬ s 24 i 7 = 0) (h8 : ¬ s 24 i 8 = 0) (h9 : ¬ s 24 i 9 = 0) (h10 : ¬ s 24 i 10 = 0) (h11 : ¬ s 24 i 11 = 0) (h12 : ¬ s 24 i 12 = 0) (h13 : ¬ s 24 i 13 = 0) (h14 : ¬ s 24 i 14 = 0) (h15 : ¬ s 24 i 15 = 0) (h16 : ¬ s 24 i 16 = 0) (h17 : ¬ s 24 i 17 = 0) (h19 : ¬ s 24 i 19 = 0) (h20 : ¬ s 24 i 20 = 0) (h21 : ¬ s 24 i 21 = 0) (h22 : ¬ s 24 i 22 = 0) (h23 : ¬ s 24 i 23 = 0) (h24 : ¬ s 24 i 24 = 0) (h25 : ¬ s 24 i 25 = 0) (h26 : ¬ s 24 i 26 = 0) (h27 : ¬ s 24 i 27 = 0) (h28 : ¬ s 24 i 28 = 0) (h29 : ¬ s 24 i 29 = 0) (h45 : ¬ s 24 i 45 = 0) (h46 : ¬ s 24 i 46 = 0) : okc s 24 i := fun ca z => by
  show (Sum.inr (10, p_slots z i (s 24 i) [some (25, fun _ => 0), some (26, fun _ => 0), some (27, fun _ => 0), some (28, fun _ => 0), some (29, fun _ => 0), some (30, fun _ => 0), some (31, fun _ => 0), some (32, fun _ => 0), some (33, fun _ => 0), some (34, fun _ => 0), some (35, fun _ => 0), some (36, fun _ => 0), some (37, fun _ => 0), some (38, fun _ => 0), some (39, fun _ => 0), some (40, fun _ => 0), some (41, fun _ => 0), some (42, fun _ => 0), none, some (43, fun _ => 0), some (44, fun _ => 0), some (45, fun _ => 0), some (46, fun _ => 0), some (47, fun _ => 0), some (48, fun _ => 0), some (49, fun _ => 0), some (50, fun _ => 0), some (51, fun _ => 0), some (52, fun _ => 0), some (53, fun _ => 0), none, none, none, none, none, none, none, none, none, none, none, none, none, none, none, some (54, fun _ => 0), some (55, fun _ => 0), none]) : va_E) = .inr (10, k_slots z i (s 24 i) [some (25, fun _ => 0), some (26, fun _ => 0), some (27, fun _ => 0), some (28, fun _ => 0), some (29, fun _ => 0), some (30, fun _ => 0), some (31, fun _ => 0), some (32, fun _ => 0), some (33, fun _ => 0), some (34, fun _ => 0), some (35, fun _ => 0), some (36, fun _ => 0), some (37, fun _ => 0), some (38, fun _ => 0), some (39, fun _ => 0), some (40, fun _ => 0), some (41, fun _ => 0), some (42, fun _ => 0), none, some (43, fun _ => 0), some (44, fun _ => 0), some (45, fun _ => 0), some (46, fun _ => 0), some (47, fun _ => 0), some (48, fun _ => 0), some (49, fun _ => 0), some (50, fun _ => 0), some (51, fun _ => 0), some (52, fun _ => 0), some (53, fun _ => 0), none, none, none, none, none, none, none, none, none, none, none, none, none, none, none, some (54, fun _ => 0), some (55, fun _ => 0), none])
  simp [p_slots, k_slots, h0, h1, h2, h3, h4, h5, h6, h7, h8, h9, h10, h11, h12, h13, h14, h15, h16, h17, h19, h20, h21, h22, h23, h24, h25, h26, h27, h28, h29, h45, h46]
theorem okc_1 {s : k_S} {i : Nat} (h : ∀ j, j < 8 → ¬ s 1 i j = 0) : okc s 1 i := fun ca z => by
  have e : (fun j => if j < 8 ∧ ¬ s 1 i j = 0 then some (ad z 3 ((fun _ j => j) i j)) else none) = fun j => if j < 8 then some (ad z 3 ((fun _ j => j) i j)) else none := by
    funext j
    by_cases hj : j < 8
    · rw [if_pos ⟨hj, h j hj⟩, if_pos hj]
    · rw [if_neg (fun x => hj x.1), if_neg hj]
  show (Sum.inl (ca 2, 8, .inr (.inr (.inr (.inr (fun j => if j < 8 ∧ ¬ s 1 i j = 0 then some (ad z 3 ((fun _ j => j) i j)) else none))))) : va_E) = _
  rw [e]
  rfl
theorem okc_8 {s : k_S} {i : Nat} (h : ∀ j, j < 4 → ¬ s 8 i j = 0) : okc s 8 i := fun ca z => by
  have e : (fun j => if j < 4 ∧ ¬ s 8 i j = 0 then some (ad z 9 ((fun i j => 4 * i + j) i j)) else none) = fun j => if j < 4 then some (ad z 9 ((fun i j => 4 * i + j) i j)) else none := by
    funext j
    by_cases hj : j < 4
    · rw [if_pos ⟨hj, h j hj⟩, if_pos hj]
    · rw [if_neg (fun x => hj x.1), if_neg hj]
  show (Sum.inl (ca 3, 4, .inr (.inr (.inr (.inr (fun j => if j < 4 ∧ ¬ s 8 i j = 0 then some (ad z 9 ((fun i j => 4 * i + j) i j)) else none))))) : va_E) = _
  rw [e]
  rfl
theorem okc_18 {s : k_S} {i : Nat} (h : ∀ j, j < 4 → ¬ s 18 i j = 0) : okc s 18 i := fun ca z => by
  have e : (fun j => if j < 4 ∧ ¬ s 18 i j = 0 then some (ad z 19 ((fun _ j => j) i j)) else none) = fun j => if j < 4 then some (ad z 19 ((fun _ j => j) i j)) else none := by
    funext j
    by_cases hj : j < 4
    · rw [if_pos ⟨hj, h j hj⟩, if_pos hj]
    · rw [if_neg (fun x => hj x.1), if_neg hj]
  show (Sum.inl (ca 4, 4, .inr (.inr (.inr (.inr (fun j => if j < 4 ∧ ¬ s 18 i j = 0 then some (ad z 19 ((fun _ j => j) i j)) else none))))) : va_E) = _
  rw [e]
  rfl
set_option maxRecDepth 100000 in
set_option maxHeartbeats 4000000 in
theorem I_Scopes {D : va_G} {z : Nat} {zs : j_Zs} {ca : Nat → ClassId} (s : k_S) (r n q : Nat) (hr : r < 32) (hn : 9 + 38 * (r / 4) + 8 * (r % 4) + 1 = n) : p_C D z zs ca Y_Scopes_init 1 [.ref (ad z 10 r)] n q 4 44 s (fun s' => (∀ k i, ¬ (10 ≤ k ∧ k ≤ 14 ∧ i = r) → s' k i = s k i) ∧ ∀ k, 10 ≤ k → k ≤ 14 → okc s' k r) := by
  refine p_of [(0, .ref (ad z 10 r))] (by decide) (Nat.le_of_ble_eq_true rfl) rfl (fun K X E B => ?_)
  refine v_aload_n X d_Scopes_init_0 rfl rfl ?_
  refine v_objinit X O_Scopes_3 d_Scopes_init_1 (by decide) (Nat.le_of_ble_eq_true rfl) ?_
  refine v_aload_n X d_Scopes_init_4 rfl rfl ?_
  refine v_bipush X (v := 12) d_Scopes_init_5 rfl ?_
  refine p_newI X (kd := 11) (ix := r) B rfl (Or.inl rfl) rfl AI d_Scopes_init_7 (by decide) (by decide) (by decide) (show r < 32 by omega) (show 10 + 38 * (r / 4) + 8 * (r % 4) = n by omega) (by omega) (by omega) ?_
  refine p_putF X (v := 1) rfl rfl rfl P_Scopes_9 rfl d_Scopes_init_9 rfl rfl (show r < 32 by omega) (show 9 + 38 * (r / 4) + 8 * (r % 4) < n + 1 by omega) ?_
  refine v_aload_n X d_Scopes_init_12 rfl rfl ?_
  refine v_bipush X (v := 12) d_Scopes_init_13 rfl ?_
  refine p_newI X (kd := 12) (ix := r) B rfl (Or.inl rfl) rfl AI d_Scopes_init_15 (by decide) (by decide) (by decide) (show r < 32 by omega) (show 11 + 38 * (r / 4) + 8 * (r % 4) = n + 1 by omega) (by omega) (by omega) ?_
  refine p_putF X (v := 1) rfl rfl rfl P_Scopes_15 rfl d_Scopes_init_17 rfl rfl (show r < 32 by omega) (show 9 + 38 * (r / 4) + 8 * (r % 4) < n + 1 + 1 by omega) ?_
  refine v_aload_n X d_Scopes_init_20 rfl rfl ?_
  refine v_bipush X (v := 10) d_Scopes_init_21 rfl ?_
  refine p_newI X (kd := 13) (ix := r) B rfl (Or.inl rfl) rfl AI d_Scopes_init_23 (by decide) (by decide) (by decide) (show r < 32 by omega) (show 12 + 38 * (r / 4) + 8 * (r % 4) = n + 1 + 1 by omega) (by omega) (by omega) ?_
  refine p_putF X (v := 1) rfl rfl rfl P_Scopes_18 rfl d_Scopes_init_25 rfl rfl (show r < 32 by omega) (show 9 + 38 * (r / 4) + 8 * (r % 4) < n + 1 + 1 + 1 by omega) ?_
  refine v_aload_n X d_Scopes_init_28 rfl rfl ?_
  refine v_bipush X (v := 10) d_Scopes_init_29 rfl ?_
  refine p_newI X (kd := 14) (ix := r) B rfl (Or.inl rfl) rfl AI d_Scopes_init_31 (by decide) (by decide) (by decide) (show r < 32 by omega) (show 13 + 38 * (r / 4) + 8 * (r % 4) = n + 1 + 1 + 1 by omega) (by omega) (by omega) ?_
  refine p_putF X (v := 1) rfl rfl rfl P_Scopes_21 rfl d_Scopes_init_33 rfl rfl (show r < 32 by omega) (show 9 + 38 * (r / 4) + 8 * (r % 4) < n + 1 + 1 + 1 + 1 by omega) ?_
  refine p_ret X B E d_Scopes_init_36 rfl (by omega) (by omega) ?_
  refine ⟨fun k i h => ?_, fun k h1 h2 => ?_⟩
  · simp only [k_set_up, k_up_of]
    repeat rw [if_neg (by omega)]
  · rcases (show k = 10 ∨ k = 11 ∨ k = 12 ∨ k = 13 ∨ k = 14 by omega) with rfl | rfl | rfl | rfl | rfl
    · exact okc_10 (by simp [k_set_of, k_up_of]) (by simp [k_set_of, k_up_of]) (by simp [k_set_of, k_up_of]) (by simp [k_set_of, k_up_of])
    · exact fun ca z => rfl
    · exact fun ca z => rfl
    · exact fun ca z => rfl
    · exact fun ca z => rfl
set_option maxRecDepth 100000 in
set_option maxHeartbeats 4000000 in
theorem I_Held {D : va_G} {z : Nat} {zs : j_Zs} {ca : Nat → ClassId} (s : k_S) (r n q : Nat) (hr : r < 32) (hn : 14 + 38 * (r / 4) + 8 * (r % 4) + 1 = n) : p_C D z zs ca Y_HeldLocks_init 1 [.ref (ad z 15 r)] n q 1 4 s (fun s' => (∀ k i, ¬ (15 ≤ k ∧ k ≤ 16 ∧ i = r) → s' k i = s k i) ∧ ∀ k, 15 ≤ k → k ≤ 16 → okc s' k r) := by
  refine p_of [(0, .ref (ad z 15 r))] (by decide) (Nat.le_of_ble_eq_true rfl) rfl (fun K X E B => ?_)
  refine v_aload_n X d_HeldLocks_init_0 rfl rfl ?_
  refine v_objinit X O_HeldLocks_3 d_HeldLocks_init_1 (by decide) (Nat.le_of_ble_eq_true rfl) ?_
  refine v_aload_n X d_HeldLocks_init_4 rfl rfl ?_
  refine v_iconst X (v := 4) d_HeldLocks_init_5 rfl ?_
  refine p_newI X (kd := 16) (ix := r) B rfl (Or.inl rfl) rfl AI d_HeldLocks_init_6 (by decide) (by decide) (by decide) (show r < 32 by omega) (show 15 + 38 * (r / 4) + 8 * (r % 4) = n by omega) (by omega) (by omega) ?_
  refine p_putF X (v := 1) rfl rfl rfl P_HeldLocks_9 rfl d_HeldLocks_init_8 rfl rfl (show r < 32 by omega) (show 14 + 38 * (r / 4) + 8 * (r % 4) < n + 1 by omega) ?_
  refine p_ret X B E d_HeldLocks_init_11 rfl (by omega) (by omega) ?_
  refine ⟨fun k i h => ?_, fun k h1 h2 => ?_⟩
  · simp only [k_set_up, k_up_of]
    repeat rw [if_neg (by omega)]
  · rcases (show k = 15 ∨ k = 16 by omega) with rfl | rfl
    · exact okc_15 (by simp [k_set_of, k_up_of])
    · exact fun ca z => rfl
set_option maxRecDepth 100000 in
set_option maxHeartbeats 4000000 in
theorem I_Release {D : va_G} {z : Nat} {zs : j_Zs} {ca : Nat → ClassId} (s : k_S) (r n q : Nat) (x : Int32) (hr : r < 32) (hn : 8 + 38 * (r / 4) + 8 * (r % 4) + 1 = n) : p_C D z zs ca Y_Release_init 2 [.ref (ad z 9 r), .int x] n q 7 56 s (fun s' => (∀ k i, ¬ (9 ≤ k ∧ k ≤ 16 ∧ i = r) → s' k i = s k i) ∧ ∀ k, 9 ≤ k → k ≤ 16 → okc s' k r) := by
  refine p_of [(0, .ref (ad z 9 r)), (1, .int x)] (by decide) (Nat.le_of_ble_eq_true rfl) rfl (fun K X E B => ?_)
  refine v_aload_n X d_Release_init_0 rfl rfl ?_
  refine v_objinit X O_Release_1 d_Release_init_1 (by decide) (Nat.le_of_ble_eq_true rfl) ?_
  refine v_aload_n X d_Release_init_4 rfl rfl ?_
  refine v_iload_n X d_Release_init_5 rfl ?_
  refine p_putF X (v := x) rfl rfl rfl P_Release_7 rfl d_Release_init_6 rfl rfl (show r < 32 by omega) (show 8 + 38 * (r / 4) + 8 * (r % 4) < n by omega) ?_
  refine v_aload_n X d_Release_init_9 rfl rfl ?_
  refine p_newO X (kd := 10) (ix := r) ty_4 B rfl rfl in_4 ty_4_ok N_Release_13 df_10 d_Release_init_10 (show r < 32 by omega) (show 9 + 38 * (r / 4) + 8 * (r % 4) = n by omega) (by omega) (by omega) ?_
  refine v_dup X d_Release_init_13 rfl ?_
  refine p_callI X (As := []) (rest := [.ref (ad z 10 r), .ref (ad z 9 r)]) B L_Release_15 d_Release_init_14 (I_Scopes _ r _ _ hr (by omega)) rfl (by decide) (by omega) (by omega) rfl (Nat.le_of_ble_eq_true rfl) (fun s1 ⟨f1, o1⟩ => ?_)
  refine p_putF X (v := 1) rfl rfl rfl P_Release_16 rfl d_Release_init_17 rfl rfl (show r < 32 by omega) (show 8 + 38 * (r / 4) + 8 * (r % 4) < n + 1 + 4 by omega) ?_
  refine v_aload_n X d_Release_init_20 rfl rfl ?_
  refine p_newO X (kd := 15) (ix := r) ty_5 B rfl rfl in_5 ty_5_ok N_Release_20 df_15 d_Release_init_21 (show r < 32 by omega) (show 14 + 38 * (r / 4) + 8 * (r % 4) = n + 1 + 4 by omega) (by omega) (by omega) ?_
  refine v_dup X d_Release_init_24 rfl ?_
  refine p_callI X (As := []) (rest := [.ref (ad z 15 r), .ref (ad z 9 r)]) B L_Release_22 d_Release_init_25 (I_Held _ r _ _ hr (by omega)) rfl (by decide) (by omega) (by omega) rfl (Nat.le_of_ble_eq_true rfl) (fun s2 ⟨f2, o2⟩ => ?_)
  refine p_putF X (v := 1) rfl rfl rfl P_Release_23 rfl d_Release_init_28 rfl rfl (show r < 32 by omega) (show 8 + 38 * (r / 4) + 8 * (r % 4) < n + 1 + 4 + 1 + 1 by omega) ?_
  refine p_ret X B E d_Release_init_31 rfl (by omega) (by omega) ?_
  have e2 : ∀ k i, ¬ (15 ≤ k ∧ k ≤ 16 ∧ i = r) → ¬ (k = 15 ∧ i = r) → s2 k i = k_set s1 9 r 1 1 k i := fun k i h h2 => by rw [f2 k i h, k_up_of, if_neg h2]
  have e1 : ∀ k i, ¬ (10 ≤ k ∧ k ≤ 14 ∧ i = r) → s1 k i = k_set s 9 r 0 x k i := fun k i h => by rw [f1 k i h, k_up_of, if_neg (by omega)]
  refine ⟨fun k i h => ?_, fun k h1 h2 => ?_⟩
  · rw [k_set_up, if_neg (by omega), e2 k i (by omega) (by omega), k_set_up, if_neg (by omega), e1 k i (by omega), k_set_up, if_neg (by omega)]
  · by_cases h9 : k = 9
    · subst h9
      have g1 : s2 9 r 1 = 1 := by rw [e2 9 r (by omega) (by omega), k_set_at]
      exact okc_9 (by rw [k_set_of, if_neg (by omega), g1]; decide) (by rw [k_set_at]; decide)
    · by_cases h15 : 15 ≤ k
      · exact okc_cong (by rw [k_set_up, if_neg (by omega)]) (o2 k h15 h2)
      · exact okc_cong (by rw [k_set_up, if_neg (by omega), e2 k r (by omega) (by omega), k_set_up, if_neg (by omega)]) (o1 k (by omega) (by omega))
set_option maxRecDepth 100000 in
set_option maxHeartbeats 4000000 in
theorem I_Line {D : va_G} {z : Nat} {zs : j_Zs} {ca : Nat → ClassId} (s : k_S) (h n q : Nat) (x : Int32) (hh : h < 8) (hn : 6 + 38 * h + 1 = n) (hz : s 7 h 2 = 0) (haoe : "MissionDesk$Release" ∈ zs.2.2.2) : p_C D z zs ca Y_Line_init 3 [.ref (ad z 7 h), .int x] n q 33 260 s (fun s' => (∀ k i, ¬ ((7 ≤ k ∧ k ≤ 8 ∧ i = h) ∨ (9 ≤ k ∧ k ≤ 16 ∧ i / 4 = h)) → s' k i = s k i) ∧ okc s' 7 h ∧ okc s' 8 h ∧ (∀ k i, 9 ≤ k → k ≤ 16 → i / 4 = h → okc s' k i) ∧ s' 7 h 2 = 0) := by
  refine p_of [(0, .ref (ad z 7 h)), (1, .int x)] (by decide) (Nat.le_of_ble_eq_true rfl) rfl (fun K X E B => ?_)
  refine v_aload_n X d_Line_init_0 rfl rfl ?_
  refine v_objinit X O_Line_3 d_Line_init_1 (by decide) (Nat.le_of_ble_eq_true rfl) ?_
  refine v_aload_n X d_Line_init_4 rfl rfl ?_
  refine v_iconst X (v := 4) d_Line_init_5 rfl ?_
  refine p_newR X (kd := 8) (ix := h) B rfl rfl A_Line_9 haoe d_Line_init_6 (by decide) (by decide) (by decide) (show h < 8 by omega) (show 7 + 38 * h = n by omega) (by omega) (by omega) ?_
  refine p_putF X (v := 1) rfl rfl rfl P_Line_11 rfl d_Line_init_9 rfl rfl (show h < 8 by omega) (show 6 + 38 * h < n + 1 by omega) ?_
  refine v_iconst X (v := 0) d_Line_init_12 rfl ?_
  refine v_istore_n X [(2, .int 0), (0, .ref (ad z 7 h)), (1, .int x)] d_Line_init_13 (by decide) rfl ?_
  refine v_iload_n X d_Line_init_14 rfl ?_
  refine v_iconst X (v := 4) d_Line_init_15 rfl ?_
  refine v_icmp_ge X 39 d_Line_init_16 (by decide) (fun c => absurd c (by decide)) (fun _ => ?_)
  refine v_aload_n X d_Line_init_19 rfl rfl ?_
  refine p_getr X (ix2 := h) rfl rfl F_Line_11 d_Line_init_20 rfl (show h < 8 by omega) (show 6 + 38 * h < n + 1 by omega) (by simp [k_set_of, k_up_of]) ?_
  refine v_iload_n X d_Line_init_23 rfl ?_
  refine p_newO X (kd := 9) (ix := 4 * h + 0) ty_3 B rfl rfl in_3 ty_3_ok N_Line_9 df_9 d_Line_init_24 (show 4 * h + 0 < 32 by omega) (show 8 + 38 * ((4 * h + 0) / 4) + 8 * ((4 * h + 0) % 4) = n + 1 by omega) (by omega) (by omega) ?_
  refine v_dup X d_Line_init_27 rfl ?_
  refine v_iload_n X d_Line_init_28 rfl ?_
  refine p_callI X (As := [.int x]) (rest := [.ref (ad z 9 (4 * h + 0)), .int 0, .ref (ad z 8 h)]) B L_Line_17 d_Line_init_29 (I_Release _ (4 * h + 0) _ _ x (by omega) (by omega)) rfl (by decide) (by omega) (by omega) rfl (Nat.le_of_ble_eq_true rfl) (fun t0 ⟨f0, o0⟩ => ?_)
  have e0 : ∀ k i, ¬ (9 ≤ k ∧ k ≤ 16 ∧ i = 4 * h + 0) → t0 k i = (k_set (k_up s 8 h (fun _ => 0)) 7 h 0 1) k i := fun k i h0 => by rw [f0 k i h0, k_up_of, if_neg (by omega)]
  have g0 : t0 7 h 0 = 1 := by rw [e0 7 h (by omega)]; simp [k_set_of]
  have z0 : t0 7 h 2 = 0 := by rw [e0 7 h (by omega)]; simp [k_set_of, k_up_of, hz]
  refine p_aast X 0 rfl rfl rfl rfl rfl d_Line_init_32 rfl (show h < 8 by omega) (show 7 + 38 * h < n + 1 + 1 + 7 by omega) (show 4 * h + 0 < 32 by omega) (show 8 + 38 * ((4 * h + 0) / 4) + 8 * ((4 * h + 0) % 4) < n + 1 + 1 + 7 by omega) (by decide) (by decide) ?_
  refine v_iinc X (v := 1) [(2, .int 1), (0, .ref (ad z 7 h)), (1, .int x)] d_Line_init_33 rfl (by decide) (by decide) rfl ?_
  refine v_goto X (tgt := 14) d_Line_init_36 (by decide) ?_
  refine v_iload_n X d_Line_init_14 rfl ?_
  refine v_iconst X (v := 4) d_Line_init_15 rfl ?_
  refine v_icmp_ge X 39 d_Line_init_16 (by decide) (fun c => absurd c (by decide)) (fun _ => ?_)
  refine v_aload_n X d_Line_init_19 rfl rfl ?_
  refine p_getr X (ix2 := h) rfl rfl F_Line_11 d_Line_init_20 rfl (show h < 8 by omega) (show 6 + 38 * h < n + 1 + 1 + 7 by omega) (by simp [k_set_of, k_up_of, g0]) ?_
  refine v_iload_n X d_Line_init_23 rfl ?_
  refine p_newO X (kd := 9) (ix := 4 * h + 1) ty_3 B rfl rfl in_3 ty_3_ok N_Line_9 df_9 d_Line_init_24 (show 4 * h + 1 < 32 by omega) (show 8 + 38 * ((4 * h + 1) / 4) + 8 * ((4 * h + 1) % 4) = n + 1 + 1 + 7 by omega) (by omega) (by omega) ?_
  refine v_dup X d_Line_init_27 rfl ?_
  refine v_iload_n X d_Line_init_28 rfl ?_
  refine p_callI X (As := [.int x]) (rest := [.ref (ad z 9 (4 * h + 1)), .int 1, .ref (ad z 8 h)]) B L_Line_17 d_Line_init_29 (I_Release _ (4 * h + 1) _ _ x (by omega) (by omega)) rfl (by decide) (by omega) (by omega) rfl (Nat.le_of_ble_eq_true rfl) (fun t1 ⟨f1, o1⟩ => ?_)
  have e1 : ∀ k i, ¬ (9 ≤ k ∧ k ≤ 16 ∧ i = 4 * h + 1) → t1 k i = (k_set t0 8 h 0 1) k i := fun k i h0 => by rw [f1 k i h0, k_up_of, if_neg (by omega)]
  have g1 : t1 7 h 0 = 1 := by rw [e1 7 h (by omega)]; simp [k_set_of, g0]
  have z1 : t1 7 h 2 = 0 := by rw [e1 7 h (by omega)]; simp [k_set_of, k_up_of, z0]
  refine p_aast X 1 rfl rfl rfl rfl rfl d_Line_init_32 rfl (show h < 8 by omega) (show 7 + 38 * h < n + 1 + 1 + 7 + 1 + 7 by omega) (show 4 * h + 1 < 32 by omega) (show 8 + 38 * ((4 * h + 1) / 4) + 8 * ((4 * h + 1) % 4) < n + 1 + 1 + 7 + 1 + 7 by omega) (by decide) (by decide) ?_
  refine v_iinc X (v := 2) [(2, .int 2), (0, .ref (ad z 7 h)), (1, .int x)] d_Line_init_33 rfl (by decide) (by decide) rfl ?_
  refine v_goto X (tgt := 14) d_Line_init_36 (by decide) ?_
  refine v_iload_n X d_Line_init_14 rfl ?_
  refine v_iconst X (v := 4) d_Line_init_15 rfl ?_
  refine v_icmp_ge X 39 d_Line_init_16 (by decide) (fun c => absurd c (by decide)) (fun _ => ?_)
  refine v_aload_n X d_Line_init_19 rfl rfl ?_
  refine p_getr X (ix2 := h) rfl rfl F_Line_11 d_Line_init_20 rfl (show h < 8 by omega) (show 6 + 38 * h < n + 1 + 1 + 7 + 1 + 7 by omega) (by simp [k_set_of, k_up_of, g1]) ?_
  refine v_iload_n X d_Line_init_23 rfl ?_
  refine p_newO X (kd := 9) (ix := 4 * h + 2) ty_3 B rfl rfl in_3 ty_3_ok N_Line_9 df_9 d_Line_init_24 (show 4 * h + 2 < 32 by omega) (show 8 + 38 * ((4 * h + 2) / 4) + 8 * ((4 * h + 2) % 4) = n + 1 + 1 + 7 + 1 + 7 by omega) (by omega) (by omega) ?_
  refine v_dup X d_Line_init_27 rfl ?_
  refine v_iload_n X d_Line_init_28 rfl ?_
  refine p_callI X (As := [.int x]) (rest := [.ref (ad z 9 (4 * h + 2)), .int 2, .ref (ad z 8 h)]) B L_Line_17 d_Line_init_29 (I_Release _ (4 * h + 2) _ _ x (by omega) (by omega)) rfl (by decide) (by omega) (by omega) rfl (Nat.le_of_ble_eq_true rfl) (fun t2 ⟨f2, o2⟩ => ?_)
  have e2 : ∀ k i, ¬ (9 ≤ k ∧ k ≤ 16 ∧ i = 4 * h + 2) → t2 k i = (k_set t1 8 h 1 1) k i := fun k i h0 => by rw [f2 k i h0, k_up_of, if_neg (by omega)]
  have g2 : t2 7 h 0 = 1 := by rw [e2 7 h (by omega)]; simp [k_set_of, g1]
  have z2 : t2 7 h 2 = 0 := by rw [e2 7 h (by omega)]; simp [k_set_of, k_up_of, z1]
  refine p_aast X 2 rfl rfl rfl rfl rfl d_Line_init_32 rfl (show h < 8 by omega) (show 7 + 38 * h < n + 1 + 1 + 7 + 1 + 7 + 1 + 7 by omega) (show 4 * h + 2 < 32 by omega) (show 8 + 38 * ((4 * h + 2) / 4) + 8 * ((4 * h + 2) % 4) < n + 1 + 1 + 7 + 1 + 7 + 1 + 7 by omega) (by decide) (by decide) ?_
  refine v_iinc X (v := 3) [(2, .int 3), (0, .ref (ad z 7 h)), (1, .int x)] d_Line_init_33 rfl (by decide) (by decide) rfl ?_
  refine v_goto X (tgt := 14) d_Line_init_36 (by decide) ?_
  refine v_iload_n X d_Line_init_14 rfl ?_
  refine v_iconst X (v := 4) d_Line_init_15 rfl ?_
  refine v_icmp_ge X 39 d_Line_init_16 (by decide) (fun c => absurd c (by decide)) (fun _ => ?_)
  refine v_aload_n X d_Line_init_19 rfl rfl ?_
  refine p_getr X (ix2 := h) rfl rfl F_Line_11 d_Line_init_20 rfl (show h < 8 by omega) (show 6 + 38 * h < n + 1 + 1 + 7 + 1 + 7 + 1 + 7 by omega) (by simp [k_set_of, k_up_of, g2]) ?_
  refine v_iload_n X d_Line_init_23 rfl ?_
  refine p_newO X (kd := 9) (ix := 4 * h + 3) ty_3 B rfl rfl in_3 ty_3_ok N_Line_9 df_9 d_Line_init_24 (show 4 * h + 3 < 32 by omega) (show 8 + 38 * ((4 * h + 3) / 4) + 8 * ((4 * h + 3) % 4) = n + 1 + 1 + 7 + 1 + 7 + 1 + 7 by omega) (by omega) (by omega) ?_
  refine v_dup X d_Line_init_27 rfl ?_
  refine v_iload_n X d_Line_init_28 rfl ?_
  refine p_callI X (As := [.int x]) (rest := [.ref (ad z 9 (4 * h + 3)), .int 3, .ref (ad z 8 h)]) B L_Line_17 d_Line_init_29 (I_Release _ (4 * h + 3) _ _ x (by omega) (by omega)) rfl (by decide) (by omega) (by omega) rfl (Nat.le_of_ble_eq_true rfl) (fun t3 ⟨f3, o3⟩ => ?_)
  have e3 : ∀ k i, ¬ (9 ≤ k ∧ k ≤ 16 ∧ i = 4 * h + 3) → t3 k i = (k_set t2 8 h 2 1) k i := fun k i h0 => by rw [f3 k i h0, k_up_of, if_neg (by omega)]
  have g3 : t3 7 h 0 = 1 := by rw [e3 7 h (by omega)]; simp [k_set_of, g2]
  have z3 : t3 7 h 2 = 0 := by rw [e3 7 h (by omega)]; simp [k_set_of, k_up_of, z2]
  refine p_aast X 3 rfl rfl rfl rfl rfl d_Line_init_32 rfl (show h < 8 by omega) (show 7 + 38 * h < n + 1 + 1 + 7 + 1 + 7 + 1 + 7 + 1 + 7 by omega) (show 4 * h + 3 < 32 by omega) (show 8 + 38 * ((4 * h + 3) / 4) + 8 * ((4 * h + 3) % 4) < n + 1 + 1 + 7 + 1 + 7 + 1 + 7 + 1 + 7 by omega) (by decide) (by decide) ?_
  refine v_iinc X (v := 4) [(2, .int 4), (0, .ref (ad z 7 h)), (1, .int x)] d_Line_init_33 rfl (by decide) (by decide) rfl ?_
  refine v_goto X (tgt := 14) d_Line_init_36 (by decide) ?_
  refine v_iload_n X d_Line_init_14 rfl ?_
  refine v_iconst X (v := 4) d_Line_init_15 rfl ?_
  refine v_icmp_ge X 39 d_Line_init_16 (by decide) (fun _ => ?_) (fun c => absurd (by decide) c)
  refine p_ret X B E d_Line_init_39 rfl (by omega) (by omega) ?_
  refine ⟨fun k i h0 => ?_, okc_7 ?_, okc_8 ?_, fun k i h1 h2 h3 => ?_, ?_⟩
  · rw [k_set_up, if_neg (by omega), e3 k i (by omega), k_set_up, if_neg (by omega), e2 k i (by omega), k_set_up, if_neg (by omega), e1 k i (by omega), k_set_up, if_neg (by omega), e0 k i (by omega), k_set_up, if_neg (by omega), k_up_of, if_neg (by omega)]
  · simp [k_set_of, g3]
  · intro j hj
    have w3 : ∀ j, t3 8 h j = k_set t2 8 h 2 1 8 h j := fun j => by rw [e3 8 h (by omega)]
    have w2 : ∀ j, t2 8 h j = k_set t1 8 h 1 1 8 h j := fun j => by rw [e2 8 h (by omega)]
    have w1 : ∀ j, t1 8 h j = k_set t0 8 h 0 1 8 h j := fun j => by rw [e1 8 h (by omega)]
    rcases (show j = 0 ∨ j = 1 ∨ j = 2 ∨ j = 3 by omega) with rfl | rfl | rfl | rfl <;> simp [k_set_of, w3, w2, w1]
  · rcases (show i = 4 * h + 0 ∨ i = 4 * h + 1 ∨ i = 4 * h + 2 ∨ i = 4 * h + 3 by omega) with rfl | rfl | rfl | rfl
    · exact okc_cong (by rw [k_set_up, if_neg (by omega), e3 k (4 * h + 0) (by omega), k_set_up, if_neg (by omega), e2 k (4 * h + 0) (by omega), k_set_up, if_neg (by omega), e1 k (4 * h + 0) (by omega), k_set_up, if_neg (by omega)]) (o0 k h1 h2)
    · exact okc_cong (by rw [k_set_up, if_neg (by omega), e3 k (4 * h + 1) (by omega), k_set_up, if_neg (by omega), e2 k (4 * h + 1) (by omega), k_set_up, if_neg (by omega)]) (o1 k h1 h2)
    · exact okc_cong (by rw [k_set_up, if_neg (by omega), e3 k (4 * h + 2) (by omega), k_set_up, if_neg (by omega)]) (o2 k h1 h2)
    · exact okc_cong (by rw [k_set_up, if_neg (by omega)]) (o3 k h1 h2)
  · simp [k_set_of, z3]
set_option maxRecDepth 100000 in
set_option maxHeartbeats 4000000 in
theorem I_Handler {D : va_G} {z : Nat} {zs : j_Zs} {ca : Nat → ClassId} (s : k_S) (h n q : Nat) (x : Int32) (hh : h < 8) (hn : 2 + 38 * h + 1 = n) (hz : s 3 h 0 = 0) (haoe : "MissionDesk$Release" ∈ zs.2.2.2) : p_C D z zs ca Y_Handler_init 4 [.ref (ad z 3 h), .int x] n q 37 291 s (fun s' => (∀ k i, ¬ ((3 ≤ k ∧ k ≤ 8 ∧ i = h) ∨ (9 ≤ k ∧ k ≤ 16 ∧ i / 4 = h)) → s' k i = s k i) ∧ (∀ k i, ((3 ≤ k ∧ k ≤ 8 ∧ i = h) ∨ (9 ≤ k ∧ k ≤ 16 ∧ i / 4 = h)) → okc s' k i) ∧ s' 3 h 0 = 0 ∧ s' 7 h 2 = 0) := by
  refine p_of [(0, .ref (ad z 3 h)), (1, .int x)] (by decide) (Nat.le_of_ble_eq_true rfl) rfl (fun K X E B => ?_)
  refine v_aload_n X d_Handler_init_0 rfl rfl ?_
  refine v_objinit X O_Handler_3 d_Handler_init_1 (by decide) (Nat.le_of_ble_eq_true rfl) ?_
  refine v_aload_n X d_Handler_init_4 rfl rfl ?_
  refine v_bipush X (v := 10) d_Handler_init_5 rfl ?_
  refine p_newI X (kd := 4) (ix := h) B rfl (Or.inl rfl) rfl AI d_Handler_init_7 (by decide) (by decide) (by decide) (show h < 8 by omega) (show 3 + 38 * h = n by omega) (by omega) (by omega) ?_
  refine p_putF X (v := 1) rfl rfl rfl P_Handler_9 rfl d_Handler_init_9 rfl rfl (show h < 8 by omega) (show 2 + 38 * h < n + 1 by omega) ?_
  refine v_aload_n X d_Handler_init_12 rfl rfl ?_
  refine v_bipush X (v := 10) d_Handler_init_13 rfl ?_
  refine p_newI X (kd := 5) (ix := h) B rfl (Or.inl rfl) rfl AI d_Handler_init_15 (by decide) (by decide) (by decide) (show h < 8 by omega) (show 4 + 38 * h = n + 1 by omega) (by omega) (by omega) ?_
  refine p_putF X (v := 1) rfl rfl rfl P_Handler_15 rfl d_Handler_init_17 rfl rfl (show h < 8 by omega) (show 2 + 38 * h < n + 1 + 1 by omega) ?_
  refine v_aload_n X d_Handler_init_20 rfl rfl ?_
  refine v_bipush X (v := 8) d_Handler_init_21 rfl ?_
  refine p_newI X (kd := 6) (ix := h) B rfl (Or.inl rfl) rfl AI d_Handler_init_23 (by decide) (by decide) (by decide) (show h < 8 by omega) (show 5 + 38 * h = n + 1 + 1 by omega) (by omega) (by omega) ?_
  refine p_putF X (v := 1) rfl rfl rfl P_Handler_18 rfl d_Handler_init_25 rfl rfl (show h < 8 by omega) (show 2 + 38 * h < n + 1 + 1 + 1 by omega) ?_
  refine v_aload_n X d_Handler_init_28 rfl rfl ?_
  refine p_newO X (kd := 7) (ix := h) ty_2 B rfl rfl in_2 ty_2_ok N_Handler_21 df_7 d_Handler_init_29 (show h < 8 by omega) (show 6 + 38 * h = n + 1 + 1 + 1 by omega) (by omega) (by omega) ?_
  refine v_dup X d_Handler_init_32 rfl ?_
  refine v_iload_n X d_Handler_init_33 rfl ?_
  refine p_callI X (As := [.int x]) (rest := [.ref (ad z 7 h), .ref (ad z 3 h)]) B L_Handler_23 d_Handler_init_34 (I_Line _ h _ _ x hh (by omega) (by simp [k_up_of]) haoe) rfl (by decide) (by omega) (by omega) rfl (Nat.le_of_ble_eq_true rfl) (fun t ⟨f, oa, ob, oc, zt⟩ => ?_)
  have e : ∀ k i, ¬ ((7 ≤ k ∧ k ≤ 8 ∧ i = h) ∨ (9 ≤ k ∧ k ≤ 16 ∧ i / 4 = h)) → t k i = (k_up (k_set (k_up (k_set (k_up (k_set (k_up s 4 h (fun _ => 0)) 3 h 9 1) 5 h (fun _ => 0)) 3 h 10 1) 6 h (fun _ => 0)) 3 h 11 1) 7 h (fun _ => 0)) k i := f
  refine p_putF X (v := 1) rfl rfl rfl P_Handler_26 rfl d_Handler_init_37 rfl rfl (show h < 8 by omega) (show 2 + 38 * h < n + 1 + 1 + 1 + 1 + 33 by omega) ?_
  refine p_ret X B E d_Handler_init_40 rfl (by omega) (by omega) ?_
  refine ⟨fun k i h0 => ?_, fun k i h0 => ?_, ?_, ?_⟩
  · rw [k_set_up, if_neg (by omega), e k i (by omega)]
    simp only [k_set_up, k_up_of]
    repeat rw [if_neg (by omega)]
  · by_cases h9 : 9 ≤ k
    · exact okc_cong (by rw [k_set_up, if_neg (by omega)]) (oc k i h9 (by omega) (by omega))
    · obtain ⟨h1, h2, rfl⟩ : 3 ≤ k ∧ k ≤ 8 ∧ i = h := by omega
      rcases (show k = 3 ∨ k = 4 ∨ k = 5 ∨ k = 6 ∨ k = 7 ∨ k = 8 by omega) with rfl | rfl | rfl | rfl | rfl | rfl
      · refine okc_3 ?_ ?_ ?_ ?_
        · rw [k_set_of, if_neg (by omega), e 3 i (by omega)]; simp [k_set_of, k_up_of]
        · rw [k_set_of, if_neg (by omega), e 3 i (by omega)]; simp [k_set_of, k_up_of]
        · rw [k_set_of, if_neg (by omega), e 3 i (by omega)]; simp [k_set_of, k_up_of]
        · rw [k_set_at]; decide
      · exact fun ca z => rfl
      · exact fun ca z => rfl
      · exact fun ca z => rfl
      · exact okc_cong (by rw [k_set_up, if_neg (by omega)]) oa
      · exact okc_cong (by rw [k_set_up, if_neg (by omega)]) ob
  · rw [k_set_of, if_neg (by omega), e 3 h (by omega)]; simp [k_set_of, k_up_of, hz]
  · rw [k_set_of, if_neg (by omega)]; exact zt
set_option maxRecDepth 100000 in
set_option maxHeartbeats 4000000 in
theorem I_Frame {D : va_G} {z : Nat} {zs : j_Zs} {ca : Nat → ClassId} (s : k_S) (h n q : Nat) (hh : h < 4) (hn : 309 + 2 * h + 1 = n) (hz : s 19 h 0 = 0) : p_C D z zs ca Y_Frame_init 1 [.ref (ad z 19 h)] n q 1 4 s (fun s' => (∀ k i, ¬ (19 ≤ k ∧ k ≤ 20 ∧ i = h) → s' k i = s k i) ∧ (∀ k, 19 ≤ k → k ≤ 20 → okc s' k h) ∧ s' 19 h 0 = 0) := by
  refine p_of [(0, .ref (ad z 19 h))] (by decide) (Nat.le_of_ble_eq_true rfl) rfl (fun K X E B => ?_)
  refine v_aload_n X d_Frame_init_0 rfl rfl ?_
  refine v_objinit X O_Frame_3 d_Frame_init_1 (by decide) (Nat.le_of_ble_eq_true rfl) ?_
  refine v_aload_n X d_Frame_init_4 rfl rfl ?_
  refine v_iconst X (v := 4) d_Frame_init_5 rfl ?_
  refine p_newI X (kd := 20) (ix := h) B rfl (Or.inl rfl) rfl AI d_Frame_init_6 (by decide) (by decide) (by decide) (show h < 4 by omega) (show 310 + 2 * h = n by omega) (by omega) (by omega) ?_
  refine p_putF X (v := 1) rfl rfl rfl P_Frame_9 rfl d_Frame_init_8 rfl rfl (show h < 4 by omega) (show 309 + 2 * h < n + 1 by omega) ?_
  refine p_ret X B E d_Frame_init_11 rfl (by omega) (by omega) ?_
  refine ⟨fun k i h0 => ?_, fun k h1 h2 => ?_, ?_⟩
  · simp only [k_set_up, k_up_of]
    repeat rw [if_neg (by omega)]
  · rcases (show k = 19 ∨ k = 20 by omega) with rfl | rfl
    · exact okc_19 (by simp [k_set_of, k_up_of])
    · exact fun ca z => rfl
  · simp [k_set_of, k_up_of, hz]
set_option maxRecDepth 100000 in
set_option maxHeartbeats 4000000 in
theorem I_Turns {D : va_G} {z : Nat} {zs : j_Zs} {ca : Nat → ClassId} (s : k_S) (n q : Nat) (hn : 308 = n) (hz : s 17 0 4 = 0) (haoe : "MissionDesk$Frame" ∈ zs.2.2.2) : p_C D z zs ca Y_Turns_init 2 [.ref (ad z 17 0)] n q 9 32 s (fun s' => (∀ k i, ¬ ((17 ≤ k ∧ k ≤ 18 ∧ i = 0) ∨ (19 ≤ k ∧ k ≤ 20 ∧ i < 4)) → s' k i = s k i) ∧ okc s' 17 0 ∧ okc s' 18 0 ∧ (∀ k i, 19 ≤ k → k ≤ 20 → i < 4 → okc s' k i) ∧ (∀ f, f < 4 → s' 19 f 0 = 0) ∧ s' 17 0 3 = -2 ∧ s' 17 0 4 = 0) := by
  refine p_of [(0, .ref (ad z 17 0))] (by decide) (Nat.le_of_ble_eq_true rfl) rfl (fun K X E B => ?_)
  refine v_aload_n X d_Turns_init_0 rfl rfl ?_
  refine v_objinit X O_Turns_3 d_Turns_init_1 (by decide) (Nat.le_of_ble_eq_true rfl) ?_
  refine v_aload_n X d_Turns_init_4 rfl rfl ?_
  refine v_iconst X (v := 4) d_Turns_init_5 rfl ?_
  refine p_newR X (kd := 18) (ix := 0) B rfl rfl A_Turns_9 haoe d_Turns_init_6 (by decide) (by decide) (by decide) (by decide) (show 308 = n by omega) (by omega) (by omega) ?_
  refine p_putF X (v := 1) rfl rfl rfl P_Turns_11 rfl d_Turns_init_9 rfl rfl (by decide) (show 307 < n + 1 by omega) ?_
  refine v_iconst X (v := 0) d_Turns_init_12 rfl ?_
  refine v_istore_n X [(1, .int 0), (0, .ref (ad z 17 0))] d_Turns_init_13 (by decide) rfl ?_
  refine v_iload_n X d_Turns_init_14 rfl ?_
  refine v_iconst X (v := 4) d_Turns_init_15 rfl ?_
  refine v_icmp_ge X 38 d_Turns_init_16 (by decide) (fun c => absurd c (by decide)) (fun _ => ?_)
  refine v_aload_n X d_Turns_init_19 rfl rfl ?_
  refine p_getr X (ix2 := 0) rfl rfl F_Turns_11 d_Turns_init_20 rfl (by decide) (show 307 < n + 1 by omega) (by simp [k_set_of, k_up_of]) ?_
  refine v_iload_n X d_Turns_init_23 rfl ?_
  refine p_newO X (kd := 19) (ix := 0) ty_7 B rfl rfl in_7 ty_7_ok N_Turns_9 df_19 d_Turns_init_24 (by decide) (show 309 + 2 * 0 = n + 1 by omega) (by omega) (by omega) ?_
  refine v_dup X d_Turns_init_27 rfl ?_
  refine p_callI X (As := []) (rest := [.ref (ad z 19 0), .int 0, .ref (ad z 18 0)]) B L_Turns_17 d_Turns_init_28 (I_Frame _ 0 _ _ (by decide) (by omega) (by simp [k_up_of])) rfl (by decide) (by omega) (by omega) rfl (Nat.le_of_ble_eq_true rfl) (fun t0 ⟨f0, o0, z0⟩ => ?_)
  have e0 : ∀ k i, ¬ (19 ≤ k ∧ k ≤ 20 ∧ i = 0) → t0 k i = (k_set (k_up s 18 0 (fun _ => 0)) 17 0 0 1) k i := fun k i h0 => by rw [f0 k i h0, k_up_of, if_neg (by omega)]
  have g0 : t0 17 0 0 = 1 := by rw [e0 17 0 (by omega)]; simp [k_set_of]
  have y0 : t0 17 0 4 = 0 := by rw [e0 17 0 (by omega)]; simp [k_set_of, k_up_of, hz]
  refine p_aast X 0 rfl rfl rfl rfl rfl d_Turns_init_31 rfl (by decide) (show 308 < n + 1 + 1 + 1 by omega) (by decide) (show 309 + 2 * 0 < n + 1 + 1 + 1 by omega) (by decide) (by decide) ?_
  refine v_iinc X (v := 1) [(1, .int 1), (0, .ref (ad z 17 0))] d_Turns_init_32 rfl (by decide) (by decide) rfl ?_
  refine v_goto X (tgt := 14) d_Turns_init_35 (by decide) ?_
  refine v_iload_n X d_Turns_init_14 rfl ?_
  refine v_iconst X (v := 4) d_Turns_init_15 rfl ?_
  refine v_icmp_ge X 38 d_Turns_init_16 (by decide) (fun c => absurd c (by decide)) (fun _ => ?_)
  refine v_aload_n X d_Turns_init_19 rfl rfl ?_
  refine p_getr X (ix2 := 0) rfl rfl F_Turns_11 d_Turns_init_20 rfl (by decide) (show 307 < n + 1 + 1 + 1 by omega) (by simp [k_set_of, k_up_of, g0]) ?_
  refine v_iload_n X d_Turns_init_23 rfl ?_
  refine p_newO X (kd := 19) (ix := 1) ty_7 B rfl rfl in_7 ty_7_ok N_Turns_9 df_19 d_Turns_init_24 (by decide) (show 309 + 2 * 1 = n + 1 + 1 + 1 by omega) (by omega) (by omega) ?_
  refine v_dup X d_Turns_init_27 rfl ?_
  refine p_callI X (As := []) (rest := [.ref (ad z 19 1), .int 1, .ref (ad z 18 0)]) B L_Turns_17 d_Turns_init_28 (I_Frame _ 1 _ _ (by decide) (by omega) (by simp [k_up_of])) rfl (by decide) (by omega) (by omega) rfl (Nat.le_of_ble_eq_true rfl) (fun t1 ⟨f1, o1, z1⟩ => ?_)
  have e1 : ∀ k i, ¬ (19 ≤ k ∧ k ≤ 20 ∧ i = 1) → t1 k i = (k_set t0 18 0 0 1) k i := fun k i h0 => by rw [f1 k i h0, k_up_of, if_neg (by omega)]
  have g1 : t1 17 0 0 = 1 := by rw [e1 17 0 (by omega)]; simp [k_set_of, g0]
  have y1 : t1 17 0 4 = 0 := by rw [e1 17 0 (by omega)]; simp [k_set_of, k_up_of, y0]
  refine p_aast X 1 rfl rfl rfl rfl rfl d_Turns_init_31 rfl (by decide) (show 308 < n + 1 + 1 + 1 + 1 + 1 by omega) (by decide) (show 309 + 2 * 1 < n + 1 + 1 + 1 + 1 + 1 by omega) (by decide) (by decide) ?_
  refine v_iinc X (v := 2) [(1, .int 2), (0, .ref (ad z 17 0))] d_Turns_init_32 rfl (by decide) (by decide) rfl ?_
  refine v_goto X (tgt := 14) d_Turns_init_35 (by decide) ?_
  refine v_iload_n X d_Turns_init_14 rfl ?_
  refine v_iconst X (v := 4) d_Turns_init_15 rfl ?_
  refine v_icmp_ge X 38 d_Turns_init_16 (by decide) (fun c => absurd c (by decide)) (fun _ => ?_)
  refine v_aload_n X d_Turns_init_19 rfl rfl ?_
  refine p_getr X (ix2 := 0) rfl rfl F_Turns_11 d_Turns_init_20 rfl (by decide) (show 307 < n + 1 + 1 + 1 + 1 + 1 by omega) (by simp [k_set_of, k_up_of, g1]) ?_
  refine v_iload_n X d_Turns_init_23 rfl ?_
  refine p_newO X (kd := 19) (ix := 2) ty_7 B rfl rfl in_7 ty_7_ok N_Turns_9 df_19 d_Turns_init_24 (by decide) (show 309 + 2 * 2 = n + 1 + 1 + 1 + 1 + 1 by omega) (by omega) (by omega) ?_
  refine v_dup X d_Turns_init_27 rfl ?_
  refine p_callI X (As := []) (rest := [.ref (ad z 19 2), .int 2, .ref (ad z 18 0)]) B L_Turns_17 d_Turns_init_28 (I_Frame _ 2 _ _ (by decide) (by omega) (by simp [k_up_of])) rfl (by decide) (by omega) (by omega) rfl (Nat.le_of_ble_eq_true rfl) (fun t2 ⟨f2, o2, z2⟩ => ?_)
  have e2 : ∀ k i, ¬ (19 ≤ k ∧ k ≤ 20 ∧ i = 2) → t2 k i = (k_set t1 18 0 1 1) k i := fun k i h0 => by rw [f2 k i h0, k_up_of, if_neg (by omega)]
  have g2 : t2 17 0 0 = 1 := by rw [e2 17 0 (by omega)]; simp [k_set_of, g1]
  have y2 : t2 17 0 4 = 0 := by rw [e2 17 0 (by omega)]; simp [k_set_of, k_up_of, y1]
  refine p_aast X 2 rfl rfl rfl rfl rfl d_Turns_init_31 rfl (by decide) (show 308 < n + 1 + 1 + 1 + 1 + 1 + 1 + 1 by omega) (by decide) (show 309 + 2 * 2 < n + 1 + 1 + 1 + 1 + 1 + 1 + 1 by omega) (by decide) (by decide) ?_
  refine v_iinc X (v := 3) [(1, .int 3), (0, .ref (ad z 17 0))] d_Turns_init_32 rfl (by decide) (by decide) rfl ?_
  refine v_goto X (tgt := 14) d_Turns_init_35 (by decide) ?_
  refine v_iload_n X d_Turns_init_14 rfl ?_
  refine v_iconst X (v := 4) d_Turns_init_15 rfl ?_
  refine v_icmp_ge X 38 d_Turns_init_16 (by decide) (fun c => absurd c (by decide)) (fun _ => ?_)
  refine v_aload_n X d_Turns_init_19 rfl rfl ?_
  refine p_getr X (ix2 := 0) rfl rfl F_Turns_11 d_Turns_init_20 rfl (by decide) (show 307 < n + 1 + 1 + 1 + 1 + 1 + 1 + 1 by omega) (by simp [k_set_of, k_up_of, g2]) ?_
  refine v_iload_n X d_Turns_init_23 rfl ?_
  refine p_newO X (kd := 19) (ix := 3) ty_7 B rfl rfl in_7 ty_7_ok N_Turns_9 df_19 d_Turns_init_24 (by decide) (show 309 + 2 * 3 = n + 1 + 1 + 1 + 1 + 1 + 1 + 1 by omega) (by omega) (by omega) ?_
  refine v_dup X d_Turns_init_27 rfl ?_
  refine p_callI X (As := []) (rest := [.ref (ad z 19 3), .int 3, .ref (ad z 18 0)]) B L_Turns_17 d_Turns_init_28 (I_Frame _ 3 _ _ (by decide) (by omega) (by simp [k_up_of])) rfl (by decide) (by omega) (by omega) rfl (Nat.le_of_ble_eq_true rfl) (fun t3 ⟨f3, o3, z3⟩ => ?_)
  have e3 : ∀ k i, ¬ (19 ≤ k ∧ k ≤ 20 ∧ i = 3) → t3 k i = (k_set t2 18 0 2 1) k i := fun k i h0 => by rw [f3 k i h0, k_up_of, if_neg (by omega)]
  have g3 : t3 17 0 0 = 1 := by rw [e3 17 0 (by omega)]; simp [k_set_of, g2]
  have y3 : t3 17 0 4 = 0 := by rw [e3 17 0 (by omega)]; simp [k_set_of, k_up_of, y2]
  refine p_aast X 3 rfl rfl rfl rfl rfl d_Turns_init_31 rfl (by decide) (show 308 < n + 1 + 1 + 1 + 1 + 1 + 1 + 1 + 1 + 1 by omega) (by decide) (show 309 + 2 * 3 < n + 1 + 1 + 1 + 1 + 1 + 1 + 1 + 1 + 1 by omega) (by decide) (by decide) ?_
  refine v_iinc X (v := 4) [(1, .int 4), (0, .ref (ad z 17 0))] d_Turns_init_32 rfl (by decide) (by decide) rfl ?_
  refine v_goto X (tgt := 14) d_Turns_init_35 (by decide) ?_
  refine v_iload_n X d_Turns_init_14 rfl ?_
  refine v_iconst X (v := 4) d_Turns_init_15 rfl ?_
  refine v_icmp_ge X 38 d_Turns_init_16 (by decide) (fun _ => ?_) (fun c => absurd (by decide) c)
  refine v_aload_n X d_Turns_init_38 rfl rfl ?_
  refine v_bipush X (v := -2) d_Turns_init_39 rfl ?_
  refine p_put X (v := -2) rfl rfl rfl P_Turns_18 d_Turns_init_41 rfl rfl (by decide) (show 307 < n + 1 + 1 + 1 + 1 + 1 + 1 + 1 + 1 + 1 by omega) ?_
  refine p_ret X B E d_Turns_init_44 rfl (by omega) (by omega) ?_
  refine ⟨fun k i h0 => ?_, okc_17 ?_, okc_18 ?_, fun k i h1 h2 h3 => ?_, fun f hf => ?_, ?_, ?_⟩
  · rw [k_set_up, if_neg (by omega), k_set_up, if_neg (by omega), e3 k i (by omega), k_set_up, if_neg (by omega), e2 k i (by omega), k_set_up, if_neg (by omega), e1 k i (by omega), k_set_up, if_neg (by omega), e0 k i (by omega), k_set_up, if_neg (by omega), k_up_of, if_neg (by omega)]
  · simp [k_set_of, g3]
  · intro j hj
    have w3 : ∀ j, t3 18 0 j = k_set t2 18 0 2 1 18 0 j := fun j => by rw [e3 18 0 (by omega)]
    have w2 : ∀ j, t2 18 0 j = k_set t1 18 0 1 1 18 0 j := fun j => by rw [e2 18 0 (by omega)]
    have w1 : ∀ j, t1 18 0 j = k_set t0 18 0 0 1 18 0 j := fun j => by rw [e1 18 0 (by omega)]
    rcases (show j = 0 ∨ j = 1 ∨ j = 2 ∨ j = 3 by omega) with rfl | rfl | rfl | rfl <;> simp [k_set_of, w3, w2, w1]
  · rcases (show i = 0 ∨ i = 1 ∨ i = 2 ∨ i = 3 by omega) with rfl | rfl | rfl | rfl
    · exact okc_cong (by rw [k_set_up, if_neg (by omega), k_set_up, if_neg (by omega), e3 k 0 (by omega), k_set_up, if_neg (by omega), e2 k 0 (by omega), k_set_up, if_neg (by omega), e1 k 0 (by omega), k_set_up, if_neg (by omega)]) (o0 k h1 h2)
    · exact okc_cong (by rw [k_set_up, if_neg (by omega), k_set_up, if_neg (by omega), e3 k 1 (by omega), k_set_up, if_neg (by omega), e2 k 1 (by omega), k_set_up, if_neg (by omega)]) (o1 k h1 h2)
    · exact okc_cong (by rw [k_set_up, if_neg (by omega), k_set_up, if_neg (by omega), e3 k 2 (by omega), k_set_up, if_neg (by omega)]) (o2 k h1 h2)
    · exact okc_cong (by rw [k_set_up, if_neg (by omega), k_set_up, if_neg (by omega)]) (o3 k h1 h2)
  · rcases (show f = 0 ∨ f = 1 ∨ f = 2 ∨ f = 3 by omega) with rfl | rfl | rfl | rfl
    · rw [k_set_up, if_neg (by omega), k_set_up, if_neg (by omega), e3 19 0 (by omega), k_set_up, if_neg (by omega), e2 19 0 (by omega), k_set_up, if_neg (by omega), e1 19 0 (by omega), k_set_up, if_neg (by omega)]; exact z0
    · rw [k_set_up, if_neg (by omega), k_set_up, if_neg (by omega), e3 19 1 (by omega), k_set_up, if_neg (by omega), e2 19 1 (by omega), k_set_up, if_neg (by omega)]; exact z1
    · rw [k_set_up, if_neg (by omega), k_set_up, if_neg (by omega), e3 19 2 (by omega), k_set_up, if_neg (by omega)]; exact z2
    · rw [k_set_up, if_neg (by omega), k_set_up, if_neg (by omega)]; exact z3
  · simp [k_set_of]
  · simp [k_set_of, y3]
set_option maxRecDepth 100000 in
set_option maxHeartbeats 4000000 in
theorem I_Area {D : va_G} {z : Nat} {zs : j_Zs} {ca : Nat → ClassId} (s : k_S) (n q : Nat)  : p_C D z zs ca Y_MissionArea_init 1 [.ref (ad z 21 0)] n q 0 0 s (fun s' => s' = s) := by
  refine p_of [(0, .ref (ad z 21 0))] (by decide) (Nat.le_of_ble_eq_true rfl) rfl (fun K X E B => ?_)
  refine v_aload_n X d_MissionArea_init_0 rfl rfl ?_
  refine v_objinit X O_MissionArea_1 d_MissionArea_init_1 (by decide) (Nat.le_of_ble_eq_true rfl) ?_
  refine p_ret X B E d_MissionArea_init_4 rfl (by omega) (by omega) ?_
  rfl
set_option maxRecDepth 100000 in
set_option maxHeartbeats 4000000 in
theorem I_Journal {D : va_G} {z : Nat} {zs : j_Zs} {ca : Nat → ClassId} (s : k_S) (n q : Nat) (hn : 319 = n) (hz : s 22 0 1 = 0) : p_C D z zs ca Y_Journal_init 1 [.ref (ad z 22 0)] n q 1 32 s (fun s' => (∀ k i, ¬ (22 ≤ k ∧ k ≤ 23 ∧ i = 0) → s' k i = s k i) ∧ okc s' 22 0 ∧ okc s' 23 0 ∧ s' 22 0 1 = 0) := by
  refine p_of [(0, .ref (ad z 22 0))] (by decide) (Nat.le_of_ble_eq_true rfl) rfl (fun K X E B => ?_)
  refine v_aload_n X d_Journal_init_0 rfl rfl ?_
  refine v_objinit X O_Journal_3 d_Journal_init_1 (by decide) (Nat.le_of_ble_eq_true rfl) ?_
  refine v_aload_n X d_Journal_init_4 rfl rfl ?_
  refine v_bipush X (v := 32) d_Journal_init_5 rfl ?_
  refine p_newI X (kd := 23) (ix := 0) B rfl (Or.inl rfl) rfl AI d_Journal_init_7 (by decide) (by decide) (by decide) (by decide) (show 319 = n by omega) (by omega) (by omega) ?_
  refine p_putF X (v := 1) rfl rfl rfl P_Journal_9 rfl d_Journal_init_9 rfl rfl (by decide) (show 318 < n + 1 by omega) ?_
  refine p_ret X B E d_Journal_init_12 rfl (by omega) (by omega) ?_
  refine ⟨fun k i h0 => ?_, okc_22 (by simp [k_set_of, k_up_of]), fun ca z => rfl, by simp [k_set_of, k_up_of, hz]⟩
  simp only [k_set_up, k_up_of]
  repeat rw [if_neg (by omega)]
