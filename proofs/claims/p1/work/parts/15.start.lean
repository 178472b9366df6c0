theorem tab_ok : ∀ q ∈ tab, (q.1 < 24 ∧ q.2 < cnt q.1) ∨ (24 ≤ q.1 ∧ q.1 < 56 ∧ q.2 = 0) := by decide +kernel
set_option maxRecDepth 100000 in
set_option maxHeartbeats 4000000 in
theorem LW_start {K : j_K} {D : va_G} {z : Nat} {zs : j_Zs} {ca : Nat → ClassId} {nm : String} {b L : Nat} {xs : Nat → Int32} (X : j_X K (k_G D ca z zs) (Y_Law nm) 6 352 3449) (B : p_B K z 0 0) (hscr : (b, L, xs) ∈ zs.2.1) (hL : L ≤ 6)
    (haor : "MissionDesk$Handler" ∈ zs.2.2.2) (haoe : "MissionDesk$Release" ∈ zs.2.2.2) (haof : "MissionDesk$Frame" ∈ zs.2.2.2) (hnest : ("MissionDesk", 31, ⟨"MissionDesk$MissionArea", "<init>", "()V"⟩, "MissionDesk") ∈ zs.2.2.1) (hend : ∀ lv s1, j_V K (k_G D ca z zs) (Y_Law nm) 573 lv [.int 1] (k_M ca z s1)) : j_V K (k_G D ca z zs) (Y_Law nm) 0 [(0, .ref b)] [] (p_M ca z 0 0 (fun _ _ _ => 0)) := by
  refine p_newO X (kd := 0) (ix := 0) ty_0 B rfl rfl in_0 ty_0_ok N_Law_7 df_0 d_Law_law_0 (by decide) (show 0 = 0 by rfl) (by omega) (by omega) ?_
  refine v_dup X d_Law_law_3 rfl ?_
  refine p_callI X (As := []) (rest := [.ref (ad z 0 0)]) B L_Law_9 d_Law_law_4 (I_Desk _ _ _ (by omega) (by simp [k_up_of]) haor haoe haof hnest) rfl (by decide) (by omega) (by omega) rfl (Nat.le_of_ble_eq_true rfl) (fun s1 F1 => ?_)
  refine v_astore_n X [(1, .ref (ad z 0 0)), (0, .ref b)] d_Law_law_7 rfl (show 1 < 4 by decide) rfl ?_
  refine p_newO X (kd := 24) (ix := 0) ty_10 B rfl rfl in_10 ty_10_ok N_Law_10 df_24 d_Law_law_8 (by decide) (show 320 = 0 + 1 + 319 by omega) (by omega) (by omega) ?_
  refine v_dup X d_Law_law_11 rfl ?_
  refine p_callI X (As := []) (rest := [.ref (ad z 24 0)]) B L_Law_12 d_Law_law_12 (I_Model _ _ _ (by omega) (by simp [k_up_of])) rfl (by decide) (by omega) (by omega) rfl (Nat.le_of_ble_eq_true rfl) (fun s2 F2 => ?_)
  obtain ⟨okD, hth, hsz, hfr, hd0, ha0, ha1, hl0, hb0, hj⟩ := F1
  obtain ⟨fr2, okM, mth, mtk, mrw, m30, m31, m32, m35, m36, m37, m38, m40, m42, m43, m44, m47, m39⟩ := F2
  have fr : ∀ k i, k < 24 → s2 k i = s1 k i := fun k i hk => by rw [fr2 k i hk, k_up_of, if_neg (by omega)]
  have hM : p_M ca z 352 3449 s2 = k_M ca z s2 := p_full rfl (fun o q hq => by
    rcases tab_ok q (List.mem_of_getElem? hq) with ⟨h1, h2⟩ | ⟨h1, h2, h3⟩
    · exact okc_cong (fr q.1 q.2 h1) (okD q.1 q.2 h1 h2) ca z
    · rw [h3]
      exact okM q.1 h1 h2 ca z)
  have hC : frC s2 := ⟨fun h hh => by rw [fr 3 h (by decide)]; exact hth h hh, fun h hh => by rw [fr 7 h (by decide)]; exact hsz h hh, fun f hf => by rw [fr 19 f (by decide)]; exact hfr f hf, fun j h5 h15 => by rw [fr 0 0 (by decide)]; exact hd0 j h5 h15, by rw [fr 21 0 (by decide)]; exact ha0, by rw [fr 21 0 (by decide)]; exact ha1, by rw [fr 17 0 (by decide)]; exact hl0, by rw [fr 17 0 (by decide)]; exact hb0, by rw [fr 22 0 (by decide)]; exact hj⟩
  have hMd : frM s2 := ⟨mth, mtk, mrw, m30, m31, m32, m35, m36, m37, m38, m40, m42, m43, m44, m47, m39⟩
  show j_V K (k_G D ca z zs) (Y_Law nm) 15 [(1, .ref (ad z 0 0)), (0, .ref b)] [.ref (ad z 24 0)] (p_M ca z 352 3449 s2)
  rw [hM]
  refine v_astore_n X [(2, .ref (ad z 24 0)), (1, .ref (ad z 0 0)), (0, .ref b)] d_Law_law_15 rfl (show 2 < 4 by decide) rfl ?_
  refine v_iconst X (v := 0) d_Law_law_16 rfl ?_
  refine v_istore_n X [(3, .int 0), (2, .ref (ad z 24 0)), (1, .ref (ad z 0 0)), (0, .ref b)] d_Law_law_17 (show 3 < 4 by decide) rfl ?_
  refine v_iload_n X d_Law_law_18 rfl ?_
  refine v_aload_n X d_Law_law_19 rfl rfl ?_
  refine v_tlen X hscr d_Law_law_20 (v := nI L) rfl ?_
  refine v_bipush X (v := 6) d_Law_law_21 rfl ?_
  refine v_isub X d_Law_law_23 ?_
  rcases Nat.lt_or_ge L 6 with hlt | hge
  · refine v_icmp_gt X 572 d_Law_law_24 (by decide) (fun _ => ?_) (fun c => absurd (pk_sneg (b := 6) (by decide) hlt) c)
    refine v_iconst X (v := 1) d_Law_law_572 rfl ?_
    exact hend _ _
  · obtain rfl : L = 6 := by omega
    refine v_icmp_gt X 572 d_Law_law_24 (by decide) (fun c => absurd c (by decide)) (fun _ => ?_)
    refine LW_body X B hscr hC hMd (fun s3 => ?_)
    refine v_iinc X (v := 6) [(3, .int 6), (2, .ref (ad z 24 0)), (1, .ref (ad z 0 0)), (0, .ref b)] d_Law_law_566 rfl (by decide) (show 3 < 4 by decide) rfl ?_
    refine v_goto X (tgt := 18) d_Law_law_569 (by decide) ?_
    refine v_iload_n X d_Law_law_18 rfl ?_
    refine v_aload_n X d_Law_law_19 rfl rfl ?_
    refine v_tlen X hscr d_Law_law_20 (v := nI 6) rfl ?_
    refine v_bipush X (v := 6) d_Law_law_21 rfl ?_
    refine v_isub X d_Law_law_23 ?_
    refine v_icmp_gt X 572 d_Law_law_24 (by decide) (fun _ => ?_) (fun c => absurd (by decide) c)
    refine v_iconst X (v := 1) d_Law_law_572 rfl ?_
    exact hend _ _

