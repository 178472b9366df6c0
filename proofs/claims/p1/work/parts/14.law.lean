/-! The law. -/
def frC (s : k_S) : Prop := (∀ h, h < 8 → s 3 h 0 = 0) ∧ (∀ h, h < 8 → s 7 h 2 = 0) ∧ (∀ f, f < 4 → s 19 f 0 = 0) ∧ (∀ j, 5 ≤ j → j ≤ 15 → s 0 0 j = 0) ∧ (s 21 0 0 = 0) ∧ (s 21 0 1 = 0) ∧ (s 17 0 3 = -2) ∧ (s 17 0 4 = 0) ∧ (s 22 0 1 = 0)
def frM (s : k_S) : Prop := (∀ h, h < 8 → s 25 0 h = 0) ∧ (∀ f, f < 4 → s 37 0 f = 0) ∧ (∀ h, h < 8 → s 40 0 h = 0) ∧ (s 24 0 30 = 0) ∧ (s 24 0 31 = 0) ∧ (s 24 0 32 = 0) ∧ (s 24 0 35 = 0) ∧ (s 24 0 36 = 0) ∧ (s 24 0 37 = 0) ∧ (s 24 0 38 = 0) ∧ (s 24 0 40 = 0) ∧ (s 24 0 42 = 0) ∧ (s 24 0 43 = 0) ∧ (s 24 0 44 = 0) ∧ (s 24 0 47 = 0) ∧ (s 24 0 39 = -1)
theorem frM_same {s s' : k_S} (h : frM s) (e : k_same s s') : frM s' := by
  obtain ⟨mth, mtk, mrw, m30, m31, m32, m35, m36, m37, m38, m40, m42, m43, m44, m47, m39⟩ := h
  exact ⟨fun h hh => (e 25 (by decide) 0 h).trans (mth h hh), fun f hf => (e 37 (by decide) 0 f).trans (mtk f hf), fun h hh => (e 40 (by decide) 0 h).trans (mrw h hh), (e 24 (by decide) 0 30).trans m30, (e 24 (by decide) 0 31).trans m31, (e 24 (by decide) 0 32).trans m32, (e 24 (by decide) 0 35).trans m35, (e 24 (by decide) 0 36).trans m36, (e 24 (by decide) 0 37).trans m37, (e 24 (by decide) 0 38).trans m38, (e 24 (by decide) 0 40).trans m40, (e 24 (by decide) 0 42).trans m42, (e 24 (by decide) 0 43).trans m43, (e 24 (by decide) 0 44).trans m44, (e 24 (by decide) 0 47).trans m47, (e 24 (by decide) 0 39).trans m39⟩
abbrev Y_Law (nm : String) : j_Y := (⟨"MissionDeskLaw", nm, "([I)Z"⟩, code, 4, ret)
/-- a call in the law -/
theorem l_call {K : j_K} {D : va_G} {z : Nat} {zs : j_Zs} {ca : Nat → ClassId} {Y : j_Y} (X : j_X K (k_G D ca z zs) Y 6 352 3449) (B : p_B K z 0 0) {pc : Nat} {lv : List (Nat × Value)} {st : List Value} {s : k_S} {i n d1 : Nat} {Y1 : j_Y} {Q : Option Value → k_S → Prop} {As rest : List Value} {kd ix ci N : Nat} {Tb : u_T} {sl : List (Option (Nat × (Nat → Nat)))} (hk : kt kd = .inl (ci, sl)) (hci : vwCl[ci]? = some (Y1.1.cls, Tb, N)) (lk : j_L (k_G D ca z zs) Y.1.cls i n Y1 0) (hd : decode Y.2.1 pc = .ok (.invokevirtual i, 3)) (hi : ix < cnt kd) (hC : k_C D z zs ca Y1 d1 (.ref (ad z kd ix) :: As) s Q) (hst : st = As.reverse ++ .ref (ad z kd ix) :: rest) (hd1 : d1 + 1 ≤ 6) (hn : As.length = n) (hrest : (rest.map fun v => v.category).sum ≤ 8) (kk : ∀ (r : Option Value) (s1 : k_S), Q r s1 → j_V K (k_G D ca z zs) Y (pc + 3) lv (r.toList ++ rest) (k_M ca z s1)) : j_V K (k_G D ca z zs) Y pc lv st (k_M ca z s) := by
  refine v_callV X lk hC hci (fs := k_slots z ix (s kd ix) sl) ?_ hd hst (B ca s) hd1 (by show z + 352 + 0 ≤ z + 0 + 352; omega) (by show k_slotsum + 0 ≤ 0 + 3449; decide) hn hrest (fun r M1 hq _ _ => by obtain ⟨s1, rfl, hq⟩ := hq; exact kk r s1 hq)
  rw [k_at hi]
  unfold k_cell
  rw [hk]

set_option maxRecDepth 100000 in
set_option maxHeartbeats 4000000 in
theorem LW_0 {K : j_K} {D : va_G} {z : Nat} {zs : j_Zs} {ca : Nat → ClassId} {nm : String} {b : Nat} {xs : Nat → Int32} (X : j_X K (k_G D ca z zs) (Y_Law nm) 6 352 3449) (B : p_B K z 0 0) (hscr : (b, 6, xs) ∈ zs.2.1)  {s : k_S} (hC : frC s) (hM : frM s) (kend : ∀ s1, j_V K (k_G D ca z zs) (Y_Law nm) 566 [(3, .int 0), (2, .ref (ad z 24 0)), (1, .ref (ad z 0 0)), (0, .ref b)] [] (k_M ca z s1)) : j_V K (k_G D ca z zs) (Y_Law nm) 104 [(3, .int 0), (2, .ref (ad z 24 0)), (1, .ref (ad z 0 0)), (0, .ref b)] [] (k_M ca z s) := by
  obtain ⟨hth, hsz, hfr, hd0, ha0, ha1, hl0, hb0, hj⟩ := hC
  refine v_aload_n X d_Law_law_104 rfl rfl ?_
  refine v_aload_n X d_Law_law_105 rfl rfl ?_
  refine v_iload_n X d_Law_law_106 rfl ?_
  refine v_iconst X (v := 1) d_Law_law_107 rfl ?_
  refine v_iadd X d_Law_law_108 ?_
  refine v_int (y := 1) (by decide) ?_
  refine v_tload X hscr d_Law_law_109 (show vp_in (nI 1) 6 from vp_in_nI (by decide) (by decide)) ?_
  refine v_int (y := xs 1) rfl ?_
  refine v_aload_n X d_Law_law_110 rfl rfl ?_
  refine v_iload_n X d_Law_law_111 rfl ?_
  refine v_iconst X (v := 2) d_Law_law_112 rfl ?_
  refine v_iadd X d_Law_law_113 ?_
  refine v_int (y := 2) (by decide) ?_
  refine v_tload X hscr d_Law_law_114 (show vp_in (nI 2) 6 from vp_in_nI (by decide) (by decide)) ?_
  refine v_int (y := xs 2) rfl ?_
  refine v_aload_n X d_Law_law_115 rfl rfl ?_
  refine v_iload_n X d_Law_law_116 rfl ?_
  refine v_iconst X (v := 3) d_Law_law_117 rfl ?_
  refine v_iadd X d_Law_law_118 ?_
  refine v_int (y := 3) (by decide) ?_
  refine v_tload X hscr d_Law_law_119 (show vp_in (nI 3) 6 from vp_in_nI (by decide) (by decide)) ?_
  refine v_int (y := xs 3) rfl ?_
  refine v_aload_n X d_Law_law_120 rfl rfl ?_
  refine v_iload_n X d_Law_law_121 rfl ?_
  refine v_iconst X (v := 4) d_Law_law_122 rfl ?_
  refine v_iadd X d_Law_law_123 ?_
  refine v_int (y := 4) (by decide) ?_
  refine v_tload X hscr d_Law_law_124 (show vp_in (nI 4) 6 from vp_in_nI (by decide) (by decide)) ?_
  refine v_int (y := xs 4) rfl ?_
  refine v_aload_n X d_Law_law_125 rfl rfl ?_
  refine v_iload_n X d_Law_law_126 rfl ?_
  refine v_iconst X (v := 5) d_Law_law_127 rfl ?_
  refine v_iadd X d_Law_law_128 ?_
  refine v_int (y := 5) (by decide) ?_
  refine v_tload X hscr d_Law_law_129 (show vp_in (nI 5) 6 from vp_in_nI (by decide) (by decide)) ?_
  refine v_int (y := xs 5) rfl ?_
  refine l_call X B (As := [.int (xs 1), .int (xs 2), .int (xs 3), .int (xs 4), .int (xs 5)]) (rest := []) rfl rfl L_Law_13 d_Law_law_130 (by decide) (P_handler s (xs 1) (xs 2) (xs 3) (xs 4) (xs 5) (hd0 5 (by decide) (by decide))) rfl (by decide) rfl (Nat.le_of_ble_eq_true rfl) (fun r s1 hq => ?_)
  obtain ⟨rfl, hsm⟩ := hq
  obtain ⟨mth, mtk, mrw, m30, m31, m32, m35, m36, m37, m38, m40, m42, m43, m44, m47, m39⟩ := frM_same hM hsm
  refine v_aload_n X d_Law_law_133 rfl rfl ?_
  refine v_aload_n X d_Law_law_134 rfl rfl ?_
  refine v_iload_n X d_Law_law_135 rfl ?_
  refine v_iconst X (v := 1) d_Law_law_136 rfl ?_
  refine v_iadd X d_Law_law_137 ?_
  refine v_int (y := 1) (by decide) ?_
  refine v_tload X hscr d_Law_law_138 (show vp_in (nI 1) 6 from vp_in_nI (by decide) (by decide)) ?_
  refine v_int (y := xs 1) rfl ?_
  refine v_aload_n X d_Law_law_139 rfl rfl ?_
  refine v_iload_n X d_Law_law_140 rfl ?_
  refine v_iconst X (v := 2) d_Law_law_141 rfl ?_
  refine v_iadd X d_Law_law_142 ?_
  refine v_int (y := 2) (by decide) ?_
  refine v_tload X hscr d_Law_law_143 (show vp_in (nI 2) 6 from vp_in_nI (by decide) (by decide)) ?_
  refine v_int (y := xs 2) rfl ?_
  refine v_aload_n X d_Law_law_144 rfl rfl ?_
  refine v_iload_n X d_Law_law_145 rfl ?_
  refine v_iconst X (v := 3) d_Law_law_146 rfl ?_
  refine v_iadd X d_Law_law_147 ?_
  refine v_int (y := 3) (by decide) ?_
  refine v_tload X hscr d_Law_law_148 (show vp_in (nI 3) 6 from vp_in_nI (by decide) (by decide)) ?_
  refine v_int (y := xs 3) rfl ?_
  refine v_aload_n X d_Law_law_149 rfl rfl ?_
  refine v_iload_n X d_Law_law_150 rfl ?_
  refine v_iconst X (v := 4) d_Law_law_151 rfl ?_
  refine v_iadd X d_Law_law_152 ?_
  refine v_int (y := 4) (by decide) ?_
  refine v_tload X hscr d_Law_law_153 (show vp_in (nI 4) 6 from vp_in_nI (by decide) (by decide)) ?_
  refine v_int (y := xs 4) rfl ?_
  refine v_aload_n X d_Law_law_154 rfl rfl ?_
  refine v_iload_n X d_Law_law_155 rfl ?_
  refine v_iconst X (v := 5) d_Law_law_156 rfl ?_
  refine v_iadd X d_Law_law_157 ?_
  refine v_int (y := 5) (by decide) ?_
  refine v_tload X hscr d_Law_law_158 (show vp_in (nI 5) 6 from vp_in_nI (by decide) (by decide)) ?_
  refine v_int (y := xs 5) rfl ?_
  refine l_call X B (As := [.int (xs 1), .int (xs 2), .int (xs 3), .int (xs 4), .int (xs 5)]) (rest := [_]) rfl rfl L_Law_17 d_Law_law_159 (by decide) (M_handler s1 (xs 1) (xs 2) (xs 3) (xs 4) (xs 5) m30) rfl (by decide) rfl (Nat.le_of_ble_eq_true rfl) (fun r s2 hq => ?_)
  subst hq
  exact v_icmp_eq X 566 d_Law_law_162 (by decide) (fun _ => kend s2) (fun c => absurd rfl c)
set_option maxRecDepth 100000 in
set_option maxHeartbeats 4000000 in
theorem LW_1 {K : j_K} {D : va_G} {z : Nat} {zs : j_Zs} {ca : Nat → ClassId} {nm : String} {b : Nat} {xs : Nat → Int32} (X : j_X K (k_G D ca z zs) (Y_Law nm) 6 352 3449) (B : p_B K z 0 0) (hscr : (b, 6, xs) ∈ zs.2.1)  {s : k_S} (hC : frC s) (hM : frM s) (kend : ∀ s1, j_V K (k_G D ca z zs) (Y_Law nm) 566 [(3, .int 0), (2, .ref (ad z 24 0)), (1, .ref (ad z 0 0)), (0, .ref b)] [] (k_M ca z s1)) : j_V K (k_G D ca z zs) (Y_Law nm) 167 [(3, .int 0), (2, .ref (ad z 24 0)), (1, .ref (ad z 0 0)), (0, .ref b)] [] (k_M ca z s) := by
  obtain ⟨hth, hsz, hfr, hd0, ha0, ha1, hl0, hb0, hj⟩ := hC
  refine v_aload_n X d_Law_law_167 rfl rfl ?_
  refine v_aload_n X d_Law_law_168 rfl rfl ?_
  refine v_iload_n X d_Law_law_169 rfl ?_
  refine v_iconst X (v := 1) d_Law_law_170 rfl ?_
  refine v_iadd X d_Law_law_171 ?_
  refine v_int (y := 1) (by decide) ?_
  refine v_tload X hscr d_Law_law_172 (show vp_in (nI 1) 6 from vp_in_nI (by decide) (by decide)) ?_
  refine v_int (y := xs 1) rfl ?_
  refine v_aload_n X d_Law_law_173 rfl rfl ?_
  refine v_iload_n X d_Law_law_174 rfl ?_
  refine v_iconst X (v := 2) d_Law_law_175 rfl ?_
  refine v_iadd X d_Law_law_176 ?_
  refine v_int (y := 2) (by decide) ?_
  refine v_tload X hscr d_Law_law_177 (show vp_in (nI 2) 6 from vp_in_nI (by decide) (by decide)) ?_
  refine v_int (y := xs 2) rfl ?_
  refine v_aload_n X d_Law_law_178 rfl rfl ?_
  refine v_iload_n X d_Law_law_179 rfl ?_
  refine v_iconst X (v := 3) d_Law_law_180 rfl ?_
  refine v_iadd X d_Law_law_181 ?_
  refine v_int (y := 3) (by decide) ?_
  refine v_tload X hscr d_Law_law_182 (show vp_in (nI 3) 6 from vp_in_nI (by decide) (by decide)) ?_
  refine v_int (y := xs 3) rfl ?_
  refine v_aload_n X d_Law_law_183 rfl rfl ?_
  refine v_iload_n X d_Law_law_184 rfl ?_
  refine v_iconst X (v := 4) d_Law_law_185 rfl ?_
  refine v_iadd X d_Law_law_186 ?_
  refine v_int (y := 4) (by decide) ?_
  refine v_tload X hscr d_Law_law_187 (show vp_in (nI 4) 6 from vp_in_nI (by decide) (by decide)) ?_
  refine v_int (y := xs 4) rfl ?_
  refine l_call X B (As := [.int (xs 1), .int (xs 2), .int (xs 3), .int (xs 4)]) (rest := []) rfl rfl L_Law_18 d_Law_law_188 (by decide) (P_limit s (xs 1) (xs 2) (xs 3) (xs 4) hth) rfl (by decide) rfl (Nat.le_of_ble_eq_true rfl) (fun r s1 hq => ?_)
  obtain ⟨rfl, hsm⟩ := hq
  obtain ⟨mth, mtk, mrw, m30, m31, m32, m35, m36, m37, m38, m40, m42, m43, m44, m47, m39⟩ := frM_same hM hsm
  refine v_aload_n X d_Law_law_191 rfl rfl ?_
  refine v_aload_n X d_Law_law_192 rfl rfl ?_
  refine v_iload_n X d_Law_law_193 rfl ?_
  refine v_iconst X (v := 1) d_Law_law_194 rfl ?_
  refine v_iadd X d_Law_law_195 ?_
  refine v_int (y := 1) (by decide) ?_
  refine v_tload X hscr d_Law_law_196 (show vp_in (nI 1) 6 from vp_in_nI (by decide) (by decide)) ?_
  refine v_int (y := xs 1) rfl ?_
  refine v_aload_n X d_Law_law_197 rfl rfl ?_
  refine v_iload_n X d_Law_law_198 rfl ?_
  refine v_iconst X (v := 2) d_Law_law_199 rfl ?_
  refine v_iadd X d_Law_law_200 ?_
  refine v_int (y := 2) (by decide) ?_
  refine v_tload X hscr d_Law_law_201 (show vp_in (nI 2) 6 from vp_in_nI (by decide) (by decide)) ?_
  refine v_int (y := xs 2) rfl ?_
  refine v_aload_n X d_Law_law_202 rfl rfl ?_
  refine v_iload_n X d_Law_law_203 rfl ?_
  refine v_iconst X (v := 3) d_Law_law_204 rfl ?_
  refine v_iadd X d_Law_law_205 ?_
  refine v_int (y := 3) (by decide) ?_
  refine v_tload X hscr d_Law_law_206 (show vp_in (nI 3) 6 from vp_in_nI (by decide) (by decide)) ?_
  refine v_int (y := xs 3) rfl ?_
  refine v_aload_n X d_Law_law_207 rfl rfl ?_
  refine v_iload_n X d_Law_law_208 rfl ?_
  refine v_iconst X (v := 4) d_Law_law_209 rfl ?_
  refine v_iadd X d_Law_law_210 ?_
  refine v_int (y := 4) (by decide) ?_
  refine v_tload X hscr d_Law_law_211 (show vp_in (nI 4) 6 from vp_in_nI (by decide) (by decide)) ?_
  refine v_int (y := xs 4) rfl ?_
  refine l_call X B (As := [.int (xs 1), .int (xs 2), .int (xs 3), .int (xs 4)]) (rest := [_]) rfl rfl L_Law_22 d_Law_law_212 (by decide) (M_limit s1 (xs 1) (xs 2) (xs 3) (xs 4) mth) rfl (by decide) rfl (Nat.le_of_ble_eq_true rfl) (fun r s2 hq => ?_)
  subst hq
  exact v_icmp_eq X 566 d_Law_law_215 (by decide) (fun _ => kend s2) (fun c => absurd rfl c)
set_option maxRecDepth 100000 in
set_option maxHeartbeats 4000000 in
theorem LW_2 {K : j_K} {D : va_G} {z : Nat} {zs : j_Zs} {ca : Nat → ClassId} {nm : String} {b : Nat} {xs : Nat → Int32} (X : j_X K (k_G D ca z zs) (Y_Law nm) 6 352 3449) (B : p_B K z 0 0) (hscr : (b, 6, xs) ∈ zs.2.1)  {s : k_S} (hC : frC s) (hM : frM s) (kend : ∀ s1, j_V K (k_G D ca z zs) (Y_Law nm) 566 [(3, .int 0), (2, .ref (ad z 24 0)), (1, .ref (ad z 0 0)), (0, .ref b)] [] (k_M ca z s1)) : j_V K (k_G D ca z zs) (Y_Law nm) 220 [(3, .int 0), (2, .ref (ad z 24 0)), (1, .ref (ad z 0 0)), (0, .ref b)] [] (k_M ca z s) := by
  obtain ⟨hth, hsz, hfr, hd0, ha0, ha1, hl0, hb0, hj⟩ := hC
  refine v_aload_n X d_Law_law_220 rfl rfl ?_
  refine v_aload_n X d_Law_law_221 rfl rfl ?_
  refine v_iload_n X d_Law_law_222 rfl ?_
  refine v_iconst X (v := 1) d_Law_law_223 rfl ?_
  refine v_iadd X d_Law_law_224 ?_
  refine v_int (y := 1) (by decide) ?_
  refine v_tload X hscr d_Law_law_225 (show vp_in (nI 1) 6 from vp_in_nI (by decide) (by decide)) ?_
  refine v_int (y := xs 1) rfl ?_
  refine v_aload_n X d_Law_law_226 rfl rfl ?_
  refine v_iload_n X d_Law_law_227 rfl ?_
  refine v_iconst X (v := 2) d_Law_law_228 rfl ?_
  refine v_iadd X d_Law_law_229 ?_
  refine v_int (y := 2) (by decide) ?_
  refine v_tload X hscr d_Law_law_230 (show vp_in (nI 2) 6 from vp_in_nI (by decide) (by decide)) ?_
  refine v_int (y := xs 2) rfl ?_
  refine v_aload_n X d_Law_law_231 rfl rfl ?_
  refine v_iload_n X d_Law_law_232 rfl ?_
  refine v_iconst X (v := 3) d_Law_law_233 rfl ?_
  refine v_iadd X d_Law_law_234 ?_
  refine v_int (y := 3) (by decide) ?_
  refine v_tload X hscr d_Law_law_235 (show vp_in (nI 3) 6 from vp_in_nI (by decide) (by decide)) ?_
  refine v_int (y := xs 3) rfl ?_
  refine l_call X B (As := [.int (xs 1), .int (xs 2), .int (xs 3)]) (rest := []) rfl rfl L_Law_23 d_Law_law_236 (by decide) (P_step s (xs 1) (xs 2) (xs 3) hth) rfl (by decide) rfl (Nat.le_of_ble_eq_true rfl) (fun r s1 hq => ?_)
  obtain ⟨rfl, hsm⟩ := hq
  obtain ⟨mth, mtk, mrw, m30, m31, m32, m35, m36, m37, m38, m40, m42, m43, m44, m47, m39⟩ := frM_same hM hsm
  refine v_aload_n X d_Law_law_239 rfl rfl ?_
  refine v_aload_n X d_Law_law_240 rfl rfl ?_
  refine v_iload_n X d_Law_law_241 rfl ?_
  refine v_iconst X (v := 1) d_Law_law_242 rfl ?_
  refine v_iadd X d_Law_law_243 ?_
  refine v_int (y := 1) (by decide) ?_
  refine v_tload X hscr d_Law_law_244 (show vp_in (nI 1) 6 from vp_in_nI (by decide) (by decide)) ?_
  refine v_int (y := xs 1) rfl ?_
  refine v_aload_n X d_Law_law_245 rfl rfl ?_
  refine v_iload_n X d_Law_law_246 rfl ?_
  refine v_iconst X (v := 2) d_Law_law_247 rfl ?_
  refine v_iadd X d_Law_law_248 ?_
  refine v_int (y := 2) (by decide) ?_
  refine v_tload X hscr d_Law_law_249 (show vp_in (nI 2) 6 from vp_in_nI (by decide) (by decide)) ?_
  refine v_int (y := xs 2) rfl ?_
  refine v_aload_n X d_Law_law_250 rfl rfl ?_
  refine v_iload_n X d_Law_law_251 rfl ?_
  refine v_iconst X (v := 3) d_Law_law_252 rfl ?_
  refine v_iadd X d_Law_law_253 ?_
  refine v_int (y := 3) (by decide) ?_
  refine v_tload X hscr d_Law_law_254 (show vp_in (nI 3) 6 from vp_in_nI (by decide) (by decide)) ?_
  refine v_int (y := xs 3) rfl ?_
  refine l_call X B (As := [.int (xs 1), .int (xs 2), .int (xs 3)]) (rest := [_]) rfl rfl L_Law_27 d_Law_law_255 (by decide) (M_step s1 (xs 1) (xs 2) (xs 3) mth) rfl (by decide) rfl (Nat.le_of_ble_eq_true rfl) (fun r s2 hq => ?_)
  subst hq
  exact v_icmp_eq X 566 d_Law_law_258 (by decide) (fun _ => kend s2) (fun c => absurd rfl c)
set_option maxRecDepth 100000 in
set_option maxHeartbeats 4000000 in
theorem LW_3 {K : j_K} {D : va_G} {z : Nat} {zs : j_Zs} {ca : Nat → ClassId} {nm : String} {b : Nat} {xs : Nat → Int32} (X : j_X K (k_G D ca z zs) (Y_Law nm) 6 352 3449) (B : p_B K z 0 0) (hscr : (b, 6, xs) ∈ zs.2.1)  {s : k_S} (hC : frC s) (hM : frM s) (kend : ∀ s1, j_V K (k_G D ca z zs) (Y_Law nm) 566 [(3, .int 0), (2, .ref (ad z 24 0)), (1, .ref (ad z 0 0)), (0, .ref b)] [] (k_M ca z s1)) : j_V K (k_G D ca z zs) (Y_Law nm) 263 [(3, .int 0), (2, .ref (ad z 24 0)), (1, .ref (ad z 0 0)), (0, .ref b)] [] (k_M ca z s) := by
  obtain ⟨hth, hsz, hfr, hd0, ha0, ha1, hl0, hb0, hj⟩ := hC
  refine v_aload_n X d_Law_law_263 rfl rfl ?_
  refine v_aload_n X d_Law_law_264 rfl rfl ?_
  refine v_iload_n X d_Law_law_265 rfl ?_
  refine v_iconst X (v := 1) d_Law_law_266 rfl ?_
  refine v_iadd X d_Law_law_267 ?_
  refine v_int (y := 1) (by decide) ?_
  refine v_tload X hscr d_Law_law_268 (show vp_in (nI 1) 6 from vp_in_nI (by decide) (by decide)) ?_
  refine v_int (y := xs 1) rfl ?_
  refine v_aload_n X d_Law_law_269 rfl rfl ?_
  refine v_iload_n X d_Law_law_270 rfl ?_
  refine v_iconst X (v := 2) d_Law_law_271 rfl ?_
  refine v_iadd X d_Law_law_272 ?_
  refine v_int (y := 2) (by decide) ?_
  refine v_tload X hscr d_Law_law_273 (show vp_in (nI 2) 6 from vp_in_nI (by decide) (by decide)) ?_
  refine v_int (y := xs 2) rfl ?_
  refine l_call X B (As := [.int (xs 1), .int (xs 2)]) (rest := []) rfl rfl L_Law_28 d_Law_law_274 (by decide) (P_ceiling s (xs 1) (xs 2) (hd0 5 (by decide) (by decide))) rfl (by decide) rfl (Nat.le_of_ble_eq_true rfl) (fun r s1 hq => ?_)
  obtain ⟨rfl, hsm⟩ := hq
  obtain ⟨mth, mtk, mrw, m30, m31, m32, m35, m36, m37, m38, m40, m42, m43, m44, m47, m39⟩ := frM_same hM hsm
  refine v_aload_n X d_Law_law_277 rfl rfl ?_
  refine v_aload_n X d_Law_law_278 rfl rfl ?_
  refine v_iload_n X d_Law_law_279 rfl ?_
  refine v_iconst X (v := 1) d_Law_law_280 rfl ?_
  refine v_iadd X d_Law_law_281 ?_
  refine v_int (y := 1) (by decide) ?_
  refine v_tload X hscr d_Law_law_282 (show vp_in (nI 1) 6 from vp_in_nI (by decide) (by decide)) ?_
  refine v_int (y := xs 1) rfl ?_
  refine v_aload_n X d_Law_law_283 rfl rfl ?_
  refine v_iload_n X d_Law_law_284 rfl ?_
  refine v_iconst X (v := 2) d_Law_law_285 rfl ?_
  refine v_iadd X d_Law_law_286 ?_
  refine v_int (y := 2) (by decide) ?_
  refine v_tload X hscr d_Law_law_287 (show vp_in (nI 2) 6 from vp_in_nI (by decide) (by decide)) ?_
  refine v_int (y := xs 2) rfl ?_
  refine l_call X B (As := [.int (xs 1), .int (xs 2)]) (rest := [_]) rfl rfl L_Law_32 d_Law_law_288 (by decide) (M_ceiling s1 (xs 1) (xs 2) m30) rfl (by decide) rfl (Nat.le_of_ble_eq_true rfl) (fun r s2 hq => ?_)
  subst hq
  exact v_icmp_eq X 566 d_Law_law_291 (by decide) (fun _ => kend s2) (fun c => absurd rfl c)
set_option maxRecDepth 100000 in
set_option maxHeartbeats 4000000 in
theorem LW_4 {K : j_K} {D : va_G} {z : Nat} {zs : j_Zs} {ca : Nat → ClassId} {nm : String} {b : Nat} {xs : Nat → Int32} (X : j_X K (k_G D ca z zs) (Y_Law nm) 6 352 3449) (B : p_B K z 0 0) (hscr : (b, 6, xs) ∈ zs.2.1)  {s : k_S} (hC : frC s) (hM : frM s) (kend : ∀ s1, j_V K (k_G D ca z zs) (Y_Law nm) 566 [(3, .int 0), (2, .ref (ad z 24 0)), (1, .ref (ad z 0 0)), (0, .ref b)] [] (k_M ca z s1)) : j_V K (k_G D ca z zs) (Y_Law nm) 296 [(3, .int 0), (2, .ref (ad z 24 0)), (1, .ref (ad z 0 0)), (0, .ref b)] [] (k_M ca z s) := by
  obtain ⟨hth, hsz, hfr, hd0, ha0, ha1, hl0, hb0, hj⟩ := hC
  refine v_aload_n X d_Law_law_296 rfl rfl ?_
  refine v_aload_n X d_Law_law_297 rfl rfl ?_
  refine v_iload_n X d_Law_law_298 rfl ?_
  refine v_iconst X (v := 1) d_Law_law_299 rfl ?_
  refine v_iadd X d_Law_law_300 ?_
  refine v_int (y := 1) (by decide) ?_
  refine v_tload X hscr d_Law_law_301 (show vp_in (nI 1) 6 from vp_in_nI (by decide) (by decide)) ?_
  refine v_int (y := xs 1) rfl ?_
  refine v_aload_n X d_Law_law_302 rfl rfl ?_
  refine v_iload_n X d_Law_law_303 rfl ?_
  refine v_iconst X (v := 2) d_Law_law_304 rfl ?_
  refine v_iadd X d_Law_law_305 ?_
  refine v_int (y := 2) (by decide) ?_
  refine v_tload X hscr d_Law_law_306 (show vp_in (nI 2) 6 from vp_in_nI (by decide) (by decide)) ?_
  refine v_int (y := xs 2) rfl ?_
  refine l_call X B (As := [.int (xs 1), .int (xs 2)]) (rest := []) rfl rfl L_Law_33 d_Law_law_307 (by decide) (P_frame s (xs 1) (xs 2) (hd0 5 (by decide) (by decide))) rfl (by decide) rfl (Nat.le_of_ble_eq_true rfl) (fun r s1 hq => ?_)
  obtain ⟨rfl, hsm⟩ := hq
  obtain ⟨mth, mtk, mrw, m30, m31, m32, m35, m36, m37, m38, m40, m42, m43, m44, m47, m39⟩ := frM_same hM hsm
  refine v_aload_n X d_Law_law_310 rfl rfl ?_
  refine v_aload_n X d_Law_law_311 rfl rfl ?_
  refine v_iload_n X d_Law_law_312 rfl ?_
  refine v_iconst X (v := 1) d_Law_law_313 rfl ?_
  refine v_iadd X d_Law_law_314 ?_
  refine v_int (y := 1) (by decide) ?_
  refine v_tload X hscr d_Law_law_315 (show vp_in (nI 1) 6 from vp_in_nI (by decide) (by decide)) ?_
  refine v_int (y := xs 1) rfl ?_
  refine v_aload_n X d_Law_law_316 rfl rfl ?_
  refine v_iload_n X d_Law_law_317 rfl ?_
  refine v_iconst X (v := 2) d_Law_law_318 rfl ?_
  refine v_iadd X d_Law_law_319 ?_
  refine v_int (y := 2) (by decide) ?_
  refine v_tload X hscr d_Law_law_320 (show vp_in (nI 2) 6 from vp_in_nI (by decide) (by decide)) ?_
  refine v_int (y := xs 2) rfl ?_
  refine l_call X B (As := [.int (xs 1), .int (xs 2)]) (rest := [_]) rfl rfl L_Law_36 d_Law_law_321 (by decide) (M_frame s1 (xs 1) (xs 2) m30) rfl (by decide) rfl (Nat.le_of_ble_eq_true rfl) (fun r s2 hq => ?_)
  subst hq
  exact v_icmp_eq X 566 d_Law_law_324 (by decide) (fun _ => kend s2) (fun c => absurd rfl c)
set_option maxRecDepth 100000 in
set_option maxHeartbeats 4000000 in
theorem LW_5 {K : j_K} {D : va_G} {z : Nat} {zs : j_Zs} {ca : Nat → ClassId} {nm : String} {b : Nat} {xs : Nat → Int32} (X : j_X K (k_G D ca z zs) (Y_Law nm) 6 352 3449) (B : p_B K z 0 0) (hscr : (b, 6, xs) ∈ zs.2.1)  {s : k_S} (hC : frC s) (hM : frM s) (kend : ∀ s1, j_V K (k_G D ca z zs) (Y_Law nm) 566 [(3, .int 0), (2, .ref (ad z 24 0)), (1, .ref (ad z 0 0)), (0, .ref b)] [] (k_M ca z s1)) : j_V K (k_G D ca z zs) (Y_Law nm) 329 [(3, .int 0), (2, .ref (ad z 24 0)), (1, .ref (ad z 0 0)), (0, .ref b)] [] (k_M ca z s) := by
  obtain ⟨hth, hsz, hfr, hd0, ha0, ha1, hl0, hb0, hj⟩ := hC
  refine v_aload_n X d_Law_law_329 rfl rfl ?_
  refine v_aload_n X d_Law_law_330 rfl rfl ?_
  refine v_iload_n X d_Law_law_331 rfl ?_
  refine v_iconst X (v := 1) d_Law_law_332 rfl ?_
  refine v_iadd X d_Law_law_333 ?_
  refine v_int (y := 1) (by decide) ?_
  refine v_tload X hscr d_Law_law_334 (show vp_in (nI 1) 6 from vp_in_nI (by decide) (by decide)) ?_
  refine v_int (y := xs 1) rfl ?_
  refine v_aload_n X d_Law_law_335 rfl rfl ?_
  refine v_iload_n X d_Law_law_336 rfl ?_
  refine v_iconst X (v := 2) d_Law_law_337 rfl ?_
  refine v_iadd X d_Law_law_338 ?_
  refine v_int (y := 2) (by decide) ?_
  refine v_tload X hscr d_Law_law_339 (show vp_in (nI 2) 6 from vp_in_nI (by decide) (by decide)) ?_
  refine v_int (y := xs 2) rfl ?_
  refine l_call X B (As := [.int (xs 1), .int (xs 2)]) (rest := []) rfl rfl L_Law_37 d_Law_law_340 (by decide) (P_place s (xs 1) (xs 2) hfr) rfl (by decide) rfl (Nat.le_of_ble_eq_true rfl) (fun r s1 hq => ?_)
  obtain ⟨rfl, hsm⟩ := hq
  obtain ⟨mth, mtk, mrw, m30, m31, m32, m35, m36, m37, m38, m40, m42, m43, m44, m47, m39⟩ := frM_same hM hsm
  refine v_aload_n X d_Law_law_343 rfl rfl ?_
  refine v_aload_n X d_Law_law_344 rfl rfl ?_
  refine v_iload_n X d_Law_law_345 rfl ?_
  refine v_iconst X (v := 1) d_Law_law_346 rfl ?_
  refine v_iadd X d_Law_law_347 ?_
  refine v_int (y := 1) (by decide) ?_
  refine v_tload X hscr d_Law_law_348 (show vp_in (nI 1) 6 from vp_in_nI (by decide) (by decide)) ?_
  refine v_int (y := xs 1) rfl ?_
  refine v_aload_n X d_Law_law_349 rfl rfl ?_
  refine v_iload_n X d_Law_law_350 rfl ?_
  refine v_iconst X (v := 2) d_Law_law_351 rfl ?_
  refine v_iadd X d_Law_law_352 ?_
  refine v_int (y := 2) (by decide) ?_
  refine v_tload X hscr d_Law_law_353 (show vp_in (nI 2) 6 from vp_in_nI (by decide) (by decide)) ?_
  refine v_int (y := xs 2) rfl ?_
  refine l_call X B (As := [.int (xs 1), .int (xs 2)]) (rest := [_]) rfl rfl L_Law_41 d_Law_law_354 (by decide) (M_place s1 (xs 1) (xs 2) mtk) rfl (by decide) rfl (Nat.le_of_ble_eq_true rfl) (fun r s2 hq => ?_)
  subst hq
  exact v_icmp_eq X 566 d_Law_law_357 (by decide) (fun _ => kend s2) (fun c => absurd rfl c)
set_option maxRecDepth 100000 in
set_option maxHeartbeats 4000000 in
theorem LW_6 {K : j_K} {D : va_G} {z : Nat} {zs : j_Zs} {ca : Nat → ClassId} {nm : String} {b : Nat} {xs : Nat → Int32} (X : j_X K (k_G D ca z zs) (Y_Law nm) 6 352 3449) (B : p_B K z 0 0) (hscr : (b, 6, xs) ∈ zs.2.1)  {s : k_S} (hC : frC s) (hM : frM s) (kend : ∀ s1, j_V K (k_G D ca z zs) (Y_Law nm) 566 [(3, .int 0), (2, .ref (ad z 24 0)), (1, .ref (ad z 0 0)), (0, .ref b)] [] (k_M ca z s1)) : j_V K (k_G D ca z zs) (Y_Law nm) 362 [(3, .int 0), (2, .ref (ad z 24 0)), (1, .ref (ad z 0 0)), (0, .ref b)] [] (k_M ca z s) := by
  obtain ⟨hth, hsz, hfr, hd0, ha0, ha1, hl0, hb0, hj⟩ := hC
  refine v_aload_n X d_Law_law_362 rfl rfl ?_
  refine v_aload_n X d_Law_law_363 rfl rfl ?_
  refine v_iload_n X d_Law_law_364 rfl ?_
  refine v_iconst X (v := 1) d_Law_law_365 rfl ?_
  refine v_iadd X d_Law_law_366 ?_
  refine v_int (y := 1) (by decide) ?_
  refine v_tload X hscr d_Law_law_367 (show vp_in (nI 1) 6 from vp_in_nI (by decide) (by decide)) ?_
  refine v_int (y := xs 1) rfl ?_
  refine v_aload_n X d_Law_law_368 rfl rfl ?_
  refine v_iload_n X d_Law_law_369 rfl ?_
  refine v_iconst X (v := 2) d_Law_law_370 rfl ?_
  refine v_iadd X d_Law_law_371 ?_
  refine v_int (y := 2) (by decide) ?_
  refine v_tload X hscr d_Law_law_372 (show vp_in (nI 2) 6 from vp_in_nI (by decide) (by decide)) ?_
  refine v_int (y := xs 2) rfl ?_
  refine l_call X B (As := [.int (xs 1), .int (xs 2)]) (rest := []) rfl rfl L_Law_42 d_Law_law_373 (by decide) (P_begin s (xs 1) (xs 2) (hd0 5 (by decide) (by decide)) hfr (hd0 8 (by decide) (by decide))) rfl (by decide) rfl (Nat.le_of_ble_eq_true rfl) (fun r s1 hq => ?_)
  obtain ⟨rfl, hsm⟩ := hq
  obtain ⟨mth, mtk, mrw, m30, m31, m32, m35, m36, m37, m38, m40, m42, m43, m44, m47, m39⟩ := frM_same hM hsm
  refine v_aload_n X d_Law_law_376 rfl rfl ?_
  refine v_aload_n X d_Law_law_377 rfl rfl ?_
  refine v_iload_n X d_Law_law_378 rfl ?_
  refine v_iconst X (v := 1) d_Law_law_379 rfl ?_
  refine v_iadd X d_Law_law_380 ?_
  refine v_int (y := 1) (by decide) ?_
  refine v_tload X hscr d_Law_law_381 (show vp_in (nI 1) 6 from vp_in_nI (by decide) (by decide)) ?_
  refine v_int (y := xs 1) rfl ?_
  refine v_aload_n X d_Law_law_382 rfl rfl ?_
  refine v_iload_n X d_Law_law_383 rfl ?_
  refine v_iconst X (v := 2) d_Law_law_384 rfl ?_
  refine v_iadd X d_Law_law_385 ?_
  refine v_int (y := 2) (by decide) ?_
  refine v_tload X hscr d_Law_law_386 (show vp_in (nI 2) 6 from vp_in_nI (by decide) (by decide)) ?_
  refine v_int (y := xs 2) rfl ?_
  refine l_call X B (As := [.int (xs 1), .int (xs 2)]) (rest := [_]) rfl rfl L_Law_45 d_Law_law_387 (by decide) (M_begin s1 (xs 1) (xs 2) m30 mtk m32) rfl (by decide) rfl (Nat.le_of_ble_eq_true rfl) (fun r s2 hq => ?_)
  subst hq
  exact v_icmp_eq X 566 d_Law_law_390 (by decide) (fun _ => kend s2) (fun c => absurd rfl c)
set_option maxRecDepth 100000 in
set_option maxHeartbeats 4000000 in
theorem LW_7 {K : j_K} {D : va_G} {z : Nat} {zs : j_Zs} {ca : Nat → ClassId} {nm : String} {b : Nat} {xs : Nat → Int32} (X : j_X K (k_G D ca z zs) (Y_Law nm) 6 352 3449) (B : p_B K z 0 0) (hscr : (b, 6, xs) ∈ zs.2.1)  {s : k_S} (hC : frC s) (hM : frM s) (kend : ∀ s1, j_V K (k_G D ca z zs) (Y_Law nm) 566 [(3, .int 0), (2, .ref (ad z 24 0)), (1, .ref (ad z 0 0)), (0, .ref b)] [] (k_M ca z s1)) : j_V K (k_G D ca z zs) (Y_Law nm) 395 [(3, .int 0), (2, .ref (ad z 24 0)), (1, .ref (ad z 0 0)), (0, .ref b)] [] (k_M ca z s) := by
  obtain ⟨hth, hsz, hfr, hd0, ha0, ha1, hl0, hb0, hj⟩ := hC
  refine v_aload_n X d_Law_law_395 rfl rfl ?_
  refine v_aload_n X d_Law_law_396 rfl rfl ?_
  refine v_iload_n X d_Law_law_397 rfl ?_
  refine v_iconst X (v := 1) d_Law_law_398 rfl ?_
  refine v_iadd X d_Law_law_399 ?_
  refine v_int (y := 1) (by decide) ?_
  refine v_tload X hscr d_Law_law_400 (show vp_in (nI 1) 6 from vp_in_nI (by decide) (by decide)) ?_
  refine v_int (y := xs 1) rfl ?_
  refine l_call X B (As := [.int (xs 1)]) (rest := []) rfl rfl L_Law_46 d_Law_law_401 (by decide) (P_run s (xs 1) (hd0 5 (by decide) (by decide))) rfl (by decide) rfl (Nat.le_of_ble_eq_true rfl) (fun r s1 hq => ?_)
  obtain ⟨rfl, hsm⟩ := hq
  obtain ⟨mth, mtk, mrw, m30, m31, m32, m35, m36, m37, m38, m40, m42, m43, m44, m47, m39⟩ := frM_same hM hsm
  refine v_aload_n X d_Law_law_404 rfl rfl ?_
  refine v_aload_n X d_Law_law_405 rfl rfl ?_
  refine v_iload_n X d_Law_law_406 rfl ?_
  refine v_iconst X (v := 1) d_Law_law_407 rfl ?_
  refine v_iadd X d_Law_law_408 ?_
  refine v_int (y := 1) (by decide) ?_
  refine v_tload X hscr d_Law_law_409 (show vp_in (nI 1) 6 from vp_in_nI (by decide) (by decide)) ?_
  refine v_int (y := xs 1) rfl ?_
  refine l_call X B (As := [.int (xs 1)]) (rest := [_]) rfl rfl L_Law_50 d_Law_law_410 (by decide) (M_run s1 (xs 1) m30) rfl (by decide) rfl (Nat.le_of_ble_eq_true rfl) (fun r s2 hq => ?_)
  subst hq
  exact v_icmp_eq X 566 d_Law_law_413 (by decide) (fun _ => kend s2) (fun c => absurd rfl c)
set_option maxRecDepth 100000 in
set_option maxHeartbeats 4000000 in
theorem LW_8 {K : j_K} {D : va_G} {z : Nat} {zs : j_Zs} {ca : Nat → ClassId} {nm : String} {b : Nat} {xs : Nat → Int32} (X : j_X K (k_G D ca z zs) (Y_Law nm) 6 352 3449) (B : p_B K z 0 0) (hscr : (b, 6, xs) ∈ zs.2.1)  {s : k_S} (hC : frC s) (hM : frM s) (kend : ∀ s1, j_V K (k_G D ca z zs) (Y_Law nm) 566 [(3, .int 0), (2, .ref (ad z 24 0)), (1, .ref (ad z 0 0)), (0, .ref b)] [] (k_M ca z s1)) : j_V K (k_G D ca z zs) (Y_Law nm) 418 [(3, .int 0), (2, .ref (ad z 24 0)), (1, .ref (ad z 0 0)), (0, .ref b)] [] (k_M ca z s) := by
  obtain ⟨hth, hsz, hfr, hd0, ha0, ha1, hl0, hb0, hj⟩ := hC
  refine v_aload_n X d_Law_law_418 rfl rfl ?_
  refine v_aload_n X d_Law_law_419 rfl rfl ?_
  refine v_iload_n X d_Law_law_420 rfl ?_
  refine v_iconst X (v := 1) d_Law_law_421 rfl ?_
  refine v_iadd X d_Law_law_422 ?_
  refine v_int (y := 1) (by decide) ?_
  refine v_tload X hscr d_Law_law_423 (show vp_in (nI 1) 6 from vp_in_nI (by decide) (by decide)) ?_
  refine v_int (y := xs 1) rfl ?_
  refine l_call X B (As := [.int (xs 1)]) (rest := []) rfl rfl L_Law_51 d_Law_law_424 (by decide) (P_call s (xs 1) hth) rfl (by decide) rfl (Nat.le_of_ble_eq_true rfl) (fun r s1 hq => ?_)
  obtain ⟨rfl, hsm⟩ := hq
  obtain ⟨mth, mtk, mrw, m30, m31, m32, m35, m36, m37, m38, m40, m42, m43, m44, m47, m39⟩ := frM_same hM hsm
  refine v_aload_n X d_Law_law_427 rfl rfl ?_
  refine v_aload_n X d_Law_law_428 rfl rfl ?_
  refine v_iload_n X d_Law_law_429 rfl ?_
  refine v_iconst X (v := 1) d_Law_law_430 rfl ?_
  refine v_iadd X d_Law_law_431 ?_
  refine v_int (y := 1) (by decide) ?_
  refine v_tload X hscr d_Law_law_432 (show vp_in (nI 1) 6 from vp_in_nI (by decide) (by decide)) ?_
  refine v_int (y := xs 1) rfl ?_
  refine l_call X B (As := [.int (xs 1)]) (rest := [_]) rfl rfl L_Law_54 d_Law_law_433 (by decide) (M_call s1 (xs 1) mth) rfl (by decide) rfl (Nat.le_of_ble_eq_true rfl) (fun r s2 hq => ?_)
  subst hq
  exact v_icmp_eq X 566 d_Law_law_436 (by decide) (fun _ => kend s2) (fun c => absurd rfl c)
set_option maxRecDepth 100000 in
set_option maxHeartbeats 4000000 in
theorem LW_9 {K : j_K} {D : va_G} {z : Nat} {zs : j_Zs} {ca : Nat → ClassId} {nm : String} {b : Nat} {xs : Nat → Int32} (X : j_X K (k_G D ca z zs) (Y_Law nm) 6 352 3449) (B : p_B K z 0 0) (hscr : (b, 6, xs) ∈ zs.2.1)  {s : k_S} (hC : frC s) (hM : frM s) (kend : ∀ s1, j_V K (k_G D ca z zs) (Y_Law nm) 566 [(3, .int 0), (2, .ref (ad z 24 0)), (1, .ref (ad z 0 0)), (0, .ref b)] [] (k_M ca z s1)) : j_V K (k_G D ca z zs) (Y_Law nm) 441 [(3, .int 0), (2, .ref (ad z 24 0)), (1, .ref (ad z 0 0)), (0, .ref b)] [] (k_M ca z s) := by
  obtain ⟨hth, hsz, hfr, hd0, ha0, ha1, hl0, hb0, hj⟩ := hC
  refine v_aload_n X d_Law_law_441 rfl rfl ?_
  refine l_call X B (As := []) (rest := []) rfl rfl L_Law_55 d_Law_law_442 (by decide) (P_stop s (hd0 5 (by decide) (by decide))) rfl (by decide) rfl (Nat.le_of_ble_eq_true rfl) (fun r s1 hq => ?_)
  obtain ⟨rfl, hsm⟩ := hq
  obtain ⟨mth, mtk, mrw, m30, m31, m32, m35, m36, m37, m38, m40, m42, m43, m44, m47, m39⟩ := frM_same hM hsm
  refine v_aload_n X d_Law_law_445 rfl rfl ?_
  refine l_call X B (As := []) (rest := [_]) rfl rfl L_Law_59 d_Law_law_446 (by decide) (M_stop s1 m30) rfl (by decide) rfl (Nat.le_of_ble_eq_true rfl) (fun r s2 hq => ?_)
  subst hq
  exact v_icmp_eq X 566 d_Law_law_449 (by decide) (fun _ => kend s2) (fun c => absurd rfl c)
set_option maxRecDepth 100000 in
set_option maxHeartbeats 4000000 in
theorem LW_10 {K : j_K} {D : va_G} {z : Nat} {zs : j_Zs} {ca : Nat → ClassId} {nm : String} {b : Nat} {xs : Nat → Int32} (X : j_X K (k_G D ca z zs) (Y_Law nm) 6 352 3449) (B : p_B K z 0 0) (hscr : (b, 6, xs) ∈ zs.2.1)  {s : k_S} (hC : frC s) (hM : frM s) (kend : ∀ s1, j_V K (k_G D ca z zs) (Y_Law nm) 566 [(3, .int 0), (2, .ref (ad z 24 0)), (1, .ref (ad z 0 0)), (0, .ref b)] [] (k_M ca z s1)) : j_V K (k_G D ca z zs) (Y_Law nm) 454 [(3, .int 0), (2, .ref (ad z 24 0)), (1, .ref (ad z 0 0)), (0, .ref b)] [] (k_M ca z s) := by
  obtain ⟨hth, hsz, hfr, hd0, ha0, ha1, hl0, hb0, hj⟩ := hC
  refine v_aload_n X d_Law_law_454 rfl rfl ?_
  refine v_aload_n X d_Law_law_455 rfl rfl ?_
  refine v_iload_n X d_Law_law_456 rfl ?_
  refine v_iconst X (v := 1) d_Law_law_457 rfl ?_
  refine v_iadd X d_Law_law_458 ?_
  refine v_int (y := 1) (by decide) ?_
  refine v_tload X hscr d_Law_law_459 (show vp_in (nI 1) 6 from vp_in_nI (by decide) (by decide)) ?_
  refine v_int (y := xs 1) rfl ?_
  refine v_aload_n X d_Law_law_460 rfl rfl ?_
  refine v_iload_n X d_Law_law_461 rfl ?_
  refine v_iconst X (v := 2) d_Law_law_462 rfl ?_
  refine v_iadd X d_Law_law_463 ?_
  refine v_int (y := 2) (by decide) ?_
  refine v_tload X hscr d_Law_law_464 (show vp_in (nI 2) 6 from vp_in_nI (by decide) (by decide)) ?_
  refine v_int (y := xs 2) rfl ?_
  refine l_call X B (As := [.int (xs 1), .int (xs 2)]) (rest := []) rfl rfl L_Law_60 d_Law_law_465 (by decide) (P_of s (xs 1) (xs 2) hth) rfl (by decide) rfl (Nat.le_of_ble_eq_true rfl) (fun r s1 hq => ?_)
  obtain ⟨rfl, hsm⟩ := hq
  obtain ⟨mth, mtk, mrw, m30, m31, m32, m35, m36, m37, m38, m40, m42, m43, m44, m47, m39⟩ := frM_same hM hsm
  refine v_aload_n X d_Law_law_468 rfl rfl ?_
  refine v_aload_n X d_Law_law_469 rfl rfl ?_
  refine v_iload_n X d_Law_law_470 rfl ?_
  refine v_iconst X (v := 1) d_Law_law_471 rfl ?_
  refine v_iadd X d_Law_law_472 ?_
  refine v_int (y := 1) (by decide) ?_
  refine v_tload X hscr d_Law_law_473 (show vp_in (nI 1) 6 from vp_in_nI (by decide) (by decide)) ?_
  refine v_int (y := xs 1) rfl ?_
  refine v_aload_n X d_Law_law_474 rfl rfl ?_
  refine v_iload_n X d_Law_law_475 rfl ?_
  refine v_iconst X (v := 2) d_Law_law_476 rfl ?_
  refine v_iadd X d_Law_law_477 ?_
  refine v_int (y := 2) (by decide) ?_
  refine v_tload X hscr d_Law_law_478 (show vp_in (nI 2) 6 from vp_in_nI (by decide) (by decide)) ?_
  refine v_int (y := xs 2) rfl ?_
  refine l_call X B (As := [.int (xs 1), .int (xs 2)]) (rest := [_]) rfl rfl L_Law_63 d_Law_law_479 (by decide) (M_of s1 (xs 1) (xs 2) mth) rfl (by decide) rfl (Nat.le_of_ble_eq_true rfl) (fun r s2 hq => ?_)
  subst hq
  exact v_icmp_eq X 566 d_Law_law_482 (by decide) (fun _ => kend s2) (fun c => absurd rfl c)
set_option maxRecDepth 100000 in
set_option maxHeartbeats 4000000 in
theorem LW_11 {K : j_K} {D : va_G} {z : Nat} {zs : j_Zs} {ca : Nat → ClassId} {nm : String} {b : Nat} {xs : Nat → Int32} (X : j_X K (k_G D ca z zs) (Y_Law nm) 6 352 3449) (B : p_B K z 0 0) (hscr : (b, 6, xs) ∈ zs.2.1)  {s : k_S} (hC : frC s) (hM : frM s) (kend : ∀ s1, j_V K (k_G D ca z zs) (Y_Law nm) 566 [(3, .int 0), (2, .ref (ad z 24 0)), (1, .ref (ad z 0 0)), (0, .ref b)] [] (k_M ca z s1)) : j_V K (k_G D ca z zs) (Y_Law nm) 487 [(3, .int 0), (2, .ref (ad z 24 0)), (1, .ref (ad z 0 0)), (0, .ref b)] [] (k_M ca z s) := by
  obtain ⟨hth, hsz, hfr, hd0, ha0, ha1, hl0, hb0, hj⟩ := hC
  refine v_aload_n X d_Law_law_487 rfl rfl ?_
  refine v_aload_n X d_Law_law_488 rfl rfl ?_
  refine v_iload_n X d_Law_law_489 rfl ?_
  refine v_iconst X (v := 1) d_Law_law_490 rfl ?_
  refine v_iadd X d_Law_law_491 ?_
  refine v_int (y := 1) (by decide) ?_
  refine v_tload X hscr d_Law_law_492 (show vp_in (nI 1) 6 from vp_in_nI (by decide) (by decide)) ?_
  refine v_int (y := xs 1) rfl ?_
  refine v_aload_n X d_Law_law_493 rfl rfl ?_
  refine v_iload_n X d_Law_law_494 rfl ?_
  refine v_iconst X (v := 2) d_Law_law_495 rfl ?_
  refine v_iadd X d_Law_law_496 ?_
  refine v_int (y := 2) (by decide) ?_
  refine v_tload X hscr d_Law_law_497 (show vp_in (nI 2) 6 from vp_in_nI (by decide) (by decide)) ?_
  refine v_int (y := xs 2) rfl ?_
  refine l_call X B (As := [.int (xs 1), .int (xs 2)]) (rest := []) rfl rfl L_Law_64 d_Law_law_498 (by decide) (P_memory s (xs 1) (xs 2) hth) rfl (by decide) rfl (Nat.le_of_ble_eq_true rfl) (fun r s1 hq => ?_)
  obtain ⟨rfl, hsm⟩ := hq
  obtain ⟨mth, mtk, mrw, m30, m31, m32, m35, m36, m37, m38, m40, m42, m43, m44, m47, m39⟩ := frM_same hM hsm
  refine v_aload_n X d_Law_law_501 rfl rfl ?_
  refine v_aload_n X d_Law_law_502 rfl rfl ?_
  refine v_iload_n X d_Law_law_503 rfl ?_
  refine v_iconst X (v := 1) d_Law_law_504 rfl ?_
  refine v_iadd X d_Law_law_505 ?_
  refine v_int (y := 1) (by decide) ?_
  refine v_tload X hscr d_Law_law_506 (show vp_in (nI 1) 6 from vp_in_nI (by decide) (by decide)) ?_
  refine v_int (y := xs 1) rfl ?_
  refine v_aload_n X d_Law_law_507 rfl rfl ?_
  refine v_iload_n X d_Law_law_508 rfl ?_
  refine v_iconst X (v := 2) d_Law_law_509 rfl ?_
  refine v_iadd X d_Law_law_510 ?_
  refine v_int (y := 2) (by decide) ?_
  refine v_tload X hscr d_Law_law_511 (show vp_in (nI 2) 6 from vp_in_nI (by decide) (by decide)) ?_
  refine v_int (y := xs 2) rfl ?_
  refine l_call X B (As := [.int (xs 1), .int (xs 2)]) (rest := [_]) rfl rfl L_Law_67 d_Law_law_512 (by decide) (M_memory s1 (xs 1) (xs 2) mth) rfl (by decide) rfl (Nat.le_of_ble_eq_true rfl) (fun r s2 hq => ?_)
  subst hq
  exact v_icmp_eq X 566 d_Law_law_515 (by decide) (fun _ => kend s2) (fun c => absurd rfl c)
set_option maxRecDepth 100000 in
set_option maxHeartbeats 4000000 in
theorem LW_13 {K : j_K} {D : va_G} {z : Nat} {zs : j_Zs} {ca : Nat → ClassId} {nm : String} {b : Nat} {xs : Nat → Int32} (X : j_X K (k_G D ca z zs) (Y_Law nm) 6 352 3449) (B : p_B K z 0 0) (hscr : (b, 6, xs) ∈ zs.2.1)  {s : k_S} (hC : frC s) (hM : frM s) (kend : ∀ s1, j_V K (k_G D ca z zs) (Y_Law nm) 566 [(3, .int 0), (2, .ref (ad z 24 0)), (1, .ref (ad z 0 0)), (0, .ref b)] [] (k_M ca z s1)) : j_V K (k_G D ca z zs) (Y_Law nm) 543 [(3, .int 0), (2, .ref (ad z 24 0)), (1, .ref (ad z 0 0)), (0, .ref b)] [] (k_M ca z s) := by
  obtain ⟨hth, hsz, hfr, hd0, ha0, ha1, hl0, hb0, hj⟩ := hC
  refine v_aload_n X d_Law_law_543 rfl rfl ?_
  refine v_aload_n X d_Law_law_544 rfl rfl ?_
  refine v_iload_n X d_Law_law_545 rfl ?_
  refine v_iconst X (v := 1) d_Law_law_546 rfl ?_
  refine v_iadd X d_Law_law_547 ?_
  refine v_int (y := 1) (by decide) ?_
  refine v_tload X hscr d_Law_law_548 (show vp_in (nI 1) 6 from vp_in_nI (by decide) (by decide)) ?_
  refine v_int (y := xs 1) rfl ?_
  refine l_call X B (As := [.int (xs 1)]) (rest := []) rfl rfl L_Law_72 d_Law_law_549 (by decide) (P_event s (xs 1) hj) rfl (by decide) rfl (Nat.le_of_ble_eq_true rfl) (fun r s1 hq => ?_)
  obtain ⟨rfl, hsm⟩ := hq
  obtain ⟨mth, mtk, mrw, m30, m31, m32, m35, m36, m37, m38, m40, m42, m43, m44, m47, m39⟩ := frM_same hM hsm
  refine v_aload_n X d_Law_law_552 rfl rfl ?_
  refine v_aload_n X d_Law_law_553 rfl rfl ?_
  refine v_iload_n X d_Law_law_554 rfl ?_
  refine v_iconst X (v := 1) d_Law_law_555 rfl ?_
  refine v_iadd X d_Law_law_556 ?_
  refine v_int (y := 1) (by decide) ?_
  refine v_tload X hscr d_Law_law_557 (show vp_in (nI 1) 6 from vp_in_nI (by decide) (by decide)) ?_
  refine v_int (y := xs 1) rfl ?_
  refine l_call X B (As := [.int (xs 1)]) (rest := [_]) rfl rfl L_Law_75 d_Law_law_558 (by decide) (M_event s1 (xs 1) m47) rfl (by decide) rfl (Nat.le_of_ble_eq_true rfl) (fun r s2 hq => ?_)
  subst hq
  exact v_icmp_eq X 566 d_Law_law_561 (by decide) (fun _ => kend s2) (fun c => absurd rfl c)
set_option maxRecDepth 100000 in
set_option maxHeartbeats 4000000 in
theorem LW_12_0 {K : j_K} {D : va_G} {z : Nat} {zs : j_Zs} {ca : Nat → ClassId} {nm : String} {b : Nat} {xs : Nat → Int32} (X : j_X K (k_G D ca z zs) (Y_Law nm) 6 352 3449) (B : p_B K z 0 0) (hscr : (b, 6, xs) ∈ zs.2.1) (hx : xs 1 = 0) {s : k_S} (hC : frC s) (hM : frM s) (kend : ∀ s1, j_V K (k_G D ca z zs) (Y_Law nm) 566 [(3, .int 0), (2, .ref (ad z 24 0)), (1, .ref (ad z 0 0)), (0, .ref b)] [] (k_M ca z s1)) : j_V K (k_G D ca z zs) (Y_Law nm) 520 [(3, .int 0), (2, .ref (ad z 24 0)), (1, .ref (ad z 0 0)), (0, .ref b)] [] (k_M ca z s) := by
  obtain ⟨hth, hsz, hfr, hd0, ha0, ha1, hl0, hb0, hj⟩ := hC
  refine v_aload_n X d_Law_law_520 rfl rfl ?_
  refine v_aload_n X d_Law_law_521 rfl rfl ?_
  refine v_iload_n X d_Law_law_522 rfl ?_
  refine v_iconst X (v := 1) d_Law_law_523 rfl ?_
  refine v_iadd X d_Law_law_524 ?_
  refine v_int (y := 1) (by decide) ?_
  refine v_tload X hscr d_Law_law_525 (show vp_in (nI 1) 6 from vp_in_nI (by decide) (by decide)) ?_
  refine v_int (y := 0) hx ?_
  refine l_call X B (As := [.int 0]) (rest := []) rfl rfl L_Law_68 d_Law_law_526 (by decide) (C_desk_0 s) rfl (by decide) rfl (Nat.le_of_ble_eq_true rfl) (fun r s1 hq => ?_)
  obtain ⟨rfl, rfl⟩ := hq
  obtain ⟨mth, mtk, mrw, m30, m31, m32, m35, m36, m37, m38, m40, m42, m43, m44, m47, m39⟩ := hM
  refine v_int (y := 0) (hd0 5 (by decide) (by decide)) ?_
  refine v_aload_n X d_Law_law_529 rfl rfl ?_
  refine v_aload_n X d_Law_law_530 rfl rfl ?_
  refine v_iload_n X d_Law_law_531 rfl ?_
  refine v_iconst X (v := 1) d_Law_law_532 rfl ?_
  refine v_iadd X d_Law_law_533 ?_
  refine v_int (y := 1) (by decide) ?_
  refine v_tload X hscr d_Law_law_534 (show vp_in (nI 1) 6 from vp_in_nI (by decide) (by decide)) ?_
  refine v_int (y := 0) hx ?_
  refine l_call X B (As := [.int 0]) (rest := [_]) rfl rfl L_Law_71 d_Law_law_535 (by decide) (M_desk_0 _) rfl (by decide) rfl (Nat.le_of_ble_eq_true rfl) (fun r s2 hq => ?_)
  obtain ⟨rfl, rfl⟩ := hq
  refine v_int (y := 0) m30 ?_
  exact v_icmp_eq X 566 d_Law_law_538 (by decide) (fun _ => kend s2) (fun c => absurd rfl c)
set_option maxRecDepth 100000 in
set_option maxHeartbeats 4000000 in
theorem LW_12_1 {K : j_K} {D : va_G} {z : Nat} {zs : j_Zs} {ca : Nat → ClassId} {nm : String} {b : Nat} {xs : Nat → Int32} (X : j_X K (k_G D ca z zs) (Y_Law nm) 6 352 3449) (B : p_B K z 0 0) (hscr : (b, 6, xs) ∈ zs.2.1) (hx : xs 1 = 1) {s : k_S} (hC : frC s) (hM : frM s) (kend : ∀ s1, j_V K (k_G D ca z zs) (Y_Law nm) 566 [(3, .int 0), (2, .ref (ad z 24 0)), (1, .ref (ad z 0 0)), (0, .ref b)] [] (k_M ca z s1)) : j_V K (k_G D ca z zs) (Y_Law nm) 520 [(3, .int 0), (2, .ref (ad z 24 0)), (1, .ref (ad z 0 0)), (0, .ref b)] [] (k_M ca z s) := by
  obtain ⟨hth, hsz, hfr, hd0, ha0, ha1, hl0, hb0, hj⟩ := hC
  refine v_aload_n X d_Law_law_520 rfl rfl ?_
  refine v_aload_n X d_Law_law_521 rfl rfl ?_
  refine v_iload_n X d_Law_law_522 rfl ?_
  refine v_iconst X (v := 1) d_Law_law_523 rfl ?_
  refine v_iadd X d_Law_law_524 ?_
  refine v_int (y := 1) (by decide) ?_
  refine v_tload X hscr d_Law_law_525 (show vp_in (nI 1) 6 from vp_in_nI (by decide) (by decide)) ?_
  refine v_int (y := 1) hx ?_
  refine l_call X B (As := [.int 1]) (rest := []) rfl rfl L_Law_68 d_Law_law_526 (by decide) (C_desk_1 s) rfl (by decide) rfl (Nat.le_of_ble_eq_true rfl) (fun r s1 hq => ?_)
  obtain ⟨rfl, rfl⟩ := hq
  obtain ⟨mth, mtk, mrw, m30, m31, m32, m35, m36, m37, m38, m40, m42, m43, m44, m47, m39⟩ := hM
  refine v_int (y := 0) (hd0 7 (by decide) (by decide)) ?_
  refine v_aload_n X d_Law_law_529 rfl rfl ?_
  refine v_aload_n X d_Law_law_530 rfl rfl ?_
  refine v_iload_n X d_Law_law_531 rfl ?_
  refine v_iconst X (v := 1) d_Law_law_532 rfl ?_
  refine v_iadd X d_Law_law_533 ?_
  refine v_int (y := 1) (by decide) ?_
  refine v_tload X hscr d_Law_law_534 (show vp_in (nI 1) 6 from vp_in_nI (by decide) (by decide)) ?_
  refine v_int (y := 1) hx ?_
  refine l_call X B (As := [.int 1]) (rest := [_]) rfl rfl L_Law_71 d_Law_law_535 (by decide) (M_desk_1 _) rfl (by decide) rfl (Nat.le_of_ble_eq_true rfl) (fun r s2 hq => ?_)
  obtain ⟨rfl, rfl⟩ := hq
  refine v_int (y := 0) m31 ?_
  exact v_icmp_eq X 566 d_Law_law_538 (by decide) (fun _ => kend s2) (fun c => absurd rfl c)
set_option maxRecDepth 100000 in
set_option maxHeartbeats 4000000 in
theorem LW_12_2 {K : j_K} {D : va_G} {z : Nat} {zs : j_Zs} {ca : Nat → ClassId} {nm : String} {b : Nat} {xs : Nat → Int32} (X : j_X K (k_G D ca z zs) (Y_Law nm) 6 352 3449) (B : p_B K z 0 0) (hscr : (b, 6, xs) ∈ zs.2.1) (hx : xs 1 = 2) {s : k_S} (hC : frC s) (hM : frM s) (kend : ∀ s1, j_V K (k_G D ca z zs) (Y_Law nm) 566 [(3, .int 0), (2, .ref (ad z 24 0)), (1, .ref (ad z 0 0)), (0, .ref b)] [] (k_M ca z s1)) : j_V K (k_G D ca z zs) (Y_Law nm) 520 [(3, .int 0), (2, .ref (ad z 24 0)), (1, .ref (ad z 0 0)), (0, .ref b)] [] (k_M ca z s) := by
  obtain ⟨hth, hsz, hfr, hd0, ha0, ha1, hl0, hb0, hj⟩ := hC
  refine v_aload_n X d_Law_law_520 rfl rfl ?_
  refine v_aload_n X d_Law_law_521 rfl rfl ?_
  refine v_iload_n X d_Law_law_522 rfl ?_
  refine v_iconst X (v := 1) d_Law_law_523 rfl ?_
  refine v_iadd X d_Law_law_524 ?_
  refine v_int (y := 1) (by decide) ?_
  refine v_tload X hscr d_Law_law_525 (show vp_in (nI 1) 6 from vp_in_nI (by decide) (by decide)) ?_
  refine v_int (y := 2) hx ?_
  refine l_call X B (As := [.int 2]) (rest := []) rfl rfl L_Law_68 d_Law_law_526 (by decide) (C_desk_2 s) rfl (by decide) rfl (Nat.le_of_ble_eq_true rfl) (fun r s1 hq => ?_)
  obtain ⟨rfl, rfl⟩ := hq
  obtain ⟨mth, mtk, mrw, m30, m31, m32, m35, m36, m37, m38, m40, m42, m43, m44, m47, m39⟩ := hM
  refine v_int (y := 0) (hd0 8 (by decide) (by decide)) ?_
  refine v_aload_n X d_Law_law_529 rfl rfl ?_
  refine v_aload_n X d_Law_law_530 rfl rfl ?_
  refine v_iload_n X d_Law_law_531 rfl ?_
  refine v_iconst X (v := 1) d_Law_law_532 rfl ?_
  refine v_iadd X d_Law_law_533 ?_
  refine v_int (y := 1) (by decide) ?_
  refine v_tload X hscr d_Law_law_534 (show vp_in (nI 1) 6 from vp_in_nI (by decide) (by decide)) ?_
  refine v_int (y := 2) hx ?_
  refine l_call X B (As := [.int 2]) (rest := [_]) rfl rfl L_Law_71 d_Law_law_535 (by decide) (M_desk_2 _) rfl (by decide) rfl (Nat.le_of_ble_eq_true rfl) (fun r s2 hq => ?_)
  obtain ⟨rfl, rfl⟩ := hq
  refine v_int (y := 0) m32 ?_
  exact v_icmp_eq X 566 d_Law_law_538 (by decide) (fun _ => kend s2) (fun c => absurd rfl c)
set_option maxRecDepth 100000 in
set_option maxHeartbeats 4000000 in
theorem LW_12_3 {K : j_K} {D : va_G} {z : Nat} {zs : j_Zs} {ca : Nat → ClassId} {nm : String} {b : Nat} {xs : Nat → Int32} (X : j_X K (k_G D ca z zs) (Y_Law nm) 6 352 3449) (B : p_B K z 0 0) (hscr : (b, 6, xs) ∈ zs.2.1) (hx : xs 1 = 3) {s : k_S} (hC : frC s) (hM : frM s) (kend : ∀ s1, j_V K (k_G D ca z zs) (Y_Law nm) 566 [(3, .int 0), (2, .ref (ad z 24 0)), (1, .ref (ad z 0 0)), (0, .ref b)] [] (k_M ca z s1)) : j_V K (k_G D ca z zs) (Y_Law nm) 520 [(3, .int 0), (2, .ref (ad z 24 0)), (1, .ref (ad z 0 0)), (0, .ref b)] [] (k_M ca z s) := by
  obtain ⟨hth, hsz, hfr, hd0, ha0, ha1, hl0, hb0, hj⟩ := hC
  refine v_aload_n X d_Law_law_520 rfl rfl ?_
  refine v_aload_n X d_Law_law_521 rfl rfl ?_
  refine v_iload_n X d_Law_law_522 rfl ?_
  refine v_iconst X (v := 1) d_Law_law_523 rfl ?_
  refine v_iadd X d_Law_law_524 ?_
  refine v_int (y := 1) (by decide) ?_
  refine v_tload X hscr d_Law_law_525 (show vp_in (nI 1) 6 from vp_in_nI (by decide) (by decide)) ?_
  refine v_int (y := 3) hx ?_
  refine l_call X B (As := [.int 3]) (rest := []) rfl rfl L_Law_68 d_Law_law_526 (by decide) (C_desk_3 s) rfl (by decide) rfl (Nat.le_of_ble_eq_true rfl) (fun r s1 hq => ?_)
  obtain ⟨rfl, rfl⟩ := hq
  obtain ⟨mth, mtk, mrw, m30, m31, m32, m35, m36, m37, m38, m40, m42, m43, m44, m47, m39⟩ := hM
  refine v_int (y := 0) (hd0 9 (by decide) (by decide)) ?_
  refine v_aload_n X d_Law_law_529 rfl rfl ?_
  refine v_aload_n X d_Law_law_530 rfl rfl ?_
  refine v_iload_n X d_Law_law_531 rfl ?_
  refine v_iconst X (v := 1) d_Law_law_532 rfl ?_
  refine v_iadd X d_Law_law_533 ?_
  refine v_int (y := 1) (by decide) ?_
  refine v_tload X hscr d_Law_law_534 (show vp_in (nI 1) 6 from vp_in_nI (by decide) (by decide)) ?_
  refine v_int (y := 3) hx ?_
  refine l_call X B (As := [.int 3]) (rest := [_]) rfl rfl L_Law_71 d_Law_law_535 (by decide) (M_desk_3 _ mrw) rfl (by decide) rfl (Nat.le_of_ble_eq_true rfl) (fun r s2 hq => ?_)
  obtain ⟨rfl, rfl⟩ := hq
  exact v_icmp_eq X 566 d_Law_law_538 (by decide) (fun _ => kend s2) (fun c => absurd rfl c)
set_option maxRecDepth 100000 in
set_option maxHeartbeats 4000000 in
theorem LW_12_4 {K : j_K} {D : va_G} {z : Nat} {zs : j_Zs} {ca : Nat → ClassId} {nm : String} {b : Nat} {xs : Nat → Int32} (X : j_X K (k_G D ca z zs) (Y_Law nm) 6 352 3449) (B : p_B K z 0 0) (hscr : (b, 6, xs) ∈ zs.2.1) (hx : xs 1 = 4) {s : k_S} (hC : frC s) (hM : frM s) (kend : ∀ s1, j_V K (k_G D ca z zs) (Y_Law nm) 566 [(3, .int 0), (2, .ref (ad z 24 0)), (1, .ref (ad z 0 0)), (0, .ref b)] [] (k_M ca z s1)) : j_V K (k_G D ca z zs) (Y_Law nm) 520 [(3, .int 0), (2, .ref (ad z 24 0)), (1, .ref (ad z 0 0)), (0, .ref b)] [] (k_M ca z s) := by
  obtain ⟨hth, hsz, hfr, hd0, ha0, ha1, hl0, hb0, hj⟩ := hC
  refine v_aload_n X d_Law_law_520 rfl rfl ?_
  refine v_aload_n X d_Law_law_521 rfl rfl ?_
  refine v_iload_n X d_Law_law_522 rfl ?_
  refine v_iconst X (v := 1) d_Law_law_523 rfl ?_
  refine v_iadd X d_Law_law_524 ?_
  refine v_int (y := 1) (by decide) ?_
  refine v_tload X hscr d_Law_law_525 (show vp_in (nI 1) 6 from vp_in_nI (by decide) (by decide)) ?_
  refine v_int (y := 4) hx ?_
  refine l_call X B (As := [.int 4]) (rest := []) rfl rfl L_Law_68 d_Law_law_526 (by decide) (C_desk_4 s hsz) rfl (by decide) rfl (Nat.le_of_ble_eq_true rfl) (fun r s1 hq => ?_)
  obtain ⟨rfl, rfl⟩ := hq
  obtain ⟨mth, mtk, mrw, m30, m31, m32, m35, m36, m37, m38, m40, m42, m43, m44, m47, m39⟩ := hM
  refine v_aload_n X d_Law_law_529 rfl rfl ?_
  refine v_aload_n X d_Law_law_530 rfl rfl ?_
  refine v_iload_n X d_Law_law_531 rfl ?_
  refine v_iconst X (v := 1) d_Law_law_532 rfl ?_
  refine v_iadd X d_Law_law_533 ?_
  refine v_int (y := 1) (by decide) ?_
  refine v_tload X hscr d_Law_law_534 (show vp_in (nI 1) 6 from vp_in_nI (by decide) (by decide)) ?_
  refine v_int (y := 4) hx ?_
  refine l_call X B (As := [.int 4]) (rest := [_]) rfl rfl L_Law_71 d_Law_law_535 (by decide) (M_desk_4 _ mrw) rfl (by decide) rfl (Nat.le_of_ble_eq_true rfl) (fun r s2 hq => ?_)
  obtain ⟨rfl, rfl⟩ := hq
  exact v_icmp_eq X 566 d_Law_law_538 (by decide) (fun _ => kend s2) (fun c => absurd rfl c)
set_option maxRecDepth 100000 in
set_option maxHeartbeats 4000000 in
theorem LW_12_5 {K : j_K} {D : va_G} {z : Nat} {zs : j_Zs} {ca : Nat → ClassId} {nm : String} {b : Nat} {xs : Nat → Int32} (X : j_X K (k_G D ca z zs) (Y_Law nm) 6 352 3449) (B : p_B K z 0 0) (hscr : (b, 6, xs) ∈ zs.2.1) (hx : xs 1 = 5) {s : k_S} (hC : frC s) (hM : frM s) (kend : ∀ s1, j_V K (k_G D ca z zs) (Y_Law nm) 566 [(3, .int 0), (2, .ref (ad z 24 0)), (1, .ref (ad z 0 0)), (0, .ref b)] [] (k_M ca z s1)) : j_V K (k_G D ca z zs) (Y_Law nm) 520 [(3, .int 0), (2, .ref (ad z 24 0)), (1, .ref (ad z 0 0)), (0, .ref b)] [] (k_M ca z s) := by
  obtain ⟨hth, hsz, hfr, hd0, ha0, ha1, hl0, hb0, hj⟩ := hC
  refine v_aload_n X d_Law_law_520 rfl rfl ?_
  refine v_aload_n X d_Law_law_521 rfl rfl ?_
  refine v_iload_n X d_Law_law_522 rfl ?_
  refine v_iconst X (v := 1) d_Law_law_523 rfl ?_
  refine v_iadd X d_Law_law_524 ?_
  refine v_int (y := 1) (by decide) ?_
  refine v_tload X hscr d_Law_law_525 (show vp_in (nI 1) 6 from vp_in_nI (by decide) (by decide)) ?_
  refine v_int (y := 5) hx ?_
  refine l_call X B (As := [.int 5]) (rest := []) rfl rfl L_Law_68 d_Law_law_526 (by decide) (C_desk_5 s) rfl (by decide) rfl (Nat.le_of_ble_eq_true rfl) (fun r s1 hq => ?_)
  obtain ⟨rfl, rfl⟩ := hq
  obtain ⟨mth, mtk, mrw, m30, m31, m32, m35, m36, m37, m38, m40, m42, m43, m44, m47, m39⟩ := hM
  refine v_int (y := 0) ha1 ?_
  refine v_aload_n X d_Law_law_529 rfl rfl ?_
  refine v_aload_n X d_Law_law_530 rfl rfl ?_
  refine v_iload_n X d_Law_law_531 rfl ?_
  refine v_iconst X (v := 1) d_Law_law_532 rfl ?_
  refine v_iadd X d_Law_law_533 ?_
  refine v_int (y := 1) (by decide) ?_
  refine v_tload X hscr d_Law_law_534 (show vp_in (nI 1) 6 from vp_in_nI (by decide) (by decide)) ?_
  refine v_int (y := 5) hx ?_
  refine l_call X B (As := [.int 5]) (rest := [_]) rfl rfl L_Law_71 d_Law_law_535 (by decide) (M_desk_5 _) rfl (by decide) rfl (Nat.le_of_ble_eq_true rfl) (fun r s2 hq => ?_)
  obtain ⟨rfl, rfl⟩ := hq
  refine v_int (y := 0) m36 ?_
  exact v_icmp_eq X 566 d_Law_law_538 (by decide) (fun _ => kend s2) (fun c => absurd rfl c)
set_option maxRecDepth 100000 in
set_option maxHeartbeats 4000000 in
theorem LW_12_6 {K : j_K} {D : va_G} {z : Nat} {zs : j_Zs} {ca : Nat → ClassId} {nm : String} {b : Nat} {xs : Nat → Int32} (X : j_X K (k_G D ca z zs) (Y_Law nm) 6 352 3449) (B : p_B K z 0 0) (hscr : (b, 6, xs) ∈ zs.2.1) (hx : xs 1 = 6) {s : k_S} (hC : frC s) (hM : frM s) (kend : ∀ s1, j_V K (k_G D ca z zs) (Y_Law nm) 566 [(3, .int 0), (2, .ref (ad z 24 0)), (1, .ref (ad z 0 0)), (0, .ref b)] [] (k_M ca z s1)) : j_V K (k_G D ca z zs) (Y_Law nm) 520 [(3, .int 0), (2, .ref (ad z 24 0)), (1, .ref (ad z 0 0)), (0, .ref b)] [] (k_M ca z s) := by
  obtain ⟨hth, hsz, hfr, hd0, ha0, ha1, hl0, hb0, hj⟩ := hC
  refine v_aload_n X d_Law_law_520 rfl rfl ?_
  refine v_aload_n X d_Law_law_521 rfl rfl ?_
  refine v_iload_n X d_Law_law_522 rfl ?_
  refine v_iconst X (v := 1) d_Law_law_523 rfl ?_
  refine v_iadd X d_Law_law_524 ?_
  refine v_int (y := 1) (by decide) ?_
  refine v_tload X hscr d_Law_law_525 (show vp_in (nI 1) 6 from vp_in_nI (by decide) (by decide)) ?_
  refine v_int (y := 6) hx ?_
  refine l_call X B (As := [.int 6]) (rest := []) rfl rfl L_Law_68 d_Law_law_526 (by decide) (C_desk_6 s) rfl (by decide) rfl (Nat.le_of_ble_eq_true rfl) (fun r s1 hq => ?_)
  obtain ⟨rfl, rfl⟩ := hq
  obtain ⟨mth, mtk, mrw, m30, m31, m32, m35, m36, m37, m38, m40, m42, m43, m44, m47, m39⟩ := hM
  refine v_int (y := 0) ha0 ?_
  refine v_aload_n X d_Law_law_529 rfl rfl ?_
  refine v_aload_n X d_Law_law_530 rfl rfl ?_
  refine v_iload_n X d_Law_law_531 rfl ?_
  refine v_iconst X (v := 1) d_Law_law_532 rfl ?_
  refine v_iadd X d_Law_law_533 ?_
  refine v_int (y := 1) (by decide) ?_
  refine v_tload X hscr d_Law_law_534 (show vp_in (nI 1) 6 from vp_in_nI (by decide) (by decide)) ?_
  refine v_int (y := 6) hx ?_
  refine l_call X B (As := [.int 6]) (rest := [_]) rfl rfl L_Law_71 d_Law_law_535 (by decide) (M_desk_6 _) rfl (by decide) rfl (Nat.le_of_ble_eq_true rfl) (fun r s2 hq => ?_)
  obtain ⟨rfl, rfl⟩ := hq
  refine v_int (y := 0) m35 ?_
  exact v_icmp_eq X 566 d_Law_law_538 (by decide) (fun _ => kend s2) (fun c => absurd rfl c)
set_option maxRecDepth 100000 in
set_option maxHeartbeats 4000000 in
theorem LW_12_7 {K : j_K} {D : va_G} {z : Nat} {zs : j_Zs} {ca : Nat → ClassId} {nm : String} {b : Nat} {xs : Nat → Int32} (X : j_X K (k_G D ca z zs) (Y_Law nm) 6 352 3449) (B : p_B K z 0 0) (hscr : (b, 6, xs) ∈ zs.2.1) (hx : xs 1 = 7) {s : k_S} (hC : frC s) (hM : frM s) (kend : ∀ s1, j_V K (k_G D ca z zs) (Y_Law nm) 566 [(3, .int 0), (2, .ref (ad z 24 0)), (1, .ref (ad z 0 0)), (0, .ref b)] [] (k_M ca z s1)) : j_V K (k_G D ca z zs) (Y_Law nm) 520 [(3, .int 0), (2, .ref (ad z 24 0)), (1, .ref (ad z 0 0)), (0, .ref b)] [] (k_M ca z s) := by
  obtain ⟨hth, hsz, hfr, hd0, ha0, ha1, hl0, hb0, hj⟩ := hC
  refine v_aload_n X d_Law_law_520 rfl rfl ?_
  refine v_aload_n X d_Law_law_521 rfl rfl ?_
  refine v_iload_n X d_Law_law_522 rfl ?_
  refine v_iconst X (v := 1) d_Law_law_523 rfl ?_
  refine v_iadd X d_Law_law_524 ?_
  refine v_int (y := 1) (by decide) ?_
  refine v_tload X hscr d_Law_law_525 (show vp_in (nI 1) 6 from vp_in_nI (by decide) (by decide)) ?_
  refine v_int (y := 7) hx ?_
  refine l_call X B (As := [.int 7]) (rest := []) rfl rfl L_Law_68 d_Law_law_526 (by decide) (C_desk_7 s) rfl (by decide) rfl (Nat.le_of_ble_eq_true rfl) (fun r s1 hq => ?_)
  obtain ⟨rfl, rfl⟩ := hq
  obtain ⟨mth, mtk, mrw, m30, m31, m32, m35, m36, m37, m38, m40, m42, m43, m44, m47, m39⟩ := hM
  refine v_int (y := 0) (hd0 11 (by decide) (by decide)) ?_
  refine v_aload_n X d_Law_law_529 rfl rfl ?_
  refine v_aload_n X d_Law_law_530 rfl rfl ?_
  refine v_iload_n X d_Law_law_531 rfl ?_
  refine v_iconst X (v := 1) d_Law_law_532 rfl ?_
  refine v_iadd X d_Law_law_533 ?_
  refine v_int (y := 1) (by decide) ?_
  refine v_tload X hscr d_Law_law_534 (show vp_in (nI 1) 6 from vp_in_nI (by decide) (by decide)) ?_
  refine v_int (y := 7) hx ?_
  refine l_call X B (As := [.int 7]) (rest := [_]) rfl rfl L_Law_71 d_Law_law_535 (by decide) (M_desk_7 _) rfl (by decide) rfl (Nat.le_of_ble_eq_true rfl) (fun r s2 hq => ?_)
  obtain ⟨rfl, rfl⟩ := hq
  refine v_int (y := 0) m37 ?_
  exact v_icmp_eq X 566 d_Law_law_538 (by decide) (fun _ => kend s2) (fun c => absurd rfl c)
set_option maxRecDepth 100000 in
set_option maxHeartbeats 4000000 in
theorem LW_12_8 {K : j_K} {D : va_G} {z : Nat} {zs : j_Zs} {ca : Nat → ClassId} {nm : String} {b : Nat} {xs : Nat → Int32} (X : j_X K (k_G D ca z zs) (Y_Law nm) 6 352 3449) (B : p_B K z 0 0) (hscr : (b, 6, xs) ∈ zs.2.1) (hx : xs 1 = 8) {s : k_S} (hC : frC s) (hM : frM s) (kend : ∀ s1, j_V K (k_G D ca z zs) (Y_Law nm) 566 [(3, .int 0), (2, .ref (ad z 24 0)), (1, .ref (ad z 0 0)), (0, .ref b)] [] (k_M ca z s1)) : j_V K (k_G D ca z zs) (Y_Law nm) 520 [(3, .int 0), (2, .ref (ad z 24 0)), (1, .ref (ad z 0 0)), (0, .ref b)] [] (k_M ca z s) := by
  obtain ⟨hth, hsz, hfr, hd0, ha0, ha1, hl0, hb0, hj⟩ := hC
  refine v_aload_n X d_Law_law_520 rfl rfl ?_
  refine v_aload_n X d_Law_law_521 rfl rfl ?_
  refine v_iload_n X d_Law_law_522 rfl ?_
  refine v_iconst X (v := 1) d_Law_law_523 rfl ?_
  refine v_iadd X d_Law_law_524 ?_
  refine v_int (y := 1) (by decide) ?_
  refine v_tload X hscr d_Law_law_525 (show vp_in (nI 1) 6 from vp_in_nI (by decide) (by decide)) ?_
  refine v_int (y := 8) hx ?_
  refine l_call X B (As := [.int 8]) (rest := []) rfl rfl L_Law_68 d_Law_law_526 (by decide) (C_desk_8 s) rfl (by decide) rfl (Nat.le_of_ble_eq_true rfl) (fun r s1 hq => ?_)
  obtain ⟨rfl, rfl⟩ := hq
  obtain ⟨mth, mtk, mrw, m30, m31, m32, m35, m36, m37, m38, m40, m42, m43, m44, m47, m39⟩ := hM
  refine v_int (y := 0) (hd0 12 (by decide) (by decide)) ?_
  refine v_aload_n X d_Law_law_529 rfl rfl ?_
  refine v_aload_n X d_Law_law_530 rfl rfl ?_
  refine v_iload_n X d_Law_law_531 rfl ?_
  refine v_iconst X (v := 1) d_Law_law_532 rfl ?_
  refine v_iadd X d_Law_law_533 ?_
  refine v_int (y := 1) (by decide) ?_
  refine v_tload X hscr d_Law_law_534 (show vp_in (nI 1) 6 from vp_in_nI (by decide) (by decide)) ?_
  refine v_int (y := 8) hx ?_
  refine l_call X B (As := [.int 8]) (rest := [_]) rfl rfl L_Law_71 d_Law_law_535 (by decide) (M_desk_8 _) rfl (by decide) rfl (Nat.le_of_ble_eq_true rfl) (fun r s2 hq => ?_)
  obtain ⟨rfl, rfl⟩ := hq
  refine v_int (y := 0) m38 ?_
  exact v_icmp_eq X 566 d_Law_law_538 (by decide) (fun _ => kend s2) (fun c => absurd rfl c)
set_option maxRecDepth 100000 in
set_option maxHeartbeats 4000000 in
theorem LW_12_9 {K : j_K} {D : va_G} {z : Nat} {zs : j_Zs} {ca : Nat → ClassId} {nm : String} {b : Nat} {xs : Nat → Int32} (X : j_X K (k_G D ca z zs) (Y_Law nm) 6 352 3449) (B : p_B K z 0 0) (hscr : (b, 6, xs) ∈ zs.2.1) (hx : xs 1 = 9) {s : k_S} (hC : frC s) (hM : frM s) (kend : ∀ s1, j_V K (k_G D ca z zs) (Y_Law nm) 566 [(3, .int 0), (2, .ref (ad z 24 0)), (1, .ref (ad z 0 0)), (0, .ref b)] [] (k_M ca z s1)) : j_V K (k_G D ca z zs) (Y_Law nm) 520 [(3, .int 0), (2, .ref (ad z 24 0)), (1, .ref (ad z 0 0)), (0, .ref b)] [] (k_M ca z s) := by
  obtain ⟨hth, hsz, hfr, hd0, ha0, ha1, hl0, hb0, hj⟩ := hC
  refine v_aload_n X d_Law_law_520 rfl rfl ?_
  refine v_aload_n X d_Law_law_521 rfl rfl ?_
  refine v_iload_n X d_Law_law_522 rfl ?_
  refine v_iconst X (v := 1) d_Law_law_523 rfl ?_
  refine v_iadd X d_Law_law_524 ?_
  refine v_int (y := 1) (by decide) ?_
  refine v_tload X hscr d_Law_law_525 (show vp_in (nI 1) 6 from vp_in_nI (by decide) (by decide)) ?_
  refine v_int (y := 9) hx ?_
  refine l_call X B (As := [.int 9]) (rest := []) rfl rfl L_Law_68 d_Law_law_526 (by decide) (C_desk_9 s) rfl (by decide) rfl (Nat.le_of_ble_eq_true rfl) (fun r s1 hq => ?_)
  obtain ⟨rfl, rfl⟩ := hq
  obtain ⟨mth, mtk, mrw, m30, m31, m32, m35, m36, m37, m38, m40, m42, m43, m44, m47, m39⟩ := hM
  refine v_int (y := -2) hl0 ?_
  refine v_aload_n X d_Law_law_529 rfl rfl ?_
  refine v_aload_n X d_Law_law_530 rfl rfl ?_
  refine v_iload_n X d_Law_law_531 rfl ?_
  refine v_iconst X (v := 1) d_Law_law_532 rfl ?_
  refine v_iadd X d_Law_law_533 ?_
  refine v_int (y := 1) (by decide) ?_
  refine v_tload X hscr d_Law_law_534 (show vp_in (nI 1) 6 from vp_in_nI (by decide) (by decide)) ?_
  refine v_int (y := 9) hx ?_
  refine l_call X B (As := [.int 9]) (rest := [_]) rfl rfl L_Law_71 d_Law_law_535 (by decide) (M_desk_9 _ m39) rfl (by decide) rfl (Nat.le_of_ble_eq_true rfl) (fun r s2 hq => ?_)
  obtain ⟨rfl, rfl⟩ := hq
  exact v_icmp_eq X 566 d_Law_law_538 (by decide) (fun _ => kend s2) (fun c => absurd rfl c)
set_option maxRecDepth 100000 in
set_option maxHeartbeats 4000000 in
theorem LW_12_10 {K : j_K} {D : va_G} {z : Nat} {zs : j_Zs} {ca : Nat → ClassId} {nm : String} {b : Nat} {xs : Nat → Int32} (X : j_X K (k_G D ca z zs) (Y_Law nm) 6 352 3449) (B : p_B K z 0 0) (hscr : (b, 6, xs) ∈ zs.2.1) (hx : xs 1 = 10) {s : k_S} (hC : frC s) (hM : frM s) (kend : ∀ s1, j_V K (k_G D ca z zs) (Y_Law nm) 566 [(3, .int 0), (2, .ref (ad z 24 0)), (1, .ref (ad z 0 0)), (0, .ref b)] [] (k_M ca z s1)) : j_V K (k_G D ca z zs) (Y_Law nm) 520 [(3, .int 0), (2, .ref (ad z 24 0)), (1, .ref (ad z 0 0)), (0, .ref b)] [] (k_M ca z s) := by
  obtain ⟨hth, hsz, hfr, hd0, ha0, ha1, hl0, hb0, hj⟩ := hC
  refine v_aload_n X d_Law_law_520 rfl rfl ?_
  refine v_aload_n X d_Law_law_521 rfl rfl ?_
  refine v_iload_n X d_Law_law_522 rfl ?_
  refine v_iconst X (v := 1) d_Law_law_523 rfl ?_
  refine v_iadd X d_Law_law_524 ?_
  refine v_int (y := 1) (by decide) ?_
  refine v_tload X hscr d_Law_law_525 (show vp_in (nI 1) 6 from vp_in_nI (by decide) (by decide)) ?_
  refine v_int (y := 10) hx ?_
  refine l_call X B (As := [.int 10]) (rest := []) rfl rfl L_Law_68 d_Law_law_526 (by decide) (C_desk_10 s) rfl (by decide) rfl (Nat.le_of_ble_eq_true rfl) (fun r s1 hq => ?_)
  obtain ⟨rfl, rfl⟩ := hq
  obtain ⟨mth, mtk, mrw, m30, m31, m32, m35, m36, m37, m38, m40, m42, m43, m44, m47, m39⟩ := hM
  refine v_int (y := 0) hb0 ?_
  refine v_aload_n X d_Law_law_529 rfl rfl ?_
  refine v_aload_n X d_Law_law_530 rfl rfl ?_
  refine v_iload_n X d_Law_law_531 rfl ?_
  refine v_iconst X (v := 1) d_Law_law_532 rfl ?_
  refine v_iadd X d_Law_law_533 ?_
  refine v_int (y := 1) (by decide) ?_
  refine v_tload X hscr d_Law_law_534 (show vp_in (nI 1) 6 from vp_in_nI (by decide) (by decide)) ?_
  refine v_int (y := 10) hx ?_
  refine l_call X B (As := [.int 10]) (rest := [_]) rfl rfl L_Law_71 d_Law_law_535 (by decide) (M_desk_10 _) rfl (by decide) rfl (Nat.le_of_ble_eq_true rfl) (fun r s2 hq => ?_)
  obtain ⟨rfl, rfl⟩ := hq
  refine v_int (y := 0) m40 ?_
  exact v_icmp_eq X 566 d_Law_law_538 (by decide) (fun _ => kend s2) (fun c => absurd rfl c)
set_option maxRecDepth 100000 in
set_option maxHeartbeats 4000000 in
theorem LW_12_11 {K : j_K} {D : va_G} {z : Nat} {zs : j_Zs} {ca : Nat → ClassId} {nm : String} {b : Nat} {xs : Nat → Int32} (X : j_X K (k_G D ca z zs) (Y_Law nm) 6 352 3449) (B : p_B K z 0 0) (hscr : (b, 6, xs) ∈ zs.2.1) (hx : xs 1 = 11) {s : k_S} (hC : frC s) (hM : frM s) (kend : ∀ s1, j_V K (k_G D ca z zs) (Y_Law nm) 566 [(3, .int 0), (2, .ref (ad z 24 0)), (1, .ref (ad z 0 0)), (0, .ref b)] [] (k_M ca z s1)) : j_V K (k_G D ca z zs) (Y_Law nm) 520 [(3, .int 0), (2, .ref (ad z 24 0)), (1, .ref (ad z 0 0)), (0, .ref b)] [] (k_M ca z s) := by
  obtain ⟨hth, hsz, hfr, hd0, ha0, ha1, hl0, hb0, hj⟩ := hC
  refine v_aload_n X d_Law_law_520 rfl rfl ?_
  refine v_aload_n X d_Law_law_521 rfl rfl ?_
  refine v_iload_n X d_Law_law_522 rfl ?_
  refine v_iconst X (v := 1) d_Law_law_523 rfl ?_
  refine v_iadd X d_Law_law_524 ?_
  refine v_int (y := 1) (by decide) ?_
  refine v_tload X hscr d_Law_law_525 (show vp_in (nI 1) 6 from vp_in_nI (by decide) (by decide)) ?_
  refine v_int (y := 11) hx ?_
  refine l_call X B (As := [.int 11]) (rest := []) rfl rfl L_Law_68 d_Law_law_526 (by decide) (C_desk_11 s) rfl (by decide) rfl (Nat.le_of_ble_eq_true rfl) (fun r s1 hq => ?_)
  obtain ⟨rfl, rfl⟩ := hq
  obtain ⟨mth, mtk, mrw, m30, m31, m32, m35, m36, m37, m38, m40, m42, m43, m44, m47, m39⟩ := hM
  refine v_int (y := 0) (hd0 13 (by decide) (by decide)) ?_
  refine v_aload_n X d_Law_law_529 rfl rfl ?_
  refine v_aload_n X d_Law_law_530 rfl rfl ?_
  refine v_iload_n X d_Law_law_531 rfl ?_
  refine v_iconst X (v := 1) d_Law_law_532 rfl ?_
  refine v_iadd X d_Law_law_533 ?_
  refine v_int (y := 1) (by decide) ?_
  refine v_tload X hscr d_Law_law_534 (show vp_in (nI 1) 6 from vp_in_nI (by decide) (by decide)) ?_
  refine v_int (y := 11) hx ?_
  refine l_call X B (As := [.int 11]) (rest := [_]) rfl rfl L_Law_71 d_Law_law_535 (by decide) (M_desk_11 _) rfl (by decide) rfl (Nat.le_of_ble_eq_true rfl) (fun r s2 hq => ?_)
  obtain ⟨rfl, rfl⟩ := hq
  refine v_int (y := 0) m42 ?_
  exact v_icmp_eq X 566 d_Law_law_538 (by decide) (fun _ => kend s2) (fun c => absurd rfl c)
set_option maxRecDepth 100000 in
set_option maxHeartbeats 4000000 in
theorem LW_12_12 {K : j_K} {D : va_G} {z : Nat} {zs : j_Zs} {ca : Nat → ClassId} {nm : String} {b : Nat} {xs : Nat → Int32} (X : j_X K (k_G D ca z zs) (Y_Law nm) 6 352 3449) (B : p_B K z 0 0) (hscr : (b, 6, xs) ∈ zs.2.1) (hx : xs 1 = 12) {s : k_S} (hC : frC s) (hM : frM s) (kend : ∀ s1, j_V K (k_G D ca z zs) (Y_Law nm) 566 [(3, .int 0), (2, .ref (ad z 24 0)), (1, .ref (ad z 0 0)), (0, .ref b)] [] (k_M ca z s1)) : j_V K (k_G D ca z zs) (Y_Law nm) 520 [(3, .int 0), (2, .ref (ad z 24 0)), (1, .ref (ad z 0 0)), (0, .ref b)] [] (k_M ca z s) := by
  obtain ⟨hth, hsz, hfr, hd0, ha0, ha1, hl0, hb0, hj⟩ := hC
  refine v_aload_n X d_Law_law_520 rfl rfl ?_
  refine v_aload_n X d_Law_law_521 rfl rfl ?_
  refine v_iload_n X d_Law_law_522 rfl ?_
  refine v_iconst X (v := 1) d_Law_law_523 rfl ?_
  refine v_iadd X d_Law_law_524 ?_
  refine v_int (y := 1) (by decide) ?_
  refine v_tload X hscr d_Law_law_525 (show vp_in (nI 1) 6 from vp_in_nI (by decide) (by decide)) ?_
  refine v_int (y := 12) hx ?_
  refine l_call X B (As := [.int 12]) (rest := []) rfl rfl L_Law_68 d_Law_law_526 (by decide) (C_desk_12 s) rfl (by decide) rfl (Nat.le_of_ble_eq_true rfl) (fun r s1 hq => ?_)
  obtain ⟨rfl, rfl⟩ := hq
  obtain ⟨mth, mtk, mrw, m30, m31, m32, m35, m36, m37, m38, m40, m42, m43, m44, m47, m39⟩ := hM
  refine v_int (y := 0) (hd0 14 (by decide) (by decide)) ?_
  refine v_aload_n X d_Law_law_529 rfl rfl ?_
  refine v_aload_n X d_Law_law_530 rfl rfl ?_
  refine v_iload_n X d_Law_law_531 rfl ?_
  refine v_iconst X (v := 1) d_Law_law_532 rfl ?_
  refine v_iadd X d_Law_law_533 ?_
  refine v_int (y := 1) (by decide) ?_
  refine v_tload X hscr d_Law_law_534 (show vp_in (nI 1) 6 from vp_in_nI (by decide) (by decide)) ?_
  refine v_int (y := 12) hx ?_
  refine l_call X B (As := [.int 12]) (rest := [_]) rfl rfl L_Law_71 d_Law_law_535 (by decide) (M_desk_12 _) rfl (by decide) rfl (Nat.le_of_ble_eq_true rfl) (fun r s2 hq => ?_)
  obtain ⟨rfl, rfl⟩ := hq
  refine v_int (y := 0) m43 ?_
  exact v_icmp_eq X 566 d_Law_law_538 (by decide) (fun _ => kend s2) (fun c => absurd rfl c)
set_option maxRecDepth 100000 in
set_option maxHeartbeats 4000000 in
theorem LW_12_13 {K : j_K} {D : va_G} {z : Nat} {zs : j_Zs} {ca : Nat → ClassId} {nm : String} {b : Nat} {xs : Nat → Int32} (X : j_X K (k_G D ca z zs) (Y_Law nm) 6 352 3449) (B : p_B K z 0 0) (hscr : (b, 6, xs) ∈ zs.2.1) (hx : xs 1 = 13) {s : k_S} (hC : frC s) (hM : frM s) (kend : ∀ s1, j_V K (k_G D ca z zs) (Y_Law nm) 566 [(3, .int 0), (2, .ref (ad z 24 0)), (1, .ref (ad z 0 0)), (0, .ref b)] [] (k_M ca z s1)) : j_V K (k_G D ca z zs) (Y_Law nm) 520 [(3, .int 0), (2, .ref (ad z 24 0)), (1, .ref (ad z 0 0)), (0, .ref b)] [] (k_M ca z s) := by
  obtain ⟨hth, hsz, hfr, hd0, ha0, ha1, hl0, hb0, hj⟩ := hC
  refine v_aload_n X d_Law_law_520 rfl rfl ?_
  refine v_aload_n X d_Law_law_521 rfl rfl ?_
  refine v_iload_n X d_Law_law_522 rfl ?_
  refine v_iconst X (v := 1) d_Law_law_523 rfl ?_
  refine v_iadd X d_Law_law_524 ?_
  refine v_int (y := 1) (by decide) ?_
  refine v_tload X hscr d_Law_law_525 (show vp_in (nI 1) 6 from vp_in_nI (by decide) (by decide)) ?_
  refine v_int (y := 13) hx ?_
  refine l_call X B (As := [.int 13]) (rest := []) rfl rfl L_Law_68 d_Law_law_526 (by decide) (C_desk_13 s) rfl (by decide) rfl (Nat.le_of_ble_eq_true rfl) (fun r s1 hq => ?_)
  obtain ⟨rfl, rfl⟩ := hq
  obtain ⟨mth, mtk, mrw, m30, m31, m32, m35, m36, m37, m38, m40, m42, m43, m44, m47, m39⟩ := hM
  refine v_int (y := 0) (hd0 15 (by decide) (by decide)) ?_
  refine v_aload_n X d_Law_law_529 rfl rfl ?_
  refine v_aload_n X d_Law_law_530 rfl rfl ?_
  refine v_iload_n X d_Law_law_531 rfl ?_
  refine v_iconst X (v := 1) d_Law_law_532 rfl ?_
  refine v_iadd X d_Law_law_533 ?_
  refine v_int (y := 1) (by decide) ?_
  refine v_tload X hscr d_Law_law_534 (show vp_in (nI 1) 6 from vp_in_nI (by decide) (by decide)) ?_
  refine v_int (y := 13) hx ?_
  refine l_call X B (As := [.int 13]) (rest := [_]) rfl rfl L_Law_71 d_Law_law_535 (by decide) (M_desk_13 _) rfl (by decide) rfl (Nat.le_of_ble_eq_true rfl) (fun r s2 hq => ?_)
  obtain ⟨rfl, rfl⟩ := hq
  refine v_int (y := 0) m44 ?_
  exact v_icmp_eq X 566 d_Law_law_538 (by decide) (fun _ => kend s2) (fun c => absurd rfl c)
set_option maxRecDepth 100000 in
set_option maxHeartbeats 4000000 in
theorem LW_12_out {K : j_K} {D : va_G} {z : Nat} {zs : j_Zs} {ca : Nat → ClassId} {nm : String} {b : Nat} {xs : Nat → Int32} (X : j_X K (k_G D ca z zs) (Y_Law nm) 6 352 3449) (B : p_B K z 0 0) (hscr : (b, 6, xs) ∈ zs.2.1) (ho : (xs 1).toInt < 0 ∨ 13 < (xs 1).toInt) {s : k_S} (hC : frC s) (hM : frM s) (kend : ∀ s1, j_V K (k_G D ca z zs) (Y_Law nm) 566 [(3, .int 0), (2, .ref (ad z 24 0)), (1, .ref (ad z 0 0)), (0, .ref b)] [] (k_M ca z s1)) : j_V K (k_G D ca z zs) (Y_Law nm) 520 [(3, .int 0), (2, .ref (ad z 24 0)), (1, .ref (ad z 0 0)), (0, .ref b)] [] (k_M ca z s) := by
  obtain ⟨hth, hsz, hfr, hd0, ha0, ha1, hl0, hb0, hj⟩ := hC
  refine v_aload_n X d_Law_law_520 rfl rfl ?_
  refine v_aload_n X d_Law_law_521 rfl rfl ?_
  refine v_iload_n X d_Law_law_522 rfl ?_
  refine v_iconst X (v := 1) d_Law_law_523 rfl ?_
  refine v_iadd X d_Law_law_524 ?_
  refine v_int (y := 1) (by decide) ?_
  refine v_tload X hscr d_Law_law_525 (show vp_in (nI 1) 6 from vp_in_nI (by decide) (by decide)) ?_
  refine v_int (y := xs 1) rfl ?_
  refine l_call X B (As := [.int (xs 1)]) (rest := []) rfl rfl L_Law_68 d_Law_law_526 (by decide) (C_desk_out s (xs 1) ho) rfl (by decide) rfl (Nat.le_of_ble_eq_true rfl) (fun r s1 hq => ?_)
  obtain ⟨rfl, rfl⟩ := hq
  refine v_aload_n X d_Law_law_529 rfl rfl ?_
  refine v_aload_n X d_Law_law_530 rfl rfl ?_
  refine v_iload_n X d_Law_law_531 rfl ?_
  refine v_iconst X (v := 1) d_Law_law_532 rfl ?_
  refine v_iadd X d_Law_law_533 ?_
  refine v_int (y := 1) (by decide) ?_
  refine v_tload X hscr d_Law_law_534 (show vp_in (nI 1) 6 from vp_in_nI (by decide) (by decide)) ?_
  refine v_int (y := xs 1) rfl ?_
  refine l_call X B (As := [.int (xs 1)]) (rest := [_]) rfl rfl L_Law_71 d_Law_law_535 (by decide) (M_desk_out s1 (xs 1) ho) rfl (by decide) rfl (Nat.le_of_ble_eq_true rfl) (fun r s2 hq => ?_)
  obtain ⟨rfl, rfl⟩ := hq
  exact v_icmp_eq X 566 d_Law_law_538 (by decide) (fun _ => kend s2) (fun c => absurd rfl c)
set_option maxRecDepth 100000 in
set_option maxHeartbeats 4000000 in
theorem LW_body {K : j_K} {D : va_G} {z : Nat} {zs : j_Zs} {ca : Nat → ClassId} {nm : String} {b : Nat} {xs : Nat → Int32} (X : j_X K (k_G D ca z zs) (Y_Law nm) 6 352 3449) (B : p_B K z 0 0) (hscr : (b, 6, xs) ∈ zs.2.1) {s : k_S} (hC : frC s) (hM : frM s) (kend : ∀ s1, j_V K (k_G D ca z zs) (Y_Law nm) 566 [(3, .int 0), (2, .ref (ad z 24 0)), (1, .ref (ad z 0 0)), (0, .ref b)] [] (k_M ca z s1)) : j_V K (k_G D ca z zs) (Y_Law nm) 27 [(3, .int 0), (2, .ref (ad z 24 0)), (1, .ref (ad z 0 0)), (0, .ref b)] [] (k_M ca z s) := by
  refine v_aload_n X d_Law_law_27 rfl rfl ?_
  refine v_iload_n X d_Law_law_28 rfl ?_
  refine v_tload X hscr d_Law_law_29 (show vp_in (nI 0) 6 from vp_in_nI (by decide) (by decide)) ?_
  refine v_bipush X (v := 15) d_Law_law_30 rfl ?_
  refine v_iand X d_Law_law_32 ?_
  obtain ⟨j, hj, ej⟩ := pk_andE (xs (Int32.toNatClampNeg 0)) (m := 15) 4 rfl
  refine v_int ej ?_
  rcases (show j = 0 ∨ j = 1 ∨ j = 2 ∨ j = 3 ∨ j = 4 ∨ j = 5 ∨ j = 6 ∨ j = 7 ∨ j = 8 ∨ j = 9 ∨ j = 10 ∨ j = 11 ∨ j = 12 ∨ j = 13 ∨ j = 14 ∨ j = 15 by omega) with rfl | rfl | rfl | rfl | rfl | rfl | rfl | rfl | rfl | rfl | rfl | rfl | rfl | rfl | rfl | rfl
  · refine v_tableIn X (off := 71) (tgt := 104) d_Law_law_33 (by decide) (by decide) rfl (by decide) ?_
    exact LW_0 X B hscr hC hM kend
  · refine v_tableIn X (off := 134) (tgt := 167) d_Law_law_33 (by decide) (by decide) rfl (by decide) ?_
    exact LW_1 X B hscr hC hM kend
  · refine v_tableIn X (off := 187) (tgt := 220) d_Law_law_33 (by decide) (by decide) rfl (by decide) ?_
    exact LW_2 X B hscr hC hM kend
  · refine v_tableIn X (off := 230) (tgt := 263) d_Law_law_33 (by decide) (by decide) rfl (by decide) ?_
    exact LW_3 X B hscr hC hM kend
  · refine v_tableIn X (off := 263) (tgt := 296) d_Law_law_33 (by decide) (by decide) rfl (by decide) ?_
    exact LW_4 X B hscr hC hM kend
  · refine v_tableIn X (off := 296) (tgt := 329) d_Law_law_33 (by decide) (by decide) rfl (by decide) ?_
    exact LW_5 X B hscr hC hM kend
  · refine v_tableIn X (off := 329) (tgt := 362) d_Law_law_33 (by decide) (by decide) rfl (by decide) ?_
    exact LW_6 X B hscr hC hM kend
  · refine v_tableIn X (off := 362) (tgt := 395) d_Law_law_33 (by decide) (by decide) rfl (by decide) ?_
    exact LW_7 X B hscr hC hM kend
  · refine v_tableIn X (off := 385) (tgt := 418) d_Law_law_33 (by decide) (by decide) rfl (by decide) ?_
    exact LW_8 X B hscr hC hM kend
  · refine v_tableIn X (off := 408) (tgt := 441) d_Law_law_33 (by decide) (by decide) rfl (by decide) ?_
    exact LW_9 X B hscr hC hM kend
  · refine v_tableIn X (off := 421) (tgt := 454) d_Law_law_33 (by decide) (by decide) rfl (by decide) ?_
    exact LW_10 X B hscr hC hM kend
  · refine v_tableIn X (off := 454) (tgt := 487) d_Law_law_33 (by decide) (by decide) rfl (by decide) ?_
    exact LW_11 X B hscr hC hM kend
  · refine v_tableIn X (off := 487) (tgt := 520) d_Law_law_33 (by decide) (by decide) rfl (by decide) ?_
    rcases tab_cases (x := xs 1) 14 (by decide) with ho | ⟨w, hw, hx⟩
    · exact LW_12_out X B hscr ho hC hM kend
    · rcases (show w = 0 ∨ w = 1 ∨ w = 2 ∨ w = 3 ∨ w = 4 ∨ w = 5 ∨ w = 6 ∨ w = 7 ∨ w = 8 ∨ w = 9 ∨ w = 10 ∨ w = 11 ∨ w = 12 ∨ w = 13 by omega) with rfl | rfl | rfl | rfl | rfl | rfl | rfl | rfl | rfl | rfl | rfl | rfl | rfl | rfl
      · exact LW_12_0 X B hscr hx hC hM kend
      · exact LW_12_1 X B hscr hx hC hM kend
      · exact LW_12_2 X B hscr hx hC hM kend
      · exact LW_12_3 X B hscr hx hC hM kend
      · exact LW_12_4 X B hscr hx hC hM kend
      · exact LW_12_5 X B hscr hx hC hM kend
      · exact LW_12_6 X B hscr hx hC hM kend
      · exact LW_12_7 X B hscr hx hC hM kend
      · exact LW_12_8 X B hscr hx hC hM kend
      · exact LW_12_9 X B hscr hx hC hM kend
      · exact LW_12_10 X B hscr hx hC hM kend
      · exact LW_12_11 X B hscr hx hC hM kend
      · exact LW_12_12 X B hscr hx hC hM kend
      · exact LW_12_13 X B hscr hx hC hM kend
  · refine v_tableIn X (off := 510) (tgt := 543) d_Law_law_33 (by decide) (by decide) rfl (by decide) ?_
    exact LW_13 X B hscr hC hM kend
  · refine v_tableOut X (tgt := 566) d_Law_law_33 (Or.inr (by decide)) (by decide) ?_
    exact kend s
  · refine v_tableOut X (tgt := 566) d_Law_law_33 (Or.inr (by decide)) (by decide) ?_
    exact kend s
