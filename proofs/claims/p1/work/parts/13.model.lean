set_option maxRecDepth 100000 in
set_option maxHeartbeats 4000000 in
theorem I_Model {D : va_G} {z : Nat} {zs : j_Zs} {ca : Nat → ClassId} (s : k_S) (n q : Nat) (hn : 321 = n) (hz : ∀ j, s 24 0 j = 0) : p_C D z zs ca Y_Model_init 1 [.ref (ad z 24 0)] n q 31 860 s (fun s' => (∀ k i, k < 24 → s' k i = s k i) ∧ (∀ k, 24 ≤ k → k < 56 → okc s' k 0) ∧ (∀ h, h < 8 → s' 25 0 h = 0) ∧ (∀ f, f < 4 → s' 37 0 f = 0) ∧ (∀ h, h < 8 → s' 40 0 h = 0) ∧ s' 24 0 30 = 0 ∧ s' 24 0 31 = 0 ∧ s' 24 0 32 = 0 ∧ s' 24 0 35 = 0 ∧ s' 24 0 36 = 0 ∧ s' 24 0 37 = 0 ∧ s' 24 0 38 = 0 ∧ s' 24 0 40 = 0 ∧ s' 24 0 42 = 0 ∧ s' 24 0 43 = 0 ∧ s' 24 0 44 = 0 ∧ s' 24 0 47 = 0 ∧ s' 24 0 39 = -1) := by
  refine p_of [(0, .ref (ad z 24 0))] (by decide) (Nat.le_of_ble_eq_true rfl) rfl (fun K X E B => ?_)
  refine v_aload_n X d_Model_init_0 rfl rfl ?_
  refine v_objinit X O_Model_1 d_Model_init_1 (by decide) (Nat.le_of_ble_eq_true rfl) ?_
  refine v_aload_n X d_Model_init_4 rfl rfl ?_
  refine v_bipush X (v := 8) d_Model_init_5 rfl ?_
  refine p_newI X (kd := 25) (ix := 0) B rfl (Or.inr rfl) rfl AZ d_Model_init_7 (by decide) (by decide) (by decide) (by decide) (show 321 = n by omega) (by omega) (by omega) ?_
  refine p_putF X (v := 1) rfl rfl rfl P_Model_7 rfl d_Model_init_9 rfl rfl (by decide) (show 320 < n + 1 by omega) ?_
  refine v_aload_n X d_Model_init_12 rfl rfl ?_
  refine v_bipush X (v := 8) d_Model_init_13 rfl ?_
  refine p_newI X (kd := 26) (ix := 0) B rfl (Or.inl rfl) rfl AI d_Model_init_15 (by decide) (by decide) (by decide) (by decide) (show 322 = n + 1 by omega) (by omega) (by omega) ?_
  refine p_putF X (v := 1) rfl rfl rfl P_Model_13 rfl d_Model_init_17 rfl rfl (by decide) (show 320 < n + 1 + 1 by omega) ?_
  refine v_aload_n X d_Model_init_20 rfl rfl ?_
  refine v_bipush X (v := 8) d_Model_init_21 rfl ?_
  refine p_newI X (kd := 27) (ix := 0) B rfl (Or.inl rfl) rfl AI d_Model_init_23 (by decide) (by decide) (by decide) (by decide) (show 323 = n + 1 + 1 by omega) (by omega) (by omega) ?_
  refine p_putF X (v := 1) rfl rfl rfl P_Model_17 rfl d_Model_init_25 rfl rfl (by decide) (show 320 < n + 1 + 1 + 1 by omega) ?_
  refine v_aload_n X d_Model_init_28 rfl rfl ?_
  refine v_bipush X (v := 8) d_Model_init_29 rfl ?_
  refine p_newI X (kd := 28) (ix := 0) B rfl (Or.inl rfl) rfl AI d_Model_init_31 (by decide) (by decide) (by decide) (by decide) (show 324 = n + 1 + 1 + 1 by omega) (by omega) (by omega) ?_
  refine p_putF X (v := 1) rfl rfl rfl P_Model_20 rfl d_Model_init_33 rfl rfl (by decide) (show 320 < n + 1 + 1 + 1 + 1 by omega) ?_
  refine v_aload_n X d_Model_init_36 rfl rfl ?_
  refine v_bipush X (v := 8) d_Model_init_37 rfl ?_
  refine p_newI X (kd := 29) (ix := 0) B rfl (Or.inl rfl) rfl AI d_Model_init_39 (by decide) (by decide) (by decide) (by decide) (show 325 = n + 1 + 1 + 1 + 1 by omega) (by omega) (by omega) ?_
  refine p_putF X (v := 1) rfl rfl rfl P_Model_23 rfl d_Model_init_41 rfl rfl (by decide) (show 320 < n + 1 + 1 + 1 + 1 + 1 by omega) ?_
  refine v_aload_n X d_Model_init_44 rfl rfl ?_
  refine v_bipush X (v := 8) d_Model_init_45 rfl ?_
  refine p_newI X (kd := 30) (ix := 0) B rfl (Or.inl rfl) rfl AI d_Model_init_47 (by decide) (by decide) (by decide) (by decide) (show 326 = n + 1 + 1 + 1 + 1 + 1 by omega) (by omega) (by omega) ?_
  refine p_putF X (v := 1) rfl rfl rfl P_Model_26 rfl d_Model_init_49 rfl rfl (by decide) (show 320 < n + 1 + 1 + 1 + 1 + 1 + 1 by omega) ?_
  refine v_aload_n X d_Model_init_52 rfl rfl ?_
  refine v_bipush X (v := 8) d_Model_init_53 rfl ?_
  refine p_newI X (kd := 31) (ix := 0) B rfl (Or.inl rfl) rfl AI d_Model_init_55 (by decide) (by decide) (by decide) (by decide) (show 327 = n + 1 + 1 + 1 + 1 + 1 + 1 by omega) (by omega) (by omega) ?_
  refine p_putF X (v := 1) rfl rfl rfl P_Model_29 rfl d_Model_init_57 rfl rfl (by decide) (show 320 < n + 1 + 1 + 1 + 1 + 1 + 1 + 1 by omega) ?_
  refine v_aload_n X d_Model_init_60 rfl rfl ?_
  refine v_bipush X (v := 8) d_Model_init_61 rfl ?_
  refine p_newI X (kd := 32) (ix := 0) B rfl (Or.inl rfl) rfl AI d_Model_init_63 (by decide) (by decide) (by decide) (by decide) (show 328 = n + 1 + 1 + 1 + 1 + 1 + 1 + 1 by omega) (by omega) (by omega) ?_
  refine p_putF X (v := 1) rfl rfl rfl P_Model_32 rfl d_Model_init_65 rfl rfl (by decide) (show 320 < n + 1 + 1 + 1 + 1 + 1 + 1 + 1 + 1 by omega) ?_
  refine v_aload_n X d_Model_init_68 rfl rfl ?_
  refine v_bipush X (v := 8) d_Model_init_69 rfl ?_
  refine p_newI X (kd := 33) (ix := 0) B rfl (Or.inl rfl) rfl AI d_Model_init_71 (by decide) (by decide) (by decide) (by decide) (show 329 = n + 1 + 1 + 1 + 1 + 1 + 1 + 1 + 1 by omega) (by omega) (by omega) ?_
  refine p_putF X (v := 1) rfl rfl rfl P_Model_35 rfl d_Model_init_73 rfl rfl (by decide) (show 320 < n + 1 + 1 + 1 + 1 + 1 + 1 + 1 + 1 + 1 by omega) ?_
  refine v_aload_n X d_Model_init_76 rfl rfl ?_
  refine v_bipush X (v := 80) d_Model_init_77 rfl ?_
  refine p_newI X (kd := 34) (ix := 0) B rfl (Or.inl rfl) rfl AI d_Model_init_79 (by decide) (by decide) (by decide) (by decide) (show 330 = n + 1 + 1 + 1 + 1 + 1 + 1 + 1 + 1 + 1 by omega) (by omega) (by omega) ?_
  refine p_putF X (v := 1) rfl rfl rfl P_Model_38 rfl d_Model_init_81 rfl rfl (by decide) (show 320 < n + 1 + 1 + 1 + 1 + 1 + 1 + 1 + 1 + 1 + 1 by omega) ?_
  refine v_aload_n X d_Model_init_84 rfl rfl ?_
  refine v_bipush X (v := 80) d_Model_init_85 rfl ?_
  refine p_newI X (kd := 35) (ix := 0) B rfl (Or.inl rfl) rfl AI d_Model_init_87 (by decide) (by decide) (by decide) (by decide) (show 331 = n + 1 + 1 + 1 + 1 + 1 + 1 + 1 + 1 + 1 + 1 by omega) (by omega) (by omega) ?_
  refine p_putF X (v := 1) rfl rfl rfl P_Model_41 rfl d_Model_init_89 rfl rfl (by decide) (show 320 < n + 1 + 1 + 1 + 1 + 1 + 1 + 1 + 1 + 1 + 1 + 1 by omega) ?_
  refine v_aload_n X d_Model_init_92 rfl rfl ?_
  refine v_iconst X (v := 4) d_Model_init_93 rfl ?_
  refine p_newI X (kd := 36) (ix := 0) B rfl (Or.inl rfl) rfl AI d_Model_init_94 (by decide) (by decide) (by decide) (by decide) (show 332 = n + 1 + 1 + 1 + 1 + 1 + 1 + 1 + 1 + 1 + 1 + 1 by omega) (by omega) (by omega) ?_
  refine p_putF X (v := 1) rfl rfl rfl P_Model_44 rfl d_Model_init_96 rfl rfl (by decide) (show 320 < n + 1 + 1 + 1 + 1 + 1 + 1 + 1 + 1 + 1 + 1 + 1 + 1 by omega) ?_
  refine v_aload_n X d_Model_init_99 rfl rfl ?_
  refine v_iconst X (v := 4) d_Model_init_100 rfl ?_
  refine p_newI X (kd := 37) (ix := 0) B rfl (Or.inl rfl) rfl AI d_Model_init_101 (by decide) (by decide) (by decide) (by decide) (show 333 = n + 1 + 1 + 1 + 1 + 1 + 1 + 1 + 1 + 1 + 1 + 1 + 1 by omega) (by omega) (by omega) ?_
  refine p_putF X (v := 1) rfl rfl rfl P_Model_47 rfl d_Model_init_103 rfl rfl (by decide) (show 320 < n + 1 + 1 + 1 + 1 + 1 + 1 + 1 + 1 + 1 + 1 + 1 + 1 + 1 by omega) ?_
  refine v_aload_n X d_Model_init_106 rfl rfl ?_
  refine v_iconst X (v := 4) d_Model_init_107 rfl ?_
  refine p_newI X (kd := 38) (ix := 0) B rfl (Or.inl rfl) rfl AI d_Model_init_108 (by decide) (by decide) (by decide) (by decide) (show 334 = n + 1 + 1 + 1 + 1 + 1 + 1 + 1 + 1 + 1 + 1 + 1 + 1 + 1 by omega) (by omega) (by omega) ?_
  refine p_putF X (v := 1) rfl rfl rfl P_Model_50 rfl d_Model_init_110 rfl rfl (by decide) (show 320 < n + 1 + 1 + 1 + 1 + 1 + 1 + 1 + 1 + 1 + 1 + 1 + 1 + 1 + 1 by omega) ?_
  refine v_aload_n X d_Model_init_113 rfl rfl ?_
  refine v_bipush X (v := 16) d_Model_init_114 rfl ?_
  refine p_newI X (kd := 39) (ix := 0) B rfl (Or.inl rfl) rfl AI d_Model_init_116 (by decide) (by decide) (by decide) (by decide) (show 335 = n + 1 + 1 + 1 + 1 + 1 + 1 + 1 + 1 + 1 + 1 + 1 + 1 + 1 + 1 by omega) (by omega) (by omega) ?_
  refine p_putF X (v := 1) rfl rfl rfl P_Model_53 rfl d_Model_init_118 rfl rfl (by decide) (show 320 < n + 1 + 1 + 1 + 1 + 1 + 1 + 1 + 1 + 1 + 1 + 1 + 1 + 1 + 1 + 1 by omega) ?_
  refine v_aload_n X d_Model_init_121 rfl rfl ?_
  refine v_bipush X (v := 8) d_Model_init_122 rfl ?_
  refine p_newI X (kd := 40) (ix := 0) B rfl (Or.inl rfl) rfl AI d_Model_init_124 (by decide) (by decide) (by decide) (by decide) (show 336 = n + 1 + 1 + 1 + 1 + 1 + 1 + 1 + 1 + 1 + 1 + 1 + 1 + 1 + 1 + 1 by omega) (by omega) (by omega) ?_
  refine p_putF X (v := 1) rfl rfl rfl P_Model_56 rfl d_Model_init_126 rfl rfl (by decide) (show 320 < n + 1 + 1 + 1 + 1 + 1 + 1 + 1 + 1 + 1 + 1 + 1 + 1 + 1 + 1 + 1 + 1 by omega) ?_
  refine v_aload_n X d_Model_init_129 rfl rfl ?_
  refine v_bipush X (v := 32) d_Model_init_130 rfl ?_
  refine p_newI X (kd := 41) (ix := 0) B rfl (Or.inl rfl) rfl AI d_Model_init_132 (by decide) (by decide) (by decide) (by decide) (show 337 = n + 1 + 1 + 1 + 1 + 1 + 1 + 1 + 1 + 1 + 1 + 1 + 1 + 1 + 1 + 1 + 1 by omega) (by omega) (by omega) ?_
  refine p_putF X (v := 1) rfl rfl rfl P_Model_59 rfl d_Model_init_134 rfl rfl (by decide) (show 320 < n + 1 + 1 + 1 + 1 + 1 + 1 + 1 + 1 + 1 + 1 + 1 + 1 + 1 + 1 + 1 + 1 + 1 by omega) ?_
  refine v_aload_n X d_Model_init_137 rfl rfl ?_
  refine v_bipush X (v := 32) d_Model_init_138 rfl ?_
  refine p_newI X (kd := 42) (ix := 0) B rfl (Or.inl rfl) rfl AI d_Model_init_140 (by decide) (by decide) (by decide) (by decide) (show 338 = n + 1 + 1 + 1 + 1 + 1 + 1 + 1 + 1 + 1 + 1 + 1 + 1 + 1 + 1 + 1 + 1 + 1 by omega) (by omega) (by omega) ?_
  refine p_putF X (v := 1) rfl rfl rfl P_Model_62 rfl d_Model_init_142 rfl rfl (by decide) (show 320 < n + 1 + 1 + 1 + 1 + 1 + 1 + 1 + 1 + 1 + 1 + 1 + 1 + 1 + 1 + 1 + 1 + 1 + 1 by omega) ?_
  refine v_aload_n X d_Model_init_145 rfl rfl ?_
  refine v_bipush X (v := 8) d_Model_init_146 rfl ?_
  refine p_newI X (kd := 43) (ix := 0) B rfl (Or.inr rfl) rfl AZ d_Model_init_148 (by decide) (by decide) (by decide) (by decide) (show 339 = n + 1 + 1 + 1 + 1 + 1 + 1 + 1 + 1 + 1 + 1 + 1 + 1 + 1 + 1 + 1 + 1 + 1 + 1 by omega) (by omega) (by omega) ?_
  refine p_putF X (v := 1) rfl rfl rfl P_Model_65 rfl d_Model_init_150 rfl rfl (by decide) (show 320 < n + 1 + 1 + 1 + 1 + 1 + 1 + 1 + 1 + 1 + 1 + 1 + 1 + 1 + 1 + 1 + 1 + 1 + 1 + 1 by omega) ?_
  refine v_aload_n X d_Model_init_153 rfl rfl ?_
  refine v_bipush X (v := 8) d_Model_init_154 rfl ?_
  refine p_newI X (kd := 44) (ix := 0) B rfl (Or.inl rfl) rfl AI d_Model_init_156 (by decide) (by decide) (by decide) (by decide) (show 340 = n + 1 + 1 + 1 + 1 + 1 + 1 + 1 + 1 + 1 + 1 + 1 + 1 + 1 + 1 + 1 + 1 + 1 + 1 + 1 by omega) (by omega) (by omega) ?_
  refine p_putF X (v := 1) rfl rfl rfl P_Model_68 rfl d_Model_init_158 rfl rfl (by decide) (show 320 < n + 1 + 1 + 1 + 1 + 1 + 1 + 1 + 1 + 1 + 1 + 1 + 1 + 1 + 1 + 1 + 1 + 1 + 1 + 1 + 1 by omega) ?_
  refine v_aload_n X d_Model_init_161 rfl rfl ?_
  refine v_bipush X (v := 8) d_Model_init_162 rfl ?_
  refine p_newI X (kd := 45) (ix := 0) B rfl (Or.inl rfl) rfl AI d_Model_init_164 (by decide) (by decide) (by decide) (by decide) (show 341 = n + 1 + 1 + 1 + 1 + 1 + 1 + 1 + 1 + 1 + 1 + 1 + 1 + 1 + 1 + 1 + 1 + 1 + 1 + 1 + 1 by omega) (by omega) (by omega) ?_
  refine p_putF X (v := 1) rfl rfl rfl P_Model_71 rfl d_Model_init_166 rfl rfl (by decide) (show 320 < n + 1 + 1 + 1 + 1 + 1 + 1 + 1 + 1 + 1 + 1 + 1 + 1 + 1 + 1 + 1 + 1 + 1 + 1 + 1 + 1 + 1 by omega) ?_
  refine v_aload_n X d_Model_init_169 rfl rfl ?_
  refine v_bipush X (v := 8) d_Model_init_170 rfl ?_
  refine p_newI X (kd := 46) (ix := 0) B rfl (Or.inl rfl) rfl AI d_Model_init_172 (by decide) (by decide) (by decide) (by decide) (show 342 = n + 1 + 1 + 1 + 1 + 1 + 1 + 1 + 1 + 1 + 1 + 1 + 1 + 1 + 1 + 1 + 1 + 1 + 1 + 1 + 1 + 1 by omega) (by omega) (by omega) ?_
  refine p_putF X (v := 1) rfl rfl rfl P_Model_74 rfl d_Model_init_174 rfl rfl (by decide) (show 320 < n + 1 + 1 + 1 + 1 + 1 + 1 + 1 + 1 + 1 + 1 + 1 + 1 + 1 + 1 + 1 + 1 + 1 + 1 + 1 + 1 + 1 + 1 by omega) ?_
  refine v_aload_n X d_Model_init_177 rfl rfl ?_
  refine v_bipush X (v := 96) d_Model_init_178 rfl ?_
  refine p_newI X (kd := 47) (ix := 0) B rfl (Or.inl rfl) rfl AI d_Model_init_180 (by decide) (by decide) (by decide) (by decide) (show 343 = n + 1 + 1 + 1 + 1 + 1 + 1 + 1 + 1 + 1 + 1 + 1 + 1 + 1 + 1 + 1 + 1 + 1 + 1 + 1 + 1 + 1 + 1 by omega) (by omega) (by omega) ?_
  refine p_putF X (v := 1) rfl rfl rfl P_Model_77 rfl d_Model_init_182 rfl rfl (by decide) (show 320 < n + 1 + 1 + 1 + 1 + 1 + 1 + 1 + 1 + 1 + 1 + 1 + 1 + 1 + 1 + 1 + 1 + 1 + 1 + 1 + 1 + 1 + 1 + 1 by omega) ?_
  refine v_aload_n X d_Model_init_185 rfl rfl ?_
  refine v_bipush X (v := 96) d_Model_init_186 rfl ?_
  refine p_newI X (kd := 48) (ix := 0) B rfl (Or.inl rfl) rfl AI d_Model_init_188 (by decide) (by decide) (by decide) (by decide) (show 344 = n + 1 + 1 + 1 + 1 + 1 + 1 + 1 + 1 + 1 + 1 + 1 + 1 + 1 + 1 + 1 + 1 + 1 + 1 + 1 + 1 + 1 + 1 + 1 by omega) (by omega) (by omega) ?_
  refine p_putF X (v := 1) rfl rfl rfl P_Model_80 rfl d_Model_init_190 rfl rfl (by decide) (show 320 < n + 1 + 1 + 1 + 1 + 1 + 1 + 1 + 1 + 1 + 1 + 1 + 1 + 1 + 1 + 1 + 1 + 1 + 1 + 1 + 1 + 1 + 1 + 1 + 1 by omega) ?_
  refine v_aload_n X d_Model_init_193 rfl rfl ?_
  refine v_bipush X (v := 8) d_Model_init_194 rfl ?_
  refine p_newI X (kd := 49) (ix := 0) B rfl (Or.inl rfl) rfl AI d_Model_init_196 (by decide) (by decide) (by decide) (by decide) (show 345 = n + 1 + 1 + 1 + 1 + 1 + 1 + 1 + 1 + 1 + 1 + 1 + 1 + 1 + 1 + 1 + 1 + 1 + 1 + 1 + 1 + 1 + 1 + 1 + 1 by omega) (by omega) (by omega) ?_
  refine p_putF X (v := 1) rfl rfl rfl P_Model_83 rfl d_Model_init_198 rfl rfl (by decide) (show 320 < n + 1 + 1 + 1 + 1 + 1 + 1 + 1 + 1 + 1 + 1 + 1 + 1 + 1 + 1 + 1 + 1 + 1 + 1 + 1 + 1 + 1 + 1 + 1 + 1 + 1 by omega) ?_
  refine v_aload_n X d_Model_init_201 rfl rfl ?_
  refine v_bipush X (v := 80) d_Model_init_202 rfl ?_
  refine p_newI X (kd := 50) (ix := 0) B rfl (Or.inl rfl) rfl AI d_Model_init_204 (by decide) (by decide) (by decide) (by decide) (show 346 = n + 1 + 1 + 1 + 1 + 1 + 1 + 1 + 1 + 1 + 1 + 1 + 1 + 1 + 1 + 1 + 1 + 1 + 1 + 1 + 1 + 1 + 1 + 1 + 1 + 1 by omega) (by omega) (by omega) ?_
  refine p_putF X (v := 1) rfl rfl rfl P_Model_86 rfl d_Model_init_206 rfl rfl (by decide) (show 320 < n + 1 + 1 + 1 + 1 + 1 + 1 + 1 + 1 + 1 + 1 + 1 + 1 + 1 + 1 + 1 + 1 + 1 + 1 + 1 + 1 + 1 + 1 + 1 + 1 + 1 + 1 by omega) ?_
  refine v_aload_n X d_Model_init_209 rfl rfl ?_
  refine v_bipush X (v := 80) d_Model_init_210 rfl ?_
  refine p_newI X (kd := 51) (ix := 0) B rfl (Or.inl rfl) rfl AI d_Model_init_212 (by decide) (by decide) (by decide) (by decide) (show 347 = n + 1 + 1 + 1 + 1 + 1 + 1 + 1 + 1 + 1 + 1 + 1 + 1 + 1 + 1 + 1 + 1 + 1 + 1 + 1 + 1 + 1 + 1 + 1 + 1 + 1 + 1 by omega) (by omega) (by omega) ?_
  refine p_putF X (v := 1) rfl rfl rfl P_Model_89 rfl d_Model_init_214 rfl rfl (by decide) (show 320 < n + 1 + 1 + 1 + 1 + 1 + 1 + 1 + 1 + 1 + 1 + 1 + 1 + 1 + 1 + 1 + 1 + 1 + 1 + 1 + 1 + 1 + 1 + 1 + 1 + 1 + 1 + 1 by omega) ?_
  refine v_aload_n X d_Model_init_217 rfl rfl ?_
  refine v_bipush X (v := 8) d_Model_init_218 rfl ?_
  refine p_newI X (kd := 52) (ix := 0) B rfl (Or.inl rfl) rfl AI d_Model_init_220 (by decide) (by decide) (by decide) (by decide) (show 348 = n + 1 + 1 + 1 + 1 + 1 + 1 + 1 + 1 + 1 + 1 + 1 + 1 + 1 + 1 + 1 + 1 + 1 + 1 + 1 + 1 + 1 + 1 + 1 + 1 + 1 + 1 + 1 by omega) (by omega) (by omega) ?_
  refine p_putF X (v := 1) rfl rfl rfl P_Model_92 rfl d_Model_init_222 rfl rfl (by decide) (show 320 < n + 1 + 1 + 1 + 1 + 1 + 1 + 1 + 1 + 1 + 1 + 1 + 1 + 1 + 1 + 1 + 1 + 1 + 1 + 1 + 1 + 1 + 1 + 1 + 1 + 1 + 1 + 1 + 1 by omega) ?_
  refine v_aload_n X d_Model_init_225 rfl rfl ?_
  refine v_bipush X (v := 32) d_Model_init_226 rfl ?_
  refine p_newI X (kd := 53) (ix := 0) B rfl (Or.inl rfl) rfl AI d_Model_init_228 (by decide) (by decide) (by decide) (by decide) (show 349 = n + 1 + 1 + 1 + 1 + 1 + 1 + 1 + 1 + 1 + 1 + 1 + 1 + 1 + 1 + 1 + 1 + 1 + 1 + 1 + 1 + 1 + 1 + 1 + 1 + 1 + 1 + 1 + 1 by omega) (by omega) (by omega) ?_
  refine p_putF X (v := 1) rfl rfl rfl P_Model_95 rfl d_Model_init_230 rfl rfl (by decide) (show 320 < n + 1 + 1 + 1 + 1 + 1 + 1 + 1 + 1 + 1 + 1 + 1 + 1 + 1 + 1 + 1 + 1 + 1 + 1 + 1 + 1 + 1 + 1 + 1 + 1 + 1 + 1 + 1 + 1 + 1 by omega) ?_
  refine v_aload_n X d_Model_init_233 rfl rfl ?_
  refine v_iconst X (v := -1) d_Model_init_234 rfl ?_
  refine p_put X (v := -1) rfl rfl rfl P_Model_98 d_Model_init_235 rfl rfl (by decide) (show 320 < n + 1 + 1 + 1 + 1 + 1 + 1 + 1 + 1 + 1 + 1 + 1 + 1 + 1 + 1 + 1 + 1 + 1 + 1 + 1 + 1 + 1 + 1 + 1 + 1 + 1 + 1 + 1 + 1 + 1 by omega) ?_
  refine v_aload_n X d_Model_init_238 rfl rfl ?_
  refine v_bipush X (v := 64) d_Model_init_239 rfl ?_
  refine p_newI X (kd := 54) (ix := 0) B rfl (Or.inl rfl) rfl AI d_Model_init_241 (by decide) (by decide) (by decide) (by decide) (show 350 = n + 1 + 1 + 1 + 1 + 1 + 1 + 1 + 1 + 1 + 1 + 1 + 1 + 1 + 1 + 1 + 1 + 1 + 1 + 1 + 1 + 1 + 1 + 1 + 1 + 1 + 1 + 1 + 1 + 1 by omega) (by omega) (by omega) ?_
  refine p_putF X (v := 1) rfl rfl rfl P_Model_102 rfl d_Model_init_243 rfl rfl (by decide) (show 320 < n + 1 + 1 + 1 + 1 + 1 + 1 + 1 + 1 + 1 + 1 + 1 + 1 + 1 + 1 + 1 + 1 + 1 + 1 + 1 + 1 + 1 + 1 + 1 + 1 + 1 + 1 + 1 + 1 + 1 + 1 by omega) ?_
  refine v_aload_n X d_Model_init_246 rfl rfl ?_
  refine v_bipush X (v := 32) d_Model_init_247 rfl ?_
  refine p_newI X (kd := 55) (ix := 0) B rfl (Or.inl rfl) rfl AI d_Model_init_249 (by decide) (by decide) (by decide) (by decide) (show 351 = n + 1 + 1 + 1 + 1 + 1 + 1 + 1 + 1 + 1 + 1 + 1 + 1 + 1 + 1 + 1 + 1 + 1 + 1 + 1 + 1 + 1 + 1 + 1 + 1 + 1 + 1 + 1 + 1 + 1 + 1 by omega) (by omega) (by omega) ?_
  refine p_putF X (v := 1) rfl rfl rfl P_Model_105 rfl d_Model_init_251 rfl rfl (by decide) (show 320 < n + 1 + 1 + 1 + 1 + 1 + 1 + 1 + 1 + 1 + 1 + 1 + 1 + 1 + 1 + 1 + 1 + 1 + 1 + 1 + 1 + 1 + 1 + 1 + 1 + 1 + 1 + 1 + 1 + 1 + 1 + 1 by omega) ?_
  refine v_iconst X (v := 0) d_Model_init_254 rfl ?_
  refine v_istore_n X [(1, .int 0), (0, .ref (ad z 24 0))] d_Model_init_255 (by decide) rfl ?_
  refine v_iload_n X d_Model_init_256 rfl ?_
  refine v_iconst X (v := 4) d_Model_init_257 rfl ?_
  refine v_icmp_ge X 275 d_Model_init_258 (by decide) (fun c => absurd c (by decide)) (fun _ => ?_)
  refine v_aload_n X d_Model_init_261 rfl rfl ?_
  refine p_getr X (ix2 := 0) rfl rfl F_Model_44 d_Model_init_262 rfl (by decide) (show 320 < n + 1 + 1 + 1 + 1 + 1 + 1 + 1 + 1 + 1 + 1 + 1 + 1 + 1 + 1 + 1 + 1 + 1 + 1 + 1 + 1 + 1 + 1 + 1 + 1 + 1 + 1 + 1 + 1 + 1 + 1 + 1 by omega) (by simp [k_set_of, k_up_of]) ?_
  refine v_iload_n X d_Model_init_265 rfl ?_
  refine v_bipush X (v := 9) d_Model_init_266 rfl ?_
  refine p_iast X 0 rfl rfl d_Model_init_268 (by decide) (show 332 < n + 1 + 1 + 1 + 1 + 1 + 1 + 1 + 1 + 1 + 1 + 1 + 1 + 1 + 1 + 1 + 1 + 1 + 1 + 1 + 1 + 1 + 1 + 1 + 1 + 1 + 1 + 1 + 1 + 1 + 1 + 1 by omega) (by decide) (by decide) ?_
  refine v_iinc X (v := 1) [(1, .int 1), (0, .ref (ad z 24 0))] d_Model_init_269 rfl (by decide) (by decide) rfl ?_
  refine v_goto X (tgt := 256) d_Model_init_272 (by decide) ?_
  refine v_iload_n X d_Model_init_256 rfl ?_
  refine v_iconst X (v := 4) d_Model_init_257 rfl ?_
  refine v_icmp_ge X 275 d_Model_init_258 (by decide) (fun c => absurd c (by decide)) (fun _ => ?_)
  refine v_aload_n X d_Model_init_261 rfl rfl ?_
  refine p_getr X (ix2 := 0) rfl rfl F_Model_44 d_Model_init_262 rfl (by decide) (show 320 < n + 1 + 1 + 1 + 1 + 1 + 1 + 1 + 1 + 1 + 1 + 1 + 1 + 1 + 1 + 1 + 1 + 1 + 1 + 1 + 1 + 1 + 1 + 1 + 1 + 1 + 1 + 1 + 1 + 1 + 1 + 1 by omega) (by simp [k_set_of, k_up_of]) ?_
  refine v_iload_n X d_Model_init_265 rfl ?_
  refine v_bipush X (v := 9) d_Model_init_266 rfl ?_
  refine p_iast X 1 rfl rfl d_Model_init_268 (by decide) (show 332 < n + 1 + 1 + 1 + 1 + 1 + 1 + 1 + 1 + 1 + 1 + 1 + 1 + 1 + 1 + 1 + 1 + 1 + 1 + 1 + 1 + 1 + 1 + 1 + 1 + 1 + 1 + 1 + 1 + 1 + 1 + 1 by omega) (by decide) (by decide) ?_
  refine v_iinc X (v := 2) [(1, .int 2), (0, .ref (ad z 24 0))] d_Model_init_269 rfl (by decide) (by decide) rfl ?_
  refine v_goto X (tgt := 256) d_Model_init_272 (by decide) ?_
  refine v_iload_n X d_Model_init_256 rfl ?_
  refine v_iconst X (v := 4) d_Model_init_257 rfl ?_
  refine v_icmp_ge X 275 d_Model_init_258 (by decide) (fun c => absurd c (by decide)) (fun _ => ?_)
  refine v_aload_n X d_Model_init_261 rfl rfl ?_
  refine p_getr X (ix2 := 0) rfl rfl F_Model_44 d_Model_init_262 rfl (by decide) (show 320 < n + 1 + 1 + 1 + 1 + 1 + 1 + 1 + 1 + 1 + 1 + 1 + 1 + 1 + 1 + 1 + 1 + 1 + 1 + 1 + 1 + 1 + 1 + 1 + 1 + 1 + 1 + 1 + 1 + 1 + 1 + 1 by omega) (by simp [k_set_of, k_up_of]) ?_
  refine v_iload_n X d_Model_init_265 rfl ?_
  refine v_bipush X (v := 9) d_Model_init_266 rfl ?_
  refine p_iast X 2 rfl rfl d_Model_init_268 (by decide) (show 332 < n + 1 + 1 + 1 + 1 + 1 + 1 + 1 + 1 + 1 + 1 + 1 + 1 + 1 + 1 + 1 + 1 + 1 + 1 + 1 + 1 + 1 + 1 + 1 + 1 + 1 + 1 + 1 + 1 + 1 + 1 + 1 by omega) (by decide) (by decide) ?_
  refine v_iinc X (v := 3) [(1, .int 3), (0, .ref (ad z 24 0))] d_Model_init_269 rfl (by decide) (by decide) rfl ?_
  refine v_goto X (tgt := 256) d_Model_init_272 (by decide) ?_
  refine v_iload_n X d_Model_init_256 rfl ?_
  refine v_iconst X (v := 4) d_Model_init_257 rfl ?_
  refine v_icmp_ge X 275 d_Model_init_258 (by decide) (fun c => absurd c (by decide)) (fun _ => ?_)
  refine v_aload_n X d_Model_init_261 rfl rfl ?_
  refine p_getr X (ix2 := 0) rfl rfl F_Model_44 d_Model_init_262 rfl (by decide) (show 320 < n + 1 + 1 + 1 + 1 + 1 + 1 + 1 + 1 + 1 + 1 + 1 + 1 + 1 + 1 + 1 + 1 + 1 + 1 + 1 + 1 + 1 + 1 + 1 + 1 + 1 + 1 + 1 + 1 + 1 + 1 + 1 by omega) (by simp [k_set_of, k_up_of]) ?_
  refine v_iload_n X d_Model_init_265 rfl ?_
  refine v_bipush X (v := 9) d_Model_init_266 rfl ?_
  refine p_iast X 3 rfl rfl d_Model_init_268 (by decide) (show 332 < n + 1 + 1 + 1 + 1 + 1 + 1 + 1 + 1 + 1 + 1 + 1 + 1 + 1 + 1 + 1 + 1 + 1 + 1 + 1 + 1 + 1 + 1 + 1 + 1 + 1 + 1 + 1 + 1 + 1 + 1 + 1 by omega) (by decide) (by decide) ?_
  refine v_iinc X (v := 4) [(1, .int 4), (0, .ref (ad z 24 0))] d_Model_init_269 rfl (by decide) (by decide) rfl ?_
  refine v_goto X (tgt := 256) d_Model_init_272 (by decide) ?_
  refine v_iload_n X d_Model_init_256 rfl ?_
  refine v_iconst X (v := 4) d_Model_init_257 rfl ?_
  refine v_icmp_ge X 275 d_Model_init_258 (by decide) (fun _ => ?_) (fun c => absurd (by decide) c)
  refine p_ret X B E d_Model_init_275 rfl (by omega) (by omega) ?_
  refine ⟨fun k i h0 => ?_, fun k h1 h2 => ?_, fun h hh => ?_, fun f hf => ?_, fun h hh => ?_, ?_, ?_, ?_, ?_, ?_, ?_, ?_, ?_, ?_, ?_, ?_, ?_, ?_⟩
  · simp only [k_set_up, k_up_of]
    repeat rw [if_neg (by omega)]
  · by_cases h24 : k = 24
    · subst h24
      exact okc_24 (by simp [k_set_of, k_up_of, hz]) (by simp [k_set_of, k_up_of, hz]) (by simp [k_set_of, k_up_of, hz]) (by simp [k_set_of, k_up_of, hz]) (by simp [k_set_of, k_up_of, hz]) (by simp [k_set_of, k_up_of, hz]) (by simp [k_set_of, k_up_of, hz]) (by simp [k_set_of, k_up_of, hz]) (by simp [k_set_of, k_up_of, hz]) (by simp [k_set_of, k_up_of, hz]) (by simp [k_set_of, k_up_of, hz]) (by simp [k_set_of, k_up_of, hz]) (by simp [k_set_of, k_up_of, hz]) (by simp [k_set_of, k_up_of, hz]) (by simp [k_set_of, k_up_of, hz]) (by simp [k_set_of, k_up_of, hz]) (by simp [k_set_of, k_up_of, hz]) (by simp [k_set_of, k_up_of, hz]) (by simp [k_set_of, k_up_of, hz]) (by simp [k_set_of, k_up_of, hz]) (by simp [k_set_of, k_up_of, hz]) (by simp [k_set_of, k_up_of, hz]) (by simp [k_set_of, k_up_of, hz]) (by simp [k_set_of, k_up_of, hz]) (by simp [k_set_of, k_up_of, hz]) (by simp [k_set_of, k_up_of, hz]) (by simp [k_set_of, k_up_of, hz]) (by simp [k_set_of, k_up_of, hz]) (by simp [k_set_of, k_up_of, hz]) (by simp [k_set_of, k_up_of, hz]) (by simp [k_set_of, k_up_of, hz])
    · have hc : ∀ k, 25 ≤ k → k < 56 → ∀ s : k_S, okc s k 0 := by
        intro k h1 h2 s
        rcases (show k = 25 ∨ k = 26 ∨ k = 27 ∨ k = 28 ∨ k = 29 ∨ k = 30 ∨ k = 31 ∨ k = 32 ∨ k = 33 ∨ k = 34 ∨ k = 35 ∨ k = 36 ∨ k = 37 ∨ k = 38 ∨ k = 39 ∨ k = 40 ∨ k = 41 ∨ k = 42 ∨ k = 43 ∨ k = 44 ∨ k = 45 ∨ k = 46 ∨ k = 47 ∨ k = 48 ∨ k = 49 ∨ k = 50 ∨ k = 51 ∨ k = 52 ∨ k = 53 ∨ k = 54 ∨ k = 55 by omega) with rfl | rfl | rfl | rfl | rfl | rfl | rfl | rfl | rfl | rfl | rfl | rfl | rfl | rfl | rfl | rfl | rfl | rfl | rfl | rfl | rfl | rfl | rfl | rfl | rfl | rfl | rfl | rfl | rfl | rfl | rfl <;> exact fun ca z => rfl
      exact hc k (by omega) h2 _
  · simp [k_set_of, k_up_of, hz]
  · simp [k_set_of, k_up_of, hz]
  · simp [k_set_of, k_up_of, hz]
  · simp [k_set_of, k_up_of, hz]
  · simp [k_set_of, k_up_of, hz]
  · simp [k_set_of, k_up_of, hz]
  · simp [k_set_of, k_up_of, hz]
  · simp [k_set_of, k_up_of, hz]
  · simp [k_set_of, k_up_of, hz]
  · simp [k_set_of, k_up_of, hz]
  · simp [k_set_of, k_up_of, hz]
  · simp [k_set_of, k_up_of, hz]
  · simp [k_set_of, k_up_of, hz]
  · simp [k_set_of, k_up_of, hz]
  · simp [k_set_of, k_up_of, hz]
  · simp [k_set_of, k_up_of, hz]
