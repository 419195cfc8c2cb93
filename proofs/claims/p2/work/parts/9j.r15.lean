set_option maxRecDepth 100000 in
set_option maxHeartbeats 4000000 in
theorem k_macroLine {kn : Nat → Nat} {B : Nat} {S : b_M} {z x : Nat} {hl : Int} {at_ : Int} {ls : Int} {bd : Int} {fs : Int} {mc : Int} {bo : Int} {er : Int} {ln : Int} (h : mS S x) (e_at_ : m_I S 1108 x = iI at_) (b_at_ : -2147483648 ≤ at_ ∧ at_ < 2147483648) (e_ls : m_I S 1107 x = iI ls) (b_ls : -2147483648 ≤ ls ∧ ls < 2147483648) (e_bd : m_I S 1110 x = iI bd) (b_bd : -2147483648 ≤ bd ∧ bd < 2147483648) (e_fs : m_I S 1120 x = iI fs) (b_fs : -2147483648 ≤ fs ∧ fs < 2147483648) (e_mc : m_I S 1112 x = iI mc) (b_mc : -2147483648 ≤ mc ∧ mc < 2147483648) (e_bo : m_I S 1113 x = iI bo) (b_bo : -2147483648 ≤ bo ∧ bo < 2147483648) (e_er : m_I S 1153 x = iI er) (b_er : -2147483648 ≤ er ∧ er < 2147483648) (e_ln : m_I S 1109 x = iI ln) (b_ln : -2147483648 ≤ ln ∧ ln < 2147483648) (b_hl : -2147483648 ≤ hl ∧ hl < 2147483648) (mk_ : mOk S x mc bo) (p : 0 ≤ at_ ∧ ls ≤ 8400 ∧ (bd = 0 ∨ bd = 1) ∧ at_ ≤ 8400 ∧ 0 ≤ er ∧ er ≤ 50) : b_C kn B yX13_macroLine cX13_macroLine 5 none 5 105 0 0 [.ref x, .int (iI hl)] S z (fun r S' z' => z = z' ∧ mFr [1108, 1110, 1154, 1153, 1169, 1112, 1168, 1170] [] [36, 37, 6, 7, 8] S S' x ∧ ∃ m1 r1 b1 : Int, r = none ∧ m_I S' 1112 x = iI m1 ∧ (-2147483648 ≤ m1 ∧ m1 < 2147483648) ∧ m_I S' 1153 x = iI r1 ∧ (-2147483648 ≤ r1 ∧ r1 < 2147483648) ∧ m_I S' 1110 x = iI b1 ∧ (-2147483648 ≤ b1 ∧ b1 < 2147483648) ∧ (er ≤ r1 ∧ r1 ≤ 50 ∧ (m1 = mc ∨ m1 = mc + 1) ∧ m1 ≤ 12 ∧ (b1 = 0 ∨ b1 = 1)) ∧ (mOk S' x m1 bo)) (fun _ _ _ => False) := by
  refine b_enter (by decide) (Nat.le_of_ble_eq_true rfl) ?_
  intro X hX hE hnL hkn hB hI_
  subst hkn; subst hB
  clear hI_
  have L136 : ∀ (S136c : b_M) (a0 : Int) (b0 : Int) (m0 : Int) (r2 : Int) (bb : Int), mFr [1108, 1110, 1154, 1153, 1169, 1112, 1168, 1170] [] [36, 37, 6, 7, 8] S S136c x → m_I S136c 1108 x = iI a0 → m_I S136c 1110 x = iI b0 → m_I S136c 1112 x = iI m0 → m_I S136c 1153 x = iI r2 → (-2147483648 ≤ a0 ∧ a0 < 2147483648) → (-2147483648 ≤ b0 ∧ b0 < 2147483648) → (-2147483648 ≤ m0 ∧ m0 < 2147483648) → (-2147483648 ≤ r2 ∧ r2 < 2147483648) → ((bb = 0 ∨ bb = 1) ∧ (b0 = 0 ∨ b0 = 1) ∧ m0 = mc ∧ er ≤ r2 ∧ r2 ≤ 50 ∧ mc ≤ 12 ∧ 0 ≤ mc ∧ 0 ≤ bo ∧ bo ≤ 4200) → (∀ i, rAt S136c (x + 7) i = rAt S (x + 7) i) → (∀ i, rAt S136c (x + 8) i = rAt S (x + 8) i) → b_V X S136c z 0 0 136 [(0, .ref x)] [.int (iI bb), .ref x] := by
    intro S136c a0 b0 m0 r2 bb fr136 e_a0 e_b0 e_m0 e_r2 b_a0 b_b0 b_m0 b_r2 p136_0 p136_1 p136_2
    have h136c : mS S136c x := fr136.keep h
    have hc136_5 : ∀ i, rAt S136c (x + 5) i = rAt S (x + 5) i := fun i => (fr136.1 (x + 5) (by omega) (by intro j hj; simp only [List.mem_cons, List.not_mem_nil, or_false] at hj; omega)).rA i
    have e136_ls : m_I S136c 1107 x = iI ls := (fr136.2.2.2.1 1107 (by decide)).trans e_ls
    have e136_fs : m_I S136c 1120 x = iI fs := (fr136.2.2.2.1 1120 (by decide)).trans e_fs
    have e136_bo : m_I S136c 1113 x = iI bo := (fr136.2.2.2.1 1113 (by decide)).trans e_bo
    have e136_ln : m_I S136c 1109 x = iI ln := (fr136.2.2.2.1 1109 (by decide)).trans e_ln
    refine v_putI hX (ci := 11) (k := 69) (f := 1169) (ms_kx h136c) bc_11 (by decide) (by decide) in_11 tyX13_ok nmX13 w_6_45 (Or.inl rfl) (nar_b (by omega)) (fit_b (by omega)) dX13_macroLine_136 rfl rfl ?_
    have mk9 : mOk (s_I S136c 1169 x (iI bb)) x m0 bo := by
      refine ⟨⟨by omega, by omega, by omega, by omega⟩, fun m a b => ?_⟩
      simp (disch := omega) only [zr_I, zr_J, zr_B, rA_A, zl_I, zl_J, zl_A, lA_B, hc136_5, p136_1, p136_2]
      exact mk_.2 m a (by omega)
    exact v_return hX hE dX13_macroLine_139 (by omega) (by omega) ⟨rfl, (fr136.sI (by decide)), m0, r2, b0, rfl, (by simp (disch := omega) only [y_I_s_I, x_I_s_I, z_I_s_J, z_I_s_A, z_I_s_B, e136_ls, e136_fs, e136_bo, e136_ln, e_a0, e_b0, e_m0, e_r2]), ⟨by omega, by omega⟩, (by simp (disch := omega) only [y_I_s_I, x_I_s_I, z_I_s_J, z_I_s_A, z_I_s_B, e136_ls, e136_fs, e136_bo, e136_ln, e_a0, e_b0, e_m0, e_r2]), ⟨by omega, by omega⟩, (by simp (disch := omega) only [y_I_s_I, x_I_s_I, z_I_s_J, z_I_s_A, z_I_s_B, e136_ls, e136_fs, e136_bo, e136_ln, e_a0, e_b0, e_m0, e_r2]), ⟨by omega, by omega⟩, (by omega), mk9⟩
  have L106 : ∀ (S106c : b_M) (a0 : Int) (b0 : Int) (m0 : Int) (r0 : Int) (w : Int) (t : Int), mFr [1108, 1110, 1154, 1153, 1169, 1112, 1168, 1170] [] [36, 37, 6, 7, 8] S S106c x → m_I S106c 1108 x = iI a0 → m_I S106c 1110 x = iI b0 → m_I S106c 1112 x = iI m0 → m_I S106c 1153 x = iI r0 → (-2147483648 ≤ a0 ∧ a0 < 2147483648) → (-2147483648 ≤ b0 ∧ b0 < 2147483648) → (-2147483648 ≤ m0 ∧ m0 < 2147483648) → (-2147483648 ≤ r0 ∧ r0 < 2147483648) → ((b0 = 0 ∨ b0 = 1) ∧ m0 = mc ∧ r0 = er ∧ 0 ≤ t ∧ t ≤ 6 ∧ (t = 0 → mc ≠ 12) ∧ 0 ≤ w ∧ w < 1152921504606846976) → (∀ i, rAt S106c (x + 7) i = rAt S (x + 7) i) → (∀ i, rAt S106c (x + 8) i = rAt S (x + 8) i) → b_V X S106c z 0 0 106 [(2, .long (jJ w)), (0, .ref x), (1, .int (iI hl))] [.int (iI t)] := by
    intro S106c a0 b0 m0 r0 w t fr106 e_a0 e_b0 e_m0 e_r0 b_a0 b_b0 b_m0 b_r0 p106_0 p106_1 p106_2
    have h106c : mS S106c x := fr106.keep h
    have hc106_5 : ∀ i, rAt S106c (x + 5) i = rAt S (x + 5) i := fun i => (fr106.1 (x + 5) (by omega) (by intro j hj; simp only [List.mem_cons, List.not_mem_nil, or_false] at hj; omega)).rA i
    have e106_ls : m_I S106c 1107 x = iI ls := (fr106.2.2.2.1 1107 (by decide)).trans e_ls
    have e106_fs : m_I S106c 1120 x = iI fs := (fr106.2.2.2.1 1120 (by decide)).trans e_fs
    have e106_bo : m_I S106c 1113 x = iI bo := (fr106.2.2.2.1 1113 (by decide)).trans e_bo
    have e106_ln : m_I S106c 1109 x = iI ln := (fr106.2.2.2.1 1109 (by decide)).trans e_ln
    refine v_istore hX (lv' := [(4, .int (iI t)), (2, .long (jJ w)), (0, .ref x), (1, .int (iI hl))]) dX13_macroLine_106 (by rw [hnL]; decide) rfl ?_
    have mk1_ := mk_.1
    refine v_iload hX dX13_macroLine_108 rfl ?_
    refine u_if_le hX (tgt := 140) dX13_macroLine_110 (by decide) ⟨by omega, by omega⟩ (fun h1_ => ?_) (fun h1_ => ?_)
    ·
      refine v_aload_n hX dX13_macroLine_140 (i := 0) rfl rfl ?_
      refine v_get hX (ci := 11) (k := 15) (ms_kx h106c) bc_11 (by decide) (by decide) in_11 w_5_231 dX13_macroLine_141 (mvP (f := 1115) (q := (x + 6)) rfl rfl (ms_p_1115 h106c)) ?_
      refine v_aload_n hX dX13_macroLine_144 (i := 0) rfl rfl ?_
      refine v_get hX (ci := 11) (k := 12) (ms_kx h106c) bc_11 (by decide) (by decide) in_11 w_5_228 dX13_macroLine_145 (mvF (f := 1112) (v := iI m0) rfl rfl (by simp (disch := omega) only [y_I_s_I, x_I_s_I, z_I_s_J, z_I_s_A, z_I_s_B, e106_ls, e106_fs, e106_bo, e106_ln, e_a0, e_b0, e_m0, e_r0])) ?_
      refine v_lload_n hX dX13_macroLine_148 (i := 2) rfl rfl ?_
      refine u_last hX (L := 12) (ms_k_1115 h106c) (ms_l_1115 h106c) ⟨by omega, by omega⟩ (by decide) dX13_macroLine_149 ?_
      refine v_aload_n hX dX13_macroLine_150 (i := 0) rfl rfl ?_
      refine v_get hX (ci := 11) (k := 16) (ms_kx (mS.sB h106c)) bc_11 (by decide) (by decide) in_11 w_5_232 dX13_macroLine_151 (mvP (f := 1116) (q := (x + 7)) rfl rfl (ms_p_1116 (mS.sB h106c))) ?_
      refine v_aload_n hX dX13_macroLine_154 (i := 0) rfl rfl ?_
      refine v_get hX (ci := 11) (k := 12) (ms_kx (mS.sB h106c)) bc_11 (by decide) (by decide) in_11 w_5_228 dX13_macroLine_155 (mvF (f := 1112) (v := iI m0) rfl rfl (by simp (disch := omega) only [y_I_s_I, x_I_s_I, z_I_s_J, z_I_s_A, z_I_s_B, e106_ls, e106_fs, e106_bo, e106_ln, e_a0, e_b0, e_m0, e_r0])) ?_
      refine v_aload_n hX dX13_macroLine_158 (i := 0) rfl rfl ?_
      refine v_get hX (ci := 11) (k := 13) (ms_kx (mS.sB h106c)) bc_11 (by decide) (by decide) in_11 w_5_229 dX13_macroLine_159 (mvF (f := 1113) (v := iI bo) rfl rfl (by simp (disch := omega) only [y_I_s_I, x_I_s_I, z_I_s_J, z_I_s_A, z_I_s_B, e106_ls, e106_fs, e106_bo, e106_ln, e_a0, e_b0, e_m0, e_r0])) ?_
      refine u_iast hX (L := 12) (ms_k_1116 (mS.sB h106c)) (ms_l_1116 (mS.sB h106c)) ⟨by omega, by omega⟩ (by decide) dX13_macroLine_162 ?_
      refine v_aload_n hX dX13_macroLine_163 (i := 0) rfl rfl ?_
      refine v_get hX (ci := 11) (k := 17) (ms_kx (mS.sA (mS.sB h106c))) bc_11 (by decide) (by decide) in_11 w_5_233 dX13_macroLine_164 (mvP (f := 1117) (q := (x + 8)) rfl rfl (ms_p_1117 (mS.sA (mS.sB h106c)))) ?_
      refine v_aload_n hX dX13_macroLine_167 (i := 0) rfl rfl ?_
      refine v_get hX (ci := 11) (k := 12) (ms_kx (mS.sA (mS.sB h106c))) bc_11 (by decide) (by decide) in_11 w_5_228 dX13_macroLine_168 (mvF (f := 1112) (v := iI m0) rfl rfl (by simp (disch := omega) only [y_I_s_I, x_I_s_I, z_I_s_J, z_I_s_A, z_I_s_B, e106_ls, e106_fs, e106_bo, e106_ln, e_a0, e_b0, e_m0, e_r0])) ?_
      refine v_iconst hX (v := iI 0) dX13_macroLine_171 rfl ?_
      refine u_iast hX (L := 12) (ms_k_1117 (mS.sA (mS.sB h106c))) (ms_l_1117 (mS.sA (mS.sB h106c))) ⟨by omega, by omega⟩ (by decide) dX13_macroLine_172 ?_
      refine v_aload_n hX dX13_macroLine_173 (i := 0) rfl rfl ?_
      refine v_dup hX dX13_macroLine_174 rfl ?_
      refine v_get hX (ci := 11) (k := 12) (ms_kx (mS.sA (mS.sA (mS.sB h106c)))) bc_11 (by decide) (by decide) in_11 w_5_228 dX13_macroLine_175 (mvF (f := 1112) (v := iI m0) rfl rfl (by simp (disch := omega) only [y_I_s_I, x_I_s_I, z_I_s_J, z_I_s_A, z_I_s_B, e106_ls, e106_fs, e106_bo, e106_ln, e_a0, e_b0, e_m0, e_r0])) ?_
      refine v_iconst hX (v := iI 1) dX13_macroLine_178 rfl ?_
      refine u_iadd hX dX13_macroLine_179 ?_
      refine v_putI hX (ci := 11) (k := 12) (f := 1112) (ms_kx (mS.sA (mS.sA (mS.sB h106c)))) bc_11 (by decide) (by decide) in_11 tyX13_ok nmX13 w_5_228 (Or.inl rfl) rfl rfl dX13_macroLine_180 rfl rfl ?_
      refine v_aload_n hX dX13_macroLine_183 (i := 0) rfl rfl ?_
      refine v_iconst hX (v := iI 1) dX13_macroLine_184 rfl ?_
      refine v_putI hX (ci := 11) (k := 68) (f := 1168) (ms_kx (mS.sI (mS.sA (mS.sA (mS.sB h106c))))) bc_11 (by decide) (by decide) in_11 tyX13_ok nmX13 w_6_44 (Or.inl rfl) (nar_b (by omega)) (fit_b (by omega)) dX13_macroLine_185 rfl rfl ?_
      refine v_aload_n hX dX13_macroLine_188 (i := 0) rfl rfl ?_
      refine v_aload_n hX dX13_macroLine_189 (i := 0) rfl rfl ?_
      refine v_get hX (ci := 11) (k := 9) (ms_kx (mS.sI (mS.sI (mS.sA (mS.sA (mS.sB h106c)))))) bc_11 (by decide) (by decide) in_11 w_5_225 dX13_macroLine_190 (mvF (f := 1109) (v := iI ln) rfl rfl (by simp (disch := omega) only [y_I_s_I, x_I_s_I, z_I_s_J, z_I_s_A, z_I_s_B, e106_ls, e106_fs, e106_bo, e106_ln, e_a0, e_b0, e_m0, e_r0])) ?_
      refine v_putI hX (ci := 11) (k := 70) (f := 1170) (ms_kx (mS.sI (mS.sI (mS.sA (mS.sA (mS.sB h106c)))))) bc_11 (by decide) (by decide) in_11 tyX13_ok nmX13 w_6_46 (Or.inl rfl) rfl rfl dX13_macroLine_193 rfl rfl ?_
      have mk9 : mOk (s_I (s_I (s_I (s_A (s_A (s_B S106c (x + 6) m0.toNat (jJ w)) (x + 7) m0.toNat (iI bo)) (x + 8) m0.toNat (iI 0)) 1112 x (iI (m0 + 1))) 1168 x (iI 1)) 1170 x (iI ln)) x (m0 + 1) bo := by
        refine ⟨⟨by omega, by omega, by omega, by omega⟩, fun m a b => ?_⟩
        by_cases g : m = m0
        · simp (disch := omega) only [zr_I, zr_J, zr_B, rA_A, zl_I, zl_J, zl_A, lA_B, rA_y]; omega
        · simp (disch := omega) only [zr_I, zr_J, zr_B, rA_A, zl_I, zl_J, zl_A, lA_B, hc106_5, p106_1, p106_2, rA_x]; exact mk_.2 m a (by omega)
      exact v_return hX hE dX13_macroLine_196 (by omega) (by omega) ⟨rfl, ((((((fr106.sB (by decide)).sA (by decide)).sA (by decide)).sI (by decide)).sI (by decide)).sI (by decide)), (m0 + 1), r0, b0, rfl, (by simp (disch := omega) only [y_I_s_I, x_I_s_I, z_I_s_J, z_I_s_A, z_I_s_B, e106_ls, e106_fs, e106_bo, e106_ln, e_a0, e_b0, e_m0, e_r0]), ⟨by omega, by omega⟩, (by simp (disch := omega) only [y_I_s_I, x_I_s_I, z_I_s_J, z_I_s_A, z_I_s_B, e106_ls, e106_fs, e106_bo, e106_ln, e_a0, e_b0, e_m0, e_r0]), ⟨by omega, by omega⟩, (by simp (disch := omega) only [y_I_s_I, x_I_s_I, z_I_s_J, z_I_s_A, z_I_s_B, e106_ls, e106_fs, e106_bo, e106_ln, e_a0, e_b0, e_m0, e_r0]), ⟨by omega, by omega⟩, (by omega), mk9⟩
    ·
      refine v_aload_n hX dX13_macroLine_113 (i := 0) rfl rfl ?_
      refine v_iload hX dX13_macroLine_114 rfl ?_
      refine v_aload_n hX dX13_macroLine_116 (i := 0) rfl rfl ?_
      refine v_get hX (ci := 11) (k := 9) (ms_kx h106c) bc_11 (by decide) (by decide) in_11 w_5_225 dX13_macroLine_117 (mvF (f := 1109) (v := iI ln) rfl rfl (by simp (disch := omega) only [y_I_s_I, x_I_s_I, z_I_s_J, z_I_s_A, z_I_s_B, e106_ls, e106_fs, e106_bo, e106_ln, e_a0, e_b0, e_m0, e_r0])) ?_
      refine v_callV hX (n := 2) (k_wrong (S := S106c) (x := x) (what := t) (where_ := ln) (er := r0) h106c (by simp (disch := omega) only [y_I_s_I, x_I_s_I, z_I_s_J, z_I_s_A, z_I_s_B, e106_ls, e106_fs, e106_bo, e106_ln, e_a0, e_b0, e_m0, e_r0]) ⟨by omega, by omega⟩ ⟨by omega, by omega⟩ ⟨by omega, by omega⟩ (by omega)) (ms_kx h106c) bc_11 (by decide) w_7_21 w_7_23 (bw_p (q := (yX13_wrong, 72)) (List.mem_of_getElem? (i := 49) rfl) rfl) w_1_16 w_7_24 (by decide +kernel) rfl ⟨by decide, by decide⟩ ⟨by omega, by omega⟩ (Nat.le_of_ble_eq_true rfl) rfl dX13_macroLine_120 (fun _ _ _ q => q) ?_
      rintro r2_ S2_ z2_ ⟨rfl, f2_, v3_, v4_, rfl, e_v3_, b_v3_, e_v4_, b_v4_, q2_⟩
      have e2_1107 : m_I S2_ 1107 x = iI ls := (f2_.2.2.2.1 1107 (by decide)).trans (by simp (disch := omega) only [y_I_s_I, x_I_s_I, z_I_s_J, z_I_s_A, z_I_s_B, e106_ls, e106_fs, e106_bo, e106_ln, e_a0, e_b0, e_m0, e_r0])
      have e2_1120 : m_I S2_ 1120 x = iI fs := (f2_.2.2.2.1 1120 (by decide)).trans (by simp (disch := omega) only [y_I_s_I, x_I_s_I, z_I_s_J, z_I_s_A, z_I_s_B, e106_ls, e106_fs, e106_bo, e106_ln, e_a0, e_b0, e_m0, e_r0])
      have e2_1113 : m_I S2_ 1113 x = iI bo := (f2_.2.2.2.1 1113 (by decide)).trans (by simp (disch := omega) only [y_I_s_I, x_I_s_I, z_I_s_J, z_I_s_A, z_I_s_B, e106_ls, e106_fs, e106_bo, e106_ln, e_a0, e_b0, e_m0, e_r0])
      have e2_1109 : m_I S2_ 1109 x = iI ln := (f2_.2.2.2.1 1109 (by decide)).trans (by simp (disch := omega) only [y_I_s_I, x_I_s_I, z_I_s_J, z_I_s_A, z_I_s_B, e106_ls, e106_fs, e106_bo, e106_ln, e_a0, e_b0, e_m0, e_r0])
      have e2_1108 : m_I S2_ 1108 x = iI a0 := (f2_.2.2.2.1 1108 (by decide)).trans (by simp (disch := omega) only [y_I_s_I, x_I_s_I, z_I_s_J, z_I_s_A, z_I_s_B, e106_ls, e106_fs, e106_bo, e106_ln, e_a0, e_b0, e_m0, e_r0])
      have e2_1110 : m_I S2_ 1110 x = iI b0 := (f2_.2.2.2.1 1110 (by decide)).trans (by simp (disch := omega) only [y_I_s_I, x_I_s_I, z_I_s_J, z_I_s_A, z_I_s_B, e106_ls, e106_fs, e106_bo, e106_ln, e_a0, e_b0, e_m0, e_r0])
      have e2_1112 : m_I S2_ 1112 x = iI m0 := (f2_.2.2.2.1 1112 (by decide)).trans (by simp (disch := omega) only [y_I_s_I, x_I_s_I, z_I_s_J, z_I_s_A, z_I_s_B, e106_ls, e106_fs, e106_bo, e106_ln, e_a0, e_b0, e_m0, e_r0])
      have h2_ : mS S2_ x := f2_.keep h106c
      have hc2_5 : ∀ i, rAt S2_ (x + 5) i = rAt S (x + 5) i := fun i => ((f2_.1 (x + 5) (by omega) (by intro j hj; simp only [List.mem_cons, List.not_mem_nil, or_false] at hj; omega)).rA i).trans (hc106_5 i)
      have hc2_7 : ∀ i, rAt S2_ (x + 7) i = rAt S106c (x + 7) i := fun i => ((f2_.1 (x + 7) (by omega) (by intro j hj; simp only [List.mem_cons, List.not_mem_nil, or_false] at hj; omega)).rA i).trans rfl
      have hc2_8 : ∀ i, rAt S2_ (x + 8) i = rAt S106c (x + 8) i := fun i => ((f2_.1 (x + 8) (by omega) (by intro j hj; simp only [List.mem_cons, List.not_mem_nil, or_false] at hj; omega)).rA i).trans rfl
      refine v_aload_n hX dX13_macroLine_123 (i := 0) rfl rfl ?_
      refine v_aload_n hX dX13_macroLine_124 (i := 0) rfl rfl ?_
      refine v_get hX (ci := 11) (k := 20) (ms_kx h2_) bc_11 (by decide) (by decide) in_11 w_5_236 dX13_macroLine_125 (mvF (f := 1120) (v := iI fs) rfl rfl (by simp (disch := omega) only [y_I_s_I, x_I_s_I, z_I_s_J, z_I_s_A, z_I_s_B, e2_1107, e2_1120, e2_1113, e2_1109, e2_1108, e2_1110, e2_1112, e_v3_, e_v4_])) ?_
      refine u_if_ne hX (tgt := 135) dX13_macroLine_128 (by decide) ⟨by omega, by omega⟩ (fun h5_ => ?_) (fun h5_ => ?_)
      ·
        refine v_iconst hX (v := iI 0) dX13_macroLine_135 rfl ?_
        refine v_locals (lv' := [(0, .ref x)]) (by simp) ?_
        exact L136 _ a0 b0 m0 v3_ 0 (fr106.tr (f2_.mono (by decide) (by decide) (by decide))) (by simp (disch := omega) only [y_I_s_I, x_I_s_I, z_I_s_J, z_I_s_A, z_I_s_B, e2_1107, e2_1120, e2_1113, e2_1109, e2_1108, e2_1110, e2_1112, e_v3_, e_v4_]) (by simp (disch := omega) only [y_I_s_I, x_I_s_I, z_I_s_J, z_I_s_A, z_I_s_B, e2_1107, e2_1120, e2_1113, e2_1109, e2_1108, e2_1110, e2_1112, e_v3_, e_v4_]) (by simp (disch := omega) only [y_I_s_I, x_I_s_I, z_I_s_J, z_I_s_A, z_I_s_B, e2_1107, e2_1120, e2_1113, e2_1109, e2_1108, e2_1110, e2_1112, e_v3_, e_v4_]) (by simp (disch := omega) only [y_I_s_I, x_I_s_I, z_I_s_J, z_I_s_A, z_I_s_B, e2_1107, e2_1120, e2_1113, e2_1109, e2_1108, e2_1110, e2_1112, e_v3_, e_v4_]) ⟨by omega, by omega⟩ ⟨by omega, by omega⟩ ⟨by omega, by omega⟩ ⟨by omega, by omega⟩ (by omega) (fun i => by simp (disch := omega) only [zr_I, zr_J, zr_B, rA_A, zl_I, zl_J, zl_A, lA_B, hc2_5, hc2_7, hc2_8, p106_1]) (fun i => by simp (disch := omega) only [zr_I, zr_J, zr_B, rA_A, zl_I, zl_J, zl_A, lA_B, hc2_5, hc2_7, hc2_8, p106_2])
      ·
        refine v_iconst hX (v := iI 1) dX13_macroLine_131 rfl ?_
        refine v_goto hX (tgt := 136) dX13_macroLine_132 (by decide) ?_
        refine v_locals (lv' := [(0, .ref x)]) (by simp) ?_
        exact L136 _ a0 b0 m0 v3_ 1 (fr106.tr (f2_.mono (by decide) (by decide) (by decide))) (by simp (disch := omega) only [y_I_s_I, x_I_s_I, z_I_s_J, z_I_s_A, z_I_s_B, e2_1107, e2_1120, e2_1113, e2_1109, e2_1108, e2_1110, e2_1112, e_v3_, e_v4_]) (by simp (disch := omega) only [y_I_s_I, x_I_s_I, z_I_s_J, z_I_s_A, z_I_s_B, e2_1107, e2_1120, e2_1113, e2_1109, e2_1108, e2_1110, e2_1112, e_v3_, e_v4_]) (by simp (disch := omega) only [y_I_s_I, x_I_s_I, z_I_s_J, z_I_s_A, z_I_s_B, e2_1107, e2_1120, e2_1113, e2_1109, e2_1108, e2_1110, e2_1112, e_v3_, e_v4_]) (by simp (disch := omega) only [y_I_s_I, x_I_s_I, z_I_s_J, z_I_s_A, z_I_s_B, e2_1107, e2_1120, e2_1113, e2_1109, e2_1108, e2_1110, e2_1112, e_v3_, e_v4_]) ⟨by omega, by omega⟩ ⟨by omega, by omega⟩ ⟨by omega, by omega⟩ ⟨by omega, by omega⟩ (by omega) (fun i => by simp (disch := omega) only [zr_I, zr_J, zr_B, rA_A, zl_I, zl_J, zl_A, lA_B, hc2_5, hc2_7, hc2_8, p106_1]) (fun i => by simp (disch := omega) only [zr_I, zr_J, zr_B, rA_A, zl_I, zl_J, zl_A, lA_B, hc2_5, hc2_7, hc2_8, p106_2])
  have L57 : ∀ (S57c : b_M) (a0 : Int) (m0 : Int) (r0 : Int) (w : Int) (bb : Int), mFr [1108, 1110, 1154, 1153, 1169, 1112, 1168, 1170] [] [36, 37, 6, 7, 8] S S57c x → m_I S57c 1108 x = iI a0 → m_I S57c 1112 x = iI m0 → m_I S57c 1153 x = iI r0 → (-2147483648 ≤ a0 ∧ a0 < 2147483648) → (-2147483648 ≤ m0 ∧ m0 < 2147483648) → (-2147483648 ≤ r0 ∧ r0 < 2147483648) → (m0 = mc ∧ r0 = er ∧ (bb = 0 ∨ bb = 1) ∧ 0 ≤ w ∧ w < 1152921504606846976) → (∀ i, rAt S57c (x + 7) i = rAt S (x + 7) i) → (∀ i, rAt S57c (x + 8) i = rAt S (x + 8) i) → b_V X S57c z 0 0 57 [(2, .long (jJ w)), (0, .ref x), (1, .int (iI hl))] [.int (iI bb), .ref x] := by
    intro S57c a0 m0 r0 w bb fr57 e_a0 e_m0 e_r0 b_a0 b_m0 b_r0 p57_0 p57_1 p57_2
    have h57c : mS S57c x := fr57.keep h
    have hc57_5 : ∀ i, rAt S57c (x + 5) i = rAt S (x + 5) i := fun i => (fr57.1 (x + 5) (by omega) (by intro j hj; simp only [List.mem_cons, List.not_mem_nil, or_false] at hj; omega)).rA i
    have e57_ls : m_I S57c 1107 x = iI ls := (fr57.2.2.2.1 1107 (by decide)).trans e_ls
    have e57_fs : m_I S57c 1120 x = iI fs := (fr57.2.2.2.1 1120 (by decide)).trans e_fs
    have e57_bo : m_I S57c 1113 x = iI bo := (fr57.2.2.2.1 1113 (by decide)).trans e_bo
    have e57_ln : m_I S57c 1109 x = iI ln := (fr57.2.2.2.1 1109 (by decide)).trans e_ln
    refine v_putI hX (ci := 11) (k := 10) (f := 1110) (ms_kx h57c) bc_11 (by decide) (by decide) in_11 tyX13_ok nmX13 w_5_226 (Or.inl rfl) (nar_b (by omega)) (fit_b (by omega)) dX13_macroLine_57 rfl rfl ?_
    have mk1_ := mk_.1
    refine v_aload_n hX dX13_macroLine_60 (i := 0) rfl rfl ?_
    refine v_get hX (ci := 11) (k := 10) (ms_kx (mS.sI h57c)) bc_11 (by decide) (by decide) in_11 w_5_226 dX13_macroLine_61 (mvF (f := 1110) (v := iI bb) rfl rfl (by simp (disch := omega) only [y_I_s_I, x_I_s_I, z_I_s_J, z_I_s_A, z_I_s_B, e57_ls, e57_fs, e57_bo, e57_ln, e_a0, e_m0, e_r0])) ?_
    refine u_if_eq hX (tgt := 71) dX13_macroLine_64 (by decide) ⟨by omega, by omega⟩ (fun h6_ => ?_) (fun h6_ => ?_)
    ·
      refine v_aload_n hX dX13_macroLine_71 (i := 0) rfl rfl ?_
      refine v_lload_n hX dX13_macroLine_72 (i := 2) rfl rfl ?_
      refine v_callV hX (n := 1) (k_findMacro2 (S := (s_I S57c 1110 x (iI bb))) (x := x) (v := w) (mc_ := m0) (mS.sI h57c) (by simp (disch := omega) only [y_I_s_I, x_I_s_I, z_I_s_J, z_I_s_A, z_I_s_B, e57_ls, e57_fs, e57_bo, e57_ln, e_a0, e_m0, e_r0]) ⟨by omega, by omega⟩ ⟨by omega, by omega⟩ (by omega)) (ms_kx (mS.sI h57c)) bc_11 (by decide) w_7_54 w_7_56 (bw_p (q := (yX13_findMacro, 72)) (List.mem_of_getElem? (i := 55) rfl) rfl) w_1_16 w_7_57 (by decide +kernel) rfl ⟨by decide, by decide⟩ ⟨by omega, by omega⟩ (Nat.le_of_ble_eq_true rfl) rfl dX13_macroLine_73 (fun _ _ _ q => q) ?_
      rintro r7_ S7_ z7_ ⟨rfl, rfl, v8_, rfl, b_v8_, q7_, q7_0, q7_1⟩
      try simp (disch := omega) only [zr_I, zr_J, zr_B, rA_A, zl_I, zl_J, zl_A, lA_B, hc57_5] at q7_0
      try simp (disch := omega) only [zr_I, zr_J, zr_B, rA_A, zl_I, zl_J, zl_A, lA_B, hc57_5] at q7_1
      refine u_if_ge hX (tgt := 87) dX13_macroLine_76 (by decide) ⟨by omega, by omega⟩ (fun h9_ => ?_) (fun h9_ => ?_)
      ·
        refine v_iconst hX (v := iI 3) dX13_macroLine_87 rfl ?_
        refine v_goto hX (tgt := 106) dX13_macroLine_88 (by decide) ?_
        exact L106 _ a0 bb m0 r0 w 3 (fr57.sI (by decide)) (by simp (disch := omega) only [y_I_s_I, x_I_s_I, z_I_s_J, z_I_s_A, z_I_s_B, e57_ls, e57_fs, e57_bo, e57_ln, e_a0, e_m0, e_r0]) (by simp (disch := omega) only [y_I_s_I, x_I_s_I, z_I_s_J, z_I_s_A, z_I_s_B, e57_ls, e57_fs, e57_bo, e57_ln, e_a0, e_m0, e_r0]) (by simp (disch := omega) only [y_I_s_I, x_I_s_I, z_I_s_J, z_I_s_A, z_I_s_B, e57_ls, e57_fs, e57_bo, e57_ln, e_a0, e_m0, e_r0]) (by simp (disch := omega) only [y_I_s_I, x_I_s_I, z_I_s_J, z_I_s_A, z_I_s_B, e57_ls, e57_fs, e57_bo, e57_ln, e_a0, e_m0, e_r0]) ⟨by omega, by omega⟩ ⟨by omega, by omega⟩ ⟨by omega, by omega⟩ ⟨by omega, by omega⟩ (by omega) (fun i => by simp (disch := omega) only [zr_I, zr_J, zr_B, rA_A, zl_I, zl_J, zl_A, lA_B, hc57_5, p57_1]) (fun i => by simp (disch := omega) only [zr_I, zr_J, zr_B, rA_A, zl_I, zl_J, zl_A, lA_B, hc57_5, p57_2])
      ·
        refine v_aload_n hX dX13_macroLine_79 (i := 0) rfl rfl ?_
        refine v_lload_n hX dX13_macroLine_80 (i := 2) rfl rfl ?_
        refine v_callV hX (n := 1) (k_isPlainName (S := (s_I S57c 1110 x (iI bb))) (x := x) (v := w) (mS.sI h57c) ⟨by omega, by omega⟩) (ms_kx (mS.sI h57c)) bc_11 (by decide) w_7_70 w_7_72 (bw_p (q := (yX13_isPlainName, 72)) (List.mem_of_getElem? (i := 59) rfl) rfl) w_1_16 w_7_73 (by decide +kernel) rfl ⟨by decide, by decide⟩ ⟨by omega, by omega⟩ (Nat.le_of_ble_eq_true rfl) rfl dX13_macroLine_81 (fun _ _ _ q => q) ?_
        rintro r10_ S10_ z10_ ⟨rfl, rfl, v11_, rfl, b_v11_, q10_⟩
        refine u_if_eq hX (tgt := 91) dX13_macroLine_84 (by decide) ⟨by omega, by omega⟩ (fun h12_ => ?_) (fun h12_ => ?_)
        ·
          refine v_aload_n hX dX13_macroLine_91 (i := 0) rfl rfl ?_
          refine v_get hX (ci := 11) (k := 12) (ms_kx (mS.sI h57c)) bc_11 (by decide) (by decide) in_11 w_5_228 dX13_macroLine_92 (mvF (f := 1112) (v := iI m0) rfl rfl (by simp (disch := omega) only [y_I_s_I, x_I_s_I, z_I_s_J, z_I_s_A, z_I_s_B, e57_ls, e57_fs, e57_bo, e57_ln, e_a0, e_m0, e_r0])) ?_
          refine v_bipush hX (v := iI 12) dX13_macroLine_95 (by decide) ?_
          refine u_icmp_ne hX (tgt := 105) dX13_macroLine_97 (by decide) ⟨by omega, by omega⟩ ⟨by omega, by omega⟩ (fun h13_ => ?_) (fun h13_ => ?_)
          ·
            refine v_iconst hX (v := iI 0) dX13_macroLine_105 rfl ?_
            exact L106 _ a0 bb m0 r0 w 0 (fr57.sI (by decide)) (by simp (disch := omega) only [y_I_s_I, x_I_s_I, z_I_s_J, z_I_s_A, z_I_s_B, e57_ls, e57_fs, e57_bo, e57_ln, e_a0, e_m0, e_r0]) (by simp (disch := omega) only [y_I_s_I, x_I_s_I, z_I_s_J, z_I_s_A, z_I_s_B, e57_ls, e57_fs, e57_bo, e57_ln, e_a0, e_m0, e_r0]) (by simp (disch := omega) only [y_I_s_I, x_I_s_I, z_I_s_J, z_I_s_A, z_I_s_B, e57_ls, e57_fs, e57_bo, e57_ln, e_a0, e_m0, e_r0]) (by simp (disch := omega) only [y_I_s_I, x_I_s_I, z_I_s_J, z_I_s_A, z_I_s_B, e57_ls, e57_fs, e57_bo, e57_ln, e_a0, e_m0, e_r0]) ⟨by omega, by omega⟩ ⟨by omega, by omega⟩ ⟨by omega, by omega⟩ ⟨by omega, by omega⟩ (by omega) (fun i => by simp (disch := omega) only [zr_I, zr_J, zr_B, rA_A, zl_I, zl_J, zl_A, lA_B, hc57_5, p57_1]) (fun i => by simp (disch := omega) only [zr_I, zr_J, zr_B, rA_A, zl_I, zl_J, zl_A, lA_B, hc57_5, p57_2])
          ·
            refine v_bipush hX (v := iI 6) dX13_macroLine_100 (by decide) ?_
            refine v_goto hX (tgt := 106) dX13_macroLine_102 (by decide) ?_
            exact L106 _ a0 bb m0 r0 w 6 (fr57.sI (by decide)) (by simp (disch := omega) only [y_I_s_I, x_I_s_I, z_I_s_J, z_I_s_A, z_I_s_B, e57_ls, e57_fs, e57_bo, e57_ln, e_a0, e_m0, e_r0]) (by simp (disch := omega) only [y_I_s_I, x_I_s_I, z_I_s_J, z_I_s_A, z_I_s_B, e57_ls, e57_fs, e57_bo, e57_ln, e_a0, e_m0, e_r0]) (by simp (disch := omega) only [y_I_s_I, x_I_s_I, z_I_s_J, z_I_s_A, z_I_s_B, e57_ls, e57_fs, e57_bo, e57_ln, e_a0, e_m0, e_r0]) (by simp (disch := omega) only [y_I_s_I, x_I_s_I, z_I_s_J, z_I_s_A, z_I_s_B, e57_ls, e57_fs, e57_bo, e57_ln, e_a0, e_m0, e_r0]) ⟨by omega, by omega⟩ ⟨by omega, by omega⟩ ⟨by omega, by omega⟩ ⟨by omega, by omega⟩ (by omega) (fun i => by simp (disch := omega) only [zr_I, zr_J, zr_B, rA_A, zl_I, zl_J, zl_A, lA_B, hc57_5, p57_1]) (fun i => by simp (disch := omega) only [zr_I, zr_J, zr_B, rA_A, zl_I, zl_J, zl_A, lA_B, hc57_5, p57_2])
        ·
          refine v_iconst hX (v := iI 3) dX13_macroLine_87 rfl ?_
          refine v_goto hX (tgt := 106) dX13_macroLine_88 (by decide) ?_
          exact L106 _ a0 bb m0 r0 w 3 (fr57.sI (by decide)) (by simp (disch := omega) only [y_I_s_I, x_I_s_I, z_I_s_J, z_I_s_A, z_I_s_B, e57_ls, e57_fs, e57_bo, e57_ln, e_a0, e_m0, e_r0]) (by simp (disch := omega) only [y_I_s_I, x_I_s_I, z_I_s_J, z_I_s_A, z_I_s_B, e57_ls, e57_fs, e57_bo, e57_ln, e_a0, e_m0, e_r0]) (by simp (disch := omega) only [y_I_s_I, x_I_s_I, z_I_s_J, z_I_s_A, z_I_s_B, e57_ls, e57_fs, e57_bo, e57_ln, e_a0, e_m0, e_r0]) (by simp (disch := omega) only [y_I_s_I, x_I_s_I, z_I_s_J, z_I_s_A, z_I_s_B, e57_ls, e57_fs, e57_bo, e57_ln, e_a0, e_m0, e_r0]) ⟨by omega, by omega⟩ ⟨by omega, by omega⟩ ⟨by omega, by omega⟩ ⟨by omega, by omega⟩ (by omega) (fun i => by simp (disch := omega) only [zr_I, zr_J, zr_B, rA_A, zl_I, zl_J, zl_A, lA_B, hc57_5, p57_1]) (fun i => by simp (disch := omega) only [zr_I, zr_J, zr_B, rA_A, zl_I, zl_J, zl_A, lA_B, hc57_5, p57_2])
    ·
      refine v_iconst hX (v := iI 1) dX13_macroLine_67 rfl ?_
      refine v_goto hX (tgt := 106) dX13_macroLine_68 (by decide) ?_
      exact L106 _ a0 bb m0 r0 w 1 (fr57.sI (by decide)) (by simp (disch := omega) only [y_I_s_I, x_I_s_I, z_I_s_J, z_I_s_A, z_I_s_B, e57_ls, e57_fs, e57_bo, e57_ln, e_a0, e_m0, e_r0]) (by simp (disch := omega) only [y_I_s_I, x_I_s_I, z_I_s_J, z_I_s_A, z_I_s_B, e57_ls, e57_fs, e57_bo, e57_ln, e_a0, e_m0, e_r0]) (by simp (disch := omega) only [y_I_s_I, x_I_s_I, z_I_s_J, z_I_s_A, z_I_s_B, e57_ls, e57_fs, e57_bo, e57_ln, e_a0, e_m0, e_r0]) (by simp (disch := omega) only [y_I_s_I, x_I_s_I, z_I_s_J, z_I_s_A, z_I_s_B, e57_ls, e57_fs, e57_bo, e57_ln, e_a0, e_m0, e_r0]) ⟨by omega, by omega⟩ ⟨by omega, by omega⟩ ⟨by omega, by omega⟩ ⟨by omega, by omega⟩ (by omega) (fun i => by simp (disch := omega) only [zr_I, zr_J, zr_B, rA_A, zl_I, zl_J, zl_A, lA_B, hc57_5, p57_1]) (fun i => by simp (disch := omega) only [zr_I, zr_J, zr_B, rA_A, zl_I, zl_J, zl_A, lA_B, hc57_5, p57_2])
  have L22 : ∀ (S22c : b_M) (a0 : Int) (b0 : Int) (m0 : Int) (r0 : Int) (w : Int), mFr [1108, 1110, 1154, 1153, 1169, 1112, 1168, 1170] [] [36, 37, 6, 7, 8] S S22c x → m_I S22c 1108 x = iI a0 → m_I S22c 1110 x = iI b0 → m_I S22c 1112 x = iI m0 → m_I S22c 1153 x = iI r0 → (-2147483648 ≤ a0 ∧ a0 < 2147483648) → (-2147483648 ≤ b0 ∧ b0 < 2147483648) → (-2147483648 ≤ m0 ∧ m0 < 2147483648) → (-2147483648 ≤ r0 ∧ r0 < 2147483648) → ((b0 = 0 ∨ b0 = 1) ∧ m0 = mc ∧ r0 = er ∧ 0 ≤ w ∧ w < 1152921504606846976 ∧ at_ ≤ a0 ∧ (a0 = at_ ∨ a0 ≤ ls)) → (∀ i, rAt S22c (x + 7) i = rAt S (x + 7) i) → (∀ i, rAt S22c (x + 8) i = rAt S (x + 8) i) → b_V X S22c z 0 0 22 [(0, .ref x), (1, .int (iI hl))] [.long (jJ w)] := by
    intro S22c a0 b0 m0 r0 w fr22 e_a0 e_b0 e_m0 e_r0 b_a0 b_b0 b_m0 b_r0 p22_0 p22_1 p22_2
    have h22c : mS S22c x := fr22.keep h
    have hc22_5 : ∀ i, rAt S22c (x + 5) i = rAt S (x + 5) i := fun i => (fr22.1 (x + 5) (by omega) (by intro j hj; simp only [List.mem_cons, List.not_mem_nil, or_false] at hj; omega)).rA i
    have e22_ls : m_I S22c 1107 x = iI ls := (fr22.2.2.2.1 1107 (by decide)).trans e_ls
    have e22_fs : m_I S22c 1120 x = iI fs := (fr22.2.2.2.1 1120 (by decide)).trans e_fs
    have e22_bo : m_I S22c 1113 x = iI bo := (fr22.2.2.2.1 1113 (by decide)).trans e_bo
    have e22_ln : m_I S22c 1109 x = iI ln := (fr22.2.2.2.1 1109 (by decide)).trans e_ln
    refine v_lstore_n hX (lv' := [(2, .long (jJ w)), (0, .ref x), (1, .int (iI hl))]) dX13_macroLine_22 (i := 2) rfl (by rw [hnL]; decide) rfl ?_
    have mk1_ := mk_.1
    refine v_aload_n hX dX13_macroLine_23 (i := 0) rfl rfl ?_
    refine v_callV hX (n := 0) (k_isDone (S := S22c) (x := x) (at_ := a0) (ls := ls) (bd := b0) h22c (by simp (disch := omega) only [y_I_s_I, x_I_s_I, z_I_s_J, z_I_s_A, z_I_s_B, e22_ls, e22_fs, e22_bo, e22_ln, e_a0, e_b0, e_m0, e_r0]) ⟨by omega, by omega⟩ (by simp (disch := omega) only [y_I_s_I, x_I_s_I, z_I_s_J, z_I_s_A, z_I_s_B, e22_ls, e22_fs, e22_bo, e22_ln, e_a0, e_b0, e_m0, e_r0]) ⟨by omega, by omega⟩ (by simp (disch := omega) only [y_I_s_I, x_I_s_I, z_I_s_J, z_I_s_A, z_I_s_B, e22_ls, e22_fs, e22_bo, e22_ln, e_a0, e_b0, e_m0, e_r0]) ⟨by omega, by omega⟩ (by omega)) (ms_kx h22c) bc_11 (by decide) w_7_66 w_7_68 (bw_p (q := (yX13_isDone, 72)) (List.mem_of_getElem? (i := 58) rfl) rfl) w_1_16 w_7_69 (by decide +kernel) rfl ⟨by decide, by decide⟩ ⟨by omega, by omega⟩ (Nat.le_of_ble_eq_true rfl) rfl dX13_macroLine_24 (fun _ _ _ q => q) ?_
    rintro r14_ S14_ z14_ ⟨rfl, f14_, v15_, v16_, rfl, e_v15_, b_v15_, e_v16_, b_v16_, q14_⟩
    have e14_1107 : m_I S14_ 1107 x = iI ls := (f14_.2.2.2.1 1107 (by decide)).trans (by simp (disch := omega) only [y_I_s_I, x_I_s_I, z_I_s_J, z_I_s_A, z_I_s_B, e22_ls, e22_fs, e22_bo, e22_ln, e_a0, e_b0, e_m0, e_r0])
    have e14_1120 : m_I S14_ 1120 x = iI fs := (f14_.2.2.2.1 1120 (by decide)).trans (by simp (disch := omega) only [y_I_s_I, x_I_s_I, z_I_s_J, z_I_s_A, z_I_s_B, e22_ls, e22_fs, e22_bo, e22_ln, e_a0, e_b0, e_m0, e_r0])
    have e14_1113 : m_I S14_ 1113 x = iI bo := (f14_.2.2.2.1 1113 (by decide)).trans (by simp (disch := omega) only [y_I_s_I, x_I_s_I, z_I_s_J, z_I_s_A, z_I_s_B, e22_ls, e22_fs, e22_bo, e22_ln, e_a0, e_b0, e_m0, e_r0])
    have e14_1109 : m_I S14_ 1109 x = iI ln := (f14_.2.2.2.1 1109 (by decide)).trans (by simp (disch := omega) only [y_I_s_I, x_I_s_I, z_I_s_J, z_I_s_A, z_I_s_B, e22_ls, e22_fs, e22_bo, e22_ln, e_a0, e_b0, e_m0, e_r0])
    have e14_1112 : m_I S14_ 1112 x = iI m0 := (f14_.2.2.2.1 1112 (by decide)).trans (by simp (disch := omega) only [y_I_s_I, x_I_s_I, z_I_s_J, z_I_s_A, z_I_s_B, e22_ls, e22_fs, e22_bo, e22_ln, e_a0, e_b0, e_m0, e_r0])
    have e14_1153 : m_I S14_ 1153 x = iI r0 := (f14_.2.2.2.1 1153 (by decide)).trans (by simp (disch := omega) only [y_I_s_I, x_I_s_I, z_I_s_J, z_I_s_A, z_I_s_B, e22_ls, e22_fs, e22_bo, e22_ln, e_a0, e_b0, e_m0, e_r0])
    have h14_ : mS S14_ x := f14_.keep h22c
    have hc14_5 : ∀ i, rAt S14_ (x + 5) i = rAt S (x + 5) i := fun i => ((f14_.1 (x + 5) (by omega) (fun j hj => absurd hj List.not_mem_nil)).rA i).trans (hc22_5 i)
    have hc14_7 : ∀ i, rAt S14_ (x + 7) i = rAt S22c (x + 7) i := fun i => ((f14_.1 (x + 7) (by omega) (fun j hj => absurd hj List.not_mem_nil)).rA i).trans rfl
    have hc14_8 : ∀ i, rAt S14_ (x + 8) i = rAt S22c (x + 8) i := fun i => ((f14_.1 (x + 8) (by omega) (fun j hj => absurd hj List.not_mem_nil)).rA i).trans rfl
    refine v_aload_n hX dX13_macroLine_27 (i := 0) rfl rfl ?_
    refine v_aload_n hX dX13_macroLine_28 (i := 0) rfl rfl ?_
    refine v_get hX (ci := 11) (k := 10) (ms_kx h14_) bc_11 (by decide) (by decide) in_11 w_5_226 dX13_macroLine_29 (mvF (f := 1110) (v := iI v16_) rfl rfl (by simp (disch := omega) only [y_I_s_I, x_I_s_I, z_I_s_J, z_I_s_A, z_I_s_B, e14_1107, e14_1120, e14_1113, e14_1109, e14_1112, e14_1153, e_v15_, e_v16_])) ?_
    refine u_if_ne hX (tgt := 52) dX13_macroLine_32 (by decide) ⟨by omega, by omega⟩ (fun h17_ => ?_) (fun h17_ => ?_)
    ·
      refine v_iconst hX (v := iI 1) dX13_macroLine_52 rfl ?_
      refine v_goto hX (tgt := 57) dX13_macroLine_53 (by decide) ?_
      exact L57 _ v15_ m0 r0 w 1 (fr22.tr (f14_.mono (by decide) (by decide) (by decide))) (by simp (disch := omega) only [y_I_s_I, x_I_s_I, z_I_s_J, z_I_s_A, z_I_s_B, e14_1107, e14_1120, e14_1113, e14_1109, e14_1112, e14_1153, e_v15_, e_v16_]) (by simp (disch := omega) only [y_I_s_I, x_I_s_I, z_I_s_J, z_I_s_A, z_I_s_B, e14_1107, e14_1120, e14_1113, e14_1109, e14_1112, e14_1153, e_v15_, e_v16_]) (by simp (disch := omega) only [y_I_s_I, x_I_s_I, z_I_s_J, z_I_s_A, z_I_s_B, e14_1107, e14_1120, e14_1113, e14_1109, e14_1112, e14_1153, e_v15_, e_v16_]) ⟨by omega, by omega⟩ ⟨by omega, by omega⟩ ⟨by omega, by omega⟩ (by omega) (fun i => by simp (disch := omega) only [zr_I, zr_J, zr_B, rA_A, zl_I, zl_J, zl_A, lA_B, hc14_5, hc14_7, hc14_8, p22_1]) (fun i => by simp (disch := omega) only [zr_I, zr_J, zr_B, rA_A, zl_I, zl_J, zl_A, lA_B, hc14_5, hc14_7, hc14_8, p22_2])
    ·
      refine v_lload_n hX dX13_macroLine_35 (i := 2) rfl rfl ?_
      refine v_lconst hX (v := jJ 0) dX13_macroLine_36 rfl ?_
      refine u_lcmp hX dX13_macroLine_37 ⟨by omega, by omega⟩ ⟨by omega, by omega⟩ (fun v18_ b_v18_ c_v18_ => ?_)
      refine u_if_eq hX (tgt := 52) dX13_macroLine_38 (by decide) ⟨by omega, by omega⟩ (fun h19_ => ?_) (fun h19_ => ?_)
      ·
        refine v_iconst hX (v := iI 1) dX13_macroLine_52 rfl ?_
        refine v_goto hX (tgt := 57) dX13_macroLine_53 (by decide) ?_
        exact L57 _ v15_ m0 r0 w 1 (fr22.tr (f14_.mono (by decide) (by decide) (by decide))) (by simp (disch := omega) only [y_I_s_I, x_I_s_I, z_I_s_J, z_I_s_A, z_I_s_B, e14_1107, e14_1120, e14_1113, e14_1109, e14_1112, e14_1153, e_v15_, e_v16_]) (by simp (disch := omega) only [y_I_s_I, x_I_s_I, z_I_s_J, z_I_s_A, z_I_s_B, e14_1107, e14_1120, e14_1113, e14_1109, e14_1112, e14_1153, e_v15_, e_v16_]) (by simp (disch := omega) only [y_I_s_I, x_I_s_I, z_I_s_J, z_I_s_A, z_I_s_B, e14_1107, e14_1120, e14_1113, e14_1109, e14_1112, e14_1153, e_v15_, e_v16_]) ⟨by omega, by omega⟩ ⟨by omega, by omega⟩ ⟨by omega, by omega⟩ (by omega) (fun i => by simp (disch := omega) only [zr_I, zr_J, zr_B, rA_A, zl_I, zl_J, zl_A, lA_B, hc14_5, hc14_7, hc14_8, p22_1]) (fun i => by simp (disch := omega) only [zr_I, zr_J, zr_B, rA_A, zl_I, zl_J, zl_A, lA_B, hc14_5, hc14_7, hc14_8, p22_2])
      ·
        refine v_iload_n hX dX13_macroLine_41 (i := 1) rfl rfl ?_
        refine u_if_ne hX (tgt := 52) dX13_macroLine_42 (by decide) ⟨by omega, by omega⟩ (fun h20_ => ?_) (fun h20_ => ?_)
        ·
          refine v_iconst hX (v := iI 1) dX13_macroLine_52 rfl ?_
          refine v_goto hX (tgt := 57) dX13_macroLine_53 (by decide) ?_
          exact L57 _ v15_ m0 r0 w 1 (fr22.tr (f14_.mono (by decide) (by decide) (by decide))) (by simp (disch := omega) only [y_I_s_I, x_I_s_I, z_I_s_J, z_I_s_A, z_I_s_B, e14_1107, e14_1120, e14_1113, e14_1109, e14_1112, e14_1153, e_v15_, e_v16_]) (by simp (disch := omega) only [y_I_s_I, x_I_s_I, z_I_s_J, z_I_s_A, z_I_s_B, e14_1107, e14_1120, e14_1113, e14_1109, e14_1112, e14_1153, e_v15_, e_v16_]) (by simp (disch := omega) only [y_I_s_I, x_I_s_I, z_I_s_J, z_I_s_A, z_I_s_B, e14_1107, e14_1120, e14_1113, e14_1109, e14_1112, e14_1153, e_v15_, e_v16_]) ⟨by omega, by omega⟩ ⟨by omega, by omega⟩ ⟨by omega, by omega⟩ (by omega) (fun i => by simp (disch := omega) only [zr_I, zr_J, zr_B, rA_A, zl_I, zl_J, zl_A, lA_B, hc14_5, hc14_7, hc14_8, p22_1]) (fun i => by simp (disch := omega) only [zr_I, zr_J, zr_B, rA_A, zl_I, zl_J, zl_A, lA_B, hc14_5, hc14_7, hc14_8, p22_2])
        ·
          refine v_aload_n hX dX13_macroLine_45 (i := 0) rfl rfl ?_
          refine v_get hX (ci := 11) (k := 20) (ms_kx h14_) bc_11 (by decide) (by decide) in_11 w_5_236 dX13_macroLine_46 (mvF (f := 1120) (v := iI fs) rfl rfl (by simp (disch := omega) only [y_I_s_I, x_I_s_I, z_I_s_J, z_I_s_A, z_I_s_B, e14_1107, e14_1120, e14_1113, e14_1109, e14_1112, e14_1153, e_v15_, e_v16_])) ?_
          refine u_if_le hX (tgt := 56) dX13_macroLine_49 (by decide) ⟨by omega, by omega⟩ (fun h21_ => ?_) (fun h21_ => ?_)
          ·
            refine v_iconst hX (v := iI 0) dX13_macroLine_56 rfl ?_
            exact L57 _ v15_ m0 r0 w 0 (fr22.tr (f14_.mono (by decide) (by decide) (by decide))) (by simp (disch := omega) only [y_I_s_I, x_I_s_I, z_I_s_J, z_I_s_A, z_I_s_B, e14_1107, e14_1120, e14_1113, e14_1109, e14_1112, e14_1153, e_v15_, e_v16_]) (by simp (disch := omega) only [y_I_s_I, x_I_s_I, z_I_s_J, z_I_s_A, z_I_s_B, e14_1107, e14_1120, e14_1113, e14_1109, e14_1112, e14_1153, e_v15_, e_v16_]) (by simp (disch := omega) only [y_I_s_I, x_I_s_I, z_I_s_J, z_I_s_A, z_I_s_B, e14_1107, e14_1120, e14_1113, e14_1109, e14_1112, e14_1153, e_v15_, e_v16_]) ⟨by omega, by omega⟩ ⟨by omega, by omega⟩ ⟨by omega, by omega⟩ (by omega) (fun i => by simp (disch := omega) only [zr_I, zr_J, zr_B, rA_A, zl_I, zl_J, zl_A, lA_B, hc14_5, hc14_7, hc14_8, p22_1]) (fun i => by simp (disch := omega) only [zr_I, zr_J, zr_B, rA_A, zl_I, zl_J, zl_A, lA_B, hc14_5, hc14_7, hc14_8, p22_2])
          ·
            refine v_iconst hX (v := iI 1) dX13_macroLine_52 rfl ?_
            refine v_goto hX (tgt := 57) dX13_macroLine_53 (by decide) ?_
            exact L57 _ v15_ m0 r0 w 1 (fr22.tr (f14_.mono (by decide) (by decide) (by decide))) (by simp (disch := omega) only [y_I_s_I, x_I_s_I, z_I_s_J, z_I_s_A, z_I_s_B, e14_1107, e14_1120, e14_1113, e14_1109, e14_1112, e14_1153, e_v15_, e_v16_]) (by simp (disch := omega) only [y_I_s_I, x_I_s_I, z_I_s_J, z_I_s_A, z_I_s_B, e14_1107, e14_1120, e14_1113, e14_1109, e14_1112, e14_1153, e_v15_, e_v16_]) (by simp (disch := omega) only [y_I_s_I, x_I_s_I, z_I_s_J, z_I_s_A, z_I_s_B, e14_1107, e14_1120, e14_1113, e14_1109, e14_1112, e14_1153, e_v15_, e_v16_]) ⟨by omega, by omega⟩ ⟨by omega, by omega⟩ ⟨by omega, by omega⟩ (by omega) (fun i => by simp (disch := omega) only [zr_I, zr_J, zr_B, rA_A, zl_I, zl_J, zl_A, lA_B, hc14_5, hc14_7, hc14_8, p22_1]) (fun i => by simp (disch := omega) only [zr_I, zr_J, zr_B, rA_A, zl_I, zl_J, zl_A, lA_B, hc14_5, hc14_7, hc14_8, p22_2])
  change b_V X S z 0 0 0 [(0, .ref x), (1, .int (iI hl))] []
  have mk1_ := mk_.1
  refine v_aload_n hX dX13_macroLine_0 (i := 0) rfl rfl ?_
  refine v_callV hX (n := 0) (k_passBlanks (S := S) (x := x) (at_ := at_) (ls := ls) h (by simp (disch := omega) only [y_I_s_I, x_I_s_I, z_I_s_J, z_I_s_A, z_I_s_B, e_at_, e_ls, e_bd, e_fs, e_mc, e_bo, e_er, e_ln]) ⟨by omega, by omega⟩ (by simp (disch := omega) only [y_I_s_I, x_I_s_I, z_I_s_J, z_I_s_A, z_I_s_B, e_at_, e_ls, e_bd, e_fs, e_mc, e_bo, e_er, e_ln]) ⟨by omega, by omega⟩ (by omega)) (ms_kx h) bc_11 (by decide) w_7_25 w_7_27 (bw_p (q := (yX13_passBlanks, 72)) (List.mem_of_getElem? (i := 50) rfl) rfl) w_1_16 w_7_28 (by decide +kernel) rfl ⟨by decide, by decide⟩ ⟨by omega, by omega⟩ (Nat.le_of_ble_eq_true rfl) rfl dX13_macroLine_1 (fun _ _ _ q => q) ?_
  rintro r22_ S22_ z22_ ⟨rfl, f22_, v23_, rfl, e_v23_, b_v23_, q22_, q22_0⟩
  have e22_1107 : m_I S22_ 1107 x = iI ls := (f22_.2.2.2.1 1107 (by decide)).trans (by simp (disch := omega) only [y_I_s_I, x_I_s_I, z_I_s_J, z_I_s_A, z_I_s_B, e_at_, e_ls, e_bd, e_fs, e_mc, e_bo, e_er, e_ln])
  have e22_1110 : m_I S22_ 1110 x = iI bd := (f22_.2.2.2.1 1110 (by decide)).trans (by simp (disch := omega) only [y_I_s_I, x_I_s_I, z_I_s_J, z_I_s_A, z_I_s_B, e_at_, e_ls, e_bd, e_fs, e_mc, e_bo, e_er, e_ln])
  have e22_1120 : m_I S22_ 1120 x = iI fs := (f22_.2.2.2.1 1120 (by decide)).trans (by simp (disch := omega) only [y_I_s_I, x_I_s_I, z_I_s_J, z_I_s_A, z_I_s_B, e_at_, e_ls, e_bd, e_fs, e_mc, e_bo, e_er, e_ln])
  have e22_1112 : m_I S22_ 1112 x = iI mc := (f22_.2.2.2.1 1112 (by decide)).trans (by simp (disch := omega) only [y_I_s_I, x_I_s_I, z_I_s_J, z_I_s_A, z_I_s_B, e_at_, e_ls, e_bd, e_fs, e_mc, e_bo, e_er, e_ln])
  have e22_1113 : m_I S22_ 1113 x = iI bo := (f22_.2.2.2.1 1113 (by decide)).trans (by simp (disch := omega) only [y_I_s_I, x_I_s_I, z_I_s_J, z_I_s_A, z_I_s_B, e_at_, e_ls, e_bd, e_fs, e_mc, e_bo, e_er, e_ln])
  have e22_1153 : m_I S22_ 1153 x = iI er := (f22_.2.2.2.1 1153 (by decide)).trans (by simp (disch := omega) only [y_I_s_I, x_I_s_I, z_I_s_J, z_I_s_A, z_I_s_B, e_at_, e_ls, e_bd, e_fs, e_mc, e_bo, e_er, e_ln])
  have e22_1109 : m_I S22_ 1109 x = iI ln := (f22_.2.2.2.1 1109 (by decide)).trans (by simp (disch := omega) only [y_I_s_I, x_I_s_I, z_I_s_J, z_I_s_A, z_I_s_B, e_at_, e_ls, e_bd, e_fs, e_mc, e_bo, e_er, e_ln])
  have h22_ : mS S22_ x := f22_.keep h
  have hc22_5 : ∀ i, rAt S22_ (x + 5) i = rAt S (x + 5) i := fun i => ((f22_.1 (x + 5) (by omega) (fun j hj => absurd hj List.not_mem_nil)).rA i).trans rfl
  have hc22_7 : ∀ i, rAt S22_ (x + 7) i = rAt S (x + 7) i := fun i => ((f22_.1 (x + 7) (by omega) (fun j hj => absurd hj List.not_mem_nil)).rA i).trans rfl
  have hc22_8 : ∀ i, rAt S22_ (x + 8) i = rAt S (x + 8) i := fun i => ((f22_.1 (x + 8) (by omega) (fun j hj => absurd hj List.not_mem_nil)).rA i).trans rfl
  refine v_aload_n hX dX13_macroLine_4 (i := 0) rfl rfl ?_
  refine v_callV hX (n := 0) (k_now (S := S22_) (x := x) (at_ := v23_) (ls := ls) h22_ (by simp (disch := omega) only [y_I_s_I, x_I_s_I, z_I_s_J, z_I_s_A, z_I_s_B, e22_1107, e22_1110, e22_1120, e22_1112, e22_1113, e22_1153, e22_1109, e_v23_]) ⟨by omega, by omega⟩ (by simp (disch := omega) only [y_I_s_I, x_I_s_I, z_I_s_J, z_I_s_A, z_I_s_B, e22_1107, e22_1110, e22_1120, e22_1112, e22_1113, e22_1153, e22_1109, e_v23_]) ⟨by omega, by omega⟩ (by omega)) (ms_kx h22_) bc_11 (by decide) w_7_29 w_7_31 (bw_p (q := (yX13_now, 72)) (List.mem_of_getElem? (i := 51) rfl) rfl) w_1_16 w_7_32 (by decide +kernel) rfl ⟨by decide, by decide⟩ ⟨by omega, by omega⟩ (Nat.le_of_ble_eq_true rfl) rfl dX13_macroLine_5 (fun _ _ _ q => q) ?_
  rintro r24_ S24_ z24_ ⟨rfl, rfl, v25_, rfl, b_v25_, q24_⟩
  try simp (disch := omega) only [zr_I, zr_J, zr_B, rA_A, zl_I, zl_J, zl_A, lA_B, hc22_5, hc22_7, hc22_8] at q24_
  refine v_callS hX (n := 1) (k_isStart (S := S22_) (x := 0) (c := v25_) ⟨by omega, by omega⟩) w_6_236 w_6_237 w_1_16 w_6_238 (by decide +kernel) rfl ⟨by decide, by decide⟩ ⟨by omega, by omega⟩ (Nat.le_of_ble_eq_true rfl) rfl dX13_macroLine_8 (fun _ _ _ q => q) ?_
  rintro r26_ S26_ z26_ ⟨rfl, rfl, v27_, rfl, b_v27_, q26_⟩
  refine u_if_eq hX (tgt := 21) dX13_macroLine_11 (by decide) ⟨by omega, by omega⟩ (fun h28_ => ?_) (fun h28_ => ?_)
  ·
    refine v_lconst hX (v := jJ 0) dX13_macroLine_21 rfl ?_
    exact L22 _ v23_ bd mc er 0 ((mFr.rf _ _).tr (f22_.mono (by decide) (by decide) (by decide))) (by simp (disch := omega) only [y_I_s_I, x_I_s_I, z_I_s_J, z_I_s_A, z_I_s_B, e22_1107, e22_1110, e22_1120, e22_1112, e22_1113, e22_1153, e22_1109, e_v23_]) (by simp (disch := omega) only [y_I_s_I, x_I_s_I, z_I_s_J, z_I_s_A, z_I_s_B, e22_1107, e22_1110, e22_1120, e22_1112, e22_1113, e22_1153, e22_1109, e_v23_]) (by simp (disch := omega) only [y_I_s_I, x_I_s_I, z_I_s_J, z_I_s_A, z_I_s_B, e22_1107, e22_1110, e22_1120, e22_1112, e22_1113, e22_1153, e22_1109, e_v23_]) (by simp (disch := omega) only [y_I_s_I, x_I_s_I, z_I_s_J, z_I_s_A, z_I_s_B, e22_1107, e22_1110, e22_1120, e22_1112, e22_1113, e22_1153, e22_1109, e_v23_]) ⟨by omega, by omega⟩ ⟨by omega, by omega⟩ ⟨by omega, by omega⟩ ⟨by omega, by omega⟩ (by omega) (fun i => by simp (disch := omega) only [zr_I, zr_J, zr_B, rA_A, zl_I, zl_J, zl_A, lA_B, hc22_5, hc22_7, hc22_8]) (fun i => by simp (disch := omega) only [zr_I, zr_J, zr_B, rA_A, zl_I, zl_J, zl_A, lA_B, hc22_5, hc22_7, hc22_8])
  ·
    refine v_aload_n hX dX13_macroLine_14 (i := 0) rfl rfl ?_
    refine v_callV hX (n := 0) (k_takeName (S := S22_) (x := x) (at_ := v23_) (ls := ls) (bd := bd) h22_ (by simp (disch := omega) only [y_I_s_I, x_I_s_I, z_I_s_J, z_I_s_A, z_I_s_B, e22_1107, e22_1110, e22_1120, e22_1112, e22_1113, e22_1153, e22_1109, e_v23_]) ⟨by omega, by omega⟩ (by simp (disch := omega) only [y_I_s_I, x_I_s_I, z_I_s_J, z_I_s_A, z_I_s_B, e22_1107, e22_1110, e22_1120, e22_1112, e22_1113, e22_1153, e22_1109, e_v23_]) ⟨by omega, by omega⟩ (by simp (disch := omega) only [y_I_s_I, x_I_s_I, z_I_s_J, z_I_s_A, z_I_s_B, e22_1107, e22_1110, e22_1120, e22_1112, e22_1113, e22_1153, e22_1109, e_v23_]) ⟨by omega, by omega⟩ (by omega)) (ms_kx h22_) bc_11 (by decide) w_7_37 w_7_39 (bw_p (q := (yX13_takeName, 72)) (List.mem_of_getElem? (i := 53) rfl) rfl) w_1_16 w_7_40 (by decide +kernel) rfl ⟨by decide, by decide⟩ ⟨by omega, by omega⟩ (Nat.le_of_ble_eq_true rfl) rfl dX13_macroLine_15 (fun _ _ _ q => q) ?_
    rintro r29_ S29_ z29_ ⟨rfl, f29_, v30_, v31_, v32_, rfl, b_v30_, e_v31_, b_v31_, e_v32_, b_v32_, q29_⟩
    have e29_1107 : m_I S29_ 1107 x = iI ls := (f29_.2.2.2.1 1107 (by decide)).trans (by simp (disch := omega) only [y_I_s_I, x_I_s_I, z_I_s_J, z_I_s_A, z_I_s_B, e22_1107, e22_1110, e22_1120, e22_1112, e22_1113, e22_1153, e22_1109, e_v23_])
    have e29_1120 : m_I S29_ 1120 x = iI fs := (f29_.2.2.2.1 1120 (by decide)).trans (by simp (disch := omega) only [y_I_s_I, x_I_s_I, z_I_s_J, z_I_s_A, z_I_s_B, e22_1107, e22_1110, e22_1120, e22_1112, e22_1113, e22_1153, e22_1109, e_v23_])
    have e29_1112 : m_I S29_ 1112 x = iI mc := (f29_.2.2.2.1 1112 (by decide)).trans (by simp (disch := omega) only [y_I_s_I, x_I_s_I, z_I_s_J, z_I_s_A, z_I_s_B, e22_1107, e22_1110, e22_1120, e22_1112, e22_1113, e22_1153, e22_1109, e_v23_])
    have e29_1113 : m_I S29_ 1113 x = iI bo := (f29_.2.2.2.1 1113 (by decide)).trans (by simp (disch := omega) only [y_I_s_I, x_I_s_I, z_I_s_J, z_I_s_A, z_I_s_B, e22_1107, e22_1110, e22_1120, e22_1112, e22_1113, e22_1153, e22_1109, e_v23_])
    have e29_1153 : m_I S29_ 1153 x = iI er := (f29_.2.2.2.1 1153 (by decide)).trans (by simp (disch := omega) only [y_I_s_I, x_I_s_I, z_I_s_J, z_I_s_A, z_I_s_B, e22_1107, e22_1110, e22_1120, e22_1112, e22_1113, e22_1153, e22_1109, e_v23_])
    have e29_1109 : m_I S29_ 1109 x = iI ln := (f29_.2.2.2.1 1109 (by decide)).trans (by simp (disch := omega) only [y_I_s_I, x_I_s_I, z_I_s_J, z_I_s_A, z_I_s_B, e22_1107, e22_1110, e22_1120, e22_1112, e22_1113, e22_1153, e22_1109, e_v23_])
    have h29_ : mS S29_ x := f29_.keep h22_
    have hc29_5 : ∀ i, rAt S29_ (x + 5) i = rAt S (x + 5) i := fun i => ((f29_.1 (x + 5) (by omega) (fun j hj => absurd hj List.not_mem_nil)).rA i).trans (hc22_5 i)
    have hc29_7 : ∀ i, rAt S29_ (x + 7) i = rAt S (x + 7) i := fun i => ((f29_.1 (x + 7) (by omega) (fun j hj => absurd hj List.not_mem_nil)).rA i).trans (hc22_7 i)
    have hc29_8 : ∀ i, rAt S29_ (x + 8) i = rAt S (x + 8) i := fun i => ((f29_.1 (x + 8) (by omega) (fun j hj => absurd hj List.not_mem_nil)).rA i).trans (hc22_8 i)
    refine v_goto hX (tgt := 22) dX13_macroLine_18 (by decide) ?_
    exact L22 _ v31_ v32_ mc er v30_ (((mFr.rf _ _).tr (f22_.mono (by decide) (by decide) (by decide))).tr (f29_.mono (by decide) (by decide) (by decide))) (by simp (disch := omega) only [y_I_s_I, x_I_s_I, z_I_s_J, z_I_s_A, z_I_s_B, e29_1107, e29_1120, e29_1112, e29_1113, e29_1153, e29_1109, e_v31_, e_v32_]) (by simp (disch := omega) only [y_I_s_I, x_I_s_I, z_I_s_J, z_I_s_A, z_I_s_B, e29_1107, e29_1120, e29_1112, e29_1113, e29_1153, e29_1109, e_v31_, e_v32_]) (by simp (disch := omega) only [y_I_s_I, x_I_s_I, z_I_s_J, z_I_s_A, z_I_s_B, e29_1107, e29_1120, e29_1112, e29_1113, e29_1153, e29_1109, e_v31_, e_v32_]) (by simp (disch := omega) only [y_I_s_I, x_I_s_I, z_I_s_J, z_I_s_A, z_I_s_B, e29_1107, e29_1120, e29_1112, e29_1113, e29_1153, e29_1109, e_v31_, e_v32_]) ⟨by omega, by omega⟩ ⟨by omega, by omega⟩ ⟨by omega, by omega⟩ ⟨by omega, by omega⟩ (by omega) (fun i => by simp (disch := omega) only [zr_I, zr_J, zr_B, rA_A, zl_I, zl_J, zl_A, lA_B, hc29_5, hc29_7, hc29_8]) (fun i => by simp (disch := omega) only [zr_I, zr_J, zr_B, rA_A, zl_I, zl_J, zl_A, lA_B, hc29_5, hc29_7, hc29_8])
