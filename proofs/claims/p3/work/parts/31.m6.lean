/-- the reference's arrays in the order in which they are made: field, kind, length -/
def mTab : List (Nat × Nat × Nat) := [(1100, 14, 7), (1101, 14, 6), (1104, 13, 4200), (1106, 13, 4200), (1111, 13, 8400), (1115, 14, 12), (1116, 13, 12), (1117, 13, 12), (1118, 13, 4200), (1119, 13, 4200), (1121, 13, 7), (1122, 13, 7), (1123, 13, 7), (1124, 13, 28), (1125, 13, 28), (1126, 13, 8400), (1129, 13, 400), (1130, 13, 400), (1131, 13, 400), (1132, 13, 400), (1133, 13, 400), (1134, 13, 400), (1135, 13, 400), (1136, 14, 400), (1137, 15, 400), (1138, 13, 400), (1142, 13, 3200), (1143, 13, 3200), (1144, 13, 60000), (1146, 13, 9), (1147, 13, 9), (1149, 14, 400), (1150, 13, 400), (1151, 13, 400), (1152, 13, 1021), (1155, 13, 50), (1156, 13, 50), (1161, 13, 65536), (1171, 15, 400)]
theorem mAsc : ∀ i, i < 39 → ∀ j, j < 39 → i < j → (mTab.getD i (0, 0, 0)).1 < (mTab.getD j (0, 0, 0)).1 := by decide +kernel
def mInv (S S' : b_M) (a z k : Nat) : Prop := (∀ b, b < z → b ≠ a → b_eq S S' b) ∧ m_K S' a = 11 ∧ (∀ f, m_I S' f a = m_I S f a) ∧ (∀ f, m_J S' f a = m_J S f a) ∧ ∀ j, j < k → m_P S' (mTab.getD j (0, 0, 0)).1 a = some (z + j) ∧ m_K S' (z + j) = (mTab.getD j (0, 0, 0)).2.1 ∧ m_L S' (z + j) = (mTab.getD j (0, 0, 0)).2.2 ∧ (2 ≤ j → ∀ i, m_A S' (z + j) i = 0 ∧ m_B S' (z + j) i = 0)
theorem mStep {S S1 : b_M} {a z k f kd n : Nat} (h : mInv S S1 a z k) (hlt : a < z) (hk : k < 39) (ht : mTab.getD k (0, 0, 0) = (f, kd, n)) : mInv S (s_P (n_A S1 (z + k) kd n) f a (some (z + k))) a z (k + 1) := by
  obtain ⟨h1, h2, h3, h4, h5⟩ := h
  refine ⟨fun b g1 g2 => (h1 b g1 g2).tr ((e_n_A _ _ _ _ (by omega)).tr (e_s_P _ _ _ _ g2)), (by simp (disch := omega) only [q_K_s_I, q_K_s_J, q_K_s_P, q_K_s_A, q_K_s_B, q_K_s_C, q_K_r_A, q_K_r_B, y_K_n_O, x_K_n_O, y_K_n_A, x_K_n_A, h2]), fun f => (by simp (disch := omega) only [q_I_s_J, q_I_s_P, q_I_s_A, q_I_s_B, q_I_s_C, q_I_n_A, q_I_r_A, q_I_r_B, y_I_s_I, x_I_s_I, y_I_n_O, x_I_n_O, h3]), fun f => (by simp (disch := omega) only [q_J_s_I, q_J_s_P, q_J_s_A, q_J_s_B, q_J_s_C, q_J_n_A, q_J_r_A, q_J_r_B, y_J_s_J, x_J_s_J, y_J_n_O, x_J_n_O, h4]), fun j hj => ?_⟩
  by_cases g : j = k
  · subst g
    rw [ht]
    exact ⟨(by simp (disch := omega) only [q_P_s_I, q_P_s_J, q_P_s_A, q_P_s_B, q_P_s_C, q_P_n_A, q_P_r_A, q_P_r_B, y_P_s_P, x_P_s_P, y_P_n_O, x_P_n_O]), (by simp (disch := omega) only [q_K_s_I, q_K_s_J, q_K_s_P, q_K_s_A, q_K_s_B, q_K_s_C, q_K_r_A, q_K_r_B, y_K_n_O, x_K_n_O, y_K_n_A, x_K_n_A]), (by simp (disch := omega) only [q_L_s_I, q_L_s_J, q_L_s_P, q_L_s_A, q_L_s_B, q_L_s_C, q_L_n_O, q_L_r_A, q_L_r_B, y_L_n_A, x_L_n_A]), fun _ i => ⟨(by simp (disch := omega) only [q_A_s_I, q_A_s_J, q_A_s_P, q_A_s_B, q_A_s_C, q_A_n_O, q_A_r_B, y_A_s_A, x_A_s_A, y_A_n_A, x_A_n_A, y_A_r_A, x_A_r_A]), (by simp (disch := omega) only [q_B_s_I, q_B_s_J, q_B_s_P, q_B_s_A, q_B_s_C, q_B_n_O, q_B_r_A, y_B_s_B, x_B_s_B, y_B_n_A, x_B_n_A, y_B_r_B, x_B_r_B])⟩⟩
  · obtain ⟨g1, g2, g3, g4⟩ := h5 j (by omega)
    have ne := mAsc j (by omega) k hk (by omega)
    rw [ht] at ne
    dsimp only at ne
    refine ⟨?_, ?_, ?_, fun g i => ⟨?_, ?_⟩⟩
    · rw [x_P_s_P _ _ _ _ _ _ (Or.inl (by omega)), q_P_n_A]; exact g1
    · rw [q_K_s_P, x_K_n_A _ _ _ _ _ (by omega)]; exact g2
    · rw [q_L_s_P, x_L_n_A _ _ _ _ _ (by omega)]; exact g3
    · rw [q_A_s_P, x_A_n_A _ _ _ _ _ _ (by omega)]; exact (g4 g i).1
    · rw [q_B_s_P, x_B_n_A _ _ _ _ _ _ (by omega)]; exact (g4 g i).2
/-- writes to the rows of an array that the list doesn't speak of yet, or of one of the first two -/
theorem mRow {S S1 : b_M} {a z k : Nat} (h : mInv S S1 a z k) (hlt : a < z) (hk : k ≤ 2) {q i : Nat} {v : Int64} (hq : z ≤ q) : mInv S (s_B S1 q i v) a z k := by
  obtain ⟨h1, h2, h3, h4, h5⟩ := h
  refine ⟨fun b g1 g2 => (h1 b g1 g2).tr (e_s_B _ _ _ _ (by omega)), h2, h3, h4, fun j hj => ?_⟩
  obtain ⟨g1, g2, g3, g4⟩ := h5 j hj
  exact ⟨g1, g2, g3, fun g => absurd g (by omega)⟩
set_option maxRecDepth 100000 in
set_option maxHeartbeats 4000000 in
theorem mS_0 {X : b_T} (hX : b_X X cX13_init RX13 1 12 39 172401) (hI : b_I X) {S Sk : b_M} {a z : Nat} (hlt : a < z) (ik : mInv S Sk a z 0) (kk : ∀ S1, mInv S S1 a z 1 → b_V X S1 (z + 1) 1 7 55 [(0, .ref a)] []) : b_V X Sk (z + 0) 0 0 4 [(0, .ref a)] [] := by
  refine v_aload_n hX dX13_init_4 (i := 0) rfl rfl ?_
  refine v_bipush hX (v := 7) dX13_init_5 (by decide) ?_
  refine v_newa_l hX (N := 7) w_1_98 dX13_init_7 (by decide) (by decide) (by decide) (by omega) (by omega) ?_
  refine v_dup hX dX13_init_9 rfl ?_
  refine v_iconst hX (v := 0) dX13_init_10 (by decide) ?_
  refine v_ldc2 hX (v := 58320) dX13_init_11 w_5_201 ?_
  refine v_last hX (by simp (disch := omega) only [q_K_s_I, q_K_s_J, q_K_s_P, q_K_s_A, q_K_s_B, q_K_s_C, q_K_r_A, q_K_r_B, y_K_n_O, x_K_n_O, y_K_n_A, x_K_n_A]) (by simp (disch := omega) only [q_L_s_I, q_L_s_J, q_L_s_P, q_L_s_A, q_L_s_B, q_L_s_C, q_L_n_O, q_L_r_A, q_L_r_B, y_L_n_A, x_L_n_A]; unfold vp_in; decide) dX13_init_14 ?_
  refine v_dup hX dX13_init_15 rfl ?_
  refine v_iconst hX (v := 1) dX13_init_16 (by decide) ?_
  refine v_ldc2 hX (v := 777) dX13_init_17 w_5_202 ?_
  refine v_last hX (by simp (disch := omega) only [q_K_s_I, q_K_s_J, q_K_s_P, q_K_s_A, q_K_s_B, q_K_s_C, q_K_r_A, q_K_r_B, y_K_n_O, x_K_n_O, y_K_n_A, x_K_n_A]) (by simp (disch := omega) only [q_L_s_I, q_L_s_J, q_L_s_P, q_L_s_A, q_L_s_B, q_L_s_C, q_L_n_O, q_L_r_A, q_L_r_B, y_L_n_A, x_L_n_A]; unfold vp_in; decide) dX13_init_20 ?_
  refine v_dup hX dX13_init_21 rfl ?_
  refine v_iconst hX (v := 2) dX13_init_22 (by decide) ?_
  refine v_ldc2 hX (v := 4356) dX13_init_23 w_5_203 ?_
  refine v_last hX (by simp (disch := omega) only [q_K_s_I, q_K_s_J, q_K_s_P, q_K_s_A, q_K_s_B, q_K_s_C, q_K_r_A, q_K_r_B, y_K_n_O, x_K_n_O, y_K_n_A, x_K_n_A]) (by simp (disch := omega) only [q_L_s_I, q_L_s_J, q_L_s_P, q_L_s_A, q_L_s_B, q_L_s_C, q_L_n_O, q_L_r_A, q_L_r_B, y_L_n_A, x_L_n_A]; unfold vp_in; decide) dX13_init_26 ?_
  refine v_dup hX dX13_init_27 rfl ?_
  refine v_iconst hX (v := 3) dX13_init_28 (by decide) ?_
  refine v_ldc2 hX (v := 79170) dX13_init_29 w_5_204 ?_
  refine v_last hX (by simp (disch := omega) only [q_K_s_I, q_K_s_J, q_K_s_P, q_K_s_A, q_K_s_B, q_K_s_C, q_K_r_A, q_K_r_B, y_K_n_O, x_K_n_O, y_K_n_A, x_K_n_A]) (by simp (disch := omega) only [q_L_s_I, q_L_s_J, q_L_s_P, q_L_s_A, q_L_s_B, q_L_s_C, q_L_n_O, q_L_r_A, q_L_r_B, y_L_n_A, x_L_n_A]; unfold vp_in; decide) dX13_init_32 ?_
  refine v_dup hX dX13_init_33 rfl ?_
  refine v_iconst hX (v := 4) dX13_init_34 (by decide) ?_
  refine v_ldc2 hX (v := 2) dX13_init_35 w_5_205 ?_
  refine v_last hX (by simp (disch := omega) only [q_K_s_I, q_K_s_J, q_K_s_P, q_K_s_A, q_K_s_B, q_K_s_C, q_K_r_A, q_K_r_B, y_K_n_O, x_K_n_O, y_K_n_A, x_K_n_A]) (by simp (disch := omega) only [q_L_s_I, q_L_s_J, q_L_s_P, q_L_s_A, q_L_s_B, q_L_s_C, q_L_n_O, q_L_r_A, q_L_r_B, y_L_n_A, x_L_n_A]; unfold vp_in; decide) dX13_init_38 ?_
  refine v_dup hX dX13_init_39 rfl ?_
  refine v_iconst hX (v := 5) dX13_init_40 (by decide) ?_
  refine v_ldc2 hX (v := 154) dX13_init_41 w_5_206 ?_
  refine v_last hX (by simp (disch := omega) only [q_K_s_I, q_K_s_J, q_K_s_P, q_K_s_A, q_K_s_B, q_K_s_C, q_K_r_A, q_K_r_B, y_K_n_O, x_K_n_O, y_K_n_A, x_K_n_A]) (by simp (disch := omega) only [q_L_s_I, q_L_s_J, q_L_s_P, q_L_s_A, q_L_s_B, q_L_s_C, q_L_n_O, q_L_r_A, q_L_r_B, y_L_n_A, x_L_n_A]; unfold vp_in; decide) dX13_init_44 ?_
  refine v_dup hX dX13_init_45 rfl ?_
  refine v_bipush hX (v := 6) dX13_init_46 (by decide) ?_
  refine v_ldc2 hX (v := 791) dX13_init_48 w_5_207 ?_
  refine v_last hX (by simp (disch := omega) only [q_K_s_I, q_K_s_J, q_K_s_P, q_K_s_A, q_K_s_B, q_K_s_C, q_K_r_A, q_K_r_B, y_K_n_O, x_K_n_O, y_K_n_A, x_K_n_A]) (by simp (disch := omega) only [q_L_s_I, q_L_s_J, q_L_s_P, q_L_s_A, q_L_s_B, q_L_s_C, q_L_n_O, q_L_r_A, q_L_r_B, y_L_n_A, x_L_n_A]; unfold vp_in; decide) dX13_init_51 ?_
  refine v_putP hX (ci := 11) (k := 0) (f := 1100) (by simp (disch := omega) only [q_K_s_I, q_K_s_J, q_K_s_P, q_K_s_A, q_K_s_B, q_K_s_C, q_K_r_A, q_K_r_B, y_K_n_O, x_K_n_O, y_K_n_A, x_K_n_A, ik.2.1]) bc_11 (by decide) (by decide) in_11 tyX13_ok nmX13 w_5_216 (Or.inr ⟨rfl, hI, rfl⟩) rfl rfl dX13_init_52 rfl rfl ?_
  exact kk (s_B (s_B (s_B (s_B (s_B (s_B (s_B (s_P (n_A Sk (z + 0) 14 7) 1100 a (some (z + 0))) (z + 0) 0 58320) (z + 0) 1 777) (z + 0) 2 4356) (z + 0) 3 79170) (z + 0) 4 2) (z + 0) 5 154) (z + 0) 6 791) (mRow (mRow (mRow (mRow (mRow (mRow (mRow (mStep ik hlt (by decide) (show mTab.getD 0 (0, 0, 0) = (1100, 14, 7) from rfl)) hlt (by decide) (by omega)) hlt (by decide) (by omega)) hlt (by decide) (by omega)) hlt (by decide) (by omega)) hlt (by decide) (by omega)) hlt (by decide) (by omega)) hlt (by decide) (by omega))
set_option maxRecDepth 100000 in
set_option maxHeartbeats 4000000 in
theorem mS_1 {X : b_T} (hX : b_X X cX13_init RX13 1 12 39 172401) (hI : b_I X) {S Sk : b_M} {a z : Nat} (hlt : a < z) (ik : mInv S Sk a z 1) (kk : ∀ S1, mInv S S1 a z 2 → b_V X S1 (z + 2) 2 13 99 [(0, .ref a)] []) : b_V X Sk (z + 1) 1 7 55 [(0, .ref a)] [] := by
  refine v_aload_n hX dX13_init_55 (i := 0) rfl rfl ?_
  refine v_bipush hX (v := 6) dX13_init_56 (by decide) ?_
  refine v_newa_l hX (N := 6) w_1_98 dX13_init_58 (by decide) (by decide) (by decide) (by omega) (by omega) ?_
  refine v_dup hX dX13_init_60 rfl ?_
  refine v_iconst hX (v := 0) dX13_init_61 (by decide) ?_
  refine v_ldc2 hX (v := 6091908) dX13_init_62 w_5_208 ?_
  refine v_last hX (by simp (disch := omega) only [q_K_s_I, q_K_s_J, q_K_s_P, q_K_s_A, q_K_s_B, q_K_s_C, q_K_r_A, q_K_r_B, y_K_n_O, x_K_n_O, y_K_n_A, x_K_n_A]) (by simp (disch := omega) only [q_L_s_I, q_L_s_J, q_L_s_P, q_L_s_A, q_L_s_B, q_L_s_C, q_L_n_O, q_L_r_A, q_L_r_B, y_L_n_A, x_L_n_A]; unfold vp_in; decide) dX13_init_65 ?_
  refine v_dup hX dX13_init_66 rfl ?_
  refine v_iconst hX (v := 1) dX13_init_67 (by decide) ?_
  refine v_ldc2 hX (v := 322965701) dX13_init_68 w_5_209 ?_
  refine v_last hX (by simp (disch := omega) only [q_K_s_I, q_K_s_J, q_K_s_P, q_K_s_A, q_K_s_B, q_K_s_C, q_K_r_A, q_K_r_B, y_K_n_O, x_K_n_O, y_K_n_A, x_K_n_A]) (by simp (disch := omega) only [q_L_s_I, q_L_s_J, q_L_s_P, q_L_s_A, q_L_s_B, q_L_s_C, q_L_n_O, q_L_r_A, q_L_r_B, y_L_n_A, x_L_n_A]; unfold vp_in; decide) dX13_init_71 ?_
  refine v_dup hX dX13_init_72 rfl ?_
  refine v_iconst hX (v := 2) dX13_init_73 (by decide) ?_
  refine v_ldc2 hX (v := 4256716) dX13_init_74 w_5_210 ?_
  refine v_last hX (by simp (disch := omega) only [q_K_s_I, q_K_s_J, q_K_s_P, q_K_s_A, q_K_s_B, q_K_s_C, q_K_r_A, q_K_r_B, y_K_n_O, x_K_n_O, y_K_n_A, x_K_n_A]) (by simp (disch := omega) only [q_L_s_I, q_L_s_J, q_L_s_P, q_L_s_A, q_L_s_B, q_L_s_C, q_L_n_O, q_L_r_A, q_L_r_B, y_L_n_A, x_L_n_A]; unfold vp_in; decide) dX13_init_77 ?_
  refine v_dup hX dX13_init_78 rfl ?_
  refine v_iconst hX (v := 3) dX13_init_79 (by decide) ?_
  refine v_ldc2 hX (v := 78164) dX13_init_80 w_5_211 ?_
  refine v_last hX (by simp (disch := omega) only [q_K_s_I, q_K_s_J, q_K_s_P, q_K_s_A, q_K_s_B, q_K_s_C, q_K_r_A, q_K_r_B, y_K_n_O, x_K_n_O, y_K_n_A, x_K_n_A]) (by simp (disch := omega) only [q_L_s_I, q_L_s_J, q_L_s_P, q_L_s_A, q_L_s_B, q_L_s_C, q_L_n_O, q_L_r_A, q_L_r_B, y_L_n_A, x_L_n_A]; unfold vp_in; decide) dX13_init_83 ?_
  refine v_dup hX dX13_init_84 rfl ?_
  refine v_iconst hX (v := 4) dX13_init_85 (by decide) ?_
  refine v_ldc2 hX (v := 218379407) dX13_init_86 w_5_212 ?_
  refine v_last hX (by simp (disch := omega) only [q_K_s_I, q_K_s_J, q_K_s_P, q_K_s_A, q_K_s_B, q_K_s_C, q_K_r_A, q_K_r_B, y_K_n_O, x_K_n_O, y_K_n_A, x_K_n_A]) (by simp (disch := omega) only [q_L_s_I, q_L_s_J, q_L_s_P, q_L_s_A, q_L_s_B, q_L_s_C, q_L_n_O, q_L_r_A, q_L_r_B, y_L_n_A, x_L_n_A]; unfold vp_in; decide) dX13_init_89 ?_
  refine v_dup hX dX13_init_90 rfl ?_
  refine v_iconst hX (v := 5) dX13_init_91 (by decide) ?_
  refine v_ldc2 hX (v := 21380) dX13_init_92 w_5_213 ?_
  refine v_last hX (by simp (disch := omega) only [q_K_s_I, q_K_s_J, q_K_s_P, q_K_s_A, q_K_s_B, q_K_s_C, q_K_r_A, q_K_r_B, y_K_n_O, x_K_n_O, y_K_n_A, x_K_n_A]) (by simp (disch := omega) only [q_L_s_I, q_L_s_J, q_L_s_P, q_L_s_A, q_L_s_B, q_L_s_C, q_L_n_O, q_L_r_A, q_L_r_B, y_L_n_A, x_L_n_A]; unfold vp_in; decide) dX13_init_95 ?_
  refine v_putP hX (ci := 11) (k := 1) (f := 1101) (by simp (disch := omega) only [q_K_s_I, q_K_s_J, q_K_s_P, q_K_s_A, q_K_s_B, q_K_s_C, q_K_r_A, q_K_r_B, y_K_n_O, x_K_n_O, y_K_n_A, x_K_n_A, ik.2.1]) bc_11 (by decide) (by decide) in_11 tyX13_ok nmX13 w_5_217 (Or.inr ⟨rfl, hI, rfl⟩) rfl rfl dX13_init_96 rfl rfl ?_
  exact kk (s_B (s_B (s_B (s_B (s_B (s_B (s_P (n_A Sk (z + 1) 14 6) 1101 a (some (z + 1))) (z + 1) 0 6091908) (z + 1) 1 322965701) (z + 1) 2 4256716) (z + 1) 3 78164) (z + 1) 4 218379407) (z + 1) 5 21380) (mRow (mRow (mRow (mRow (mRow (mRow (mStep ik hlt (by decide) (show mTab.getD 1 (0, 0, 0) = (1101, 14, 6) from rfl)) hlt (by decide) (by omega)) hlt (by decide) (by omega)) hlt (by decide) (by omega)) hlt (by decide) (by omega)) hlt (by decide) (by omega)) hlt (by decide) (by omega))
set_option maxRecDepth 100000 in
set_option maxHeartbeats 4000000 in
theorem mS_2 {X : b_T} (hX : b_X X cX13_init RX13 1 12 39 172401) (hI : b_I X) {S Sk : b_M} {a z : Nat} (hlt : a < z) (ik : mInv S Sk a z 2) (kk : ∀ S1, mInv S S1 a z 3 → b_V X S1 (z + 3) 3 4213 108 [(0, .ref a)] []) : b_V X Sk (z + 2) 2 13 99 [(0, .ref a)] [] := by
  refine v_aload_n hX dX13_init_99 (i := 0) rfl rfl ?_
  refine v_sipush hX (v := 4200) dX13_init_100 (by decide) ?_
  refine v_newa_i hX (N := 4200) w_1_57 dX13_init_103 (by decide) (by decide) (by decide) (by omega) (by omega) ?_
  refine v_putP hX (ci := 11) (k := 4) (f := 1104) (by simp (disch := omega) only [q_K_s_I, q_K_s_J, q_K_s_P, q_K_s_A, q_K_s_B, q_K_s_C, q_K_r_A, q_K_r_B, y_K_n_O, x_K_n_O, y_K_n_A, x_K_n_A, ik.2.1]) bc_11 (by decide) (by decide) in_11 tyX13_ok nmX13 w_5_220 (Or.inr ⟨rfl, hI, rfl⟩) rfl rfl dX13_init_105 rfl rfl ?_
  exact kk _ (mStep ik hlt (by decide) (show mTab.getD 2 (0, 0, 0) = (1104, 13, 4200) from rfl))
set_option maxRecDepth 100000 in
set_option maxHeartbeats 4000000 in
theorem mS_3 {X : b_T} (hX : b_X X cX13_init RX13 1 12 39 172401) (hI : b_I X) {S Sk : b_M} {a z : Nat} (hlt : a < z) (ik : mInv S Sk a z 3) (kk : ∀ S1, mInv S S1 a z 4 → b_V X S1 (z + 4) 4 8413 117 [(0, .ref a)] []) : b_V X Sk (z + 3) 3 4213 108 [(0, .ref a)] [] := by
  refine v_aload_n hX dX13_init_108 (i := 0) rfl rfl ?_
  refine v_sipush hX (v := 4200) dX13_init_109 (by decide) ?_
  refine v_newa_i hX (N := 4200) w_1_57 dX13_init_112 (by decide) (by decide) (by decide) (by omega) (by omega) ?_
  refine v_putP hX (ci := 11) (k := 6) (f := 1106) (by simp (disch := omega) only [q_K_s_I, q_K_s_J, q_K_s_P, q_K_s_A, q_K_s_B, q_K_s_C, q_K_r_A, q_K_r_B, y_K_n_O, x_K_n_O, y_K_n_A, x_K_n_A, ik.2.1]) bc_11 (by decide) (by decide) in_11 tyX13_ok nmX13 w_5_222 (Or.inr ⟨rfl, hI, rfl⟩) rfl rfl dX13_init_114 rfl rfl ?_
  exact kk _ (mStep ik hlt (by decide) (show mTab.getD 3 (0, 0, 0) = (1106, 13, 4200) from rfl))
set_option maxRecDepth 100000 in
set_option maxHeartbeats 4000000 in
theorem mS_4 {X : b_T} (hX : b_X X cX13_init RX13 1 12 39 172401) (hI : b_I X) {S Sk : b_M} {a z : Nat} (hlt : a < z) (ik : mInv S Sk a z 4) (kk : ∀ S1, mInv S S1 a z 5 → b_V X S1 (z + 5) 5 16813 126 [(0, .ref a)] []) : b_V X Sk (z + 4) 4 8413 117 [(0, .ref a)] [] := by
  refine v_aload_n hX dX13_init_117 (i := 0) rfl rfl ?_
  refine v_sipush hX (v := 8400) dX13_init_118 (by decide) ?_
  refine v_newa_i hX (N := 8400) w_1_57 dX13_init_121 (by decide) (by decide) (by decide) (by omega) (by omega) ?_
  refine v_putP hX (ci := 11) (k := 11) (f := 1111) (by simp (disch := omega) only [q_K_s_I, q_K_s_J, q_K_s_P, q_K_s_A, q_K_s_B, q_K_s_C, q_K_r_A, q_K_r_B, y_K_n_O, x_K_n_O, y_K_n_A, x_K_n_A, ik.2.1]) bc_11 (by decide) (by decide) in_11 tyX13_ok nmX13 w_5_227 (Or.inr ⟨rfl, hI, rfl⟩) rfl rfl dX13_init_123 rfl rfl ?_
  exact kk _ (mStep ik hlt (by decide) (show mTab.getD 4 (0, 0, 0) = (1111, 13, 8400) from rfl))
set_option maxRecDepth 100000 in
set_option maxHeartbeats 4000000 in
theorem mS_5 {X : b_T} (hX : b_X X cX13_init RX13 1 12 39 172401) (hI : b_I X) {S Sk : b_M} {a z : Nat} (hlt : a < z) (ik : mInv S Sk a z 5) (kk : ∀ S1, mInv S S1 a z 6 → b_V X S1 (z + 6) 6 16825 134 [(0, .ref a)] []) : b_V X Sk (z + 5) 5 16813 126 [(0, .ref a)] [] := by
  refine v_aload_n hX dX13_init_126 (i := 0) rfl rfl ?_
  refine v_bipush hX (v := 12) dX13_init_127 (by decide) ?_
  refine v_newa_l hX (N := 12) w_1_98 dX13_init_129 (by decide) (by decide) (by decide) (by omega) (by omega) ?_
  refine v_putP hX (ci := 11) (k := 15) (f := 1115) (by simp (disch := omega) only [q_K_s_I, q_K_s_J, q_K_s_P, q_K_s_A, q_K_s_B, q_K_s_C, q_K_r_A, q_K_r_B, y_K_n_O, x_K_n_O, y_K_n_A, x_K_n_A, ik.2.1]) bc_11 (by decide) (by decide) in_11 tyX13_ok nmX13 w_5_231 (Or.inr ⟨rfl, hI, rfl⟩) rfl rfl dX13_init_131 rfl rfl ?_
  exact kk _ (mStep ik hlt (by decide) (show mTab.getD 5 (0, 0, 0) = (1115, 14, 12) from rfl))
set_option maxRecDepth 100000 in
set_option maxHeartbeats 4000000 in
theorem mS_6 {X : b_T} (hX : b_X X cX13_init RX13 1 12 39 172401) (hI : b_I X) {S Sk : b_M} {a z : Nat} (hlt : a < z) (ik : mInv S Sk a z 6) (kk : ∀ S1, mInv S S1 a z 7 → b_V X S1 (z + 7) 7 16837 142 [(0, .ref a)] []) : b_V X Sk (z + 6) 6 16825 134 [(0, .ref a)] [] := by
  refine v_aload_n hX dX13_init_134 (i := 0) rfl rfl ?_
  refine v_bipush hX (v := 12) dX13_init_135 (by decide) ?_
  refine v_newa_i hX (N := 12) w_1_57 dX13_init_137 (by decide) (by decide) (by decide) (by omega) (by omega) ?_
  refine v_putP hX (ci := 11) (k := 16) (f := 1116) (by simp (disch := omega) only [q_K_s_I, q_K_s_J, q_K_s_P, q_K_s_A, q_K_s_B, q_K_s_C, q_K_r_A, q_K_r_B, y_K_n_O, x_K_n_O, y_K_n_A, x_K_n_A, ik.2.1]) bc_11 (by decide) (by decide) in_11 tyX13_ok nmX13 w_5_232 (Or.inr ⟨rfl, hI, rfl⟩) rfl rfl dX13_init_139 rfl rfl ?_
  exact kk _ (mStep ik hlt (by decide) (show mTab.getD 6 (0, 0, 0) = (1116, 13, 12) from rfl))
set_option maxRecDepth 100000 in
set_option maxHeartbeats 4000000 in
theorem mS_7 {X : b_T} (hX : b_X X cX13_init RX13 1 12 39 172401) (hI : b_I X) {S Sk : b_M} {a z : Nat} (hlt : a < z) (ik : mInv S Sk a z 7) (kk : ∀ S1, mInv S S1 a z 8 → b_V X S1 (z + 8) 8 16849 150 [(0, .ref a)] []) : b_V X Sk (z + 7) 7 16837 142 [(0, .ref a)] [] := by
  refine v_aload_n hX dX13_init_142 (i := 0) rfl rfl ?_
  refine v_bipush hX (v := 12) dX13_init_143 (by decide) ?_
  refine v_newa_i hX (N := 12) w_1_57 dX13_init_145 (by decide) (by decide) (by decide) (by omega) (by omega) ?_
  refine v_putP hX (ci := 11) (k := 17) (f := 1117) (by simp (disch := omega) only [q_K_s_I, q_K_s_J, q_K_s_P, q_K_s_A, q_K_s_B, q_K_s_C, q_K_r_A, q_K_r_B, y_K_n_O, x_K_n_O, y_K_n_A, x_K_n_A, ik.2.1]) bc_11 (by decide) (by decide) in_11 tyX13_ok nmX13 w_5_233 (Or.inr ⟨rfl, hI, rfl⟩) rfl rfl dX13_init_147 rfl rfl ?_
  exact kk _ (mStep ik hlt (by decide) (show mTab.getD 7 (0, 0, 0) = (1117, 13, 12) from rfl))
set_option maxRecDepth 100000 in
set_option maxHeartbeats 4000000 in
theorem mS_8 {X : b_T} (hX : b_X X cX13_init RX13 1 12 39 172401) (hI : b_I X) {S Sk : b_M} {a z : Nat} (hlt : a < z) (ik : mInv S Sk a z 8) (kk : ∀ S1, mInv S S1 a z 9 → b_V X S1 (z + 9) 9 21049 159 [(0, .ref a)] []) : b_V X Sk (z + 8) 8 16849 150 [(0, .ref a)] [] := by
  refine v_aload_n hX dX13_init_150 (i := 0) rfl rfl ?_
  refine v_sipush hX (v := 4200) dX13_init_151 (by decide) ?_
  refine v_newa_i hX (N := 4200) w_1_57 dX13_init_154 (by decide) (by decide) (by decide) (by omega) (by omega) ?_
  refine v_putP hX (ci := 11) (k := 18) (f := 1118) (by simp (disch := omega) only [q_K_s_I, q_K_s_J, q_K_s_P, q_K_s_A, q_K_s_B, q_K_s_C, q_K_r_A, q_K_r_B, y_K_n_O, x_K_n_O, y_K_n_A, x_K_n_A, ik.2.1]) bc_11 (by decide) (by decide) in_11 tyX13_ok nmX13 w_5_234 (Or.inr ⟨rfl, hI, rfl⟩) rfl rfl dX13_init_156 rfl rfl ?_
  exact kk _ (mStep ik hlt (by decide) (show mTab.getD 8 (0, 0, 0) = (1118, 13, 4200) from rfl))
set_option maxRecDepth 100000 in
set_option maxHeartbeats 4000000 in
theorem mS_9 {X : b_T} (hX : b_X X cX13_init RX13 1 12 39 172401) (hI : b_I X) {S Sk : b_M} {a z : Nat} (hlt : a < z) (ik : mInv S Sk a z 9) (kk : ∀ S1, mInv S S1 a z 10 → b_V X S1 (z + 10) 10 25249 168 [(0, .ref a)] []) : b_V X Sk (z + 9) 9 21049 159 [(0, .ref a)] [] := by
  refine v_aload_n hX dX13_init_159 (i := 0) rfl rfl ?_
  refine v_sipush hX (v := 4200) dX13_init_160 (by decide) ?_
  refine v_newa_i hX (N := 4200) w_1_57 dX13_init_163 (by decide) (by decide) (by decide) (by omega) (by omega) ?_
  refine v_putP hX (ci := 11) (k := 19) (f := 1119) (by simp (disch := omega) only [q_K_s_I, q_K_s_J, q_K_s_P, q_K_s_A, q_K_s_B, q_K_s_C, q_K_r_A, q_K_r_B, y_K_n_O, x_K_n_O, y_K_n_A, x_K_n_A, ik.2.1]) bc_11 (by decide) (by decide) in_11 tyX13_ok nmX13 w_5_235 (Or.inr ⟨rfl, hI, rfl⟩) rfl rfl dX13_init_165 rfl rfl ?_
  exact kk _ (mStep ik hlt (by decide) (show mTab.getD 9 (0, 0, 0) = (1119, 13, 4200) from rfl))
set_option maxRecDepth 100000 in
set_option maxHeartbeats 4000000 in
theorem mS_10 {X : b_T} (hX : b_X X cX13_init RX13 1 12 39 172401) (hI : b_I X) {S Sk : b_M} {a z : Nat} (hlt : a < z) (ik : mInv S Sk a z 10) (kk : ∀ S1, mInv S S1 a z 11 → b_V X S1 (z + 11) 11 25256 176 [(0, .ref a)] []) : b_V X Sk (z + 10) 10 25249 168 [(0, .ref a)] [] := by
  refine v_aload_n hX dX13_init_168 (i := 0) rfl rfl ?_
  refine v_bipush hX (v := 7) dX13_init_169 (by decide) ?_
  refine v_newa_i hX (N := 7) w_1_57 dX13_init_171 (by decide) (by decide) (by decide) (by omega) (by omega) ?_
  refine v_putP hX (ci := 11) (k := 21) (f := 1121) (by simp (disch := omega) only [q_K_s_I, q_K_s_J, q_K_s_P, q_K_s_A, q_K_s_B, q_K_s_C, q_K_r_A, q_K_r_B, y_K_n_O, x_K_n_O, y_K_n_A, x_K_n_A, ik.2.1]) bc_11 (by decide) (by decide) in_11 tyX13_ok nmX13 w_5_237 (Or.inr ⟨rfl, hI, rfl⟩) rfl rfl dX13_init_173 rfl rfl ?_
  exact kk _ (mStep ik hlt (by decide) (show mTab.getD 10 (0, 0, 0) = (1121, 13, 7) from rfl))
set_option maxRecDepth 100000 in
set_option maxHeartbeats 4000000 in
theorem mS_11 {X : b_T} (hX : b_X X cX13_init RX13 1 12 39 172401) (hI : b_I X) {S Sk : b_M} {a z : Nat} (hlt : a < z) (ik : mInv S Sk a z 11) (kk : ∀ S1, mInv S S1 a z 12 → b_V X S1 (z + 12) 12 25263 184 [(0, .ref a)] []) : b_V X Sk (z + 11) 11 25256 176 [(0, .ref a)] [] := by
  refine v_aload_n hX dX13_init_176 (i := 0) rfl rfl ?_
  refine v_bipush hX (v := 7) dX13_init_177 (by decide) ?_
  refine v_newa_i hX (N := 7) w_1_57 dX13_init_179 (by decide) (by decide) (by decide) (by omega) (by omega) ?_
  refine v_putP hX (ci := 11) (k := 22) (f := 1122) (by simp (disch := omega) only [q_K_s_I, q_K_s_J, q_K_s_P, q_K_s_A, q_K_s_B, q_K_s_C, q_K_r_A, q_K_r_B, y_K_n_O, x_K_n_O, y_K_n_A, x_K_n_A, ik.2.1]) bc_11 (by decide) (by decide) in_11 tyX13_ok nmX13 w_5_238 (Or.inr ⟨rfl, hI, rfl⟩) rfl rfl dX13_init_181 rfl rfl ?_
  exact kk _ (mStep ik hlt (by decide) (show mTab.getD 11 (0, 0, 0) = (1122, 13, 7) from rfl))
set_option maxRecDepth 100000 in
set_option maxHeartbeats 4000000 in
theorem mS_12 {X : b_T} (hX : b_X X cX13_init RX13 1 12 39 172401) (hI : b_I X) {S Sk : b_M} {a z : Nat} (hlt : a < z) (ik : mInv S Sk a z 12) (kk : ∀ S1, mInv S S1 a z 13 → b_V X S1 (z + 13) 13 25270 192 [(0, .ref a)] []) : b_V X Sk (z + 12) 12 25263 184 [(0, .ref a)] [] := by
  refine v_aload_n hX dX13_init_184 (i := 0) rfl rfl ?_
  refine v_bipush hX (v := 7) dX13_init_185 (by decide) ?_
  refine v_newa_i hX (N := 7) w_1_57 dX13_init_187 (by decide) (by decide) (by decide) (by omega) (by omega) ?_
  refine v_putP hX (ci := 11) (k := 23) (f := 1123) (by simp (disch := omega) only [q_K_s_I, q_K_s_J, q_K_s_P, q_K_s_A, q_K_s_B, q_K_s_C, q_K_r_A, q_K_r_B, y_K_n_O, x_K_n_O, y_K_n_A, x_K_n_A, ik.2.1]) bc_11 (by decide) (by decide) in_11 tyX13_ok nmX13 w_5_239 (Or.inr ⟨rfl, hI, rfl⟩) rfl rfl dX13_init_189 rfl rfl ?_
  exact kk _ (mStep ik hlt (by decide) (show mTab.getD 12 (0, 0, 0) = (1123, 13, 7) from rfl))
set_option maxRecDepth 100000 in
set_option maxHeartbeats 4000000 in
theorem mS_13 {X : b_T} (hX : b_X X cX13_init RX13 1 12 39 172401) (hI : b_I X) {S Sk : b_M} {a z : Nat} (hlt : a < z) (ik : mInv S Sk a z 13) (kk : ∀ S1, mInv S S1 a z 14 → b_V X S1 (z + 14) 14 25298 200 [(0, .ref a)] []) : b_V X Sk (z + 13) 13 25270 192 [(0, .ref a)] [] := by
  refine v_aload_n hX dX13_init_192 (i := 0) rfl rfl ?_
  refine v_bipush hX (v := 28) dX13_init_193 (by decide) ?_
  refine v_newa_i hX (N := 28) w_1_57 dX13_init_195 (by decide) (by decide) (by decide) (by omega) (by omega) ?_
  refine v_putP hX (ci := 11) (k := 24) (f := 1124) (by simp (disch := omega) only [q_K_s_I, q_K_s_J, q_K_s_P, q_K_s_A, q_K_s_B, q_K_s_C, q_K_r_A, q_K_r_B, y_K_n_O, x_K_n_O, y_K_n_A, x_K_n_A, ik.2.1]) bc_11 (by decide) (by decide) in_11 tyX13_ok nmX13 w_6_0 (Or.inr ⟨rfl, hI, rfl⟩) rfl rfl dX13_init_197 rfl rfl ?_
  exact kk _ (mStep ik hlt (by decide) (show mTab.getD 13 (0, 0, 0) = (1124, 13, 28) from rfl))
set_option maxRecDepth 100000 in
set_option maxHeartbeats 4000000 in
theorem mS_14 {X : b_T} (hX : b_X X cX13_init RX13 1 12 39 172401) (hI : b_I X) {S Sk : b_M} {a z : Nat} (hlt : a < z) (ik : mInv S Sk a z 14) (kk : ∀ S1, mInv S S1 a z 15 → b_V X S1 (z + 15) 15 25326 208 [(0, .ref a)] []) : b_V X Sk (z + 14) 14 25298 200 [(0, .ref a)] [] := by
  refine v_aload_n hX dX13_init_200 (i := 0) rfl rfl ?_
  refine v_bipush hX (v := 28) dX13_init_201 (by decide) ?_
  refine v_newa_i hX (N := 28) w_1_57 dX13_init_203 (by decide) (by decide) (by decide) (by omega) (by omega) ?_
  refine v_putP hX (ci := 11) (k := 25) (f := 1125) (by simp (disch := omega) only [q_K_s_I, q_K_s_J, q_K_s_P, q_K_s_A, q_K_s_B, q_K_s_C, q_K_r_A, q_K_r_B, y_K_n_O, x_K_n_O, y_K_n_A, x_K_n_A, ik.2.1]) bc_11 (by decide) (by decide) in_11 tyX13_ok nmX13 w_6_1 (Or.inr ⟨rfl, hI, rfl⟩) rfl rfl dX13_init_205 rfl rfl ?_
  exact kk _ (mStep ik hlt (by decide) (show mTab.getD 14 (0, 0, 0) = (1125, 13, 28) from rfl))
set_option maxRecDepth 100000 in
set_option maxHeartbeats 4000000 in
theorem mS_15 {X : b_T} (hX : b_X X cX13_init RX13 1 12 39 172401) (hI : b_I X) {S Sk : b_M} {a z : Nat} (hlt : a < z) (ik : mInv S Sk a z 15) (kk : ∀ S1, mInv S S1 a z 16 → b_V X S1 (z + 16) 16 33726 217 [(0, .ref a)] []) : b_V X Sk (z + 15) 15 25326 208 [(0, .ref a)] [] := by
  refine v_aload_n hX dX13_init_208 (i := 0) rfl rfl ?_
  refine v_sipush hX (v := 8400) dX13_init_209 (by decide) ?_
  refine v_newa_i hX (N := 8400) w_1_57 dX13_init_212 (by decide) (by decide) (by decide) (by omega) (by omega) ?_
  refine v_putP hX (ci := 11) (k := 26) (f := 1126) (by simp (disch := omega) only [q_K_s_I, q_K_s_J, q_K_s_P, q_K_s_A, q_K_s_B, q_K_s_C, q_K_r_A, q_K_r_B, y_K_n_O, x_K_n_O, y_K_n_A, x_K_n_A, ik.2.1]) bc_11 (by decide) (by decide) in_11 tyX13_ok nmX13 w_6_2 (Or.inr ⟨rfl, hI, rfl⟩) rfl rfl dX13_init_214 rfl rfl ?_
  exact kk _ (mStep ik hlt (by decide) (show mTab.getD 15 (0, 0, 0) = (1126, 13, 8400) from rfl))
set_option maxRecDepth 100000 in
set_option maxHeartbeats 4000000 in
theorem mS_16 {X : b_T} (hX : b_X X cX13_init RX13 1 12 39 172401) (hI : b_I X) {S Sk : b_M} {a z : Nat} (hlt : a < z) (ik : mInv S Sk a z 16) (kk : ∀ S1, mInv S S1 a z 17 → b_V X S1 (z + 17) 17 34126 226 [(0, .ref a)] []) : b_V X Sk (z + 16) 16 33726 217 [(0, .ref a)] [] := by
  refine v_aload_n hX dX13_init_217 (i := 0) rfl rfl ?_
  refine v_sipush hX (v := 400) dX13_init_218 (by decide) ?_
  refine v_newa_i hX (N := 400) w_1_57 dX13_init_221 (by decide) (by decide) (by decide) (by omega) (by omega) ?_
  refine v_putP hX (ci := 11) (k := 29) (f := 1129) (by simp (disch := omega) only [q_K_s_I, q_K_s_J, q_K_s_P, q_K_s_A, q_K_s_B, q_K_s_C, q_K_r_A, q_K_r_B, y_K_n_O, x_K_n_O, y_K_n_A, x_K_n_A, ik.2.1]) bc_11 (by decide) (by decide) in_11 tyX13_ok nmX13 w_6_5 (Or.inr ⟨rfl, hI, rfl⟩) rfl rfl dX13_init_223 rfl rfl ?_
  exact kk _ (mStep ik hlt (by decide) (show mTab.getD 16 (0, 0, 0) = (1129, 13, 400) from rfl))
set_option maxRecDepth 100000 in
set_option maxHeartbeats 4000000 in
theorem mS_17 {X : b_T} (hX : b_X X cX13_init RX13 1 12 39 172401) (hI : b_I X) {S Sk : b_M} {a z : Nat} (hlt : a < z) (ik : mInv S Sk a z 17) (kk : ∀ S1, mInv S S1 a z 18 → b_V X S1 (z + 18) 18 34526 235 [(0, .ref a)] []) : b_V X Sk (z + 17) 17 34126 226 [(0, .ref a)] [] := by
  refine v_aload_n hX dX13_init_226 (i := 0) rfl rfl ?_
  refine v_sipush hX (v := 400) dX13_init_227 (by decide) ?_
  refine v_newa_i hX (N := 400) w_1_57 dX13_init_230 (by decide) (by decide) (by decide) (by omega) (by omega) ?_
  refine v_putP hX (ci := 11) (k := 30) (f := 1130) (by simp (disch := omega) only [q_K_s_I, q_K_s_J, q_K_s_P, q_K_s_A, q_K_s_B, q_K_s_C, q_K_r_A, q_K_r_B, y_K_n_O, x_K_n_O, y_K_n_A, x_K_n_A, ik.2.1]) bc_11 (by decide) (by decide) in_11 tyX13_ok nmX13 w_6_6 (Or.inr ⟨rfl, hI, rfl⟩) rfl rfl dX13_init_232 rfl rfl ?_
  exact kk _ (mStep ik hlt (by decide) (show mTab.getD 17 (0, 0, 0) = (1130, 13, 400) from rfl))
set_option maxRecDepth 100000 in
set_option maxHeartbeats 4000000 in
theorem mS_18 {X : b_T} (hX : b_X X cX13_init RX13 1 12 39 172401) (hI : b_I X) {S Sk : b_M} {a z : Nat} (hlt : a < z) (ik : mInv S Sk a z 18) (kk : ∀ S1, mInv S S1 a z 19 → b_V X S1 (z + 19) 19 34926 244 [(0, .ref a)] []) : b_V X Sk (z + 18) 18 34526 235 [(0, .ref a)] [] := by
  refine v_aload_n hX dX13_init_235 (i := 0) rfl rfl ?_
  refine v_sipush hX (v := 400) dX13_init_236 (by decide) ?_
  refine v_newa_i hX (N := 400) w_1_57 dX13_init_239 (by decide) (by decide) (by decide) (by omega) (by omega) ?_
  refine v_putP hX (ci := 11) (k := 31) (f := 1131) (by simp (disch := omega) only [q_K_s_I, q_K_s_J, q_K_s_P, q_K_s_A, q_K_s_B, q_K_s_C, q_K_r_A, q_K_r_B, y_K_n_O, x_K_n_O, y_K_n_A, x_K_n_A, ik.2.1]) bc_11 (by decide) (by decide) in_11 tyX13_ok nmX13 w_6_7 (Or.inr ⟨rfl, hI, rfl⟩) rfl rfl dX13_init_241 rfl rfl ?_
  exact kk _ (mStep ik hlt (by decide) (show mTab.getD 18 (0, 0, 0) = (1131, 13, 400) from rfl))
set_option maxRecDepth 100000 in
set_option maxHeartbeats 4000000 in
theorem mS_19 {X : b_T} (hX : b_X X cX13_init RX13 1 12 39 172401) (hI : b_I X) {S Sk : b_M} {a z : Nat} (hlt : a < z) (ik : mInv S Sk a z 19) (kk : ∀ S1, mInv S S1 a z 20 → b_V X S1 (z + 20) 20 35326 253 [(0, .ref a)] []) : b_V X Sk (z + 19) 19 34926 244 [(0, .ref a)] [] := by
  refine v_aload_n hX dX13_init_244 (i := 0) rfl rfl ?_
  refine v_sipush hX (v := 400) dX13_init_245 (by decide) ?_
  refine v_newa_i hX (N := 400) w_1_57 dX13_init_248 (by decide) (by decide) (by decide) (by omega) (by omega) ?_
  refine v_putP hX (ci := 11) (k := 32) (f := 1132) (by simp (disch := omega) only [q_K_s_I, q_K_s_J, q_K_s_P, q_K_s_A, q_K_s_B, q_K_s_C, q_K_r_A, q_K_r_B, y_K_n_O, x_K_n_O, y_K_n_A, x_K_n_A, ik.2.1]) bc_11 (by decide) (by decide) in_11 tyX13_ok nmX13 w_6_8 (Or.inr ⟨rfl, hI, rfl⟩) rfl rfl dX13_init_250 rfl rfl ?_
  exact kk _ (mStep ik hlt (by decide) (show mTab.getD 19 (0, 0, 0) = (1132, 13, 400) from rfl))
set_option maxRecDepth 100000 in
set_option maxHeartbeats 4000000 in
theorem mS_20 {X : b_T} (hX : b_X X cX13_init RX13 1 12 39 172401) (hI : b_I X) {S Sk : b_M} {a z : Nat} (hlt : a < z) (ik : mInv S Sk a z 20) (kk : ∀ S1, mInv S S1 a z 21 → b_V X S1 (z + 21) 21 35726 262 [(0, .ref a)] []) : b_V X Sk (z + 20) 20 35326 253 [(0, .ref a)] [] := by
  refine v_aload_n hX dX13_init_253 (i := 0) rfl rfl ?_
  refine v_sipush hX (v := 400) dX13_init_254 (by decide) ?_
  refine v_newa_i hX (N := 400) w_1_57 dX13_init_257 (by decide) (by decide) (by decide) (by omega) (by omega) ?_
  refine v_putP hX (ci := 11) (k := 33) (f := 1133) (by simp (disch := omega) only [q_K_s_I, q_K_s_J, q_K_s_P, q_K_s_A, q_K_s_B, q_K_s_C, q_K_r_A, q_K_r_B, y_K_n_O, x_K_n_O, y_K_n_A, x_K_n_A, ik.2.1]) bc_11 (by decide) (by decide) in_11 tyX13_ok nmX13 w_6_9 (Or.inr ⟨rfl, hI, rfl⟩) rfl rfl dX13_init_259 rfl rfl ?_
  exact kk _ (mStep ik hlt (by decide) (show mTab.getD 20 (0, 0, 0) = (1133, 13, 400) from rfl))
set_option maxRecDepth 100000 in
set_option maxHeartbeats 4000000 in
theorem mS_21 {X : b_T} (hX : b_X X cX13_init RX13 1 12 39 172401) (hI : b_I X) {S Sk : b_M} {a z : Nat} (hlt : a < z) (ik : mInv S Sk a z 21) (kk : ∀ S1, mInv S S1 a z 22 → b_V X S1 (z + 22) 22 36126 271 [(0, .ref a)] []) : b_V X Sk (z + 21) 21 35726 262 [(0, .ref a)] [] := by
  refine v_aload_n hX dX13_init_262 (i := 0) rfl rfl ?_
  refine v_sipush hX (v := 400) dX13_init_263 (by decide) ?_
  refine v_newa_i hX (N := 400) w_1_57 dX13_init_266 (by decide) (by decide) (by decide) (by omega) (by omega) ?_
  refine v_putP hX (ci := 11) (k := 34) (f := 1134) (by simp (disch := omega) only [q_K_s_I, q_K_s_J, q_K_s_P, q_K_s_A, q_K_s_B, q_K_s_C, q_K_r_A, q_K_r_B, y_K_n_O, x_K_n_O, y_K_n_A, x_K_n_A, ik.2.1]) bc_11 (by decide) (by decide) in_11 tyX13_ok nmX13 w_6_10 (Or.inr ⟨rfl, hI, rfl⟩) rfl rfl dX13_init_268 rfl rfl ?_
  exact kk _ (mStep ik hlt (by decide) (show mTab.getD 21 (0, 0, 0) = (1134, 13, 400) from rfl))
set_option maxRecDepth 100000 in
set_option maxHeartbeats 4000000 in
theorem mS_22 {X : b_T} (hX : b_X X cX13_init RX13 1 12 39 172401) (hI : b_I X) {S Sk : b_M} {a z : Nat} (hlt : a < z) (ik : mInv S Sk a z 22) (kk : ∀ S1, mInv S S1 a z 23 → b_V X S1 (z + 23) 23 36526 280 [(0, .ref a)] []) : b_V X Sk (z + 22) 22 36126 271 [(0, .ref a)] [] := by
  refine v_aload_n hX dX13_init_271 (i := 0) rfl rfl ?_
  refine v_sipush hX (v := 400) dX13_init_272 (by decide) ?_
  refine v_newa_i hX (N := 400) w_1_57 dX13_init_275 (by decide) (by decide) (by decide) (by omega) (by omega) ?_
  refine v_putP hX (ci := 11) (k := 35) (f := 1135) (by simp (disch := omega) only [q_K_s_I, q_K_s_J, q_K_s_P, q_K_s_A, q_K_s_B, q_K_s_C, q_K_r_A, q_K_r_B, y_K_n_O, x_K_n_O, y_K_n_A, x_K_n_A, ik.2.1]) bc_11 (by decide) (by decide) in_11 tyX13_ok nmX13 w_6_11 (Or.inr ⟨rfl, hI, rfl⟩) rfl rfl dX13_init_277 rfl rfl ?_
  exact kk _ (mStep ik hlt (by decide) (show mTab.getD 22 (0, 0, 0) = (1135, 13, 400) from rfl))
set_option maxRecDepth 100000 in
set_option maxHeartbeats 4000000 in
theorem mS_23 {X : b_T} (hX : b_X X cX13_init RX13 1 12 39 172401) (hI : b_I X) {S Sk : b_M} {a z : Nat} (hlt : a < z) (ik : mInv S Sk a z 23) (kk : ∀ S1, mInv S S1 a z 24 → b_V X S1 (z + 24) 24 36926 289 [(0, .ref a)] []) : b_V X Sk (z + 23) 23 36526 280 [(0, .ref a)] [] := by
  refine v_aload_n hX dX13_init_280 (i := 0) rfl rfl ?_
  refine v_sipush hX (v := 400) dX13_init_281 (by decide) ?_
  refine v_newa_l hX (N := 400) w_1_98 dX13_init_284 (by decide) (by decide) (by decide) (by omega) (by omega) ?_
  refine v_putP hX (ci := 11) (k := 36) (f := 1136) (by simp (disch := omega) only [q_K_s_I, q_K_s_J, q_K_s_P, q_K_s_A, q_K_s_B, q_K_s_C, q_K_r_A, q_K_r_B, y_K_n_O, x_K_n_O, y_K_n_A, x_K_n_A, ik.2.1]) bc_11 (by decide) (by decide) in_11 tyX13_ok nmX13 w_6_12 (Or.inr ⟨rfl, hI, rfl⟩) rfl rfl dX13_init_286 rfl rfl ?_
  exact kk _ (mStep ik hlt (by decide) (show mTab.getD 23 (0, 0, 0) = (1136, 14, 400) from rfl))
set_option maxRecDepth 100000 in
set_option maxHeartbeats 4000000 in
theorem mS_24 {X : b_T} (hX : b_X X cX13_init RX13 1 12 39 172401) (hI : b_I X) {S Sk : b_M} {a z : Nat} (hlt : a < z) (ik : mInv S Sk a z 24) (kk : ∀ S1, mInv S S1 a z 25 → b_V X S1 (z + 25) 25 37326 298 [(0, .ref a)] []) : b_V X Sk (z + 24) 24 36926 289 [(0, .ref a)] [] := by
  refine v_aload_n hX dX13_init_289 (i := 0) rfl rfl ?_
  refine v_sipush hX (v := 400) dX13_init_290 (by decide) ?_
  refine v_newa_z hX (N := 400) w_6_193 dX13_init_293 (by decide) (by decide) (by decide) (by omega) (by omega) ?_
  refine v_putP hX (ci := 11) (k := 37) (f := 1137) (by simp (disch := omega) only [q_K_s_I, q_K_s_J, q_K_s_P, q_K_s_A, q_K_s_B, q_K_s_C, q_K_r_A, q_K_r_B, y_K_n_O, x_K_n_O, y_K_n_A, x_K_n_A, ik.2.1]) bc_11 (by decide) (by decide) in_11 tyX13_ok nmX13 w_6_13 (Or.inr ⟨rfl, hI, rfl⟩) rfl rfl dX13_init_295 rfl rfl ?_
  exact kk _ (mStep ik hlt (by decide) (show mTab.getD 24 (0, 0, 0) = (1137, 15, 400) from rfl))
set_option maxRecDepth 100000 in
set_option maxHeartbeats 4000000 in
theorem mS_25 {X : b_T} (hX : b_X X cX13_init RX13 1 12 39 172401) (hI : b_I X) {S Sk : b_M} {a z : Nat} (hlt : a < z) (ik : mInv S Sk a z 25) (kk : ∀ S1, mInv S S1 a z 26 → b_V X S1 (z + 26) 26 37726 307 [(0, .ref a)] []) : b_V X Sk (z + 25) 25 37326 298 [(0, .ref a)] [] := by
  refine v_aload_n hX dX13_init_298 (i := 0) rfl rfl ?_
  refine v_sipush hX (v := 400) dX13_init_299 (by decide) ?_
  refine v_newa_i hX (N := 400) w_1_57 dX13_init_302 (by decide) (by decide) (by decide) (by omega) (by omega) ?_
  refine v_putP hX (ci := 11) (k := 38) (f := 1138) (by simp (disch := omega) only [q_K_s_I, q_K_s_J, q_K_s_P, q_K_s_A, q_K_s_B, q_K_s_C, q_K_r_A, q_K_r_B, y_K_n_O, x_K_n_O, y_K_n_A, x_K_n_A, ik.2.1]) bc_11 (by decide) (by decide) in_11 tyX13_ok nmX13 w_6_14 (Or.inr ⟨rfl, hI, rfl⟩) rfl rfl dX13_init_304 rfl rfl ?_
  exact kk _ (mStep ik hlt (by decide) (show mTab.getD 25 (0, 0, 0) = (1138, 13, 400) from rfl))
set_option maxRecDepth 100000 in
set_option maxHeartbeats 4000000 in
theorem mS_26 {X : b_T} (hX : b_X X cX13_init RX13 1 12 39 172401) (hI : b_I X) {S Sk : b_M} {a z : Nat} (hlt : a < z) (ik : mInv S Sk a z 26) (kk : ∀ S1, mInv S S1 a z 27 → b_V X S1 (z + 27) 27 40926 316 [(0, .ref a)] []) : b_V X Sk (z + 26) 26 37726 307 [(0, .ref a)] [] := by
  refine v_aload_n hX dX13_init_307 (i := 0) rfl rfl ?_
  refine v_sipush hX (v := 3200) dX13_init_308 (by decide) ?_
  refine v_newa_i hX (N := 3200) w_1_57 dX13_init_311 (by decide) (by decide) (by decide) (by omega) (by omega) ?_
  refine v_putP hX (ci := 11) (k := 42) (f := 1142) (by simp (disch := omega) only [q_K_s_I, q_K_s_J, q_K_s_P, q_K_s_A, q_K_s_B, q_K_s_C, q_K_r_A, q_K_r_B, y_K_n_O, x_K_n_O, y_K_n_A, x_K_n_A, ik.2.1]) bc_11 (by decide) (by decide) in_11 tyX13_ok nmX13 w_6_18 (Or.inr ⟨rfl, hI, rfl⟩) rfl rfl dX13_init_313 rfl rfl ?_
  exact kk _ (mStep ik hlt (by decide) (show mTab.getD 26 (0, 0, 0) = (1142, 13, 3200) from rfl))
set_option maxRecDepth 100000 in
set_option maxHeartbeats 4000000 in
theorem mS_27 {X : b_T} (hX : b_X X cX13_init RX13 1 12 39 172401) (hI : b_I X) {S Sk : b_M} {a z : Nat} (hlt : a < z) (ik : mInv S Sk a z 27) (kk : ∀ S1, mInv S S1 a z 28 → b_V X S1 (z + 28) 28 44126 325 [(0, .ref a)] []) : b_V X Sk (z + 27) 27 40926 316 [(0, .ref a)] [] := by
  refine v_aload_n hX dX13_init_316 (i := 0) rfl rfl ?_
  refine v_sipush hX (v := 3200) dX13_init_317 (by decide) ?_
  refine v_newa_i hX (N := 3200) w_1_57 dX13_init_320 (by decide) (by decide) (by decide) (by omega) (by omega) ?_
  refine v_putP hX (ci := 11) (k := 43) (f := 1143) (by simp (disch := omega) only [q_K_s_I, q_K_s_J, q_K_s_P, q_K_s_A, q_K_s_B, q_K_s_C, q_K_r_A, q_K_r_B, y_K_n_O, x_K_n_O, y_K_n_A, x_K_n_A, ik.2.1]) bc_11 (by decide) (by decide) in_11 tyX13_ok nmX13 w_6_19 (Or.inr ⟨rfl, hI, rfl⟩) rfl rfl dX13_init_322 rfl rfl ?_
  exact kk _ (mStep ik hlt (by decide) (show mTab.getD 27 (0, 0, 0) = (1143, 13, 3200) from rfl))
set_option maxRecDepth 100000 in
set_option maxHeartbeats 4000000 in
theorem mS_28 {X : b_T} (hX : b_X X cX13_init RX13 1 12 39 172401) (hI : b_I X) {S Sk : b_M} {a z : Nat} (hlt : a < z) (ik : mInv S Sk a z 28) (kk : ∀ S1, mInv S S1 a z 29 → b_V X S1 (z + 29) 29 104126 333 [(0, .ref a)] []) : b_V X Sk (z + 28) 28 44126 325 [(0, .ref a)] [] := by
  refine v_aload_n hX dX13_init_325 (i := 0) rfl rfl ?_
  refine v_ldc hX (v := 60000) dX13_init_326 w_5_214 ?_
  refine v_newa_i hX (N := 60000) w_1_57 dX13_init_328 (by decide) (by decide) (by decide) (by omega) (by omega) ?_
  refine v_putP hX (ci := 11) (k := 44) (f := 1144) (by simp (disch := omega) only [q_K_s_I, q_K_s_J, q_K_s_P, q_K_s_A, q_K_s_B, q_K_s_C, q_K_r_A, q_K_r_B, y_K_n_O, x_K_n_O, y_K_n_A, x_K_n_A, ik.2.1]) bc_11 (by decide) (by decide) in_11 tyX13_ok nmX13 w_6_20 (Or.inr ⟨rfl, hI, rfl⟩) rfl rfl dX13_init_330 rfl rfl ?_
  exact kk _ (mStep ik hlt (by decide) (show mTab.getD 28 (0, 0, 0) = (1144, 13, 60000) from rfl))
set_option maxRecDepth 100000 in
set_option maxHeartbeats 4000000 in
theorem mS_29 {X : b_T} (hX : b_X X cX13_init RX13 1 12 39 172401) (hI : b_I X) {S Sk : b_M} {a z : Nat} (hlt : a < z) (ik : mInv S Sk a z 29) (kk : ∀ S1, mInv S S1 a z 30 → b_V X S1 (z + 30) 30 104135 341 [(0, .ref a)] []) : b_V X Sk (z + 29) 29 104126 333 [(0, .ref a)] [] := by
  refine v_aload_n hX dX13_init_333 (i := 0) rfl rfl ?_
  refine v_bipush hX (v := 9) dX13_init_334 (by decide) ?_
  refine v_newa_i hX (N := 9) w_1_57 dX13_init_336 (by decide) (by decide) (by decide) (by omega) (by omega) ?_
  refine v_putP hX (ci := 11) (k := 46) (f := 1146) (by simp (disch := omega) only [q_K_s_I, q_K_s_J, q_K_s_P, q_K_s_A, q_K_s_B, q_K_s_C, q_K_r_A, q_K_r_B, y_K_n_O, x_K_n_O, y_K_n_A, x_K_n_A, ik.2.1]) bc_11 (by decide) (by decide) in_11 tyX13_ok nmX13 w_6_22 (Or.inr ⟨rfl, hI, rfl⟩) rfl rfl dX13_init_338 rfl rfl ?_
  exact kk _ (mStep ik hlt (by decide) (show mTab.getD 29 (0, 0, 0) = (1146, 13, 9) from rfl))
set_option maxRecDepth 100000 in
set_option maxHeartbeats 4000000 in
theorem mS_30 {X : b_T} (hX : b_X X cX13_init RX13 1 12 39 172401) (hI : b_I X) {S Sk : b_M} {a z : Nat} (hlt : a < z) (ik : mInv S Sk a z 30) (kk : ∀ S1, mInv S S1 a z 31 → b_V X S1 (z + 31) 31 104144 349 [(0, .ref a)] []) : b_V X Sk (z + 30) 30 104135 341 [(0, .ref a)] [] := by
  refine v_aload_n hX dX13_init_341 (i := 0) rfl rfl ?_
  refine v_bipush hX (v := 9) dX13_init_342 (by decide) ?_
  refine v_newa_i hX (N := 9) w_1_57 dX13_init_344 (by decide) (by decide) (by decide) (by omega) (by omega) ?_
  refine v_putP hX (ci := 11) (k := 47) (f := 1147) (by simp (disch := omega) only [q_K_s_I, q_K_s_J, q_K_s_P, q_K_s_A, q_K_s_B, q_K_s_C, q_K_r_A, q_K_r_B, y_K_n_O, x_K_n_O, y_K_n_A, x_K_n_A, ik.2.1]) bc_11 (by decide) (by decide) in_11 tyX13_ok nmX13 w_6_23 (Or.inr ⟨rfl, hI, rfl⟩) rfl rfl dX13_init_346 rfl rfl ?_
  exact kk _ (mStep ik hlt (by decide) (show mTab.getD 30 (0, 0, 0) = (1147, 13, 9) from rfl))
set_option maxRecDepth 100000 in
set_option maxHeartbeats 4000000 in
theorem mS_31 {X : b_T} (hX : b_X X cX13_init RX13 1 12 39 172401) (hI : b_I X) {S Sk : b_M} {a z : Nat} (hlt : a < z) (ik : mInv S Sk a z 31) (kk : ∀ S1, mInv S S1 a z 32 → b_V X S1 (z + 32) 32 104544 358 [(0, .ref a)] []) : b_V X Sk (z + 31) 31 104144 349 [(0, .ref a)] [] := by
  refine v_aload_n hX dX13_init_349 (i := 0) rfl rfl ?_
  refine v_sipush hX (v := 400) dX13_init_350 (by decide) ?_
  refine v_newa_l hX (N := 400) w_1_98 dX13_init_353 (by decide) (by decide) (by decide) (by omega) (by omega) ?_
  refine v_putP hX (ci := 11) (k := 49) (f := 1149) (by simp (disch := omega) only [q_K_s_I, q_K_s_J, q_K_s_P, q_K_s_A, q_K_s_B, q_K_s_C, q_K_r_A, q_K_r_B, y_K_n_O, x_K_n_O, y_K_n_A, x_K_n_A, ik.2.1]) bc_11 (by decide) (by decide) in_11 tyX13_ok nmX13 w_6_25 (Or.inr ⟨rfl, hI, rfl⟩) rfl rfl dX13_init_355 rfl rfl ?_
  exact kk _ (mStep ik hlt (by decide) (show mTab.getD 31 (0, 0, 0) = (1149, 14, 400) from rfl))
set_option maxRecDepth 100000 in
set_option maxHeartbeats 4000000 in
theorem mS_32 {X : b_T} (hX : b_X X cX13_init RX13 1 12 39 172401) (hI : b_I X) {S Sk : b_M} {a z : Nat} (hlt : a < z) (ik : mInv S Sk a z 32) (kk : ∀ S1, mInv S S1 a z 33 → b_V X S1 (z + 33) 33 104944 367 [(0, .ref a)] []) : b_V X Sk (z + 32) 32 104544 358 [(0, .ref a)] [] := by
  refine v_aload_n hX dX13_init_358 (i := 0) rfl rfl ?_
  refine v_sipush hX (v := 400) dX13_init_359 (by decide) ?_
  refine v_newa_i hX (N := 400) w_1_57 dX13_init_362 (by decide) (by decide) (by decide) (by omega) (by omega) ?_
  refine v_putP hX (ci := 11) (k := 50) (f := 1150) (by simp (disch := omega) only [q_K_s_I, q_K_s_J, q_K_s_P, q_K_s_A, q_K_s_B, q_K_s_C, q_K_r_A, q_K_r_B, y_K_n_O, x_K_n_O, y_K_n_A, x_K_n_A, ik.2.1]) bc_11 (by decide) (by decide) in_11 tyX13_ok nmX13 w_6_26 (Or.inr ⟨rfl, hI, rfl⟩) rfl rfl dX13_init_364 rfl rfl ?_
  exact kk _ (mStep ik hlt (by decide) (show mTab.getD 32 (0, 0, 0) = (1150, 13, 400) from rfl))
set_option maxRecDepth 100000 in
set_option maxHeartbeats 4000000 in
theorem mS_33 {X : b_T} (hX : b_X X cX13_init RX13 1 12 39 172401) (hI : b_I X) {S Sk : b_M} {a z : Nat} (hlt : a < z) (ik : mInv S Sk a z 33) (kk : ∀ S1, mInv S S1 a z 34 → b_V X S1 (z + 34) 34 105344 376 [(0, .ref a)] []) : b_V X Sk (z + 33) 33 104944 367 [(0, .ref a)] [] := by
  refine v_aload_n hX dX13_init_367 (i := 0) rfl rfl ?_
  refine v_sipush hX (v := 400) dX13_init_368 (by decide) ?_
  refine v_newa_i hX (N := 400) w_1_57 dX13_init_371 (by decide) (by decide) (by decide) (by omega) (by omega) ?_
  refine v_putP hX (ci := 11) (k := 51) (f := 1151) (by simp (disch := omega) only [q_K_s_I, q_K_s_J, q_K_s_P, q_K_s_A, q_K_s_B, q_K_s_C, q_K_r_A, q_K_r_B, y_K_n_O, x_K_n_O, y_K_n_A, x_K_n_A, ik.2.1]) bc_11 (by decide) (by decide) in_11 tyX13_ok nmX13 w_6_27 (Or.inr ⟨rfl, hI, rfl⟩) rfl rfl dX13_init_373 rfl rfl ?_
  exact kk _ (mStep ik hlt (by decide) (show mTab.getD 33 (0, 0, 0) = (1151, 13, 400) from rfl))
set_option maxRecDepth 100000 in
set_option maxHeartbeats 4000000 in
theorem mS_34 {X : b_T} (hX : b_X X cX13_init RX13 1 12 39 172401) (hI : b_I X) {S Sk : b_M} {a z : Nat} (hlt : a < z) (ik : mInv S Sk a z 34) (kk : ∀ S1, mInv S S1 a z 35 → b_V X S1 (z + 35) 35 106365 385 [(0, .ref a)] []) : b_V X Sk (z + 34) 34 105344 376 [(0, .ref a)] [] := by
  refine v_aload_n hX dX13_init_376 (i := 0) rfl rfl ?_
  refine v_sipush hX (v := 1021) dX13_init_377 (by decide) ?_
  refine v_newa_i hX (N := 1021) w_1_57 dX13_init_380 (by decide) (by decide) (by decide) (by omega) (by omega) ?_
  refine v_putP hX (ci := 11) (k := 52) (f := 1152) (by simp (disch := omega) only [q_K_s_I, q_K_s_J, q_K_s_P, q_K_s_A, q_K_s_B, q_K_s_C, q_K_r_A, q_K_r_B, y_K_n_O, x_K_n_O, y_K_n_A, x_K_n_A, ik.2.1]) bc_11 (by decide) (by decide) in_11 tyX13_ok nmX13 w_6_28 (Or.inr ⟨rfl, hI, rfl⟩) rfl rfl dX13_init_382 rfl rfl ?_
  exact kk _ (mStep ik hlt (by decide) (show mTab.getD 34 (0, 0, 0) = (1152, 13, 1021) from rfl))
set_option maxRecDepth 100000 in
set_option maxHeartbeats 4000000 in
theorem mS_35 {X : b_T} (hX : b_X X cX13_init RX13 1 12 39 172401) (hI : b_I X) {S Sk : b_M} {a z : Nat} (hlt : a < z) (ik : mInv S Sk a z 35) (kk : ∀ S1, mInv S S1 a z 36 → b_V X S1 (z + 36) 36 106415 393 [(0, .ref a)] []) : b_V X Sk (z + 35) 35 106365 385 [(0, .ref a)] [] := by
  refine v_aload_n hX dX13_init_385 (i := 0) rfl rfl ?_
  refine v_bipush hX (v := 50) dX13_init_386 (by decide) ?_
  refine v_newa_i hX (N := 50) w_1_57 dX13_init_388 (by decide) (by decide) (by decide) (by omega) (by omega) ?_
  refine v_putP hX (ci := 11) (k := 55) (f := 1155) (by simp (disch := omega) only [q_K_s_I, q_K_s_J, q_K_s_P, q_K_s_A, q_K_s_B, q_K_s_C, q_K_r_A, q_K_r_B, y_K_n_O, x_K_n_O, y_K_n_A, x_K_n_A, ik.2.1]) bc_11 (by decide) (by decide) in_11 tyX13_ok nmX13 w_6_31 (Or.inr ⟨rfl, hI, rfl⟩) rfl rfl dX13_init_390 rfl rfl ?_
  exact kk _ (mStep ik hlt (by decide) (show mTab.getD 35 (0, 0, 0) = (1155, 13, 50) from rfl))
set_option maxRecDepth 100000 in
set_option maxHeartbeats 4000000 in
theorem mS_36 {X : b_T} (hX : b_X X cX13_init RX13 1 12 39 172401) (hI : b_I X) {S Sk : b_M} {a z : Nat} (hlt : a < z) (ik : mInv S Sk a z 36) (kk : ∀ S1, mInv S S1 a z 37 → b_V X S1 (z + 37) 37 106465 401 [(0, .ref a)] []) : b_V X Sk (z + 36) 36 106415 393 [(0, .ref a)] [] := by
  refine v_aload_n hX dX13_init_393 (i := 0) rfl rfl ?_
  refine v_bipush hX (v := 50) dX13_init_394 (by decide) ?_
  refine v_newa_i hX (N := 50) w_1_57 dX13_init_396 (by decide) (by decide) (by decide) (by omega) (by omega) ?_
  refine v_putP hX (ci := 11) (k := 56) (f := 1156) (by simp (disch := omega) only [q_K_s_I, q_K_s_J, q_K_s_P, q_K_s_A, q_K_s_B, q_K_s_C, q_K_r_A, q_K_r_B, y_K_n_O, x_K_n_O, y_K_n_A, x_K_n_A, ik.2.1]) bc_11 (by decide) (by decide) in_11 tyX13_ok nmX13 w_6_32 (Or.inr ⟨rfl, hI, rfl⟩) rfl rfl dX13_init_398 rfl rfl ?_
  exact kk _ (mStep ik hlt (by decide) (show mTab.getD 36 (0, 0, 0) = (1156, 13, 50) from rfl))
set_option maxRecDepth 100000 in
set_option maxHeartbeats 4000000 in
theorem mS_37 {X : b_T} (hX : b_X X cX13_init RX13 1 12 39 172401) (hI : b_I X) {S Sk : b_M} {a z : Nat} (hlt : a < z) (ik : mInv S Sk a z 37) (kk : ∀ S1, mInv S S1 a z 38 → b_V X S1 (z + 38) 38 172001 409 [(0, .ref a)] []) : b_V X Sk (z + 37) 37 106465 401 [(0, .ref a)] [] := by
  refine v_aload_n hX dX13_init_401 (i := 0) rfl rfl ?_
  refine v_ldc hX (v := 65536) dX13_init_402 w_5_215 ?_
  refine v_newa_i hX (N := 65536) w_1_57 dX13_init_404 (by decide) (by decide) (by decide) (by omega) (by omega) ?_
  refine v_putP hX (ci := 11) (k := 61) (f := 1161) (by simp (disch := omega) only [q_K_s_I, q_K_s_J, q_K_s_P, q_K_s_A, q_K_s_B, q_K_s_C, q_K_r_A, q_K_r_B, y_K_n_O, x_K_n_O, y_K_n_A, x_K_n_A, ik.2.1]) bc_11 (by decide) (by decide) in_11 tyX13_ok nmX13 w_6_37 (Or.inr ⟨rfl, hI, rfl⟩) rfl rfl dX13_init_406 rfl rfl ?_
  exact kk _ (mStep ik hlt (by decide) (show mTab.getD 37 (0, 0, 0) = (1161, 13, 65536) from rfl))
set_option maxRecDepth 100000 in
set_option maxHeartbeats 4000000 in
theorem mS_38 {X : b_T} (hX : b_X X cX13_init RX13 1 12 39 172401) (hI : b_I X) {S Sk : b_M} {a z : Nat} (hlt : a < z) (ik : mInv S Sk a z 38) (kk : ∀ S1, mInv S S1 a z 39 → b_V X S1 (z + 39) 39 172401 418 [(0, .ref a)] []) : b_V X Sk (z + 38) 38 172001 409 [(0, .ref a)] [] := by
  refine v_aload_n hX dX13_init_409 (i := 0) rfl rfl ?_
  refine v_sipush hX (v := 400) dX13_init_410 (by decide) ?_
  refine v_newa_z hX (N := 400) w_6_193 dX13_init_413 (by decide) (by decide) (by decide) (by omega) (by omega) ?_
  refine v_putP hX (ci := 11) (k := 71) (f := 1171) (by simp (disch := omega) only [q_K_s_I, q_K_s_J, q_K_s_P, q_K_s_A, q_K_s_B, q_K_s_C, q_K_r_A, q_K_r_B, y_K_n_O, x_K_n_O, y_K_n_A, x_K_n_A, ik.2.1]) bc_11 (by decide) (by decide) in_11 tyX13_ok nmX13 w_6_47 (Or.inr ⟨rfl, hI, rfl⟩) rfl rfl dX13_init_415 rfl rfl ?_
  exact kk _ (mStep ik hlt (by decide) (show mTab.getD 38 (0, 0, 0) = (1171, 15, 400) from rfl))
set_option maxRecDepth 100000 in
set_option maxHeartbeats 4000000 in
theorem c_Model_init {kn : Nat → Nat} {B : Nat} {S : b_M} {z a : Nat} (hK : m_K S a = 11) (hlt : a < z) : b_C kn B yX13_init cX13_init 1 none 1 12 39 172401 [.ref a] S z (fun r S' z' => r = none ∧ z' = z + 39 ∧ mInv S S' a z 39) (fun _ _ _ => False) := by
  refine b_enter (by decide) (Nat.le_of_ble_eq_true rfl) ?_
  intro X hX hE hnL hkn hB hI
  subst hkn; subst hB
  change b_V X S z 0 0 0 [(0, .ref a)] []
  refine v_aload_n hX dX13_init_0 (i := 0) rfl rfl ?_
  refine v_objInit hX w_5_200 w_1_35 w_1_36 (by decide) (by decide) dX13_init_1 ?_
  have i0 : mInv S S a z 0 := ⟨fun b _ _ => b_eq.rf _ _, hK, fun _ => rfl, fun _ => rfl, fun j hj => absurd hj (by omega)⟩
  refine mS_0 hX (hI rfl) hlt i0 (fun S1 i1 => ?_)
  refine mS_1 hX (hI rfl) hlt i1 (fun S2 i2 => ?_)
  refine mS_2 hX (hI rfl) hlt i2 (fun S3 i3 => ?_)
  refine mS_3 hX (hI rfl) hlt i3 (fun S4 i4 => ?_)
  refine mS_4 hX (hI rfl) hlt i4 (fun S5 i5 => ?_)
  refine mS_5 hX (hI rfl) hlt i5 (fun S6 i6 => ?_)
  refine mS_6 hX (hI rfl) hlt i6 (fun S7 i7 => ?_)
  refine mS_7 hX (hI rfl) hlt i7 (fun S8 i8 => ?_)
  refine mS_8 hX (hI rfl) hlt i8 (fun S9 i9 => ?_)
  refine mS_9 hX (hI rfl) hlt i9 (fun S10 i10 => ?_)
  refine mS_10 hX (hI rfl) hlt i10 (fun S11 i11 => ?_)
  refine mS_11 hX (hI rfl) hlt i11 (fun S12 i12 => ?_)
  refine mS_12 hX (hI rfl) hlt i12 (fun S13 i13 => ?_)
  refine mS_13 hX (hI rfl) hlt i13 (fun S14 i14 => ?_)
  refine mS_14 hX (hI rfl) hlt i14 (fun S15 i15 => ?_)
  refine mS_15 hX (hI rfl) hlt i15 (fun S16 i16 => ?_)
  refine mS_16 hX (hI rfl) hlt i16 (fun S17 i17 => ?_)
  refine mS_17 hX (hI rfl) hlt i17 (fun S18 i18 => ?_)
  refine mS_18 hX (hI rfl) hlt i18 (fun S19 i19 => ?_)
  refine mS_19 hX (hI rfl) hlt i19 (fun S20 i20 => ?_)
  refine mS_20 hX (hI rfl) hlt i20 (fun S21 i21 => ?_)
  refine mS_21 hX (hI rfl) hlt i21 (fun S22 i22 => ?_)
  refine mS_22 hX (hI rfl) hlt i22 (fun S23 i23 => ?_)
  refine mS_23 hX (hI rfl) hlt i23 (fun S24 i24 => ?_)
  refine mS_24 hX (hI rfl) hlt i24 (fun S25 i25 => ?_)
  refine mS_25 hX (hI rfl) hlt i25 (fun S26 i26 => ?_)
  refine mS_26 hX (hI rfl) hlt i26 (fun S27 i27 => ?_)
  refine mS_27 hX (hI rfl) hlt i27 (fun S28 i28 => ?_)
  refine mS_28 hX (hI rfl) hlt i28 (fun S29 i29 => ?_)
  refine mS_29 hX (hI rfl) hlt i29 (fun S30 i30 => ?_)
  refine mS_30 hX (hI rfl) hlt i30 (fun S31 i31 => ?_)
  refine mS_31 hX (hI rfl) hlt i31 (fun S32 i32 => ?_)
  refine mS_32 hX (hI rfl) hlt i32 (fun S33 i33 => ?_)
  refine mS_33 hX (hI rfl) hlt i33 (fun S34 i34 => ?_)
  refine mS_34 hX (hI rfl) hlt i34 (fun S35 i35 => ?_)
  refine mS_35 hX (hI rfl) hlt i35 (fun S36 i36 => ?_)
  refine mS_36 hX (hI rfl) hlt i36 (fun S37 i37 => ?_)
  refine mS_37 hX (hI rfl) hlt i37 (fun S38 i38 => ?_)
  refine mS_38 hX (hI rfl) hlt i38 (fun S39 i39 => ?_)
  exact v_return hX hE dX13_init_418 (by omega) (by omega) ⟨rfl, rfl, i39⟩
