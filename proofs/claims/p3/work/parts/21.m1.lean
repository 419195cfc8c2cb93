set_option maxRecDepth 100000 in
set_option maxHeartbeats 4000000 in
theorem c_Errors_init {kn : Nat → Nat} {B : Nat} {S : b_M} {z a : Nat} (hK : m_K S a = 1) (hlt : a < z) : b_C kn B yX2_init cX2_init 1 none 1 12 2 100 [.ref a] S z (fun r S' z' => r = none ∧ z' = z + 1 + 1 ∧ S' = s_P (n_A (s_P (n_A S z 13 50) 100 a (some z)) (z + 1) 13 50) 101 a (some (z + 1))) (fun _ _ _ => False) := by
  refine b_enter (by decide) (Nat.le_of_ble_eq_true rfl) ?_
  intro X hX hE hnL hkn hB hI
  subst hkn; subst hB
  refine v_aload_n hX dX2_init_0 (i := 0) rfl rfl ?_
  refine v_objInit hX w_1_42 w_1_35 w_1_36 (by decide) (by decide) dX2_init_1 ?_
  refine v_aload_n hX dX2_init_4 (i := 0) rfl rfl ?_
  refine v_bipush hX (v := (50)) dX2_init_5 (by decide) ?_
  refine v_newa_i hX (N := 50) w_1_57 dX2_init_7 (by decide) (by decide) (by decide) (by omega) (by omega) ?_
  refine v_putP hX (ci := 1) (k := 0) (f := 100) (by simp (disch := omega) only [q_K_s_I, q_K_s_J, q_K_s_P, q_K_s_A, q_K_s_B, q_K_s_C, q_K_r_A, q_K_r_B, y_K_n_O, x_K_n_O, y_K_n_A, x_K_n_A, hK]) bc_1 (by decide) (by decide) in_1 tyX2_ok nmX2 w_1_43 (Or.inr ⟨rfl, hI rfl, rfl⟩) rfl rfl dX2_init_9 rfl rfl ?_
  refine v_aload_n hX dX2_init_12 (i := 0) rfl rfl ?_
  refine v_bipush hX (v := (50)) dX2_init_13 (by decide) ?_
  refine v_newa_i hX (N := 50) w_1_57 dX2_init_15 (by decide) (by decide) (by decide) (by omega) (by omega) ?_
  refine v_putP hX (ci := 1) (k := 1) (f := 101) (by simp (disch := omega) only [q_K_s_I, q_K_s_J, q_K_s_P, q_K_s_A, q_K_s_B, q_K_s_C, q_K_r_A, q_K_r_B, y_K_n_O, x_K_n_O, y_K_n_A, x_K_n_A, hK]) bc_1 (by decide) (by decide) in_1 tyX2_ok nmX2 w_1_45 (Or.inr ⟨rfl, hI rfl, rfl⟩) rfl rfl dX2_init_17 rfl rfl ?_
  exact v_return hX hE dX2_init_20 (by omega) (by omega) ⟨rfl, rfl, rfl⟩
set_option maxRecDepth 100000 in
set_option maxHeartbeats 4000000 in
theorem c_Scanner_init {kn : Nat → Nat} {B : Nat} {S : b_M} {z a : Nat} (hK : m_K S a = 7) (hlt : a < z) : b_C kn B yX9_init cX9_init 1 none 1 12 1 0 [.ref a] S z (fun r S' z' => r = none ∧ z' = z + 1 ∧ S' = s_P (n_A S z 12 0) 700 a (some z)) (fun _ _ _ => False) := by
  refine b_enter (by decide) (Nat.le_of_ble_eq_true rfl) ?_
  intro X hX hE hnL hkn hB hI
  subst hkn; subst hB
  refine v_aload_n hX dX9_init_0 (i := 0) rfl rfl ?_
  refine v_objInit hX w_1_232 w_1_35 w_1_36 (by decide) (by decide) dX9_init_1 ?_
  refine v_aload_n hX dX9_init_4 (i := 0) rfl rfl ?_
  refine v_iconst hX (v := (0)) dX9_init_5 (by decide) ?_
  refine v_newa_b hX (N := 0) w_1_56 dX9_init_6 (by decide) (by decide) (by decide) (by omega) (by omega) ?_
  refine v_putP hX (ci := 7) (k := 0) (f := 700) (by simp (disch := omega) only [q_K_s_I, q_K_s_J, q_K_s_P, q_K_s_A, q_K_s_B, q_K_s_C, q_K_r_A, q_K_r_B, y_K_n_O, x_K_n_O, y_K_n_A, x_K_n_A, hK]) bc_7 (by decide) (by decide) in_7 tyX9_ok nmX9 w_1_233 (Or.inl rfl) rfl rfl dX9_init_8 rfl rfl ?_
  exact v_return hX hE dX9_init_11 (by omega) (by omega) ⟨rfl, rfl, rfl⟩
set_option maxRecDepth 100000 in
set_option maxHeartbeats 4000000 in
theorem c_Statement_init {kn : Nat → Nat} {B : Nat} {S : b_M} {z a : Nat} (hK : m_K S a = 8) (hlt : a < z) : b_C kn B yX10_init cX10_init 1 none 1 12 0 0 [.ref a] S z (fun r S' z' => r = none ∧ z' = z ∧ S' = s_P S 800 a (some (kn 0))) (fun _ _ _ => False) := by
  refine b_enter (by decide) (Nat.le_of_ble_eq_true rfl) ?_
  intro X hX hE hnL hkn hB hI
  subst hkn; subst hB
  refine v_aload_n hX dX10_init_0 (i := 0) rfl rfl ?_
  refine v_objInit hX w_1_138 w_1_35 w_1_36 (by decide) (by decide) dX10_init_1 ?_
  refine v_aload_n hX dX10_init_4 (i := 0) rfl rfl ?_
  refine v_gets0 hX w_1_139 dX10_init_5 ?_
  refine v_putP hX (ci := 8) (k := 0) (f := 800) (by simp (disch := omega) only [q_K_s_I, q_K_s_J, q_K_s_P, q_K_s_A, q_K_s_B, q_K_s_C, q_K_r_A, q_K_r_B, y_K_n_O, x_K_n_O, y_K_n_A, x_K_n_A, hK]) bc_8 (by decide) (by decide) in_8 tyX10_ok nmX10 w_1_141 (Or.inl rfl) rfl rfl dX10_init_8 rfl rfl ?_
  exact v_return hX hE dX10_init_11 (by omega) (by omega) ⟨rfl, rfl, rfl⟩
set_option maxRecDepth 100000 in
set_option maxHeartbeats 4000000 in
theorem c_Macros_init {kn : Nat → Nat} {B : Nat} {S : b_M} {z a : Nat} (hK : m_K S a = 4) (hlt : a < z) : b_C kn B yX5_init cX5_init 1 none 1 12 3 36 [.ref a] S z (fun r S' z' => r = none ∧ z' = z + 1 + 1 + 1 ∧ S' = s_P (n_A (s_P (n_A (s_P (n_A S z 14 12) 400 a (some z)) (z + 1) 13 12) 401 a (some (z + 1))) (z + 1 + 1) 13 12) 402 a (some (z + 1 + 1))) (fun _ _ _ => False) := by
  refine b_enter (by decide) (Nat.le_of_ble_eq_true rfl) ?_
  intro X hX hE hnL hkn hB hI
  subst hkn; subst hB
  refine v_aload_n hX dX5_init_0 (i := 0) rfl rfl ?_
  refine v_objInit hX w_2_20 w_1_35 w_1_36 (by decide) (by decide) dX5_init_1 ?_
  refine v_aload_n hX dX5_init_4 (i := 0) rfl rfl ?_
  refine v_bipush hX (v := (12)) dX5_init_5 (by decide) ?_
  refine v_newa_l hX (N := 12) w_1_98 dX5_init_7 (by decide) (by decide) (by decide) (by omega) (by omega) ?_
  refine v_putP hX (ci := 4) (k := 0) (f := 400) (by simp (disch := omega) only [q_K_s_I, q_K_s_J, q_K_s_P, q_K_s_A, q_K_s_B, q_K_s_C, q_K_r_A, q_K_r_B, y_K_n_O, x_K_n_O, y_K_n_A, x_K_n_A, hK]) bc_4 (by decide) (by decide) in_4 tyX5_ok nmX5 w_2_21 (Or.inr ⟨rfl, hI rfl, rfl⟩) rfl rfl dX5_init_9 rfl rfl ?_
  refine v_aload_n hX dX5_init_12 (i := 0) rfl rfl ?_
  refine v_bipush hX (v := (12)) dX5_init_13 (by decide) ?_
  refine v_newa_i hX (N := 12) w_1_57 dX5_init_15 (by decide) (by decide) (by decide) (by omega) (by omega) ?_
  refine v_putP hX (ci := 4) (k := 1) (f := 401) (by simp (disch := omega) only [q_K_s_I, q_K_s_J, q_K_s_P, q_K_s_A, q_K_s_B, q_K_s_C, q_K_r_A, q_K_r_B, y_K_n_O, x_K_n_O, y_K_n_A, x_K_n_A, hK]) bc_4 (by decide) (by decide) in_4 tyX5_ok nmX5 w_2_22 (Or.inr ⟨rfl, hI rfl, rfl⟩) rfl rfl dX5_init_17 rfl rfl ?_
  refine v_aload_n hX dX5_init_20 (i := 0) rfl rfl ?_
  refine v_bipush hX (v := (12)) dX5_init_21 (by decide) ?_
  refine v_newa_i hX (N := 12) w_1_57 dX5_init_23 (by decide) (by decide) (by decide) (by omega) (by omega) ?_
  refine v_putP hX (ci := 4) (k := 2) (f := 402) (by simp (disch := omega) only [q_K_s_I, q_K_s_J, q_K_s_P, q_K_s_A, q_K_s_B, q_K_s_C, q_K_r_A, q_K_r_B, y_K_n_O, x_K_n_O, y_K_n_A, x_K_n_A, hK]) bc_4 (by decide) (by decide) in_4 tyX5_ok nmX5 w_2_23 (Or.inr ⟨rfl, hI rfl, rfl⟩) rfl rfl dX5_init_25 rfl rfl ?_
  exact v_return hX hE dX5_init_28 (by omega) (by omega) ⟨rfl, rfl, rfl⟩
set_option maxRecDepth 100000 in
set_option maxHeartbeats 4000000 in
theorem c_Call_init {kn : Nat → Nat} {B : Nat} {S : b_M} {z a : Nat} (hK : m_K S a = 0) (hlt : a < z) : b_C kn B yX1_init cX1_init 1 none 1 12 3 108 [.ref a] S z (fun r S' z' => r = none ∧ z' = z + 1 + 1 + 1 ∧ S' = s_P (n_A (s_P (n_A (s_P (s_P (n_A S z 12 100) 0 a (some z)) 1 a (some z)) (z + 1) 13 4) 2 a (some (z + 1))) (z + 1 + 1) 13 4) 3 a (some (z + 1 + 1))) (fun _ _ _ => False) := by
  refine b_enter (by decide) (Nat.le_of_ble_eq_true rfl) ?_
  intro X hX hE hnL hkn hB hI
  subst hkn; subst hB
  refine v_aload_n hX dX1_init_0 (i := 0) rfl rfl ?_
  refine v_objInit hX w_2_47 w_1_35 w_1_36 (by decide) (by decide) dX1_init_1 ?_
  refine v_aload_n hX dX1_init_4 (i := 0) rfl rfl ?_
  refine v_bipush hX (v := (100)) dX1_init_5 (by decide) ?_
  refine v_newa_b hX (N := 100) w_1_56 dX1_init_7 (by decide) (by decide) (by decide) (by omega) (by omega) ?_
  refine v_putP hX (ci := 0) (k := 0) (f := 0) (by simp (disch := omega) only [q_K_s_I, q_K_s_J, q_K_s_P, q_K_s_A, q_K_s_B, q_K_s_C, q_K_r_A, q_K_r_B, y_K_n_O, x_K_n_O, y_K_n_A, x_K_n_A, hK]) bc_0 (by decide) (by decide) in_0 tyX1_ok nmX1 w_2_48 (Or.inr ⟨rfl, hI rfl, rfl⟩) rfl rfl dX1_init_9 rfl rfl ?_
  refine v_aload_n hX dX1_init_12 (i := 0) rfl rfl ?_
  refine v_aload_n hX dX1_init_13 (i := 0) rfl rfl ?_
  refine v_get hX (ci := 0) (k := 0) (by simp (disch := omega) only [q_K_s_I, q_K_s_J, q_K_s_P, q_K_s_A, q_K_s_B, q_K_s_C, q_K_r_A, q_K_r_B, y_K_n_O, x_K_n_O, y_K_n_A, x_K_n_A, hK]) bc_0 (by decide) (by decide) in_0 w_2_48 dX1_init_14 (mvP (f := 0) (q := z) rfl rfl (by simp (disch := omega) only [q_P_s_I, q_P_s_J, q_P_s_A, q_P_s_B, q_P_s_C, q_P_n_A, q_P_r_A, q_P_r_B, y_P_s_P, x_P_s_P, y_P_n_O, x_P_n_O, hK])) ?_
  refine v_putP hX (ci := 0) (k := 1) (f := 1) (by simp (disch := omega) only [q_K_s_I, q_K_s_J, q_K_s_P, q_K_s_A, q_K_s_B, q_K_s_C, q_K_r_A, q_K_r_B, y_K_n_O, x_K_n_O, y_K_n_A, x_K_n_A, hK]) bc_0 (by decide) (by decide) in_0 tyX1_ok nmX1 w_2_49 (Or.inl rfl) rfl rfl dX1_init_17 rfl rfl ?_
  refine v_aload_n hX dX1_init_20 (i := 0) rfl rfl ?_
  refine v_iconst hX (v := (4)) dX1_init_21 (by decide) ?_
  refine v_newa_i hX (N := 4) w_1_57 dX1_init_22 (by decide) (by decide) (by decide) (by omega) (by omega) ?_
  refine v_putP hX (ci := 0) (k := 2) (f := 2) (by simp (disch := omega) only [q_K_s_I, q_K_s_J, q_K_s_P, q_K_s_A, q_K_s_B, q_K_s_C, q_K_r_A, q_K_r_B, y_K_n_O, x_K_n_O, y_K_n_A, x_K_n_A, hK]) bc_0 (by decide) (by decide) in_0 tyX1_ok nmX1 w_2_51 (Or.inr ⟨rfl, hI rfl, rfl⟩) rfl rfl dX1_init_24 rfl rfl ?_
  refine v_aload_n hX dX1_init_27 (i := 0) rfl rfl ?_
  refine v_iconst hX (v := (4)) dX1_init_28 (by decide) ?_
  refine v_newa_i hX (N := 4) w_1_57 dX1_init_29 (by decide) (by decide) (by decide) (by omega) (by omega) ?_
  refine v_putP hX (ci := 0) (k := 3) (f := 3) (by simp (disch := omega) only [q_K_s_I, q_K_s_J, q_K_s_P, q_K_s_A, q_K_s_B, q_K_s_C, q_K_r_A, q_K_r_B, y_K_n_O, x_K_n_O, y_K_n_A, x_K_n_A, hK]) bc_0 (by decide) (by decide) in_0 tyX1_ok nmX1 w_2_53 (Or.inr ⟨rfl, hI rfl, rfl⟩) rfl rfl dX1_init_31 rfl rfl ?_
  exact v_return hX hE dX1_init_34 (by omega) (by omega) ⟨rfl, rfl, rfl⟩
set_option maxRecDepth 100000 in
set_option maxHeartbeats 4000000 in
theorem c_Expressions_init {kn : Nat → Nat} {B : Nat} {S : b_M} {z a n : Nat} (hK : m_K S a = 2) (hlt : a < z) : b_C kn B yX3_init cX3_init 2 none 1 12 4 9881 [.ref a, .ref n] S z (fun r S' z' => r = none ∧ z' = z + 1 + 1 + 1 + 1 ∧ S' = s_P (s_P (n_A (s_P (n_A (s_P (n_A (s_P (n_A S z 13 3208) 201 a (some z)) (z + 1) 13 3208) 202 a (some (z + 1))) (z + 1 + 1) 13 3209) 203 a (some (z + 1 + 1))) (z + 1 + 1 + 1) 14 256) 204 a (some (z + 1 + 1 + 1))) 200 a (some n)) (fun _ _ _ => False) := by
  refine b_enter (by decide) (Nat.le_of_ble_eq_true rfl) ?_
  intro X hX hE hnL hkn hB hI
  subst hkn; subst hB
  refine v_aload_n hX dX3_init_0 (i := 0) rfl rfl ?_
  refine v_objInit hX w_1_104 w_1_35 w_1_36 (by decide) (by decide) dX3_init_1 ?_
  refine v_aload_n hX dX3_init_4 (i := 0) rfl rfl ?_
  refine v_sipush hX (v := (3208)) dX3_init_5 (by decide) ?_
  refine v_newa_i hX (N := 3208) w_1_57 dX3_init_8 (by decide) (by decide) (by decide) (by omega) (by omega) ?_
  refine v_putP hX (ci := 2) (k := 1) (f := 201) (by simp (disch := omega) only [q_K_s_I, q_K_s_J, q_K_s_P, q_K_s_A, q_K_s_B, q_K_s_C, q_K_r_A, q_K_r_B, y_K_n_O, x_K_n_O, y_K_n_A, x_K_n_A, hK]) bc_2 (by decide) (by decide) in_2 tyX3_ok nmX3 w_1_106 (Or.inr ⟨rfl, hI rfl, rfl⟩) rfl rfl dX3_init_10 rfl rfl ?_
  refine v_aload_n hX dX3_init_13 (i := 0) rfl rfl ?_
  refine v_sipush hX (v := (3208)) dX3_init_14 (by decide) ?_
  refine v_newa_i hX (N := 3208) w_1_57 dX3_init_17 (by decide) (by decide) (by decide) (by omega) (by omega) ?_
  refine v_putP hX (ci := 2) (k := 2) (f := 202) (by simp (disch := omega) only [q_K_s_I, q_K_s_J, q_K_s_P, q_K_s_A, q_K_s_B, q_K_s_C, q_K_r_A, q_K_r_B, y_K_n_O, x_K_n_O, y_K_n_A, x_K_n_A, hK]) bc_2 (by decide) (by decide) in_2 tyX3_ok nmX3 w_1_107 (Or.inr ⟨rfl, hI rfl, rfl⟩) rfl rfl dX3_init_19 rfl rfl ?_
  refine v_aload_n hX dX3_init_22 (i := 0) rfl rfl ?_
  refine v_sipush hX (v := (3209)) dX3_init_23 (by decide) ?_
  refine v_newa_i hX (N := 3209) w_1_57 dX3_init_26 (by decide) (by decide) (by decide) (by omega) (by omega) ?_
  refine v_putP hX (ci := 2) (k := 3) (f := 203) (by simp (disch := omega) only [q_K_s_I, q_K_s_J, q_K_s_P, q_K_s_A, q_K_s_B, q_K_s_C, q_K_r_A, q_K_r_B, y_K_n_O, x_K_n_O, y_K_n_A, x_K_n_A, hK]) bc_2 (by decide) (by decide) in_2 tyX3_ok nmX3 w_1_108 (Or.inr ⟨rfl, hI rfl, rfl⟩) rfl rfl dX3_init_28 rfl rfl ?_
  refine v_aload_n hX dX3_init_31 (i := 0) rfl rfl ?_
  refine v_sipush hX (v := (256)) dX3_init_32 (by decide) ?_
  refine v_newa_l hX (N := 256) w_1_98 dX3_init_35 (by decide) (by decide) (by decide) (by omega) (by omega) ?_
  refine v_putP hX (ci := 2) (k := 4) (f := 204) (by simp (disch := omega) only [q_K_s_I, q_K_s_J, q_K_s_P, q_K_s_A, q_K_s_B, q_K_s_C, q_K_r_A, q_K_r_B, y_K_n_O, x_K_n_O, y_K_n_A, x_K_n_A, hK]) bc_2 (by decide) (by decide) in_2 tyX3_ok nmX3 w_1_109 (Or.inl rfl) rfl rfl dX3_init_37 rfl rfl ?_
  refine v_aload_n hX dX3_init_40 (i := 0) rfl rfl ?_
  refine v_aload_n hX dX3_init_41 (i := 1) rfl rfl ?_
  refine v_putP hX (ci := 2) (k := 0) (f := 200) (by simp (disch := omega) only [q_K_s_I, q_K_s_J, q_K_s_P, q_K_s_A, q_K_s_B, q_K_s_C, q_K_r_A, q_K_r_B, y_K_n_O, x_K_n_O, y_K_n_A, x_K_n_A, hK]) bc_2 (by decide) (by decide) in_2 tyX3_ok nmX3 w_1_105 (Or.inr ⟨rfl, hI rfl, rfl⟩) rfl rfl dX3_init_42 rfl rfl ?_
  exact v_return hX hE dX3_init_45 (by omega) (by omega) ⟨rfl, rfl, rfl⟩
theorem r_A_s (S : b_M) (a i : Nat) (g : Nat → Int32) (v : Int32) : s_A (r_A S a g) a i v = r_A S a (fun j => if j = i then v else g j) := by
  unfold s_A r_A m_A m_K m_I m_J m_P m_L m_B m_C
  simp only [Prod.mk.injEq, true_and, and_true]
  funext b j
  unfold u_2
  by_cases h1 : b = a <;> by_cases h2 : j = i <;> simp [h1, h2]
theorem r_A_id (S : b_M) (a : Nat) : r_A S a (m_A S a) = S := by
  have : (fun b i => if b = a then m_A S a i else m_A S b i) = m_A S := by
    funext b i
    by_cases h : b = a
    · rw [if_pos h, h]
    · rw [if_neg h]
  unfold r_A
  rw [this]
  rfl
set_option maxRecDepth 100000 in
set_option maxHeartbeats 4000000 in
theorem fill_loop {X : b_T} {fr lo mc ms : Nat} (hX : b_X X cJ7_fill_53178 RJ7 fr lo mc ms) {S : b_M} {z ce sl q : Nat} {v : Int32} {post : Option Value → b_M → Nat → Prop} {px : String → b_M → Nat → Prop} (hE : b_End X none mc ms post px) (hnL : b_n X = 4) (hK : m_K S q = 13) (hL : m_L S q < 2 ^ 31) (hc : ce ≤ mc) (hs : sl ≤ ms) (hp : post none (r_A S q (fun j => if j < m_L S q then v else m_A S q j)) z) :
    ∀ (n i : Nat), i ≤ m_L S q → m_L S q - i = n → b_V X (r_A S q (fun j => if j < i then v else m_A S q j)) z ce sl 5 [(2, .int (nI i)), (3, .int (nI (m_L S q))), (0, .ref q), (1, .int v)] [] := by
  intro n
  induction n with
  | zero =>
    intro i h1 h2
    have e : i = m_L S q := by omega
    subst e
    refine v_iload_n hX dJ7_fill_53178_5 (i := 2) rfl rfl ?_
    refine v_iload_n hX dJ7_fill_53178_6 (i := 3) rfl rfl ?_
    refine v_icmp_ge hX (tgt := 20) dJ7_fill_53178_7 (by decide) (fun h => ?_) (fun h => ?_)
    · exact v_return hX hE dJ7_fill_53178_20 hc hs hp
    · exact absurd (Int32.le_refl _) h
  | succ n ih =>
    intro i h1 h2
    refine v_iload_n hX dJ7_fill_53178_5 (i := 2) rfl rfl ?_
    refine v_iload_n hX dJ7_fill_53178_6 (i := 3) rfl rfl ?_
    refine v_icmp_ge hX (tgt := 20) dJ7_fill_53178_7 (by decide) (fun h => ?_) (fun h => ?_)
    · exact absurd h (nI_ge (by omega) hL)
    · refine v_aload_n hX dJ7_fill_53178_10 (i := 0) rfl rfl ?_
      refine v_iload_n hX dJ7_fill_53178_11 (i := 2) rfl rfl ?_
      refine v_iload_n hX dJ7_fill_53178_12 (i := 1) rfl rfl ?_
      refine v_iast hX hK (vp_in_nI (show i < m_L S q by omega) hL) dJ7_fill_53178_13 ?_
      rw [nI_clamp (by omega), r_A_s]
      refine v_iinc hX (v := nI (i + 1)) dJ7_fill_53178_14 rfl (nI_succ i).symm (by rw [hnL]; decide) rfl ?_
      refine v_goto hX (tgt := 5) dJ7_fill_53178_17 (by decide) ?_
      have e : (fun j => if j = i then v else if j < i then v else m_A S q j) = (fun j => if j < i + 1 then v else m_A S q j) := by
        funext j
        by_cases g1 : j = i
        · rw [if_pos g1, if_pos (by omega)]
        · rw [if_neg g1]
          by_cases g2 : j < i
          · rw [if_pos g2, if_pos (by omega)]
          · rw [if_neg g2, if_neg (by omega)]
      rw [e]
      exact ih (i + 1) (by omega) (by omega)
theorem c_fill {kn : Nat → Nat} {B : Nat} {S : b_M} {z q : Nat} {v : Int32} (hK : m_K S q = 13) (hL : m_L S q < 2 ^ 31) : b_C kn B yJ7_fill_53178 cJ7_fill_53178 4 none 0 0 0 0 [.ref q, .int v] S z (fun r S' z' => r = none ∧ z' = z ∧ S' = r_A S q (fun j => if j < m_L S q then v else m_A S q j)) (fun _ _ _ => False) := by
  refine b_enter (by decide) (Nat.le_of_ble_eq_true rfl) ?_
  intro X hX hE hnL hkn hB hI
  subst hkn; subst hB
  refine v_iconst hX (v := nI 0) dJ7_fill_53178_0 (by decide) ?_
  refine v_istore_n hX (lv' := [(2, .int (nI 0)), (0, .ref q), (1, .int v)]) dJ7_fill_53178_1 (i := 2) rfl (by rw [hnL]; decide) rfl ?_
  refine v_aload_n hX dJ7_fill_53178_2 (i := 0) rfl rfl ?_
  refine v_alen hX hK (by decide) (t0 := 1) rfl dJ7_fill_53178_3 ?_
  refine v_istore_n hX (lv' := [(3, .int (nI (m_L S q))), (2, .int (nI 0)), (0, .ref q), (1, .int v)]) dJ7_fill_53178_4 (i := 3) rfl (by rw [hnL]; decide) rfl ?_
  refine v_locals (lv' := [(2, .int (nI 0)), (3, .int (nI (m_L S q))), (0, .ref q), (1, .int v)]) (by simp) ?_
  have h := fill_loop (z := z) (ce := 0) (sl := 0) hX hE hnL hK hL (by omega) (by omega) ⟨rfl, rfl, rfl⟩ (m_L S q) 0 (by omega) (by omega)
  have e : (fun j => if j < 0 then v else m_A S q j) = m_A S q := by funext j; rw [if_neg (by omega)]
  rw [e, r_A_id] at h
  exact h
