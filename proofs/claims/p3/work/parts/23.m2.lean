/-- Names' own memory, forgotten -/
def sForget (S : b_M) (a q : Nat) : b_M := s_I (s_I (r_A S q (fun j => if j < m_L S q then -1 else m_A S q j)) 504 a 0) 505 a 0
set_option maxRecDepth 100000 in
set_option maxHeartbeats 4000000 in
theorem c_Names_forget {kn : Nat → Nat} {B : Nat} {S : b_M} {z a q : Nat} (hK : m_K S a = 5) (hP : m_P S 500 a = some q) (hKq : m_K S q = 13) (hL : m_L S q < 2 ^ 31) : b_C kn B yX6_forget cX6_forget 1 none 1 23 0 0 [.ref a] S z (fun r S' z' => r = none ∧ z' = z ∧ S' = sForget S a q) (fun _ _ _ => False) := by
  refine b_enter (by decide) (Nat.le_of_ble_eq_true rfl) ?_
  intro X hX hE hnL hkn hB hI
  subst hkn; subst hB
  refine v_aload_n hX dX6_forget_0 (i := 0) rfl rfl ?_
  refine v_get hX (ci := 5) (k := 0) (by simp (disch := omega) only [q_K_s_I, q_K_s_J, q_K_s_P, q_K_s_A, q_K_s_B, q_K_s_C, q_K_r_A, q_K_r_B, y_K_n_O, x_K_n_O, y_K_n_A, x_K_n_A, hK, hP]) bc_5 (by decide) (by decide) in_5 w_1_77 dX6_forget_1 (mvP (f := 500) (q := q) rfl rfl (by simp (disch := omega) only [q_P_s_I, q_P_s_J, q_P_s_A, q_P_s_B, q_P_s_C, q_P_n_A, q_P_r_A, q_P_r_B, y_P_s_P, x_P_s_P, y_P_n_O, x_P_n_O, hK, hP])) ?_
  refine v_iconst hX (v := (-1)) dX6_forget_4 (by decide) ?_
  refine v_callS hX (n := 2) (c_fill (S := S) (z := z) (q := q) (v := -1) hKq hL) w_1_74 w_1_75 w_1_5 w_1_76 (by decide +kernel) rfl ⟨by decide, by decide⟩ ⟨by omega, by omega⟩ (Nat.le_of_ble_eq_true rfl) rfl dX6_forget_5 (fun _ _ _ h => h) ?_
  rintro r1 S1 z1 ⟨rfl, rfl, rfl⟩
  refine v_aload_n hX dX6_forget_8 (i := 0) rfl rfl ?_
  refine v_iconst hX (v := (0)) dX6_forget_9 (by decide) ?_
  refine v_putI hX (ci := 5) (k := 4) (f := 504) (by simp (disch := omega) only [q_K_s_I, q_K_s_J, q_K_s_P, q_K_s_A, q_K_s_B, q_K_s_C, q_K_r_A, q_K_r_B, y_K_n_O, x_K_n_O, y_K_n_A, x_K_n_A, hK, hP]) bc_5 (by decide) (by decide) in_5 tyX6_ok nmX6 w_1_81 (Or.inl rfl) rfl rfl dX6_forget_10 rfl rfl ?_
  refine v_aload_n hX dX6_forget_13 (i := 0) rfl rfl ?_
  refine v_iconst hX (v := (0)) dX6_forget_14 (by decide) ?_
  refine v_putI hX (ci := 5) (k := 5) (f := 505) (by simp (disch := omega) only [q_K_s_I, q_K_s_J, q_K_s_P, q_K_s_A, q_K_s_B, q_K_s_C, q_K_r_A, q_K_r_B, y_K_n_O, x_K_n_O, y_K_n_A, x_K_n_A, hK, hP]) bc_5 (by decide) (by decide) in_5 tyX6_ok nmX6 w_1_83 (Or.inl rfl) rfl rfl dX6_forget_15 rfl rfl ?_
  exact v_return hX hE dX6_forget_18 (by omega) (by omega) ⟨rfl, rfl, rfl⟩
def sNames0 (S : b_M) (a z : Nat) : b_M := s_P (n_A (s_P (n_A (s_P (n_A (s_P (n_A S z 13 1021) 500 a (some z)) (z + 1) 13 800) 501 a (some (z + 1))) (z + 1 + 1) 14 800) 502 a (some (z + 1 + 1))) (z + 1 + 1 + 1) 13 800) 503 a (some (z + 1 + 1 + 1))
set_option maxRecDepth 100000 in
set_option maxHeartbeats 4000000 in
theorem c_Names_init {kn : Nat → Nat} {B : Nat} {S : b_M} {z a : Nat} (hK : m_K S a = 5) (hlt : a < z) : b_C kn B yX6_init cX6_init 1 none 2 43 4 3421 [.ref a] S z (fun r S' z' => r = none ∧ z' = z + 1 + 1 + 1 + 1 ∧ S' = sForget (sNames0 S a z) a z) (fun _ _ _ => False) := by
  refine b_enter (by decide) (Nat.le_of_ble_eq_true rfl) ?_
  intro X hX hE hnL hkn hB hI
  subst hkn; subst hB
  refine v_aload_n hX dX6_init_0 (i := 0) rfl rfl ?_
  refine v_objInit hX w_1_69 w_1_35 w_1_36 (by decide) (by decide) dX6_init_1 ?_
  refine v_aload_n hX dX6_init_4 (i := 0) rfl rfl ?_
  refine v_sipush hX (v := (1021)) dX6_init_5 (by decide) ?_
  refine v_newa_i hX (N := 1021) w_1_57 dX6_init_8 (by decide) (by decide) (by decide) (by omega) (by omega) ?_
  refine v_putP hX (ci := 5) (k := 0) (f := 500) (by simp (disch := omega) only [q_K_s_I, q_K_s_J, q_K_s_P, q_K_s_A, q_K_s_B, q_K_s_C, q_K_r_A, q_K_r_B, y_K_n_O, x_K_n_O, y_K_n_A, x_K_n_A, hK]) bc_5 (by decide) (by decide) in_5 tyX6_ok nmX6 w_1_77 (Or.inr ⟨rfl, hI rfl, rfl⟩) rfl rfl dX6_init_10 rfl rfl ?_
  refine v_aload_n hX dX6_init_13 (i := 0) rfl rfl ?_
  refine v_sipush hX (v := (800)) dX6_init_14 (by decide) ?_
  refine v_newa_i hX (N := 800) w_1_57 dX6_init_17 (by decide) (by decide) (by decide) (by omega) (by omega) ?_
  refine v_putP hX (ci := 5) (k := 1) (f := 501) (by simp (disch := omega) only [q_K_s_I, q_K_s_J, q_K_s_P, q_K_s_A, q_K_s_B, q_K_s_C, q_K_r_A, q_K_r_B, y_K_n_O, x_K_n_O, y_K_n_A, x_K_n_A, hK]) bc_5 (by decide) (by decide) in_5 tyX6_ok nmX6 w_1_78 (Or.inr ⟨rfl, hI rfl, rfl⟩) rfl rfl dX6_init_19 rfl rfl ?_
  refine v_aload_n hX dX6_init_22 (i := 0) rfl rfl ?_
  refine v_sipush hX (v := (800)) dX6_init_23 (by decide) ?_
  refine v_newa_l hX (N := 800) w_1_98 dX6_init_26 (by decide) (by decide) (by decide) (by omega) (by omega) ?_
  refine v_putP hX (ci := 5) (k := 2) (f := 502) (by simp (disch := omega) only [q_K_s_I, q_K_s_J, q_K_s_P, q_K_s_A, q_K_s_B, q_K_s_C, q_K_r_A, q_K_r_B, y_K_n_O, x_K_n_O, y_K_n_A, x_K_n_A, hK]) bc_5 (by decide) (by decide) in_5 tyX6_ok nmX6 w_1_79 (Or.inr ⟨rfl, hI rfl, rfl⟩) rfl rfl dX6_init_28 rfl rfl ?_
  refine v_aload_n hX dX6_init_31 (i := 0) rfl rfl ?_
  refine v_sipush hX (v := (800)) dX6_init_32 (by decide) ?_
  refine v_newa_i hX (N := 800) w_1_57 dX6_init_35 (by decide) (by decide) (by decide) (by omega) (by omega) ?_
  refine v_putP hX (ci := 5) (k := 3) (f := 503) (by simp (disch := omega) only [q_K_s_I, q_K_s_J, q_K_s_P, q_K_s_A, q_K_s_B, q_K_s_C, q_K_r_A, q_K_r_B, y_K_n_O, x_K_n_O, y_K_n_A, x_K_n_A, hK]) bc_5 (by decide) (by decide) in_5 tyX6_ok nmX6 w_1_80 (Or.inr ⟨rfl, hI rfl, rfl⟩) rfl rfl dX6_init_37 rfl rfl ?_
  refine v_aload_n hX dX6_init_40 (i := 0) rfl rfl ?_
  refine v_callV hX (n := 0) (c_Names_forget (S := sNames0 S a z) (z := z + 1 + 1 + 1 + 1) (a := a) (q := z) (by simp (disch := omega) only [q_K_s_I, q_K_s_J, q_K_s_P, q_K_s_A, q_K_s_B, q_K_s_C, q_K_r_A, q_K_r_B, y_K_n_O, x_K_n_O, y_K_n_A, x_K_n_A, q_P_s_I, q_P_s_J, q_P_s_A, q_P_s_B, q_P_s_C, q_P_n_A, q_P_r_A, q_P_r_B, y_P_s_P, x_P_s_P, y_P_n_O, x_P_n_O, q_L_s_I, q_L_s_J, q_L_s_P, q_L_s_A, q_L_s_B, q_L_s_C, q_L_n_O, q_L_r_A, q_L_r_B, y_L_n_A, x_L_n_A, sNames0, hK]) (by simp (disch := omega) only [q_K_s_I, q_K_s_J, q_K_s_P, q_K_s_A, q_K_s_B, q_K_s_C, q_K_r_A, q_K_r_B, y_K_n_O, x_K_n_O, y_K_n_A, x_K_n_A, q_P_s_I, q_P_s_J, q_P_s_A, q_P_s_B, q_P_s_C, q_P_n_A, q_P_r_A, q_P_r_B, y_P_s_P, x_P_s_P, y_P_n_O, x_P_n_O, q_L_s_I, q_L_s_J, q_L_s_P, q_L_s_A, q_L_s_B, q_L_s_C, q_L_n_O, q_L_r_A, q_L_r_B, y_L_n_A, x_L_n_A, sNames0, hK]) (by simp (disch := omega) only [q_K_s_I, q_K_s_J, q_K_s_P, q_K_s_A, q_K_s_B, q_K_s_C, q_K_r_A, q_K_r_B, y_K_n_O, x_K_n_O, y_K_n_A, x_K_n_A, q_P_s_I, q_P_s_J, q_P_s_A, q_P_s_B, q_P_s_C, q_P_n_A, q_P_r_A, q_P_r_B, y_P_s_P, x_P_s_P, y_P_n_O, x_P_n_O, q_L_s_I, q_L_s_J, q_L_s_P, q_L_s_A, q_L_s_B, q_L_s_C, q_L_n_O, q_L_r_A, q_L_r_B, y_L_n_A, x_L_n_A, sNames0, hK]) (by simp (disch := omega) only [q_K_s_I, q_K_s_J, q_K_s_P, q_K_s_A, q_K_s_B, q_K_s_C, q_K_r_A, q_K_r_B, y_K_n_O, x_K_n_O, y_K_n_A, x_K_n_A, q_P_s_I, q_P_s_J, q_P_s_A, q_P_s_B, q_P_s_C, q_P_n_A, q_P_r_A, q_P_r_B, y_P_s_P, x_P_s_P, y_P_n_O, x_P_n_O, q_L_s_I, q_L_s_J, q_L_s_P, q_L_s_A, q_L_s_B, q_L_s_C, q_L_n_O, q_L_r_A, q_L_r_B, y_L_n_A, x_L_n_A, sNames0, hK]; decide)) (by simp (disch := omega) only [q_K_s_I, q_K_s_J, q_K_s_P, q_K_s_A, q_K_s_B, q_K_s_C, q_K_r_A, q_K_r_B, y_K_n_O, x_K_n_O, y_K_n_A, x_K_n_A, hK, sNames0]) bc_5 (by decide) w_1_70 w_1_71 w_1_72 w_1_4 w_1_73 (by decide +kernel) rfl ⟨by decide, by decide⟩ ⟨by omega, by omega⟩ (Nat.le_of_ble_eq_true rfl) rfl dX6_init_41 (fun _ _ _ h => h) ?_
  rintro r1 S1 z1 ⟨rfl, rfl, rfl⟩
  exact v_return hX hE dX6_init_44 (by omega) (by omega) ⟨rfl, rfl, rfl⟩
