set_option maxRecDepth 100000 in
set_option maxHeartbeats 4000000 in
theorem c_M_thrown {kn : Nat → Nat} {B : Nat} {S : b_M} {z a : Nat} (hK : m_K S a = 11) : b_C kn B yX13_thrown cX13_thrown 1 (some .int) 0 0 0 0 [.ref a] S z (fun r S' z' => r = some (.int (m_I S 1102 a)) ∧ z' = z ∧ S' = S) (fun _ _ _ => False) := by
  refine b_enter (by decide) (Nat.le_of_ble_eq_true rfl) ?_
  intro X hX hE hnL hkn hB hI
  subst hkn; subst hB
  refine v_aload_n hX dX13_thrown_0 (i := 0) rfl rfl ?_
  refine v_get hX (ci := 11) (k := 2) (by simp (disch := omega) only [q_K_s_I, q_K_s_J, q_K_s_P, q_K_s_A, q_K_s_B, q_K_s_C, q_K_r_A, q_K_r_B, y_K_n_O, x_K_n_O, y_K_n_A, x_K_n_A, hK]) bc_11 (by decide) (by decide) in_11 w_5_218 dX13_thrown_1 (mvI (f := 1102) rfl rfl) ?_
  exact v_ireturn hX hE dX13_thrown_4 (by omega) (by omega) ⟨rfl, rfl, rfl⟩
set_option maxRecDepth 100000 in
set_option maxHeartbeats 4000000 in
theorem c_M_fail {kn : Nat → Nat} {B : Nat} {S : b_M} {z a : Nat} {c : Int32} (hK : m_K S a = 11) : b_C kn B yX13_fail cX13_fail 2 (some .int) 0 0 0 0 [.ref a, .int c] S z (fun r S' z' => r = some (.int 0) ∧ z' = z ∧ S' = s_I S 1102 a c) (fun _ _ _ => False) := by
  refine b_enter (by decide) (Nat.le_of_ble_eq_true rfl) ?_
  intro X hX hE hnL hkn hB hI
  subst hkn; subst hB
  refine v_aload_n hX dX13_fail_0 (i := 0) rfl rfl ?_
  refine v_iload_n hX dX13_fail_1 (i := 1) rfl rfl ?_
  refine v_putI hX (ci := 11) (k := 2) (f := 1102) (by simp (disch := omega) only [q_K_s_I, q_K_s_J, q_K_s_P, q_K_s_A, q_K_s_B, q_K_s_C, q_K_r_A, q_K_r_B, y_K_n_O, x_K_n_O, y_K_n_A, x_K_n_A, hK]) bc_11 (by decide) (by decide) in_11 tyX13_ok nmX13 w_5_218 (Or.inl rfl) rfl rfl dX13_fail_2 rfl rfl ?_
  refine v_iconst hX (v := (0)) dX13_fail_5 (by decide) ?_
  exact v_ireturn hX hE dX13_fail_6 (by omega) (by omega) ⟨rfl, rfl, rfl⟩
set_option maxRecDepth 100000 in
set_option maxHeartbeats 4000000 in
theorem c_M_within {kn : Nat → Nat} {B : Nat} {S : b_M} {z : Nat} {v x y : Int32} : b_C kn B yX13_within cX13_within 3 (some .boolean) 0 0 0 0 [.int v, .int x, .int y] S z (fun r S' z' => r = some (.int (if x ≤ v ∧ v ≤ y then 1 else 0)) ∧ z' = z ∧ S' = S) (fun _ _ _ => False) := by
  refine b_enter (by decide) (Nat.le_of_ble_eq_true rfl) ?_
  intro X hX hE hnL hkn hB hI
  subst hkn; subst hB
  refine v_iload_n hX dX13_within_0 (i := 0) rfl rfl ?_
  refine v_iload_n hX dX13_within_1 (i := 1) rfl rfl ?_
  refine v_icmp_lt hX (tgt := 14) dX13_within_2 (by decide) (fun h => ?_) (fun h => ?_)
  · refine v_iconst hX (v := 0) dX13_within_14 (by decide) ?_
    exact v_zreturn hX rfl hE dX13_within_15 (by omega) (by omega) ⟨by rw [if_neg (fun q => Int32.not_lt.mpr q.1 h)], rfl, rfl⟩
  · refine v_iload_n hX dX13_within_5 (i := 0) rfl rfl ?_
    refine v_iload_n hX dX13_within_6 (i := 2) rfl rfl ?_
    refine v_icmp_gt hX (tgt := 14) dX13_within_7 (by decide) (fun h2 => ?_) (fun h2 => ?_)
    · refine v_iconst hX (v := 0) dX13_within_14 (by decide) ?_
      exact v_zreturn hX rfl hE dX13_within_15 (by omega) (by omega) ⟨by rw [if_neg (fun q => Int32.not_lt.mpr q.2 h2)], rfl, rfl⟩
    · refine v_iconst hX (v := 1) dX13_within_10 (by decide) ?_
      refine v_goto hX (tgt := 15) dX13_within_11 (by decide) ?_
      exact v_zreturn hX rfl hE dX13_within_15 (by omega) (by omega) ⟨by rw [if_pos ⟨Int32.not_lt.mp h, Int32.not_lt.mp h2⟩], rfl, rfl⟩
set_option maxRecDepth 100000 in
set_option maxHeartbeats 4000000 in
theorem c_M_end {kn : Nat → Nat} {B : Nat} {S : b_M} {z a : Nat} {k : Int32} (hK : m_K S a = 11) : b_C kn B yX13_end cX13_end 2 (some .int) 1 22 0 0 [.ref a, .int k] S z (fun r S' z' => z' = z ∧ ((¬ (0 ≤ k ∧ k ≤ 16) ∧ r = some (.int 0) ∧ S' = s_I (s_I S 1102 a 0) 1102 a 1) ∨ ((0 ≤ k ∧ k ≤ 16) ∧ m_I S 1103 a < 16 ∧ r = some (.int 0) ∧ S' = s_I (s_I S 1102 a 0) 1102 a 2) ∨ ((0 ≤ k ∧ k ≤ 16) ∧ 16 ≤ m_I S 1103 a ∧ r = some (.int (m_I S 1103 a - (16 - k))) ∧ S' = s_I (s_I S 1102 a 0) 1103 a (m_I S 1103 a - (16 - k))))) (fun _ _ _ => False) := by
  refine b_enter (by decide) (Nat.le_of_ble_eq_true rfl) ?_
  intro X hX hE hnL hkn hB hI
  subst hkn; subst hB
  change b_V X S z 0 0 0 [(0, .ref a), (1, .int k)] []
  refine v_aload_n hX dX13_end_0 (i := 0) rfl rfl ?_
  refine v_iconst hX (v := (0)) dX13_end_1 (by decide) ?_
  refine v_putI hX (ci := 11) (k := 2) (f := 1102) (by simp (disch := omega) only [q_K_s_I, q_K_s_J, q_K_s_P, q_K_s_A, q_K_s_B, q_K_s_C, q_K_r_A, q_K_r_B, y_K_n_O, x_K_n_O, y_K_n_A, x_K_n_A, hK]) bc_11 (by decide) (by decide) in_11 tyX13_ok nmX13 w_5_218 (Or.inl rfl) rfl rfl dX13_end_2 rfl rfl ?_
  refine v_iload_n hX dX13_end_5 (i := 1) rfl rfl ?_
  refine v_iconst hX (v := (0)) dX13_end_6 (by decide) ?_
  refine v_bipush hX (v := (16)) dX13_end_7 (by decide) ?_
  refine v_callS hX (n := 3) (c_M_within (v := k) (x := 0) (y := 16)) w_6_210 w_6_211 w_1_16 w_6_212 (by decide +kernel) rfl ⟨by decide, by decide⟩ ⟨by omega, by omega⟩ (Nat.le_of_ble_eq_true rfl) rfl dX13_end_9 (fun _ _ _ h => h) ?_
  rintro r1 S1 z1 ⟨rfl, rfl, rfl⟩
  refine v_if_ne hX (tgt := 21) dX13_end_12 (by decide) (fun h => ?_) (fun h => ?_)
  · have hk : 0 ≤ k ∧ k ≤ 16 := by
      by_cases q : 0 ≤ k ∧ k ≤ 16
      · exact q
      · exact absurd (if_neg q) h
    refine v_aload_n hX dX13_end_21 (i := 0) rfl rfl ?_
    refine v_get hX (ci := 11) (k := 3) (by simp (disch := omega) only [q_K_s_I, q_K_s_J, q_K_s_P, q_K_s_A, q_K_s_B, q_K_s_C, q_K_r_A, q_K_r_B, y_K_n_O, x_K_n_O, y_K_n_A, x_K_n_A, hK]) bc_11 (by decide) (by decide) in_11 w_5_219 dX13_end_22 (mvI (f := 1103) rfl rfl) ?_
    refine v_bipush hX (v := (16)) dX13_end_25 (by decide) ?_
    rw [x_I_s_I _ _ _ _ _ _ (Or.inl (by decide))]
    refine v_icmp_ge hX (tgt := 36) dX13_end_27 (by decide) (fun h3 => ?_) (fun h3 => ?_)
    · 
      refine v_aload_n hX dX13_end_36 (i := 0) rfl rfl ?_
      refine v_dup hX dX13_end_37 rfl ?_
      refine v_get hX (ci := 11) (k := 3) (by simp (disch := omega) only [q_K_s_I, q_K_s_J, q_K_s_P, q_K_s_A, q_K_s_B, q_K_s_C, q_K_r_A, q_K_r_B, y_K_n_O, x_K_n_O, y_K_n_A, x_K_n_A, hK]) bc_11 (by decide) (by decide) in_11 w_5_219 dX13_end_38 (mvI (f := 1103) rfl rfl) ?_
      refine v_bipush hX (v := (16)) dX13_end_41 (by decide) ?_
      refine v_iload_n hX dX13_end_43 (i := 1) rfl rfl ?_
      refine v_isub hX dX13_end_44 ?_
      refine v_isub hX dX13_end_45 ?_
      refine v_putI hX (ci := 11) (k := 3) (f := 1103) (by simp (disch := omega) only [q_K_s_I, q_K_s_J, q_K_s_P, q_K_s_A, q_K_s_B, q_K_s_C, q_K_r_A, q_K_r_B, y_K_n_O, x_K_n_O, y_K_n_A, x_K_n_A, hK]) bc_11 (by decide) (by decide) in_11 tyX13_ok nmX13 w_5_219 (Or.inl rfl) rfl rfl dX13_end_46 rfl rfl ?_
      refine v_aload_n hX dX13_end_49 (i := 0) rfl rfl ?_
      refine v_get hX (ci := 11) (k := 3) (by simp (disch := omega) only [q_K_s_I, q_K_s_J, q_K_s_P, q_K_s_A, q_K_s_B, q_K_s_C, q_K_r_A, q_K_r_B, y_K_n_O, x_K_n_O, y_K_n_A, x_K_n_A, hK]) bc_11 (by decide) (by decide) in_11 w_5_219 dX13_end_50 (mvI (f := 1103) rfl rfl) ?_
      refine v_ireturn hX hE dX13_end_53 (by omega) (by omega) ⟨rfl, Or.inr (Or.inr ⟨hk, h3, ?_, ?_⟩)⟩
      · rw [y_I_s_I, x_I_s_I _ _ _ _ _ _ (Or.inl (by decide))]
      · rw [x_I_s_I _ _ _ _ _ _ (Or.inl (by decide))]
    · 
      refine v_aload_n hX dX13_end_30 (i := 0) rfl rfl ?_
      refine v_iconst hX (v := (2)) dX13_end_31 (by decide) ?_
      refine v_callV hX (n := 1) (c_M_fail (S := s_I S 1102 a 0) (c := 2) (by simp (disch := omega) only [q_K_s_I, q_K_s_J, q_K_s_P, q_K_s_A, q_K_s_B, q_K_s_C, q_K_r_A, q_K_r_B, y_K_n_O, x_K_n_O, y_K_n_A, x_K_n_A, hK])) (by simp (disch := omega) only [q_K_s_I, q_K_s_J, q_K_s_P, q_K_s_A, q_K_s_B, q_K_s_C, q_K_r_A, q_K_r_B, y_K_n_O, x_K_n_O, y_K_n_A, x_K_n_A, hK]) bc_11 (by decide) w_6_202 w_6_204 (bw_p (q := (yX13_fail, 72)) (List.mem_of_getElem? (i := 40) rfl) rfl) w_1_16 w_6_205 (by decide +kernel) rfl ⟨by decide, by decide⟩ ⟨by omega, by omega⟩ (Nat.le_of_ble_eq_true rfl) rfl dX13_end_32 (fun _ _ _ h => h) ?_
      rintro r3 S3 z3 ⟨rfl, rfl, rfl⟩
      exact v_ireturn hX hE dX13_end_35 (by omega) (by omega) ⟨rfl, Or.inr (Or.inl ⟨hk, Int32.not_le.mp h3, rfl, rfl⟩)⟩
  · have hk : ¬ (0 ≤ k ∧ k ≤ 16) := fun q => by rw [if_pos q] at h; exact absurd h (by decide)
    refine v_aload_n hX dX13_end_15 (i := 0) rfl rfl ?_
    refine v_iconst hX (v := (1)) dX13_end_16 (by decide) ?_
    refine v_callV hX (n := 1) (c_M_fail (S := s_I S 1102 a 0) (c := 1) (by simp (disch := omega) only [q_K_s_I, q_K_s_J, q_K_s_P, q_K_s_A, q_K_s_B, q_K_s_C, q_K_r_A, q_K_r_B, y_K_n_O, x_K_n_O, y_K_n_A, x_K_n_A, hK])) (by simp (disch := omega) only [q_K_s_I, q_K_s_J, q_K_s_P, q_K_s_A, q_K_s_B, q_K_s_C, q_K_r_A, q_K_r_B, y_K_n_O, x_K_n_O, y_K_n_A, x_K_n_A, hK]) bc_11 (by decide) w_6_202 w_6_204 (bw_p (q := (yX13_fail, 72)) (List.mem_of_getElem? (i := 40) rfl) rfl) w_1_16 w_6_205 (by decide +kernel) rfl ⟨by decide, by decide⟩ ⟨by omega, by omega⟩ (Nat.le_of_ble_eq_true rfl) rfl dX13_end_17 (fun _ _ _ h => h) ?_
    rintro r2 S2 z2 ⟨rfl, rfl, rfl⟩
    exact v_ireturn hX hE dX13_end_20 (by omega) (by omega) ⟨rfl, Or.inl ⟨hk, rfl, rfl⟩⟩
