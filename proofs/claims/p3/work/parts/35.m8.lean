set_option maxRecDepth 100000 in
set_option maxHeartbeats 4000000 in
theorem c_AL_end {kn : Nat → Nat} {B : Nat} {S : b_M} {z a : Nat} {k : Int32} (hK : m_K S a = 10) : b_C kn B yX12_end cX12_end 2 (some .int) 6 82 1 6 [.ref a, .int k] S z (fun r S' z' => (0 ≤ k ∧ k ≤ 16 ∧ 16 ≤ m_I S 1001 a) ∧ r = some (.int (m_I S 1001 a - (16 - k))) ∧ z' = z ∧ S' = s_I S 1001 a (m_I S 1001 a - (16 - k))) (fun E S' z' => z ≤ z' ∧ S' = S ∧ ((E = "java/lang/IllegalArgumentException" ∧ (k < 0 ∨ 16 < k)) ∨ (E = "java/lang/IllegalStateException" ∧ 0 ≤ k ∧ k ≤ 16 ∧ m_I S 1001 a < 16))) := by
  refine b_enter (by decide) (Nat.le_of_ble_eq_true rfl) ?_
  intro X hX hE hnL hkn hB hI
  subst hkn; subst hB
  change b_V X S z 0 0 0 [(0, .ref a), (1, .int k)] []
  refine v_iload_n hX dX12_end_0 (i := 1) rfl rfl ?_
  refine v_if_lt hX (tgt := 10) dX12_end_1 (by decide) (fun h => ?_) (fun h => ?_)
  · exact v_throw hX hE (cls := "java/lang/IllegalArgumentException") (text := "n is not from 0 to 16") (ik := 53) (is := 55) (ic := 57) (by decide +kernel) w_3_46 w_1_21 (List.mem_of_getElem? (i := 1) rfl) (List.mem_of_getElem? (i := 1) rfl) ha_57 hb_57 hg_57_53 dX12_end_10 dX12_end_13 dX12_end_14 dX12_end_16 dX12_end_19 (by decide) (Nat.le_of_ble_eq_true rfl) (by omega) (by omega) (fun z' hz => ⟨hz, rfl, Or.inl ⟨rfl, Or.inl h⟩⟩)
  refine v_iload_n hX dX12_end_4 (i := 1) rfl rfl ?_
  refine v_bipush hX (v := 16) dX12_end_5 (by decide) ?_
  refine v_icmp_le hX (tgt := 20) dX12_end_7 (by decide) (fun h2 => ?_) (fun h2 => ?_)
  · 
    refine v_aload_n hX dX12_end_20 (i := 0) rfl rfl ?_
    refine v_get hX (ci := 10) (k := 1) (by simp (disch := omega) only [q_K_s_I, q_K_s_J, q_K_s_P, q_K_s_A, q_K_s_B, q_K_s_C, q_K_r_A, q_K_r_B, y_K_n_O, x_K_n_O, y_K_n_A, x_K_n_A, hK]) bc_10 (by decide) (by decide) in_10 w_2_176 dX12_end_21 (mvI (f := 1001) rfl rfl) ?_
    refine v_bipush hX (v := (16)) dX12_end_24 (by decide) ?_
    refine v_icmp_ge hX (tgt := 39) dX12_end_26 (by decide) (fun h3 => ?_) (fun h3 => ?_)
    · 
      refine v_aload_n hX dX12_end_39 (i := 0) rfl rfl ?_
      refine v_dup hX dX12_end_40 rfl ?_
      refine v_get hX (ci := 10) (k := 1) (by simp (disch := omega) only [q_K_s_I, q_K_s_J, q_K_s_P, q_K_s_A, q_K_s_B, q_K_s_C, q_K_r_A, q_K_r_B, y_K_n_O, x_K_n_O, y_K_n_A, x_K_n_A, hK]) bc_10 (by decide) (by decide) in_10 w_2_176 dX12_end_41 (mvI (f := 1001) rfl rfl) ?_
      refine v_bipush hX (v := 16) dX12_end_44 (by decide) ?_
      refine v_iload_n hX dX12_end_46 (i := 1) rfl rfl ?_
      refine v_isub hX dX12_end_47 ?_
      refine v_isub hX dX12_end_48 ?_
      refine v_putI hX (ci := 10) (k := 1) (f := 1001) (by simp (disch := omega) only [q_K_s_I, q_K_s_J, q_K_s_P, q_K_s_A, q_K_s_B, q_K_s_C, q_K_r_A, q_K_r_B, y_K_n_O, x_K_n_O, y_K_n_A, x_K_n_A, hK]) bc_10 (by decide) (by decide) in_10 tyX12_ok nmX12 w_2_176 (Or.inl rfl) rfl rfl dX12_end_49 rfl rfl ?_
      refine v_aload_n hX dX12_end_52 (i := 0) rfl rfl ?_
      refine v_get hX (ci := 10) (k := 1) (by simp (disch := omega) only [q_K_s_I, q_K_s_J, q_K_s_P, q_K_s_A, q_K_s_B, q_K_s_C, q_K_r_A, q_K_r_B, y_K_n_O, x_K_n_O, y_K_n_A, x_K_n_A, hK]) bc_10 (by decide) (by decide) in_10 w_2_176 dX12_end_53 (mvI (f := 1001) rfl rfl) ?_
      refine v_ireturn hX hE dX12_end_56 (by omega) (by omega) ⟨⟨Int32.not_lt.mp h, h2, h3⟩, ?_, rfl, rfl⟩
      rw [y_I_s_I]
    · exact v_throw hX hE (cls := "java/lang/IllegalStateException") (text := "the text has less than sixteen bytes") (ik := 42) (is := 58) (ic := 46) (by decide +kernel) w_2_207 w_1_20 (List.mem_of_getElem? (i := 2) rfl) (List.mem_of_getElem? (i := 0) rfl) ha_46 hb_46 hg_46_42 dX12_end_29 dX12_end_32 dX12_end_33 dX12_end_35 dX12_end_38 (by decide) (Nat.le_of_ble_eq_true rfl) (by omega) (by omega) (fun z' hz => ⟨hz, rfl, Or.inr ⟨rfl, Int32.not_lt.mp h, h2, Int32.not_le.mp h3⟩⟩)
  · exact v_throw hX hE (cls := "java/lang/IllegalArgumentException") (text := "n is not from 0 to 16") (ik := 53) (is := 55) (ic := 57) (by decide +kernel) w_3_46 w_1_21 (List.mem_of_getElem? (i := 1) rfl) (List.mem_of_getElem? (i := 1) rfl) ha_57 hb_57 hg_57_53 dX12_end_10 dX12_end_13 dX12_end_14 dX12_end_16 dX12_end_19 (by decide) (Nat.le_of_ble_eq_true rfl) (by omega) (by omega) (fun z' hz => ⟨hz, rfl, Or.inl ⟨rfl, Or.inr (Int32.not_le.mp h2)⟩⟩)
