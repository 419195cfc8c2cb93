set_option maxRecDepth 100000 in
set_option maxHeartbeats 4000000 in
theorem c_L_error0 {kn : Nat → Nat} {B : Nat} {S : b_M} {z x o : Nat} {k v : Int32} (h : alG S x) : b_CW kn B yL_error cL_error 5 (some .int) [(0, 10, 13, 29)] 7 104 1 6 [.ref x, .int k, .int v, .ref o] S z (fun r S' z' => z ≤ z' ∧ S' = S ∧ r = some (.int 1)) (fun _ _ _ => False) := by
  refine b_enterW (by decide) (Nat.le_of_ble_eq_true rfl) ?_
  intro X hX hE hnL hkn hB
  subst hkn; subst hB
  change b_V X S z 0 0 0 [(0, .ref x), (1, .int k), (2, .int v), (3, .ref o)] []
  refine v_aload_n hX dL_error_0 (i := 3) rfl rfl ?_
  refine v_iconst hX (v := 0) dL_error_1 (by decide) ?_
  refine v_aload_n hX dL_error_2 (i := 0) rfl rfl ?_
  refine v_iload_n hX dL_error_3 (i := 1) rfl rfl ?_
  refine v_iload_n hX dL_error_4 (i := 2) rfl rfl ?_
  refine v_callVX hX (n := 2) (As := [.int k, .int v]) (st := [.int 0, .ref o]) (c_AL_error0 h) (al_k_0 h) bc_10 (by decide) w_5_114 w_5_115 w_5_116 w_1_1 w_5_117 (by decide +kernel) rfl ⟨by decide, by decide⟩ ⟨by omega, by omega⟩ (Nat.le_of_ble_eq_true rfl) rfl dL_error_5 ?_ ?_
  · rintro E S1 z1 q ⟨h1, rfl, rfl⟩
    refine v_catch hX hE (name := "java/lang/IndexOutOfBoundsException") [] _ [] rfl (fun y hy => absurd hy List.not_mem_nil) (by decide) (by decide) w_5_113 (List.mem_of_getElem? (i := 2) rfl) ?_
    refine v_astore hX (lv' := [(4, .ref q), (0, .ref x), (1, .int k), (2, .int v), (3, .ref o)]) dL_error_13 (by rw [hnL]; decide) rfl ?_
    refine v_iconst hX (v := 1) dL_error_15 (by decide) ?_
    exact v_ireturnW hX hE dL_error_16 (by omega) (by omega) ⟨h1, rfl, rfl⟩
  · rintro r S1 z1 h1
    exact h1.elim
set_option maxRecDepth 100000 in
set_option maxHeartbeats 4000000 in
theorem c_L_word0 {kn : Nat → Nat} {B : Nat} {S : b_M} {z x o : Nat} {k : Int32} (h : alG S x) : b_CW kn B yL_word cL_word 4 (some .int) [(0, 9, 12, 29)] 7 103 1 6 [.ref x, .int k, .ref o] S z (fun r S' z' => z ≤ z' ∧ S' = S ∧ r = some (.int 1)) (fun _ _ _ => False) := by
  refine b_enterW (by decide) (Nat.le_of_ble_eq_true rfl) ?_
  intro X hX hE hnL hkn hB
  subst hkn; subst hB
  change b_V X S z 0 0 0 [(0, .ref x), (1, .int k), (2, .ref o)] []
  refine v_aload_n hX dL_word_0 (i := 2) rfl rfl ?_
  refine v_iconst hX (v := 0) dL_word_1 (by decide) ?_
  refine v_aload_n hX dL_word_2 (i := 0) rfl rfl ?_
  refine v_iload_n hX dL_word_3 (i := 1) rfl rfl ?_
  refine v_callVX hX (n := 1) (As := [.int k]) (st := [.int 0, .ref o]) (c_AL_word0 h) (al_k_0 h) bc_10 (by decide) w_5_137 w_5_138 w_5_139 w_1_1 w_5_140 (by decide +kernel) rfl ⟨by decide, by decide⟩ ⟨by omega, by omega⟩ (Nat.le_of_ble_eq_true rfl) rfl dL_word_4 ?_ ?_
  · rintro E S1 z1 q ⟨h1, rfl, rfl⟩
    refine v_catch hX hE (name := "java/lang/IndexOutOfBoundsException") [] _ [] rfl (fun y hy => absurd hy List.not_mem_nil) (by decide) (by decide) w_5_113 (List.mem_of_getElem? (i := 2) rfl) ?_
    refine v_astore_n hX (lv' := [(3, .ref q), (0, .ref x), (1, .int k), (2, .ref o)]) dL_word_12 (i := 3) rfl (by rw [hnL]; decide) rfl ?_
    refine v_iconst hX (v := 1) dL_word_13 (by decide) ?_
    exact v_ireturnW hX hE dL_word_14 (by omega) (by omega) ⟨h1, rfl, rfl⟩
  · rintro r S1 z1 h1
    exact h1.elim
set_option maxRecDepth 100000 in
set_option maxHeartbeats 4000000 in
theorem c_L_statement0 {kn : Nat → Nat} {B : Nat} {S : b_M} {z x o : Nat} {k v : Int32} (h : alG S x) : b_CW kn B yL_statement cL_statement 5 (some .int) [(0, 10, 13, 29)] 7 104 1 6 [.ref x, .int k, .int v, .ref o] S z (fun r S' z' => z ≤ z' ∧ S' = S ∧ r = some (.int 1)) (fun _ _ _ => False) := by
  refine b_enterW (by decide) (Nat.le_of_ble_eq_true rfl) ?_
  intro X hX hE hnL hkn hB
  subst hkn; subst hB
  change b_V X S z 0 0 0 [(0, .ref x), (1, .int k), (2, .int v), (3, .ref o)] []
  refine v_aload_n hX dL_statement_0 (i := 3) rfl rfl ?_
  refine v_iconst hX (v := 0) dL_statement_1 (by decide) ?_
  refine v_aload_n hX dL_statement_2 (i := 0) rfl rfl ?_
  refine v_iload_n hX dL_statement_3 (i := 1) rfl rfl ?_
  refine v_iload_n hX dL_statement_4 (i := 2) rfl rfl ?_
  refine v_callVX hX (n := 2) (As := [.int k, .int v]) (st := [.int 0, .ref o]) (c_AL_statement0 h) (al_k_0 h) bc_10 (by decide) w_5_169 w_5_170 w_5_171 w_1_1 w_5_172 (by decide +kernel) rfl ⟨by decide, by decide⟩ ⟨by omega, by omega⟩ (Nat.le_of_ble_eq_true rfl) rfl dL_statement_5 ?_ ?_
  · rintro E S1 z1 q ⟨h1, rfl, rfl⟩
    refine v_catch hX hE (name := "java/lang/IndexOutOfBoundsException") [] _ [] rfl (fun y hy => absurd hy List.not_mem_nil) (by decide) (by decide) w_5_113 (List.mem_of_getElem? (i := 2) rfl) ?_
    refine v_astore hX (lv' := [(4, .ref q), (0, .ref x), (1, .int k), (2, .int v), (3, .ref o)]) dL_statement_13 (by rw [hnL]; decide) rfl ?_
    refine v_iconst hX (v := 1) dL_statement_15 (by decide) ?_
    exact v_ireturnW hX hE dL_statement_16 (by omega) (by omega) ⟨h1, rfl, rfl⟩
  · rintro r S1 z1 h1
    exact h1.elim
set_option maxRecDepth 100000 in
set_option maxHeartbeats 4000000 in
theorem c_L_name0 {kn : Nat → Nat} {B : Nat} {S : b_M} {z x o : Nat} {k v : Int32} (h : alG S x) : b_CW kn B yL_name cL_name 5 (some .int) [(0, 10, 13, 29)] 7 107 1 6 [.ref x, .int k, .int v, .ref o] S z (fun r S' z' => z ≤ z' ∧ S' = S ∧ r = some (.int 1)) (fun _ _ _ => False) := by
  refine b_enterW (by decide) (Nat.le_of_ble_eq_true rfl) ?_
  intro X hX hE hnL hkn hB
  subst hkn; subst hB
  change b_V X S z 0 0 0 [(0, .ref x), (1, .int k), (2, .int v), (3, .ref o)] []
  refine v_aload_n hX dL_name_0 (i := 3) rfl rfl ?_
  refine v_iconst hX (v := 0) dL_name_1 (by decide) ?_
  refine v_aload_n hX dL_name_2 (i := 0) rfl rfl ?_
  refine v_iload_n hX dL_name_3 (i := 1) rfl rfl ?_
  refine v_iload_n hX dL_name_4 (i := 2) rfl rfl ?_
  refine v_callVX hX (n := 2) (As := [.int k, .int v]) (st := [.int 0, .ref o]) (c_AL_name0 h) (al_k_0 h) bc_10 (by decide) w_5_181 w_5_182 w_5_183 w_1_1 w_5_184 (by decide +kernel) rfl ⟨by decide, by decide⟩ ⟨by omega, by omega⟩ (Nat.le_of_ble_eq_true rfl) rfl dL_name_5 ?_ ?_
  · rintro E S1 z1 q ⟨h1, rfl, rfl⟩
    refine v_catch hX hE (name := "java/lang/IndexOutOfBoundsException") [] _ [] rfl (fun y hy => absurd hy List.not_mem_nil) (by decide) (by decide) w_5_113 (List.mem_of_getElem? (i := 2) rfl) ?_
    refine v_astore hX (lv' := [(4, .ref q), (0, .ref x), (1, .int k), (2, .int v), (3, .ref o)]) dL_name_13 (by rw [hnL]; decide) rfl ?_
    refine v_iconst hX (v := 1) dL_name_15 (by decide) ?_
    exact v_ireturnW hX hE dL_name_16 (by omega) (by omega) ⟨h1, rfl, rfl⟩
  · rintro r S1 z1 h1
    exact h1.elim
set_option maxRecDepth 100000 in
set_option maxHeartbeats 4000000 in
theorem c_L_end0 {kn : Nat → Nat} {B : Nat} {S : b_M} {z x o : Nat} {k : Int32} (h : alG S x) : b_CW kn B yL_end cL_end 4 (some .int) [(0, 9, 12, 19), (0, 9, 15, 13)] 7 103 1 6 [.ref x, .int k, .ref o] S z (fun r S' z' => z ≤ z' ∧ S' = S ∧ r = some (.int (if 0 ≤ k ∧ k ≤ 16 then 2 else 1))) (fun _ _ _ => False) := by
  refine b_enterW (by decide) (Nat.le_of_ble_eq_true rfl) ?_
  intro X hX hE hnL hkn hB
  subst hkn; subst hB
  change b_V X S z 0 0 0 [(0, .ref x), (1, .int k), (2, .ref o)] []
  refine v_aload_n hX dL_end_0 (i := 2) rfl rfl ?_
  refine v_iconst hX (v := 0) dL_end_1 (by decide) ?_
  refine v_aload_n hX dL_end_2 (i := 0) rfl rfl ?_
  refine v_iload_n hX dL_end_3 (i := 1) rfl rfl ?_
  refine v_callVX hX (n := 1) (As := [.int k]) (st := [.int 0, .ref o]) (c_AL_end (al_k_0 h)) (al_k_0 h) bc_10 (by decide) w_3_42 w_3_43 w_3_44 w_1_1 w_3_45 (by decide +kernel) rfl ⟨by decide, by decide⟩ ⟨by omega, by omega⟩ (Nat.le_of_ble_eq_true rfl) rfl dL_end_4 ?_ ?_
  · rintro E S1 z1 q ⟨h1, rfl, h3⟩
    rcases h3 with ⟨rfl, h4⟩ | ⟨rfl, h4, h5, h6⟩
    · have h7 : ¬ (0 ≤ k ∧ k ≤ 16) := fun q => h4.elim (fun h => Int32.not_lt.mpr q.1 h) (fun h => Int32.not_lt.mpr q.2 h)
      refine v_catch hX hE (name := "java/lang/IllegalArgumentException") [] _ [_] rfl (fun y hy => absurd hy List.not_mem_nil) (by decide) (by decide) w_3_41 (List.mem_of_getElem? (i := 1) rfl) ?_
      refine v_astore_n hX (lv' := [(3, .ref q), (0, .ref x), (1, .int k), (2, .ref o)]) dL_end_12 (i := 3) rfl (by rw [hnL]; decide) rfl ?_
      refine v_iconst hX (v := 1) dL_end_13 (by decide) ?_
      exact v_ireturnW hX hE dL_end_14 (by omega) (by omega) ⟨h1, rfl, by rw [if_neg h7]⟩
    · refine v_catch hX hE (name := "java/lang/IllegalStateException") [_] _ [] rfl (fun y hy => by rw [List.mem_singleton] at hy; subst hy; exact ⟨by decide, by decide, _, w_3_41, List.mem_of_getElem? (i := 0) rfl⟩) (by decide) (by decide) w_2_202 (List.mem_of_getElem? (i := 0) rfl) ?_
      refine v_astore_n hX (lv' := [(3, .ref q), (0, .ref x), (1, .int k), (2, .ref o)]) dL_end_15 (i := 3) rfl (by rw [hnL]; decide) rfl ?_
      refine v_iconst hX (v := 2) dL_end_16 (by decide) ?_
      exact v_ireturnW hX hE dL_end_17 (by omega) (by omega) ⟨h1, rfl, by rw [if_pos ⟨h4, h5⟩]⟩
  · rintro r S1 z1 ⟨h1, -⟩
    rw [al_i_1001 h] at h1
    exact absurd h1.2.2 (by decide)
set_option maxRecDepth 100000 in
set_option maxHeartbeats 4000000 in
theorem c_L_assemble0 {kn : Nat → Nat} {B : Nat} {S : b_M} {z x o : Nat} (h : alG S x) (hKo : m_K S o = 14) (hLo : m_L S o = 1) (ho : o < x ∨ x + 457 ≤ o) : b_CW kn B yL_assemble cL_assemble 3 (some .int) [(0, 8, 11, 19)] 5 103 0 0 [.ref x, .ref o] S z (fun r S' z' => z ≤ z' ∧ r = some (.int 0) ∧ ∃ S1, alE S S1 x ∧ S' = s_B S1 o 0 0) (fun _ _ _ => False) := by
  refine b_enterW (by decide) (Nat.le_of_ble_eq_true rfl) ?_
  intro X hX hE hnL hkn hB
  subst hkn; subst hB
  change b_V X S z 0 0 0 [(0, .ref x), (1, .ref o)] []
  refine v_aload_n hX dL_assemble_0 (i := 1) rfl rfl ?_
  refine v_iconst hX (v := 0) dL_assemble_1 (by decide) ?_
  refine v_aload_n hX dL_assemble_2 (i := 0) rfl rfl ?_
  refine v_callVX hX (n := 0) (As := []) (st := [.int 0, .ref o]) (c_AL_assemble0 h) (al_k_0 h) bc_10 (by decide) w_3_66 w_3_67 w_3_68 w_1_1 w_3_69 (by decide +kernel) rfl ⟨by decide, by decide⟩ ⟨by omega, by omega⟩ (Nat.le_of_ble_eq_true rfl) rfl dL_assemble_3 ?_ ?_
  · rintro E S1 z1 q h1
    exact h1.elim
  · rintro r S1 z1 ⟨rfl, rfl, h3⟩
    have eo := h3 o ho
    refine v_i2l hX dL_assemble_6 ?_
    refine v_last hX (eo.1.trans hKo) (by rw [eo.2.2.2.2.1, hLo]; unfold vp_in; decide) dL_assemble_7 ?_
    refine v_goto hX (tgt := 14) dL_assemble_8 (by decide) ?_
    refine v_iconst hX (v := 0) dL_assemble_14 (by decide) ?_
    exact v_ireturnW hX hE dL_assemble_15 (by omega) (by omega) ⟨Nat.le_refl _, rfl, S1, h3, rfl⟩
