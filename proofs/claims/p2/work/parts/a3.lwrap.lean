set_option maxRecDepth 100000 in
set_option maxHeartbeats 4000000 in
theorem l_error {kn : Nat → Nat} {B : Nat} {S : b_M} {z x o w : Nat} {k wh : Int} (h : cS S x) (hKo : m_K S o = 14) (hLo : m_L S o = 1) (ho : x + 457 ≤ o ∧ o < w) (g_gR : gR S x) (b_k : (-2147483648 ≤ k ∧ k < 2147483648)) (b_wh : (-2147483648 ≤ wh ∧ wh < 2147483648)) : b_CW kn B yL_error cL_error 5 (some .int) [(0, 10, 13, 29)] 7 112 1 6 [.ref x, .int (iI k), .int (iI wh), .ref o] S z (fun r S' z' => z ≤ z' ∧ (∃ v : Int32, r = some (.int v)) ∧ (S' = S ∨ ∃ v : Int64, S' = s_B S o 0 v)) (fun _ _ _ => False) := by
  refine b_enterW (by decide) (Nat.le_of_ble_eq_true rfl) ?_
  intro X hX hE hnL hkn hB
  subst hkn; subst hB
  change b_V X S z 0 0 0 [(0, .ref x), (1, .int (iI k)), (2, .int (iI wh)), (3, .ref o)] []
  refine v_aload_n hX dL_error_0 (i := 3) rfl rfl ?_
  refine v_iconst hX (v := 0) dL_error_1 (by decide) ?_
  refine v_aload_n hX dL_error_2 (i := 0) rfl rfl ?_
  refine v_iload_n hX dL_error_3 (i := 1) rfl rfl ?_
  refine v_iload_n hX dL_error_4 (i := 2) rfl rfl ?_
  refine v_callVX hX (n := 2) (As := [.int (iI k), .int (iI wh)]) (st := [.int 0, .ref o]) (g_A_error (w := w) h b_k b_wh g_gR) (cs_k_0 h) bc_10 (by decide) w_5_114 w_5_115 w_5_116 w_1_1 w_5_117 (by decide +kernel) rfl ⟨by decide, by decide⟩ ⟨by omega, by omega⟩ (Nat.le_of_ble_eq_true rfl) rfl dL_error_5 ?_ ?_
  · rintro E S1 z1 q ⟨h1, h2, rfl⟩
    subst h2
    refine v_catch hX hE (name := "java/lang/IndexOutOfBoundsException") [] _ [] rfl (fun y hy => absurd hy List.not_mem_nil) (by decide) (by decide) w_5_113 (List.mem_of_getElem? (i := 2) rfl) ?_
    refine v_astore hX (lv' := [(4, .ref q), (0, .ref x), (1, .int (iI k)), (2, .int (iI wh)), (3, .ref o)]) dL_error_13 (by rw [hnL]; decide) rfl ?_
    refine v_iconst hX (v := 1) dL_error_15 (by decide) ?_
    exact v_ireturnW hX hE dL_error_16 (by omega) (by omega) ⟨h1, ⟨1, rfl⟩, Or.inl rfl⟩
  · rintro r S1 z1 ⟨rfl, rfl, q, rfl, hq, -⟩
    refine u_i2l hX dL_error_8 ⟨by omega, by omega⟩ ?_
    refine v_last hX hKo (by rw [hLo]; unfold vp_in; decide) dL_error_9 ?_
    refine v_goto hX (tgt := 17) dL_error_10 (by decide) ?_
    refine v_iconst hX (v := 0) dL_error_17 (by decide) ?_
    exact v_ireturnW hX hE dL_error_18 (by omega) (by omega) ⟨Nat.le_refl _, ⟨0, rfl⟩, Or.inr ⟨_, rfl⟩⟩
set_option maxRecDepth 100000 in
set_option maxHeartbeats 4000000 in
theorem l_word {kn : Nat → Nat} {B : Nat} {S : b_M} {z x o w : Nat} {wi : Int} (h : cS S x) (hKo : m_K S o = 14) (hLo : m_L S o = 1) (ho : x + 457 ≤ o ∧ o < w) (g_oOk : oOk kn S x) (g_eI : eI S x w) (g_gP : gP S x) (b_wi : (-2147483648 ≤ wi ∧ wi < 2147483648)) : b_CW kn B yL_word cL_word 4 (some .int) [(0, 9, 12, 29)] 7 156 1 6 [.ref x, .int (iI wi), .ref o] S z (fun r S' z' => z ≤ z' ∧ (∃ v : Int32, r = some (.int v)) ∧ (S' = S ∨ ∃ v : Int64, S' = s_B S o 0 v)) (fun _ _ _ => False) := by
  refine b_enterW (by decide) (Nat.le_of_ble_eq_true rfl) ?_
  intro X hX hE hnL hkn hB
  subst hkn; subst hB
  change b_V X S z 0 0 0 [(0, .ref x), (1, .int (iI wi)), (2, .ref o)] []
  refine v_aload_n hX dL_word_0 (i := 2) rfl rfl ?_
  refine v_iconst hX (v := 0) dL_word_1 (by decide) ?_
  refine v_aload_n hX dL_word_2 (i := 0) rfl rfl ?_
  refine v_iload_n hX dL_word_3 (i := 1) rfl rfl ?_
  refine v_callVX hX (n := 1) (As := [.int (iI wi)]) (st := [.int 0, .ref o]) (g_A_word (w := w) h b_wi g_oOk g_eI g_gP) (cs_k_0 h) bc_10 (by decide) w_5_137 w_5_138 w_5_139 w_1_1 w_5_140 (by decide +kernel) rfl ⟨by decide, by decide⟩ ⟨by omega, by omega⟩ (Nat.le_of_ble_eq_true rfl) rfl dL_word_4 ?_ ?_
  · rintro E S1 z1 q ⟨h1, h2, rfl⟩
    subst h2
    refine v_catch hX hE (name := "java/lang/IndexOutOfBoundsException") [] _ [] rfl (fun y hy => absurd hy List.not_mem_nil) (by decide) (by decide) w_5_113 (List.mem_of_getElem? (i := 2) rfl) ?_
    refine v_astore_n hX (lv' := [(3, .ref q), (0, .ref x), (1, .int (iI wi)), (2, .ref o)]) dL_word_12 (i := 3) rfl (by rw [hnL]; decide) rfl ?_
    refine v_iconst hX (v := 1) dL_word_13 (by decide) ?_
    exact v_ireturnW hX hE dL_word_14 (by omega) (by omega) ⟨h1, ⟨1, rfl⟩, Or.inl rfl⟩
  · rintro r S1 z1 ⟨rfl, rfl, q, rfl, hq, -⟩
    refine u_i2l hX dL_word_7 ⟨by omega, by omega⟩ ?_
    refine v_last hX hKo (by rw [hLo]; unfold vp_in; decide) dL_word_8 ?_
    refine v_goto hX (tgt := 15) dL_word_9 (by decide) ?_
    refine v_iconst hX (v := 0) dL_word_15 (by decide) ?_
    exact v_ireturnW hX hE dL_word_16 (by omega) (by omega) ⟨Nat.le_refl _, ⟨0, rfl⟩, Or.inr ⟨_, rfl⟩⟩
set_option maxRecDepth 100000 in
set_option maxHeartbeats 4000000 in
theorem l_statement {kn : Nat → Nat} {B : Nat} {S : b_M} {z x o w : Nat} {k wh : Int} (h : cS S x) (hKo : m_K S o = 14) (hLo : m_L S o = 1) (ho : x + 457 ≤ o ∧ o < w) (g_gP : gP S x) (b_k : (-2147483648 ≤ k ∧ k < 2147483648)) (b_wh : (-2147483648 ≤ wh ∧ wh < 2147483648)) : b_CW kn B yL_statement cL_statement 5 (some .int) [(0, 10, 13, 29)] 7 112 1 6 [.ref x, .int (iI k), .int (iI wh), .ref o] S z (fun r S' z' => z ≤ z' ∧ (∃ v : Int32, r = some (.int v)) ∧ (S' = S ∨ ∃ v : Int64, S' = s_B S o 0 v)) (fun _ _ _ => False) := by
  refine b_enterW (by decide) (Nat.le_of_ble_eq_true rfl) ?_
  intro X hX hE hnL hkn hB
  subst hkn; subst hB
  change b_V X S z 0 0 0 [(0, .ref x), (1, .int (iI k)), (2, .int (iI wh)), (3, .ref o)] []
  refine v_aload_n hX dL_statement_0 (i := 3) rfl rfl ?_
  refine v_iconst hX (v := 0) dL_statement_1 (by decide) ?_
  refine v_aload_n hX dL_statement_2 (i := 0) rfl rfl ?_
  refine v_iload_n hX dL_statement_3 (i := 1) rfl rfl ?_
  refine v_iload_n hX dL_statement_4 (i := 2) rfl rfl ?_
  refine v_callVX hX (n := 2) (As := [.int (iI k), .int (iI wh)]) (st := [.int 0, .ref o]) (g_A_statement (w := w) h b_k b_wh g_gP) (cs_k_0 h) bc_10 (by decide) w_5_169 w_5_170 w_5_171 w_1_1 w_5_172 (by decide +kernel) rfl ⟨by decide, by decide⟩ ⟨by omega, by omega⟩ (Nat.le_of_ble_eq_true rfl) rfl dL_statement_5 ?_ ?_
  · rintro E S1 z1 q ⟨h1, h2, rfl⟩
    subst h2
    refine v_catch hX hE (name := "java/lang/IndexOutOfBoundsException") [] _ [] rfl (fun y hy => absurd hy List.not_mem_nil) (by decide) (by decide) w_5_113 (List.mem_of_getElem? (i := 2) rfl) ?_
    refine v_astore hX (lv' := [(4, .ref q), (0, .ref x), (1, .int (iI k)), (2, .int (iI wh)), (3, .ref o)]) dL_statement_13 (by rw [hnL]; decide) rfl ?_
    refine v_iconst hX (v := 1) dL_statement_15 (by decide) ?_
    exact v_ireturnW hX hE dL_statement_16 (by omega) (by omega) ⟨h1, ⟨1, rfl⟩, Or.inl rfl⟩
  · rintro r S1 z1 ⟨rfl, rfl, q, rfl, hq, -⟩
    refine u_i2l hX dL_statement_8 ⟨by omega, by omega⟩ ?_
    refine v_last hX hKo (by rw [hLo]; unfold vp_in; decide) dL_statement_9 ?_
    refine v_goto hX (tgt := 17) dL_statement_10 (by decide) ?_
    refine v_iconst hX (v := 0) dL_statement_17 (by decide) ?_
    exact v_ireturnW hX hE dL_statement_18 (by omega) (by omega) ⟨Nat.le_refl _, ⟨0, rfl⟩, Or.inr ⟨_, rfl⟩⟩
set_option maxRecDepth 100000 in
set_option maxHeartbeats 4000000 in
theorem l_name {kn : Nat → Nat} {B : Nat} {S : b_M} {z x o w : Nat} {k wh : Int} (h : cS S x) (hKo : m_K S o = 14) (hLo : m_L S o = 1) (ho : x + 457 ≤ o ∧ o < w) (b_k : (-2147483648 ≤ k ∧ k < 2147483648)) (b_wh : (-2147483648 ≤ wh ∧ wh < 2147483648)) : b_CW kn B yL_name cL_name 5 (some .int) [(0, 10, 13, 29)] 7 115 1 6 [.ref x, .int (iI k), .int (iI wh), .ref o] S z (fun r S' z' => z ≤ z' ∧ (∃ v : Int32, r = some (.int v)) ∧ (S' = S ∨ ∃ v : Int64, S' = s_B S o 0 v)) (fun _ _ _ => False) := by
  refine b_enterW (by decide) (Nat.le_of_ble_eq_true rfl) ?_
  intro X hX hE hnL hkn hB
  subst hkn; subst hB
  change b_V X S z 0 0 0 [(0, .ref x), (1, .int (iI k)), (2, .int (iI wh)), (3, .ref o)] []
  refine v_aload_n hX dL_name_0 (i := 3) rfl rfl ?_
  refine v_iconst hX (v := 0) dL_name_1 (by decide) ?_
  refine v_aload_n hX dL_name_2 (i := 0) rfl rfl ?_
  refine v_iload_n hX dL_name_3 (i := 1) rfl rfl ?_
  refine v_iload_n hX dL_name_4 (i := 2) rfl rfl ?_
  refine v_callVX hX (n := 2) (As := [.int (iI k), .int (iI wh)]) (st := [.int 0, .ref o]) (g_A_name (w := w) h b_k b_wh) (cs_k_0 h) bc_10 (by decide) w_5_181 w_5_182 w_5_183 w_1_1 w_5_184 (by decide +kernel) rfl ⟨by decide, by decide⟩ ⟨by omega, by omega⟩ (Nat.le_of_ble_eq_true rfl) rfl dL_name_5 ?_ ?_
  · rintro E S1 z1 q ⟨h1, h2, rfl⟩
    subst h2
    refine v_catch hX hE (name := "java/lang/IndexOutOfBoundsException") [] _ [] rfl (fun y hy => absurd hy List.not_mem_nil) (by decide) (by decide) w_5_113 (List.mem_of_getElem? (i := 2) rfl) ?_
    refine v_astore hX (lv' := [(4, .ref q), (0, .ref x), (1, .int (iI k)), (2, .int (iI wh)), (3, .ref o)]) dL_name_13 (by rw [hnL]; decide) rfl ?_
    refine v_iconst hX (v := 1) dL_name_15 (by decide) ?_
    exact v_ireturnW hX hE dL_name_16 (by omega) (by omega) ⟨h1, ⟨1, rfl⟩, Or.inl rfl⟩
  · rintro r S1 z1 ⟨rfl, rfl, q, rfl, hq, -⟩
    refine u_i2l hX dL_name_8 ⟨by omega, by omega⟩ ?_
    refine v_last hX hKo (by rw [hLo]; unfold vp_in; decide) dL_name_9 ?_
    refine v_goto hX (tgt := 17) dL_name_10 (by decide) ?_
    refine v_iconst hX (v := 0) dL_name_17 (by decide) ?_
    exact v_ireturnW hX hE dL_name_18 (by omega) (by omega) ⟨Nat.le_refl _, ⟨0, rfl⟩, Or.inr ⟨_, rfl⟩⟩
set_option maxRecDepth 100000 in
set_option maxHeartbeats 4000000 in
theorem l_feed {kn : Nat → Nat} {B : Nat} {S : b_M} {z x o w : Nat} {a b c d ln : Int} (h : cS S x) (hKo : m_K S o = 14) (hLo : m_L S o = 1) (ho : x + 457 ≤ o ∧ o < w) (e_ln : m_I S 1001 x = iI ln) (p : 0 ≤ ln ∧ ln ≤ 4096) (b_a : (-2147483648 ≤ a ∧ a < 2147483648)) (b_b : (-2147483648 ≤ b ∧ b < 2147483648)) (b_c : (-2147483648 ≤ c ∧ c < 2147483648)) (b_d : (-2147483648 ≤ d ∧ d < 2147483648)) : b_CW kn B yL_feed cL_feed 7 (some .int) [(0, 14, 17, 13)] 7 114 1 6 [.ref x, .int (iI a), .int (iI b), .int (iI c), .int (iI d), .ref o] S z (fun r S' z' => z ≤ z' ∧ ((4080 < ln ∧ r = some (.int 1) ∧ S' = S) ∨ (ln ≤ 4080 ∧ r = some (.int 0) ∧ ∃ S1, cFr [1001] [] [] w S S1 x ∧ m_I S1 1001 x = iI (ln + 16) ∧ S' = s_B S1 o 0 (jJ (ln + 16))))) (fun _ _ _ => False) := by
  refine b_enterW (by decide) (Nat.le_of_ble_eq_true rfl) ?_
  intro X hX hE hnL hkn hB
  subst hkn; subst hB
  change b_V X S z 0 0 0 [(0, .ref x), (1, .int (iI a)), (2, .int (iI b)), (3, .int (iI c)), (4, .int (iI d)), (5, .ref o)] []
  refine v_aload hX dL_feed_0 rfl ?_
  refine v_iconst hX (v := 0) dL_feed_2 (by decide) ?_
  refine v_aload_n hX dL_feed_3 (i := 0) rfl rfl ?_
  refine v_iload_n hX dL_feed_4 (i := 1) rfl rfl ?_
  refine v_iload_n hX dL_feed_5 (i := 2) rfl rfl ?_
  refine v_iload_n hX dL_feed_6 (i := 3) rfl rfl ?_
  refine v_iload hX dL_feed_7 rfl ?_
  refine v_callVX hX (n := 4) (As := [.int (iI a), .int (iI b), .int (iI c), .int (iI d)]) (st := [.int 0, .ref o]) (g_A_feed (w := w) h e_ln ⟨by omega, by omega⟩ b_a b_b b_c b_d p) (cs_k_0 h) bc_10 (by decide) w_2_203 w_2_204 w_2_205 w_1_1 w_2_206 (by decide +kernel) rfl ⟨by decide, by decide⟩ ⟨by omega, by omega⟩ (Nat.le_of_ble_eq_true rfl) rfl dL_feed_9 ?_ ?_
  · rintro E S1 z1 q ⟨h1, h2, rfl, h4⟩
    subst h2
    refine v_catch hX hE (name := "java/lang/IllegalStateException") [] _ [] rfl (fun y hy => absurd hy List.not_mem_nil) (by decide) (by decide) w_2_202 (List.mem_of_getElem? (i := 0) rfl) ?_
    refine v_astore hX (lv' := [(6, .ref q), (0, .ref x), (1, .int (iI a)), (2, .int (iI b)), (3, .int (iI c)), (4, .int (iI d)), (5, .ref o)]) dL_feed_17 (by rw [hnL]; decide) rfl ?_
    refine v_iconst hX (v := 1) dL_feed_19 (by decide) ?_
    exact v_ireturnW hX hE dL_feed_20 (by omega) (by omega) ⟨h1, Or.inl ⟨h4, rfl, rfl⟩⟩
  · rintro r S1 z1 ⟨rfl, f1, q, l1, rfl, hq, e1, b1, g1, g2, g3⟩
    subst g3; subst g1
    have eo := f1.1.1 o ho.2 (Or.inr ho.1)
    refine u_i2l hX dL_feed_12 ⟨by omega, by omega⟩ ?_
    refine v_last hX (eo.1.trans hKo) (by rw [eo.2.2.2.2.1, hLo]; unfold vp_in; decide) dL_feed_13 ?_
    refine v_goto hX (tgt := 21) dL_feed_14 (by decide) ?_
    refine v_iconst hX (v := 0) dL_feed_21 (by decide) ?_
    exact v_ireturnW hX hE dL_feed_22 (by omega) (by omega) ⟨Nat.le_refl _, Or.inr ⟨g2, rfl, S1, f1, e1, rfl⟩⟩
set_option maxRecDepth 100000 in
set_option maxHeartbeats 4000000 in
theorem l_end {kn : Nat → Nat} {B : Nat} {S : b_M} {z x o w : Nat} {n ln : Int} (h : cS S x) (hKo : m_K S o = 14) (hLo : m_L S o = 1) (ho : x + 457 ≤ o ∧ o < w) (e_ln : m_I S 1001 x = iI ln) (p : 0 ≤ ln ∧ ln ≤ 4096) (b_n : (-2147483648 ≤ n ∧ n < 2147483648)) : b_CW kn B yL_end cL_end 4 (some .int) [(0, 9, 12, 19), (0, 9, 15, 13)] 7 111 1 6 [.ref x, .int (iI n), .ref o] S z (fun r S' z' => z ≤ z' ∧ ((¬ (0 ≤ n ∧ n ≤ 16) ∧ r = some (.int 1) ∧ S' = S) ∨ ((0 ≤ n ∧ n ≤ 16) ∧ ln < 16 ∧ r = some (.int 2) ∧ S' = S) ∨ ((0 ≤ n ∧ n ≤ 16) ∧ 16 ≤ ln ∧ r = some (.int 0) ∧ ∃ S1, cFr [1001] [] [] w S S1 x ∧ m_I S1 1001 x = iI (ln - (16 - n)) ∧ S' = s_B S1 o 0 (jJ (ln - (16 - n)))))) (fun _ _ _ => False) := by
  refine b_enterW (by decide) (Nat.le_of_ble_eq_true rfl) ?_
  intro X hX hE hnL hkn hB
  subst hkn; subst hB
  change b_V X S z 0 0 0 [(0, .ref x), (1, .int (iI n)), (2, .ref o)] []
  refine v_aload_n hX dL_end_0 (i := 2) rfl rfl ?_
  refine v_iconst hX (v := 0) dL_end_1 (by decide) ?_
  refine v_aload_n hX dL_end_2 (i := 0) rfl rfl ?_
  refine v_iload_n hX dL_end_3 (i := 1) rfl rfl ?_
  refine v_callVX hX (n := 1) (As := [.int (iI n)]) (st := [.int 0, .ref o]) (g_A_end (w := w) h e_ln ⟨by omega, by omega⟩ b_n p) (cs_k_0 h) bc_10 (by decide) w_3_42 w_3_43 w_3_44 w_1_1 w_3_45 (by decide +kernel) rfl ⟨by decide, by decide⟩ ⟨by omega, by omega⟩ (Nat.le_of_ble_eq_true rfl) rfl dL_end_4 ?_ ?_
  · rintro E S1 z1 q ⟨h1, h2, h3⟩
    subst h2
    rcases h3 with ⟨rfl, h4⟩ | ⟨rfl, h4, h5⟩
    · refine v_catch hX hE (name := "java/lang/IllegalArgumentException") [] _ [_] rfl (fun y hy => absurd hy List.not_mem_nil) (by decide) (by decide) w_3_41 (List.mem_of_getElem? (i := 1) rfl) ?_
      refine v_astore_n hX (lv' := [(3, .ref q), (0, .ref x), (1, .int (iI n)), (2, .ref o)]) dL_end_12 (i := 3) rfl (by rw [hnL]; decide) rfl ?_
      refine v_iconst hX (v := 1) dL_end_13 (by decide) ?_
      exact v_ireturnW hX hE dL_end_14 (by omega) (by omega) ⟨h1, Or.inl ⟨h4, rfl, rfl⟩⟩
    · refine v_catch hX hE (name := "java/lang/IllegalStateException") [_] _ [] rfl (fun y hy => by rw [List.mem_singleton] at hy; subst hy; exact ⟨by decide, by decide, _, w_3_41, List.mem_of_getElem? (i := 0) rfl⟩) (by decide) (by decide) w_2_202 (List.mem_of_getElem? (i := 0) rfl) ?_
      refine v_astore_n hX (lv' := [(3, .ref q), (0, .ref x), (1, .int (iI n)), (2, .ref o)]) dL_end_15 (i := 3) rfl (by rw [hnL]; decide) rfl ?_
      refine v_iconst hX (v := 2) dL_end_16 (by decide) ?_
      exact v_ireturnW hX hE dL_end_17 (by omega) (by omega) ⟨h1, Or.inr (Or.inl ⟨h4, h5, rfl, rfl⟩)⟩
  · rintro r S1 z1 ⟨rfl, f1, q, l1, rfl, hq, e1, b1, ⟨g0, g1, g2⟩, g3, g4⟩
    subst g4; subst g3
    have eo := f1.1.1 o ho.2 (Or.inr ho.1)
    refine u_i2l hX dL_end_7 ⟨by omega, by omega⟩ ?_
    refine v_last hX (eo.1.trans hKo) (by rw [eo.2.2.2.2.1, hLo]; unfold vp_in; decide) dL_end_8 ?_
    refine v_goto hX (tgt := 18) dL_end_9 (by decide) ?_
    refine v_iconst hX (v := 0) dL_end_18 (by decide) ?_
    exact v_ireturnW hX hE dL_end_19 (by omega) (by omega) ⟨Nat.le_refl _, Or.inr (Or.inr ⟨⟨g0, g1⟩, g2, rfl, S1, f1, e1, rfl⟩)⟩
set_option maxRecDepth 100000 in
set_option maxHeartbeats 4000000 in
theorem l_assemble {kn : Nat → Nat} {B : Nat} {S : b_M} {z x o w : Nat} {ln : Int} {mc ms : Nat} (h : cS S x) (hKo : m_K S o = 14) (hLo : m_L S o = 1) (ho : x + 457 ≤ o ∧ o < w) (hi : cI kn S x w) (e_ln : m_I S 1001 x = iI ln) (p : 0 ≤ ln ∧ ln ≤ 4096) (rm_ : 2 * (2162688 - lA S x) + 6 ≤ (ms : Int) ∧ 2 * (2162688 - lA S x) + 256 ≤ 256 * (mc : Int)) (zw : x + 457 ≤ w ∧ w ≤ z) : a_CW kn B yL_assemble cL_assemble 3 (some .int) [(0, 8, 11, 19)] 10 221 mc ms [.ref x, .ref o] S z (fun r S' z' uc us => z ≤ z' ∧ (∃ v : Int32, r = some (.int v)) ∧ ∃ S1, cFr [301, 303, 306, 307, 308, 309, 310, 4, 5, 6, 701, 702, 703, 704, 205, 206, 207, 801, 802, 803, 804, 805, 806, 807, 808, 809, 810, 911, 912, 913, 914, 915, 504, 505, 403, 604, 102, 606, 605, 1001] [302, 304, 305, 700, 204, 800, 907, 908, 1] [3, 4, 7, 8, 10, 12, 13, 14, 423, 424, 431, 432, 435, 436, 439, 440, 443, 444, 447, 448, 451, 452, 455, 456] w S S1 x ∧ m_I S1 1001 x = iI 0 ∧ (us : Int) ≤ 2 * (lA S1 x - lA S x) + 6 ∧ 256 * (uc : Int) ≤ (us : Int) + 256 ∧ cI kn S1 x w ∧ (S' = S1 ∨ ∃ v : Int64, S' = s_B S1 o 0 v)) (fun _ _ _ _ _ => False) := by
  refine a_enterW (by decide) (Nat.le_of_ble_eq_true rfl) ?_
  intro X hX hE hnL hkn hB
  subst hkn; subst hB
  change b_V X S z 0 0 0 [(0, .ref x), (1, .ref o)] []
  refine v_aload_n hX dL_assemble_0 (i := 1) rfl rfl ?_
  refine v_iconst hX (v := 0) dL_assemble_1 (by decide) ?_
  refine v_aload_n hX dL_assemble_2 (i := 0) rfl rfl ?_
  refine w_callVX hX (n := 0) (As := []) (st := [.int 0, .ref o]) (g_A_assemble (w := w) h e_ln ⟨by omega, by omega⟩ hi.2.1 hi.2.2.1 hi.2.2.2.1 hi.2.2.2.2.1 hi.2.2.2.2.2.1 hi.2.2.2.2.2.2.1 hi.2.2.2.2.2.2.2.1 hi.2.2.2.2.2.2.2.2.1 hi.2.2.2.2.2.2.2.2.2 rm_ zw p) (cs_k_0 h) bc_10 (by decide) w_3_66 w_3_67 w_3_68 w_1_1 w_3_69 (by decide +kernel) rfl ⟨by decide, by decide⟩ ⟨by omega, by omega⟩ (Nat.le_of_ble_eq_true rfl) rfl dL_assemble_3 ?_ ?_
  · rintro E S1 z1 q uc us ⟨rfl, h1, f1, e1, ⟨u1, u2⟩, g1, g2, g3, g4, g5, g6, g7, g8, g9⟩
    refine w_catch hX hE (name := "java/lang/IllegalArgumentException") [] _ [] rfl (fun y hy => absurd hy List.not_mem_nil) (by decide) (by decide) w_3_41 (List.mem_of_getElem? (i := 1) rfl) ?_
    refine v_astore_n hX (lv' := [(2, .ref q), (0, .ref x), (1, .ref o)]) dL_assemble_11 (i := 2) rfl (by rw [hnL]; decide) rfl ?_
    refine v_iconst hX (v := 1) dL_assemble_12 (by decide) ?_
    exact w_ireturnW hX hE dL_assemble_13 ⟨h1, ⟨1, rfl⟩, S1, f1, e1, by omega, by omega, ⟨f1.keep (by decide) h, g1, g2, g3, g4, g5, g6, g7, g8, g9⟩, Or.inl rfl⟩
  · rintro r S1 z1 uc us ⟨h1, f1, q, l1, rfl, hq, e1, b1, ⟨u1, u2⟩, rfl, g1, g2, g3, g4, g5, g6, g7, g8, g9⟩
    have eo := f1.1.1 o ho.2 (Or.inr ho.1)
    refine u_i2l hX dL_assemble_6 ⟨by omega, by omega⟩ ?_
    refine v_last hX (eo.1.trans hKo) (by rw [eo.2.2.2.2.1, hLo]; unfold vp_in; decide) dL_assemble_7 ?_
    refine v_goto hX (tgt := 14) dL_assemble_8 (by decide) ?_
    refine v_iconst hX (v := 0) dL_assemble_14 (by decide) ?_
    exact w_ireturnW hX hE dL_assemble_15 ⟨h1, ⟨0, rfl⟩, S1, f1, e1, by omega, by omega, ⟨f1.keep (by decide) h, g1, g2, g3, g4, g5, g6, g7, g8, g9⟩, Or.inr ⟨_, rfl⟩⟩
