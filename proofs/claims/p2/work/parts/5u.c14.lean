set_option maxRecDepth 100000 in
set_option maxHeartbeats 4000000 in
theorem g_A_forgetProgram {kn : Nat → Nat} {B : Nat} {S : b_M} {z x w : Nat} (h : cS S x) (g_gN : gN S x) (g_eI : eI S x w) : b_C kn B yX12_forgetProgram cX12_forgetProgram 1 none 3 63 0 0 [.ref x] S z (fun r S' z' => z = z' ∧ cFr [504, 505, 205, 206, 604, 605, 606, 403, 310] [] [7] w S S' x ∧ ∃ m1 : Int, r = none ∧ m_I S' 403 (x + 421) = iI m1 ∧ (-2147483648 ≤ m1 ∧ m1 < 2147483648) ∧ (m1 = 0) ∧ (gN S' x) ∧ (eI S' x w) ∧ (gP S' x)) (fun _ _ _ => False) := by
  refine b_enter (by decide) (Nat.le_of_ble_eq_true rfl) ?_
  intro X hX hE hnL hkn hB hI_
  subst hkn; subst hB
  clear hI_
  change b_V X S z 0 0 0 [(0, .ref x)] []
  refine v_aload_n hX dX12_forgetProgram_0 (i := 0) rfl rfl ?_
  refine v_get hX (ci := 10) (k := 3) (cs_k_0 h) bc_10 (by decide) (by decide) in_10 w_2_178 dX12_forgetProgram_1 (mvP (f := 1003) (q := (x + 5)) rfl rfl (cs_p_1003 h)) ?_
  refine v_callV hX (n := 0) (g_P_forget (S := S) (x := x) (w := w) h g_gN g_eI) (cs_k_5 h) bc_6 (by decide) w_3_74 w_3_75 w_3_76 w_1_3 w_3_77 (by decide +kernel) rfl ⟨by decide, by decide⟩ ⟨by omega, by omega⟩ (Nat.le_of_ble_eq_true rfl) rfl dX12_forgetProgram_4 (fun _ _ _ q => q) ?_
  rintro r1_ S1_ z1_ ⟨rfl, f1_, rfl, q1_, g1_gN, g1_eI, g1_gP⟩
  have h1_ : cS S1_ x := f1_.keep (by decide) h
  refine v_aload_n hX dX12_forgetProgram_7 (i := 0) rfl rfl ?_
  refine v_get hX (ci := 10) (k := 4) (cs_k_0 h1_) bc_10 (by decide) (by decide) in_10 w_2_179 dX12_forgetProgram_8 (mvP (f := 1004) (q := (x + 418)) rfl rfl (cs_p_1004 h1_)) ?_
  refine v_callV hX (n := 0) (g_T_forget (S := S1_) (x := x) (w := w) h1_) (cs_k_418 h1_) bc_9 (by decide) w_3_83 w_3_84 w_3_85 w_1_10 w_3_86 (by decide +kernel) rfl ⟨by decide, by decide⟩ ⟨by omega, by omega⟩ (Nat.le_of_ble_eq_true rfl) rfl dX12_forgetProgram_11 (fun _ _ _ q => q) ?_
  rintro r2_ S2_ z2_ ⟨rfl, f2_, v3_, rfl, e_v3_, b_v3_, q2_⟩
  have h2_ : cS S2_ x := f2_.keep (by decide) h1_
  have g2_gN : gN S2_ x := gN.fr g1_gN h1_ f2_ (by decide)
  have g2_eI : eI S2_ x w := eI.fr g1_eI h1_ f2_ (by decide)
  have g2_gP : gP S2_ x := gP.fr g1_gP h1_ f2_ (by decide)
  exact v_return hX hE dX12_forgetProgram_14 (by omega) (by omega) ⟨rfl, (((cFr.rf _ _).tr (f1_.mono (by decide) (by decide) (by decide))).tr (f2_.mono (by decide) (by decide) (by decide))), v3_, rfl, (by simp (disch := omega) only [y_I_s_I, x_I_s_I, z_I_s_J, z_I_s_A, z_I_s_B, z_I_s_P, e_v3_]), ⟨by omega, by omega⟩, (by omega), g2_gN, g2_eI, g2_gP⟩
set_option maxRecDepth 100000 in
set_option maxHeartbeats 4000000 in
theorem g_A_append {kn : Nat → Nat} {B : Nat} {S : b_M} {z x w : Nat} {fo : Int} {ln : Int} (h : cS S x) (e_ln : m_I S 1001 x = iI ln) (b_ln : -2147483648 ≤ ln ∧ ln < 2147483648) (b_fo : -2147483648 ≤ fo ∧ fo < 2147483648) (p : 0 ≤ ln ∧ ln ≤ 4092) : b_C kn B yX12_append cX12_append 3 none 0 0 0 0 [.ref x, .int (iI fo)] S z (fun r S' z' => z = z' ∧ cFr [1001] [] [] w S S' x ∧ ∃ l1 : Int, r = none ∧ m_I S' 1001 x = iI l1 ∧ (-2147483648 ≤ l1 ∧ l1 < 2147483648) ∧ (l1 = ln + 4)) (fun _ _ _ => False) := by
  refine b_enter (by decide) (Nat.le_of_ble_eq_true rfl) ?_
  intro X hX hE hnL hkn hB hI_
  subst hkn; subst hB
  clear hI_
  change b_V X S z 0 0 0 [(0, .ref x), (1, .int (iI fo))] []
  have L3 : ∀ (n3 : Nat) (S3c : b_M) (l0 : Int) (sh : Int), cFr [1001] [] [] w S S3c x → m_I S3c 1001 x = iI l0 → (-2147483648 ≤ l0 ∧ l0 < 2147483648) → ((sh = 24 ∧ l0 = ln) ∨ (sh = 16 ∧ l0 = ln + 1) ∨ (sh = 8 ∧ l0 = ln + 2) ∨ (sh = 0 ∧ l0 = ln + 3) ∨ (sh = -8 ∧ l0 = ln + 4)) → (sh + 8).toNat = n3 → b_V X S3c z 0 0 3 [(2, .int (iI sh)), (0, .ref x), (1, .int (iI fo))] [] := by
    intro n3
    induction n3 using Nat.strongRecOn with
    | _ n3 ih3 =>
    intro S3c l0 sh fr3 e_l0 b_l0 p3_0 hm3
    have h3c : cS S3c x := fr3.keep (by decide) h
    refine v_iload_n hX dX12_append_3 (i := 2) rfl rfl ?_
    refine u_if_lt hX (tgt := 46) dX12_append_4 (by decide) ⟨by omega, by omega⟩ (fun h1_ => ?_) (fun h1_ => ?_)
    ·
      exact v_return hX hE dX12_append_46 (by omega) (by omega) ⟨rfl, fr3, l0, rfl, (by simp (disch := omega) only [y_I_s_I, x_I_s_I, z_I_s_J, z_I_s_A, z_I_s_B, z_I_s_P, e_l0]), ⟨by omega, by omega⟩, (by omega)⟩
    ·
      refine v_aload_n hX dX12_append_7 (i := 0) rfl rfl ?_
      refine v_get hX (ci := 10) (k := 1) (cs_k_0 h3c) bc_10 (by decide) (by decide) in_10 w_2_176 dX12_append_8 (mvF (f := 1001) (v := iI l0) rfl rfl (by simp (disch := omega) only [y_I_s_I, x_I_s_I, z_I_s_J, z_I_s_A, z_I_s_B, z_I_s_P, e_l0])) ?_
      refine v_sipush hX (v := iI 4096) dX12_append_11 (by decide) ?_
      refine u_icmp_ge hX (tgt := 46) dX12_append_14 (by decide) ⟨by omega, by omega⟩ ⟨by omega, by omega⟩ (fun h2_ => ?_) (fun h2_ => ?_)
      ·
        exact v_return hX hE dX12_append_46 (by omega) (by omega) ⟨rfl, fr3, l0, rfl, (by simp (disch := omega) only [y_I_s_I, x_I_s_I, z_I_s_J, z_I_s_A, z_I_s_B, z_I_s_P, e_l0]), ⟨by omega, by omega⟩, (by omega)⟩
      ·
        refine v_aload_n hX dX12_append_17 (i := 0) rfl rfl ?_
        refine v_get hX (ci := 10) (k := 0) (cs_k_0 h3c) bc_10 (by decide) (by decide) in_10 w_2_175 dX12_append_18 (mvP (f := 1000) (q := (x + 1)) rfl rfl (cs_p_1000 h3c)) ?_
        refine v_aload_n hX dX12_append_21 (i := 0) rfl rfl ?_
        refine v_get hX (ci := 10) (k := 1) (cs_k_0 h3c) bc_10 (by decide) (by decide) in_10 w_2_176 dX12_append_22 (mvF (f := 1001) (v := iI l0) rfl rfl (by simp (disch := omega) only [y_I_s_I, x_I_s_I, z_I_s_J, z_I_s_A, z_I_s_B, z_I_s_P, e_l0])) ?_
        refine v_iload_n hX dX12_append_25 (i := 1) rfl rfl ?_
        refine v_iload_n hX dX12_append_26 (i := 2) rfl rfl ?_
        refine u_ishr hX dX12_append_27 (fun v3_ b_v3_ => ?_)
        refine u_i2b hX dX12_append_28 (fun v4_ b_v4_ => ?_)
        refine u_bast hX (L := 4096) (cs_k_1 h3c) (cs_l_1 h3c) ⟨by omega, by omega⟩ (by decide) dX12_append_29 ?_
        refine v_aload_n hX dX12_append_30 (i := 0) rfl rfl ?_
        refine v_dup hX dX12_append_31 rfl ?_
        refine v_get hX (ci := 10) (k := 1) (cs_k_0 (cS.sA h3c)) bc_10 (by decide) (by decide) in_10 w_2_176 dX12_append_32 (mvF (f := 1001) (v := iI l0) rfl rfl (by simp (disch := omega) only [y_I_s_I, x_I_s_I, z_I_s_J, z_I_s_A, z_I_s_B, z_I_s_P, e_l0])) ?_
        refine v_iconst hX (v := iI 1) dX12_append_35 rfl ?_
        refine u_iadd hX dX12_append_36 ?_
        refine v_putI hX (ci := 10) (k := 1) (f := 1001) (cs_k_0 (cS.sA h3c)) bc_10 (by decide) (by decide) in_10 tyX12_ok nmX12 w_2_176 (Or.inl rfl) rfl rfl dX12_append_37 rfl rfl ?_
        refine v_iinc hX (v := iI (sh + (-8))) (lv' := [(2, .int (iI (sh + (-8)))), (0, .ref x), (1, .int (iI fo))]) dX12_append_40 rfl (iI_add _ _) (by rw [hnL]; decide) rfl ?_
        refine v_goto hX (tgt := 3) dX12_append_43 (by decide) ?_
        exact ih3 _ (by omega) _ (l0 + 1) (sh + (-8)) ((fr3.sAd (Or.inl ⟨by omega, by omega⟩) (cs_k_1 h3c) (f_byte _)).sI (by decide) ⟨by omega, by omega⟩) (by simp (disch := omega) only [y_I_s_I, x_I_s_I, z_I_s_J, z_I_s_A, z_I_s_B, z_I_s_P, e_l0]) ⟨by omega, by omega⟩ (by omega) rfl
  refine v_bipush hX (v := iI 24) dX12_append_0 (by decide) ?_
  refine v_istore_n hX (lv' := [(2, .int (iI 24)), (0, .ref x), (1, .int (iI fo))]) dX12_append_2 (i := 2) rfl (by rw [hnL]; decide) rfl ?_
  exact L3 _ _ ln 24 (cFr.rf _ _) (by simp (disch := omega) only [y_I_s_I, x_I_s_I, z_I_s_J, z_I_s_A, z_I_s_B, z_I_s_P, e_ln]) ⟨by omega, by omega⟩ (by omega) rfl
set_option maxRecDepth 100000 in
set_option maxHeartbeats 4000000 in
theorem g_A_feed {kn : Nat → Nat} {B : Nat} {S : b_M} {z x w : Nat} {a : Int} {b : Int} {c : Int} {d : Int} {ln : Int} (h : cS S x) (e_ln : m_I S 1001 x = iI ln) (b_ln : -2147483648 ≤ ln ∧ ln < 2147483648) (b_a : -2147483648 ≤ a ∧ a < 2147483648) (b_b : -2147483648 ≤ b ∧ b < 2147483648) (b_c : -2147483648 ≤ c ∧ c < 2147483648) (b_d : -2147483648 ≤ d ∧ d < 2147483648) (p : 0 ≤ ln ∧ ln ≤ 4096) : b_C kn B yX12_feed cX12_feed 5 (some .int) 6 90 1 6 [.ref x, .int (iI a), .int (iI b), .int (iI c), .int (iI d)] S z (fun r S' z' => z = z' ∧ cFr [1001] [] [] w S S' x ∧ ∃ q l1 : Int, r = some (.int (iI q)) ∧ (-2147483648 ≤ q ∧ q < 2147483648) ∧ m_I S' 1001 x = iI l1 ∧ (-2147483648 ≤ l1 ∧ l1 < 2147483648) ∧ (l1 = ln + 16 ∧ ln ≤ 4080 ∧ q = l1)) (fun E S' z' => z ≤ z' ∧ S' = S ∧ E = "java/lang/IllegalStateException" ∧ 4080 < ln) := by
  refine b_enter (by decide) (Nat.le_of_ble_eq_true rfl) ?_
  intro X hX hE hnL hkn hB hI_
  subst hkn; subst hB
  clear hI_
  change b_V X S z 0 0 0 [(0, .ref x), (1, .int (iI a)), (2, .int (iI b)), (3, .int (iI c)), (4, .int (iI d))] []
  refine v_aload_n hX dX12_feed_0 (i := 0) rfl rfl ?_
  refine v_get hX (ci := 10) (k := 1) (cs_k_0 h) bc_10 (by decide) (by decide) in_10 w_2_176 dX12_feed_1 (mvF (f := 1001) (v := iI ln) rfl rfl (by simp (disch := omega) only [y_I_s_I, x_I_s_I, z_I_s_J, z_I_s_A, z_I_s_B, z_I_s_P, e_ln])) ?_
  refine v_bipush hX (v := iI 16) dX12_feed_4 (by decide) ?_
  refine u_iadd hX dX12_feed_6 ?_
  refine v_sipush hX (v := iI 4096) dX12_feed_7 (by decide) ?_
  refine u_icmp_le hX (tgt := 23) dX12_feed_10 (by decide) ⟨by omega, by omega⟩ ⟨by omega, by omega⟩ (fun h1_ => ?_) (fun h1_ => ?_)
  ·
    refine v_aload_n hX dX12_feed_23 (i := 0) rfl rfl ?_
    refine v_iload_n hX dX12_feed_24 (i := 1) rfl rfl ?_
    refine v_callV hX (n := 1) (g_A_append (S := S) (x := x) (w := w) (fo := a) (ln := ln) h (by simp (disch := omega) only [y_I_s_I, x_I_s_I, z_I_s_J, z_I_s_A, z_I_s_B, z_I_s_P, e_ln]) ⟨by omega, by omega⟩ ⟨by omega, by omega⟩ (by omega)) (cs_k_0 h) bc_10 (by decide) w_3_34 w_3_36 (bw_p (q := (yX12_append, 5)) (List.mem_of_getElem? (i := 1) rfl) rfl) w_1_1 w_3_37 (by decide +kernel) rfl ⟨by decide, by decide⟩ ⟨by omega, by omega⟩ (Nat.le_of_ble_eq_true rfl) rfl dX12_feed_25 (fun _ _ _ q => q) ?_
    rintro r2_ S2_ z2_ ⟨rfl, f2_, v3_, rfl, e_v3_, b_v3_, q2_⟩
    have h2_ : cS S2_ x := f2_.keep (by decide) h
    refine v_aload_n hX dX12_feed_28 (i := 0) rfl rfl ?_
    refine v_iload_n hX dX12_feed_29 (i := 2) rfl rfl ?_
    refine v_callV hX (n := 1) (g_A_append (S := S2_) (x := x) (w := w) (fo := b) (ln := v3_) h2_ (by simp (disch := omega) only [y_I_s_I, x_I_s_I, z_I_s_J, z_I_s_A, z_I_s_B, z_I_s_P, e_v3_]) ⟨by omega, by omega⟩ ⟨by omega, by omega⟩ (by omega)) (cs_k_0 h2_) bc_10 (by decide) w_3_34 w_3_36 (bw_p (q := (yX12_append, 5)) (List.mem_of_getElem? (i := 1) rfl) rfl) w_1_1 w_3_37 (by decide +kernel) rfl ⟨by decide, by decide⟩ ⟨by omega, by omega⟩ (Nat.le_of_ble_eq_true rfl) rfl dX12_feed_30 (fun _ _ _ q => q) ?_
    rintro r4_ S4_ z4_ ⟨rfl, f4_, v5_, rfl, e_v5_, b_v5_, q4_⟩
    have h4_ : cS S4_ x := f4_.keep (by decide) h2_
    refine v_aload_n hX dX12_feed_33 (i := 0) rfl rfl ?_
    refine v_iload_n hX dX12_feed_34 (i := 3) rfl rfl ?_
    refine v_callV hX (n := 1) (g_A_append (S := S4_) (x := x) (w := w) (fo := c) (ln := v5_) h4_ (by simp (disch := omega) only [y_I_s_I, x_I_s_I, z_I_s_J, z_I_s_A, z_I_s_B, z_I_s_P, e_v5_]) ⟨by omega, by omega⟩ ⟨by omega, by omega⟩ (by omega)) (cs_k_0 h4_) bc_10 (by decide) w_3_34 w_3_36 (bw_p (q := (yX12_append, 5)) (List.mem_of_getElem? (i := 1) rfl) rfl) w_1_1 w_3_37 (by decide +kernel) rfl ⟨by decide, by decide⟩ ⟨by omega, by omega⟩ (Nat.le_of_ble_eq_true rfl) rfl dX12_feed_35 (fun _ _ _ q => q) ?_
    rintro r6_ S6_ z6_ ⟨rfl, f6_, v7_, rfl, e_v7_, b_v7_, q6_⟩
    have h6_ : cS S6_ x := f6_.keep (by decide) h4_
    refine v_aload_n hX dX12_feed_38 (i := 0) rfl rfl ?_
    refine v_iload hX dX12_feed_39 rfl ?_
    refine v_callV hX (n := 1) (g_A_append (S := S6_) (x := x) (w := w) (fo := d) (ln := v7_) h6_ (by simp (disch := omega) only [y_I_s_I, x_I_s_I, z_I_s_J, z_I_s_A, z_I_s_B, z_I_s_P, e_v7_]) ⟨by omega, by omega⟩ ⟨by omega, by omega⟩ (by omega)) (cs_k_0 h6_) bc_10 (by decide) w_3_34 w_3_36 (bw_p (q := (yX12_append, 5)) (List.mem_of_getElem? (i := 1) rfl) rfl) w_1_1 w_3_37 (by decide +kernel) rfl ⟨by decide, by decide⟩ ⟨by omega, by omega⟩ (Nat.le_of_ble_eq_true rfl) rfl dX12_feed_41 (fun _ _ _ q => q) ?_
    rintro r8_ S8_ z8_ ⟨rfl, f8_, v9_, rfl, e_v9_, b_v9_, q8_⟩
    have h8_ : cS S8_ x := f8_.keep (by decide) h6_
    refine v_aload_n hX dX12_feed_44 (i := 0) rfl rfl ?_
    refine v_get hX (ci := 10) (k := 1) (cs_k_0 h8_) bc_10 (by decide) (by decide) in_10 w_2_176 dX12_feed_45 (mvF (f := 1001) (v := iI v9_) rfl rfl (by simp (disch := omega) only [y_I_s_I, x_I_s_I, z_I_s_J, z_I_s_A, z_I_s_B, z_I_s_P, e_v9_])) ?_
    exact v_ireturn hX hE dX12_feed_48 (by omega) (by omega) ⟨rfl, (((((cFr.rf _ _).tr (f2_.mono (by decide) (by decide) (by decide))).tr (f4_.mono (by decide) (by decide) (by decide))).tr (f6_.mono (by decide) (by decide) (by decide))).tr (f8_.mono (by decide) (by decide) (by decide))), v9_, v9_, rfl, ⟨by omega, by omega⟩, (by simp (disch := omega) only [y_I_s_I, x_I_s_I, z_I_s_J, z_I_s_A, z_I_s_B, z_I_s_P, e_v9_]), ⟨by omega, by omega⟩, (by omega)⟩
  ·
    exact v_throw hX hE (cls := "java/lang/IllegalStateException") (text := "the text has no room for sixteen bytes more") (ik := 42) (is := 44) (ic := 46) (by decide +kernel) w_2_207 w_1_20 (List.mem_of_getElem? (i := 0) rfl) (List.mem_of_getElem? (i := 0) rfl) ha_46 hb_46 hg_46_42 dX12_feed_13 dX12_feed_16 dX12_feed_17 dX12_feed_19 dX12_feed_22 (by decide) (Nat.le_of_ble_eq_true rfl) (by omega) (by omega) (fun z' hz => ⟨hz, rfl, rfl, by omega⟩)
set_option maxRecDepth 100000 in
set_option maxHeartbeats 4000000 in
theorem g_A_end {kn : Nat → Nat} {B : Nat} {S : b_M} {z x w : Nat} {n : Int} {ln : Int} (h : cS S x) (e_ln : m_I S 1001 x = iI ln) (b_ln : -2147483648 ≤ ln ∧ ln < 2147483648) (b_n : -2147483648 ≤ n ∧ n < 2147483648) (p : 0 ≤ ln ∧ ln ≤ 4096) : b_C kn B yX12_end cX12_end 2 (some .int) 6 90 1 6 [.ref x, .int (iI n)] S z (fun r S' z' => z = z' ∧ cFr [1001] [] [] w S S' x ∧ ∃ q l1 : Int, r = some (.int (iI q)) ∧ (-2147483648 ≤ q ∧ q < 2147483648) ∧ m_I S' 1001 x = iI l1 ∧ (-2147483648 ≤ l1 ∧ l1 < 2147483648) ∧ ((0 ≤ n ∧ n ≤ 16 ∧ 16 ≤ ln) ∧ l1 = ln - (16 - n) ∧ q = l1)) (fun E S' z' => z ≤ z' ∧ S' = S ∧ ((E = "java/lang/IllegalArgumentException" ∧ ¬ (0 ≤ n ∧ n ≤ 16)) ∨ (E = "java/lang/IllegalStateException" ∧ (0 ≤ n ∧ n ≤ 16) ∧ ln < 16))) := by
  refine b_enter (by decide) (Nat.le_of_ble_eq_true rfl) ?_
  intro X hX hE hnL hkn hB hI_
  subst hkn; subst hB
  clear hI_
  change b_V X S z 0 0 0 [(0, .ref x), (1, .int (iI n))] []
  refine v_iload_n hX dX12_end_0 (i := 1) rfl rfl ?_
  refine u_if_lt hX (tgt := 10) dX12_end_1 (by decide) ⟨by omega, by omega⟩ (fun h1_ => ?_) (fun h1_ => ?_)
  ·
    exact v_throw hX hE (cls := "java/lang/IllegalArgumentException") (text := "n is not from 0 to 16") (ik := 53) (is := 55) (ic := 57) (by decide +kernel) w_3_46 w_1_21 (List.mem_of_getElem? (i := 1) rfl) (List.mem_of_getElem? (i := 1) rfl) ha_57 hb_57 hg_57_53 dX12_end_10 dX12_end_13 dX12_end_14 dX12_end_16 dX12_end_19 (by decide) (Nat.le_of_ble_eq_true rfl) (by omega) (by omega) (fun z' hz => ⟨hz, rfl, Or.inl ⟨rfl, by omega⟩⟩)
  ·
    refine v_iload_n hX dX12_end_4 (i := 1) rfl rfl ?_
    refine v_bipush hX (v := iI 16) dX12_end_5 (by decide) ?_
    refine u_icmp_le hX (tgt := 20) dX12_end_7 (by decide) ⟨by omega, by omega⟩ ⟨by omega, by omega⟩ (fun h2_ => ?_) (fun h2_ => ?_)
    ·
      refine v_aload_n hX dX12_end_20 (i := 0) rfl rfl ?_
      refine v_get hX (ci := 10) (k := 1) (cs_k_0 h) bc_10 (by decide) (by decide) in_10 w_2_176 dX12_end_21 (mvF (f := 1001) (v := iI ln) rfl rfl (by simp (disch := omega) only [y_I_s_I, x_I_s_I, z_I_s_J, z_I_s_A, z_I_s_B, z_I_s_P, e_ln])) ?_
      refine v_bipush hX (v := iI 16) dX12_end_24 (by decide) ?_
      refine u_icmp_ge hX (tgt := 39) dX12_end_26 (by decide) ⟨by omega, by omega⟩ ⟨by omega, by omega⟩ (fun h3_ => ?_) (fun h3_ => ?_)
      ·
        refine v_aload_n hX dX12_end_39 (i := 0) rfl rfl ?_
        refine v_dup hX dX12_end_40 rfl ?_
        refine v_get hX (ci := 10) (k := 1) (cs_k_0 h) bc_10 (by decide) (by decide) in_10 w_2_176 dX12_end_41 (mvF (f := 1001) (v := iI ln) rfl rfl (by simp (disch := omega) only [y_I_s_I, x_I_s_I, z_I_s_J, z_I_s_A, z_I_s_B, z_I_s_P, e_ln])) ?_
        refine v_bipush hX (v := iI 16) dX12_end_44 (by decide) ?_
        refine v_iload_n hX dX12_end_46 (i := 1) rfl rfl ?_
        refine u_isub hX dX12_end_47 ?_
        refine u_isub hX dX12_end_48 ?_
        refine v_putI hX (ci := 10) (k := 1) (f := 1001) (cs_k_0 h) bc_10 (by decide) (by decide) in_10 tyX12_ok nmX12 w_2_176 (Or.inl rfl) rfl rfl dX12_end_49 rfl rfl ?_
        refine v_aload_n hX dX12_end_52 (i := 0) rfl rfl ?_
        refine v_get hX (ci := 10) (k := 1) (cs_k_0 (cS.sI h)) bc_10 (by decide) (by decide) in_10 w_2_176 dX12_end_53 (mvF (f := 1001) (v := iI (ln - (16 - n))) rfl rfl (by simp (disch := omega) only [y_I_s_I, x_I_s_I, z_I_s_J, z_I_s_A, z_I_s_B, z_I_s_P, e_ln])) ?_
        exact v_ireturn hX hE dX12_end_56 (by omega) (by omega) ⟨rfl, ((cFr.rf _ _).sI (by decide) ⟨by omega, by omega⟩), (ln - (16 - n)), (ln - (16 - n)), rfl, ⟨by omega, by omega⟩, (by simp (disch := omega) only [y_I_s_I, x_I_s_I, z_I_s_J, z_I_s_A, z_I_s_B, z_I_s_P, e_ln]), ⟨by omega, by omega⟩, (by omega)⟩
      ·
        exact v_throw hX hE (cls := "java/lang/IllegalStateException") (text := "the text has less than sixteen bytes") (ik := 42) (is := 58) (ic := 46) (by decide +kernel) w_2_207 w_1_20 (List.mem_of_getElem? (i := 2) rfl) (List.mem_of_getElem? (i := 0) rfl) ha_46 hb_46 hg_46_42 dX12_end_29 dX12_end_32 dX12_end_33 dX12_end_35 dX12_end_38 (by decide) (Nat.le_of_ble_eq_true rfl) (by omega) (by omega) (fun z' hz => ⟨hz, rfl, Or.inr ⟨rfl, by omega, by omega⟩⟩)
    ·
      exact v_throw hX hE (cls := "java/lang/IllegalArgumentException") (text := "n is not from 0 to 16") (ik := 53) (is := 55) (ic := 57) (by decide +kernel) w_3_46 w_1_21 (List.mem_of_getElem? (i := 1) rfl) (List.mem_of_getElem? (i := 1) rfl) ha_57 hb_57 hg_57_53 dX12_end_10 dX12_end_13 dX12_end_14 dX12_end_16 dX12_end_19 (by decide) (Nat.le_of_ble_eq_true rfl) (by omega) (by omega) (fun z' hz => ⟨hz, rfl, Or.inl ⟨rfl, by omega⟩⟩)
set_option maxRecDepth 100000 in
set_option maxHeartbeats 4000000 in
theorem g_A_error {kn : Nat → Nat} {B : Nat} {S : b_M} {z x w : Nat} {k : Int} {wh : Int} (h : cS S x) (b_k : -2147483648 ≤ k ∧ k < 2147483648) (b_wh : -2147483648 ≤ wh ∧ wh < 2147483648) (g_gR : gR S x) : b_C kn B yX12_error cX12_error 3 (some .int) 6 90 1 6 [.ref x, .int (iI k), .int (iI wh)] S z (fun r S' z' => z = z' ∧ S = S' ∧ ∃ q : Int, r = some (.int (iI q)) ∧ (-2147483648 ≤ q ∧ q < 2147483648) ∧ (True)) (fun E S' z' => z ≤ z' ∧ S' = S ∧ E = "java/lang/IndexOutOfBoundsException") := by
  refine b_enter (by decide) (Nat.le_of_ble_eq_true rfl) ?_
  intro X hX hE hnL hkn hB hI_
  subst hkn; subst hB
  clear hI_
  change b_V X S z 0 0 0 [(0, .ref x), (1, .int (iI k)), (2, .int (iI wh))] []
  obtain ⟨tl, e_tl, b_tl⟩ := id g_gR
  refine v_iload_n hX dX12_error_0 (i := 1) rfl rfl ?_
  refine u_if_lt hX (tgt := 24) dX12_error_1 (by decide) ⟨by omega, by omega⟩ (fun h1_ => ?_) (fun h1_ => ?_)
  ·
    exact v_throw hX hE (cls := "java/lang/IndexOutOfBoundsException") (text := "no such error, or no such what") (ik := 81) (is := 83) (ic := 85) (by decide +kernel) w_5_118 w_1_28 (List.mem_of_getElem? (i := 4) rfl) (List.mem_of_getElem? (i := 2) rfl) ha_85 hb_85 hg_85_81 dX12_error_24 dX12_error_27 dX12_error_28 dX12_error_30 dX12_error_33 (by decide) (Nat.le_of_ble_eq_true rfl) (by omega) (by omega) (fun z' hz => ⟨hz, rfl, rfl⟩)
  ·
    refine v_iload_n hX dX12_error_4 (i := 1) rfl rfl ?_
    refine v_aload_n hX dX12_error_5 (i := 0) rfl rfl ?_
    refine v_get hX (ci := 10) (k := 2) (cs_k_0 h) bc_10 (by decide) (by decide) in_10 w_2_177 dX12_error_6 (mvP (f := 1002) (q := (x + 2)) rfl rfl (cs_p_1002 h)) ?_
    refine v_get hX (ci := 1) (k := 2) (cs_k_2 h) bc_1 (by decide) (by decide) in_1 w_1_48 dX12_error_9 (mvF (f := 102) (v := iI tl) rfl rfl (by simp (disch := omega) only [y_I_s_I, x_I_s_I, z_I_s_J, z_I_s_A, z_I_s_B, z_I_s_P, e_tl])) ?_
    refine u_icmp_ge hX (tgt := 24) dX12_error_12 (by decide) ⟨by omega, by omega⟩ ⟨by omega, by omega⟩ (fun h2_ => ?_) (fun h2_ => ?_)
    ·
      exact v_throw hX hE (cls := "java/lang/IndexOutOfBoundsException") (text := "no such error, or no such what") (ik := 81) (is := 83) (ic := 85) (by decide +kernel) w_5_118 w_1_28 (List.mem_of_getElem? (i := 4) rfl) (List.mem_of_getElem? (i := 2) rfl) ha_85 hb_85 hg_85_81 dX12_error_24 dX12_error_27 dX12_error_28 dX12_error_30 dX12_error_33 (by decide) (Nat.le_of_ble_eq_true rfl) (by omega) (by omega) (fun z' hz => ⟨hz, rfl, rfl⟩)
    ·
      refine v_iload_n hX dX12_error_15 (i := 2) rfl rfl ?_
      refine u_if_lt hX (tgt := 24) dX12_error_16 (by decide) ⟨by omega, by omega⟩ (fun h3_ => ?_) (fun h3_ => ?_)
      ·
        exact v_throw hX hE (cls := "java/lang/IndexOutOfBoundsException") (text := "no such error, or no such what") (ik := 81) (is := 83) (ic := 85) (by decide +kernel) w_5_118 w_1_28 (List.mem_of_getElem? (i := 4) rfl) (List.mem_of_getElem? (i := 2) rfl) ha_85 hb_85 hg_85_81 dX12_error_24 dX12_error_27 dX12_error_28 dX12_error_30 dX12_error_33 (by decide) (Nat.le_of_ble_eq_true rfl) (by omega) (by omega) (fun z' hz => ⟨hz, rfl, rfl⟩)
      ·
        refine v_iload_n hX dX12_error_19 (i := 2) rfl rfl ?_
        refine v_iconst hX (v := iI 1) dX12_error_20 rfl ?_
        refine u_icmp_le hX (tgt := 34) dX12_error_21 (by decide) ⟨by omega, by omega⟩ ⟨by omega, by omega⟩ (fun h4_ => ?_) (fun h4_ => ?_)
        ·
          refine v_iload_n hX dX12_error_34 (i := 2) rfl rfl ?_
          refine u_if_ne hX (tgt := 50) dX12_error_35 (by decide) ⟨by omega, by omega⟩ (fun h5_ => ?_) (fun h5_ => ?_)
          ·
            refine v_aload_n hX dX12_error_50 (i := 0) rfl rfl ?_
            refine v_get hX (ci := 10) (k := 2) (cs_k_0 h) bc_10 (by decide) (by decide) in_10 w_2_177 dX12_error_51 (mvP (f := 1002) (q := (x + 2)) rfl rfl (cs_p_1002 h)) ?_
            refine v_get hX (ci := 1) (k := 1) (cs_k_2 h) bc_1 (by decide) (by decide) in_1 w_1_46 dX12_error_54 (mvP (f := 101) (q := (x + 4)) rfl rfl (cs_p_101 h)) ?_
            refine v_iload_n hX dX12_error_57 (i := 1) rfl rfl ?_
            refine u_iald hX (L := 50) (cs_k_4 h) (cs_l_4 h) ⟨by omega, by omega⟩ (by decide) dX12_error_58 (fun v6_ e_v6_ b_v6_ => ?_)
            exact v_ireturn hX hE dX12_error_59 (by omega) (by omega) ⟨rfl, rfl, v6_, rfl, ⟨by omega, by omega⟩, trivial⟩
          ·
            refine v_aload_n hX dX12_error_38 (i := 0) rfl rfl ?_
            refine v_get hX (ci := 10) (k := 2) (cs_k_0 h) bc_10 (by decide) (by decide) in_10 w_2_177 dX12_error_39 (mvP (f := 1002) (q := (x + 2)) rfl rfl (cs_p_1002 h)) ?_
            refine v_get hX (ci := 1) (k := 0) (cs_k_2 h) bc_1 (by decide) (by decide) in_1 w_1_44 dX12_error_42 (mvP (f := 100) (q := (x + 3)) rfl rfl (cs_p_100 h)) ?_
            refine v_iload_n hX dX12_error_45 (i := 1) rfl rfl ?_
            refine u_iald hX (L := 50) (cs_k_3 h) (cs_l_3 h) ⟨by omega, by omega⟩ (by decide) dX12_error_46 (fun v7_ e_v7_ b_v7_ => ?_)
            refine v_goto hX (tgt := 59) dX12_error_47 (by decide) ?_
            exact v_ireturn hX hE dX12_error_59 (by omega) (by omega) ⟨rfl, rfl, v7_, rfl, ⟨by omega, by omega⟩, trivial⟩
        ·
          exact v_throw hX hE (cls := "java/lang/IndexOutOfBoundsException") (text := "no such error, or no such what") (ik := 81) (is := 83) (ic := 85) (by decide +kernel) w_5_118 w_1_28 (List.mem_of_getElem? (i := 4) rfl) (List.mem_of_getElem? (i := 2) rfl) ha_85 hb_85 hg_85_81 dX12_error_24 dX12_error_27 dX12_error_28 dX12_error_30 dX12_error_33 (by decide) (Nat.le_of_ble_eq_true rfl) (by omega) (by omega) (fun z' hz => ⟨hz, rfl, rfl⟩)
set_option maxRecDepth 100000 in
set_option maxHeartbeats 4000000 in
theorem g_A_word {kn : Nat → Nat} {B : Nat} {S : b_M} {z x w : Nat} {wi : Int} (h : cS S x) (b_wi : -2147483648 ≤ wi ∧ wi < 2147483648) (g_oOk : oOk kn S x) (g_eI : eI S x w) (g_gP : gP S x) : b_C kn B yX12_word cX12_word 2 (some .int) 6 135 1 6 [.ref x, .int (iI wi)] S z (fun r S' z' => z = z' ∧ S = S' ∧ ∃ q : Int, r = some (.int (iI q)) ∧ (-2147483648 ≤ q ∧ q < 2147483648) ∧ (True)) (fun E S' z' => z ≤ z' ∧ S' = S ∧ E = "java/lang/IndexOutOfBoundsException") := by
  refine b_enter (by decide) (Nat.le_of_ble_eq_true rfl) ?_
  intro X hX hE hnL hkn hB hI_
  subst hkn; subst hB
  clear hI_
  change b_V X S z 0 0 0 [(0, .ref x), (1, .int (iI wi))] []
  refine v_iload_n hX dX12_word_0 (i := 1) rfl rfl ?_
  refine u_if_lt hX (tgt := 15) dX12_word_1 (by decide) ⟨by omega, by omega⟩ (fun h1_ => ?_) (fun h1_ => ?_)
  ·
    exact v_throw hX hE (cls := "java/lang/IndexOutOfBoundsException") (text := "no such word") (ik := 81) (is := 93) (ic := 85) (by decide +kernel) w_5_118 w_1_28 (List.mem_of_getElem? (i := 5) rfl) (List.mem_of_getElem? (i := 2) rfl) ha_85 hb_85 hg_85_81 dX12_word_15 dX12_word_18 dX12_word_19 dX12_word_21 dX12_word_24 (by decide) (Nat.le_of_ble_eq_true rfl) (by omega) (by omega) (fun z' hz => ⟨hz, rfl, rfl⟩)
  ·
    refine v_iload_n hX dX12_word_4 (i := 1) rfl rfl ?_
    refine v_aload_n hX dX12_word_5 (i := 0) rfl rfl ?_
    refine v_get hX (ci := 10) (k := 3) (cs_k_0 h) bc_10 (by decide) (by decide) in_10 w_2_178 dX12_word_6 (mvP (f := 1003) (q := (x + 5)) rfl rfl (cs_p_1003 h)) ?_
    obtain ⟨v2_, e_v2_, b_v2_⟩ := i_ex (m_I S 605 (x + 5))
    refine v_get hX (ci := 6) (k := 5) (cs_k_5 h) bc_6 (by decide) (by decide) in_6 w_1_203 dX12_word_9 (mvF (f := 605) (v := iI v2_) rfl rfl (by simp (disch := omega) only [y_I_s_I, x_I_s_I, z_I_s_J, z_I_s_A, z_I_s_B, z_I_s_P, e_v2_])) ?_
    refine u_icmp_lt hX (tgt := 25) dX12_word_12 (by decide) ⟨by omega, by omega⟩ ⟨by omega, by omega⟩ (fun h3_ => ?_) (fun h3_ => ?_)
    ·
      refine v_aload_n hX dX12_word_25 (i := 0) rfl rfl ?_
      refine v_get hX (ci := 10) (k := 3) (cs_k_0 h) bc_10 (by decide) (by decide) in_10 w_2_178 dX12_word_26 (mvP (f := 1003) (q := (x + 5)) rfl rfl (cs_p_1003 h)) ?_
      refine v_iload_n hX dX12_word_29 (i := 1) rfl rfl ?_
      refine v_callV hX (n := 1) (g_P_wordAt (S := S) (x := x) (w := w) (wi := wi) h ⟨by omega, by omega⟩ g_oOk g_eI g_gP) (cs_k_5 h) bc_6 (by decide) w_5_142 w_5_143 w_5_144 w_1_3 w_5_145 (by decide +kernel) rfl ⟨by decide, by decide⟩ ⟨by omega, by omega⟩ (Nat.le_of_ble_eq_true rfl) rfl dX12_word_30 (fun _ _ _ q => q) ?_
      rintro r4_ S4_ z4_ ⟨rfl, rfl, v5_, rfl, b_v5_, q4_⟩
      exact v_ireturn hX hE dX12_word_33 (by omega) (by omega) ⟨rfl, rfl, v5_, rfl, ⟨by omega, by omega⟩, trivial⟩
    ·
      exact v_throw hX hE (cls := "java/lang/IndexOutOfBoundsException") (text := "no such word") (ik := 81) (is := 93) (ic := 85) (by decide +kernel) w_5_118 w_1_28 (List.mem_of_getElem? (i := 5) rfl) (List.mem_of_getElem? (i := 2) rfl) ha_85 hb_85 hg_85_81 dX12_word_15 dX12_word_18 dX12_word_19 dX12_word_21 dX12_word_24 (by decide) (Nat.le_of_ble_eq_true rfl) (by omega) (by omega) (fun z' hz => ⟨hz, rfl, rfl⟩)
set_option maxRecDepth 100000 in
set_option maxHeartbeats 4000000 in
theorem g_A_statement {kn : Nat → Nat} {B : Nat} {S : b_M} {z x w : Nat} {k : Int} {wh : Int} (h : cS S x) (b_k : -2147483648 ≤ k ∧ k < 2147483648) (b_wh : -2147483648 ≤ wh ∧ wh < 2147483648) (g_gP : gP S x) : b_C kn B yX12_statement cX12_statement 3 (some .int) 6 90 1 6 [.ref x, .int (iI k), .int (iI wh)] S z (fun r S' z' => z = z' ∧ S = S' ∧ ∃ q : Int, r = some (.int (iI q)) ∧ (-2147483648 ≤ q ∧ q < 2147483648) ∧ (True)) (fun E S' z' => z ≤ z' ∧ S' = S ∧ E = "java/lang/IndexOutOfBoundsException") := by
  refine b_enter (by decide) (Nat.le_of_ble_eq_true rfl) ?_
  intro X hX hE hnL hkn hB hI_
  subst hkn; subst hB
  clear hI_
  change b_V X S z 0 0 0 [(0, .ref x), (1, .int (iI k)), (2, .int (iI wh))] []
  obtain ⟨kp, e_kp, b_kp⟩ := id g_gP
  refine v_iload_n hX dX12_statement_0 (i := 1) rfl rfl ?_
  refine u_if_lt hX (tgt := 24) dX12_statement_1 (by decide) ⟨by omega, by omega⟩ (fun h1_ => ?_) (fun h1_ => ?_)
  ·
    exact v_throw hX hE (cls := "java/lang/IndexOutOfBoundsException") (text := "no such statement, or no such what") (ik := 81) (is := 102) (ic := 85) (by decide +kernel) w_5_118 w_1_28 (List.mem_of_getElem? (i := 6) rfl) (List.mem_of_getElem? (i := 2) rfl) ha_85 hb_85 hg_85_81 dX12_statement_24 dX12_statement_27 dX12_statement_28 dX12_statement_30 dX12_statement_33 (by decide) (Nat.le_of_ble_eq_true rfl) (by omega) (by omega) (fun z' hz => ⟨hz, rfl, rfl⟩)
  ·
    refine v_iload_n hX dX12_statement_4 (i := 1) rfl rfl ?_
    refine v_aload_n hX dX12_statement_5 (i := 0) rfl rfl ?_
    refine v_get hX (ci := 10) (k := 3) (cs_k_0 h) bc_10 (by decide) (by decide) in_10 w_2_178 dX12_statement_6 (mvP (f := 1003) (q := (x + 5)) rfl rfl (cs_p_1003 h)) ?_
    refine v_get hX (ci := 6) (k := 4) (cs_k_5 h) bc_6 (by decide) (by decide) in_6 w_1_201 dX12_statement_9 (mvF (f := 604) (v := iI kp) rfl rfl (by simp (disch := omega) only [y_I_s_I, x_I_s_I, z_I_s_J, z_I_s_A, z_I_s_B, z_I_s_P, e_kp])) ?_
    refine u_icmp_ge hX (tgt := 24) dX12_statement_12 (by decide) ⟨by omega, by omega⟩ ⟨by omega, by omega⟩ (fun h2_ => ?_) (fun h2_ => ?_)
    ·
      exact v_throw hX hE (cls := "java/lang/IndexOutOfBoundsException") (text := "no such statement, or no such what") (ik := 81) (is := 102) (ic := 85) (by decide +kernel) w_5_118 w_1_28 (List.mem_of_getElem? (i := 6) rfl) (List.mem_of_getElem? (i := 2) rfl) ha_85 hb_85 hg_85_81 dX12_statement_24 dX12_statement_27 dX12_statement_28 dX12_statement_30 dX12_statement_33 (by decide) (Nat.le_of_ble_eq_true rfl) (by omega) (by omega) (fun z' hz => ⟨hz, rfl, rfl⟩)
    ·
      refine v_iload_n hX dX12_statement_15 (i := 2) rfl rfl ?_
      refine u_if_lt hX (tgt := 24) dX12_statement_16 (by decide) ⟨by omega, by omega⟩ (fun h3_ => ?_) (fun h3_ => ?_)
      ·
        exact v_throw hX hE (cls := "java/lang/IndexOutOfBoundsException") (text := "no such statement, or no such what") (ik := 81) (is := 102) (ic := 85) (by decide +kernel) w_5_118 w_1_28 (List.mem_of_getElem? (i := 6) rfl) (List.mem_of_getElem? (i := 2) rfl) ha_85 hb_85 hg_85_81 dX12_statement_24 dX12_statement_27 dX12_statement_28 dX12_statement_30 dX12_statement_33 (by decide) (Nat.le_of_ble_eq_true rfl) (by omega) (by omega) (fun z' hz => ⟨hz, rfl, rfl⟩)
      ·
        refine v_iload_n hX dX12_statement_19 (i := 2) rfl rfl ?_
        refine v_iconst hX (v := iI 3) dX12_statement_20 rfl ?_
        refine u_icmp_le hX (tgt := 34) dX12_statement_21 (by decide) ⟨by omega, by omega⟩ ⟨by omega, by omega⟩ (fun h4_ => ?_) (fun h4_ => ?_)
        ·
          refine v_aload_n hX dX12_statement_34 (i := 0) rfl rfl ?_
          refine v_get hX (ci := 10) (k := 3) (cs_k_0 h) bc_10 (by decide) (by decide) in_10 w_2_178 dX12_statement_35 (mvP (f := 1003) (q := (x + 5)) rfl rfl (cs_p_1003 h)) ?_
          refine v_get hX (ci := 6) (k := 3) (cs_k_5 h) bc_6 (by decide) (by decide) in_6 w_1_199 dX12_statement_38 (mvP (f := 603) (q := (x + 16)) rfl rfl (cs_p_603 h)) ?_
          refine v_iload_n hX dX12_statement_41 (i := 1) rfl rfl ?_
          refine u_aaldS hX (t := k) h ⟨by omega, by omega⟩ dX12_statement_42 ?_
          refine v_iload_n hX dX12_statement_43 (i := 2) rfl rfl ?_
          refine v_callV hX (n := 1) (g_S_tell (S := S) (x := x) (w := w) (a := (x + 17 + k.toNat)) (what := wh) h ⟨by omega, by omega⟩ ⟨_, by omega, rfl⟩) (isS_k h ⟨_, by omega, rfl⟩) bc_8 (by decide) w_5_174 w_5_175 w_5_176 w_1_7 w_5_177 (by decide +kernel) rfl ⟨by decide, by decide⟩ ⟨by omega, by omega⟩ (Nat.le_of_ble_eq_true rfl) rfl dX12_statement_44 (fun _ _ _ q => q) ?_
          rintro r5_ S5_ z5_ ⟨rfl, rfl, v6_, rfl, b_v6_, q5_⟩
          exact v_ireturn hX hE dX12_statement_47 (by omega) (by omega) ⟨rfl, rfl, v6_, rfl, ⟨by omega, by omega⟩, trivial⟩
        ·
          exact v_throw hX hE (cls := "java/lang/IndexOutOfBoundsException") (text := "no such statement, or no such what") (ik := 81) (is := 102) (ic := 85) (by decide +kernel) w_5_118 w_1_28 (List.mem_of_getElem? (i := 6) rfl) (List.mem_of_getElem? (i := 2) rfl) ha_85 hb_85 hg_85_81 dX12_statement_24 dX12_statement_27 dX12_statement_28 dX12_statement_30 dX12_statement_33 (by decide) (Nat.le_of_ble_eq_true rfl) (by omega) (by omega) (fun z' hz => ⟨hz, rfl, rfl⟩)
set_option maxRecDepth 100000 in
set_option maxHeartbeats 4000000 in
theorem g_A_name {kn : Nat → Nat} {B : Nat} {S : b_M} {z x w : Nat} {k : Int} {wh : Int} (h : cS S x) (b_k : -2147483648 ≤ k ∧ k < 2147483648) (b_wh : -2147483648 ≤ wh ∧ wh < 2147483648) : b_C kn B yX12_name cX12_name 6 (some .int) 6 90 1 6 [.ref x, .int (iI k), .int (iI wh)] S z (fun r S' z' => z = z' ∧ S = S' ∧ ∃ q : Int, r = some (.int (iI q)) ∧ (-2147483648 ≤ q ∧ q < 2147483648) ∧ (True)) (fun E S' z' => z ≤ z' ∧ S' = S ∧ E = "java/lang/IndexOutOfBoundsException") := by
  refine b_enter (by decide) (Nat.le_of_ble_eq_true rfl) ?_
  intro X hX hE hnL hkn hB hI_
  subst hkn; subst hB
  clear hI_
  change b_V X S z 0 0 0 [(0, .ref x), (1, .int (iI k)), (2, .int (iI wh))] []
  have L45 : ∀ (il : Int) (is_ : Int), ((il = 0 ∨ il = 1) ∧ (is_ = 0 ∨ is_ = 1)) → b_V X S z 0 0 45 [(4, .int (iI il)), (3, .ref (x + 6)), (0, .ref x), (1, .int (iI k)), (2, .int (iI wh))] [.int (iI is_)] := by
    intro il is_ p45_0
    refine v_istore hX (lv' := [(5, .int (iI is_)), (4, .int (iI il)), (3, .ref (x + 6)), (0, .ref x), (1, .int (iI k)), (2, .int (iI wh))]) dX12_name_45 (by rw [hnL]; decide) rfl ?_
    refine v_iload_n hX dX12_name_47 (i := 1) rfl rfl ?_
    refine u_if_lt hX (tgt := 61) dX12_name_48 (by decide) ⟨by omega, by omega⟩ (fun h1_ => ?_) (fun h1_ => ?_)
    ·
      exact v_throw hX hE (cls := "java/lang/IndexOutOfBoundsException") (text := "no such name, or no such what") (ik := 81) (is := 125) (ic := 85) (by decide +kernel) w_5_118 w_1_28 (List.mem_of_getElem? (i := 7) rfl) (List.mem_of_getElem? (i := 2) rfl) ha_85 hb_85 hg_85_81 dX12_name_61 dX12_name_64 dX12_name_65 dX12_name_67 dX12_name_70 (by decide) (Nat.le_of_ble_eq_true rfl) (by omega) (by omega) (fun z' hz => ⟨hz, rfl, rfl⟩)
    ·
      refine v_iload hX dX12_name_51 rfl ?_
      refine u_if_ne hX (tgt := 71) dX12_name_53 (by decide) ⟨by omega, by omega⟩ (fun h2_ => ?_) (fun h2_ => ?_)
      ·
        refine v_iload hX dX12_name_71 rfl ?_
        refine u_if_eq hX (tgt := 84) dX12_name_73 (by decide) ⟨by omega, by omega⟩ (fun q => absurd q (by omega)) (fun _ => ?_)
        refine v_aload_n hX dX12_name_76 (i := 3) rfl rfl ?_
        refine v_iload_n hX dX12_name_77 (i := 1) rfl rfl ?_
        refine v_callV hX (n := 1) (t_N_labelValue (S := S) (x := x) (w := w) (k := k) h ⟨by omega, by omega⟩) (cs_k_6 h) bc_5 (by decide) w_5_186 w_5_187 w_5_188 w_1_4 w_5_189 (by decide +kernel) rfl ⟨by decide, by decide⟩ ⟨by omega, by omega⟩ (Nat.le_of_ble_eq_true rfl) rfl dX12_name_78 (fun _ _ _ q => q) ?_
        rintro r4_ S4_ z4_ ⟨rfl, rfl, v5_, rfl, b_v5_, q4_⟩
        refine v_goto hX (tgt := 89) dX12_name_81 (by decide) ?_
        exact v_ireturn hX hE dX12_name_89 (by omega) (by omega) ⟨rfl, rfl, v5_, rfl, ⟨by omega, by omega⟩, trivial⟩
      ·
        refine v_iload hX dX12_name_56 rfl ?_
        refine u_if_ne hX (tgt := 71) dX12_name_58 (by decide) ⟨by omega, by omega⟩ (fun h6_ => ?_) (fun h6_ => ?_)
        ·
          refine v_iload hX dX12_name_71 rfl ?_
          refine u_if_eq hX (tgt := 84) dX12_name_73 (by decide) ⟨by omega, by omega⟩ (fun _ => ?_) (fun q => absurd q (by omega))
          refine v_aload_n hX dX12_name_84 (i := 3) rfl rfl ?_
          refine v_iload_n hX dX12_name_85 (i := 1) rfl rfl ?_
          refine v_callV hX (n := 1) (t_N_setValue (S := S) (x := x) (w := w) (k := k) h ⟨by omega, by omega⟩) (cs_k_6 h) bc_5 (by decide) w_5_191 w_5_192 w_5_193 w_1_4 w_5_194 (by decide +kernel) rfl ⟨by decide, by decide⟩ ⟨by omega, by omega⟩ (Nat.le_of_ble_eq_true rfl) rfl dX12_name_86 (fun _ _ _ q => q) ?_
          rintro r8_ S8_ z8_ ⟨rfl, rfl, v9_, rfl, b_v9_, q8_⟩
          exact v_ireturn hX hE dX12_name_89 (by omega) (by omega) ⟨rfl, rfl, v9_, rfl, ⟨by omega, by omega⟩, trivial⟩
        ·
          exact v_throw hX hE (cls := "java/lang/IndexOutOfBoundsException") (text := "no such name, or no such what") (ik := 81) (is := 125) (ic := 85) (by decide +kernel) w_5_118 w_1_28 (List.mem_of_getElem? (i := 7) rfl) (List.mem_of_getElem? (i := 2) rfl) ha_85 hb_85 hg_85_81 dX12_name_61 dX12_name_64 dX12_name_65 dX12_name_67 dX12_name_70 (by decide) (Nat.le_of_ble_eq_true rfl) (by omega) (by omega) (fun z' hz => ⟨hz, rfl, rfl⟩)
  have L25 : ∀ (il : Int), (il = 0 ∨ il = 1) → b_V X S z 0 0 25 [(3, .ref (x + 6)), (0, .ref x), (1, .int (iI k)), (2, .int (iI wh))] [.int (iI il)] := by
    intro il p25_0
    refine v_istore hX (lv' := [(4, .int (iI il)), (3, .ref (x + 6)), (0, .ref x), (1, .int (iI k)), (2, .int (iI wh))]) dX12_name_25 (by rw [hnL]; decide) rfl ?_
    refine v_iload_n hX dX12_name_27 (i := 2) rfl rfl ?_
    refine v_iconst hX (v := iI 1) dX12_name_28 rfl ?_
    refine u_icmp_ne hX (tgt := 44) dX12_name_29 (by decide) ⟨by omega, by omega⟩ ⟨by omega, by omega⟩ (fun h10_ => ?_) (fun h10_ => ?_)
    ·
      refine v_iconst hX (v := iI 0) dX12_name_44 rfl ?_
      exact L45 il 0 (by omega)
    ·
      refine v_iload_n hX dX12_name_32 (i := 1) rfl rfl ?_
      refine v_aload_n hX dX12_name_33 (i := 3) rfl rfl ?_
      obtain ⟨v11_, e_v11_, b_v11_⟩ := i_ex (m_I S 505 (x + 6))
      refine v_get hX (ci := 5) (k := 5) (cs_k_6 h) bc_5 (by decide) (by decide) in_5 w_1_84 dX12_name_34 (mvF (f := 505) (v := iI v11_) rfl rfl (by simp (disch := omega) only [y_I_s_I, x_I_s_I, z_I_s_J, z_I_s_A, z_I_s_B, z_I_s_P, e_v11_])) ?_
      refine u_icmp_ge hX (tgt := 44) dX12_name_37 (by decide) ⟨by omega, by omega⟩ ⟨by omega, by omega⟩ (fun h12_ => ?_) (fun h12_ => ?_)
      ·
        refine v_iconst hX (v := iI 0) dX12_name_44 rfl ?_
        exact L45 il 0 (by omega)
      ·
        refine v_iconst hX (v := iI 1) dX12_name_40 rfl ?_
        refine v_goto hX (tgt := 45) dX12_name_41 (by decide) ?_
        exact L45 il 1 (by omega)
  refine v_aload_n hX dX12_name_0 (i := 0) rfl rfl ?_
  refine v_get hX (ci := 10) (k := 3) (cs_k_0 h) bc_10 (by decide) (by decide) in_10 w_2_178 dX12_name_1 (mvP (f := 1003) (q := (x + 5)) rfl rfl (cs_p_1003 h)) ?_
  refine v_get hX (ci := 6) (k := 1) (cs_k_5 h) bc_6 (by decide) (by decide) in_6 w_1_195 dX12_name_4 (mvP (f := 601) (q := (x + 6)) rfl rfl (cs_p_601 h)) ?_
  refine v_astore_n hX (lv' := [(3, .ref (x + 6)), (0, .ref x), (1, .int (iI k)), (2, .int (iI wh))]) dX12_name_7 (i := 3) rfl (by rw [hnL]; decide) rfl ?_
  refine v_iload_n hX dX12_name_8 (i := 2) rfl rfl ?_
  refine u_if_ne hX (tgt := 24) dX12_name_9 (by decide) ⟨by omega, by omega⟩ (fun h13_ => ?_) (fun h13_ => ?_)
  ·
    refine v_iconst hX (v := iI 0) dX12_name_24 rfl ?_
    exact L25 0 (by omega)
  ·
    refine v_iload_n hX dX12_name_12 (i := 1) rfl rfl ?_
    refine v_aload_n hX dX12_name_13 (i := 3) rfl rfl ?_
    obtain ⟨v14_, e_v14_, b_v14_⟩ := i_ex (m_I S 504 (x + 6))
    refine v_get hX (ci := 5) (k := 4) (cs_k_6 h) bc_5 (by decide) (by decide) in_5 w_1_82 dX12_name_14 (mvF (f := 504) (v := iI v14_) rfl rfl (by simp (disch := omega) only [y_I_s_I, x_I_s_I, z_I_s_J, z_I_s_A, z_I_s_B, z_I_s_P, e_v14_])) ?_
    refine u_icmp_ge hX (tgt := 24) dX12_name_17 (by decide) ⟨by omega, by omega⟩ ⟨by omega, by omega⟩ (fun h15_ => ?_) (fun h15_ => ?_)
    ·
      refine v_iconst hX (v := iI 0) dX12_name_24 rfl ?_
      exact L25 0 (by omega)
    ·
      refine v_iconst hX (v := iI 1) dX12_name_20 rfl ?_
      refine v_goto hX (tgt := 25) dX12_name_21 (by decide) ?_
      exact L25 1 (by omega)
set_option maxRecDepth 100000 in
set_option maxHeartbeats 4000000 in
theorem g_A_count {kn : Nat → Nat} {B : Nat} {S : b_M} {z x w : Nat} {wh : Int} (h : cS S x) (b_wh : -2147483648 ≤ wh ∧ wh < 2147483648) (g_gP : gP S x) : b_C kn B yX12_count cX12_count 2 (some .int) 1 22 0 0 [.ref x, .int (iI wh)] S z (fun r S' z' => z = z' ∧ S = S' ∧ ∃ q : Int, r = some (.int (iI q)) ∧ (-2147483648 ≤ q ∧ q < 2147483648) ∧ (True)) (fun _ _ _ => False) := by
  refine b_enter (by decide) (Nat.le_of_ble_eq_true rfl) ?_
  intro X hX hE hnL hkn hB hI_
  subst hkn; subst hB
  clear hI_
  change b_V X S z 0 0 0 [(0, .ref x), (1, .int (iI wh))] []
  refine v_iload_n hX dX12_count_0 (i := 1) rfl rfl ?_
  by_cases h1_ : 0 ≤ wh ∧ wh ≤ 9
  ·
    have h2_ : wh = 0 ∨ wh = 1 ∨ wh = 2 ∨ wh = 3 ∨ wh = 4 ∨ wh = 5 ∨ wh = 6 ∨ wh = 7 ∨ wh = 8 ∨ wh = 9 := by omega
    rcases h2_ with h2_ | h2_ | h2_ | h2_ | h2_ | h2_ | h2_ | h2_ | h2_ | h2_
    ·
      refine v_tableIn hX (off := 55) (tgt := 56) dX12_count_1 (by rw [iI_to ⟨by omega, by omega⟩]; omega) (by rw [iI_to ⟨by omega, by omega⟩]; omega) (by rw [iI_to ⟨by omega, by omega⟩, h2_]; rfl) (by decide) ?_
      refine v_aload_n hX dX12_count_56 (i := 0) rfl rfl ?_
      obtain ⟨v3_, e_v3_, b_v3_⟩ := i_ex (m_I S 1001 x)
      refine v_get hX (ci := 10) (k := 1) (cs_k_0 h) bc_10 (by decide) (by decide) in_10 w_2_176 dX12_count_57 (mvF (f := 1001) (v := iI v3_) rfl rfl (by simp (disch := omega) only [y_I_s_I, x_I_s_I, z_I_s_J, z_I_s_A, z_I_s_B, z_I_s_P, e_v3_])) ?_
      exact v_ireturn hX hE dX12_count_60 (by omega) (by omega) ⟨rfl, rfl, v3_, rfl, ⟨by omega, by omega⟩, trivial⟩
    ·
      refine v_tableIn hX (off := 60) (tgt := 61) dX12_count_1 (by rw [iI_to ⟨by omega, by omega⟩]; omega) (by rw [iI_to ⟨by omega, by omega⟩]; omega) (by rw [iI_to ⟨by omega, by omega⟩, h2_]; rfl) (by decide) ?_
      refine v_aload_n hX dX12_count_61 (i := 0) rfl rfl ?_
      refine v_get hX (ci := 10) (k := 3) (cs_k_0 h) bc_10 (by decide) (by decide) in_10 w_2_178 dX12_count_62 (mvP (f := 1003) (q := (x + 5)) rfl rfl (cs_p_1003 h)) ?_
      obtain ⟨v4_, e_v4_, b_v4_⟩ := i_ex (m_I S 605 (x + 5))
      refine v_get hX (ci := 6) (k := 5) (cs_k_5 h) bc_6 (by decide) (by decide) in_6 w_1_203 dX12_count_65 (mvF (f := 605) (v := iI v4_) rfl rfl (by simp (disch := omega) only [y_I_s_I, x_I_s_I, z_I_s_J, z_I_s_A, z_I_s_B, z_I_s_P, e_v4_])) ?_
      exact v_ireturn hX hE dX12_count_68 (by omega) (by omega) ⟨rfl, rfl, v4_, rfl, ⟨by omega, by omega⟩, trivial⟩
    ·
      refine v_tableIn hX (off := 68) (tgt := 69) dX12_count_1 (by rw [iI_to ⟨by omega, by omega⟩]; omega) (by rw [iI_to ⟨by omega, by omega⟩]; omega) (by rw [iI_to ⟨by omega, by omega⟩, h2_]; rfl) (by decide) ?_
      refine v_aload_n hX dX12_count_69 (i := 0) rfl rfl ?_
      refine v_get hX (ci := 10) (k := 3) (cs_k_0 h) bc_10 (by decide) (by decide) in_10 w_2_178 dX12_count_70 (mvP (f := 1003) (q := (x + 5)) rfl rfl (cs_p_1003 h)) ?_
      obtain ⟨v5_, e_v5_, b_v5_⟩ := i_ex (m_I S 604 (x + 5))
      refine v_get hX (ci := 6) (k := 4) (cs_k_5 h) bc_6 (by decide) (by decide) in_6 w_1_201 dX12_count_73 (mvF (f := 604) (v := iI v5_) rfl rfl (by simp (disch := omega) only [y_I_s_I, x_I_s_I, z_I_s_J, z_I_s_A, z_I_s_B, z_I_s_P, e_v5_])) ?_
      exact v_ireturn hX hE dX12_count_76 (by omega) (by omega) ⟨rfl, rfl, v5_, rfl, ⟨by omega, by omega⟩, trivial⟩
    ·
      refine v_tableIn hX (off := 76) (tgt := 77) dX12_count_1 (by rw [iI_to ⟨by omega, by omega⟩]; omega) (by rw [iI_to ⟨by omega, by omega⟩]; omega) (by rw [iI_to ⟨by omega, by omega⟩, h2_]; rfl) (by decide) ?_
      refine v_aload_n hX dX12_count_77 (i := 0) rfl rfl ?_
      refine v_get hX (ci := 10) (k := 3) (cs_k_0 h) bc_10 (by decide) (by decide) in_10 w_2_178 dX12_count_78 (mvP (f := 1003) (q := (x + 5)) rfl rfl (cs_p_1003 h)) ?_
      refine v_get hX (ci := 6) (k := 1) (cs_k_5 h) bc_6 (by decide) (by decide) in_6 w_1_195 dX12_count_81 (mvP (f := 601) (q := (x + 6)) rfl rfl (cs_p_601 h)) ?_
      obtain ⟨v6_, e_v6_, b_v6_⟩ := i_ex (m_I S 504 (x + 6))
      refine v_get hX (ci := 5) (k := 4) (cs_k_6 h) bc_5 (by decide) (by decide) in_5 w_1_82 dX12_count_84 (mvF (f := 504) (v := iI v6_) rfl rfl (by simp (disch := omega) only [y_I_s_I, x_I_s_I, z_I_s_J, z_I_s_A, z_I_s_B, z_I_s_P, e_v6_])) ?_
      exact v_ireturn hX hE dX12_count_87 (by omega) (by omega) ⟨rfl, rfl, v6_, rfl, ⟨by omega, by omega⟩, trivial⟩
    ·
      refine v_tableIn hX (off := 87) (tgt := 88) dX12_count_1 (by rw [iI_to ⟨by omega, by omega⟩]; omega) (by rw [iI_to ⟨by omega, by omega⟩]; omega) (by rw [iI_to ⟨by omega, by omega⟩, h2_]; rfl) (by decide) ?_
      refine v_aload_n hX dX12_count_88 (i := 0) rfl rfl ?_
      refine v_get hX (ci := 10) (k := 3) (cs_k_0 h) bc_10 (by decide) (by decide) in_10 w_2_178 dX12_count_89 (mvP (f := 1003) (q := (x + 5)) rfl rfl (cs_p_1003 h)) ?_
      refine v_get hX (ci := 6) (k := 1) (cs_k_5 h) bc_6 (by decide) (by decide) in_6 w_1_195 dX12_count_92 (mvP (f := 601) (q := (x + 6)) rfl rfl (cs_p_601 h)) ?_
      obtain ⟨v7_, e_v7_, b_v7_⟩ := i_ex (m_I S 505 (x + 6))
      refine v_get hX (ci := 5) (k := 5) (cs_k_6 h) bc_5 (by decide) (by decide) in_5 w_1_84 dX12_count_95 (mvF (f := 505) (v := iI v7_) rfl rfl (by simp (disch := omega) only [y_I_s_I, x_I_s_I, z_I_s_J, z_I_s_A, z_I_s_B, z_I_s_P, e_v7_])) ?_
      exact v_ireturn hX hE dX12_count_98 (by omega) (by omega) ⟨rfl, rfl, v7_, rfl, ⟨by omega, by omega⟩, trivial⟩
    ·
      refine v_tableIn hX (off := 98) (tgt := 99) dX12_count_1 (by rw [iI_to ⟨by omega, by omega⟩]; omega) (by rw [iI_to ⟨by omega, by omega⟩]; omega) (by rw [iI_to ⟨by omega, by omega⟩, h2_]; rfl) (by decide) ?_
      refine v_aload_n hX dX12_count_99 (i := 0) rfl rfl ?_
      refine v_get hX (ci := 10) (k := 4) (cs_k_0 h) bc_10 (by decide) (by decide) in_10 w_2_179 dX12_count_100 (mvP (f := 1004) (q := (x + 418)) rfl rfl (cs_p_1004 h)) ?_
      refine v_get hX (ci := 9) (k := 5) (cs_k_418 h) bc_9 (by decide) (by decide) in_9 w_2_130 dX12_count_103 (mvP (f := 905) (q := (x + 421)) rfl rfl (cs_p_905 h)) ?_
      obtain ⟨v8_, e_v8_, b_v8_⟩ := i_ex (m_I S 403 (x + 421))
      refine v_get hX (ci := 4) (k := 3) (cs_k_421 h) bc_4 (by decide) (by decide) in_4 w_2_25 dX12_count_106 (mvF (f := 403) (v := iI v8_) rfl rfl (by simp (disch := omega) only [y_I_s_I, x_I_s_I, z_I_s_J, z_I_s_A, z_I_s_B, z_I_s_P, e_v8_])) ?_
      exact v_ireturn hX hE dX12_count_109 (by omega) (by omega) ⟨rfl, rfl, v8_, rfl, ⟨by omega, by omega⟩, trivial⟩
    ·
      refine v_tableIn hX (off := 109) (tgt := 110) dX12_count_1 (by rw [iI_to ⟨by omega, by omega⟩]; omega) (by rw [iI_to ⟨by omega, by omega⟩]; omega) (by rw [iI_to ⟨by omega, by omega⟩, h2_]; rfl) (by decide) ?_
      refine v_aload_n hX dX12_count_110 (i := 0) rfl rfl ?_
      refine v_get hX (ci := 10) (k := 4) (cs_k_0 h) bc_10 (by decide) (by decide) in_10 w_2_179 dX12_count_111 (mvP (f := 1004) (q := (x + 418)) rfl rfl (cs_p_1004 h)) ?_
      refine v_get hX (ci := 9) (k := 6) (cs_k_418 h) bc_9 (by decide) (by decide) in_9 w_2_132 dX12_count_114 (mvP (f := 906) (q := (x + 425)) rfl rfl (cs_p_906 h)) ?_
      obtain ⟨v9_, e_v9_, b_v9_⟩ := i_ex (m_I S 310 (x + 425))
      refine v_get hX (ci := 3) (k := 10) (cs_k_425 h) bc_3 (by decide) (by decide) in_3 w_2_92 dX12_count_117 (mvF (f := 310) (v := iI v9_) rfl rfl (by simp (disch := omega) only [y_I_s_I, x_I_s_I, z_I_s_J, z_I_s_A, z_I_s_B, z_I_s_P, e_v9_])) ?_
      exact v_ireturn hX hE dX12_count_120 (by omega) (by omega) ⟨rfl, rfl, v9_, rfl, ⟨by omega, by omega⟩, trivial⟩
    ·
      refine v_tableIn hX (off := 120) (tgt := 121) dX12_count_1 (by rw [iI_to ⟨by omega, by omega⟩]; omega) (by rw [iI_to ⟨by omega, by omega⟩]; omega) (by rw [iI_to ⟨by omega, by omega⟩, h2_]; rfl) (by decide) ?_
      refine v_aload_n hX dX12_count_121 (i := 0) rfl rfl ?_
      refine v_get hX (ci := 10) (k := 3) (cs_k_0 h) bc_10 (by decide) (by decide) in_10 w_2_178 dX12_count_122 (mvP (f := 1003) (q := (x + 5)) rfl rfl (cs_p_1003 h)) ?_
      obtain ⟨v10_, e_v10_, b_v10_⟩ := i_ex (m_I S 606 (x + 5))
      refine v_get hX (ci := 6) (k := 6) (cs_k_5 h) bc_6 (by decide) (by decide) in_6 w_1_205 dX12_count_125 (mvF (f := 606) (v := iI v10_) rfl rfl (by simp (disch := omega) only [y_I_s_I, x_I_s_I, z_I_s_J, z_I_s_A, z_I_s_B, z_I_s_P, e_v10_])) ?_
      exact v_ireturn hX hE dX12_count_128 (by omega) (by omega) ⟨rfl, rfl, v10_, rfl, ⟨by omega, by omega⟩, trivial⟩
    ·
      refine v_tableIn hX (off := 128) (tgt := 129) dX12_count_1 (by rw [iI_to ⟨by omega, by omega⟩]; omega) (by rw [iI_to ⟨by omega, by omega⟩]; omega) (by rw [iI_to ⟨by omega, by omega⟩, h2_]; rfl) (by decide) ?_
      refine v_aload_n hX dX12_count_129 (i := 0) rfl rfl ?_
      refine v_get hX (ci := 10) (k := 2) (cs_k_0 h) bc_10 (by decide) (by decide) in_10 w_2_177 dX12_count_130 (mvP (f := 1002) (q := (x + 2)) rfl rfl (cs_p_1002 h)) ?_
      obtain ⟨v11_, e_v11_, b_v11_⟩ := i_ex (m_I S 102 (x + 2))
      refine v_get hX (ci := 1) (k := 2) (cs_k_2 h) bc_1 (by decide) (by decide) in_1 w_1_48 dX12_count_133 (mvF (f := 102) (v := iI v11_) rfl rfl (by simp (disch := omega) only [y_I_s_I, x_I_s_I, z_I_s_J, z_I_s_A, z_I_s_B, z_I_s_P, e_v11_])) ?_
      exact v_ireturn hX hE dX12_count_136 (by omega) (by omega) ⟨rfl, rfl, v11_, rfl, ⟨by omega, by omega⟩, trivial⟩
    ·
      refine v_tableIn hX (off := 136) (tgt := 137) dX12_count_1 (by rw [iI_to ⟨by omega, by omega⟩]; omega) (by rw [iI_to ⟨by omega, by omega⟩]; omega) (by rw [iI_to ⟨by omega, by omega⟩, h2_]; rfl) (by decide) ?_
      refine v_aload_n hX dX12_count_137 (i := 0) rfl rfl ?_
      refine v_get hX (ci := 10) (k := 3) (cs_k_0 h) bc_10 (by decide) (by decide) in_10 w_2_178 dX12_count_138 (mvP (f := 1003) (q := (x + 5)) rfl rfl (cs_p_1003 h)) ?_
      refine v_callV hX (n := 0) (g_P_longOnes (S := S) (x := x) (w := w) h g_gP) (cs_k_5 h) bc_6 (by decide) w_2_195 w_2_196 w_2_197 w_1_3 w_2_198 (by decide +kernel) rfl ⟨by decide, by decide⟩ ⟨by omega, by omega⟩ (Nat.le_of_ble_eq_true rfl) rfl dX12_count_141 (fun _ _ _ q => q) ?_
      rintro r12_ S12_ z12_ ⟨rfl, rfl, v13_, rfl, b_v13_, q12_⟩
      exact v_ireturn hX hE dX12_count_144 (by omega) (by omega) ⟨rfl, rfl, v13_, rfl, ⟨by omega, by omega⟩, trivial⟩
  ·
    refine v_tableOut hX (tgt := 145) dX12_count_1 (by rw [iI_to ⟨by omega, by omega⟩]; omega) (by decide) ?_
    refine v_iconst hX (v := iI (-1)) dX12_count_145 rfl ?_
    exact v_ireturn hX hE dX12_count_146 (by omega) (by omega) ⟨rfl, rfl, (-1), rfl, ⟨by omega, by omega⟩, trivial⟩
set_option maxRecDepth 100000 in
set_option maxHeartbeats 4000000 in
theorem g_A_assemble {kn : Nat → Nat} {B : Nat} {S : b_M} {z x w : Nat} {ln : Int} {mc ms : Nat} (h : cS S x) (e_ln : m_I S 1001 x = iI ln) (b_ln : -2147483648 ≤ ln ∧ ln < 2147483648) (g_eI : eI S x w) (g_hM : hM S x w) (g_gN : gN S x) (g_gR : gR S x) (g_gP : gP S x) (g_oOk : oOk kn S x) (g_bY : bY S) (g_sE : sE S x) (g_tJ : tJ kn S x) (rm_ : 2 * (2162688 - lA S x) + 6 ≤ (ms : Int) ∧ 2 * (2162688 - lA S x) + 256 ≤ 256 * (mc : Int)) (zw : x + 457 ≤ w ∧ w ≤ z) (p : 0 ≤ ln ∧ ln ≤ 4096) : a_C kn B yX12_assemble cX12_assemble 1 (some .int) 9 201 mc ms [.ref x] S z (fun r S' z' uc us => z ≤ z' ∧ cFr [301, 303, 306, 307, 308, 309, 310, 4, 5, 6, 701, 702, 703, 704, 205, 206, 207, 801, 802, 803, 804, 805, 806, 807, 808, 809, 810, 911, 912, 913, 914, 915, 504, 505, 403, 604, 102, 606, 605, 1001] [302, 304, 305, 700, 204, 800, 907, 908, 1] [3, 4, 7, 8, 10, 12, 13, 14, 423, 424, 431, 432, 435, 436, 439, 440, 443, 444, 447, 448, 451, 452, 455, 456] w S S' x ∧ ∃ q l1 : Int, r = some (.int (iI q)) ∧ (-2147483648 ≤ q ∧ q < 2147483648) ∧ m_I S' 1001 x = iI l1 ∧ (-2147483648 ≤ l1 ∧ l1 < 2147483648) ∧ ((us : Int) ≤ 2 * (lA S' x - lA S x) ∧ 256 * (uc : Int) ≤ (us : Int)) ∧ (l1 = 0) ∧ (eI S' x w) ∧ (hM S' x w) ∧ (gN S' x) ∧ (gR S' x) ∧ (gP S' x) ∧ (oOk kn S' x) ∧ (bY S') ∧ (sE S' x) ∧ (tJ kn S' x)) (fun E S' z' uc us => E = "java/lang/IllegalArgumentException" ∧ z ≤ z' ∧ cFr [301, 303, 306, 307, 308, 309, 310, 4, 5, 6, 701, 702, 703, 704, 205, 206, 207, 801, 802, 803, 804, 805, 806, 807, 808, 809, 810, 911, 912, 913, 914, 915, 504, 505, 403, 604, 102, 606, 605, 1001] [302, 304, 305, 700, 204, 800, 907, 908, 1] [3, 4, 7, 8, 10, 12, 13, 14, 423, 424, 431, 432, 435, 436, 439, 440, 443, 444, 447, 448, 451, 452, 455, 456] w S S' x ∧ m_I S' 1001 x = iI 0 ∧ ((us : Int) ≤ 2 * (lA S' x - lA S x) + 6 ∧ 256 * (uc : Int) ≤ (us : Int) + 256) ∧ (eI S' x w) ∧ (hM S' x w) ∧ (gN S' x) ∧ (gR S' x) ∧ (gP S' x) ∧ (oOk kn S' x) ∧ (bY S') ∧ (sE S' x) ∧ (tJ kn S' x)) := by
  refine a_enter (by decide) (Nat.le_of_ble_eq_true rfl) ?_
  intro X hX hE hnL hkn hB hI_
  subst hkn; subst hB
  clear hI_
  change b_V X S z 0 0 0 [(0, .ref x)] []
  have ab_ : lA S x ≤ 2162688 := lA_le g_eI g_hM
  refine v_aload_n hX dX12_assemble_0 (i := 0) rfl rfl ?_
  refine v_callV hX (n := 0) (g_A_forgetProgram (S := S) (x := x) (w := w) h g_gN g_eI) (cs_k_0 h) bc_10 (by decide) w_3_70 w_3_72 (bw_p (q := (yX12_forgetProgram, 5)) (List.mem_of_getElem? (i := 2) rfl) rfl) w_1_1 w_3_73 (by decide +kernel) rfl ⟨by decide, by decide⟩ ⟨by omega, by omega⟩ (Nat.le_of_ble_eq_true rfl) rfl dX12_assemble_1 (fun _ _ _ q => q) ?_
  rintro r1_ S1_ z1_ ⟨rfl, f1_, v2_, rfl, e_v2_, b_v2_, q1_, g1_gN, g1_eI, g1_gP⟩
  have y3_ : m_I S1_ 1001 x = iI ln := (f1_.2.1 1001 (by decide) _).trans (by simp (disch := omega) only [y_I_s_I, x_I_s_I, z_I_s_J, z_I_s_A, z_I_s_B, z_I_s_P, e_ln])
  have h1_ : cS S1_ x := f1_.keep (by decide) h
  have g1_hM : hM S1_ x w := hM.fr g_hM h f1_ (by decide)
  have g1_gR : gR S1_ x := gR.fr g_gR h f1_ (by decide)
  have g1_oOk : oOk (b_kn X) S1_ x := oOk.fr g_oOk h f1_ (by decide)
  have g1_bY : bY S1_ := bY.fr g_bY h f1_ (by decide)
  have g1_sE : sE S1_ x := sE.fr g_sE h f1_ (by decide)
  have g1_tJ : tJ (b_kn X) S1_ x := tJ.fr g_tJ h f1_ (by decide)
  have aa1_ : lA S1_ x = lA S x := lA.fr g_eI g_hM f1_ (by decide)
  have ab1_ : lA S1_ x ≤ 2162688 := lA_le g1_eI g1_hM
  refine v_aload_n hX dX12_assemble_4 (i := 0) rfl rfl ?_
  refine v_get hX (ci := 10) (k := 2) (cs_k_0 h1_) bc_10 (by decide) (by decide) in_10 w_2_177 dX12_assemble_5 (mvP (f := 1002) (q := (x + 2)) rfl rfl (cs_p_1002 h1_)) ?_
  refine v_callV hX (n := 0) (g_E_forget (S := S1_) (x := x) (w := w) h1_) (cs_k_2 h1_) bc_1 (by decide) w_3_95 w_3_96 w_3_97 w_1_2 w_3_98 (by decide +kernel) rfl ⟨by decide, by decide⟩ ⟨by omega, by omega⟩ (Nat.le_of_ble_eq_true rfl) rfl dX12_assemble_8 (fun _ _ _ q => q) ?_
  rintro r4_ S4_ z4_ ⟨rfl, f4_, rfl, q4_, g4_gR⟩
  have y5_ : m_I S4_ 1001 x = iI ln := (f4_.2.1 1001 (by decide) _).trans (by simp (disch := omega) only [y_I_s_I, x_I_s_I, z_I_s_J, z_I_s_A, z_I_s_B, z_I_s_P, y3_, e_v2_])
  have y6_ : m_I S4_ 403 (x + 421) = iI v2_ := (f4_.2.1 403 (by decide) _).trans (by simp (disch := omega) only [y_I_s_I, x_I_s_I, z_I_s_J, z_I_s_A, z_I_s_B, z_I_s_P, y3_, e_v2_])
  have h4_ : cS S4_ x := f4_.keep (by decide) h1_
  have g4_hM : hM S4_ x w := hM.fr g1_hM h1_ f4_ (by decide)
  have g4_oOk : oOk (b_kn X) S4_ x := oOk.fr g1_oOk h1_ f4_ (by decide)
  have g4_bY : bY S4_ := bY.fr g1_bY h1_ f4_ (by decide)
  have g4_sE : sE S4_ x := sE.fr g1_sE h1_ f4_ (by decide)
  have g4_tJ : tJ (b_kn X) S4_ x := tJ.fr g1_tJ h1_ f4_ (by decide)
  have g4_gN : gN S4_ x := gN.fr g1_gN h1_ f4_ (by decide)
  have g4_eI : eI S4_ x w := eI.fr g1_eI h1_ f4_ (by decide)
  have g4_gP : gP S4_ x := gP.fr g1_gP h1_ f4_ (by decide)
  have aa4_ : lA S4_ x = lA S1_ x := lA.fr g1_eI g1_hM f4_ (by decide)
  have ab4_ : lA S4_ x ≤ 2162688 := lA_le g4_eI g4_hM
  refine v_aload_n hX dX12_assemble_11 (i := 0) rfl rfl ?_
  refine v_get hX (ci := 10) (k := 4) (cs_k_0 h4_) bc_10 (by decide) (by decide) in_10 w_2_179 dX12_assemble_12 (mvP (f := 1004) (q := (x + 418)) rfl rfl (cs_p_1004 h4_)) ?_
  refine v_aload_n hX dX12_assemble_15 (i := 0) rfl rfl ?_
  refine v_get hX (ci := 10) (k := 0) (cs_k_0 h4_) bc_10 (by decide) (by decide) in_10 w_2_175 dX12_assemble_16 (mvP (f := 1000) (q := (x + 1)) rfl rfl (cs_p_1000 h4_)) ?_
  refine v_aload_n hX dX12_assemble_19 (i := 0) rfl rfl ?_
  refine v_get hX (ci := 10) (k := 1) (cs_k_0 h4_) bc_10 (by decide) (by decide) in_10 w_2_176 dX12_assemble_20 (mvF (f := 1001) (v := iI ln) rfl rfl (by simp (disch := omega) only [y_I_s_I, x_I_s_I, z_I_s_J, z_I_s_A, z_I_s_B, z_I_s_P, y5_, y6_])) ?_
  refine w_callV hX (n := 2) (g_T_run (S := S4_) (x := x) (w := w) (ln := ln) (mt := v2_) (mc := mc - 0) (ms := ms - 0) h4_ (by simp (disch := omega) only [y_I_s_I, x_I_s_I, z_I_s_J, z_I_s_A, z_I_s_B, z_I_s_P, y5_, y6_]) ⟨by omega, by omega⟩ ⟨by omega, by omega⟩ g4_eI g4_hM g4_gN g4_gR g4_gP g4_oOk g4_bY g4_sE g4_tJ ⟨by omega, by omega⟩ (by omega) (by omega)) (cs_k_418 h4_) bc_9 (by decide) w_3_99 w_3_100 w_3_101 w_1_10 w_3_102 (by decide +kernel) rfl ⟨by decide, by decide⟩ ⟨by omega, by omega⟩ (Nat.le_of_ble_eq_true rfl) rfl dX12_assemble_23 (fun _ _ _ _ _ q => q) ?_
  rintro r7_ S7_ z7_ uc7_ us7_ ⟨hz7_, f7_, rfl, ha7_, q7_, g7_eI, g7_hM, g7_gN, g7_gR, g7_gP, g7_oOk, g7_bY, g7_sE, g7_tJ⟩
  have y8_ : m_I S7_ 1001 x = iI ln := (f7_.2.1 1001 (by decide) _).trans (by simp (disch := omega) only [y_I_s_I, x_I_s_I, z_I_s_J, z_I_s_A, z_I_s_B, z_I_s_P, y5_, y6_])
  have h7_ : cS S7_ x := f7_.keep (by decide) h4_
  have ab7_ : lA S7_ x ≤ 2162688 := lA_le g7_eI g7_hM
  refine v_aload_n hX dX12_assemble_26 (i := 0) rfl rfl ?_
  refine v_iconst hX (v := iI 0) dX12_assemble_27 rfl ?_
  refine v_putI hX (ci := 10) (k := 1) (f := 1001) (cs_k_0 h7_) bc_10 (by decide) (by decide) in_10 tyX12_ok nmX12 w_2_176 (Or.inl rfl) rfl rfl dX12_assemble_28 rfl rfl ?_
  obtain ⟨tq_, e_tq_, b_tq_⟩ := id (gR.fr g7_gR h7_ (show cFr [1001] [] [] w S7_ (s_I S7_ 1001 x (iI 0)) x from ((cFr.rf _ _).sI (by decide) ⟨by omega, by omega⟩)) (by decide))
  refine v_aload_n hX dX12_assemble_31 (i := 0) rfl rfl ?_
  refine v_get hX (ci := 10) (k := 2) (cs_k_0 (cS.sI h7_)) bc_10 (by decide) (by decide) in_10 w_2_177 dX12_assemble_32 (mvP (f := 1002) (q := (x + 2)) rfl rfl (cs_p_1002 (cS.sI h7_))) ?_
  refine v_get hX (ci := 1) (k := 2) (cs_k_2 (cS.sI h7_)) bc_1 (by decide) (by decide) in_1 w_1_48 dX12_assemble_35 (mvF (f := 102) (v := iI tq_) rfl rfl (by simp (disch := omega) only [y_I_s_I, x_I_s_I, z_I_s_J, z_I_s_A, z_I_s_B, z_I_s_P, y8_, e_tq_])) ?_
  refine u_if_ne hX (tgt := 48) dX12_assemble_38 (by decide) ⟨by omega, by omega⟩ (fun h9_ => ?_) (fun h9_ => ?_)
  ·
    refine v_aload_n hX dX12_assemble_48 (i := 0) rfl rfl ?_
    refine v_get hX (ci := 10) (k := 2) (cs_k_0 (cS.sI h7_)) bc_10 (by decide) (by decide) in_10 w_2_177 dX12_assemble_49 (mvP (f := 1002) (q := (x + 2)) rfl rfl (cs_p_1002 (cS.sI h7_))) ?_
    refine v_get hX (ci := 1) (k := 2) (cs_k_2 (cS.sI h7_)) bc_1 (by decide) (by decide) in_1 w_1_48 dX12_assemble_52 (mvF (f := 102) (v := iI tq_) rfl rfl (by simp (disch := omega) only [y_I_s_I, x_I_s_I, z_I_s_J, z_I_s_A, z_I_s_B, z_I_s_P, y8_, e_tq_])) ?_
    refine u_if_le hX (tgt := 72) dX12_assemble_55 (by decide) ⟨by omega, by omega⟩ (fun h10_ => ?_) (fun h10_ => ?_)
    ·
      refine v_aload_n hX dX12_assemble_72 (i := 0) rfl rfl ?_
      refine v_get hX (ci := 10) (k := 3) (cs_k_0 (cS.sI h7_)) bc_10 (by decide) (by decide) in_10 w_2_178 dX12_assemble_73 (mvP (f := 1003) (q := (x + 5)) rfl rfl (cs_p_1003 (cS.sI h7_))) ?_
      obtain ⟨v11_, e_v11_, b_v11_⟩ := i_ex (m_I S7_ 605 (x + 5))
      refine v_get hX (ci := 6) (k := 5) (cs_k_5 (cS.sI h7_)) bc_6 (by decide) (by decide) in_6 w_1_203 dX12_assemble_76 (mvF (f := 605) (v := iI v11_) rfl rfl (by simp (disch := omega) only [y_I_s_I, x_I_s_I, z_I_s_J, z_I_s_A, z_I_s_B, z_I_s_P, y8_, e_tq_, e_v11_])) ?_
      have a12_ : lA (s_I S7_ 1001 x (iI 0)) x = lA S7_ x := lA.fr g7_eI g7_hM (show cFr [1001] [] [] w S7_ (s_I S7_ 1001 x (iI 0)) x from ((cFr.rf _ _).sI (by decide) ⟨by omega, by omega⟩)) (by decide)
      exact w_ireturn hX hE dX12_assemble_79 ⟨(by omega), (((((cFr.rf _ _).tr (f1_.mono (by decide) (by decide) (by decide))).tr (f4_.mono (by decide) (by decide) (by decide))).tr (f7_.mono (by decide) (by decide) (by decide))).sI (by decide) ⟨by omega, by omega⟩), v11_, 0, rfl, ⟨by omega, by omega⟩, (by simp (disch := omega) only [y_I_s_I, x_I_s_I, z_I_s_J, z_I_s_A, z_I_s_B, z_I_s_P, y8_, e_tq_, e_v11_]), ⟨by omega, by omega⟩, ⟨by omega, by omega⟩, (by omega), (eI.fr g7_eI h7_ (show cFr [1001] [] [] w S7_ (s_I S7_ 1001 x (iI 0)) x from ((cFr.rf _ _).sI (by decide) ⟨by omega, by omega⟩)) (by decide)), (hM.fr g7_hM h7_ (show cFr [1001] [] [] w S7_ (s_I S7_ 1001 x (iI 0)) x from ((cFr.rf _ _).sI (by decide) ⟨by omega, by omega⟩)) (by decide)), (gN.fr g7_gN h7_ (show cFr [1001] [] [] w S7_ (s_I S7_ 1001 x (iI 0)) x from ((cFr.rf _ _).sI (by decide) ⟨by omega, by omega⟩)) (by decide)), (gR.fr g7_gR h7_ (show cFr [1001] [] [] w S7_ (s_I S7_ 1001 x (iI 0)) x from ((cFr.rf _ _).sI (by decide) ⟨by omega, by omega⟩)) (by decide)), (gP.fr g7_gP h7_ (show cFr [1001] [] [] w S7_ (s_I S7_ 1001 x (iI 0)) x from ((cFr.rf _ _).sI (by decide) ⟨by omega, by omega⟩)) (by decide)), (oOk.fr g7_oOk h7_ (show cFr [1001] [] [] w S7_ (s_I S7_ 1001 x (iI 0)) x from ((cFr.rf _ _).sI (by decide) ⟨by omega, by omega⟩)) (by decide)), (bY.fr g7_bY h7_ (show cFr [1001] [] [] w S7_ (s_I S7_ 1001 x (iI 0)) x from ((cFr.rf _ _).sI (by decide) ⟨by omega, by omega⟩)) (by decide)), (sE.fr g7_sE h7_ (show cFr [1001] [] [] w S7_ (s_I S7_ 1001 x (iI 0)) x from ((cFr.rf _ _).sI (by decide) ⟨by omega, by omega⟩)) (by decide)), (tJ.fr g7_tJ h7_ (show cFr [1001] [] [] w S7_ (s_I S7_ 1001 x (iI 0)) x from ((cFr.rf _ _).sI (by decide) ⟨by omega, by omega⟩)) (by decide))⟩
    ·
      refine v_aload_n hX dX12_assemble_58 (i := 0) rfl rfl ?_
      have a13_ : lA (s_I S7_ 1001 x (iI 0)) x = lA S7_ x := lA.fr g7_eI g7_hM (show cFr [1001] [] [] w S7_ (s_I S7_ 1001 x (iI 0)) x from ((cFr.rf _ _).sI (by decide) ⟨by omega, by omega⟩)) (by decide)
      refine v_callV hX (n := 0) (g_A_forgetProgram (S := (s_I S7_ 1001 x (iI 0))) (x := x) (w := w) (cS.sI h7_) (gN.fr g7_gN h7_ (show cFr [1001] [] [] w S7_ (s_I S7_ 1001 x (iI 0)) x from ((cFr.rf _ _).sI (by decide) ⟨by omega, by omega⟩)) (by decide)) (eI.fr g7_eI h7_ (show cFr [1001] [] [] w S7_ (s_I S7_ 1001 x (iI 0)) x from ((cFr.rf _ _).sI (by decide) ⟨by omega, by omega⟩)) (by decide))) (cs_k_0 (cS.sI h7_)) bc_10 (by decide) w_3_70 w_3_72 (bw_p (q := (yX12_forgetProgram, 5)) (List.mem_of_getElem? (i := 2) rfl) rfl) w_1_1 w_3_73 (by decide +kernel) rfl ⟨by decide, by decide⟩ ⟨by omega, by omega⟩ (Nat.le_of_ble_eq_true rfl) rfl dX12_assemble_59 (fun _ _ _ q => q) ?_
      rintro r14_ S14_ z14_ ⟨rfl, f14_, v15_, rfl, e_v15_, b_v15_, q14_, g14_gN, g14_eI, g14_gP⟩
      have y16_ : m_I S14_ 1001 x = iI 0 := (f14_.2.1 1001 (by decide) _).trans (by simp (disch := omega) only [y_I_s_I, x_I_s_I, z_I_s_J, z_I_s_A, z_I_s_B, z_I_s_P, y8_, e_tq_])
      have y17_ : m_I S14_ 102 (x + 2) = iI tq_ := (f14_.2.1 102 (by decide) _).trans (by simp (disch := omega) only [y_I_s_I, x_I_s_I, z_I_s_J, z_I_s_A, z_I_s_B, z_I_s_P, y8_, e_tq_])
      have h14_ : cS S14_ x := f14_.keep (by decide) (cS.sI h7_)
      have g14_hM : hM S14_ x w := hM.fr (hM.fr g7_hM h7_ (show cFr [1001] [] [] w S7_ (s_I S7_ 1001 x (iI 0)) x from ((cFr.rf _ _).sI (by decide) ⟨by omega, by omega⟩)) (by decide)) (cS.sI h7_) f14_ (by decide)
      have g14_gR : gR S14_ x := gR.fr (gR.fr g7_gR h7_ (show cFr [1001] [] [] w S7_ (s_I S7_ 1001 x (iI 0)) x from ((cFr.rf _ _).sI (by decide) ⟨by omega, by omega⟩)) (by decide)) (cS.sI h7_) f14_ (by decide)
      have g14_oOk : oOk (b_kn X) S14_ x := oOk.fr (oOk.fr g7_oOk h7_ (show cFr [1001] [] [] w S7_ (s_I S7_ 1001 x (iI 0)) x from ((cFr.rf _ _).sI (by decide) ⟨by omega, by omega⟩)) (by decide)) (cS.sI h7_) f14_ (by decide)
      have g14_bY : bY S14_ := bY.fr (bY.fr g7_bY h7_ (show cFr [1001] [] [] w S7_ (s_I S7_ 1001 x (iI 0)) x from ((cFr.rf _ _).sI (by decide) ⟨by omega, by omega⟩)) (by decide)) (cS.sI h7_) f14_ (by decide)
      have g14_sE : sE S14_ x := sE.fr (sE.fr g7_sE h7_ (show cFr [1001] [] [] w S7_ (s_I S7_ 1001 x (iI 0)) x from ((cFr.rf _ _).sI (by decide) ⟨by omega, by omega⟩)) (by decide)) (cS.sI h7_) f14_ (by decide)
      have g14_tJ : tJ (b_kn X) S14_ x := tJ.fr (tJ.fr g7_tJ h7_ (show cFr [1001] [] [] w S7_ (s_I S7_ 1001 x (iI 0)) x from ((cFr.rf _ _).sI (by decide) ⟨by omega, by omega⟩)) (by decide)) (cS.sI h7_) f14_ (by decide)
      have aa14_ : lA S14_ x = lA (s_I S7_ 1001 x (iI 0)) x := lA.fr (eI.fr g7_eI h7_ (show cFr [1001] [] [] w S7_ (s_I S7_ 1001 x (iI 0)) x from ((cFr.rf _ _).sI (by decide) ⟨by omega, by omega⟩)) (by decide)) (hM.fr g7_hM h7_ (show cFr [1001] [] [] w S7_ (s_I S7_ 1001 x (iI 0)) x from ((cFr.rf _ _).sI (by decide) ⟨by omega, by omega⟩)) (by decide)) f14_ (by decide)
      have ab14_ : lA S14_ x ≤ 2162688 := lA_le g14_eI g14_hM
      exact w_throw hX hE (cls := "java/lang/IllegalArgumentException") (text := "the text has errors") (ik := 53) (is := 76) (ic := 57) (by decide +kernel) w_3_46 w_1_21 (List.mem_of_getElem? (i := 3) rfl) (List.mem_of_getElem? (i := 1) rfl) ha_57 hb_57 hg_57_53 dX12_assemble_62 dX12_assemble_65 dX12_assemble_66 dX12_assemble_68 dX12_assemble_71 (by decide) (Nat.le_of_ble_eq_true rfl) (by omega) (by omega) (fun z' hz => ⟨rfl, Nat.le_trans (by omega) hz, ((((((cFr.rf _ _).tr (f1_.mono (by decide) (by decide) (by decide))).tr (f4_.mono (by decide) (by decide) (by decide))).tr (f7_.mono (by decide) (by decide) (by decide))).sI (by decide) ⟨by omega, by omega⟩).tr (f14_.mono (by decide) (by decide) (by decide))), (by simp (disch := omega) only [y_I_s_I, x_I_s_I, z_I_s_J, z_I_s_A, z_I_s_B, z_I_s_P, y16_, y17_, e_v15_]), ⟨by omega, by omega⟩, g14_eI, g14_hM, g14_gN, g14_gR, g14_gP, g14_oOk, g14_bY, g14_sE, g14_tJ⟩)
  ·
    refine v_aload_n hX dX12_assemble_41 (i := 0) rfl rfl ?_
    refine v_get hX (ci := 10) (k := 3) (cs_k_0 (cS.sI h7_)) bc_10 (by decide) (by decide) in_10 w_2_178 dX12_assemble_42 (mvP (f := 1003) (q := (x + 5)) rfl rfl (cs_p_1003 (cS.sI h7_))) ?_
    have a18_ : lA (s_I S7_ 1001 x (iI 0)) x = lA S7_ x := lA.fr g7_eI g7_hM (show cFr [1001] [] [] w S7_ (s_I S7_ 1001 x (iI 0)) x from ((cFr.rf _ _).sI (by decide) ⟨by omega, by omega⟩)) (by decide)
    refine v_callV hX (n := 0) (g_P_runTurnTwo (S := (s_I S7_ 1001 x (iI 0))) (x := x) (w := w) (cS.sI h7_) (oOk.fr g7_oOk h7_ (show cFr [1001] [] [] w S7_ (s_I S7_ 1001 x (iI 0)) x from ((cFr.rf _ _).sI (by decide) ⟨by omega, by omega⟩)) (by decide)) (eI.fr g7_eI h7_ (show cFr [1001] [] [] w S7_ (s_I S7_ 1001 x (iI 0)) x from ((cFr.rf _ _).sI (by decide) ⟨by omega, by omega⟩)) (by decide)) (gN.fr g7_gN h7_ (show cFr [1001] [] [] w S7_ (s_I S7_ 1001 x (iI 0)) x from ((cFr.rf _ _).sI (by decide) ⟨by omega, by omega⟩)) (by decide)) (gR.fr g7_gR h7_ (show cFr [1001] [] [] w S7_ (s_I S7_ 1001 x (iI 0)) x from ((cFr.rf _ _).sI (by decide) ⟨by omega, by omega⟩)) (by decide)) (gP.fr g7_gP h7_ (show cFr [1001] [] [] w S7_ (s_I S7_ 1001 x (iI 0)) x from ((cFr.rf _ _).sI (by decide) ⟨by omega, by omega⟩)) (by decide))) (cs_k_5 (cS.sI h7_)) bc_6 (by decide) w_5_35 w_5_36 w_5_37 w_1_3 w_5_38 (by decide +kernel) rfl ⟨by decide, by decide⟩ ⟨by omega, by omega⟩ (Nat.le_of_ble_eq_true rfl) rfl dX12_assemble_45 (fun _ _ _ q => q) ?_
    rintro r19_ S19_ z19_ ⟨rfl, f19_, rfl, q19_, g19_gR⟩
    have y20_ : m_I S19_ 1001 x = iI 0 := (f19_.2.1 1001 (by decide) _).trans (by simp (disch := omega) only [y_I_s_I, x_I_s_I, z_I_s_J, z_I_s_A, z_I_s_B, z_I_s_P, y8_, e_tq_])
    have h19_ : cS S19_ x := f19_.keep (by decide) (cS.sI h7_)
    have g19_eI : eI S19_ x w := eI.fr (eI.fr g7_eI h7_ (show cFr [1001] [] [] w S7_ (s_I S7_ 1001 x (iI 0)) x from ((cFr.rf _ _).sI (by decide) ⟨by omega, by omega⟩)) (by decide)) (cS.sI h7_) f19_ (by decide)
    have g19_hM : hM S19_ x w := hM.fr (hM.fr g7_hM h7_ (show cFr [1001] [] [] w S7_ (s_I S7_ 1001 x (iI 0)) x from ((cFr.rf _ _).sI (by decide) ⟨by omega, by omega⟩)) (by decide)) (cS.sI h7_) f19_ (by decide)
    have g19_gN : gN S19_ x := gN.fr (gN.fr g7_gN h7_ (show cFr [1001] [] [] w S7_ (s_I S7_ 1001 x (iI 0)) x from ((cFr.rf _ _).sI (by decide) ⟨by omega, by omega⟩)) (by decide)) (cS.sI h7_) f19_ (by decide)
    have g19_gP : gP S19_ x := gP.fr (gP.fr g7_gP h7_ (show cFr [1001] [] [] w S7_ (s_I S7_ 1001 x (iI 0)) x from ((cFr.rf _ _).sI (by decide) ⟨by omega, by omega⟩)) (by decide)) (cS.sI h7_) f19_ (by decide)
    have g19_oOk : oOk (b_kn X) S19_ x := oOk.fr (oOk.fr g7_oOk h7_ (show cFr [1001] [] [] w S7_ (s_I S7_ 1001 x (iI 0)) x from ((cFr.rf _ _).sI (by decide) ⟨by omega, by omega⟩)) (by decide)) (cS.sI h7_) f19_ (by decide)
    have g19_bY : bY S19_ := bY.fr (bY.fr g7_bY h7_ (show cFr [1001] [] [] w S7_ (s_I S7_ 1001 x (iI 0)) x from ((cFr.rf _ _).sI (by decide) ⟨by omega, by omega⟩)) (by decide)) (cS.sI h7_) f19_ (by decide)
    have g19_sE : sE S19_ x := sE.fr (sE.fr g7_sE h7_ (show cFr [1001] [] [] w S7_ (s_I S7_ 1001 x (iI 0)) x from ((cFr.rf _ _).sI (by decide) ⟨by omega, by omega⟩)) (by decide)) (cS.sI h7_) f19_ (by decide)
    have g19_tJ : tJ (b_kn X) S19_ x := tJ.fr (tJ.fr g7_tJ h7_ (show cFr [1001] [] [] w S7_ (s_I S7_ 1001 x (iI 0)) x from ((cFr.rf _ _).sI (by decide) ⟨by omega, by omega⟩)) (by decide)) (cS.sI h7_) f19_ (by decide)
    have aa19_ : lA S19_ x = lA (s_I S7_ 1001 x (iI 0)) x := lA.fr (eI.fr g7_eI h7_ (show cFr [1001] [] [] w S7_ (s_I S7_ 1001 x (iI 0)) x from ((cFr.rf _ _).sI (by decide) ⟨by omega, by omega⟩)) (by decide)) (hM.fr g7_hM h7_ (show cFr [1001] [] [] w S7_ (s_I S7_ 1001 x (iI 0)) x from ((cFr.rf _ _).sI (by decide) ⟨by omega, by omega⟩)) (by decide)) f19_ (by decide)
    have ab19_ : lA S19_ x ≤ 2162688 := lA_le g19_eI g19_hM
    obtain ⟨tr_, e_tr_, b_tr_⟩ := id g19_gR
    refine v_aload_n hX dX12_assemble_48 (i := 0) rfl rfl ?_
    refine v_get hX (ci := 10) (k := 2) (cs_k_0 h19_) bc_10 (by decide) (by decide) in_10 w_2_177 dX12_assemble_49 (mvP (f := 1002) (q := (x + 2)) rfl rfl (cs_p_1002 h19_)) ?_
    refine v_get hX (ci := 1) (k := 2) (cs_k_2 h19_) bc_1 (by decide) (by decide) in_1 w_1_48 dX12_assemble_52 (mvF (f := 102) (v := iI tr_) rfl rfl (by simp (disch := omega) only [y_I_s_I, x_I_s_I, z_I_s_J, z_I_s_A, z_I_s_B, z_I_s_P, y20_, e_tr_])) ?_
    refine u_if_le hX (tgt := 72) dX12_assemble_55 (by decide) ⟨by omega, by omega⟩ (fun h21_ => ?_) (fun h21_ => ?_)
    ·
      refine v_aload_n hX dX12_assemble_72 (i := 0) rfl rfl ?_
      refine v_get hX (ci := 10) (k := 3) (cs_k_0 h19_) bc_10 (by decide) (by decide) in_10 w_2_178 dX12_assemble_73 (mvP (f := 1003) (q := (x + 5)) rfl rfl (cs_p_1003 h19_)) ?_
      obtain ⟨v22_, e_v22_, b_v22_⟩ := i_ex (m_I S19_ 605 (x + 5))
      refine v_get hX (ci := 6) (k := 5) (cs_k_5 h19_) bc_6 (by decide) (by decide) in_6 w_1_203 dX12_assemble_76 (mvF (f := 605) (v := iI v22_) rfl rfl (by simp (disch := omega) only [y_I_s_I, x_I_s_I, z_I_s_J, z_I_s_A, z_I_s_B, z_I_s_P, y20_, e_tr_, e_v22_])) ?_
      exact w_ireturn hX hE dX12_assemble_79 ⟨(by omega), ((((((cFr.rf _ _).tr (f1_.mono (by decide) (by decide) (by decide))).tr (f4_.mono (by decide) (by decide) (by decide))).tr (f7_.mono (by decide) (by decide) (by decide))).sI (by decide) ⟨by omega, by omega⟩).tr (f19_.mono (by decide) (by decide) (by decide))), v22_, 0, rfl, ⟨by omega, by omega⟩, (by simp (disch := omega) only [y_I_s_I, x_I_s_I, z_I_s_J, z_I_s_A, z_I_s_B, z_I_s_P, y20_, e_tr_, e_v22_]), ⟨by omega, by omega⟩, ⟨by omega, by omega⟩, (by omega), g19_eI, g19_hM, g19_gN, g19_gR, g19_gP, g19_oOk, g19_bY, g19_sE, g19_tJ⟩
    ·
      refine v_aload_n hX dX12_assemble_58 (i := 0) rfl rfl ?_
      refine v_callV hX (n := 0) (g_A_forgetProgram (S := S19_) (x := x) (w := w) h19_ g19_gN g19_eI) (cs_k_0 h19_) bc_10 (by decide) w_3_70 w_3_72 (bw_p (q := (yX12_forgetProgram, 5)) (List.mem_of_getElem? (i := 2) rfl) rfl) w_1_1 w_3_73 (by decide +kernel) rfl ⟨by decide, by decide⟩ ⟨by omega, by omega⟩ (Nat.le_of_ble_eq_true rfl) rfl dX12_assemble_59 (fun _ _ _ q => q) ?_
      rintro r23_ S23_ z23_ ⟨rfl, f23_, v24_, rfl, e_v24_, b_v24_, q23_, g23_gN, g23_eI, g23_gP⟩
      have y25_ : m_I S23_ 1001 x = iI 0 := (f23_.2.1 1001 (by decide) _).trans (by simp (disch := omega) only [y_I_s_I, x_I_s_I, z_I_s_J, z_I_s_A, z_I_s_B, z_I_s_P, y20_, e_tr_])
      have y26_ : m_I S23_ 102 (x + 2) = iI tr_ := (f23_.2.1 102 (by decide) _).trans (by simp (disch := omega) only [y_I_s_I, x_I_s_I, z_I_s_J, z_I_s_A, z_I_s_B, z_I_s_P, y20_, e_tr_])
      have h23_ : cS S23_ x := f23_.keep (by decide) h19_
      have g23_hM : hM S23_ x w := hM.fr g19_hM h19_ f23_ (by decide)
      have g23_oOk : oOk (b_kn X) S23_ x := oOk.fr g19_oOk h19_ f23_ (by decide)
      have g23_bY : bY S23_ := bY.fr g19_bY h19_ f23_ (by decide)
      have g23_sE : sE S23_ x := sE.fr g19_sE h19_ f23_ (by decide)
      have g23_tJ : tJ (b_kn X) S23_ x := tJ.fr g19_tJ h19_ f23_ (by decide)
      have g23_gR : gR S23_ x := gR.fr g19_gR h19_ f23_ (by decide)
      have aa23_ : lA S23_ x = lA S19_ x := lA.fr g19_eI g19_hM f23_ (by decide)
      have ab23_ : lA S23_ x ≤ 2162688 := lA_le g23_eI g23_hM
      exact w_throw hX hE (cls := "java/lang/IllegalArgumentException") (text := "the text has errors") (ik := 53) (is := 76) (ic := 57) (by decide +kernel) w_3_46 w_1_21 (List.mem_of_getElem? (i := 3) rfl) (List.mem_of_getElem? (i := 1) rfl) ha_57 hb_57 hg_57_53 dX12_assemble_62 dX12_assemble_65 dX12_assemble_66 dX12_assemble_68 dX12_assemble_71 (by decide) (Nat.le_of_ble_eq_true rfl) (by omega) (by omega) (fun z' hz => ⟨rfl, Nat.le_trans (by omega) hz, (((((((cFr.rf _ _).tr (f1_.mono (by decide) (by decide) (by decide))).tr (f4_.mono (by decide) (by decide) (by decide))).tr (f7_.mono (by decide) (by decide) (by decide))).sI (by decide) ⟨by omega, by omega⟩).tr (f19_.mono (by decide) (by decide) (by decide))).tr (f23_.mono (by decide) (by decide) (by decide))), (by simp (disch := omega) only [y_I_s_I, x_I_s_I, z_I_s_J, z_I_s_A, z_I_s_B, z_I_s_P, y25_, y26_, e_v24_]), ⟨by omega, by omega⟩, g23_eI, g23_hM, g23_gN, g23_gR, g23_gP, g23_oOk, g23_bY, g23_sE, g23_tJ⟩)
