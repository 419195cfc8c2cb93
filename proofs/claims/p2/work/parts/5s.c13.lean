set_option maxRecDepth 100000 in
set_option maxHeartbeats 4000000 in
theorem g_P_sizeOf {kn : Nat → Nat} {B : Nat} {S : b_M} {z x w : Nat} {li : Int} {sm : Nat} (h : cS S x) (hs_sm : isS x sm) (b_li : -2147483648 ≤ li ∧ li < 2147483648) (g_oOk : oOk kn S x) : b_C kn B yX8_sizeOf cX8_sizeOf 2 (some .int) 1 20 0 0 [.ref sm, .int (iI li)] S z (fun r S' z' => z = z' ∧ S = S' ∧ ∃ q : Int, r = some (.int (iI q)) ∧ (-2147483648 ≤ q ∧ q < 2147483648) ∧ (True)) (fun _ _ _ => False) := by
  refine b_enter (by decide) (Nat.le_of_ble_eq_true rfl) ?_
  intro X hX hE hnL hkn hB hI_
  subst hkn; subst hB
  clear hI_
  change b_V X S z 0 0 0 [(0, .ref sm), (1, .int (iI li))] []
  refine v_getsW hX w_5_53 dX8_sizeOf_0 ?_
  refine v_aload_n hX dX8_sizeOf_3 (i := 0) rfl rfl ?_
  obtain ⟨o1_, b_o1_, e_o1_⟩ := oOk.at g_oOk hs_sm
  refine v_get hX (ci := 8) (k := 0) (isS_k h hs_sm) bc_8 (by decide) (by decide) in_8 w_1_142 dX8_sizeOf_4 (mvP (f := 800) (q := (b_kn X o1_)) rfl rfl e_o1_) ?_
  refine v_callU hX (x := ⟨"AssembleLines$Operation", "ordinal", "()I"⟩) (i := o1_) (by omega) (j_ordinal (S := S) (x := x) (w := w) (i := o1_) h (by omega)) rfl (by decide +kernel) (fun w_ hw_ => by simp only [va_wsU, List.mem_append, List.mem_cons, List.not_mem_nil, or_false] at hw_; rcases hw_ with (h_ | h_ | h_ | h_ | h_) | h_ | h_ <;> first | exact h_ | (rw [h_]; first | exact w_5_54 | exact w_4_48 | exact w_4_50 | exact w_4_51 | exact w_1_8 | exact w_4_52)) ⟨by decide, by decide⟩ ⟨by omega, by omega⟩ (Nat.le_of_ble_eq_true rfl) dX8_sizeOf_7 (fun _ _ _ q => q) ?_
  rintro r2_ S2_ z2_ ⟨rfl, rfl, v3_, rfl, b_v3_, q2_⟩
  rw [show (v3_ : Int) = (o1_ : Int) from q2_]
  refine w_tiW hX (i := o1_) (by omega) dX8_sizeOf_10 ?_
  have b4_ := sW_b o1_ (by omega)
  by_cases h5_ : 10 ≤ (sW o1_) ∧ (sW o1_) ≤ 13
  ·
    have h6_ : (sW o1_) = 10 ∨ (sW o1_) = 11 ∨ (sW o1_) = 12 ∨ (sW o1_) = 13 := by omega
    rcases h6_ with h6_ | h6_ | h6_ | h6_
    ·
      refine v_tableIn hX (off := 29) (tgt := 40) dX8_sizeOf_11 (by rw [iI_to ⟨by omega, by omega⟩]; omega) (by rw [iI_to ⟨by omega, by omega⟩]; omega) (by rw [iI_to ⟨by omega, by omega⟩, h6_]; rfl) (by decide) ?_
      refine v_iconst hX (v := iI 0) dX8_sizeOf_40 rfl ?_
      exact v_ireturn hX hE dX8_sizeOf_41 (by omega) (by omega) ⟨rfl, rfl, 0, rfl, ⟨by omega, by omega⟩, trivial⟩
    ·
      refine v_tableIn hX (off := 31) (tgt := 42) dX8_sizeOf_11 (by rw [iI_to ⟨by omega, by omega⟩]; omega) (by rw [iI_to ⟨by omega, by omega⟩]; omega) (by rw [iI_to ⟨by omega, by omega⟩, h6_]; rfl) (by decide) ?_
      refine v_aload_n hX dX8_sizeOf_42 (i := 0) rfl rfl ?_
      obtain ⟨v7_, e_v7_, b_v7_⟩ := i_ex (m_I S 806 sm)
      refine v_get hX (ci := 8) (k := 6) (isS_k h hs_sm) bc_8 (by decide) (by decide) in_8 w_1_158 dX8_sizeOf_43 (mvF (f := 806) (v := iI v7_) rfl rfl (by simp (disch := omega) only [y_I_s_I, x_I_s_I, z_I_s_J, z_I_s_A, z_I_s_B, z_I_s_P, e_v7_])) ?_
      exact v_ireturn hX hE dX8_sizeOf_46 (by omega) (by omega) ⟨rfl, rfl, v7_, rfl, ⟨by omega, by omega⟩, trivial⟩
    ·
      refine v_tableIn hX (off := 36) (tgt := 47) dX8_sizeOf_11 (by rw [iI_to ⟨by omega, by omega⟩]; omega) (by rw [iI_to ⟨by omega, by omega⟩]; omega) (by rw [iI_to ⟨by omega, by omega⟩, h6_]; rfl) (by decide) ?_
      refine v_aload_n hX dX8_sizeOf_47 (i := 0) rfl rfl ?_
      obtain ⟨v8_, e_v8_, b_v8_⟩ := i_ex (m_I S 807 sm)
      refine v_get hX (ci := 8) (k := 7) (isS_k h hs_sm) bc_8 (by decide) (by decide) in_8 w_1_161 dX8_sizeOf_48 (mvF (f := 807) (v := iI v8_) rfl rfl (by simp (disch := omega) only [y_I_s_I, x_I_s_I, z_I_s_J, z_I_s_A, z_I_s_B, z_I_s_P, e_v8_])) ?_
      exact v_ireturn hX hE dX8_sizeOf_51 (by omega) (by omega) ⟨rfl, rfl, v8_, rfl, ⟨by omega, by omega⟩, trivial⟩
    ·
      refine v_tableIn hX (off := 41) (tgt := 52) dX8_sizeOf_11 (by rw [iI_to ⟨by omega, by omega⟩]; omega) (by rw [iI_to ⟨by omega, by omega⟩]; omega) (by rw [iI_to ⟨by omega, by omega⟩, h6_]; rfl) (by decide) ?_
      refine v_iload_n hX dX8_sizeOf_52 (i := 1) rfl rfl ?_
      exact v_ireturn hX hE dX8_sizeOf_53 (by omega) (by omega) ⟨rfl, rfl, li, rfl, ⟨by omega, by omega⟩, trivial⟩
  ·
    refine v_tableOut hX (tgt := 54) dX8_sizeOf_11 (by rw [iI_to ⟨by omega, by omega⟩]; omega) (by decide) ?_
    refine v_aload_n hX dX8_sizeOf_54 (i := 0) rfl rfl ?_
    obtain ⟨v9_, e_v9_, b_v9_⟩ := i_ex (m_I S 810 sm)
    refine v_get hX (ci := 8) (k := 10) (isS_k h hs_sm) bc_8 (by decide) (by decide) in_8 w_1_168 dX8_sizeOf_55 (mvF (f := 810) (v := iI v9_) rfl rfl (by simp (disch := omega) only [y_I_s_I, x_I_s_I, z_I_s_J, z_I_s_A, z_I_s_B, z_I_s_P, e_v9_])) ?_
    refine u_if_eq hX (tgt := 65) dX8_sizeOf_58 (by decide) ⟨by omega, by omega⟩ (fun h10_ => ?_) (fun h10_ => ?_)
    ·
      refine v_iconst hX (v := iI 1) dX8_sizeOf_65 rfl ?_
      exact v_ireturn hX hE dX8_sizeOf_66 (by omega) (by omega) ⟨rfl, rfl, 1, rfl, ⟨by omega, by omega⟩, trivial⟩
    ·
      refine v_iconst hX (v := iI 2) dX8_sizeOf_61 rfl ?_
      refine v_goto hX (tgt := 66) dX8_sizeOf_62 (by decide) ?_
      exact v_ireturn hX hE dX8_sizeOf_66 (by omega) (by omega) ⟨rfl, rfl, 2, rfl, ⟨by omega, by omega⟩, trivial⟩
set_option maxRecDepth 100000 in
set_option maxHeartbeats 4000000 in
theorem g_P_shortValue {kn : Nat → Nat} {B : Nat} {S : b_M} {z x w : Nat} {sm : Nat} (h : cS S x) (hs_sm : isS x sm) (g_oOk : oOk kn S x) (g_eI : eI S x w) : b_C kn B yX8_shortValue cX8_shortValue 3 (some .int) 2 46 0 0 [.ref (x + 5), .ref sm] S z (fun r S' z' => z = z' ∧ S = S' ∧ ∃ q : Int, r = some (.int (iI q)) ∧ (-2147483648 ≤ q ∧ q < 2147483648) ∧ (True)) (fun _ _ _ => False) := by
  refine b_enter (by decide) (Nat.le_of_ble_eq_true rfl) ?_
  intro X hX hE hnL hkn hB hI_
  subst hkn; subst hB
  clear hI_
  change b_V X S z 0 0 0 [(0, .ref (x + 5)), (1, .ref sm)] []
  refine v_aload_n hX dX8_shortValue_0 (i := 0) rfl rfl ?_
  refine v_get hX (ci := 6) (k := 2) (cs_k_5 h) bc_6 (by decide) (by decide) in_6 w_1_196 dX8_shortValue_1 (mvP (f := 602) (q := (x + 11)) rfl rfl (cs_p_602 h)) ?_
  refine v_aload_n hX dX8_shortValue_4 (i := 1) rfl rfl ?_
  obtain ⟨v1_, e_v1_, b_v1_⟩ := i_ex (m_I S 805 sm)
  refine v_get hX (ci := 8) (k := 5) (isS_k h hs_sm) bc_8 (by decide) (by decide) in_8 w_1_156 dX8_shortValue_5 (mvF (f := 805) (v := iI v1_) rfl rfl (by simp (disch := omega) only [y_I_s_I, x_I_s_I, z_I_s_J, z_I_s_A, z_I_s_B, z_I_s_P, e_v1_])) ?_
  refine v_aload_n hX dX8_shortValue_8 (i := 1) rfl rfl ?_
  obtain ⟨v2_, e_v2_, b_v2_⟩ := i_ex (m_I S 808 sm)
  refine v_get hX (ci := 8) (k := 8) (isS_k h hs_sm) bc_8 (by decide) (by decide) in_8 w_1_164 dX8_shortValue_9 (mvF (f := 808) (v := iI v2_) rfl rfl (by simp (disch := omega) only [y_I_s_I, x_I_s_I, z_I_s_J, z_I_s_A, z_I_s_B, z_I_s_P, e_v1_, e_v2_])) ?_
  refine v_callV hX (n := 2) (g_X_value (S := S) (x := x) (w := w) (e := v1_) (pl := v2_) h ⟨by omega, by omega⟩ ⟨by omega, by omega⟩ g_eI) (cs_k_11 h) bc_2 (by decide) w_5_75 w_5_76 w_5_77 w_1_6 w_5_78 (by decide +kernel) rfl ⟨by decide, by decide⟩ ⟨by omega, by omega⟩ (Nat.le_of_ble_eq_true rfl) rfl dX8_shortValue_12 (fun _ _ _ q => q) ?_
  rintro r3_ S3_ z3_ ⟨rfl, rfl, v4_, rfl, b_v4_, q3_⟩
  refine v_istore_n hX (lv' := [(2, .int (iI v4_)), (0, .ref (x + 5)), (1, .ref sm)]) dX8_shortValue_15 (i := 2) rfl (by rw [hnL]; decide) rfl ?_
  refine v_aload_n hX dX8_shortValue_16 (i := 1) rfl rfl ?_
  obtain ⟨o5_, b_o5_, e_o5_⟩ := oOk.at g_oOk hs_sm
  refine v_get hX (ci := 8) (k := 0) (isS_k h hs_sm) bc_8 (by decide) (by decide) in_8 w_1_142 dX8_shortValue_17 (mvP (f := 800) (q := (b_kn X o5_)) rfl rfl e_o5_) ?_
  refine v_getsK hX (i := 5) (by decide) rfl w_5_87 dX8_shortValue_20 ?_
  refine v_acmp_ne hX (tgt := 30) dX8_shortValue_23 (by decide) (fun h6_ => ?_) (fun h6_ => ?_)
  ·
    refine v_iload_n hX dX8_shortValue_30 (i := 2) rfl rfl ?_
    refine v_aload_n hX dX8_shortValue_31 (i := 1) rfl rfl ?_
    refine v_get hX (ci := 8) (k := 8) (isS_k h hs_sm) bc_8 (by decide) (by decide) in_8 w_1_164 dX8_shortValue_32 (mvF (f := 808) (v := iI v2_) rfl rfl (by simp (disch := omega) only [y_I_s_I, x_I_s_I, z_I_s_J, z_I_s_A, z_I_s_B, z_I_s_P, e_v1_, e_v2_])) ?_
    refine v_iconst hX (v := iI 1) dX8_shortValue_35 rfl ?_
    refine u_iadd hX dX8_shortValue_36 ?_
    obtain ⟨v7_, e_v7_, b_v7_⟩ := i_ex (iI (v2_ + 1))
    rw [e_v7_]
    refine u_isub hX dX8_shortValue_37 ?_
    obtain ⟨v8_, e_v8_, b_v8_⟩ := i_ex (iI (v4_ - v7_))
    rw [e_v8_]
    exact v_ireturn hX hE dX8_shortValue_38 (by omega) (by omega) ⟨rfl, rfl, v8_, rfl, ⟨by omega, by omega⟩, trivial⟩
  ·
    refine v_iload_n hX dX8_shortValue_26 (i := 2) rfl rfl ?_
    refine v_goto hX (tgt := 38) dX8_shortValue_27 (by decide) ?_
    exact v_ireturn hX hE dX8_shortValue_38 (by omega) (by omega) ⟨rfl, rfl, v4_, rfl, ⟨by omega, by omega⟩, trivial⟩
set_option maxRecDepth 100000 in
set_option maxHeartbeats 4000000 in
theorem g_P_fitsShort {kn : Nat → Nat} {B : Nat} {S : b_M} {z x w : Nat} {sm : Nat} (h : cS S x) (hs_sm : isS x sm) (g_oOk : oOk kn S x) (g_eI : eI S x w) : b_C kn B yX8_fitsShort cX8_fitsShort 4 (some .boolean) 3 68 0 0 [.ref (x + 5), .ref sm] S z (fun r S' z' => z = z' ∧ S = S' ∧ ∃ q : Int, r = some (.int (iI q)) ∧ (q = 0 ∨ q = 1) ∧ (True)) (fun _ _ _ => False) := by
  refine b_enter (by decide) (Nat.le_of_ble_eq_true rfl) ?_
  intro X hX hE hnL hkn hB hI_
  subst hkn; subst hB
  clear hI_
  change b_V X S z 0 0 0 [(0, .ref (x + 5)), (1, .ref sm)] []
  refine v_iconst hX (v := iI 1) dX8_fitsShort_0 rfl ?_
  refine v_aload_n hX dX8_fitsShort_1 (i := 1) rfl rfl ?_
  obtain ⟨o1_, b_o1_, e_o1_⟩ := oOk.at g_oOk hs_sm
  refine v_get hX (ci := 8) (k := 0) (isS_k h hs_sm) bc_8 (by decide) (by decide) in_8 w_1_142 dX8_fitsShort_2 (mvP (f := 800) (q := (b_kn X o1_)) rfl rfl e_o1_) ?_
  refine w_getO hX (i := o1_) (k := 3) (by omega) (by decide) w_8_3 dX8_fitsShort_5 ?_
  have b2_ := oI_b 3 (by decide) o1_ (by omega)
  refine v_iconst hX (v := iI 1) dX8_fitsShort_8 rfl ?_
  refine u_isub hX dX8_fitsShort_9 ?_
  refine u_ishl hX dX8_fitsShort_10 (fun v3_ b_v3_ => ?_)
  refine v_istore_n hX (lv' := [(2, .int (iI v3_)), (0, .ref (x + 5)), (1, .ref sm)]) dX8_fitsShort_11 (i := 2) rfl (by rw [hnL]; decide) rfl ?_
  refine v_aload_n hX dX8_fitsShort_12 (i := 0) rfl rfl ?_
  refine v_aload_n hX dX8_fitsShort_13 (i := 1) rfl rfl ?_
  refine v_callV hX (n := 1) (g_P_shortValue (S := S) (x := x) (w := w) (sm := sm) h hs_sm g_oOk g_eI) (cs_k_5 h) bc_6 (by decide) w_5_71 w_5_73 (bw_p (q := (yX8_shortValue, 7)) (List.mem_of_getElem? (i := 32) rfl) rfl) w_1_3 w_5_74 (by decide +kernel) rfl ⟨by decide, by decide⟩ ⟨by omega, by omega⟩ (Nat.le_of_ble_eq_true rfl) rfl dX8_fitsShort_14 (fun _ _ _ q => q) ?_
  rintro r4_ S4_ z4_ ⟨rfl, rfl, v5_, rfl, b_v5_, q4_⟩
  refine v_istore_n hX (lv' := [(3, .int (iI v5_)), (2, .int (iI v3_)), (0, .ref (x + 5)), (1, .ref sm)]) dX8_fitsShort_17 (i := 3) rfl (by rw [hnL]; decide) rfl ?_
  refine v_iload_n hX dX8_fitsShort_18 (i := 3) rfl rfl ?_
  refine v_iload_n hX dX8_fitsShort_19 (i := 2) rfl rfl ?_
  refine u_ineg hX dX8_fitsShort_20 ?_
  obtain ⟨v6_, e_v6_, b_v6_⟩ := i_ex (iI (-v3_))
  rw [e_v6_]
  refine u_icmp_lt hX (tgt := 33) dX8_fitsShort_21 (by decide) ⟨by omega, by omega⟩ ⟨by omega, by omega⟩ (fun h7_ => ?_) (fun h7_ => ?_)
  ·
    refine v_iconst hX (v := iI 0) dX8_fitsShort_33 rfl ?_
    exact v_zreturn hX (nar_b (by omega)) hE dX8_fitsShort_34 (by omega) (by omega) ⟨rfl, rfl, 0, rfl, (by omega), trivial⟩
  ·
    refine v_iload_n hX dX8_fitsShort_24 (i := 3) rfl rfl ?_
    refine v_iload_n hX dX8_fitsShort_25 (i := 2) rfl rfl ?_
    refine u_icmp_ge hX (tgt := 33) dX8_fitsShort_26 (by decide) ⟨by omega, by omega⟩ ⟨by omega, by omega⟩ (fun h8_ => ?_) (fun h8_ => ?_)
    ·
      refine v_iconst hX (v := iI 0) dX8_fitsShort_33 rfl ?_
      exact v_zreturn hX (nar_b (by omega)) hE dX8_fitsShort_34 (by omega) (by omega) ⟨rfl, rfl, 0, rfl, (by omega), trivial⟩
    ·
      refine v_iconst hX (v := iI 1) dX8_fitsShort_29 rfl ?_
      refine v_goto hX (tgt := 34) dX8_fitsShort_30 (by decide) ?_
      exact v_zreturn hX (nar_b (by omega)) hE dX8_fitsShort_34 (by omega) (by omega) ⟨rfl, rfl, 1, rfl, (by omega), trivial⟩
set_option maxRecDepth 100000 in
set_option maxHeartbeats 4000000 in
theorem g_P_distance {kn : Nat → Nat} {B : Nat} {S : b_M} {z x w : Nat} {sm : Nat} (h : cS S x) (hs_sm : isS x sm) : b_C kn B yX8_distance cX8_distance 1 (some .int) 0 0 0 0 [.ref sm] S z (fun r S' z' => z = z' ∧ S = S' ∧ ∃ q : Int, r = some (.int (iI q)) ∧ (-2147483648 ≤ q ∧ q < 2147483648) ∧ (True)) (fun _ _ _ => False) := by
  refine b_enter (by decide) (Nat.le_of_ble_eq_true rfl) ?_
  intro X hX hE hnL hkn hB hI_
  subst hkn; subst hB
  clear hI_
  change b_V X S z 0 0 0 [(0, .ref sm)] []
  refine v_aload_n hX dX8_distance_0 (i := 0) rfl rfl ?_
  obtain ⟨v1_, e_v1_, b_v1_⟩ := i_ex (m_I S 809 sm)
  refine v_get hX (ci := 8) (k := 9) (isS_k h hs_sm) bc_8 (by decide) (by decide) in_8 w_1_166 dX8_distance_1 (mvF (f := 809) (v := iI v1_) rfl rfl (by simp (disch := omega) only [y_I_s_I, x_I_s_I, z_I_s_J, z_I_s_A, z_I_s_B, z_I_s_P, e_v1_])) ?_
  refine v_aload_n hX dX8_distance_4 (i := 0) rfl rfl ?_
  obtain ⟨v2_, e_v2_, b_v2_⟩ := i_ex (m_I S 808 sm)
  refine v_get hX (ci := 8) (k := 8) (isS_k h hs_sm) bc_8 (by decide) (by decide) in_8 w_1_164 dX8_distance_5 (mvF (f := 808) (v := iI v2_) rfl rfl (by simp (disch := omega) only [y_I_s_I, x_I_s_I, z_I_s_J, z_I_s_A, z_I_s_B, z_I_s_P, e_v1_, e_v2_])) ?_
  refine v_iconst hX (v := iI 1) dX8_distance_8 rfl ?_
  refine u_iadd hX dX8_distance_9 ?_
  obtain ⟨v3_, e_v3_, b_v3_⟩ := i_ex (iI (v2_ + 1))
  rw [e_v3_]
  refine u_isub hX dX8_distance_10 ?_
  obtain ⟨v4_, e_v4_, b_v4_⟩ := i_ex (iI (v1_ - v3_))
  rw [e_v4_]
  exact v_ireturn hX hE dX8_distance_11 (by omega) (by omega) ⟨rfl, rfl, v4_, rfl, ⟨by omega, by omega⟩, trivial⟩
set_option maxRecDepth 100000 in
set_option maxHeartbeats 4000000 in
theorem g_P_fits {kn : Nat → Nat} {B : Nat} {S : b_M} {z x w : Nat} {vl : Int} {sm : Nat} (h : cS S x) (hs_sm : isS x sm) (b_vl : -2147483648 ≤ vl ∧ vl < 2147483648) (g_oOk : oOk kn S x) : b_C kn B yX8_fits cX8_fits 3 (some .boolean) 1 20 0 0 [.ref sm, .int (iI vl)] S z (fun r S' z' => z = z' ∧ S = S' ∧ ∃ q : Int, r = some (.int (iI q)) ∧ (q = 0 ∨ q = 1) ∧ (True)) (fun _ _ _ => False) := by
  refine b_enter (by decide) (Nat.le_of_ble_eq_true rfl) ?_
  intro X hX hE hnL hkn hB hI_
  subst hkn; subst hB
  clear hI_
  change b_V X S z 0 0 0 [(0, .ref sm), (1, .int (iI vl))] []
  have L18 : ∀ (iw : Int), (iw = 0 ∨ iw = 1) → b_V X S z 0 0 18 [(0, .ref sm), (1, .int (iI vl))] [.int (iI iw)] := by
    intro iw p18_0
    refine v_istore_n hX (lv' := [(2, .int (iI iw)), (0, .ref sm), (1, .int (iI vl))]) dX8_fits_18 (i := 2) rfl (by rw [hnL]; decide) rfl ?_
    refine v_getsW hX w_5_53 dX8_fits_19 ?_
    refine v_aload_n hX dX8_fits_22 (i := 0) rfl rfl ?_
    obtain ⟨o1_, b_o1_, e_o1_⟩ := oOk.at g_oOk hs_sm
    refine v_get hX (ci := 8) (k := 0) (isS_k h hs_sm) bc_8 (by decide) (by decide) in_8 w_1_142 dX8_fits_23 (mvP (f := 800) (q := (b_kn X o1_)) rfl rfl e_o1_) ?_
    refine v_callU hX (x := ⟨"AssembleLines$Operation", "ordinal", "()I"⟩) (i := o1_) (by omega) (j_ordinal (S := S) (x := x) (w := w) (i := o1_) h (by omega)) rfl (by decide +kernel) (fun w_ hw_ => by simp only [va_wsU, List.mem_append, List.mem_cons, List.not_mem_nil, or_false] at hw_; rcases hw_ with (h_ | h_ | h_ | h_ | h_) | h_ | h_ <;> first | exact h_ | (rw [h_]; first | exact w_5_54 | exact w_4_48 | exact w_4_50 | exact w_4_51 | exact w_1_8 | exact w_4_52)) ⟨by decide, by decide⟩ ⟨by omega, by omega⟩ (Nat.le_of_ble_eq_true rfl) dX8_fits_26 (fun _ _ _ q => q) ?_
    rintro r2_ S2_ z2_ ⟨rfl, rfl, v3_, rfl, b_v3_, q2_⟩
    rw [show (v3_ : Int) = (o1_ : Int) from q2_]
    refine w_tiW hX (i := o1_) (by omega) dX8_fits_29 ?_
    have b4_ := sW_b o1_ (by omega)
    by_cases h5_ : (sW o1_) = 1
    ·
      refine w_lookup hX (off := 42) (tgt := 72) dX8_fits_30 (by decide) (by rw [iI_to ⟨by omega, by omega⟩, h5_]; rfl) (by decide) ?_
      refine v_aload_n hX dX8_fits_72 (i := 0) rfl rfl ?_
      obtain ⟨v6_, e_v6_, b_v6_⟩ := i_ex (m_I S 810 sm)
      refine v_get hX (ci := 8) (k := 10) (isS_k h hs_sm) bc_8 (by decide) (by decide) in_8 w_1_168 dX8_fits_73 (mvF (f := 810) (v := iI v6_) rfl rfl (by simp (disch := omega) only [y_I_s_I, x_I_s_I, z_I_s_J, z_I_s_A, z_I_s_B, z_I_s_P, e_v6_])) ?_
      refine u_if_eq hX (tgt := 83) dX8_fits_76 (by decide) ⟨by omega, by omega⟩ (fun h7_ => ?_) (fun h7_ => ?_)
      ·
        refine v_iconst hX (v := iI 1) dX8_fits_83 rfl ?_
        refine v_goto hX (tgt := 88) dX8_fits_84 (by decide) ?_
        exact v_zreturn hX (nar_b (by omega)) hE dX8_fits_88 (by omega) (by omega) ⟨rfl, rfl, 1, rfl, (by omega), trivial⟩
      ·
        refine v_iload_n hX dX8_fits_79 (i := 2) rfl rfl ?_
        refine u_if_eq hX (tgt := 87) dX8_fits_80 (by decide) ⟨by omega, by omega⟩ (fun h8_ => ?_) (fun h8_ => ?_)
        ·
          refine v_iconst hX (v := iI 0) dX8_fits_87 rfl ?_
          exact v_zreturn hX (nar_b (by omega)) hE dX8_fits_88 (by omega) (by omega) ⟨rfl, rfl, 0, rfl, (by omega), trivial⟩
        ·
          refine v_iconst hX (v := iI 1) dX8_fits_83 rfl ?_
          refine v_goto hX (tgt := 88) dX8_fits_84 (by decide) ?_
          exact v_zreturn hX (nar_b (by omega)) hE dX8_fits_88 (by omega) (by omega) ⟨rfl, rfl, 1, rfl, (by omega), trivial⟩
    ·
      by_cases h9_ : (sW o1_) = 2
      ·
        refine w_lookup hX (off := 59) (tgt := 89) dX8_fits_30 (by decide) (by rw [iI_to ⟨by omega, by omega⟩, h9_]; rfl) (by decide) ?_
        refine v_aload_n hX dX8_fits_89 (i := 0) rfl rfl ?_
        obtain ⟨v10_, e_v10_, b_v10_⟩ := i_ex (m_I S 810 sm)
        refine v_get hX (ci := 8) (k := 10) (isS_k h hs_sm) bc_8 (by decide) (by decide) in_8 w_1_168 dX8_fits_90 (mvF (f := 810) (v := iI v10_) rfl rfl (by simp (disch := omega) only [y_I_s_I, x_I_s_I, z_I_s_J, z_I_s_A, z_I_s_B, z_I_s_P, e_v10_])) ?_
        refine u_if_eq hX (tgt := 104) dX8_fits_93 (by decide) ⟨by omega, by omega⟩ (fun h11_ => ?_) (fun h11_ => ?_)
        ·
          refine v_iconst hX (v := iI 1) dX8_fits_104 rfl ?_
          refine v_goto hX (tgt := 109) dX8_fits_105 (by decide) ?_
          exact v_zreturn hX (nar_b (by omega)) hE dX8_fits_109 (by omega) (by omega) ⟨rfl, rfl, 1, rfl, (by omega), trivial⟩
        ·
          refine v_iload_n hX dX8_fits_96 (i := 2) rfl rfl ?_
          refine u_if_eq hX (tgt := 108) dX8_fits_97 (by decide) ⟨by omega, by omega⟩ (fun h12_ => ?_) (fun h12_ => ?_)
          ·
            refine v_iconst hX (v := iI 0) dX8_fits_108 rfl ?_
            exact v_zreturn hX (nar_b (by omega)) hE dX8_fits_109 (by omega) (by omega) ⟨rfl, rfl, 0, rfl, (by omega), trivial⟩
          ·
            refine v_iload_n hX dX8_fits_100 (i := 1) rfl rfl ?_
            refine u_if_lt hX (tgt := 108) dX8_fits_101 (by decide) ⟨by omega, by omega⟩ (fun h13_ => ?_) (fun h13_ => ?_)
            ·
              refine v_iconst hX (v := iI 0) dX8_fits_108 rfl ?_
              exact v_zreturn hX (nar_b (by omega)) hE dX8_fits_109 (by omega) (by omega) ⟨rfl, rfl, 0, rfl, (by omega), trivial⟩
            ·
              refine v_iconst hX (v := iI 1) dX8_fits_104 rfl ?_
              refine v_goto hX (tgt := 109) dX8_fits_105 (by decide) ?_
              exact v_zreturn hX (nar_b (by omega)) hE dX8_fits_109 (by omega) (by omega) ⟨rfl, rfl, 1, rfl, (by omega), trivial⟩
      ·
        by_cases h14_ : (sW o1_) = 3
        ·
          refine w_lookup hX (off := 80) (tgt := 110) dX8_fits_30 (by decide) (by rw [iI_to ⟨by omega, by omega⟩, h14_]; rfl) (by decide) ?_
          refine v_iload_n hX dX8_fits_110 (i := 2) rfl rfl ?_
          refine u_if_eq hX (tgt := 127) dX8_fits_111 (by decide) ⟨by omega, by omega⟩ (fun h15_ => ?_) (fun h15_ => ?_)
          ·
            refine v_iconst hX (v := iI 0) dX8_fits_127 rfl ?_
            exact v_zreturn hX (nar_b (by omega)) hE dX8_fits_128 (by omega) (by omega) ⟨rfl, rfl, 0, rfl, (by omega), trivial⟩
          ·
            refine v_aload_n hX dX8_fits_114 (i := 0) rfl rfl ?_
            refine v_callS hX (n := 1) (g_P_distance (S := S) (x := x) (w := w) (sm := sm) h hs_sm) w_5_106 w_5_107 w_1_3 w_5_108 (by decide +kernel) rfl ⟨by decide, by decide⟩ ⟨by omega, by omega⟩ (Nat.le_of_ble_eq_true rfl) rfl dX8_fits_115 (fun _ _ _ q => q) ?_
            rintro r16_ S16_ z16_ ⟨rfl, rfl, v17_, rfl, b_v17_, q16_⟩
            refine v_bipush hX (v := iI 63) dX8_fits_118 (by decide) ?_
            refine u_icmp_gt hX (tgt := 127) dX8_fits_120 (by decide) ⟨by omega, by omega⟩ ⟨by omega, by omega⟩ (fun h18_ => ?_) (fun h18_ => ?_)
            ·
              refine v_iconst hX (v := iI 0) dX8_fits_127 rfl ?_
              exact v_zreturn hX (nar_b (by omega)) hE dX8_fits_128 (by omega) (by omega) ⟨rfl, rfl, 0, rfl, (by omega), trivial⟩
            ·
              refine v_iconst hX (v := iI 1) dX8_fits_123 rfl ?_
              refine v_goto hX (tgt := 128) dX8_fits_124 (by decide) ?_
              exact v_zreturn hX (nar_b (by omega)) hE dX8_fits_128 (by omega) (by omega) ⟨rfl, rfl, 1, rfl, (by omega), trivial⟩
        ·
          by_cases h19_ : (sW o1_) = 14
          ·
            refine w_lookup hX (off := 59) (tgt := 89) dX8_fits_30 (by decide) (by rw [iI_to ⟨by omega, by omega⟩, h19_]; rfl) (by decide) ?_
            refine v_aload_n hX dX8_fits_89 (i := 0) rfl rfl ?_
            obtain ⟨v20_, e_v20_, b_v20_⟩ := i_ex (m_I S 810 sm)
            refine v_get hX (ci := 8) (k := 10) (isS_k h hs_sm) bc_8 (by decide) (by decide) in_8 w_1_168 dX8_fits_90 (mvF (f := 810) (v := iI v20_) rfl rfl (by simp (disch := omega) only [y_I_s_I, x_I_s_I, z_I_s_J, z_I_s_A, z_I_s_B, z_I_s_P, e_v20_])) ?_
            refine u_if_eq hX (tgt := 104) dX8_fits_93 (by decide) ⟨by omega, by omega⟩ (fun h21_ => ?_) (fun h21_ => ?_)
            ·
              refine v_iconst hX (v := iI 1) dX8_fits_104 rfl ?_
              refine v_goto hX (tgt := 109) dX8_fits_105 (by decide) ?_
              exact v_zreturn hX (nar_b (by omega)) hE dX8_fits_109 (by omega) (by omega) ⟨rfl, rfl, 1, rfl, (by omega), trivial⟩
            ·
              refine v_iload_n hX dX8_fits_96 (i := 2) rfl rfl ?_
              refine u_if_eq hX (tgt := 108) dX8_fits_97 (by decide) ⟨by omega, by omega⟩ (fun h22_ => ?_) (fun h22_ => ?_)
              ·
                refine v_iconst hX (v := iI 0) dX8_fits_108 rfl ?_
                exact v_zreturn hX (nar_b (by omega)) hE dX8_fits_109 (by omega) (by omega) ⟨rfl, rfl, 0, rfl, (by omega), trivial⟩
              ·
                refine v_iload_n hX dX8_fits_100 (i := 1) rfl rfl ?_
                refine u_if_lt hX (tgt := 108) dX8_fits_101 (by decide) ⟨by omega, by omega⟩ (fun h23_ => ?_) (fun h23_ => ?_)
                ·
                  refine v_iconst hX (v := iI 0) dX8_fits_108 rfl ?_
                  exact v_zreturn hX (nar_b (by omega)) hE dX8_fits_109 (by omega) (by omega) ⟨rfl, rfl, 0, rfl, (by omega), trivial⟩
                ·
                  refine v_iconst hX (v := iI 1) dX8_fits_104 rfl ?_
                  refine v_goto hX (tgt := 109) dX8_fits_105 (by decide) ?_
                  exact v_zreturn hX (nar_b (by omega)) hE dX8_fits_109 (by omega) (by omega) ⟨rfl, rfl, 1, rfl, (by omega), trivial⟩
          ·
            refine w_lookup hX (off := 99) (tgt := 129) dX8_fits_30 (by decide) (by rw [iI_to ⟨by omega, by omega⟩]; simp only [Op.lookupswitch.offset_cons]; rw [if_neg (show ¬ ((1 : Int) = (sW o1_)) by omega), if_neg (show ¬ ((2 : Int) = (sW o1_)) by omega), if_neg (show ¬ ((3 : Int) = (sW o1_)) by omega), if_neg (show ¬ ((14 : Int) = (sW o1_)) by omega)]; rfl) (by decide) ?_
            refine v_iload_n hX dX8_fits_129 (i := 2) rfl rfl ?_
            exact v_zreturn hX (nar_b (by omega)) hE dX8_fits_130 (by omega) (by omega) ⟨rfl, rfl, iw, rfl, (by omega), trivial⟩
  refine v_iload_n hX dX8_fits_0 (i := 1) rfl rfl ?_
  refine v_sipush hX (v := iI (-32768)) dX8_fits_1 (by decide) ?_
  refine u_icmp_lt hX (tgt := 17) dX8_fits_4 (by decide) ⟨by omega, by omega⟩ ⟨by omega, by omega⟩ (fun h24_ => ?_) (fun h24_ => ?_)
  ·
    refine v_iconst hX (v := iI 0) dX8_fits_17 rfl ?_
    exact L18 0 (by omega)
  ·
    refine v_iload_n hX dX8_fits_7 (i := 1) rfl rfl ?_
    refine v_ldc hX (v := iI 65535) dX8_fits_8 (show Cond.constant _ _ (iI 65535) ∈ b_Ws from w_5_89) ?_
    refine u_icmp_gt hX (tgt := 17) dX8_fits_10 (by decide) ⟨by omega, by omega⟩ ⟨by omega, by omega⟩ (fun h25_ => ?_) (fun h25_ => ?_)
    ·
      refine v_iconst hX (v := iI 0) dX8_fits_17 rfl ?_
      exact L18 0 (by omega)
    ·
      refine v_iconst hX (v := iI 1) dX8_fits_13 rfl ?_
      refine v_goto hX (tgt := 18) dX8_fits_14 (by decide) ?_
      exact L18 1 (by omega)
set_option maxRecDepth 100000 in
set_option maxHeartbeats 4000000 in
theorem g_P_valueWord {kn : Nat → Nat} {B : Nat} {S : b_M} {z x w : Nat} {vv : Int} {sm : Nat} (h : cS S x) (hs_sm : isS x sm) (b_vv : -2147483648 ≤ vv ∧ vv < 2147483648) (g_eI : eI S x w) : b_C kn B yX8_valueWord cX8_valueWord 3 (some .int) 2 46 0 0 [.ref (x + 5), .ref sm, .int (iI vv)] S z (fun r S' z' => z = z' ∧ S = S' ∧ ∃ q : Int, r = some (.int (iI q)) ∧ (-2147483648 ≤ q ∧ q < 2147483648) ∧ (True)) (fun _ _ _ => False) := by
  refine b_enter (by decide) (Nat.le_of_ble_eq_true rfl) ?_
  intro X hX hE hnL hkn hB hI_
  subst hkn; subst hB
  clear hI_
  change b_V X S z 0 0 0 [(0, .ref (x + 5)), (1, .ref sm), (2, .int (iI vv))] []
  refine v_aload_n hX dX8_valueWord_0 (i := 0) rfl rfl ?_
  refine v_get hX (ci := 6) (k := 2) (cs_k_5 h) bc_6 (by decide) (by decide) in_6 w_1_196 dX8_valueWord_1 (mvP (f := 602) (q := (x + 11)) rfl rfl (cs_p_602 h)) ?_
  refine v_aload_n hX dX8_valueWord_4 (i := 1) rfl rfl ?_
  obtain ⟨v1_, e_v1_, b_v1_⟩ := i_ex (m_I S 805 sm)
  refine v_get hX (ci := 8) (k := 5) (isS_k h hs_sm) bc_8 (by decide) (by decide) in_8 w_1_156 dX8_valueWord_5 (mvF (f := 805) (v := iI v1_) rfl rfl (by simp (disch := omega) only [y_I_s_I, x_I_s_I, z_I_s_J, z_I_s_A, z_I_s_B, z_I_s_P, e_v1_])) ?_
  refine v_iload_n hX dX8_valueWord_8 (i := 2) rfl rfl ?_
  refine u_iadd hX dX8_valueWord_9 ?_
  obtain ⟨v2_, e_v2_, b_v2_⟩ := i_ex (iI (v1_ + vv))
  rw [e_v2_]
  refine v_aload_n hX dX8_valueWord_10 (i := 1) rfl rfl ?_
  obtain ⟨v3_, e_v3_, b_v3_⟩ := i_ex (m_I S 808 sm)
  refine v_get hX (ci := 8) (k := 8) (isS_k h hs_sm) bc_8 (by decide) (by decide) in_8 w_1_164 dX8_valueWord_11 (mvF (f := 808) (v := iI v3_) rfl rfl (by simp (disch := omega) only [y_I_s_I, x_I_s_I, z_I_s_J, z_I_s_A, z_I_s_B, z_I_s_P, e_v1_, e_v3_])) ?_
  refine v_callV hX (n := 2) (g_X_value (S := S) (x := x) (w := w) (e := v2_) (pl := v3_) h ⟨by omega, by omega⟩ ⟨by omega, by omega⟩ g_eI) (cs_k_11 h) bc_2 (by decide) w_5_75 w_5_76 w_5_77 w_1_6 w_5_78 (by decide +kernel) rfl ⟨by decide, by decide⟩ ⟨by omega, by omega⟩ (Nat.le_of_ble_eq_true rfl) rfl dX8_valueWord_14 (fun _ _ _ q => q) ?_
  rintro r4_ S4_ z4_ ⟨rfl, rfl, v5_, rfl, b_v5_, q4_⟩
  refine v_ldc hX (v := iI 65535) dX8_valueWord_17 (show Cond.constant _ _ (iI 65535) ∈ b_Ws from w_5_89) ?_
  refine u_iand hX dX8_valueWord_19 (fun v6_ b_v6_ => ?_)
  exact v_ireturn hX hE dX8_valueWord_20 (by omega) (by omega) ⟨rfl, rfl, v6_, rfl, ⟨by omega, by omega⟩, trivial⟩
set_option maxRecDepth 100000 in
set_option maxHeartbeats 4000000 in
theorem g_P_lowBits {kn : Nat → Nat} {B : Nat} {S : b_M} {z x w : Nat} {sm : Nat} (h : cS S x) (hs_sm : isS x sm) (g_oOk : oOk kn S x) (g_eI : eI S x w) : b_C kn B yX8_lowBits cX8_lowBits 2 (some .int) 3 68 0 0 [.ref (x + 5), .ref sm] S z (fun r S' z' => z = z' ∧ S = S' ∧ ∃ q : Int, r = some (.int (iI q)) ∧ (-2147483648 ≤ q ∧ q < 2147483648) ∧ (True)) (fun _ _ _ => False) := by
  refine b_enter (by decide) (Nat.le_of_ble_eq_true rfl) ?_
  intro X hX hE hnL hkn hB hI_
  subst hkn; subst hB
  clear hI_
  change b_V X S z 0 0 0 [(0, .ref (x + 5)), (1, .ref sm)] []
  refine v_aload_n hX dX8_lowBits_0 (i := 1) rfl rfl ?_
  obtain ⟨o1_, b_o1_, e_o1_⟩ := oOk.at g_oOk hs_sm
  refine v_get hX (ci := 8) (k := 0) (isS_k h hs_sm) bc_8 (by decide) (by decide) in_8 w_1_142 dX8_lowBits_1 (mvP (f := 800) (q := (b_kn X o1_)) rfl rfl e_o1_) ?_
  refine v_getsK hX (i := 10) (by decide) rfl w_5_59 dX8_lowBits_4 ?_
  refine v_acmp_ne hX (tgt := 15) dX8_lowBits_7 (by decide) (fun h2_ => ?_) (fun h2_ => ?_)
  ·
    refine v_aload_n hX dX8_lowBits_15 (i := 1) rfl rfl ?_
    obtain ⟨v3_, e_v3_, b_v3_⟩ := i_ex (m_I S 810 sm)
    refine v_get hX (ci := 8) (k := 10) (isS_k h hs_sm) bc_8 (by decide) (by decide) in_8 w_1_168 dX8_lowBits_16 (mvF (f := 810) (v := iI v3_) rfl rfl (by simp (disch := omega) only [y_I_s_I, x_I_s_I, z_I_s_J, z_I_s_A, z_I_s_B, z_I_s_P, e_v3_])) ?_
    refine u_if_ne hX (tgt := 32) dX8_lowBits_19 (by decide) ⟨by omega, by omega⟩ (fun h4_ => ?_) (fun h4_ => ?_)
    ·
      refine v_iconst hX (v := iI 0) dX8_lowBits_32 rfl ?_
      refine v_goto hX (tgt := 53) dX8_lowBits_33 (by decide) ?_
      exact v_ireturn hX hE dX8_lowBits_53 (by omega) (by omega) ⟨rfl, rfl, 0, rfl, ⟨by omega, by omega⟩, trivial⟩
    ·
      refine v_aload_n hX dX8_lowBits_22 (i := 1) rfl rfl ?_
      obtain ⟨o5_, b_o5_, e_o5_⟩ := oOk.at g_oOk hs_sm
      refine v_get hX (ci := 8) (k := 0) (isS_k h hs_sm) bc_8 (by decide) (by decide) in_8 w_1_142 dX8_lowBits_23 (mvP (f := 800) (q := (b_kn X o5_)) rfl rfl e_o5_) ?_
      refine w_getO hX (i := o5_) (k := 3) (by omega) (by decide) w_8_3 dX8_lowBits_26 ?_
      have b6_ := oI_b 3 (by decide) o5_ (by omega)
      refine u_if_ne hX (tgt := 36) dX8_lowBits_29 (by decide) ⟨by omega, by omega⟩ (fun h7_ => ?_) (fun h7_ => ?_)
      ·
        refine v_aload_n hX dX8_lowBits_36 (i := 0) rfl rfl ?_
        refine v_aload_n hX dX8_lowBits_37 (i := 1) rfl rfl ?_
        refine v_callV hX (n := 1) (g_P_shortValue (S := S) (x := x) (w := w) (sm := sm) h hs_sm g_oOk g_eI) (cs_k_5 h) bc_6 (by decide) w_5_71 w_5_73 (bw_p (q := (yX8_shortValue, 7)) (List.mem_of_getElem? (i := 32) rfl) rfl) w_1_3 w_5_74 (by decide +kernel) rfl ⟨by decide, by decide⟩ ⟨by omega, by omega⟩ (Nat.le_of_ble_eq_true rfl) rfl dX8_lowBits_38 (fun _ _ _ q => q) ?_
        rintro r8_ S8_ z8_ ⟨rfl, rfl, v9_, rfl, b_v9_, q8_⟩
        refine v_iconst hX (v := iI 1) dX8_lowBits_41 rfl ?_
        refine v_aload_n hX dX8_lowBits_42 (i := 1) rfl rfl ?_
        obtain ⟨o10_, b_o10_, e_o10_⟩ := oOk.at g_oOk hs_sm
        refine v_get hX (ci := 8) (k := 0) (isS_k h hs_sm) bc_8 (by decide) (by decide) in_8 w_1_142 dX8_lowBits_43 (mvP (f := 800) (q := (b_kn X o10_)) rfl rfl e_o10_) ?_
        refine w_getO hX (i := o10_) (k := 3) (by omega) (by decide) w_8_3 dX8_lowBits_46 ?_
        have b11_ := oI_b 3 (by decide) o10_ (by omega)
        refine u_ishl hX dX8_lowBits_49 (fun v12_ b_v12_ => ?_)
        refine v_iconst hX (v := iI 1) dX8_lowBits_50 rfl ?_
        refine u_isub hX dX8_lowBits_51 ?_
        obtain ⟨v13_, e_v13_, b_v13_⟩ := i_ex (iI (v12_ - 1))
        rw [e_v13_]
        refine u_iand hX dX8_lowBits_52 (fun v14_ b_v14_ => ?_)
        exact v_ireturn hX hE dX8_lowBits_53 (by omega) (by omega) ⟨rfl, rfl, v14_, rfl, ⟨by omega, by omega⟩, trivial⟩
      ·
        refine v_iconst hX (v := iI 0) dX8_lowBits_32 rfl ?_
        refine v_goto hX (tgt := 53) dX8_lowBits_33 (by decide) ?_
        exact v_ireturn hX hE dX8_lowBits_53 (by omega) (by omega) ⟨rfl, rfl, 0, rfl, ⟨by omega, by omega⟩, trivial⟩
  ·
    refine v_aload_n hX dX8_lowBits_10 (i := 1) rfl rfl ?_
    refine v_callS hX (n := 1) (g_P_distance (S := S) (x := x) (w := w) (sm := sm) h hs_sm) w_5_106 w_5_107 w_1_3 w_5_108 (by decide +kernel) rfl ⟨by decide, by decide⟩ ⟨by omega, by omega⟩ (Nat.le_of_ble_eq_true rfl) rfl dX8_lowBits_11 (fun _ _ _ q => q) ?_
    rintro r15_ S15_ z15_ ⟨rfl, rfl, v16_, rfl, b_v16_, q15_⟩
    exact v_ireturn hX hE dX8_lowBits_14 (by omega) (by omega) ⟨rfl, rfl, v16_, rfl, ⟨by omega, by omega⟩, trivial⟩
set_option maxRecDepth 100000 in
set_option maxHeartbeats 4000000 in
theorem g_P_encode {kn : Nat → Nat} {B : Nat} {S : b_M} {z x w : Nat} {bh : Int} {sm : Nat} (h : cS S x) (hs_sm : isS x sm) (b_bh : -2147483648 ≤ bh ∧ bh < 2147483648) (g_oOk : oOk kn S x) (g_eI : eI S x w) : b_C kn B yX8_encode cX8_encode 4 (some .int) 4 89 0 0 [.ref (x + 5), .ref sm, .int (iI bh)] S z (fun r S' z' => z = z' ∧ S = S' ∧ ∃ q : Int, r = some (.int (iI q)) ∧ (-2147483648 ≤ q ∧ q < 2147483648) ∧ (True)) (fun _ _ _ => False) := by
  refine b_enter (by decide) (Nat.le_of_ble_eq_true rfl) ?_
  intro X hX hE hnL hkn hB hI_
  subst hkn; subst hB
  clear hI_
  change b_V X S z 0 0 0 [(0, .ref (x + 5)), (1, .ref sm), (2, .int (iI bh))] []
  have L66 : ∀ (cd : Int), (-2147483648 ≤ cd ∧ cd < 2147483648) → b_V X S z 0 0 66 [(0, .ref (x + 5)), (1, .ref sm), (2, .int (iI bh))] [.int (iI cd)] := by
    intro cd p66_0
    refine v_istore_n hX (lv' := [(3, .int (iI cd)), (0, .ref (x + 5)), (1, .ref sm), (2, .int (iI bh))]) dX8_encode_66 (i := 3) rfl (by rw [hnL]; decide) rfl ?_
    refine v_iload_n hX dX8_encode_67 (i := 3) rfl rfl ?_
    refine v_bipush hX (v := iI 12) dX8_encode_68 (by decide) ?_
    refine u_ishl hX dX8_encode_70 (fun v1_ b_v1_ => ?_)
    refine v_aload_n hX dX8_encode_71 (i := 1) rfl rfl ?_
    obtain ⟨v2_, e_v2_, b_v2_⟩ := i_ex (m_I S 803 sm)
    refine v_get hX (ci := 8) (k := 3) (isS_k h hs_sm) bc_8 (by decide) (by decide) in_8 w_1_151 dX8_encode_72 (mvF (f := 803) (v := iI v2_) rfl rfl (by simp (disch := omega) only [y_I_s_I, x_I_s_I, z_I_s_J, z_I_s_A, z_I_s_B, z_I_s_P, e_v2_])) ?_
    refine v_bipush hX (v := iI 9) dX8_encode_75 (by decide) ?_
    refine u_ishl hX dX8_encode_77 (fun v3_ b_v3_ => ?_)
    refine u_ior hX dX8_encode_78 (fun v4_ b_v4_ => ?_)
    refine v_aload_n hX dX8_encode_79 (i := 1) rfl rfl ?_
    obtain ⟨v5_, e_v5_, b_v5_⟩ := i_ex (m_I S 804 sm)
    refine v_get hX (ci := 8) (k := 4) (isS_k h hs_sm) bc_8 (by decide) (by decide) in_8 w_1_154 dX8_encode_80 (mvF (f := 804) (v := iI v5_) rfl rfl (by simp (disch := omega) only [y_I_s_I, x_I_s_I, z_I_s_J, z_I_s_A, z_I_s_B, z_I_s_P, e_v2_, e_v5_])) ?_
    refine v_bipush hX (v := iI 6) dX8_encode_83 (by decide) ?_
    refine u_ishl hX dX8_encode_85 (fun v6_ b_v6_ => ?_)
    refine u_ior hX dX8_encode_86 (fun v7_ b_v7_ => ?_)
    refine v_aload_n hX dX8_encode_87 (i := 0) rfl rfl ?_
    refine v_aload_n hX dX8_encode_88 (i := 1) rfl rfl ?_
    refine v_callV hX (n := 1) (g_P_lowBits (S := S) (x := x) (w := w) (sm := sm) h hs_sm g_oOk g_eI) (cs_k_5 h) bc_6 (by decide) w_5_162 w_5_164 (bw_p (q := (yX8_lowBits, 7)) (List.mem_of_getElem? (i := 39) rfl) rfl) w_1_3 w_5_165 (by decide +kernel) rfl ⟨by decide, by decide⟩ ⟨by omega, by omega⟩ (Nat.le_of_ble_eq_true rfl) rfl dX8_encode_89 (fun _ _ _ q => q) ?_
    rintro r8_ S8_ z8_ ⟨rfl, rfl, v9_, rfl, b_v9_, q8_⟩
    refine u_ior hX dX8_encode_92 (fun v10_ b_v10_ => ?_)
    exact v_ireturn hX hE dX8_encode_93 (by omega) (by omega) ⟨rfl, rfl, v10_, rfl, ⟨by omega, by omega⟩, trivial⟩
  refine v_aload_n hX dX8_encode_0 (i := 1) rfl rfl ?_
  obtain ⟨o11_, b_o11_, e_o11_⟩ := oOk.at g_oOk hs_sm
  refine v_get hX (ci := 8) (k := 0) (isS_k h hs_sm) bc_8 (by decide) (by decide) in_8 w_1_142 dX8_encode_1 (mvP (f := 800) (q := (b_kn X o11_)) rfl rfl e_o11_) ?_
  refine v_getsK hX (i := 12) (by decide) rfl w_5_159 dX8_encode_4 ?_
  refine v_acmp_ne hX (tgt := 12) dX8_encode_7 (by decide) (fun h12_ => ?_) (fun h12_ => ?_)
  ·
    refine v_aload_n hX dX8_encode_12 (i := 1) rfl rfl ?_
    obtain ⟨o13_, b_o13_, e_o13_⟩ := oOk.at g_oOk hs_sm
    refine v_get hX (ci := 8) (k := 0) (isS_k h hs_sm) bc_8 (by decide) (by decide) in_8 w_1_142 dX8_encode_13 (mvP (f := 800) (q := (b_kn X o13_)) rfl rfl e_o13_) ?_
    refine v_getsK hX (i := 11) (by decide) rfl w_5_160 dX8_encode_16 ?_
    refine v_acmp_ne hX (tgt := 29) dX8_encode_19 (by decide) (fun h14_ => ?_) (fun h14_ => ?_)
    ·
      refine v_iload_n hX dX8_encode_29 (i := 2) rfl rfl ?_
      refine u_if_le hX (tgt := 40) dX8_encode_30 (by decide) ⟨by omega, by omega⟩ (fun h15_ => ?_) (fun h15_ => ?_)
      ·
        refine v_aload_n hX dX8_encode_40 (i := 1) rfl rfl ?_
        obtain ⟨v16_, e_v16_, b_v16_⟩ := i_ex (m_I S 810 sm)
        refine v_get hX (ci := 8) (k := 10) (isS_k h hs_sm) bc_8 (by decide) (by decide) in_8 w_1_168 dX8_encode_41 (mvF (f := 810) (v := iI v16_) rfl rfl (by simp (disch := omega) only [y_I_s_I, x_I_s_I, z_I_s_J, z_I_s_A, z_I_s_B, z_I_s_P, e_v16_])) ?_
        refine u_if_eq hX (tgt := 59) dX8_encode_44 (by decide) ⟨by omega, by omega⟩ (fun h17_ => ?_) (fun h17_ => ?_)
        ·
          refine v_aload_n hX dX8_encode_59 (i := 1) rfl rfl ?_
          obtain ⟨o18_, b_o18_, e_o18_⟩ := oOk.at g_oOk hs_sm
          refine v_get hX (ci := 8) (k := 0) (isS_k h hs_sm) bc_8 (by decide) (by decide) in_8 w_1_142 dX8_encode_60 (mvP (f := 800) (q := (b_kn X o18_)) rfl rfl e_o18_) ?_
          refine w_getO hX (i := o18_) (k := 2) (by omega) (by decide) w_8_4 dX8_encode_63 ?_
          have b19_ := oI_b 2 (by decide) o18_ (by omega)
          exact L66 (oI 2 o18_) (by omega)
        ·
          refine v_aload_n hX dX8_encode_47 (i := 1) rfl rfl ?_
          obtain ⟨o20_, b_o20_, e_o20_⟩ := oOk.at g_oOk hs_sm
          refine v_get hX (ci := 8) (k := 0) (isS_k h hs_sm) bc_8 (by decide) (by decide) in_8 w_1_142 dX8_encode_48 (mvP (f := 800) (q := (b_kn X o20_)) rfl rfl e_o20_) ?_
          refine w_getO hX (i := o20_) (k := 2) (by omega) (by decide) w_8_4 dX8_encode_51 ?_
          have b21_ := oI_b 2 (by decide) o20_ (by omega)
          refine v_iconst hX (v := iI 1) dX8_encode_54 rfl ?_
          refine u_iadd hX dX8_encode_55 ?_
          obtain ⟨v22_, e_v22_, b_v22_⟩ := i_ex (iI ((oI 2 o20_) + 1))
          rw [e_v22_]
          refine v_goto hX (tgt := 66) dX8_encode_56 (by decide) ?_
          exact L66 v22_ (by omega)
      ·
        refine v_aload_n hX dX8_encode_33 (i := 0) rfl rfl ?_
        refine v_aload_n hX dX8_encode_34 (i := 1) rfl rfl ?_
        refine v_iconst hX (v := iI 0) dX8_encode_35 rfl ?_
        refine v_callV hX (n := 2) (g_P_valueWord (S := S) (x := x) (w := w) (sm := sm) (vv := 0) h hs_sm ⟨by omega, by omega⟩ g_eI) (cs_k_5 h) bc_6 (by decide) w_5_146 w_5_148 (bw_p (q := (yX8_valueWord, 7)) (List.mem_of_getElem? (i := 37) rfl) rfl) w_1_3 w_5_149 (by decide +kernel) rfl ⟨by decide, by decide⟩ ⟨by omega, by omega⟩ (Nat.le_of_ble_eq_true rfl) rfl dX8_encode_36 (fun _ _ _ q => q) ?_
        rintro r23_ S23_ z23_ ⟨rfl, rfl, v24_, rfl, b_v24_, q23_⟩
        exact v_ireturn hX hE dX8_encode_39 (by omega) (by omega) ⟨rfl, rfl, v24_, rfl, ⟨by omega, by omega⟩, trivial⟩
    ·
      refine v_aload_n hX dX8_encode_22 (i := 0) rfl rfl ?_
      refine v_aload_n hX dX8_encode_23 (i := 1) rfl rfl ?_
      refine v_iload_n hX dX8_encode_24 (i := 2) rfl rfl ?_
      refine v_callV hX (n := 2) (g_P_valueWord (S := S) (x := x) (w := w) (sm := sm) (vv := bh) h hs_sm ⟨by omega, by omega⟩ g_eI) (cs_k_5 h) bc_6 (by decide) w_5_146 w_5_148 (bw_p (q := (yX8_valueWord, 7)) (List.mem_of_getElem? (i := 37) rfl) rfl) w_1_3 w_5_149 (by decide +kernel) rfl ⟨by decide, by decide⟩ ⟨by omega, by omega⟩ (Nat.le_of_ble_eq_true rfl) rfl dX8_encode_25 (fun _ _ _ q => q) ?_
      rintro r25_ S25_ z25_ ⟨rfl, rfl, v26_, rfl, b_v26_, q25_⟩
      exact v_ireturn hX hE dX8_encode_28 (by omega) (by omega) ⟨rfl, rfl, v26_, rfl, ⟨by omega, by omega⟩, trivial⟩
  ·
    refine v_iconst hX (v := iI 0) dX8_encode_10 rfl ?_
    exact v_ireturn hX hE dX8_encode_11 (by omega) (by omega) ⟨rfl, rfl, 0, rfl, ⟨by omega, by omega⟩, trivial⟩
set_option maxRecDepth 100000 in
set_option maxHeartbeats 4000000 in
theorem t_P_longOnes {kn : Nat → Nat} {B : Nat} {S : b_M} {z x w : Nat} {kp : Int} (h : cS S x) (e_kp : m_I S 604 (x + 5) = iI kp) (b_kp : -2147483648 ≤ kp ∧ kp < 2147483648) (p : 0 ≤ kp ∧ kp ≤ 400) : b_C kn B yX8_longOnes cX8_longOnes 3 (some .int) 0 0 0 0 [.ref (x + 5)] S z (fun r S' z' => z = z' ∧ S = S' ∧ ∃ q : Int, r = some (.int (iI q)) ∧ (-2147483648 ≤ q ∧ q < 2147483648) ∧ (True)) (fun _ _ _ => False) := by
  refine b_enter (by decide) (Nat.le_of_ble_eq_true rfl) ?_
  intro X hX hE hnL hkn hB hI_
  subst hkn; subst hB
  clear hI_
  change b_V X S z 0 0 0 [(0, .ref (x + 5))] []
  have L4 : ∀ (n4 : Nat) (k : Int) (fo : Int), (0 ≤ k ∧ k ≤ 400 ∧ 0 ≤ fo ∧ fo ≤ k) → (400 - k).toNat = n4 → b_V X S z 0 0 4 [(2, .int (iI k)), (1, .int (iI fo)), (0, .ref (x + 5))] [] := by
    intro n4
    induction n4 using Nat.strongRecOn with
    | _ n4 ih4 =>
    intro k fo p4_0 hm4
    refine v_iload_n hX dX8_longOnes_4 (i := 2) rfl rfl ?_
    refine v_aload_n hX dX8_longOnes_5 (i := 0) rfl rfl ?_
    refine v_get hX (ci := 6) (k := 4) (cs_k_5 h) bc_6 (by decide) (by decide) in_6 w_1_200 dX8_longOnes_6 (mvF (f := 604) (v := iI kp) rfl rfl (by simp (disch := omega) only [y_I_s_I, x_I_s_I, z_I_s_J, z_I_s_A, z_I_s_B, z_I_s_P, e_kp])) ?_
    refine u_icmp_ge hX (tgt := 38) dX8_longOnes_9 (by decide) ⟨by omega, by omega⟩ ⟨by omega, by omega⟩ (fun h1_ => ?_) (fun h1_ => ?_)
    ·
      refine v_iload_n hX dX8_longOnes_38 (i := 1) rfl rfl ?_
      exact v_ireturn hX hE dX8_longOnes_39 (by omega) (by omega) ⟨rfl, rfl, fo, rfl, ⟨by omega, by omega⟩, trivial⟩
    ·
      refine v_iload_n hX dX8_longOnes_12 (i := 1) rfl rfl ?_
      refine v_aload_n hX dX8_longOnes_13 (i := 0) rfl rfl ?_
      refine v_get hX (ci := 6) (k := 3) (cs_k_5 h) bc_6 (by decide) (by decide) in_6 w_1_198 dX8_longOnes_14 (mvP (f := 603) (q := (x + 16)) rfl rfl (cs_p_603 h)) ?_
      refine v_iload_n hX dX8_longOnes_17 (i := 2) rfl rfl ?_
      refine u_aaldS hX (t := k) h ⟨by omega, by omega⟩ dX8_longOnes_18 ?_
      obtain ⟨v2_, e_v2_, b_v2_⟩ := i_ex (m_I S 810 (x + 17 + k.toNat))
      refine v_get hX (ci := 8) (k := 10) (isS_k h ⟨_, by omega, rfl⟩) bc_8 (by decide) (by decide) in_8 w_1_168 dX8_longOnes_19 (mvF (f := 810) (v := iI v2_) rfl rfl (by simp (disch := omega) only [y_I_s_I, x_I_s_I, z_I_s_J, z_I_s_A, z_I_s_B, z_I_s_P, e_kp, e_v2_])) ?_
      refine u_if_eq hX (tgt := 29) dX8_longOnes_22 (by decide) ⟨by omega, by omega⟩ (fun h3_ => ?_) (fun h3_ => ?_)
      ·
        refine v_iconst hX (v := iI 0) dX8_longOnes_29 rfl ?_
        refine u_iadd hX dX8_longOnes_30 ?_
        refine v_istore_n hX (lv' := [(1, .int (iI (fo + 0))), (2, .int (iI k)), (0, .ref (x + 5))]) dX8_longOnes_31 (i := 1) rfl (by rw [hnL]; decide) rfl ?_
        refine v_iinc hX (v := iI (k + 1)) (lv' := [(2, .int (iI (k + 1))), (1, .int (iI (fo + 0))), (0, .ref (x + 5))]) dX8_longOnes_32 rfl (iI_add _ _) (by rw [hnL]; decide) rfl ?_
        refine v_goto hX (tgt := 4) dX8_longOnes_35 (by decide) ?_
        exact ih4 _ (by omega) (k + 1) (fo + 0) (by omega) rfl
      ·
        refine v_iconst hX (v := iI 1) dX8_longOnes_25 rfl ?_
        refine v_goto hX (tgt := 30) dX8_longOnes_26 (by decide) ?_
        refine u_iadd hX dX8_longOnes_30 ?_
        refine v_istore_n hX (lv' := [(1, .int (iI (fo + 1))), (2, .int (iI k)), (0, .ref (x + 5))]) dX8_longOnes_31 (i := 1) rfl (by rw [hnL]; decide) rfl ?_
        refine v_iinc hX (v := iI (k + 1)) (lv' := [(2, .int (iI (k + 1))), (1, .int (iI (fo + 1))), (0, .ref (x + 5))]) dX8_longOnes_32 rfl (iI_add _ _) (by rw [hnL]; decide) rfl ?_
        refine v_goto hX (tgt := 4) dX8_longOnes_35 (by decide) ?_
        exact ih4 _ (by omega) (k + 1) (fo + 1) (by omega) rfl
  refine v_iconst hX (v := iI 0) dX8_longOnes_0 rfl ?_
  refine v_istore_n hX (lv' := [(1, .int (iI 0)), (0, .ref (x + 5))]) dX8_longOnes_1 (i := 1) rfl (by rw [hnL]; decide) rfl ?_
  refine v_iconst hX (v := iI 0) dX8_longOnes_2 rfl ?_
  refine v_istore_n hX (lv' := [(2, .int (iI 0)), (1, .int (iI 0)), (0, .ref (x + 5))]) dX8_longOnes_3 (i := 2) rfl (by rw [hnL]; decide) rfl ?_
  exact L4 _ 0 0 (by omega) rfl
set_option maxRecDepth 100000 in
set_option maxHeartbeats 4000000 in
theorem g_P_longOnes {kn : Nat → Nat} {B : Nat} {S : b_M} {z x w : Nat} (h : cS S x) (g_gP : gP S x) : b_C kn B yX8_longOnes cX8_longOnes 3 (some .int) 0 0 0 0 [.ref (x + 5)] S z (fun r S' z' => z = z' ∧ S = S' ∧ ∃ q : Int, r = some (.int (iI q)) ∧ (-2147483648 ≤ q ∧ q < 2147483648) ∧ (True)) (fun _ _ _ => False) := by
  obtain ⟨kp, e_kp, b_kp⟩ := id g_gP
  exact t_P_longOnes (w := w) h e_kp ⟨by omega, by omega⟩ (by omega)
set_option maxRecDepth 100000 in
set_option maxHeartbeats 4000000 in
theorem t_P_wordAt {kn : Nat → Nat} {B : Nat} {S : b_M} {z x w : Nat} {wi : Int} {kp : Int} (h : cS S x) (e_kp : m_I S 604 (x + 5) = iI kp) (b_kp : -2147483648 ≤ kp ∧ kp < 2147483648) (b_wi : -2147483648 ≤ wi ∧ wi < 2147483648) (g_oOk : oOk kn S x) (g_eI : eI S x w) (p : 0 ≤ kp ∧ kp ≤ 400) : b_C kn B yX8_wordAt cX8_wordAt 4 (some .int) 5 112 0 0 [.ref (x + 5), .int (iI wi)] S z (fun r S' z' => z = z' ∧ S = S' ∧ ∃ q : Int, r = some (.int (iI q)) ∧ (-2147483648 ≤ q ∧ q < 2147483648) ∧ (True)) (fun _ _ _ => False) := by
  refine b_enter (by decide) (Nat.le_of_ble_eq_true rfl) ?_
  intro X hX hE hnL hkn hB hI_
  subst hkn; subst hB
  clear hI_
  change b_V X S z 0 0 0 [(0, .ref (x + 5)), (1, .int (iI wi))] []
  have L2 : ∀ (n2 : Nat) (k : Int), (0 ≤ k ∧ k ≤ 400) → (400 - k).toNat = n2 → b_V X S z 0 0 2 [(2, .int (iI k)), (0, .ref (x + 5)), (1, .int (iI wi))] [] := by
    intro n2
    induction n2 using Nat.strongRecOn with
    | _ n2 ih2 =>
    intro k p2_0 hm2
    refine v_iload_n hX dX8_wordAt_2 (i := 2) rfl rfl ?_
    refine v_aload_n hX dX8_wordAt_3 (i := 0) rfl rfl ?_
    refine v_get hX (ci := 6) (k := 4) (cs_k_5 h) bc_6 (by decide) (by decide) in_6 w_1_200 dX8_wordAt_4 (mvF (f := 604) (v := iI kp) rfl rfl (by simp (disch := omega) only [y_I_s_I, x_I_s_I, z_I_s_J, z_I_s_A, z_I_s_B, z_I_s_P, e_kp])) ?_
    refine u_icmp_ge hX (tgt := 58) dX8_wordAt_7 (by decide) ⟨by omega, by omega⟩ ⟨by omega, by omega⟩ (fun h1_ => ?_) (fun h1_ => ?_)
    ·
      refine v_iconst hX (v := iI 0) dX8_wordAt_58 rfl ?_
      exact v_ireturn hX hE dX8_wordAt_59 (by omega) (by omega) ⟨rfl, rfl, 0, rfl, ⟨by omega, by omega⟩, trivial⟩
    ·
      refine v_aload_n hX dX8_wordAt_10 (i := 0) rfl rfl ?_
      refine v_get hX (ci := 6) (k := 3) (cs_k_5 h) bc_6 (by decide) (by decide) in_6 w_1_198 dX8_wordAt_11 (mvP (f := 603) (q := (x + 16)) rfl rfl (cs_p_603 h)) ?_
      refine v_iload_n hX dX8_wordAt_14 (i := 2) rfl rfl ?_
      refine u_aaldS hX (t := k) h ⟨by omega, by omega⟩ dX8_wordAt_15 ?_
      refine v_astore_n hX (lv' := [(3, .ref (x + 17 + k.toNat)), (2, .int (iI k)), (0, .ref (x + 5)), (1, .int (iI wi))]) dX8_wordAt_16 (i := 3) rfl (by rw [hnL]; decide) rfl ?_
      refine v_aload_n hX dX8_wordAt_17 (i := 3) rfl rfl ?_
      obtain ⟨v2_, e_v2_, b_v2_⟩ := i_ex (m_I S 809 (x + 17 + k.toNat))
      refine v_get hX (ci := 8) (k := 9) (isS_k h ⟨_, by omega, rfl⟩) bc_8 (by decide) (by decide) in_8 w_1_166 dX8_wordAt_18 (mvF (f := 809) (v := iI v2_) rfl rfl (by simp (disch := omega) only [y_I_s_I, x_I_s_I, z_I_s_J, z_I_s_A, z_I_s_B, z_I_s_P, e_kp, e_v2_])) ?_
      refine v_iload_n hX dX8_wordAt_21 (i := 1) rfl rfl ?_
      refine u_icmp_ne hX (tgt := 32) dX8_wordAt_22 (by decide) ⟨by omega, by omega⟩ ⟨by omega, by omega⟩ (fun h3_ => ?_) (fun h3_ => ?_)
      ·
        refine v_aload_n hX dX8_wordAt_32 (i := 3) rfl rfl ?_
        refine v_iload_n hX dX8_wordAt_33 (i := 1) rfl rfl ?_
        refine v_callV hX (n := 1) (g_S_holds (S := S) (x := x) (w := w) (a := (x + 17 + k.toNat)) (i := wi) h ⟨by omega, by omega⟩ ⟨_, by omega, rfl⟩ g_oOk) (isS_k h ⟨_, by omega, rfl⟩) bc_8 (by decide) w_5_150 w_5_151 w_5_152 w_1_7 w_5_153 (by decide +kernel) rfl ⟨by decide, by decide⟩ ⟨by omega, by omega⟩ (Nat.le_of_ble_eq_true rfl) rfl dX8_wordAt_34 (fun _ _ _ q => q) ?_
        rintro r4_ S4_ z4_ ⟨rfl, rfl, v5_, rfl, b_v5_, q4_⟩
        refine u_if_eq hX (tgt := 52) dX8_wordAt_37 (by decide) ⟨by omega, by omega⟩ (fun h6_ => ?_) (fun h6_ => ?_)
        ·
          refine v_iinc hX (v := iI (k + 1)) (lv' := [(2, .int (iI (k + 1))), (3, .ref (x + 17 + k.toNat)), (0, .ref (x + 5)), (1, .int (iI wi))]) dX8_wordAt_52 rfl (iI_add _ _) (by rw [hnL]; decide) rfl ?_
          refine v_goto hX (tgt := 2) dX8_wordAt_55 (by decide) ?_
          refine v_locals (lv' := [(2, .int (iI (k + 1))), (0, .ref (x + 5)), (1, .int (iI wi))]) (by simp) ?_
          exact ih2 _ (by omega) (k + 1) (by omega) rfl
        ·
          refine v_aload_n hX dX8_wordAt_40 (i := 0) rfl rfl ?_
          refine v_aload_n hX dX8_wordAt_41 (i := 3) rfl rfl ?_
          refine v_iload_n hX dX8_wordAt_42 (i := 1) rfl rfl ?_
          refine v_aload_n hX dX8_wordAt_43 (i := 3) rfl rfl ?_
          obtain ⟨v7_, e_v7_, b_v7_⟩ := i_ex (m_I S 808 (x + 17 + k.toNat))
          refine v_get hX (ci := 8) (k := 8) (isS_k h ⟨_, by omega, rfl⟩) bc_8 (by decide) (by decide) in_8 w_1_164 dX8_wordAt_44 (mvF (f := 808) (v := iI v7_) rfl rfl (by simp (disch := omega) only [y_I_s_I, x_I_s_I, z_I_s_J, z_I_s_A, z_I_s_B, z_I_s_P, e_kp, e_v2_, e_v7_])) ?_
          refine u_isub hX dX8_wordAt_47 ?_
          obtain ⟨v8_, e_v8_, b_v8_⟩ := i_ex (iI (wi - v7_))
          rw [e_v8_]
          refine v_callV hX (n := 2) (g_P_encode (S := S) (x := x) (w := w) (sm := (x + 17 + k.toNat)) (bh := v8_) h ⟨_, by omega, rfl⟩ ⟨by omega, by omega⟩ g_oOk g_eI) (cs_k_5 h) bc_6 (by decide) w_5_155 w_5_157 (bw_p (q := (yX8_encode, 7)) (List.mem_of_getElem? (i := 38) rfl) rfl) w_1_3 w_5_158 (by decide +kernel) rfl ⟨by decide, by decide⟩ ⟨by omega, by omega⟩ (Nat.le_of_ble_eq_true rfl) rfl dX8_wordAt_48 (fun _ _ _ q => q) ?_
          rintro r9_ S9_ z9_ ⟨rfl, rfl, v10_, rfl, b_v10_, q9_⟩
          exact v_ireturn hX hE dX8_wordAt_51 (by omega) (by omega) ⟨rfl, rfl, v10_, rfl, ⟨by omega, by omega⟩, trivial⟩
      ·
        refine v_aload_n hX dX8_wordAt_25 (i := 0) rfl rfl ?_
        refine v_aload_n hX dX8_wordAt_26 (i := 3) rfl rfl ?_
        refine v_iconst hX (v := iI 0) dX8_wordAt_27 rfl ?_
        refine v_callV hX (n := 2) (g_P_valueWord (S := S) (x := x) (w := w) (sm := (x + 17 + k.toNat)) (vv := 0) h ⟨_, by omega, rfl⟩ ⟨by omega, by omega⟩ g_eI) (cs_k_5 h) bc_6 (by decide) w_5_146 w_5_148 (bw_p (q := (yX8_valueWord, 7)) (List.mem_of_getElem? (i := 37) rfl) rfl) w_1_3 w_5_149 (by decide +kernel) rfl ⟨by decide, by decide⟩ ⟨by omega, by omega⟩ (Nat.le_of_ble_eq_true rfl) rfl dX8_wordAt_28 (fun _ _ _ q => q) ?_
        rintro r11_ S11_ z11_ ⟨rfl, rfl, v12_, rfl, b_v12_, q11_⟩
        exact v_ireturn hX hE dX8_wordAt_31 (by omega) (by omega) ⟨rfl, rfl, v12_, rfl, ⟨by omega, by omega⟩, trivial⟩
  refine v_iconst hX (v := iI 0) dX8_wordAt_0 rfl ?_
  refine v_istore_n hX (lv' := [(2, .int (iI 0)), (0, .ref (x + 5)), (1, .int (iI wi))]) dX8_wordAt_1 (i := 2) rfl (by rw [hnL]; decide) rfl ?_
  exact L2 _ 0 (by omega) rfl
set_option maxRecDepth 100000 in
set_option maxHeartbeats 4000000 in
theorem g_P_wordAt {kn : Nat → Nat} {B : Nat} {S : b_M} {z x w : Nat} {wi : Int} (h : cS S x) (b_wi : -2147483648 ≤ wi ∧ wi < 2147483648) (g_oOk : oOk kn S x) (g_eI : eI S x w) (g_gP : gP S x) : b_C kn B yX8_wordAt cX8_wordAt 4 (some .int) 5 112 0 0 [.ref (x + 5), .int (iI wi)] S z (fun r S' z' => z = z' ∧ S = S' ∧ ∃ q : Int, r = some (.int (iI q)) ∧ (-2147483648 ≤ q ∧ q < 2147483648) ∧ (True)) (fun _ _ _ => False) := by
  obtain ⟨kp, e_kp, b_kp⟩ := id g_gP
  exact t_P_wordAt (w := w) h e_kp ⟨by omega, by omega⟩ b_wi g_oOk g_eI (by omega)
set_option maxRecDepth 100000 in
set_option maxHeartbeats 4000000 in
theorem t_P_grow {kn : Nat → Nat} {B : Nat} {S : b_M} {z x w : Nat} {kp : Int} (h : cS S x) (e_kp : m_I S 604 (x + 5) = iI kp) (b_kp : -2147483648 ≤ kp ∧ kp < 2147483648) (g_oOk : oOk kn S x) (g_eI : eI S x w) (p : 0 ≤ kp ∧ kp ≤ 400) : b_C kn B yX8_grow cX8_grow 4 (some .boolean) 4 91 0 0 [.ref (x + 5)] S z (fun r S' z' => z = z' ∧ cFr [810] [] [] w S S' x ∧ ∃ q : Int, r = some (.int (iI q)) ∧ (q = 0 ∨ q = 1) ∧ (True)) (fun _ _ _ => False) := by
  refine b_enter (by decide) (Nat.le_of_ble_eq_true rfl) ?_
  intro X hX hE hnL hkn hB hI_
  subst hkn; subst hB
  clear hI_
  change b_V X S z 0 0 0 [(0, .ref (x + 5))] []
  have L4 : ∀ (n4 : Nat) (S4c : b_M) (k : Int) (hg : Int), cFr [810] [] [] w S S4c x → (0 ≤ k ∧ k ≤ 400 ∧ (hg = 0 ∨ hg = 1)) → oOk (b_kn X) S4c x → eI S4c x w → (400 - k).toNat = n4 → b_V X S4c z 0 0 4 [(2, .int (iI k)), (1, .int (iI hg)), (0, .ref (x + 5))] [] := by
    intro n4
    induction n4 using Nat.strongRecOn with
    | _ n4 ih4 =>
    intro S4c k hg fr4 p4_0 g4_oOk g4_eI hm4
    have h4c : cS S4c x := fr4.keep (by decide) h
    have e4_kp : m_I S4c 604 (x + 5) = iI kp := (fr4.2.1 604 (by decide) _).trans e_kp
    refine v_iload_n hX dX8_grow_4 (i := 2) rfl rfl ?_
    refine v_aload_n hX dX8_grow_5 (i := 0) rfl rfl ?_
    refine v_get hX (ci := 6) (k := 4) (cs_k_5 h4c) bc_6 (by decide) (by decide) in_6 w_1_200 dX8_grow_6 (mvF (f := 604) (v := iI kp) rfl rfl (by simp (disch := omega) only [y_I_s_I, x_I_s_I, z_I_s_J, z_I_s_A, z_I_s_B, z_I_s_P, e4_kp])) ?_
    refine u_icmp_ge hX (tgt := 57) dX8_grow_9 (by decide) ⟨by omega, by omega⟩ ⟨by omega, by omega⟩ (fun h1_ => ?_) (fun h1_ => ?_)
    ·
      refine v_iload_n hX dX8_grow_57 (i := 1) rfl rfl ?_
      exact v_zreturn hX (nar_b (by omega)) hE dX8_grow_58 (by omega) (by omega) ⟨rfl, fr4, hg, rfl, (by omega), trivial⟩
    ·
      refine v_aload_n hX dX8_grow_12 (i := 0) rfl rfl ?_
      refine v_get hX (ci := 6) (k := 3) (cs_k_5 h4c) bc_6 (by decide) (by decide) in_6 w_1_198 dX8_grow_13 (mvP (f := 603) (q := (x + 16)) rfl rfl (cs_p_603 h4c)) ?_
      refine v_iload_n hX dX8_grow_16 (i := 2) rfl rfl ?_
      refine u_aaldS hX (t := k) h4c ⟨by omega, by omega⟩ dX8_grow_17 ?_
      refine v_astore_n hX (lv' := [(3, .ref (x + 17 + k.toNat)), (2, .int (iI k)), (1, .int (iI hg)), (0, .ref (x + 5))]) dX8_grow_18 (i := 3) rfl (by rw [hnL]; decide) rfl ?_
      refine v_aload_n hX dX8_grow_19 (i := 3) rfl rfl ?_
      obtain ⟨o2_, b_o2_, e_o2_⟩ := g4_oOk k.toNat (by omega)
      refine v_get hX (ci := 8) (k := 0) (isS_k h4c ⟨_, by omega, rfl⟩) bc_8 (by decide) (by decide) in_8 w_1_142 dX8_grow_20 (mvP (f := 800) (q := (b_kn X o2_)) rfl rfl e_o2_) ?_
      refine w_getO hX (i := o2_) (k := 3) (by omega) (by decide) w_8_3 dX8_grow_23 ?_
      have b3_ := oI_b 3 (by decide) o2_ (by omega)
      refine u_if_le hX (tgt := 51) dX8_grow_26 (by decide) ⟨by omega, by omega⟩ (fun h4_ => ?_) (fun h4_ => ?_)
      ·
        refine v_iinc hX (v := iI (k + 1)) (lv' := [(2, .int (iI (k + 1))), (3, .ref (x + 17 + k.toNat)), (1, .int (iI hg)), (0, .ref (x + 5))]) dX8_grow_51 rfl (iI_add _ _) (by rw [hnL]; decide) rfl ?_
        refine v_goto hX (tgt := 4) dX8_grow_54 (by decide) ?_
        refine v_locals (lv' := [(2, .int (iI (k + 1))), (1, .int (iI hg)), (0, .ref (x + 5))]) (by simp) ?_
        exact ih4 _ (by omega) _ (k + 1) hg fr4 (by omega) g4_oOk g4_eI rfl
      ·
        refine v_aload_n hX dX8_grow_29 (i := 3) rfl rfl ?_
        obtain ⟨v5_, e_v5_, b_v5_⟩ := i_ex (m_I S4c 810 (x + 17 + k.toNat))
        refine v_get hX (ci := 8) (k := 10) (isS_k h4c ⟨_, by omega, rfl⟩) bc_8 (by decide) (by decide) in_8 w_1_168 dX8_grow_30 (mvF (f := 810) (v := iI v5_) rfl rfl (by simp (disch := omega) only [y_I_s_I, x_I_s_I, z_I_s_J, z_I_s_A, z_I_s_B, z_I_s_P, e4_kp, e_v5_])) ?_
        refine u_if_ne hX (tgt := 51) dX8_grow_33 (by decide) ⟨by omega, by omega⟩ (fun h6_ => ?_) (fun h6_ => ?_)
        ·
          refine v_iinc hX (v := iI (k + 1)) (lv' := [(2, .int (iI (k + 1))), (3, .ref (x + 17 + k.toNat)), (1, .int (iI hg)), (0, .ref (x + 5))]) dX8_grow_51 rfl (iI_add _ _) (by rw [hnL]; decide) rfl ?_
          refine v_goto hX (tgt := 4) dX8_grow_54 (by decide) ?_
          refine v_locals (lv' := [(2, .int (iI (k + 1))), (1, .int (iI hg)), (0, .ref (x + 5))]) (by simp) ?_
          exact ih4 _ (by omega) _ (k + 1) hg fr4 (by omega) g4_oOk g4_eI rfl
        ·
          refine v_aload_n hX dX8_grow_36 (i := 0) rfl rfl ?_
          refine v_aload_n hX dX8_grow_37 (i := 3) rfl rfl ?_
          refine v_callV hX (n := 1) (g_P_fitsShort (S := S4c) (x := x) (w := w) (sm := (x + 17 + k.toNat)) h4c ⟨_, by omega, rfl⟩ g4_oOk g4_eI) (cs_k_5 h4c) bc_6 (by decide) w_5_67 w_5_69 (bw_p (q := (yX8_fitsShort, 7)) (List.mem_of_getElem? (i := 31) rfl) rfl) w_1_3 w_5_70 (by decide +kernel) rfl ⟨by decide, by decide⟩ ⟨by omega, by omega⟩ (Nat.le_of_ble_eq_true rfl) rfl dX8_grow_38 (fun _ _ _ q => q) ?_
          rintro r7_ S7_ z7_ ⟨rfl, rfl, v8_, rfl, b_v8_, q7_⟩
          refine u_if_ne hX (tgt := 51) dX8_grow_41 (by decide) ⟨by omega, by omega⟩ (fun h9_ => ?_) (fun h9_ => ?_)
          ·
            refine v_iinc hX (v := iI (k + 1)) (lv' := [(2, .int (iI (k + 1))), (3, .ref (x + 17 + k.toNat)), (1, .int (iI hg)), (0, .ref (x + 5))]) dX8_grow_51 rfl (iI_add _ _) (by rw [hnL]; decide) rfl ?_
            refine v_goto hX (tgt := 4) dX8_grow_54 (by decide) ?_
            refine v_locals (lv' := [(2, .int (iI (k + 1))), (1, .int (iI hg)), (0, .ref (x + 5))]) (by simp) ?_
            exact ih4 _ (by omega) _ (k + 1) hg fr4 (by omega) g4_oOk g4_eI rfl
          ·
            refine v_aload_n hX dX8_grow_44 (i := 3) rfl rfl ?_
            refine v_iconst hX (v := iI 1) dX8_grow_45 rfl ?_
            refine v_putI hX (ci := 8) (k := 10) (f := 810) (isS_k h4c ⟨_, by omega, rfl⟩) bc_8 (by decide) (by decide) in_8 tyX10_ok nmX10 w_1_168 (Or.inl rfl) (nar_b (by omega)) (fit_b (by omega)) dX8_grow_46 rfl rfl ?_
            refine v_iconst hX (v := iI 1) dX8_grow_49 rfl ?_
            refine v_istore_n hX (lv' := [(1, .int (iI 1)), (3, .ref (x + 17 + k.toNat)), (2, .int (iI k)), (0, .ref (x + 5))]) dX8_grow_50 (i := 1) rfl (by rw [hnL]; decide) rfl ?_
            refine v_iinc hX (v := iI (k + 1)) (lv' := [(2, .int (iI (k + 1))), (1, .int (iI 1)), (3, .ref (x + 17 + k.toNat)), (0, .ref (x + 5))]) dX8_grow_51 rfl (iI_add _ _) (by rw [hnL]; decide) rfl ?_
            refine v_goto hX (tgt := 4) dX8_grow_54 (by decide) ?_
            refine v_locals (lv' := [(2, .int (iI (k + 1))), (1, .int (iI 1)), (0, .ref (x + 5))]) (by simp) ?_
            exact ih4 _ (by omega) _ (k + 1) 1 (fr4.sI (by decide) ⟨by omega, by omega⟩) (by omega) (oOk.fr g4_oOk h4c (show cFr [810] [] [] w S4c (s_I S4c 810 (x + 17 + k.toNat) (iI 1)) x from ((cFr.rf _ _).sI (by decide) ⟨by omega, by omega⟩)) (by decide)) (eI.fr g4_eI h4c (show cFr [810] [] [] w S4c (s_I S4c 810 (x + 17 + k.toNat) (iI 1)) x from ((cFr.rf _ _).sI (by decide) ⟨by omega, by omega⟩)) (by decide)) rfl
  refine v_iconst hX (v := iI 0) dX8_grow_0 rfl ?_
  refine v_istore_n hX (lv' := [(1, .int (iI 0)), (0, .ref (x + 5))]) dX8_grow_1 (i := 1) rfl (by rw [hnL]; decide) rfl ?_
  refine v_iconst hX (v := iI 0) dX8_grow_2 rfl ?_
  refine v_istore_n hX (lv' := [(2, .int (iI 0)), (1, .int (iI 0)), (0, .ref (x + 5))]) dX8_grow_3 (i := 2) rfl (by rw [hnL]; decide) rfl ?_
  exact L4 _ _ 0 0 (cFr.rf _ _) (by omega) g_oOk g_eI rfl
set_option maxRecDepth 100000 in
set_option maxHeartbeats 4000000 in
theorem g_P_grow {kn : Nat → Nat} {B : Nat} {S : b_M} {z x w : Nat} (h : cS S x) (g_oOk : oOk kn S x) (g_eI : eI S x w) (g_gP : gP S x) : b_C kn B yX8_grow cX8_grow 4 (some .boolean) 4 91 0 0 [.ref (x + 5)] S z (fun r S' z' => z = z' ∧ cFr [810] [] [] w S S' x ∧ ∃ q : Int, r = some (.int (iI q)) ∧ (q = 0 ∨ q = 1) ∧ (True)) (fun _ _ _ => False) := by
  obtain ⟨kp, e_kp, b_kp⟩ := id g_gP
  exact t_P_grow (w := w) h e_kp ⟨by omega, by omega⟩ g_oOk g_eI (by omega)
set_option maxRecDepth 100000 in
set_option maxHeartbeats 4000000 in
theorem t_P_placeLiterals {kn : Nat → Nat} {B : Nat} {S : b_M} {z x w : Nat} {kp : Int} (h : cS S x) (e_kp : m_I S 604 (x + 5) = iI kp) (b_kp : -2147483648 ≤ kp ∧ kp < 2147483648) (g_oOk : oOk kn S x) (p : 0 ≤ kp ∧ kp ≤ 400) : b_C kn B yX8_placeLiterals cX8_placeLiterals 4 none 0 0 0 0 [.ref (x + 5)] S z (fun r S' z' => z = z' ∧ cFr [809] [] [] w S S' x ∧ r = none ∧ (True)) (fun _ _ _ => False) := by
  refine b_enter (by decide) (Nat.le_of_ble_eq_true rfl) ?_
  intro X hX hE hnL hkn hB hI_
  subst hkn; subst hB
  clear hI_
  change b_V X S z 0 0 0 [(0, .ref (x + 5))] []
  have L12 : ∀ (n12 : Nat) (S12c : b_M) (k : Int) (pl : Int), cFr [809] [] [] w S S12c x → (-1 ≤ k ∧ k < 400 ∧ (-2147483648 ≤ pl ∧ pl < 2147483648)) → oOk (b_kn X) S12c x → (k + 1).toNat = n12 → b_V X S12c z 0 0 12 [(2, .int (iI k)), (1, .int (iI pl)), (0, .ref (x + 5))] [] := by
    intro n12
    induction n12 using Nat.strongRecOn with
    | _ n12 ih12 =>
    intro S12c k pl fr12 p12_0 g12_oOk hm12
    have h12c : cS S12c x := fr12.keep (by decide) h
    have e12_kp : m_I S12c 604 (x + 5) = iI kp := (fr12.2.1 604 (by decide) _).trans e_kp
    refine v_iload_n hX dX8_placeLiterals_12 (i := 2) rfl rfl ?_
    refine u_if_lt hX (tgt := 70) dX8_placeLiterals_13 (by decide) ⟨by omega, by omega⟩ (fun h1_ => ?_) (fun h1_ => ?_)
    ·
      exact v_return hX hE dX8_placeLiterals_70 (by omega) (by omega) ⟨rfl, fr12, rfl, trivial⟩
    ·
      refine v_aload_n hX dX8_placeLiterals_16 (i := 0) rfl rfl ?_
      refine v_get hX (ci := 6) (k := 3) (cs_k_5 h12c) bc_6 (by decide) (by decide) in_6 w_1_198 dX8_placeLiterals_17 (mvP (f := 603) (q := (x + 16)) rfl rfl (cs_p_603 h12c)) ?_
      refine v_iload_n hX dX8_placeLiterals_20 (i := 2) rfl rfl ?_
      refine u_aaldS hX (t := k) h12c ⟨by omega, by omega⟩ dX8_placeLiterals_21 ?_
      refine v_astore_n hX (lv' := [(3, .ref (x + 17 + k.toNat)), (2, .int (iI k)), (1, .int (iI pl)), (0, .ref (x + 5))]) dX8_placeLiterals_22 (i := 3) rfl (by rw [hnL]; decide) rfl ?_
      refine v_aload_n hX dX8_placeLiterals_23 (i := 3) rfl rfl ?_
      obtain ⟨o2_, b_o2_, e_o2_⟩ := g12_oOk k.toNat (by omega)
      refine v_get hX (ci := 8) (k := 0) (isS_k h12c ⟨_, by omega, rfl⟩) bc_8 (by decide) (by decide) in_8 w_1_142 dX8_placeLiterals_24 (mvP (f := 800) (q := (b_kn X o2_)) rfl rfl e_o2_) ?_
      refine v_getsK hX (i := 13) (by decide) rfl w_5_61 dX8_placeLiterals_27 ?_
      refine v_acmp_ne hX (tgt := 46) dX8_placeLiterals_30 (by decide) (fun h3_ => ?_) (fun h3_ => ?_)
      ·
        refine v_aload_n hX dX8_placeLiterals_46 (i := 3) rfl rfl ?_
        obtain ⟨o4_, b_o4_, e_o4_⟩ := g12_oOk k.toNat (by omega)
        refine v_get hX (ci := 8) (k := 0) (isS_k h12c ⟨_, by omega, rfl⟩) bc_8 (by decide) (by decide) in_8 w_1_142 dX8_placeLiterals_47 (mvP (f := 800) (q := (b_kn X o4_)) rfl rfl e_o4_) ?_
        refine v_getsK hX (i := 10) (by decide) rfl w_5_59 dX8_placeLiterals_50 ?_
        refine v_acmp_ne hX (tgt := 64) dX8_placeLiterals_53 (by decide) (fun h5_ => ?_) (fun h5_ => ?_)
        ·
          refine v_iinc hX (v := iI (k + (-1))) (lv' := [(2, .int (iI (k + (-1)))), (3, .ref (x + 17 + k.toNat)), (1, .int (iI pl)), (0, .ref (x + 5))]) dX8_placeLiterals_64 rfl (iI_add _ _) (by rw [hnL]; decide) rfl ?_
          refine v_goto hX (tgt := 12) dX8_placeLiterals_67 (by decide) ?_
          refine v_locals (lv' := [(2, .int (iI (k + (-1)))), (1, .int (iI pl)), (0, .ref (x + 5))]) (by simp) ?_
          exact ih12 _ (by omega) _ (k + (-1)) pl fr12 (by omega) g12_oOk rfl
        ·
          refine v_iinc hX (v := iI (pl + (-1))) (lv' := [(1, .int (iI (pl + (-1)))), (3, .ref (x + 17 + k.toNat)), (2, .int (iI k)), (0, .ref (x + 5))]) dX8_placeLiterals_56 rfl (iI_add _ _) (by rw [hnL]; decide) rfl ?_
          obtain ⟨v6_, e_v6_, b_v6_⟩ := i_ex (iI (pl + (-1)))
          rw [e_v6_]
          refine v_aload_n hX dX8_placeLiterals_59 (i := 3) rfl rfl ?_
          refine v_iload_n hX dX8_placeLiterals_60 (i := 1) rfl rfl ?_
          refine v_putI hX (ci := 8) (k := 9) (f := 809) (isS_k h12c ⟨_, by omega, rfl⟩) bc_8 (by decide) (by decide) in_8 tyX10_ok nmX10 w_1_166 (Or.inl rfl) rfl rfl dX8_placeLiterals_61 rfl rfl ?_
          refine v_iinc hX (v := iI (k + (-1))) (lv' := [(2, .int (iI (k + (-1)))), (1, .int (iI v6_)), (3, .ref (x + 17 + k.toNat)), (0, .ref (x + 5))]) dX8_placeLiterals_64 rfl (iI_add _ _) (by rw [hnL]; decide) rfl ?_
          refine v_goto hX (tgt := 12) dX8_placeLiterals_67 (by decide) ?_
          refine v_locals (lv' := [(2, .int (iI (k + (-1)))), (1, .int (iI v6_)), (0, .ref (x + 5))]) (by simp) ?_
          exact ih12 _ (by omega) _ (k + (-1)) v6_ (fr12.sI (by decide) ⟨by omega, by omega⟩) (by omega) (oOk.fr g12_oOk h12c (show cFr [809] [] [] w S12c (s_I S12c 809 (x + 17 + k.toNat) (iI v6_)) x from ((cFr.rf _ _).sI (by decide) ⟨by omega, by omega⟩)) (by decide)) rfl
      ·
        refine v_aload_n hX dX8_placeLiterals_33 (i := 3) rfl rfl ?_
        obtain ⟨v7_, e_v7_, b_v7_⟩ := i_ex (m_I S12c 808 (x + 17 + k.toNat))
        refine v_get hX (ci := 8) (k := 8) (isS_k h12c ⟨_, by omega, rfl⟩) bc_8 (by decide) (by decide) in_8 w_1_164 dX8_placeLiterals_34 (mvF (f := 808) (v := iI v7_) rfl rfl (by simp (disch := omega) only [y_I_s_I, x_I_s_I, z_I_s_J, z_I_s_A, z_I_s_B, z_I_s_P, e12_kp, e_v7_])) ?_
        refine v_aload_n hX dX8_placeLiterals_37 (i := 3) rfl rfl ?_
        obtain ⟨v8_, e_v8_, b_v8_⟩ := i_ex (m_I S12c 807 (x + 17 + k.toNat))
        refine v_get hX (ci := 8) (k := 7) (isS_k h12c ⟨_, by omega, rfl⟩) bc_8 (by decide) (by decide) in_8 w_1_161 dX8_placeLiterals_38 (mvF (f := 807) (v := iI v8_) rfl rfl (by simp (disch := omega) only [y_I_s_I, x_I_s_I, z_I_s_J, z_I_s_A, z_I_s_B, z_I_s_P, e12_kp, e_v7_, e_v8_])) ?_
        refine u_iadd hX dX8_placeLiterals_41 ?_
        obtain ⟨v9_, e_v9_, b_v9_⟩ := i_ex (iI (v7_ + v8_))
        rw [e_v9_]
        refine v_istore_n hX (lv' := [(1, .int (iI v9_)), (3, .ref (x + 17 + k.toNat)), (2, .int (iI k)), (0, .ref (x + 5))]) dX8_placeLiterals_42 (i := 1) rfl (by rw [hnL]; decide) rfl ?_
        refine v_goto hX (tgt := 64) dX8_placeLiterals_43 (by decide) ?_
        refine v_iinc hX (v := iI (k + (-1))) (lv' := [(2, .int (iI (k + (-1)))), (1, .int (iI v9_)), (3, .ref (x + 17 + k.toNat)), (0, .ref (x + 5))]) dX8_placeLiterals_64 rfl (iI_add _ _) (by rw [hnL]; decide) rfl ?_
        refine v_goto hX (tgt := 12) dX8_placeLiterals_67 (by decide) ?_
        refine v_locals (lv' := [(2, .int (iI (k + (-1)))), (1, .int (iI v9_)), (0, .ref (x + 5))]) (by simp) ?_
        exact ih12 _ (by omega) _ (k + (-1)) v9_ fr12 (by omega) g12_oOk rfl
  refine v_aload_n hX dX8_placeLiterals_0 (i := 0) rfl rfl ?_
  obtain ⟨v10_, e_v10_, b_v10_⟩ := i_ex (m_I S 605 (x + 5))
  refine v_get hX (ci := 6) (k := 5) (cs_k_5 h) bc_6 (by decide) (by decide) in_6 w_1_202 dX8_placeLiterals_1 (mvF (f := 605) (v := iI v10_) rfl rfl (by simp (disch := omega) only [y_I_s_I, x_I_s_I, z_I_s_J, z_I_s_A, z_I_s_B, z_I_s_P, e_kp, e_v10_])) ?_
  refine v_istore_n hX (lv' := [(1, .int (iI v10_)), (0, .ref (x + 5))]) dX8_placeLiterals_4 (i := 1) rfl (by rw [hnL]; decide) rfl ?_
  refine v_aload_n hX dX8_placeLiterals_5 (i := 0) rfl rfl ?_
  refine v_get hX (ci := 6) (k := 4) (cs_k_5 h) bc_6 (by decide) (by decide) in_6 w_1_200 dX8_placeLiterals_6 (mvF (f := 604) (v := iI kp) rfl rfl (by simp (disch := omega) only [y_I_s_I, x_I_s_I, z_I_s_J, z_I_s_A, z_I_s_B, z_I_s_P, e_kp, e_v10_])) ?_
  refine v_iconst hX (v := iI 1) dX8_placeLiterals_9 rfl ?_
  refine u_isub hX dX8_placeLiterals_10 ?_
  refine v_istore_n hX (lv' := [(2, .int (iI (kp - 1))), (1, .int (iI v10_)), (0, .ref (x + 5))]) dX8_placeLiterals_11 (i := 2) rfl (by rw [hnL]; decide) rfl ?_
  exact L12 _ _ (kp - 1) v10_ (cFr.rf _ _) (by omega) g_oOk rfl
set_option maxRecDepth 100000 in
set_option maxHeartbeats 4000000 in
theorem g_P_placeLiterals {kn : Nat → Nat} {B : Nat} {S : b_M} {z x w : Nat} (h : cS S x) (g_oOk : oOk kn S x) (g_gP : gP S x) : b_C kn B yX8_placeLiterals cX8_placeLiterals 4 none 0 0 0 0 [.ref (x + 5)] S z (fun r S' z' => z = z' ∧ cFr [809] [] [] w S S' x ∧ r = none ∧ (True)) (fun _ _ _ => False) := by
  obtain ⟨kp, e_kp, b_kp⟩ := id g_gP
  exact t_P_placeLiterals (w := w) h e_kp ⟨by omega, by omega⟩ g_oOk (by omega)
set_option maxRecDepth 100000 in
set_option maxHeartbeats 4000000 in
theorem t_P_layOut {kn : Nat → Nat} {B : Nat} {S : b_M} {z x w : Nat} {kp : Int} (h : cS S x) (e_kp : m_I S 604 (x + 5) = iI kp) (b_kp : -2147483648 ≤ kp ∧ kp < 2147483648) (g_oOk : oOk kn S x) (g_gN : gN S x) (p : 0 ≤ kp ∧ kp ≤ 400) : b_C kn B yX8_layOut cX8_layOut 5 none 2 41 0 0 [.ref (x + 5)] S z (fun r S' z' => z = z' ∧ cFr [808, 807, 605] [] [10] w S S' x ∧ r = none ∧ (True)) (fun _ _ _ => False) := by
  refine b_enter (by decide) (Nat.le_of_ble_eq_true rfl) ?_
  intro X hX hE hnL hkn hB hI_
  subst hkn; subst hB
  clear hI_
  change b_V X S z 0 0 0 [(0, .ref (x + 5))] []
  have L6 : ∀ (n6 : Nat) (S6c : b_M) (k : Int) (li : Int) (pl : Int), cFr [808, 807, 605] [] [10] w S S6c x → (0 ≤ k ∧ k ≤ 400 ∧ 0 ≤ li ∧ li ≤ k ∧ (-2147483648 ≤ pl ∧ pl < 2147483648)) → oOk (b_kn X) S6c x → gN S6c x → (400 - k).toNat = n6 → b_V X S6c z 0 0 6 [(3, .int (iI k)), (2, .int (iI li)), (1, .int (iI pl)), (0, .ref (x + 5))] [] := by
    intro n6
    induction n6 using Nat.strongRecOn with
    | _ n6 ih6 =>
    intro S6c k li pl fr6 p6_0 g6_oOk g6_gN hm6
    have h6c : cS S6c x := fr6.keep (by decide) h
    have e6_kp : m_I S6c 604 (x + 5) = iI kp := (fr6.2.1 604 (by decide) _).trans e_kp
    refine v_iload_n hX dX8_layOut_6 (i := 3) rfl rfl ?_
    refine v_aload_n hX dX8_layOut_7 (i := 0) rfl rfl ?_
    refine v_get hX (ci := 6) (k := 4) (cs_k_5 h6c) bc_6 (by decide) (by decide) in_6 w_1_200 dX8_layOut_8 (mvF (f := 604) (v := iI kp) rfl rfl (by simp (disch := omega) only [y_I_s_I, x_I_s_I, z_I_s_J, z_I_s_A, z_I_s_B, z_I_s_P, e6_kp])) ?_
    refine u_icmp_ge hX (tgt := 96) dX8_layOut_11 (by decide) ⟨by omega, by omega⟩ ⟨by omega, by omega⟩ (fun h1_ => ?_) (fun h1_ => ?_)
    ·
      refine v_aload_n hX dX8_layOut_96 (i := 0) rfl rfl ?_
      refine v_iload_n hX dX8_layOut_97 (i := 1) rfl rfl ?_
      refine v_iload_n hX dX8_layOut_98 (i := 2) rfl rfl ?_
      refine u_iadd hX dX8_layOut_99 ?_
      obtain ⟨v2_, e_v2_, b_v2_⟩ := i_ex (iI (pl + li))
      rw [e_v2_]
      refine v_putI hX (ci := 6) (k := 5) (f := 605) (cs_k_5 h6c) bc_6 (by decide) (by decide) in_6 tyX8_ok nmX8 w_1_202 (Or.inl rfl) rfl rfl dX8_layOut_100 rfl rfl ?_
      exact v_return hX hE dX8_layOut_103 (by omega) (by omega) ⟨rfl, (fr6.sI (by decide) ⟨by omega, by omega⟩), rfl, trivial⟩
    ·
      refine v_aload_n hX dX8_layOut_14 (i := 0) rfl rfl ?_
      refine v_get hX (ci := 6) (k := 3) (cs_k_5 h6c) bc_6 (by decide) (by decide) in_6 w_1_198 dX8_layOut_15 (mvP (f := 603) (q := (x + 16)) rfl rfl (cs_p_603 h6c)) ?_
      refine v_iload_n hX dX8_layOut_18 (i := 3) rfl rfl ?_
      refine u_aaldS hX (t := k) h6c ⟨by omega, by omega⟩ dX8_layOut_19 ?_
      refine v_astore hX (lv' := [(4, .ref (x + 17 + k.toNat)), (3, .int (iI k)), (2, .int (iI li)), (1, .int (iI pl)), (0, .ref (x + 5))]) dX8_layOut_20 (by rw [hnL]; decide) rfl ?_
      refine v_aload hX dX8_layOut_22 rfl ?_
      refine v_iload_n hX dX8_layOut_24 (i := 1) rfl rfl ?_
      refine v_putI hX (ci := 8) (k := 8) (f := 808) (isS_k h6c ⟨_, by omega, rfl⟩) bc_8 (by decide) (by decide) in_8 tyX10_ok nmX10 w_1_164 (Or.inl rfl) rfl rfl dX8_layOut_25 rfl rfl ?_
      refine v_aload hX dX8_layOut_28 rfl ?_
      refine v_aload hX dX8_layOut_30 rfl ?_
      refine v_iload_n hX dX8_layOut_32 (i := 2) rfl rfl ?_
      refine v_callS hX (n := 2) (g_P_sizeOf (S := (s_I S6c 808 (x + 17 + k.toNat) (iI pl))) (x := x) (w := w) (sm := (x + 17 + k.toNat)) (li := li) (cS.sI h6c) ⟨_, by omega, rfl⟩ ⟨by omega, by omega⟩ (oOk.fr g6_oOk h6c (show cFr [808] [] [] w S6c (s_I S6c 808 (x + 17 + k.toNat) (iI pl)) x from ((cFr.rf _ _).sI (by decide) ⟨by omega, by omega⟩)) (by decide))) w_5_50 w_5_51 w_1_3 w_5_52 (by decide +kernel) rfl ⟨by decide, by decide⟩ ⟨by omega, by omega⟩ (Nat.le_of_ble_eq_true rfl) rfl dX8_layOut_33 (fun _ _ _ q => q) ?_
      rintro r3_ S3_ z3_ ⟨rfl, rfl, v4_, rfl, b_v4_, q3_⟩
      refine v_putI hX (ci := 8) (k := 7) (f := 807) (isS_k (cS.sI h6c) ⟨_, by omega, rfl⟩) bc_8 (by decide) (by decide) in_8 tyX10_ok nmX10 w_1_161 (Or.inl rfl) rfl rfl dX8_layOut_36 rfl rfl ?_
      refine v_aload_n hX dX8_layOut_39 (i := 0) rfl rfl ?_
      refine v_get hX (ci := 6) (k := 1) (cs_k_5 (cS.sI (cS.sI h6c))) bc_6 (by decide) (by decide) in_6 w_1_193 dX8_layOut_40 (mvP (f := 601) (q := (x + 6)) rfl rfl (cs_p_601 (cS.sI (cS.sI h6c)))) ?_
      refine v_aload hX dX8_layOut_43 rfl ?_
      obtain ⟨v5_, e_v5_, b_v5_⟩ := i_ex (m_I S6c 802 (x + 17 + k.toNat))
      refine v_get hX (ci := 8) (k := 2) (isS_k (cS.sI (cS.sI h6c)) ⟨_, by omega, rfl⟩) bc_8 (by decide) (by decide) in_8 w_1_147 dX8_layOut_45 (mvF (f := 802) (v := iI v5_) rfl rfl (by simp (disch := omega) only [y_I_s_I, x_I_s_I, z_I_s_J, z_I_s_A, z_I_s_B, z_I_s_P, e6_kp, e_v5_])) ?_
      refine v_iload_n hX dX8_layOut_48 (i := 1) rfl rfl ?_
      refine v_callV hX (n := 2) (g_N_place (S := (s_I (s_I S6c 808 (x + 17 + k.toNat) (iI pl)) 807 (x + 17 + k.toNat) (iI v4_))) (x := x) (w := w) (lb := v5_) (v := pl) (cS.sI (cS.sI h6c)) ⟨by omega, by omega⟩ ⟨by omega, by omega⟩ (gN.fr g6_gN h6c (show cFr [807, 808] [] [] w S6c (s_I (s_I S6c 808 (x + 17 + k.toNat) (iI pl)) 807 (x + 17 + k.toNat) (iI v4_)) x from (((cFr.rf _ _).sI (by decide) ⟨by omega, by omega⟩).sI (by decide) ⟨by omega, by omega⟩)) (by decide))) (cs_k_6 (cS.sI (cS.sI h6c))) bc_5 (by decide) w_5_55 w_5_56 w_5_57 w_1_4 w_5_58 (by decide +kernel) rfl ⟨by decide, by decide⟩ ⟨by omega, by omega⟩ (Nat.le_of_ble_eq_true rfl) rfl dX8_layOut_49 (fun _ _ _ q => q) ?_
      rintro r6_ S6_ z6_ ⟨rfl, f6_, rfl, q6_⟩
      have y7_ : m_I S6_ 604 (x + 5) = iI kp := (f6_.2.1 604 (by decide) _).trans (by simp (disch := omega) only [y_I_s_I, x_I_s_I, z_I_s_J, z_I_s_A, z_I_s_B, z_I_s_P, e6_kp, e_v5_])
      have y8_ : m_I S6_ 808 (x + 17 + k.toNat) = iI pl := (f6_.2.1 808 (by decide) _).trans (by simp (disch := omega) only [y_I_s_I, x_I_s_I, z_I_s_J, z_I_s_A, z_I_s_B, z_I_s_P, e6_kp, e_v5_])
      have y9_ : m_I S6_ 807 (x + 17 + k.toNat) = iI v4_ := (f6_.2.1 807 (by decide) _).trans (by simp (disch := omega) only [y_I_s_I, x_I_s_I, z_I_s_J, z_I_s_A, z_I_s_B, z_I_s_P, e6_kp, e_v5_])
      have y10_ : m_I S6_ 802 (x + 17 + k.toNat) = iI v5_ := (f6_.2.1 802 (by decide) _).trans (by simp (disch := omega) only [y_I_s_I, x_I_s_I, z_I_s_J, z_I_s_A, z_I_s_B, z_I_s_P, e6_kp, e_v5_])
      have h6_ : cS S6_ x := f6_.keep (by decide) (cS.sI (cS.sI h6c))
      have g6_oOk : oOk (b_kn X) S6_ x := oOk.fr (oOk.fr g6_oOk h6c (show cFr [807, 808] [] [] w S6c (s_I (s_I S6c 808 (x + 17 + k.toNat) (iI pl)) 807 (x + 17 + k.toNat) (iI v4_)) x from (((cFr.rf _ _).sI (by decide) ⟨by omega, by omega⟩).sI (by decide) ⟨by omega, by omega⟩)) (by decide)) (cS.sI (cS.sI h6c)) f6_ (by decide)
      have g6_gN : gN S6_ x := gN.fr (gN.fr g6_gN h6c (show cFr [807, 808] [] [] w S6c (s_I (s_I S6c 808 (x + 17 + k.toNat) (iI pl)) 807 (x + 17 + k.toNat) (iI v4_)) x from (((cFr.rf _ _).sI (by decide) ⟨by omega, by omega⟩).sI (by decide) ⟨by omega, by omega⟩)) (by decide)) (cS.sI (cS.sI h6c)) f6_ (by decide)
      refine v_iload_n hX dX8_layOut_52 (i := 1) rfl rfl ?_
      refine v_aload hX dX8_layOut_53 rfl ?_
      refine v_get hX (ci := 8) (k := 7) (isS_k h6_ ⟨_, by omega, rfl⟩) bc_8 (by decide) (by decide) in_8 w_1_161 dX8_layOut_55 (mvF (f := 807) (v := iI v4_) rfl rfl (by simp (disch := omega) only [y_I_s_I, x_I_s_I, z_I_s_J, z_I_s_A, z_I_s_B, z_I_s_P, y7_, y8_, y9_, y10_])) ?_
      refine u_iadd hX dX8_layOut_58 ?_
      obtain ⟨v11_, e_v11_, b_v11_⟩ := i_ex (iI (pl + v4_))
      rw [e_v11_]
      refine v_istore_n hX (lv' := [(1, .int (iI v11_)), (4, .ref (x + 17 + k.toNat)), (3, .int (iI k)), (2, .int (iI li)), (0, .ref (x + 5))]) dX8_layOut_59 (i := 1) rfl (by rw [hnL]; decide) rfl ?_
      refine v_aload hX dX8_layOut_60 rfl ?_
      obtain ⟨o12_, b_o12_, e_o12_⟩ := g6_oOk k.toNat (by omega)
      refine v_get hX (ci := 8) (k := 0) (isS_k h6_ ⟨_, by omega, rfl⟩) bc_8 (by decide) (by decide) in_8 w_1_142 dX8_layOut_62 (mvP (f := 800) (q := (b_kn X o12_)) rfl rfl e_o12_) ?_
      refine v_getsK hX (i := 10) (by decide) rfl w_5_59 dX8_layOut_65 ?_
      refine v_acmp_ne hX (tgt := 77) dX8_layOut_68 (by decide) (fun h13_ => ?_) (fun h13_ => ?_)
      ·
        refine v_aload hX dX8_layOut_77 rfl ?_
        obtain ⟨o14_, b_o14_, e_o14_⟩ := g6_oOk k.toNat (by omega)
        refine v_get hX (ci := 8) (k := 0) (isS_k h6_ ⟨_, by omega, rfl⟩) bc_8 (by decide) (by decide) in_8 w_1_142 dX8_layOut_79 (mvP (f := 800) (q := (b_kn X o14_)) rfl rfl e_o14_) ?_
        refine v_getsK hX (i := 13) (by decide) rfl w_5_61 dX8_layOut_82 ?_
        refine v_acmp_ne hX (tgt := 90) dX8_layOut_85 (by decide) (fun h15_ => ?_) (fun h15_ => ?_)
        ·
          refine v_iinc hX (v := iI (k + 1)) (lv' := [(3, .int (iI (k + 1))), (1, .int (iI v11_)), (4, .ref (x + 17 + k.toNat)), (2, .int (iI li)), (0, .ref (x + 5))]) dX8_layOut_90 rfl (iI_add _ _) (by rw [hnL]; decide) rfl ?_
          refine v_goto hX (tgt := 6) dX8_layOut_93 (by decide) ?_
          refine v_locals (lv' := [(3, .int (iI (k + 1))), (2, .int (iI li)), (1, .int (iI v11_)), (0, .ref (x + 5))]) (by simp) ?_
          exact ih6 _ (by omega) _ (k + 1) li v11_ (((fr6.sI (by decide) ⟨by omega, by omega⟩).sI (by decide) ⟨by omega, by omega⟩).tr (f6_.mono (by decide) (by decide) (by decide))) (by omega) g6_oOk g6_gN rfl
        ·
          refine v_iconst hX (v := iI 0) dX8_layOut_88 rfl ?_
          refine v_istore_n hX (lv' := [(2, .int (iI 0)), (1, .int (iI v11_)), (4, .ref (x + 17 + k.toNat)), (3, .int (iI k)), (0, .ref (x + 5))]) dX8_layOut_89 (i := 2) rfl (by rw [hnL]; decide) rfl ?_
          refine v_iinc hX (v := iI (k + 1)) (lv' := [(3, .int (iI (k + 1))), (2, .int (iI 0)), (1, .int (iI v11_)), (4, .ref (x + 17 + k.toNat)), (0, .ref (x + 5))]) dX8_layOut_90 rfl (iI_add _ _) (by rw [hnL]; decide) rfl ?_
          refine v_goto hX (tgt := 6) dX8_layOut_93 (by decide) ?_
          refine v_locals (lv' := [(3, .int (iI (k + 1))), (2, .int (iI 0)), (1, .int (iI v11_)), (0, .ref (x + 5))]) (by simp) ?_
          exact ih6 _ (by omega) _ (k + 1) 0 v11_ (((fr6.sI (by decide) ⟨by omega, by omega⟩).sI (by decide) ⟨by omega, by omega⟩).tr (f6_.mono (by decide) (by decide) (by decide))) (by omega) g6_oOk g6_gN rfl
      ·
        refine v_iinc hX (v := iI (li + 1)) (lv' := [(2, .int (iI (li + 1))), (1, .int (iI v11_)), (4, .ref (x + 17 + k.toNat)), (3, .int (iI k)), (0, .ref (x + 5))]) dX8_layOut_71 rfl (iI_add _ _) (by rw [hnL]; decide) rfl ?_
        refine v_goto hX (tgt := 90) dX8_layOut_74 (by decide) ?_
        refine v_iinc hX (v := iI (k + 1)) (lv' := [(3, .int (iI (k + 1))), (2, .int (iI (li + 1))), (1, .int (iI v11_)), (4, .ref (x + 17 + k.toNat)), (0, .ref (x + 5))]) dX8_layOut_90 rfl (iI_add _ _) (by rw [hnL]; decide) rfl ?_
        refine v_goto hX (tgt := 6) dX8_layOut_93 (by decide) ?_
        refine v_locals (lv' := [(3, .int (iI (k + 1))), (2, .int (iI (li + 1))), (1, .int (iI v11_)), (0, .ref (x + 5))]) (by simp) ?_
        exact ih6 _ (by omega) _ (k + 1) (li + 1) v11_ (((fr6.sI (by decide) ⟨by omega, by omega⟩).sI (by decide) ⟨by omega, by omega⟩).tr (f6_.mono (by decide) (by decide) (by decide))) (by omega) g6_oOk g6_gN rfl
  refine v_iconst hX (v := iI 0) dX8_layOut_0 rfl ?_
  refine v_istore_n hX (lv' := [(1, .int (iI 0)), (0, .ref (x + 5))]) dX8_layOut_1 (i := 1) rfl (by rw [hnL]; decide) rfl ?_
  refine v_iconst hX (v := iI 0) dX8_layOut_2 rfl ?_
  refine v_istore_n hX (lv' := [(2, .int (iI 0)), (1, .int (iI 0)), (0, .ref (x + 5))]) dX8_layOut_3 (i := 2) rfl (by rw [hnL]; decide) rfl ?_
  refine v_iconst hX (v := iI 0) dX8_layOut_4 rfl ?_
  refine v_istore_n hX (lv' := [(3, .int (iI 0)), (2, .int (iI 0)), (1, .int (iI 0)), (0, .ref (x + 5))]) dX8_layOut_5 (i := 3) rfl (by rw [hnL]; decide) rfl ?_
  exact L6 _ _ 0 0 0 (cFr.rf _ _) (by omega) g_oOk g_gN rfl
set_option maxRecDepth 100000 in
set_option maxHeartbeats 4000000 in
theorem g_P_layOut {kn : Nat → Nat} {B : Nat} {S : b_M} {z x w : Nat} (h : cS S x) (g_oOk : oOk kn S x) (g_gN : gN S x) (g_gP : gP S x) : b_C kn B yX8_layOut cX8_layOut 5 none 2 41 0 0 [.ref (x + 5)] S z (fun r S' z' => z = z' ∧ cFr [808, 807, 605] [] [10] w S S' x ∧ r = none ∧ (True)) (fun _ _ _ => False) := by
  obtain ⟨kp, e_kp, b_kp⟩ := id g_gP
  exact t_P_layOut (w := w) h e_kp ⟨by omega, by omega⟩ g_oOk g_gN (by omega)
set_option maxRecDepth 100000 in
set_option maxHeartbeats 4000000 in
theorem t_P_check {kn : Nat → Nat} {B : Nat} {S : b_M} {z x w : Nat} {kp : Int} (h : cS S x) (e_kp : m_I S 604 (x + 5) = iI kp) (b_kp : -2147483648 ≤ kp ∧ kp < 2147483648) (g_oOk : oOk kn S x) (g_eI : eI S x w) (g_gR : gR S x) (p : 0 ≤ kp ∧ kp ≤ 400) : b_C kn B yX8_check cX8_check 4 none 2 46 0 0 [.ref (x + 5)] S z (fun r S' z' => z = z' ∧ cFr [102] [] [3, 4] w S S' x ∧ r = none ∧ (True) ∧ (gR S' x)) (fun _ _ _ => False) := by
  refine b_enter (by decide) (Nat.le_of_ble_eq_true rfl) ?_
  intro X hX hE hnL hkn hB hI_
  subst hkn; subst hB
  clear hI_
  change b_V X S z 0 0 0 [(0, .ref (x + 5))] []
  have L2 : ∀ (n2 : Nat) (S2c : b_M) (k : Int), cFr [102] [] [3, 4] w S S2c x → (0 ≤ k ∧ k ≤ 400) → oOk (b_kn X) S2c x → eI S2c x w → gR S2c x → (400 - k).toNat = n2 → b_V X S2c z 0 0 2 [(1, .int (iI k)), (0, .ref (x + 5))] [] := by
    intro n2
    induction n2 using Nat.strongRecOn with
    | _ n2 ih2 =>
    intro S2c k fr2 p2_0 g2_oOk g2_eI g2_gR hm2
    have h2c : cS S2c x := fr2.keep (by decide) h
    have e2_kp : m_I S2c 604 (x + 5) = iI kp := (fr2.2.1 604 (by decide) _).trans e_kp
    have L19 : ∀ (n19 : Nat) (S19c : b_M) (vs : Int) (v : Int), cFr [102] [] [3, 4] w S S19c x → m_I S19c 806 (x + 17 + k.toNat) = iI vs → (-2147483648 ≤ vs ∧ vs < 2147483648) → (0 ≤ v ∧ k < kp ∧ v < 2147483648) → oOk (b_kn X) S19c x → eI S19c x w → gR S19c x → (vs - v).toNat = n19 → b_V X S19c z 0 0 19 [(3, .int (iI v)), (2, .ref (x + 17 + k.toNat)), (1, .int (iI k)), (0, .ref (x + 5))] [] := by
      intro n19
      induction n19 using Nat.strongRecOn with
      | _ n19 ih19 =>
      intro S19c vs v fr19 e_vs b_vs p19_0 g19_oOk g19_eI g19_gR hm19
      have h19c : cS S19c x := fr19.keep (by decide) h
      have e19_kp : m_I S19c 604 (x + 5) = iI kp := (fr19.2.1 604 (by decide) _).trans e_kp
      have L94 : ∀ (S94c : b_M) (vt : Int), cFr [102] [] [3, 4] w S S94c x → m_I S94c 806 (x + 17 + k.toNat) = iI vt → (-2147483648 ≤ vt ∧ vt < 2147483648) → (0 ≤ v ∧ v < vs ∧ vt = vs) → oOk (b_kn X) S94c x → eI S94c x w → gR S94c x → b_V X S94c z 0 0 94 [(3, .int (iI v)), (2, .ref (x + 17 + k.toNat)), (1, .int (iI k)), (0, .ref (x + 5))] [] := by
        intro S94c vt fr94 e_vt b_vt p94_0 g94_oOk g94_eI g94_gR
        have h94c : cS S94c x := fr94.keep (by decide) h
        have e94_kp : m_I S94c 604 (x + 5) = iI kp := (fr94.2.1 604 (by decide) _).trans e_kp
        refine v_iinc hX (v := iI (v + 1)) (lv' := [(3, .int (iI (v + 1))), (2, .ref (x + 17 + k.toNat)), (1, .int (iI k)), (0, .ref (x + 5))]) dX8_check_94 rfl (iI_add _ _) (by rw [hnL]; decide) rfl ?_
        refine v_goto hX (tgt := 19) dX8_check_97 (by decide) ?_
        exact ih19 _ (by omega) _ vt (v + 1) fr94 (by simp (disch := omega) only [y_I_s_I, x_I_s_I, z_I_s_J, z_I_s_A, z_I_s_B, z_I_s_P, e94_kp, e_vt]) ⟨by omega, by omega⟩ (by omega) g94_oOk g94_eI g94_gR rfl
      refine v_iload_n hX dX8_check_19 (i := 3) rfl rfl ?_
      refine v_aload_n hX dX8_check_20 (i := 2) rfl rfl ?_
      refine v_get hX (ci := 8) (k := 6) (isS_k h19c ⟨_, by omega, rfl⟩) bc_8 (by decide) (by decide) in_8 w_1_158 dX8_check_21 (mvF (f := 806) (v := iI vs) rfl rfl (by simp (disch := omega) only [y_I_s_I, x_I_s_I, z_I_s_J, z_I_s_A, z_I_s_B, z_I_s_P, e19_kp, e_vs])) ?_
      refine u_icmp_ge hX (tgt := 100) dX8_check_24 (by decide) ⟨by omega, by omega⟩ ⟨by omega, by omega⟩ (fun h1_ => ?_) (fun h1_ => ?_)
      ·
        refine v_iinc hX (v := iI (k + 1)) (lv' := [(1, .int (iI (k + 1))), (3, .int (iI v)), (2, .ref (x + 17 + k.toNat)), (0, .ref (x + 5))]) dX8_check_100 rfl (iI_add _ _) (by rw [hnL]; decide) rfl ?_
        refine v_goto hX (tgt := 2) dX8_check_103 (by decide) ?_
        refine v_locals (lv' := [(1, .int (iI (k + 1))), (0, .ref (x + 5))]) (by simp) ?_
        exact ih2 _ (by omega) _ (k + 1) fr19 (by omega) g19_oOk g19_eI g19_gR rfl
      ·
        refine v_aload_n hX dX8_check_27 (i := 0) rfl rfl ?_
        refine v_get hX (ci := 6) (k := 2) (cs_k_5 h19c) bc_6 (by decide) (by decide) in_6 w_1_196 dX8_check_28 (mvP (f := 602) (q := (x + 11)) rfl rfl (cs_p_602 h19c)) ?_
        refine v_aload_n hX dX8_check_31 (i := 2) rfl rfl ?_
        obtain ⟨v2_, e_v2_, b_v2_⟩ := i_ex (m_I S19c 805 (x + 17 + k.toNat))
        refine v_get hX (ci := 8) (k := 5) (isS_k h19c ⟨_, by omega, rfl⟩) bc_8 (by decide) (by decide) in_8 w_1_156 dX8_check_32 (mvF (f := 805) (v := iI v2_) rfl rfl (by simp (disch := omega) only [y_I_s_I, x_I_s_I, z_I_s_J, z_I_s_A, z_I_s_B, z_I_s_P, e19_kp, e_vs, e_v2_])) ?_
        refine v_iload_n hX dX8_check_35 (i := 3) rfl rfl ?_
        refine u_iadd hX dX8_check_36 ?_
        obtain ⟨v3_, e_v3_, b_v3_⟩ := i_ex (iI (v2_ + v))
        rw [e_v3_]
        refine v_callV hX (n := 1) (g_X_isKnown (S := S19c) (x := x) (w := w) (e := v3_) h19c ⟨by omega, by omega⟩ g19_eI) (cs_k_11 h19c) bc_2 (by decide) w_5_99 w_5_100 w_5_101 w_1_6 w_5_102 (by decide +kernel) rfl ⟨by decide, by decide⟩ ⟨by omega, by omega⟩ (Nat.le_of_ble_eq_true rfl) rfl dX8_check_37 (fun _ _ _ q => q) ?_
        rintro r4_ S4_ z4_ ⟨rfl, rfl, v5_, rfl, b_v5_, q4_⟩
        refine u_if_ne hX (tgt := 58) dX8_check_40 (by decide) ⟨by omega, by omega⟩ (fun h6_ => ?_) (fun h6_ => ?_)
        ·
          refine v_aload_n hX dX8_check_58 (i := 2) rfl rfl ?_
          refine v_aload_n hX dX8_check_59 (i := 0) rfl rfl ?_
          refine v_get hX (ci := 6) (k := 2) (cs_k_5 h19c) bc_6 (by decide) (by decide) in_6 w_1_196 dX8_check_60 (mvP (f := 602) (q := (x + 11)) rfl rfl (cs_p_602 h19c)) ?_
          refine v_aload_n hX dX8_check_63 (i := 2) rfl rfl ?_
          refine v_get hX (ci := 8) (k := 5) (isS_k h19c ⟨_, by omega, rfl⟩) bc_8 (by decide) (by decide) in_8 w_1_156 dX8_check_64 (mvF (f := 805) (v := iI v2_) rfl rfl (by simp (disch := omega) only [y_I_s_I, x_I_s_I, z_I_s_J, z_I_s_A, z_I_s_B, z_I_s_P, e19_kp, e_vs, e_v2_])) ?_
          refine v_iload_n hX dX8_check_67 (i := 3) rfl rfl ?_
          refine u_iadd hX dX8_check_68 ?_
          obtain ⟨v7_, e_v7_, b_v7_⟩ := i_ex (iI (v2_ + v))
          rw [e_v7_]
          refine v_aload_n hX dX8_check_69 (i := 2) rfl rfl ?_
          obtain ⟨v8_, e_v8_, b_v8_⟩ := i_ex (m_I S19c 808 (x + 17 + k.toNat))
          refine v_get hX (ci := 8) (k := 8) (isS_k h19c ⟨_, by omega, rfl⟩) bc_8 (by decide) (by decide) in_8 w_1_164 dX8_check_70 (mvF (f := 808) (v := iI v8_) rfl rfl (by simp (disch := omega) only [y_I_s_I, x_I_s_I, z_I_s_J, z_I_s_A, z_I_s_B, z_I_s_P, e19_kp, e_vs, e_v2_, e_v8_])) ?_
          refine v_callV hX (n := 2) (g_X_value (S := S19c) (x := x) (w := w) (e := v7_) (pl := v8_) h19c ⟨by omega, by omega⟩ ⟨by omega, by omega⟩ g19_eI) (cs_k_11 h19c) bc_2 (by decide) w_5_75 w_5_76 w_5_77 w_1_6 w_5_78 (by decide +kernel) rfl ⟨by decide, by decide⟩ ⟨by omega, by omega⟩ (Nat.le_of_ble_eq_true rfl) rfl dX8_check_73 (fun _ _ _ q => q) ?_
          rintro r9_ S9_ z9_ ⟨rfl, rfl, v10_, rfl, b_v10_, q9_⟩
          refine v_callS hX (n := 2) (g_P_fits (S := S19c) (x := x) (w := w) (sm := (x + 17 + k.toNat)) (vl := v10_) h19c ⟨_, by omega, rfl⟩ ⟨by omega, by omega⟩ g19_oOk) w_5_103 w_5_104 w_1_3 w_5_105 (by decide +kernel) rfl ⟨by decide, by decide⟩ ⟨by omega, by omega⟩ (Nat.le_of_ble_eq_true rfl) rfl dX8_check_76 (fun _ _ _ q => q) ?_
          rintro r11_ S11_ z11_ ⟨rfl, rfl, v12_, rfl, b_v12_, q11_⟩
          refine u_if_ne hX (tgt := 94) dX8_check_79 (by decide) ⟨by omega, by omega⟩ (fun h13_ => ?_) (fun h13_ => ?_)
          ·
            exact L94 _ vs fr19 (by simp (disch := omega) only [y_I_s_I, x_I_s_I, z_I_s_J, z_I_s_A, z_I_s_B, z_I_s_P, e19_kp, e_vs, e_v2_, e_v8_]) ⟨by omega, by omega⟩ (by omega) g19_oOk g19_eI g19_gR
          ·
            refine v_aload_n hX dX8_check_82 (i := 0) rfl rfl ?_
            refine v_get hX (ci := 6) (k := 0) (cs_k_5 h19c) bc_6 (by decide) (by decide) in_6 w_1_192 dX8_check_83 (mvP (f := 600) (q := (x + 2)) rfl rfl (cs_p_600 h19c)) ?_
            refine v_iconst hX (v := iI 5) dX8_check_86 rfl ?_
            refine v_aload_n hX dX8_check_87 (i := 2) rfl rfl ?_
            obtain ⟨v14_, e_v14_, b_v14_⟩ := i_ex (m_I S19c 801 (x + 17 + k.toNat))
            refine v_get hX (ci := 8) (k := 1) (isS_k h19c ⟨_, by omega, rfl⟩) bc_8 (by decide) (by decide) in_8 w_1_145 dX8_check_88 (mvF (f := 801) (v := iI v14_) rfl rfl (by simp (disch := omega) only [y_I_s_I, x_I_s_I, z_I_s_J, z_I_s_A, z_I_s_B, z_I_s_P, e19_kp, e_vs, e_v2_, e_v8_, e_v14_])) ?_
            refine v_callV hX (n := 2) (g_E_tell (S := S19c) (x := x) (w := w) (n := 5) (l := v14_) h19c ⟨by omega, by omega⟩ ⟨by omega, by omega⟩ g19_gR) (cs_k_2 h19c) bc_1 (by decide) w_5_90 w_5_32 w_5_33 w_1_2 w_5_34 (by decide +kernel) rfl ⟨by decide, by decide⟩ ⟨by omega, by omega⟩ (Nat.le_of_ble_eq_true rfl) rfl dX8_check_91 (fun _ _ _ q => q) ?_
            rintro r15_ S15_ z15_ ⟨rfl, f15_, rfl, q15_, g15_gR⟩
            have y16_ : m_I S15_ 604 (x + 5) = iI kp := (f15_.2.1 604 (by decide) _).trans (by simp (disch := omega) only [y_I_s_I, x_I_s_I, z_I_s_J, z_I_s_A, z_I_s_B, z_I_s_P, e19_kp, e_vs, e_v2_, e_v8_, e_v14_])
            have y17_ : m_I S15_ 806 (x + 17 + k.toNat) = iI vs := (f15_.2.1 806 (by decide) _).trans (by simp (disch := omega) only [y_I_s_I, x_I_s_I, z_I_s_J, z_I_s_A, z_I_s_B, z_I_s_P, e19_kp, e_vs, e_v2_, e_v8_, e_v14_])
            have y18_ : m_I S15_ 805 (x + 17 + k.toNat) = iI v2_ := (f15_.2.1 805 (by decide) _).trans (by simp (disch := omega) only [y_I_s_I, x_I_s_I, z_I_s_J, z_I_s_A, z_I_s_B, z_I_s_P, e19_kp, e_vs, e_v2_, e_v8_, e_v14_])
            have y19_ : m_I S15_ 808 (x + 17 + k.toNat) = iI v8_ := (f15_.2.1 808 (by decide) _).trans (by simp (disch := omega) only [y_I_s_I, x_I_s_I, z_I_s_J, z_I_s_A, z_I_s_B, z_I_s_P, e19_kp, e_vs, e_v2_, e_v8_, e_v14_])
            have y20_ : m_I S15_ 801 (x + 17 + k.toNat) = iI v14_ := (f15_.2.1 801 (by decide) _).trans (by simp (disch := omega) only [y_I_s_I, x_I_s_I, z_I_s_J, z_I_s_A, z_I_s_B, z_I_s_P, e19_kp, e_vs, e_v2_, e_v8_, e_v14_])
            have h15_ : cS S15_ x := f15_.keep (by decide) h19c
            have g15_oOk : oOk (b_kn X) S15_ x := oOk.fr g19_oOk h19c f15_ (by decide)
            have g15_eI : eI S15_ x w := eI.fr g19_eI h19c f15_ (by decide)
            exact L94 _ vs (fr19.tr (f15_.mono (by decide) (by decide) (by decide))) (by simp (disch := omega) only [y_I_s_I, x_I_s_I, z_I_s_J, z_I_s_A, z_I_s_B, z_I_s_P, y16_, y17_, y18_, y19_, y20_]) ⟨by omega, by omega⟩ (by omega) g15_oOk g15_eI g15_gR
        ·
          refine v_aload_n hX dX8_check_43 (i := 0) rfl rfl ?_
          refine v_get hX (ci := 6) (k := 0) (cs_k_5 h19c) bc_6 (by decide) (by decide) in_6 w_1_192 dX8_check_44 (mvP (f := 600) (q := (x + 2)) rfl rfl (cs_p_600 h19c)) ?_
          refine v_iconst hX (v := iI 4) dX8_check_47 rfl ?_
          refine v_aload_n hX dX8_check_48 (i := 2) rfl rfl ?_
          obtain ⟨v21_, e_v21_, b_v21_⟩ := i_ex (m_I S19c 801 (x + 17 + k.toNat))
          refine v_get hX (ci := 8) (k := 1) (isS_k h19c ⟨_, by omega, rfl⟩) bc_8 (by decide) (by decide) in_8 w_1_145 dX8_check_49 (mvF (f := 801) (v := iI v21_) rfl rfl (by simp (disch := omega) only [y_I_s_I, x_I_s_I, z_I_s_J, z_I_s_A, z_I_s_B, z_I_s_P, e19_kp, e_vs, e_v2_, e_v21_])) ?_
          refine v_callV hX (n := 2) (g_E_tell (S := S19c) (x := x) (w := w) (n := 4) (l := v21_) h19c ⟨by omega, by omega⟩ ⟨by omega, by omega⟩ g19_gR) (cs_k_2 h19c) bc_1 (by decide) w_5_90 w_5_32 w_5_33 w_1_2 w_5_34 (by decide +kernel) rfl ⟨by decide, by decide⟩ ⟨by omega, by omega⟩ (Nat.le_of_ble_eq_true rfl) rfl dX8_check_52 (fun _ _ _ q => q) ?_
          rintro r22_ S22_ z22_ ⟨rfl, f22_, rfl, q22_, g22_gR⟩
          have y23_ : m_I S22_ 604 (x + 5) = iI kp := (f22_.2.1 604 (by decide) _).trans (by simp (disch := omega) only [y_I_s_I, x_I_s_I, z_I_s_J, z_I_s_A, z_I_s_B, z_I_s_P, e19_kp, e_vs, e_v2_, e_v21_])
          have y24_ : m_I S22_ 806 (x + 17 + k.toNat) = iI vs := (f22_.2.1 806 (by decide) _).trans (by simp (disch := omega) only [y_I_s_I, x_I_s_I, z_I_s_J, z_I_s_A, z_I_s_B, z_I_s_P, e19_kp, e_vs, e_v2_, e_v21_])
          have y25_ : m_I S22_ 805 (x + 17 + k.toNat) = iI v2_ := (f22_.2.1 805 (by decide) _).trans (by simp (disch := omega) only [y_I_s_I, x_I_s_I, z_I_s_J, z_I_s_A, z_I_s_B, z_I_s_P, e19_kp, e_vs, e_v2_, e_v21_])
          have y26_ : m_I S22_ 801 (x + 17 + k.toNat) = iI v21_ := (f22_.2.1 801 (by decide) _).trans (by simp (disch := omega) only [y_I_s_I, x_I_s_I, z_I_s_J, z_I_s_A, z_I_s_B, z_I_s_P, e19_kp, e_vs, e_v2_, e_v21_])
          have h22_ : cS S22_ x := f22_.keep (by decide) h19c
          have g22_oOk : oOk (b_kn X) S22_ x := oOk.fr g19_oOk h19c f22_ (by decide)
          have g22_eI : eI S22_ x w := eI.fr g19_eI h19c f22_ (by decide)
          refine v_goto hX (tgt := 94) dX8_check_55 (by decide) ?_
          exact L94 _ vs (fr19.tr (f22_.mono (by decide) (by decide) (by decide))) (by simp (disch := omega) only [y_I_s_I, x_I_s_I, z_I_s_J, z_I_s_A, z_I_s_B, z_I_s_P, y23_, y24_, y25_, y26_]) ⟨by omega, by omega⟩ (by omega) g22_oOk g22_eI g22_gR
    refine v_iload_n hX dX8_check_2 (i := 1) rfl rfl ?_
    refine v_aload_n hX dX8_check_3 (i := 0) rfl rfl ?_
    refine v_get hX (ci := 6) (k := 4) (cs_k_5 h2c) bc_6 (by decide) (by decide) in_6 w_1_200 dX8_check_4 (mvF (f := 604) (v := iI kp) rfl rfl (by simp (disch := omega) only [y_I_s_I, x_I_s_I, z_I_s_J, z_I_s_A, z_I_s_B, z_I_s_P, e2_kp])) ?_
    refine u_icmp_ge hX (tgt := 106) dX8_check_7 (by decide) ⟨by omega, by omega⟩ ⟨by omega, by omega⟩ (fun h27_ => ?_) (fun h27_ => ?_)
    ·
      exact v_return hX hE dX8_check_106 (by omega) (by omega) ⟨rfl, fr2, rfl, trivial, g2_gR⟩
    ·
      refine v_aload_n hX dX8_check_10 (i := 0) rfl rfl ?_
      refine v_get hX (ci := 6) (k := 3) (cs_k_5 h2c) bc_6 (by decide) (by decide) in_6 w_1_198 dX8_check_11 (mvP (f := 603) (q := (x + 16)) rfl rfl (cs_p_603 h2c)) ?_
      refine v_iload_n hX dX8_check_14 (i := 1) rfl rfl ?_
      refine u_aaldS hX (t := k) h2c ⟨by omega, by omega⟩ dX8_check_15 ?_
      refine v_astore_n hX (lv' := [(2, .ref (x + 17 + k.toNat)), (1, .int (iI k)), (0, .ref (x + 5))]) dX8_check_16 (i := 2) rfl (by rw [hnL]; decide) rfl ?_
      refine v_iconst hX (v := iI 0) dX8_check_17 rfl ?_
      refine v_istore_n hX (lv' := [(3, .int (iI 0)), (2, .ref (x + 17 + k.toNat)), (1, .int (iI k)), (0, .ref (x + 5))]) dX8_check_18 (i := 3) rfl (by rw [hnL]; decide) rfl ?_
      obtain ⟨v28_, e_v28_, b_v28_⟩ := i_ex (m_I S2c 806 (x + 17 + k.toNat))
      exact L19 _ _ v28_ 0 fr2 (by simp (disch := omega) only [y_I_s_I, x_I_s_I, z_I_s_J, z_I_s_A, z_I_s_B, z_I_s_P, e2_kp, e_v28_]) ⟨by omega, by omega⟩ (by omega) g2_oOk g2_eI g2_gR rfl
  refine v_iconst hX (v := iI 0) dX8_check_0 rfl ?_
  refine v_istore_n hX (lv' := [(1, .int (iI 0)), (0, .ref (x + 5))]) dX8_check_1 (i := 1) rfl (by rw [hnL]; decide) rfl ?_
  exact L2 _ _ 0 (cFr.rf _ _) (by omega) g_oOk g_eI g_gR rfl
set_option maxRecDepth 100000 in
set_option maxHeartbeats 4000000 in
theorem g_P_check {kn : Nat → Nat} {B : Nat} {S : b_M} {z x w : Nat} (h : cS S x) (g_oOk : oOk kn S x) (g_eI : eI S x w) (g_gR : gR S x) (g_gP : gP S x) : b_C kn B yX8_check cX8_check 4 none 2 46 0 0 [.ref (x + 5)] S z (fun r S' z' => z = z' ∧ cFr [102] [] [3, 4] w S S' x ∧ r = none ∧ (True) ∧ (gR S' x)) (fun _ _ _ => False) := by
  obtain ⟨kp, e_kp, b_kp⟩ := id g_gP
  exact t_P_check (w := w) h e_kp ⟨by omega, by omega⟩ g_oOk g_eI g_gR (by omega)
set_option maxRecDepth 100000 in
set_option maxHeartbeats 4000000 in
theorem g_P_runTurnTwo {kn : Nat → Nat} {B : Nat} {S : b_M} {z x w : Nat} (h : cS S x) (g_oOk : oOk kn S x) (g_eI : eI S x w) (g_gN : gN S x) (g_gR : gR S x) (g_gP : gP S x) : b_C kn B yX8_runTurnTwo cX8_runTurnTwo 2 none 5 114 0 0 [.ref (x + 5)] S z (fun r S' z' => z = z' ∧ cFr [606, 808, 807, 605, 810, 809, 102] [] [3, 4, 10] w S S' x ∧ r = none ∧ (True) ∧ (gR S' x)) (fun _ _ _ => False) := by
  refine b_enter (by decide) (Nat.le_of_ble_eq_true rfl) ?_
  intro X hX hE hnL hkn hB hI_
  subst hkn; subst hB
  clear hI_
  change b_V X S z 0 0 0 [(0, .ref (x + 5))] []
  have L9 : ∀ (n9 : Nat) (S9c : b_M) (rd : Int) (hg : Int), cFr [606, 808, 807, 605, 810, 809, 102] [] [3, 4, 10] w S S9c x → m_I S9c 606 (x + 5) = iI rd → (-2147483648 ≤ rd ∧ rd < 2147483648) → (-2147483648 ≤ rd ∧ (hg = 0 ∨ hg = 1)) → oOk (b_kn X) S9c x → eI S9c x w → gN S9c x → gR S9c x → gP S9c x → (401 - rd).toNat = n9 → b_V X S9c z 0 0 9 [(1, .int (iI hg)), (0, .ref (x + 5))] [] := by
    intro n9
    induction n9 using Nat.strongRecOn with
    | _ n9 ih9 =>
    intro S9c rd hg fr9 e_rd b_rd p9_0 g9_oOk g9_eI g9_gN g9_gR g9_gP hm9
    have h9c : cS S9c x := fr9.keep (by decide) h
    refine v_iload_n hX dX8_runTurnTwo_9 (i := 1) rfl rfl ?_
    refine u_if_eq hX (tgt := 45) dX8_runTurnTwo_10 (by decide) ⟨by omega, by omega⟩ (fun h1_ => ?_) (fun h1_ => ?_)
    ·
      refine v_aload_n hX dX8_runTurnTwo_45 (i := 0) rfl rfl ?_
      obtain ⟨v2_, e_v2_, b_v2_⟩ := i_ex (m_I S9c 605 (x + 5))
      refine v_get hX (ci := 6) (k := 5) (cs_k_5 h9c) bc_6 (by decide) (by decide) in_6 w_1_202 dX8_runTurnTwo_46 (mvF (f := 605) (v := iI v2_) rfl rfl (by simp (disch := omega) only [y_I_s_I, x_I_s_I, z_I_s_J, z_I_s_A, z_I_s_B, z_I_s_P, e_rd, e_v2_])) ?_
      refine v_ldc hX (v := iI 65535) dX8_runTurnTwo_49 (show Cond.constant _ _ (iI 65535) ∈ b_Ws from w_5_89) ?_
      refine u_icmp_le hX (tgt := 64) dX8_runTurnTwo_51 (by decide) ⟨by omega, by omega⟩ ⟨by omega, by omega⟩ (fun h3_ => ?_) (fun h3_ => ?_)
      ·
        refine v_aload_n hX dX8_runTurnTwo_64 (i := 0) rfl rfl ?_
        refine v_callV hX (n := 0) (g_P_placeLiterals (S := S9c) (x := x) (w := w) h9c g9_oOk g9_gP) (cs_k_5 h9c) bc_6 (by decide) w_5_91 w_5_93 (bw_p (q := (yX8_placeLiterals, 7)) (List.mem_of_getElem? (i := 35) rfl) rfl) w_1_3 w_5_94 (by decide +kernel) rfl ⟨by decide, by decide⟩ ⟨by omega, by omega⟩ (Nat.le_of_ble_eq_true rfl) rfl dX8_runTurnTwo_65 (fun _ _ _ q => q) ?_
        rintro r4_ S4_ z4_ ⟨rfl, f4_, rfl, q4_⟩
        have y5_ : m_I S4_ 606 (x + 5) = iI rd := (f4_.2.1 606 (by decide) _).trans (by simp (disch := omega) only [y_I_s_I, x_I_s_I, z_I_s_J, z_I_s_A, z_I_s_B, z_I_s_P, e_rd, e_v2_])
        have y6_ : m_I S4_ 605 (x + 5) = iI v2_ := (f4_.2.1 605 (by decide) _).trans (by simp (disch := omega) only [y_I_s_I, x_I_s_I, z_I_s_J, z_I_s_A, z_I_s_B, z_I_s_P, e_rd, e_v2_])
        have h4_ : cS S4_ x := f4_.keep (by decide) h9c
        have g4_oOk : oOk (b_kn X) S4_ x := oOk.fr g9_oOk h9c f4_ (by decide)
        have g4_eI : eI S4_ x w := eI.fr g9_eI h9c f4_ (by decide)
        have g4_gN : gN S4_ x := gN.fr g9_gN h9c f4_ (by decide)
        have g4_gR : gR S4_ x := gR.fr g9_gR h9c f4_ (by decide)
        have g4_gP : gP S4_ x := gP.fr g9_gP h9c f4_ (by decide)
        refine v_aload_n hX dX8_runTurnTwo_68 (i := 0) rfl rfl ?_
        refine v_callV hX (n := 0) (g_P_check (S := S4_) (x := x) (w := w) h4_ g4_oOk g4_eI g4_gR g4_gP) (cs_k_5 h4_) bc_6 (by decide) w_5_95 w_5_97 (bw_p (q := (yX8_check, 7)) (List.mem_of_getElem? (i := 36) rfl) rfl) w_1_3 w_5_98 (by decide +kernel) rfl ⟨by decide, by decide⟩ ⟨by omega, by omega⟩ (Nat.le_of_ble_eq_true rfl) rfl dX8_runTurnTwo_69 (fun _ _ _ q => q) ?_
        rintro r7_ S7_ z7_ ⟨rfl, f7_, rfl, q7_, g7_gR⟩
        have y8_ : m_I S7_ 606 (x + 5) = iI rd := (f7_.2.1 606 (by decide) _).trans (by simp (disch := omega) only [y_I_s_I, x_I_s_I, z_I_s_J, z_I_s_A, z_I_s_B, z_I_s_P, y5_, y6_])
        have y9_ : m_I S7_ 605 (x + 5) = iI v2_ := (f7_.2.1 605 (by decide) _).trans (by simp (disch := omega) only [y_I_s_I, x_I_s_I, z_I_s_J, z_I_s_A, z_I_s_B, z_I_s_P, y5_, y6_])
        have h7_ : cS S7_ x := f7_.keep (by decide) h4_
        have g7_oOk : oOk (b_kn X) S7_ x := oOk.fr g4_oOk h4_ f7_ (by decide)
        have g7_eI : eI S7_ x w := eI.fr g4_eI h4_ f7_ (by decide)
        have g7_gN : gN S7_ x := gN.fr g4_gN h4_ f7_ (by decide)
        have g7_gP : gP S7_ x := gP.fr g4_gP h4_ f7_ (by decide)
        exact v_return hX hE dX8_runTurnTwo_72 (by omega) (by omega) ⟨rfl, ((fr9.tr (f4_.mono (by decide) (by decide) (by decide))).tr (f7_.mono (by decide) (by decide) (by decide))), rfl, trivial, g7_gR⟩
      ·
        refine v_aload_n hX dX8_runTurnTwo_54 (i := 0) rfl rfl ?_
        refine v_get hX (ci := 6) (k := 0) (cs_k_5 h9c) bc_6 (by decide) (by decide) in_6 w_1_192 dX8_runTurnTwo_55 (mvP (f := 600) (q := (x + 2)) rfl rfl (cs_p_600 h9c)) ?_
        refine v_iconst hX (v := iI 5) dX8_runTurnTwo_58 rfl ?_
        refine v_iconst hX (v := iI 0) dX8_runTurnTwo_59 rfl ?_
        refine v_callV hX (n := 2) (g_E_tell (S := S9c) (x := x) (w := w) (n := 5) (l := 0) h9c ⟨by omega, by omega⟩ ⟨by omega, by omega⟩ g9_gR) (cs_k_2 h9c) bc_1 (by decide) w_5_90 w_5_32 w_5_33 w_1_2 w_5_34 (by decide +kernel) rfl ⟨by decide, by decide⟩ ⟨by omega, by omega⟩ (Nat.le_of_ble_eq_true rfl) rfl dX8_runTurnTwo_60 (fun _ _ _ q => q) ?_
        rintro r10_ S10_ z10_ ⟨rfl, f10_, rfl, q10_, g10_gR⟩
        have y11_ : m_I S10_ 606 (x + 5) = iI rd := (f10_.2.1 606 (by decide) _).trans (by simp (disch := omega) only [y_I_s_I, x_I_s_I, z_I_s_J, z_I_s_A, z_I_s_B, z_I_s_P, e_rd, e_v2_])
        have y12_ : m_I S10_ 605 (x + 5) = iI v2_ := (f10_.2.1 605 (by decide) _).trans (by simp (disch := omega) only [y_I_s_I, x_I_s_I, z_I_s_J, z_I_s_A, z_I_s_B, z_I_s_P, e_rd, e_v2_])
        have h10_ : cS S10_ x := f10_.keep (by decide) h9c
        have g10_oOk : oOk (b_kn X) S10_ x := oOk.fr g9_oOk h9c f10_ (by decide)
        have g10_eI : eI S10_ x w := eI.fr g9_eI h9c f10_ (by decide)
        have g10_gN : gN S10_ x := gN.fr g9_gN h9c f10_ (by decide)
        have g10_gP : gP S10_ x := gP.fr g9_gP h9c f10_ (by decide)
        exact v_return hX hE dX8_runTurnTwo_63 (by omega) (by omega) ⟨rfl, (fr9.tr (f10_.mono (by decide) (by decide) (by decide))), rfl, trivial, g10_gR⟩
    ·
      refine v_aload_n hX dX8_runTurnTwo_13 (i := 0) rfl rfl ?_
      refine v_get hX (ci := 6) (k := 6) (cs_k_5 h9c) bc_6 (by decide) (by decide) in_6 w_1_204 dX8_runTurnTwo_14 (mvF (f := 606) (v := iI rd) rfl rfl (by simp (disch := omega) only [y_I_s_I, x_I_s_I, z_I_s_J, z_I_s_A, z_I_s_B, z_I_s_P, e_rd])) ?_
      refine v_sipush hX (v := iI 401) dX8_runTurnTwo_17 (by decide) ?_
      refine u_icmp_ge hX (tgt := 45) dX8_runTurnTwo_20 (by decide) ⟨by omega, by omega⟩ ⟨by omega, by omega⟩ (fun h13_ => ?_) (fun h13_ => ?_)
      ·
        refine v_aload_n hX dX8_runTurnTwo_45 (i := 0) rfl rfl ?_
        obtain ⟨v14_, e_v14_, b_v14_⟩ := i_ex (m_I S9c 605 (x + 5))
        refine v_get hX (ci := 6) (k := 5) (cs_k_5 h9c) bc_6 (by decide) (by decide) in_6 w_1_202 dX8_runTurnTwo_46 (mvF (f := 605) (v := iI v14_) rfl rfl (by simp (disch := omega) only [y_I_s_I, x_I_s_I, z_I_s_J, z_I_s_A, z_I_s_B, z_I_s_P, e_rd, e_v14_])) ?_
        refine v_ldc hX (v := iI 65535) dX8_runTurnTwo_49 (show Cond.constant _ _ (iI 65535) ∈ b_Ws from w_5_89) ?_
        refine u_icmp_le hX (tgt := 64) dX8_runTurnTwo_51 (by decide) ⟨by omega, by omega⟩ ⟨by omega, by omega⟩ (fun h15_ => ?_) (fun h15_ => ?_)
        ·
          refine v_aload_n hX dX8_runTurnTwo_64 (i := 0) rfl rfl ?_
          refine v_callV hX (n := 0) (g_P_placeLiterals (S := S9c) (x := x) (w := w) h9c g9_oOk g9_gP) (cs_k_5 h9c) bc_6 (by decide) w_5_91 w_5_93 (bw_p (q := (yX8_placeLiterals, 7)) (List.mem_of_getElem? (i := 35) rfl) rfl) w_1_3 w_5_94 (by decide +kernel) rfl ⟨by decide, by decide⟩ ⟨by omega, by omega⟩ (Nat.le_of_ble_eq_true rfl) rfl dX8_runTurnTwo_65 (fun _ _ _ q => q) ?_
          rintro r16_ S16_ z16_ ⟨rfl, f16_, rfl, q16_⟩
          have y17_ : m_I S16_ 606 (x + 5) = iI rd := (f16_.2.1 606 (by decide) _).trans (by simp (disch := omega) only [y_I_s_I, x_I_s_I, z_I_s_J, z_I_s_A, z_I_s_B, z_I_s_P, e_rd, e_v14_])
          have y18_ : m_I S16_ 605 (x + 5) = iI v14_ := (f16_.2.1 605 (by decide) _).trans (by simp (disch := omega) only [y_I_s_I, x_I_s_I, z_I_s_J, z_I_s_A, z_I_s_B, z_I_s_P, e_rd, e_v14_])
          have h16_ : cS S16_ x := f16_.keep (by decide) h9c
          have g16_oOk : oOk (b_kn X) S16_ x := oOk.fr g9_oOk h9c f16_ (by decide)
          have g16_eI : eI S16_ x w := eI.fr g9_eI h9c f16_ (by decide)
          have g16_gN : gN S16_ x := gN.fr g9_gN h9c f16_ (by decide)
          have g16_gR : gR S16_ x := gR.fr g9_gR h9c f16_ (by decide)
          have g16_gP : gP S16_ x := gP.fr g9_gP h9c f16_ (by decide)
          refine v_aload_n hX dX8_runTurnTwo_68 (i := 0) rfl rfl ?_
          refine v_callV hX (n := 0) (g_P_check (S := S16_) (x := x) (w := w) h16_ g16_oOk g16_eI g16_gR g16_gP) (cs_k_5 h16_) bc_6 (by decide) w_5_95 w_5_97 (bw_p (q := (yX8_check, 7)) (List.mem_of_getElem? (i := 36) rfl) rfl) w_1_3 w_5_98 (by decide +kernel) rfl ⟨by decide, by decide⟩ ⟨by omega, by omega⟩ (Nat.le_of_ble_eq_true rfl) rfl dX8_runTurnTwo_69 (fun _ _ _ q => q) ?_
          rintro r19_ S19_ z19_ ⟨rfl, f19_, rfl, q19_, g19_gR⟩
          have y20_ : m_I S19_ 606 (x + 5) = iI rd := (f19_.2.1 606 (by decide) _).trans (by simp (disch := omega) only [y_I_s_I, x_I_s_I, z_I_s_J, z_I_s_A, z_I_s_B, z_I_s_P, y17_, y18_])
          have y21_ : m_I S19_ 605 (x + 5) = iI v14_ := (f19_.2.1 605 (by decide) _).trans (by simp (disch := omega) only [y_I_s_I, x_I_s_I, z_I_s_J, z_I_s_A, z_I_s_B, z_I_s_P, y17_, y18_])
          have h19_ : cS S19_ x := f19_.keep (by decide) h16_
          have g19_oOk : oOk (b_kn X) S19_ x := oOk.fr g16_oOk h16_ f19_ (by decide)
          have g19_eI : eI S19_ x w := eI.fr g16_eI h16_ f19_ (by decide)
          have g19_gN : gN S19_ x := gN.fr g16_gN h16_ f19_ (by decide)
          have g19_gP : gP S19_ x := gP.fr g16_gP h16_ f19_ (by decide)
          exact v_return hX hE dX8_runTurnTwo_72 (by omega) (by omega) ⟨rfl, ((fr9.tr (f16_.mono (by decide) (by decide) (by decide))).tr (f19_.mono (by decide) (by decide) (by decide))), rfl, trivial, g19_gR⟩
        ·
          refine v_aload_n hX dX8_runTurnTwo_54 (i := 0) rfl rfl ?_
          refine v_get hX (ci := 6) (k := 0) (cs_k_5 h9c) bc_6 (by decide) (by decide) in_6 w_1_192 dX8_runTurnTwo_55 (mvP (f := 600) (q := (x + 2)) rfl rfl (cs_p_600 h9c)) ?_
          refine v_iconst hX (v := iI 5) dX8_runTurnTwo_58 rfl ?_
          refine v_iconst hX (v := iI 0) dX8_runTurnTwo_59 rfl ?_
          refine v_callV hX (n := 2) (g_E_tell (S := S9c) (x := x) (w := w) (n := 5) (l := 0) h9c ⟨by omega, by omega⟩ ⟨by omega, by omega⟩ g9_gR) (cs_k_2 h9c) bc_1 (by decide) w_5_90 w_5_32 w_5_33 w_1_2 w_5_34 (by decide +kernel) rfl ⟨by decide, by decide⟩ ⟨by omega, by omega⟩ (Nat.le_of_ble_eq_true rfl) rfl dX8_runTurnTwo_60 (fun _ _ _ q => q) ?_
          rintro r22_ S22_ z22_ ⟨rfl, f22_, rfl, q22_, g22_gR⟩
          have y23_ : m_I S22_ 606 (x + 5) = iI rd := (f22_.2.1 606 (by decide) _).trans (by simp (disch := omega) only [y_I_s_I, x_I_s_I, z_I_s_J, z_I_s_A, z_I_s_B, z_I_s_P, e_rd, e_v14_])
          have y24_ : m_I S22_ 605 (x + 5) = iI v14_ := (f22_.2.1 605 (by decide) _).trans (by simp (disch := omega) only [y_I_s_I, x_I_s_I, z_I_s_J, z_I_s_A, z_I_s_B, z_I_s_P, e_rd, e_v14_])
          have h22_ : cS S22_ x := f22_.keep (by decide) h9c
          have g22_oOk : oOk (b_kn X) S22_ x := oOk.fr g9_oOk h9c f22_ (by decide)
          have g22_eI : eI S22_ x w := eI.fr g9_eI h9c f22_ (by decide)
          have g22_gN : gN S22_ x := gN.fr g9_gN h9c f22_ (by decide)
          have g22_gP : gP S22_ x := gP.fr g9_gP h9c f22_ (by decide)
          exact v_return hX hE dX8_runTurnTwo_63 (by omega) (by omega) ⟨rfl, (fr9.tr (f22_.mono (by decide) (by decide) (by decide))), rfl, trivial, g22_gR⟩
      ·
        refine v_aload_n hX dX8_runTurnTwo_23 (i := 0) rfl rfl ?_
        refine v_dup hX dX8_runTurnTwo_24 rfl ?_
        refine v_get hX (ci := 6) (k := 6) (cs_k_5 h9c) bc_6 (by decide) (by decide) in_6 w_1_204 dX8_runTurnTwo_25 (mvF (f := 606) (v := iI rd) rfl rfl (by simp (disch := omega) only [y_I_s_I, x_I_s_I, z_I_s_J, z_I_s_A, z_I_s_B, z_I_s_P, e_rd])) ?_
        refine v_iconst hX (v := iI 1) dX8_runTurnTwo_28 rfl ?_
        refine u_iadd hX dX8_runTurnTwo_29 ?_
        refine v_putI hX (ci := 6) (k := 6) (f := 606) (cs_k_5 h9c) bc_6 (by decide) (by decide) in_6 tyX8_ok nmX8 w_1_204 (Or.inl rfl) rfl rfl dX8_runTurnTwo_30 rfl rfl ?_
        refine v_aload_n hX dX8_runTurnTwo_33 (i := 0) rfl rfl ?_
        refine v_callV hX (n := 0) (g_P_layOut (S := (s_I S9c 606 (x + 5) (iI (rd + 1)))) (x := x) (w := w) (cS.sI h9c) (oOk.fr g9_oOk h9c (show cFr [606] [] [] w S9c (s_I S9c 606 (x + 5) (iI (rd + 1))) x from ((cFr.rf _ _).sI (by decide) ⟨by omega, by omega⟩)) (by decide)) (gN.fr g9_gN h9c (show cFr [606] [] [] w S9c (s_I S9c 606 (x + 5) (iI (rd + 1))) x from ((cFr.rf _ _).sI (by decide) ⟨by omega, by omega⟩)) (by decide)) (gP.fr g9_gP h9c (show cFr [606] [] [] w S9c (s_I S9c 606 (x + 5) (iI (rd + 1))) x from ((cFr.rf _ _).sI (by decide) ⟨by omega, by omega⟩)) (by decide))) (cs_k_5 (cS.sI h9c)) bc_6 (by decide) w_5_46 w_5_48 (bw_p (q := (yX8_layOut, 7)) (List.mem_of_getElem? (i := 29) rfl) rfl) w_1_3 w_5_49 (by decide +kernel) rfl ⟨by decide, by decide⟩ ⟨by omega, by omega⟩ (Nat.le_of_ble_eq_true rfl) rfl dX8_runTurnTwo_34 (fun _ _ _ q => q) ?_
        rintro r25_ S25_ z25_ ⟨rfl, f25_, rfl, q25_⟩
        have y26_ : m_I S25_ 606 (x + 5) = iI (rd + 1) := (f25_.2.1 606 (by decide) _).trans (by simp (disch := omega) only [y_I_s_I, x_I_s_I, z_I_s_J, z_I_s_A, z_I_s_B, z_I_s_P, e_rd])
        have h25_ : cS S25_ x := f25_.keep (by decide) (cS.sI h9c)
        have g25_oOk : oOk (b_kn X) S25_ x := oOk.fr (oOk.fr g9_oOk h9c (show cFr [606] [] [] w S9c (s_I S9c 606 (x + 5) (iI (rd + 1))) x from ((cFr.rf _ _).sI (by decide) ⟨by omega, by omega⟩)) (by decide)) (cS.sI h9c) f25_ (by decide)
        have g25_eI : eI S25_ x w := eI.fr (eI.fr g9_eI h9c (show cFr [606] [] [] w S9c (s_I S9c 606 (x + 5) (iI (rd + 1))) x from ((cFr.rf _ _).sI (by decide) ⟨by omega, by omega⟩)) (by decide)) (cS.sI h9c) f25_ (by decide)
        have g25_gN : gN S25_ x := gN.fr (gN.fr g9_gN h9c (show cFr [606] [] [] w S9c (s_I S9c 606 (x + 5) (iI (rd + 1))) x from ((cFr.rf _ _).sI (by decide) ⟨by omega, by omega⟩)) (by decide)) (cS.sI h9c) f25_ (by decide)
        have g25_gR : gR S25_ x := gR.fr (gR.fr g9_gR h9c (show cFr [606] [] [] w S9c (s_I S9c 606 (x + 5) (iI (rd + 1))) x from ((cFr.rf _ _).sI (by decide) ⟨by omega, by omega⟩)) (by decide)) (cS.sI h9c) f25_ (by decide)
        have g25_gP : gP S25_ x := gP.fr (gP.fr g9_gP h9c (show cFr [606] [] [] w S9c (s_I S9c 606 (x + 5) (iI (rd + 1))) x from ((cFr.rf _ _).sI (by decide) ⟨by omega, by omega⟩)) (by decide)) (cS.sI h9c) f25_ (by decide)
        refine v_aload_n hX dX8_runTurnTwo_37 (i := 0) rfl rfl ?_
        refine v_callV hX (n := 0) (g_P_grow (S := S25_) (x := x) (w := w) h25_ g25_oOk g25_eI g25_gP) (cs_k_5 h25_) bc_6 (by decide) w_5_63 w_5_65 (bw_p (q := (yX8_grow, 7)) (List.mem_of_getElem? (i := 30) rfl) rfl) w_1_3 w_5_66 (by decide +kernel) rfl ⟨by decide, by decide⟩ ⟨by omega, by omega⟩ (Nat.le_of_ble_eq_true rfl) rfl dX8_runTurnTwo_38 (fun _ _ _ q => q) ?_
        rintro r27_ S27_ z27_ ⟨rfl, f27_, v28_, rfl, b_v28_, q27_⟩
        have y29_ : m_I S27_ 606 (x + 5) = iI (rd + 1) := (f27_.2.1 606 (by decide) _).trans (by simp (disch := omega) only [y_I_s_I, x_I_s_I, z_I_s_J, z_I_s_A, z_I_s_B, z_I_s_P, y26_])
        have h27_ : cS S27_ x := f27_.keep (by decide) h25_
        have g27_oOk : oOk (b_kn X) S27_ x := oOk.fr g25_oOk h25_ f27_ (by decide)
        have g27_eI : eI S27_ x w := eI.fr g25_eI h25_ f27_ (by decide)
        have g27_gN : gN S27_ x := gN.fr g25_gN h25_ f27_ (by decide)
        have g27_gR : gR S27_ x := gR.fr g25_gR h25_ f27_ (by decide)
        have g27_gP : gP S27_ x := gP.fr g25_gP h25_ f27_ (by decide)
        refine v_istore_n hX (lv' := [(1, .int (iI v28_)), (0, .ref (x + 5))]) dX8_runTurnTwo_41 (i := 1) rfl (by rw [hnL]; decide) rfl ?_
        refine v_goto hX (tgt := 9) dX8_runTurnTwo_42 (by decide) ?_
        exact ih9 _ (by omega) _ (rd + 1) v28_ (((fr9.sI (by decide) ⟨by omega, by omega⟩).tr (f25_.mono (by decide) (by decide) (by decide))).tr (f27_.mono (by decide) (by decide) (by decide))) (by simp (disch := omega) only [y_I_s_I, x_I_s_I, z_I_s_J, z_I_s_A, z_I_s_B, z_I_s_P, y29_]) ⟨by omega, by omega⟩ (by omega) g27_oOk g27_eI g27_gN g27_gR g27_gP rfl
  refine v_aload_n hX dX8_runTurnTwo_0 (i := 0) rfl rfl ?_
  refine v_get hX (ci := 6) (k := 2) (cs_k_5 h) bc_6 (by decide) (by decide) in_6 w_1_196 dX8_runTurnTwo_1 (mvP (f := 602) (q := (x + 11)) rfl rfl (cs_p_602 h)) ?_
  refine v_callV hX (n := 0) (g_X_resolve (S := S) (x := x) (w := w) h g_eI g_gN) (cs_k_11 h) bc_2 (by decide) w_5_39 w_5_40 w_5_41 w_1_6 w_5_42 (by decide +kernel) rfl ⟨by decide, by decide⟩ ⟨by omega, by omega⟩ (Nat.le_of_ble_eq_true rfl) rfl dX8_runTurnTwo_4 (fun _ _ _ q => q) ?_
  rintro r30_ S30_ z30_ ⟨rfl, f30_, rfl, q30_⟩
  have h30_ : cS S30_ x := f30_.keep (by decide) h
  have g30_oOk : oOk (b_kn X) S30_ x := oOk.fr g_oOk h f30_ (by decide)
  have g30_eI : eI S30_ x w := eI.fr g_eI h f30_ (by decide)
  have g30_gN : gN S30_ x := gN.fr g_gN h f30_ (by decide)
  have g30_gR : gR S30_ x := gR.fr g_gR h f30_ (by decide)
  have g30_gP : gP S30_ x := gP.fr g_gP h f30_ (by decide)
  refine v_iconst hX (v := iI 1) dX8_runTurnTwo_7 rfl ?_
  refine v_istore_n hX (lv' := [(1, .int (iI 1)), (0, .ref (x + 5))]) dX8_runTurnTwo_8 (i := 1) rfl (by rw [hnL]; decide) rfl ?_
  obtain ⟨v31_, e_v31_, b_v31_⟩ := i_ex (m_I S30_ 606 (x + 5))
  exact L9 _ _ v31_ 1 ((cFr.rf _ _).tr (f30_.mono (by decide) (by decide) (by decide))) (by simp (disch := omega) only [y_I_s_I, x_I_s_I, z_I_s_J, z_I_s_A, z_I_s_B, z_I_s_P, e_v31_]) ⟨by omega, by omega⟩ (by omega) g30_oOk g30_eI g30_gN g30_gR g30_gP rfl
set_option maxRecDepth 100000 in
set_option maxHeartbeats 4000000 in
theorem g_P_forget {kn : Nat → Nat} {B : Nat} {S : b_M} {z x w : Nat} (h : cS S x) (g_gN : gN S x) (g_eI : eI S x w) : b_C kn B yX8_forget cX8_forget 1 none 2 43 0 0 [.ref (x + 5)] S z (fun r S' z' => z = z' ∧ cFr [504, 505, 205, 206, 604, 605, 606] [] [7] w S S' x ∧ r = none ∧ (True) ∧ (gN S' x) ∧ (eI S' x w) ∧ (gP S' x)) (fun _ _ _ => False) := by
  refine b_enter (by decide) (Nat.le_of_ble_eq_true rfl) ?_
  intro X hX hE hnL hkn hB hI_
  subst hkn; subst hB
  clear hI_
  change b_V X S z 0 0 0 [(0, .ref (x + 5))] []
  refine v_aload_n hX dX8_forget_0 (i := 0) rfl rfl ?_
  refine v_get hX (ci := 6) (k := 1) (cs_k_5 h) bc_6 (by decide) (by decide) in_6 w_1_193 dX8_forget_1 (mvP (f := 601) (q := (x + 6)) rfl rfl (cs_p_601 h)) ?_
  refine v_callV hX (n := 0) (g_N_forget (S := S) (x := x) (w := w) h g_gN) (cs_k_6 h) bc_5 (by decide) w_3_78 w_1_71 w_1_72 w_1_4 w_1_73 (by decide +kernel) rfl ⟨by decide, by decide⟩ ⟨by omega, by omega⟩ (Nat.le_of_ble_eq_true rfl) rfl dX8_forget_4 (fun _ _ _ q => q) ?_
  rintro r1_ S1_ z1_ ⟨rfl, f1_, rfl, q1_, g1_gN⟩
  have h1_ : cS S1_ x := f1_.keep (by decide) h
  have g1_eI : eI S1_ x w := eI.fr g_eI h f1_ (by decide)
  refine v_aload_n hX dX8_forget_7 (i := 0) rfl rfl ?_
  refine v_get hX (ci := 6) (k := 2) (cs_k_5 h1_) bc_6 (by decide) (by decide) in_6 w_1_196 dX8_forget_8 (mvP (f := 602) (q := (x + 11)) rfl rfl (cs_p_602 h1_)) ?_
  refine v_iconst hX (v := iI 0) dX8_forget_11 rfl ?_
  refine v_callV hX (n := 1) (g_X_cut (S := S1_) (x := x) (w := w) (mk := 0) h1_ ⟨by omega, by omega⟩ g1_eI) (cs_k_11 h1_) bc_2 (by decide) w_3_79 w_3_80 w_3_81 w_1_6 w_3_82 (by decide +kernel) rfl ⟨by decide, by decide⟩ ⟨by omega, by omega⟩ (Nat.le_of_ble_eq_true rfl) rfl dX8_forget_12 (fun _ _ _ q => q) ?_
  rintro r2_ S2_ z2_ ⟨rfl, f2_, rfl, q2_, g2_eI⟩
  have h2_ : cS S2_ x := f2_.keep (by decide) h1_
  have g2_gN : gN S2_ x := gN.fr g1_gN h1_ f2_ (by decide)
  refine v_aload_n hX dX8_forget_15 (i := 0) rfl rfl ?_
  refine v_iconst hX (v := iI 0) dX8_forget_16 rfl ?_
  refine v_putI hX (ci := 6) (k := 4) (f := 604) (cs_k_5 h2_) bc_6 (by decide) (by decide) in_6 tyX8_ok nmX8 w_1_200 (Or.inl rfl) rfl rfl dX8_forget_17 rfl rfl ?_
  refine v_aload_n hX dX8_forget_20 (i := 0) rfl rfl ?_
  refine v_iconst hX (v := iI 0) dX8_forget_21 rfl ?_
  refine v_putI hX (ci := 6) (k := 5) (f := 605) (cs_k_5 (cS.sI h2_)) bc_6 (by decide) (by decide) in_6 tyX8_ok nmX8 w_1_202 (Or.inl rfl) rfl rfl dX8_forget_22 rfl rfl ?_
  refine v_aload_n hX dX8_forget_25 (i := 0) rfl rfl ?_
  refine v_iconst hX (v := iI 0) dX8_forget_26 rfl ?_
  refine v_putI hX (ci := 6) (k := 6) (f := 606) (cs_k_5 (cS.sI (cS.sI h2_))) bc_6 (by decide) (by decide) in_6 tyX8_ok nmX8 w_1_204 (Or.inl rfl) rfl rfl dX8_forget_27 rfl rfl ?_
  exact v_return hX hE dX8_forget_30 (by omega) (by omega) ⟨rfl, ((((((cFr.rf _ _).tr (f1_.mono (by decide) (by decide) (by decide))).tr (f2_.mono (by decide) (by decide) (by decide))).sI (by decide) ⟨by omega, by omega⟩).sI (by decide) ⟨by omega, by omega⟩).sI (by decide) ⟨by omega, by omega⟩), rfl, trivial, (gN.fr g2_gN h2_ (show cFr [604, 605, 606] [] [] w S2_ (s_I (s_I (s_I S2_ 604 (x + 5) (iI 0)) 605 (x + 5) (iI 0)) 606 (x + 5) (iI 0)) x from ((((cFr.rf _ _).sI (by decide) ⟨by omega, by omega⟩).sI (by decide) ⟨by omega, by omega⟩).sI (by decide) ⟨by omega, by omega⟩)) (by decide)), (eI.fr g2_eI h2_ (show cFr [604, 605, 606] [] [] w S2_ (s_I (s_I (s_I S2_ 604 (x + 5) (iI 0)) 605 (x + 5) (iI 0)) 606 (x + 5) (iI 0)) x from ((((cFr.rf _ _).sI (by decide) ⟨by omega, by omega⟩).sI (by decide) ⟨by omega, by omega⟩).sI (by decide) ⟨by omega, by omega⟩)) (by decide)), ⟨0, (by simp (disch := omega) only [y_I_s_I, x_I_s_I, z_I_s_J, z_I_s_A, z_I_s_B, z_I_s_P]), by omega, by omega⟩⟩
