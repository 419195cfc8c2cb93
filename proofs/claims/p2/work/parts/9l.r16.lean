set_option maxRecDepth 100000 in
set_option maxHeartbeats 4000000 in
theorem k_fail {kn : Nat → Nat} {B : Nat} {S : b_M} {z x : Nat} {c : Int} (h : mS S x) (b_c : -2147483648 ≤ c ∧ c < 2147483648) : b_C kn B yX13_fail cX13_fail 2 (some .int) 0 0 0 0 [.ref x, .int (iI c)] S z (fun r S' z' => z = z' ∧ mFr [1102] [] [] S S' x ∧ ∃ q t1 : Int, r = some (.int (iI q)) ∧ (-2147483648 ≤ q ∧ q < 2147483648) ∧ m_I S' 1102 x = iI t1 ∧ (-2147483648 ≤ t1 ∧ t1 < 2147483648) ∧ (t1 = c ∧ q = 0)) (fun _ _ _ => False) := by
  refine b_enter (by decide) (Nat.le_of_ble_eq_true rfl) ?_
  intro X hX hE hnL hkn hB hI_
  subst hkn; subst hB
  clear hI_
  change b_V X S z 0 0 0 [(0, .ref x), (1, .int (iI c))] []
  refine v_aload_n hX dX13_fail_0 (i := 0) rfl rfl ?_
  refine v_iload_n hX dX13_fail_1 (i := 1) rfl rfl ?_
  refine v_putI hX (ci := 11) (k := 2) (f := 1102) (ms_kx h) bc_11 (by decide) (by decide) in_11 tyX13_ok nmX13 w_5_218 (Or.inl rfl) rfl rfl dX13_fail_2 rfl rfl ?_
  refine v_iconst hX (v := iI 0) dX13_fail_5 rfl ?_
  exact v_ireturn hX hE dX13_fail_6 (by omega) (by omega) ⟨rfl, ((mFr.rf _ _).sI (by decide)), 0, c, rfl, ⟨by omega, by omega⟩, (by simp (disch := omega) only [y_I_s_I, x_I_s_I, z_I_s_J, z_I_s_A, z_I_s_B]), ⟨by omega, by omega⟩, (by omega)⟩
set_option maxRecDepth 100000 in
set_option maxHeartbeats 4000000 in
theorem k_error {kn : Nat → Nat} {B : Nat} {S : b_M} {z x : Nat} {k : Int} {what : Int} {er : Int} (h : mS S x) (e_er : m_I S 1153 x = iI er) (b_er : -2147483648 ≤ er ∧ er < 2147483648) (b_k : -2147483648 ≤ k ∧ k < 2147483648) (b_what : -2147483648 ≤ what ∧ what < 2147483648) (p : 0 ≤ er ∧ er ≤ 50) : b_C kn B yX13_error cX13_error 3 (some .int) 1 22 0 0 [.ref x, .int (iI k), .int (iI what)] S z (fun r S' z' => z = z' ∧ mFr [1102] [] [] S S' x ∧ ∃ q t1 : Int, r = some (.int (iI q)) ∧ (-2147483648 ≤ q ∧ q < 2147483648) ∧ m_I S' 1102 x = iI t1 ∧ (-2147483648 ≤ t1 ∧ t1 < 2147483648) ∧ (t1 = 0 ∨ t1 = 1)) (fun _ _ _ => False) := by
  refine b_enter (by decide) (Nat.le_of_ble_eq_true rfl) ?_
  intro X hX hE hnL hkn hB hI_
  subst hkn; subst hB
  clear hI_
  change b_V X S z 0 0 0 [(0, .ref x), (1, .int (iI k)), (2, .int (iI what))] []
  refine v_aload_n hX dX13_error_0 (i := 0) rfl rfl ?_
  refine v_iconst hX (v := iI 0) dX13_error_1 rfl ?_
  refine v_putI hX (ci := 11) (k := 2) (f := 1102) (ms_kx h) bc_11 (by decide) (by decide) in_11 tyX13_ok nmX13 w_5_218 (Or.inl rfl) rfl rfl dX13_error_2 rfl rfl ?_
  refine v_iload_n hX dX13_error_5 (i := 1) rfl rfl ?_
  refine v_iconst hX (v := iI 0) dX13_error_6 rfl ?_
  refine v_aload_n hX dX13_error_7 (i := 0) rfl rfl ?_
  refine v_get hX (ci := 11) (k := 53) (ms_kx (mS.sI h)) bc_11 (by decide) (by decide) in_11 w_6_29 dX13_error_8 (mvF (f := 1153) (v := iI er) rfl rfl (by simp (disch := omega) only [y_I_s_I, x_I_s_I, z_I_s_J, z_I_s_A, z_I_s_B, e_er])) ?_
  refine v_iconst hX (v := iI 1) dX13_error_11 rfl ?_
  refine u_isub hX dX13_error_12 ?_
  refine v_callS hX (n := 3) (k_within (S := (s_I S 1102 x (iI 0))) (x := 0) (v := k) (a := 0) (b := (er - 1)) ⟨by omega, by omega⟩ ⟨by omega, by omega⟩ ⟨by omega, by omega⟩) w_6_210 w_6_211 w_1_16 w_6_212 (by decide +kernel) rfl ⟨by decide, by decide⟩ ⟨by omega, by omega⟩ (Nat.le_of_ble_eq_true rfl) rfl dX13_error_13 (fun _ _ _ q => q) ?_
  rintro r1_ S1_ z1_ ⟨rfl, rfl, v2_, rfl, b_v2_, q1_⟩
  refine u_if_eq hX (tgt := 28) dX13_error_16 (by decide) ⟨by omega, by omega⟩ (fun h3_ => ?_) (fun h3_ => ?_)
  ·
    refine v_aload_n hX dX13_error_28 (i := 0) rfl rfl ?_
    refine v_iconst hX (v := iI 1) dX13_error_29 rfl ?_
    refine v_callV hX (n := 1) (k_fail (S := (s_I S 1102 x (iI 0))) (x := x) (c := 1) (mS.sI h) ⟨by omega, by omega⟩) (ms_kx (mS.sI h)) bc_11 (by decide) w_6_202 w_6_204 (bw_p (q := (yX13_fail, 72)) (List.mem_of_getElem? (i := 40) rfl) rfl) w_1_16 w_6_205 (by decide +kernel) rfl ⟨by decide, by decide⟩ ⟨by omega, by omega⟩ (Nat.le_of_ble_eq_true rfl) rfl dX13_error_30 (fun _ _ _ q => q) ?_
    rintro r4_ S4_ z4_ ⟨rfl, f4_, v5_, v6_, rfl, b_v5_, e_v6_, b_v6_, q4_⟩
    have e4_1153 : m_I S4_ 1153 x = iI er := (f4_.2.2.2.1 1153 (by decide)).trans (by simp (disch := omega) only [y_I_s_I, x_I_s_I, z_I_s_J, z_I_s_A, z_I_s_B, e_er])
    have h4_ : mS S4_ x := f4_.keep (mS.sI h)
    exact v_ireturn hX hE dX13_error_33 (by omega) (by omega) ⟨rfl, (((mFr.rf _ _).sI (by decide)).tr (f4_.mono (by decide) (by decide) (by decide))), v5_, v6_, rfl, ⟨by omega, by omega⟩, (by simp (disch := omega) only [y_I_s_I, x_I_s_I, z_I_s_J, z_I_s_A, z_I_s_B, e4_1153, e_v6_]), ⟨by omega, by omega⟩, (by omega)⟩
  ·
    refine v_iload_n hX dX13_error_19 (i := 2) rfl rfl ?_
    refine v_iconst hX (v := iI 0) dX13_error_20 rfl ?_
    refine v_iconst hX (v := iI 1) dX13_error_21 rfl ?_
    refine v_callS hX (n := 3) (k_within (S := (s_I S 1102 x (iI 0))) (x := 0) (v := what) (a := 0) (b := 1) ⟨by omega, by omega⟩ ⟨by omega, by omega⟩ ⟨by omega, by omega⟩) w_6_210 w_6_211 w_1_16 w_6_212 (by decide +kernel) rfl ⟨by decide, by decide⟩ ⟨by omega, by omega⟩ (Nat.le_of_ble_eq_true rfl) rfl dX13_error_22 (fun _ _ _ q => q) ?_
    rintro r7_ S7_ z7_ ⟨rfl, rfl, v8_, rfl, b_v8_, q7_⟩
    refine u_if_ne hX (tgt := 34) dX13_error_25 (by decide) ⟨by omega, by omega⟩ (fun h9_ => ?_) (fun h9_ => ?_)
    ·
      refine v_iload_n hX dX13_error_34 (i := 2) rfl rfl ?_
      refine u_if_ne hX (tgt := 47) dX13_error_35 (by decide) ⟨by omega, by omega⟩ (fun h10_ => ?_) (fun h10_ => ?_)
      ·
        refine v_aload_n hX dX13_error_47 (i := 0) rfl rfl ?_
        refine v_get hX (ci := 11) (k := 56) (ms_kx (mS.sI h)) bc_11 (by decide) (by decide) in_11 w_6_32 dX13_error_48 (mvP (f := 1156) (q := (x + 37)) rfl rfl (ms_p_1156 (mS.sI h))) ?_
        refine v_iload_n hX dX13_error_51 (i := 1) rfl rfl ?_
        refine u_iald hX (L := 50) (ms_k_1156 (mS.sI h)) (ms_l_1156 (mS.sI h)) ⟨by omega, by omega⟩ (by decide) dX13_error_52 (fun v11_ e_v11_ b_v11_ => ?_)
        try simp (disch := omega) only [zr_I, zr_J, zr_B, rA_A, zl_I, zl_J, zl_A, lA_B] at e_v11_
        exact v_ireturn hX hE dX13_error_53 (by omega) (by omega) ⟨rfl, ((mFr.rf _ _).sI (by decide)), v11_, 0, rfl, ⟨by omega, by omega⟩, (by simp (disch := omega) only [y_I_s_I, x_I_s_I, z_I_s_J, z_I_s_A, z_I_s_B, e_er]), ⟨by omega, by omega⟩, (by omega)⟩
      ·
        refine v_aload_n hX dX13_error_38 (i := 0) rfl rfl ?_
        refine v_get hX (ci := 11) (k := 55) (ms_kx (mS.sI h)) bc_11 (by decide) (by decide) in_11 w_6_31 dX13_error_39 (mvP (f := 1155) (q := (x + 36)) rfl rfl (ms_p_1155 (mS.sI h))) ?_
        refine v_iload_n hX dX13_error_42 (i := 1) rfl rfl ?_
        refine u_iald hX (L := 50) (ms_k_1155 (mS.sI h)) (ms_l_1155 (mS.sI h)) ⟨by omega, by omega⟩ (by decide) dX13_error_43 (fun v12_ e_v12_ b_v12_ => ?_)
        try simp (disch := omega) only [zr_I, zr_J, zr_B, rA_A, zl_I, zl_J, zl_A, lA_B] at e_v12_
        refine v_goto hX (tgt := 53) dX13_error_44 (by decide) ?_
        exact v_ireturn hX hE dX13_error_53 (by omega) (by omega) ⟨rfl, ((mFr.rf _ _).sI (by decide)), v12_, 0, rfl, ⟨by omega, by omega⟩, (by simp (disch := omega) only [y_I_s_I, x_I_s_I, z_I_s_J, z_I_s_A, z_I_s_B, e_er]), ⟨by omega, by omega⟩, (by omega)⟩
    ·
      refine v_aload_n hX dX13_error_28 (i := 0) rfl rfl ?_
      refine v_iconst hX (v := iI 1) dX13_error_29 rfl ?_
      refine v_callV hX (n := 1) (k_fail (S := (s_I S 1102 x (iI 0))) (x := x) (c := 1) (mS.sI h) ⟨by omega, by omega⟩) (ms_kx (mS.sI h)) bc_11 (by decide) w_6_202 w_6_204 (bw_p (q := (yX13_fail, 72)) (List.mem_of_getElem? (i := 40) rfl) rfl) w_1_16 w_6_205 (by decide +kernel) rfl ⟨by decide, by decide⟩ ⟨by omega, by omega⟩ (Nat.le_of_ble_eq_true rfl) rfl dX13_error_30 (fun _ _ _ q => q) ?_
      rintro r13_ S13_ z13_ ⟨rfl, f13_, v14_, v15_, rfl, b_v14_, e_v15_, b_v15_, q13_⟩
      have e13_1153 : m_I S13_ 1153 x = iI er := (f13_.2.2.2.1 1153 (by decide)).trans (by simp (disch := omega) only [y_I_s_I, x_I_s_I, z_I_s_J, z_I_s_A, z_I_s_B, e_er])
      have h13_ : mS S13_ x := f13_.keep (mS.sI h)
      exact v_ireturn hX hE dX13_error_33 (by omega) (by omega) ⟨rfl, (((mFr.rf _ _).sI (by decide)).tr (f13_.mono (by decide) (by decide) (by decide))), v14_, v15_, rfl, ⟨by omega, by omega⟩, (by simp (disch := omega) only [y_I_s_I, x_I_s_I, z_I_s_J, z_I_s_A, z_I_s_B, e13_1153, e_v15_]), ⟨by omega, by omega⟩, (by omega)⟩
set_option maxRecDepth 100000 in
set_option maxHeartbeats 4000000 in
theorem k_word {kn : Nat → Nat} {B : Nat} {S : b_M} {z x : Nat} {i : Int} {wo_ : Int} (h : mS S x) (e_wo_ : m_I S 1157 x = iI wo_) (b_wo_ : -2147483648 ≤ wo_ ∧ wo_ < 2147483648) (b_i : -2147483648 ≤ i ∧ i < 2147483648) (p : 0 ≤ wo_ ∧ wo_ ≤ 65536) : b_C kn B yX13_word cX13_word 2 (some .int) 1 22 0 0 [.ref x, .int (iI i)] S z (fun r S' z' => z = z' ∧ mFr [1102] [] [] S S' x ∧ ∃ q t1 : Int, r = some (.int (iI q)) ∧ (-2147483648 ≤ q ∧ q < 2147483648) ∧ m_I S' 1102 x = iI t1 ∧ (-2147483648 ≤ t1 ∧ t1 < 2147483648) ∧ (t1 = 0 ∨ t1 = 1)) (fun _ _ _ => False) := by
  refine b_enter (by decide) (Nat.le_of_ble_eq_true rfl) ?_
  intro X hX hE hnL hkn hB hI_
  subst hkn; subst hB
  clear hI_
  change b_V X S z 0 0 0 [(0, .ref x), (1, .int (iI i))] []
  refine v_aload_n hX dX13_word_0 (i := 0) rfl rfl ?_
  refine v_iconst hX (v := iI 0) dX13_word_1 rfl ?_
  refine v_putI hX (ci := 11) (k := 2) (f := 1102) (ms_kx h) bc_11 (by decide) (by decide) in_11 tyX13_ok nmX13 w_5_218 (Or.inl rfl) rfl rfl dX13_word_2 rfl rfl ?_
  refine v_iload_n hX dX13_word_5 (i := 1) rfl rfl ?_
  refine v_iconst hX (v := iI 0) dX13_word_6 rfl ?_
  refine v_aload_n hX dX13_word_7 (i := 0) rfl rfl ?_
  refine v_get hX (ci := 11) (k := 57) (ms_kx (mS.sI h)) bc_11 (by decide) (by decide) in_11 w_6_33 dX13_word_8 (mvF (f := 1157) (v := iI wo_) rfl rfl (by simp (disch := omega) only [y_I_s_I, x_I_s_I, z_I_s_J, z_I_s_A, z_I_s_B, e_wo_])) ?_
  refine v_iconst hX (v := iI 1) dX13_word_11 rfl ?_
  refine u_isub hX dX13_word_12 ?_
  refine v_callS hX (n := 3) (k_within (S := (s_I S 1102 x (iI 0))) (x := 0) (v := i) (a := 0) (b := (wo_ - 1)) ⟨by omega, by omega⟩ ⟨by omega, by omega⟩ ⟨by omega, by omega⟩) w_6_210 w_6_211 w_1_16 w_6_212 (by decide +kernel) rfl ⟨by decide, by decide⟩ ⟨by omega, by omega⟩ (Nat.le_of_ble_eq_true rfl) rfl dX13_word_13 (fun _ _ _ q => q) ?_
  rintro r1_ S1_ z1_ ⟨rfl, rfl, v2_, rfl, b_v2_, q1_⟩
  refine u_if_eq hX (tgt := 28) dX13_word_16 (by decide) ⟨by omega, by omega⟩ (fun h3_ => ?_) (fun h3_ => ?_)
  ·
    refine v_aload_n hX dX13_word_28 (i := 0) rfl rfl ?_
    refine v_iconst hX (v := iI 1) dX13_word_29 rfl ?_
    refine v_callV hX (n := 1) (k_fail (S := (s_I S 1102 x (iI 0))) (x := x) (c := 1) (mS.sI h) ⟨by omega, by omega⟩) (ms_kx (mS.sI h)) bc_11 (by decide) w_6_202 w_6_204 (bw_p (q := (yX13_fail, 72)) (List.mem_of_getElem? (i := 40) rfl) rfl) w_1_16 w_6_205 (by decide +kernel) rfl ⟨by decide, by decide⟩ ⟨by omega, by omega⟩ (Nat.le_of_ble_eq_true rfl) rfl dX13_word_30 (fun _ _ _ q => q) ?_
    rintro r4_ S4_ z4_ ⟨rfl, f4_, v5_, v6_, rfl, b_v5_, e_v6_, b_v6_, q4_⟩
    have e4_1157 : m_I S4_ 1157 x = iI wo_ := (f4_.2.2.2.1 1157 (by decide)).trans (by simp (disch := omega) only [y_I_s_I, x_I_s_I, z_I_s_J, z_I_s_A, z_I_s_B, e_wo_])
    have h4_ : mS S4_ x := f4_.keep (mS.sI h)
    exact v_ireturn hX hE dX13_word_33 (by omega) (by omega) ⟨rfl, (((mFr.rf _ _).sI (by decide)).tr (f4_.mono (by decide) (by decide) (by decide))), v5_, v6_, rfl, ⟨by omega, by omega⟩, (by simp (disch := omega) only [y_I_s_I, x_I_s_I, z_I_s_J, z_I_s_A, z_I_s_B, e4_1157, e_v6_]), ⟨by omega, by omega⟩, (by omega)⟩
  ·
    refine v_aload_n hX dX13_word_19 (i := 0) rfl rfl ?_
    refine v_get hX (ci := 11) (k := 61) (ms_kx (mS.sI h)) bc_11 (by decide) (by decide) in_11 w_6_37 dX13_word_20 (mvP (f := 1161) (q := (x + 38)) rfl rfl (ms_p_1161 (mS.sI h))) ?_
    refine v_iload_n hX dX13_word_23 (i := 1) rfl rfl ?_
    refine u_iald hX (L := 65536) (ms_k_1161 (mS.sI h)) (ms_l_1161 (mS.sI h)) ⟨by omega, by omega⟩ (by decide) dX13_word_24 (fun v7_ e_v7_ b_v7_ => ?_)
    try simp (disch := omega) only [zr_I, zr_J, zr_B, rA_A, zl_I, zl_J, zl_A, lA_B] at e_v7_
    refine v_goto hX (tgt := 33) dX13_word_25 (by decide) ?_
    exact v_ireturn hX hE dX13_word_33 (by omega) (by omega) ⟨rfl, ((mFr.rf _ _).sI (by decide)), v7_, 0, rfl, ⟨by omega, by omega⟩, (by simp (disch := omega) only [y_I_s_I, x_I_s_I, z_I_s_J, z_I_s_A, z_I_s_B, e_wo_]), ⟨by omega, by omega⟩, (by omega)⟩
set_option maxRecDepth 100000 in
set_option maxHeartbeats 4000000 in
theorem k_statement {kn : Nat → Nat} {B : Nat} {S : b_M} {z x : Nat} {k : Int} {what : Int} {st_ : Int} (h : mS S x) (e_st_ : m_I S 1128 x = iI st_) (b_st_ : -2147483648 ≤ st_ ∧ st_ < 2147483648) (b_k : -2147483648 ≤ k ∧ k < 2147483648) (b_what : -2147483648 ≤ what ∧ what < 2147483648) (mo : ∀ j : Int, 0 ≤ j → j < st_ → 0 ≤ rAt S (x + 21) j ∧ rAt S (x + 21) j ≤ 8 ∧ 0 ≤ rAt S (x + 23) j ∧ rAt S (x + 23) j ≤ 1000) (p : 0 ≤ st_ ∧ st_ ≤ 400) : b_C kn B yX13_statement cX13_statement 3 (some .int) 2 45 0 0 [.ref x, .int (iI k), .int (iI what)] S z (fun r S' z' => z = z' ∧ mFr [1102] [] [] S S' x ∧ ∃ q t1 : Int, r = some (.int (iI q)) ∧ (-2147483648 ≤ q ∧ q < 2147483648) ∧ m_I S' 1102 x = iI t1 ∧ (-2147483648 ≤ t1 ∧ t1 < 2147483648) ∧ (t1 = 0 ∨ t1 = 1)) (fun _ _ _ => False) := by
  refine b_enter (by decide) (Nat.le_of_ble_eq_true rfl) ?_
  intro X hX hE hnL hkn hB hI_
  subst hkn; subst hB
  clear hI_
  change b_V X S z 0 0 0 [(0, .ref x), (1, .int (iI k)), (2, .int (iI what))] []
  refine v_aload_n hX dX13_statement_0 (i := 0) rfl rfl ?_
  refine v_iconst hX (v := iI 0) dX13_statement_1 rfl ?_
  refine v_putI hX (ci := 11) (k := 2) (f := 1102) (ms_kx h) bc_11 (by decide) (by decide) in_11 tyX13_ok nmX13 w_5_218 (Or.inl rfl) rfl rfl dX13_statement_2 rfl rfl ?_
  refine v_iload_n hX dX13_statement_5 (i := 1) rfl rfl ?_
  refine v_iconst hX (v := iI 0) dX13_statement_6 rfl ?_
  refine v_aload_n hX dX13_statement_7 (i := 0) rfl rfl ?_
  refine v_get hX (ci := 11) (k := 28) (ms_kx (mS.sI h)) bc_11 (by decide) (by decide) in_11 w_6_4 dX13_statement_8 (mvF (f := 1128) (v := iI st_) rfl rfl (by simp (disch := omega) only [y_I_s_I, x_I_s_I, z_I_s_J, z_I_s_A, z_I_s_B, e_st_])) ?_
  refine v_iconst hX (v := iI 1) dX13_statement_11 rfl ?_
  refine u_isub hX dX13_statement_12 ?_
  refine v_callS hX (n := 3) (k_within (S := (s_I S 1102 x (iI 0))) (x := 0) (v := k) (a := 0) (b := (st_ - 1)) ⟨by omega, by omega⟩ ⟨by omega, by omega⟩ ⟨by omega, by omega⟩) w_6_210 w_6_211 w_1_16 w_6_212 (by decide +kernel) rfl ⟨by decide, by decide⟩ ⟨by omega, by omega⟩ (Nat.le_of_ble_eq_true rfl) rfl dX13_statement_13 (fun _ _ _ q => q) ?_
  rintro r1_ S1_ z1_ ⟨rfl, rfl, v2_, rfl, b_v2_, q1_⟩
  refine u_if_eq hX (tgt := 28) dX13_statement_16 (by decide) ⟨by omega, by omega⟩ (fun h3_ => ?_) (fun h3_ => ?_)
  ·
    refine v_aload_n hX dX13_statement_28 (i := 0) rfl rfl ?_
    refine v_iconst hX (v := iI 1) dX13_statement_29 rfl ?_
    refine v_callV hX (n := 1) (k_fail (S := (s_I S 1102 x (iI 0))) (x := x) (c := 1) (mS.sI h) ⟨by omega, by omega⟩) (ms_kx (mS.sI h)) bc_11 (by decide) w_6_202 w_6_204 (bw_p (q := (yX13_fail, 72)) (List.mem_of_getElem? (i := 40) rfl) rfl) w_1_16 w_6_205 (by decide +kernel) rfl ⟨by decide, by decide⟩ ⟨by omega, by omega⟩ (Nat.le_of_ble_eq_true rfl) rfl dX13_statement_30 (fun _ _ _ q => q) ?_
    rintro r4_ S4_ z4_ ⟨rfl, f4_, v5_, v6_, rfl, b_v5_, e_v6_, b_v6_, q4_⟩
    have e4_1128 : m_I S4_ 1128 x = iI st_ := (f4_.2.2.2.1 1128 (by decide)).trans (by simp (disch := omega) only [y_I_s_I, x_I_s_I, z_I_s_J, z_I_s_A, z_I_s_B, e_st_])
    have h4_ : mS S4_ x := f4_.keep (mS.sI h)
    have hc4_18 : ∀ i, rAt S4_ (x + 18) i = rAt S (x + 18) i := fun i => ((f4_.1 (x + 18) (by omega) (fun j hj => absurd hj List.not_mem_nil)).rA i).trans (by simp (disch := omega) only [zr_I, zr_J, zr_B, rA_A, zl_I, zl_J, zl_A, lA_B])
    have hc4_21 : ∀ i, rAt S4_ (x + 21) i = rAt S (x + 21) i := fun i => ((f4_.1 (x + 21) (by omega) (fun j hj => absurd hj List.not_mem_nil)).rA i).trans (by simp (disch := omega) only [zr_I, zr_J, zr_B, rA_A, zl_I, zl_J, zl_A, lA_B])
    have hc4_23 : ∀ i, rAt S4_ (x + 23) i = rAt S (x + 23) i := fun i => ((f4_.1 (x + 23) (by omega) (fun j hj => absurd hj List.not_mem_nil)).rA i).trans (by simp (disch := omega) only [zr_I, zr_J, zr_B, rA_A, zl_I, zl_J, zl_A, lA_B])
    have hc4_25 : ∀ i, rAt S4_ (x + 25) i = rAt S (x + 25) i := fun i => ((f4_.1 (x + 25) (by omega) (fun j hj => absurd hj List.not_mem_nil)).rA i).trans (by simp (disch := omega) only [zr_I, zr_J, zr_B, rA_A, zl_I, zl_J, zl_A, lA_B])
    exact v_ireturn hX hE dX13_statement_33 (by omega) (by omega) ⟨rfl, (((mFr.rf _ _).sI (by decide)).tr (f4_.mono (by decide) (by decide) (by decide))), v5_, v6_, rfl, ⟨by omega, by omega⟩, (by simp (disch := omega) only [y_I_s_I, x_I_s_I, z_I_s_J, z_I_s_A, z_I_s_B, e4_1128, e_v6_]), ⟨by omega, by omega⟩, (by omega)⟩
  ·
    refine v_iload_n hX dX13_statement_19 (i := 2) rfl rfl ?_
    refine v_iconst hX (v := iI 0) dX13_statement_20 rfl ?_
    refine v_iconst hX (v := iI 3) dX13_statement_21 rfl ?_
    refine v_callS hX (n := 3) (k_within (S := (s_I S 1102 x (iI 0))) (x := 0) (v := what) (a := 0) (b := 3) ⟨by omega, by omega⟩ ⟨by omega, by omega⟩ ⟨by omega, by omega⟩) w_6_210 w_6_211 w_1_16 w_6_212 (by decide +kernel) rfl ⟨by decide, by decide⟩ ⟨by omega, by omega⟩ (Nat.le_of_ble_eq_true rfl) rfl dX13_statement_22 (fun _ _ _ q => q) ?_
    rintro r7_ S7_ z7_ ⟨rfl, rfl, v8_, rfl, b_v8_, q7_⟩
    refine u_if_ne hX (tgt := 34) dX13_statement_25 (by decide) ⟨by omega, by omega⟩ (fun h9_ => ?_) (fun h9_ => ?_)
    ·
      refine v_iload_n hX dX13_statement_34 (i := 2) rfl rfl ?_
      refine u_if_ne hX (tgt := 47) dX13_statement_35 (by decide) ⟨by omega, by omega⟩ (fun h10_ => ?_) (fun h10_ => ?_)
      ·
        refine v_iload_n hX dX13_statement_47 (i := 2) rfl rfl ?_
        refine v_iconst hX (v := iI 1) dX13_statement_48 rfl ?_
        refine u_icmp_ne hX (tgt := 61) dX13_statement_49 (by decide) ⟨by omega, by omega⟩ ⟨by omega, by omega⟩ (fun h11_ => ?_) (fun h11_ => ?_)
        ·
          refine v_iload_n hX dX13_statement_61 (i := 2) rfl rfl ?_
          refine v_iconst hX (v := iI 2) dX13_statement_62 rfl ?_
          refine u_icmp_ne hX (tgt := 74) dX13_statement_63 (by decide) ⟨by omega, by omega⟩ ⟨by omega, by omega⟩ (fun h12_ => ?_) (fun h12_ => ?_)
          ·
            refine v_aload_n hX dX13_statement_74 (i := 0) rfl rfl ?_
            refine v_get hX (ci := 11) (k := 37) (ms_kx (mS.sI h)) bc_11 (by decide) (by decide) in_11 w_6_13 dX13_statement_75 (mvP (f := 1137) (q := (x + 25)) rfl rfl (ms_p_1137 (mS.sI h))) ?_
            refine v_iload_n hX dX13_statement_78 (i := 1) rfl rfl ?_
            refine u_zald hX (L := 400) (ms_k_1137 (mS.sI h)) (ms_l_1137 (mS.sI h)) ⟨by omega, by omega⟩ (by decide) dX13_statement_79 (fun v13_ e_v13_ b_v13_ => ?_)
            try simp (disch := omega) only [zr_I, zr_J, zr_B, rA_A, zl_I, zl_J, zl_A, lA_B] at e_v13_
            refine u_if_eq hX (tgt := 87) dX13_statement_80 (by decide) ⟨by omega, by omega⟩ (fun h14_ => ?_) (fun h14_ => ?_)
            ·
              refine v_iconst hX (v := iI 0) dX13_statement_87 rfl ?_
              exact v_ireturn hX hE dX13_statement_88 (by omega) (by omega) ⟨rfl, ((mFr.rf _ _).sI (by decide)), 0, 0, rfl, ⟨by omega, by omega⟩, (by simp (disch := omega) only [y_I_s_I, x_I_s_I, z_I_s_J, z_I_s_A, z_I_s_B, e_st_]), ⟨by omega, by omega⟩, (by omega)⟩
            ·
              refine v_iconst hX (v := iI 1) dX13_statement_83 rfl ?_
              refine v_goto hX (tgt := 88) dX13_statement_84 (by decide) ?_
              exact v_ireturn hX hE dX13_statement_88 (by omega) (by omega) ⟨rfl, ((mFr.rf _ _).sI (by decide)), 1, 0, rfl, ⟨by omega, by omega⟩, (by simp (disch := omega) only [y_I_s_I, x_I_s_I, z_I_s_J, z_I_s_A, z_I_s_B, e_st_]), ⟨by omega, by omega⟩, (by omega)⟩
          ·
            have g66_ := mo k (by omega) (by omega)
            refine v_aload_n hX dX13_statement_66 (i := 0) rfl rfl ?_
            refine v_iload_n hX dX13_statement_67 (i := 1) rfl rfl ?_
            refine v_callV hX (n := 1) (k_wordsOf2 (S := (s_I S 1102 x (iI 0))) (x := x) (sx := k) (mS.sI h) ⟨by omega, by omega⟩ (by (try simp (disch := omega) only [zr_I, zr_J, zr_B, rA_A, zl_I, zl_J, zl_A, lA_B]); omega)) (ms_kx (mS.sI h)) bc_11 (by decide) w_7_166 w_7_168 (bw_p (q := (yX13_wordsOf, 72)) (List.mem_of_getElem? (i := 82) rfl) rfl) w_1_16 w_7_169 (by decide +kernel) rfl ⟨by decide, by decide⟩ ⟨by omega, by omega⟩ (Nat.le_of_ble_eq_true rfl) rfl dX13_statement_68 (fun _ _ _ q => q) ?_
            rintro r15_ S15_ z15_ ⟨rfl, rfl, v16_, rfl, b_v16_, q15_⟩
            refine v_goto hX (tgt := 88) dX13_statement_71 (by decide) ?_
            exact v_ireturn hX hE dX13_statement_88 (by omega) (by omega) ⟨rfl, ((mFr.rf _ _).sI (by decide)), v16_, 0, rfl, ⟨by omega, by omega⟩, (by simp (disch := omega) only [y_I_s_I, x_I_s_I, z_I_s_J, z_I_s_A, z_I_s_B, e_st_]), ⟨by omega, by omega⟩, (by omega)⟩
        ·
          refine v_aload_n hX dX13_statement_52 (i := 0) rfl rfl ?_
          refine v_get hX (ci := 11) (k := 38) (ms_kx (mS.sI h)) bc_11 (by decide) (by decide) in_11 w_6_14 dX13_statement_53 (mvP (f := 1138) (q := (x + 26)) rfl rfl (ms_p_1138 (mS.sI h))) ?_
          refine v_iload_n hX dX13_statement_56 (i := 1) rfl rfl ?_
          refine u_iald hX (L := 400) (ms_k_1138 (mS.sI h)) (ms_l_1138 (mS.sI h)) ⟨by omega, by omega⟩ (by decide) dX13_statement_57 (fun v17_ e_v17_ b_v17_ => ?_)
          try simp (disch := omega) only [zr_I, zr_J, zr_B, rA_A, zl_I, zl_J, zl_A, lA_B] at e_v17_
          refine v_goto hX (tgt := 88) dX13_statement_58 (by decide) ?_
          exact v_ireturn hX hE dX13_statement_88 (by omega) (by omega) ⟨rfl, ((mFr.rf _ _).sI (by decide)), v17_, 0, rfl, ⟨by omega, by omega⟩, (by simp (disch := omega) only [y_I_s_I, x_I_s_I, z_I_s_J, z_I_s_A, z_I_s_B, e_st_]), ⟨by omega, by omega⟩, (by omega)⟩
      ·
        refine v_aload_n hX dX13_statement_38 (i := 0) rfl rfl ?_
        refine v_get hX (ci := 11) (k := 29) (ms_kx (mS.sI h)) bc_11 (by decide) (by decide) in_11 w_6_5 dX13_statement_39 (mvP (f := 1129) (q := (x + 17)) rfl rfl (ms_p_1129 (mS.sI h))) ?_
        refine v_iload_n hX dX13_statement_42 (i := 1) rfl rfl ?_
        refine u_iald hX (L := 400) (ms_k_1129 (mS.sI h)) (ms_l_1129 (mS.sI h)) ⟨by omega, by omega⟩ (by decide) dX13_statement_43 (fun v18_ e_v18_ b_v18_ => ?_)
        try simp (disch := omega) only [zr_I, zr_J, zr_B, rA_A, zl_I, zl_J, zl_A, lA_B] at e_v18_
        refine v_goto hX (tgt := 88) dX13_statement_44 (by decide) ?_
        exact v_ireturn hX hE dX13_statement_88 (by omega) (by omega) ⟨rfl, ((mFr.rf _ _).sI (by decide)), v18_, 0, rfl, ⟨by omega, by omega⟩, (by simp (disch := omega) only [y_I_s_I, x_I_s_I, z_I_s_J, z_I_s_A, z_I_s_B, e_st_]), ⟨by omega, by omega⟩, (by omega)⟩
    ·
      refine v_aload_n hX dX13_statement_28 (i := 0) rfl rfl ?_
      refine v_iconst hX (v := iI 1) dX13_statement_29 rfl ?_
      refine v_callV hX (n := 1) (k_fail (S := (s_I S 1102 x (iI 0))) (x := x) (c := 1) (mS.sI h) ⟨by omega, by omega⟩) (ms_kx (mS.sI h)) bc_11 (by decide) w_6_202 w_6_204 (bw_p (q := (yX13_fail, 72)) (List.mem_of_getElem? (i := 40) rfl) rfl) w_1_16 w_6_205 (by decide +kernel) rfl ⟨by decide, by decide⟩ ⟨by omega, by omega⟩ (Nat.le_of_ble_eq_true rfl) rfl dX13_statement_30 (fun _ _ _ q => q) ?_
      rintro r19_ S19_ z19_ ⟨rfl, f19_, v20_, v21_, rfl, b_v20_, e_v21_, b_v21_, q19_⟩
      have e19_1128 : m_I S19_ 1128 x = iI st_ := (f19_.2.2.2.1 1128 (by decide)).trans (by simp (disch := omega) only [y_I_s_I, x_I_s_I, z_I_s_J, z_I_s_A, z_I_s_B, e_st_])
      have h19_ : mS S19_ x := f19_.keep (mS.sI h)
      have hc19_18 : ∀ i, rAt S19_ (x + 18) i = rAt S (x + 18) i := fun i => ((f19_.1 (x + 18) (by omega) (fun j hj => absurd hj List.not_mem_nil)).rA i).trans (by simp (disch := omega) only [zr_I, zr_J, zr_B, rA_A, zl_I, zl_J, zl_A, lA_B])
      have hc19_21 : ∀ i, rAt S19_ (x + 21) i = rAt S (x + 21) i := fun i => ((f19_.1 (x + 21) (by omega) (fun j hj => absurd hj List.not_mem_nil)).rA i).trans (by simp (disch := omega) only [zr_I, zr_J, zr_B, rA_A, zl_I, zl_J, zl_A, lA_B])
      have hc19_23 : ∀ i, rAt S19_ (x + 23) i = rAt S (x + 23) i := fun i => ((f19_.1 (x + 23) (by omega) (fun j hj => absurd hj List.not_mem_nil)).rA i).trans (by simp (disch := omega) only [zr_I, zr_J, zr_B, rA_A, zl_I, zl_J, zl_A, lA_B])
      have hc19_25 : ∀ i, rAt S19_ (x + 25) i = rAt S (x + 25) i := fun i => ((f19_.1 (x + 25) (by omega) (fun j hj => absurd hj List.not_mem_nil)).rA i).trans (by simp (disch := omega) only [zr_I, zr_J, zr_B, rA_A, zl_I, zl_J, zl_A, lA_B])
      exact v_ireturn hX hE dX13_statement_33 (by omega) (by omega) ⟨rfl, (((mFr.rf _ _).sI (by decide)).tr (f19_.mono (by decide) (by decide) (by decide))), v20_, v21_, rfl, ⟨by omega, by omega⟩, (by simp (disch := omega) only [y_I_s_I, x_I_s_I, z_I_s_J, z_I_s_A, z_I_s_B, e19_1128, e_v21_]), ⟨by omega, by omega⟩, (by omega)⟩
set_option maxRecDepth 100000 in
set_option maxHeartbeats 4000000 in
theorem k_count {kn : Nat → Nat} {B : Nat} {S : b_M} {z x : Nat} {what : Int} (h : mS S x) (b_what : -2147483648 ≤ what ∧ what < 2147483648) : b_C kn B yX13_count cX13_count 2 (some .int) 0 0 0 0 [.ref x, .int (iI what)] S z (fun r S' z' => z = z' ∧ mFr [1102] [] [] S S' x ∧ ∃ q t1 : Int, r = some (.int (iI q)) ∧ (-2147483648 ≤ q ∧ q < 2147483648) ∧ m_I S' 1102 x = iI t1 ∧ (-2147483648 ≤ t1 ∧ t1 < 2147483648) ∧ (t1 = 0)) (fun _ _ _ => False) := by
  refine b_enter (by decide) (Nat.le_of_ble_eq_true rfl) ?_
  intro X hX hE hnL hkn hB hI_
  subst hkn; subst hB
  clear hI_
  change b_V X S z 0 0 0 [(0, .ref x), (1, .int (iI what))] []
  refine v_aload_n hX dX13_count_0 (i := 0) rfl rfl ?_
  refine v_iconst hX (v := iI 0) dX13_count_1 rfl ?_
  refine v_putI hX (ci := 11) (k := 2) (f := 1102) (ms_kx h) bc_11 (by decide) (by decide) in_11 tyX13_ok nmX13 w_5_218 (Or.inl rfl) rfl rfl dX13_count_2 rfl rfl ?_
  refine v_iload_n hX dX13_count_5 (i := 1) rfl rfl ?_
  by_cases h1_ : 0 ≤ what ∧ what ≤ 9
  ·
    have h2_ : what = 0 ∨ what = 1 ∨ what = 2 ∨ what = 3 ∨ what = 4 ∨ what = 5 ∨ what = 6 ∨ what = 7 ∨ what = 8 ∨ what = 9 := by omega
    rcases h2_ with h2_ | h2_ | h2_ | h2_ | h2_ | h2_ | h2_ | h2_ | h2_ | h2_
    ·
      refine v_tableIn hX (off := 54) (tgt := 60) dX13_count_6 (by rw [iI_to ⟨by omega, by omega⟩]; omega) (by rw [iI_to ⟨by omega, by omega⟩]; omega) (by rw [iI_to ⟨by omega, by omega⟩, h2_]; rfl) (by decide) ?_
      refine v_aload_n hX dX13_count_60 (i := 0) rfl rfl ?_
      obtain ⟨v3_, e_v3_, b_v3_⟩ := i_ex (m_I S 1103 x)
      refine v_get hX (ci := 11) (k := 3) (ms_kx (mS.sI h)) bc_11 (by decide) (by decide) in_11 w_5_219 dX13_count_61 (mvF (f := 1103) (v := iI v3_) rfl rfl (by simp (disch := omega) only [y_I_s_I, x_I_s_I, z_I_s_J, z_I_s_A, z_I_s_B, e_v3_])) ?_
      exact v_ireturn hX hE dX13_count_64 (by omega) (by omega) ⟨rfl, ((mFr.rf _ _).sI (by decide)), v3_, 0, rfl, ⟨by omega, by omega⟩, (by simp (disch := omega) only [y_I_s_I, x_I_s_I, z_I_s_J, z_I_s_A, z_I_s_B, e_v3_]), ⟨by omega, by omega⟩, (by omega)⟩
    ·
      refine v_tableIn hX (off := 59) (tgt := 65) dX13_count_6 (by rw [iI_to ⟨by omega, by omega⟩]; omega) (by rw [iI_to ⟨by omega, by omega⟩]; omega) (by rw [iI_to ⟨by omega, by omega⟩, h2_]; rfl) (by decide) ?_
      refine v_aload_n hX dX13_count_65 (i := 0) rfl rfl ?_
      obtain ⟨v4_, e_v4_, b_v4_⟩ := i_ex (m_I S 1157 x)
      refine v_get hX (ci := 11) (k := 57) (ms_kx (mS.sI h)) bc_11 (by decide) (by decide) in_11 w_6_33 dX13_count_66 (mvF (f := 1157) (v := iI v4_) rfl rfl (by simp (disch := omega) only [y_I_s_I, x_I_s_I, z_I_s_J, z_I_s_A, z_I_s_B, e_v4_])) ?_
      exact v_ireturn hX hE dX13_count_69 (by omega) (by omega) ⟨rfl, ((mFr.rf _ _).sI (by decide)), v4_, 0, rfl, ⟨by omega, by omega⟩, (by simp (disch := omega) only [y_I_s_I, x_I_s_I, z_I_s_J, z_I_s_A, z_I_s_B, e_v4_]), ⟨by omega, by omega⟩, (by omega)⟩
    ·
      refine v_tableIn hX (off := 64) (tgt := 70) dX13_count_6 (by rw [iI_to ⟨by omega, by omega⟩]; omega) (by rw [iI_to ⟨by omega, by omega⟩]; omega) (by rw [iI_to ⟨by omega, by omega⟩, h2_]; rfl) (by decide) ?_
      refine v_aload_n hX dX13_count_70 (i := 0) rfl rfl ?_
      obtain ⟨v5_, e_v5_, b_v5_⟩ := i_ex (m_I S 1128 x)
      refine v_get hX (ci := 11) (k := 28) (ms_kx (mS.sI h)) bc_11 (by decide) (by decide) in_11 w_6_4 dX13_count_71 (mvF (f := 1128) (v := iI v5_) rfl rfl (by simp (disch := omega) only [y_I_s_I, x_I_s_I, z_I_s_J, z_I_s_A, z_I_s_B, e_v5_])) ?_
      exact v_ireturn hX hE dX13_count_74 (by omega) (by omega) ⟨rfl, ((mFr.rf _ _).sI (by decide)), v5_, 0, rfl, ⟨by omega, by omega⟩, (by simp (disch := omega) only [y_I_s_I, x_I_s_I, z_I_s_J, z_I_s_A, z_I_s_B, e_v5_]), ⟨by omega, by omega⟩, (by omega)⟩
    ·
      refine v_tableIn hX (off := 69) (tgt := 75) dX13_count_6 (by rw [iI_to ⟨by omega, by omega⟩]; omega) (by rw [iI_to ⟨by omega, by omega⟩]; omega) (by rw [iI_to ⟨by omega, by omega⟩, h2_]; rfl) (by decide) ?_
      refine v_aload_n hX dX13_count_75 (i := 0) rfl rfl ?_
      obtain ⟨v6_, e_v6_, b_v6_⟩ := i_ex (m_I S 1139 x)
      refine v_get hX (ci := 11) (k := 39) (ms_kx (mS.sI h)) bc_11 (by decide) (by decide) in_11 w_6_15 dX13_count_76 (mvF (f := 1139) (v := iI v6_) rfl rfl (by simp (disch := omega) only [y_I_s_I, x_I_s_I, z_I_s_J, z_I_s_A, z_I_s_B, e_v6_])) ?_
      exact v_ireturn hX hE dX13_count_79 (by omega) (by omega) ⟨rfl, ((mFr.rf _ _).sI (by decide)), v6_, 0, rfl, ⟨by omega, by omega⟩, (by simp (disch := omega) only [y_I_s_I, x_I_s_I, z_I_s_J, z_I_s_A, z_I_s_B, e_v6_]), ⟨by omega, by omega⟩, (by omega)⟩
    ·
      refine v_tableIn hX (off := 74) (tgt := 80) dX13_count_6 (by rw [iI_to ⟨by omega, by omega⟩]; omega) (by rw [iI_to ⟨by omega, by omega⟩]; omega) (by rw [iI_to ⟨by omega, by omega⟩, h2_]; rfl) (by decide) ?_
      refine v_aload_n hX dX13_count_80 (i := 0) rfl rfl ?_
      obtain ⟨v7_, e_v7_, b_v7_⟩ := i_ex (m_I S 1148 x)
      refine v_get hX (ci := 11) (k := 48) (ms_kx (mS.sI h)) bc_11 (by decide) (by decide) in_11 w_6_24 dX13_count_81 (mvF (f := 1148) (v := iI v7_) rfl rfl (by simp (disch := omega) only [y_I_s_I, x_I_s_I, z_I_s_J, z_I_s_A, z_I_s_B, e_v7_])) ?_
      exact v_ireturn hX hE dX13_count_84 (by omega) (by omega) ⟨rfl, ((mFr.rf _ _).sI (by decide)), v7_, 0, rfl, ⟨by omega, by omega⟩, (by simp (disch := omega) only [y_I_s_I, x_I_s_I, z_I_s_J, z_I_s_A, z_I_s_B, e_v7_]), ⟨by omega, by omega⟩, (by omega)⟩
    ·
      refine v_tableIn hX (off := 79) (tgt := 85) dX13_count_6 (by rw [iI_to ⟨by omega, by omega⟩]; omega) (by rw [iI_to ⟨by omega, by omega⟩]; omega) (by rw [iI_to ⟨by omega, by omega⟩, h2_]; rfl) (by decide) ?_
      refine v_aload_n hX dX13_count_85 (i := 0) rfl rfl ?_
      obtain ⟨v8_, e_v8_, b_v8_⟩ := i_ex (m_I S 1112 x)
      refine v_get hX (ci := 11) (k := 12) (ms_kx (mS.sI h)) bc_11 (by decide) (by decide) in_11 w_5_228 dX13_count_86 (mvF (f := 1112) (v := iI v8_) rfl rfl (by simp (disch := omega) only [y_I_s_I, x_I_s_I, z_I_s_J, z_I_s_A, z_I_s_B, e_v8_])) ?_
      exact v_ireturn hX hE dX13_count_89 (by omega) (by omega) ⟨rfl, ((mFr.rf _ _).sI (by decide)), v8_, 0, rfl, ⟨by omega, by omega⟩, (by simp (disch := omega) only [y_I_s_I, x_I_s_I, z_I_s_J, z_I_s_A, z_I_s_B, e_v8_]), ⟨by omega, by omega⟩, (by omega)⟩
    ·
      refine v_tableIn hX (off := 84) (tgt := 90) dX13_count_6 (by rw [iI_to ⟨by omega, by omega⟩]; omega) (by rw [iI_to ⟨by omega, by omega⟩]; omega) (by rw [iI_to ⟨by omega, by omega⟩, h2_]; rfl) (by decide) ?_
      refine v_aload_n hX dX13_count_90 (i := 0) rfl rfl ?_
      obtain ⟨v9_, e_v9_, b_v9_⟩ := i_ex (m_I S 1114 x)
      refine v_get hX (ci := 11) (k := 14) (ms_kx (mS.sI h)) bc_11 (by decide) (by decide) in_11 w_5_230 dX13_count_91 (mvF (f := 1114) (v := iI v9_) rfl rfl (by simp (disch := omega) only [y_I_s_I, x_I_s_I, z_I_s_J, z_I_s_A, z_I_s_B, e_v9_])) ?_
      exact v_ireturn hX hE dX13_count_94 (by omega) (by omega) ⟨rfl, ((mFr.rf _ _).sI (by decide)), v9_, 0, rfl, ⟨by omega, by omega⟩, (by simp (disch := omega) only [y_I_s_I, x_I_s_I, z_I_s_J, z_I_s_A, z_I_s_B, e_v9_]), ⟨by omega, by omega⟩, (by omega)⟩
    ·
      refine v_tableIn hX (off := 89) (tgt := 95) dX13_count_6 (by rw [iI_to ⟨by omega, by omega⟩]; omega) (by rw [iI_to ⟨by omega, by omega⟩]; omega) (by rw [iI_to ⟨by omega, by omega⟩, h2_]; rfl) (by decide) ?_
      refine v_aload_n hX dX13_count_95 (i := 0) rfl rfl ?_
      obtain ⟨v10_, e_v10_, b_v10_⟩ := i_ex (m_I S 1158 x)
      refine v_get hX (ci := 11) (k := 58) (ms_kx (mS.sI h)) bc_11 (by decide) (by decide) in_11 w_6_34 dX13_count_96 (mvF (f := 1158) (v := iI v10_) rfl rfl (by simp (disch := omega) only [y_I_s_I, x_I_s_I, z_I_s_J, z_I_s_A, z_I_s_B, e_v10_])) ?_
      exact v_ireturn hX hE dX13_count_99 (by omega) (by omega) ⟨rfl, ((mFr.rf _ _).sI (by decide)), v10_, 0, rfl, ⟨by omega, by omega⟩, (by simp (disch := omega) only [y_I_s_I, x_I_s_I, z_I_s_J, z_I_s_A, z_I_s_B, e_v10_]), ⟨by omega, by omega⟩, (by omega)⟩
    ·
      refine v_tableIn hX (off := 94) (tgt := 100) dX13_count_6 (by rw [iI_to ⟨by omega, by omega⟩]; omega) (by rw [iI_to ⟨by omega, by omega⟩]; omega) (by rw [iI_to ⟨by omega, by omega⟩, h2_]; rfl) (by decide) ?_
      refine v_aload_n hX dX13_count_100 (i := 0) rfl rfl ?_
      obtain ⟨v11_, e_v11_, b_v11_⟩ := i_ex (m_I S 1153 x)
      refine v_get hX (ci := 11) (k := 53) (ms_kx (mS.sI h)) bc_11 (by decide) (by decide) in_11 w_6_29 dX13_count_101 (mvF (f := 1153) (v := iI v11_) rfl rfl (by simp (disch := omega) only [y_I_s_I, x_I_s_I, z_I_s_J, z_I_s_A, z_I_s_B, e_v11_])) ?_
      exact v_ireturn hX hE dX13_count_104 (by omega) (by omega) ⟨rfl, ((mFr.rf _ _).sI (by decide)), v11_, 0, rfl, ⟨by omega, by omega⟩, (by simp (disch := omega) only [y_I_s_I, x_I_s_I, z_I_s_J, z_I_s_A, z_I_s_B, e_v11_]), ⟨by omega, by omega⟩, (by omega)⟩
    ·
      refine v_tableIn hX (off := 99) (tgt := 105) dX13_count_6 (by rw [iI_to ⟨by omega, by omega⟩]; omega) (by rw [iI_to ⟨by omega, by omega⟩]; omega) (by rw [iI_to ⟨by omega, by omega⟩, h2_]; rfl) (by decide) ?_
      refine v_aload_n hX dX13_count_105 (i := 0) rfl rfl ?_
      obtain ⟨v12_, e_v12_, b_v12_⟩ := i_ex (m_I S 1159 x)
      refine v_get hX (ci := 11) (k := 59) (ms_kx (mS.sI h)) bc_11 (by decide) (by decide) in_11 w_6_35 dX13_count_106 (mvF (f := 1159) (v := iI v12_) rfl rfl (by simp (disch := omega) only [y_I_s_I, x_I_s_I, z_I_s_J, z_I_s_A, z_I_s_B, e_v12_])) ?_
      exact v_ireturn hX hE dX13_count_109 (by omega) (by omega) ⟨rfl, ((mFr.rf _ _).sI (by decide)), v12_, 0, rfl, ⟨by omega, by omega⟩, (by simp (disch := omega) only [y_I_s_I, x_I_s_I, z_I_s_J, z_I_s_A, z_I_s_B, e_v12_]), ⟨by omega, by omega⟩, (by omega)⟩
  ·
    refine v_tableOut hX (tgt := 110) dX13_count_6 (by rw [iI_to ⟨by omega, by omega⟩]; omega) (by decide) ?_
    refine v_iconst hX (v := iI (-1)) dX13_count_110 rfl ?_
    exact v_ireturn hX hE dX13_count_111 (by omega) (by omega) ⟨rfl, ((mFr.rf _ _).sI (by decide)), (-1), 0, rfl, ⟨by omega, by omega⟩, (by simp (disch := omega) only [y_I_s_I, x_I_s_I, z_I_s_J, z_I_s_A, z_I_s_B]), ⟨by omega, by omega⟩, (by omega)⟩
