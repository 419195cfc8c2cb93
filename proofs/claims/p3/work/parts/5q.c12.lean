set_option maxRecDepth 100000 in
set_option maxHeartbeats 4000000 in
theorem g_T_look {kn : Nat → Nat} {B : Nat} {S : b_M} {z x w : Nat} {oi : Nat} {dr : Nat} {lo : Int} {hi : Int} {mc ms : Nat} (h : cS S x) (e_oi : m_P S 908 (x + 418) = some (kn oi)) (o_oi : oi < 17) (e_dr : m_P S 907 (x + 418) = some dr) (hs_dr : isS x dr) (g_eI : eI S x w) (g_hM : hM S x w) (g_gN : gN S x) (g_sI : sI S x lo hi) (g_gL : gL S x) (g_gP : gP S x) (g_oOk : oOk kn S x) (rm_ : 2 * (2162688 - lA S x) ≤ (ms : Int) ∧ 2 * (2162688 - lA S x) ≤ 256 * (mc : Int)) (zw : x + 457 ≤ w ∧ w ≤ z) : a_C kn B yX11_look cX11_look 1 (some .int) 7 157 mc ms [.ref (x + 418)] S z (fun r S' z' uc us => z ≤ z' ∧ cFr [205, 206, 207, 701, 703, 704, 801, 802, 803, 804, 805, 806, 807, 808, 809, 810, 911, 912] [204, 800, 907, 908] [12, 13, 14, 431, 432, 435, 436, 439, 440, 443, 444, 447, 448, 451, 452, 455, 456] w S S' x ∧ ∃ q : Int, ∃ o1 d1 : Nat, r = some (.int (iI q)) ∧ (-2147483648 ≤ q ∧ q < 2147483648) ∧ m_P S' 908 (x + 418) = some (kn o1) ∧ o1 < 17 ∧ m_P S' 907 (x + 418) = some d1 ∧ isS x d1 ∧ ((us : Int) ≤ 2 * (lA S' x - lA S x) ∧ 256 * (uc : Int) ≤ (us : Int)) ∧ (True) ∧ (q = 0 → o1 = 3 → gO S' x lo hi) ∧ (eI S' x w) ∧ (hM S' x w) ∧ (sI S' x lo hi) ∧ (gL S' x) ∧ (oOk kn S' x)) (fun _ _ _ _ _ => False) := by
  refine a_enter (by decide) (Nat.le_of_ble_eq_true rfl) ?_
  intro X hX hE hnL hkn hB hI_
  subst hkn; subst hB
  clear hI_
  change b_V X S z 0 0 0 [(0, .ref (x + 418))] []
  have ab_ : lA S x ≤ 2162688 := lA_le g_eI g_hM
  refine v_aload_n hX dX11_look_0 (i := 0) rfl rfl ?_
  refine v_getsK hX (i := 0) (by decide) rfl w_2_116 dX11_look_1 ?_
  refine v_putP hX (ci := 9) (k := 8) (f := 908) (cs_k_418 h) bc_9 (by decide) (by decide) in_9 tyX11_ok nmX11 w_2_134 (Or.inl rfl) rfl rfl dX11_look_4 rfl rfl ?_
  refine v_aload_n hX dX11_look_7 (i := 0) rfl rfl ?_
  refine v_lconst hX (v := jJ 0) dX11_look_8 rfl ?_
  refine v_putJ hX (ci := 9) (k := 9) (f := 909) (cs_k_418 (cS.sP h (by decide) ⟨by omega, by omega⟩)) bc_9 (by decide) (by decide) in_9 tyX11_ok nmX11 w_2_135 (Or.inl rfl) rfl rfl dX11_look_9 rfl rfl ?_
  refine v_aload_n hX dX11_look_12 (i := 0) rfl rfl ?_
  refine v_lconst hX (v := jJ 0) dX11_look_13 rfl ?_
  refine v_putJ hX (ci := 9) (k := 10) (f := 910) (cs_k_418 (cS.sJ (cS.sP h (by decide) ⟨by omega, by omega⟩))) bc_9 (by decide) (by decide) in_9 tyX11_ok nmX11 w_2_136 (Or.inl rfl) rfl rfl dX11_look_14 rfl rfl ?_
  refine v_aload_n hX dX11_look_17 (i := 0) rfl rfl ?_
  refine v_aload_n hX dX11_look_18 (i := 0) rfl rfl ?_
  refine v_get hX (ci := 9) (k := 2) (cs_k_418 (cS.sJ (cS.sJ (cS.sP h (by decide) ⟨by omega, by omega⟩)))) bc_9 (by decide) (by decide) in_9 w_2_126 dX11_look_19 (mvP (f := 902) (q := (x + 11)) rfl rfl (cs_p_902 (cS.sJ (cS.sJ (cS.sP h (by decide) ⟨by omega, by omega⟩))))) ?_
  obtain ⟨v1_, e_v1_, b_v1_⟩ := i_ex (m_I S 205 (x + 11))
  refine v_get hX (ci := 2) (k := 5) (cs_k_11 (cS.sJ (cS.sJ (cS.sP h (by decide) ⟨by omega, by omega⟩)))) bc_2 (by decide) (by decide) in_2 w_1_111 dX11_look_22 (mvF (f := 205) (v := iI v1_) rfl rfl (by simp (disch := omega) only [y_I_s_I, x_I_s_I, z_I_s_J, z_I_s_A, z_I_s_B, z_I_s_P, e_v1_])) ?_
  refine v_putI hX (ci := 9) (k := 12) (f := 912) (cs_k_418 (cS.sJ (cS.sJ (cS.sP h (by decide) ⟨by omega, by omega⟩)))) bc_9 (by decide) (by decide) in_9 tyX11_ok nmX11 w_2_138 (Or.inl rfl) rfl rfl dX11_look_25 rfl rfl ?_
  refine v_aload_n hX dX11_look_28 (i := 0) rfl rfl ?_
  refine v_aload_n hX dX11_look_29 (i := 0) rfl rfl ?_
  refine v_get hX (ci := 9) (k := 0) (cs_k_418 (cS.sI (cS.sJ (cS.sJ (cS.sP h (by decide) ⟨by omega, by omega⟩))))) bc_9 (by decide) (by decide) in_9 w_2_124 dX11_look_30 (mvP (f := 900) (q := (x + 5)) rfl rfl (cs_p_900 (cS.sI (cS.sJ (cS.sJ (cS.sP h (by decide) ⟨by omega, by omega⟩)))))) ?_
  have a2_ : lA (s_I (s_J (s_J (s_P S 908 (x + 418) (some (b_kn X 0))) 909 (x + 418) (jJ 0)) 910 (x + 418) (jJ 0)) 912 (x + 418) (iI v1_)) x = lA S x := lA.fr g_eI g_hM (show cFr [912] [908] [] w S (s_I (s_J (s_J (s_P S 908 (x + 418) (some (b_kn X 0))) 909 (x + 418) (jJ 0)) 910 (x + 418) (jJ 0)) 912 (x + 418) (iI v1_)) x from (((((cFr.rf _ _).sP (by decide) ⟨by omega, by omega⟩).sJ ⟨by omega, by omega⟩).sJ ⟨by omega, by omega⟩).sI (by decide) ⟨by omega, by omega⟩)) (by decide)
  refine v_callV hX (n := 0) (g_P_draft (S := (s_I (s_J (s_J (s_P S 908 (x + 418) (some (b_kn X 0))) 909 (x + 418) (jJ 0)) 910 (x + 418) (jJ 0)) 912 (x + 418) (iI v1_))) (x := x) (w := w) (cS.sI (cS.sJ (cS.sJ (cS.sP h (by decide) ⟨by omega, by omega⟩)))) (gP.fr g_gP h (show cFr [912] [908] [] w S (s_I (s_J (s_J (s_P S 908 (x + 418) (some (b_kn X 0))) 909 (x + 418) (jJ 0)) 910 (x + 418) (jJ 0)) 912 (x + 418) (iI v1_)) x from (((((cFr.rf _ _).sP (by decide) ⟨by omega, by omega⟩).sJ ⟨by omega, by omega⟩).sJ ⟨by omega, by omega⟩).sI (by decide) ⟨by omega, by omega⟩)) (by decide))) (cs_k_5 (cS.sI (cS.sJ (cS.sJ (cS.sP h (by decide) ⟨by omega, by omega⟩))))) bc_6 (by decide) w_2_117 w_2_118 w_2_119 w_1_3 w_2_120 (by decide +kernel) rfl ⟨by decide, by decide⟩ ⟨by omega, by omega⟩ (Nat.le_of_ble_eq_true rfl) rfl dX11_look_33 (fun _ _ _ q => q) ?_
  rintro r3_ S3_ z3_ ⟨rfl, rfl, o4_, rfl, hs_o4_, q3_⟩
  refine v_putP hX (ci := 9) (k := 7) (f := 907) (cs_k_418 (cS.sI (cS.sJ (cS.sJ (cS.sP h (by decide) ⟨by omega, by omega⟩))))) bc_9 (by decide) (by decide) in_9 tyX11_ok nmX11 w_2_133 (Or.inl rfl) rfl rfl dX11_look_36 rfl rfl ?_
  refine v_aload_n hX dX11_look_39 (i := 0) rfl rfl ?_
  refine v_get hX (ci := 9) (k := 7) (cs_k_418 (cS.sP (cS.sI (cS.sJ (cS.sJ (cS.sP h (by decide) ⟨by omega, by omega⟩)))) (by decide) ⟨by omega, by omega⟩)) bc_9 (by decide) (by decide) in_9 w_2_133 dX11_look_40 (mvP (f := 907) (q := o4_) rfl rfl (by simp (disch := omega) only [y_P_s_P, x_P_s_P, z_P_s_I, z_P_s_J, z_P_s_A, z_P_s_B, e_oi, e_dr])) ?_
  refine v_aload_n hX dX11_look_43 (i := 0) rfl rfl ?_
  refine v_get hX (ci := 9) (k := 6) (cs_k_418 (cS.sP (cS.sI (cS.sJ (cS.sJ (cS.sP h (by decide) ⟨by omega, by omega⟩)))) (by decide) ⟨by omega, by omega⟩)) bc_9 (by decide) (by decide) in_9 w_2_131 dX11_look_44 (mvP (f := 906) (q := (x + 425)) rfl rfl (cs_p_906 (cS.sP (cS.sI (cS.sJ (cS.sJ (cS.sP h (by decide) ⟨by omega, by omega⟩)))) (by decide) ⟨by omega, by omega⟩))) ?_
  obtain ⟨v5_, e_v5_, b_v5_⟩ := i_ex (m_I S 309 (x + 425))
  refine v_get hX (ci := 3) (k := 9) (cs_k_425 (cS.sP (cS.sI (cS.sJ (cS.sJ (cS.sP h (by decide) ⟨by omega, by omega⟩)))) (by decide) ⟨by omega, by omega⟩)) bc_3 (by decide) (by decide) in_3 w_2_90 dX11_look_47 (mvF (f := 309) (v := iI v5_) rfl rfl (by simp (disch := omega) only [y_I_s_I, x_I_s_I, z_I_s_J, z_I_s_A, z_I_s_B, z_I_s_P, e_v1_, e_v5_])) ?_
  refine v_aload_n hX dX11_look_50 (i := 0) rfl rfl ?_
  refine v_get hX (ci := 9) (k := 12) (cs_k_418 (cS.sP (cS.sI (cS.sJ (cS.sJ (cS.sP h (by decide) ⟨by omega, by omega⟩)))) (by decide) ⟨by omega, by omega⟩)) bc_9 (by decide) (by decide) in_9 w_2_138 dX11_look_51 (mvF (f := 912) (v := iI v1_) rfl rfl (by simp (disch := omega) only [y_I_s_I, x_I_s_I, z_I_s_J, z_I_s_A, z_I_s_B, z_I_s_P, e_v1_, e_v5_])) ?_
  have a6_ : lA (s_P (s_I (s_J (s_J (s_P S 908 (x + 418) (some (b_kn X 0))) 909 (x + 418) (jJ 0)) 910 (x + 418) (jJ 0)) 912 (x + 418) (iI v1_)) 907 (x + 418) (some o4_)) x = lA S x := lA.fr g_eI g_hM (show cFr [912] [907, 908] [] w S (s_P (s_I (s_J (s_J (s_P S 908 (x + 418) (some (b_kn X 0))) 909 (x + 418) (jJ 0)) 910 (x + 418) (jJ 0)) 912 (x + 418) (iI v1_)) 907 (x + 418) (some o4_)) x from ((((((cFr.rf _ _).sP (by decide) ⟨by omega, by omega⟩).sJ ⟨by omega, by omega⟩).sJ ⟨by omega, by omega⟩).sI (by decide) ⟨by omega, by omega⟩).sP (by decide) ⟨by omega, by omega⟩)) (by decide)
  refine v_callV hX (n := 2) (g_S_clear (S := (s_P (s_I (s_J (s_J (s_P S 908 (x + 418) (some (b_kn X 0))) 909 (x + 418) (jJ 0)) 910 (x + 418) (jJ 0)) 912 (x + 418) (iI v1_)) 907 (x + 418) (some o4_))) (x := x) (w := w) (a := o4_) (l := v5_) (f_ := v1_) (cS.sP (cS.sI (cS.sJ (cS.sJ (cS.sP h (by decide) ⟨by omega, by omega⟩)))) (by decide) ⟨by omega, by omega⟩) ⟨by omega, by omega⟩ ⟨by omega, by omega⟩ hs_o4_ (oOk.fr g_oOk h (show cFr [912] [907, 908] [] w S (s_P (s_I (s_J (s_J (s_P S 908 (x + 418) (some (b_kn X 0))) 909 (x + 418) (jJ 0)) 910 (x + 418) (jJ 0)) 912 (x + 418) (iI v1_)) 907 (x + 418) (some o4_)) x from ((((((cFr.rf _ _).sP (by decide) ⟨by omega, by omega⟩).sJ ⟨by omega, by omega⟩).sJ ⟨by omega, by omega⟩).sI (by decide) ⟨by omega, by omega⟩).sP (by decide) ⟨by omega, by omega⟩)) (by decide))) (isS_k (cS.sP (cS.sI (cS.sJ (cS.sJ (cS.sP h (by decide) ⟨by omega, by omega⟩)))) (by decide) ⟨by omega, by omega⟩) hs_o4_) bc_8 (by decide) w_4_17 w_4_18 w_4_19 w_1_7 w_4_20 (by decide +kernel) rfl ⟨by decide, by decide⟩ ⟨by omega, by omega⟩ (Nat.le_of_ble_eq_true rfl) rfl dX11_look_54 (fun _ _ _ q => q) ?_
  rintro r7_ S7_ z7_ ⟨rfl, f7_, rfl, q7_, g7_oOk⟩
  have y8_ : m_I S7_ 205 (x + 11) = iI v1_ := (f7_.2.1 205 (by decide) _).trans (by simp (disch := omega) only [y_I_s_I, x_I_s_I, z_I_s_J, z_I_s_A, z_I_s_B, z_I_s_P, e_v1_, e_v5_])
  have y9_ : m_I S7_ 912 (x + 418) = iI v1_ := (f7_.2.1 912 (by decide) _).trans (by simp (disch := omega) only [y_I_s_I, x_I_s_I, z_I_s_J, z_I_s_A, z_I_s_B, z_I_s_P, e_v1_, e_v5_])
  have y10_ : m_I S7_ 309 (x + 425) = iI v5_ := (f7_.2.1 309 (by decide) _).trans (by simp (disch := omega) only [y_I_s_I, x_I_s_I, z_I_s_J, z_I_s_A, z_I_s_B, z_I_s_P, e_v1_, e_v5_])
  have y11_ : m_P S7_ 908 (x + 418) = some (b_kn X 0) := (f7_.2.2.1 908 (by decide) _).trans (by simp (disch := omega) only [y_P_s_P, x_P_s_P, z_P_s_I, z_P_s_J, z_P_s_A, z_P_s_B, e_oi, e_dr])
  have y12_ : m_P S7_ 907 (x + 418) = some o4_ := (f7_.2.2.1 907 (by decide) _).trans (by simp (disch := omega) only [y_P_s_P, x_P_s_P, z_P_s_I, z_P_s_J, z_P_s_A, z_P_s_B, e_oi, e_dr])
  have h7_ : cS S7_ x := f7_.keep (by decide) (cS.sP (cS.sI (cS.sJ (cS.sJ (cS.sP h (by decide) ⟨by omega, by omega⟩)))) (by decide) ⟨by omega, by omega⟩)
  have g7_eI : eI S7_ x w := eI.fr (eI.fr g_eI h (show cFr [912] [907, 908] [] w S (s_P (s_I (s_J (s_J (s_P S 908 (x + 418) (some (b_kn X 0))) 909 (x + 418) (jJ 0)) 910 (x + 418) (jJ 0)) 912 (x + 418) (iI v1_)) 907 (x + 418) (some o4_)) x from ((((((cFr.rf _ _).sP (by decide) ⟨by omega, by omega⟩).sJ ⟨by omega, by omega⟩).sJ ⟨by omega, by omega⟩).sI (by decide) ⟨by omega, by omega⟩).sP (by decide) ⟨by omega, by omega⟩)) (by decide)) (cS.sP (cS.sI (cS.sJ (cS.sJ (cS.sP h (by decide) ⟨by omega, by omega⟩)))) (by decide) ⟨by omega, by omega⟩) f7_ (by decide)
  have g7_hM : hM S7_ x w := hM.fr (hM.fr g_hM h (show cFr [912] [907, 908] [] w S (s_P (s_I (s_J (s_J (s_P S 908 (x + 418) (some (b_kn X 0))) 909 (x + 418) (jJ 0)) 910 (x + 418) (jJ 0)) 912 (x + 418) (iI v1_)) 907 (x + 418) (some o4_)) x from ((((((cFr.rf _ _).sP (by decide) ⟨by omega, by omega⟩).sJ ⟨by omega, by omega⟩).sJ ⟨by omega, by omega⟩).sI (by decide) ⟨by omega, by omega⟩).sP (by decide) ⟨by omega, by omega⟩)) (by decide)) (cS.sP (cS.sI (cS.sJ (cS.sJ (cS.sP h (by decide) ⟨by omega, by omega⟩)))) (by decide) ⟨by omega, by omega⟩) f7_ (by decide)
  have g7_gN : gN S7_ x := gN.fr (gN.fr g_gN h (show cFr [912] [907, 908] [] w S (s_P (s_I (s_J (s_J (s_P S 908 (x + 418) (some (b_kn X 0))) 909 (x + 418) (jJ 0)) 910 (x + 418) (jJ 0)) 912 (x + 418) (iI v1_)) 907 (x + 418) (some o4_)) x from ((((((cFr.rf _ _).sP (by decide) ⟨by omega, by omega⟩).sJ ⟨by omega, by omega⟩).sJ ⟨by omega, by omega⟩).sI (by decide) ⟨by omega, by omega⟩).sP (by decide) ⟨by omega, by omega⟩)) (by decide)) (cS.sP (cS.sI (cS.sJ (cS.sJ (cS.sP h (by decide) ⟨by omega, by omega⟩)))) (by decide) ⟨by omega, by omega⟩) f7_ (by decide)
  have g7_sI : sI S7_ x lo hi := sI.fr (sI.fr g_sI h (show cFr [912] [907, 908] [] w S (s_P (s_I (s_J (s_J (s_P S 908 (x + 418) (some (b_kn X 0))) 909 (x + 418) (jJ 0)) 910 (x + 418) (jJ 0)) 912 (x + 418) (iI v1_)) 907 (x + 418) (some o4_)) x from ((((((cFr.rf _ _).sP (by decide) ⟨by omega, by omega⟩).sJ ⟨by omega, by omega⟩).sJ ⟨by omega, by omega⟩).sI (by decide) ⟨by omega, by omega⟩).sP (by decide) ⟨by omega, by omega⟩)) (by decide)) (cS.sP (cS.sI (cS.sJ (cS.sJ (cS.sP h (by decide) ⟨by omega, by omega⟩)))) (by decide) ⟨by omega, by omega⟩) f7_ (by decide)
  have g7_gL : gL S7_ x := gL.fr (gL.fr g_gL h (show cFr [912] [907, 908] [] w S (s_P (s_I (s_J (s_J (s_P S 908 (x + 418) (some (b_kn X 0))) 909 (x + 418) (jJ 0)) 910 (x + 418) (jJ 0)) 912 (x + 418) (iI v1_)) 907 (x + 418) (some o4_)) x from ((((((cFr.rf _ _).sP (by decide) ⟨by omega, by omega⟩).sJ ⟨by omega, by omega⟩).sJ ⟨by omega, by omega⟩).sI (by decide) ⟨by omega, by omega⟩).sP (by decide) ⟨by omega, by omega⟩)) (by decide)) (cS.sP (cS.sI (cS.sJ (cS.sJ (cS.sP h (by decide) ⟨by omega, by omega⟩)))) (by decide) ⟨by omega, by omega⟩) f7_ (by decide)
  have g7_gP : gP S7_ x := gP.fr (gP.fr g_gP h (show cFr [912] [907, 908] [] w S (s_P (s_I (s_J (s_J (s_P S 908 (x + 418) (some (b_kn X 0))) 909 (x + 418) (jJ 0)) 910 (x + 418) (jJ 0)) 912 (x + 418) (iI v1_)) 907 (x + 418) (some o4_)) x from ((((((cFr.rf _ _).sP (by decide) ⟨by omega, by omega⟩).sJ ⟨by omega, by omega⟩).sJ ⟨by omega, by omega⟩).sI (by decide) ⟨by omega, by omega⟩).sP (by decide) ⟨by omega, by omega⟩)) (by decide)) (cS.sP (cS.sI (cS.sJ (cS.sJ (cS.sP h (by decide) ⟨by omega, by omega⟩)))) (by decide) ⟨by omega, by omega⟩) f7_ (by decide)
  have aa7_ : lA S7_ x = lA (s_P (s_I (s_J (s_J (s_P S 908 (x + 418) (some (b_kn X 0))) 909 (x + 418) (jJ 0)) 910 (x + 418) (jJ 0)) 912 (x + 418) (iI v1_)) 907 (x + 418) (some o4_)) x := lA.fr (eI.fr g_eI h (show cFr [912] [907, 908] [] w S (s_P (s_I (s_J (s_J (s_P S 908 (x + 418) (some (b_kn X 0))) 909 (x + 418) (jJ 0)) 910 (x + 418) (jJ 0)) 912 (x + 418) (iI v1_)) 907 (x + 418) (some o4_)) x from ((((((cFr.rf _ _).sP (by decide) ⟨by omega, by omega⟩).sJ ⟨by omega, by omega⟩).sJ ⟨by omega, by omega⟩).sI (by decide) ⟨by omega, by omega⟩).sP (by decide) ⟨by omega, by omega⟩)) (by decide)) (hM.fr g_hM h (show cFr [912] [907, 908] [] w S (s_P (s_I (s_J (s_J (s_P S 908 (x + 418) (some (b_kn X 0))) 909 (x + 418) (jJ 0)) 910 (x + 418) (jJ 0)) 912 (x + 418) (iI v1_)) 907 (x + 418) (some o4_)) x from ((((((cFr.rf _ _).sP (by decide) ⟨by omega, by omega⟩).sJ ⟨by omega, by omega⟩).sJ ⟨by omega, by omega⟩).sI (by decide) ⟨by omega, by omega⟩).sP (by decide) ⟨by omega, by omega⟩)) (by decide)) f7_ (by decide)
  have ab7_ : lA S7_ x ≤ 2162688 := lA_le g7_eI g7_hM
  refine v_aload_n hX dX11_look_57 (i := 0) rfl rfl ?_
  refine v_get hX (ci := 9) (k := 4) (cs_k_418 h7_) bc_9 (by decide) (by decide) in_9 w_2_128 dX11_look_58 (mvP (f := 904) (q := (x + 419)) rfl rfl (cs_p_904 h7_)) ?_
  refine v_callV hX (n := 0) (g_isPlain (S := S7_) (x := x) (w := w) h7_ g7_sI) (cs_k_419 h7_) bc_7 (by decide) w_3_154 w_3_155 w_3_156 w_1_11 w_3_157 (by decide +kernel) rfl ⟨by decide, by decide⟩ ⟨by omega, by omega⟩ (Nat.le_of_ble_eq_true rfl) rfl dX11_look_61 (fun _ _ _ q => q) ?_
  rintro r13_ S13_ z13_ ⟨rfl, rfl, v14_, rfl, b_v14_, q13_⟩
  refine u_if_eq hX (tgt := 74) dX11_look_64 (by decide) ⟨by omega, by omega⟩ (fun h15_ => ?_) (fun h15_ => ?_)
  ·
    refine v_iconst hX (v := iI 1) dX11_look_74 rfl ?_
    exact w_ireturn hX hE dX11_look_75 ⟨(by omega), (((((((cFr.rf _ _).sP (by decide) ⟨by omega, by omega⟩).sJ ⟨by omega, by omega⟩).sJ ⟨by omega, by omega⟩).sI (by decide) ⟨by omega, by omega⟩).sP (by decide) ⟨by omega, by omega⟩).tr (f7_.mono (by decide) (by decide) (by decide))), 1, 0, o4_, rfl, ⟨by omega, by omega⟩, (by simp (disch := omega) only [y_P_s_P, x_P_s_P, z_P_s_I, z_P_s_J, z_P_s_A, z_P_s_B, y11_, y12_]), (by omega), (by simp (disch := omega) only [y_P_s_P, x_P_s_P, z_P_s_I, z_P_s_J, z_P_s_A, z_P_s_B, y11_, y12_]), hs_o4_, ⟨by omega, by omega⟩, trivial, (fun q9 => absurd q9 (by decide)), g7_eI, g7_hM, g7_sI, g7_gL, g7_oOk⟩
  ·
    refine v_aload_n hX dX11_look_67 (i := 0) rfl rfl ?_
    refine v_callV hX (n := 0) (g_T_readHead (S := S7_) (x := x) (w := w) (oi := 0) h7_ (by simp (disch := omega) only [y_P_s_P, x_P_s_P, z_P_s_I, z_P_s_J, z_P_s_A, z_P_s_B, y11_, y12_]) (by omega) g7_sI g7_gL) (cs_k_418 h7_) bc_9 (by decide) w_4_21 w_4_23 (bw_p (q := (yX11_readHead, 16)) (List.mem_of_getElem? (i := 13) rfl) rfl) w_1_10 w_4_24 (by decide +kernel) rfl ⟨by decide, by decide⟩ ⟨by omega, by omega⟩ (Nat.le_of_ble_eq_true rfl) rfl dX11_look_68 (fun _ _ _ q => q) ?_
    rintro r16_ S16_ z16_ ⟨rfl, f16_, v17_, o18_, rfl, b_v17_, e_o18_, o_o18_, q16_, g16_sI⟩
    have y19_ : m_I S16_ 205 (x + 11) = iI v1_ := (f16_.2.1 205 (by decide) _).trans (by simp (disch := omega) only [y_I_s_I, x_I_s_I, z_I_s_J, z_I_s_A, z_I_s_B, z_I_s_P, y8_, y9_, y10_])
    have y20_ : m_I S16_ 912 (x + 418) = iI v1_ := (f16_.2.1 912 (by decide) _).trans (by simp (disch := omega) only [y_I_s_I, x_I_s_I, z_I_s_J, z_I_s_A, z_I_s_B, z_I_s_P, y8_, y9_, y10_])
    have y21_ : m_I S16_ 309 (x + 425) = iI v5_ := (f16_.2.1 309 (by decide) _).trans (by simp (disch := omega) only [y_I_s_I, x_I_s_I, z_I_s_J, z_I_s_A, z_I_s_B, z_I_s_P, y8_, y9_, y10_])
    have y22_ : m_P S16_ 907 (x + 418) = some o4_ := (f16_.2.2.1 907 (by decide) _).trans (by simp (disch := omega) only [y_P_s_P, x_P_s_P, z_P_s_I, z_P_s_J, z_P_s_A, z_P_s_B, y11_, y12_])
    have h16_ : cS S16_ x := f16_.keep (by decide) h7_
    have g16_eI : eI S16_ x w := eI.fr g7_eI h7_ f16_ (by decide)
    have g16_hM : hM S16_ x w := hM.fr g7_hM h7_ f16_ (by decide)
    have g16_gN : gN S16_ x := gN.fr g7_gN h7_ f16_ (by decide)
    have g16_gL : gL S16_ x := gL.fr g7_gL h7_ f16_ (by decide)
    have g16_gP : gP S16_ x := gP.fr g7_gP h7_ f16_ (by decide)
    have g16_oOk : oOk (b_kn X) S16_ x := oOk.fr g7_oOk h7_ f16_ (by decide)
    have aa16_ : lA S16_ x = lA S7_ x := lA.fr g7_eI g7_hM f16_ (by decide)
    have ab16_ : lA S16_ x ≤ 2162688 := lA_le g16_eI g16_hM
    refine u_if_ne hX (tgt := 76) dX11_look_71 (by decide) ⟨by omega, by omega⟩ (fun h23_ => ?_) (fun h23_ => ?_)
    ·
      refine v_aload_n hX dX11_look_76 (i := 0) rfl rfl ?_
      refine v_get hX (ci := 9) (k := 8) (cs_k_418 h16_) bc_9 (by decide) (by decide) in_9 w_2_134 dX11_look_77 (mvP (f := 908) (q := (b_kn X o18_)) rfl rfl (by simp (disch := omega) only [y_P_s_P, x_P_s_P, z_P_s_I, z_P_s_J, z_P_s_A, z_P_s_B, y22_, e_o18_])) ?_
      refine v_getsK hX (i := 1) (by decide) rfl w_4_38 dX11_look_80 ?_
      refine v_acmp_ne hX (tgt := 88) dX11_look_83 (by decide) (fun h24_ => ?_) (fun h24_ => ?_)
      ·
        refine v_aload_n hX dX11_look_88 (i := 0) rfl rfl ?_
        refine v_callV hX (n := 0) (g_T_readAhead (S := S16_) (x := x) (w := w) (oi := o18_) (dr := o4_) h16_ (by simp (disch := omega) only [y_P_s_P, x_P_s_P, z_P_s_I, z_P_s_J, z_P_s_A, z_P_s_B, y22_, e_o18_]) (by omega) (by simp (disch := omega) only [y_P_s_P, x_P_s_P, z_P_s_I, z_P_s_J, z_P_s_A, z_P_s_B, y22_, e_o18_]) hs_o4_ g16_sI g16_gL) (cs_k_418 h16_) bc_9 (by decide) w_4_41 w_4_43 (bw_p (q := (yX11_readAhead, 16)) (List.mem_of_getElem? (i := 14) rfl) rfl) w_1_10 w_4_44 (by decide +kernel) rfl ⟨by decide, by decide⟩ ⟨by omega, by omega⟩ (Nat.le_of_ble_eq_true rfl) rfl dX11_look_89 (fun _ _ _ q => q) ?_
        rintro r25_ S25_ z25_ ⟨rfl, f25_, v26_, rfl, b_v26_, q25_, q25_0, g25_sI, g25_gL⟩
        have y27_ : m_I S25_ 205 (x + 11) = iI v1_ := (f25_.2.1 205 (by decide) _).trans (by simp (disch := omega) only [y_I_s_I, x_I_s_I, z_I_s_J, z_I_s_A, z_I_s_B, z_I_s_P, y19_, y20_, y21_])
        have y28_ : m_I S25_ 912 (x + 418) = iI v1_ := (f25_.2.1 912 (by decide) _).trans (by simp (disch := omega) only [y_I_s_I, x_I_s_I, z_I_s_J, z_I_s_A, z_I_s_B, z_I_s_P, y19_, y20_, y21_])
        have y29_ : m_I S25_ 309 (x + 425) = iI v5_ := (f25_.2.1 309 (by decide) _).trans (by simp (disch := omega) only [y_I_s_I, x_I_s_I, z_I_s_J, z_I_s_A, z_I_s_B, z_I_s_P, y19_, y20_, y21_])
        have y30_ : m_P S25_ 907 (x + 418) = some o4_ := (f25_.2.2.1 907 (by decide) _).trans (by simp (disch := omega) only [y_P_s_P, x_P_s_P, z_P_s_I, z_P_s_J, z_P_s_A, z_P_s_B, y22_, e_o18_])
        have y31_ : m_P S25_ 908 (x + 418) = some (b_kn X o18_) := (f25_.2.2.1 908 (by decide) _).trans (by simp (disch := omega) only [y_P_s_P, x_P_s_P, z_P_s_I, z_P_s_J, z_P_s_A, z_P_s_B, y22_, e_o18_])
        have h25_ : cS S25_ x := f25_.keep (by decide) h16_
        have g25_eI : eI S25_ x w := eI.fr g16_eI h16_ f25_ (by decide)
        have g25_hM : hM S25_ x w := hM.fr g16_hM h16_ f25_ (by decide)
        have g25_gN : gN S25_ x := gN.fr g16_gN h16_ f25_ (by decide)
        have g25_gP : gP S25_ x := gP.fr g16_gP h16_ f25_ (by decide)
        have g25_oOk : oOk (b_kn X) S25_ x := oOk.fr g16_oOk h16_ f25_ (by decide)
        have aa25_ : lA S25_ x = lA S16_ x := lA.fr g16_eI g16_hM f25_ (by decide)
        have ab25_ : lA S25_ x ≤ 2162688 := lA_le g25_eI g25_hM
        refine u_if_eq hX (tgt := 112) dX11_look_92 (by decide) ⟨by omega, by omega⟩ (fun h32_ => ?_) (fun h32_ => ?_)
        ·
          refine v_iconst hX (v := iI 1) dX11_look_112 rfl ?_
          exact w_ireturn hX hE dX11_look_113 ⟨(by omega), (((((((((cFr.rf _ _).sP (by decide) ⟨by omega, by omega⟩).sJ ⟨by omega, by omega⟩).sJ ⟨by omega, by omega⟩).sI (by decide) ⟨by omega, by omega⟩).sP (by decide) ⟨by omega, by omega⟩).tr (f7_.mono (by decide) (by decide) (by decide))).tr (f16_.mono (by decide) (by decide) (by decide))).tr (f25_.mono (by decide) (by decide) (by decide))), 1, o18_, o4_, rfl, ⟨by omega, by omega⟩, (by simp (disch := omega) only [y_P_s_P, x_P_s_P, z_P_s_I, z_P_s_J, z_P_s_A, z_P_s_B, y30_, y31_]), (by omega), (by simp (disch := omega) only [y_P_s_P, x_P_s_P, z_P_s_I, z_P_s_J, z_P_s_A, z_P_s_B, y30_, y31_]), hs_o4_, ⟨by omega, by omega⟩, trivial, (fun q9 => absurd q9 (by decide)), g25_eI, g25_hM, g25_sI, g25_gL, g25_oOk⟩
        ·
          have gD_ : gD S25_ x lo hi o18_ := fun h3_ => q25_0 (by omega) h3_
          refine v_aload_n hX dX11_look_95 (i := 0) rfl rfl ?_
          refine w_callV hX (n := 0) (g_T_readValues (S := S25_) (x := x) (w := w) (oi := o18_) (dr := o4_) (mc := mc - 0) (ms := ms - 0) h25_ (by simp (disch := omega) only [y_P_s_P, x_P_s_P, z_P_s_I, z_P_s_J, z_P_s_A, z_P_s_B, y30_, y31_]) (by omega) (by simp (disch := omega) only [y_P_s_P, x_P_s_P, z_P_s_I, z_P_s_J, z_P_s_A, z_P_s_B, y30_, y31_]) hs_o4_ g25_eI g25_hM g25_gN g25_sI ⟨by omega, by omega⟩ (by omega)) (cs_k_418 h25_) bc_9 (by decide) w_4_90 w_4_92 (bw_p (q := (yX11_readValues, 16)) (List.mem_of_getElem? (i := 18) rfl) rfl) w_1_10 w_4_93 (by decide +kernel) rfl ⟨by decide, by decide⟩ ⟨by omega, by omega⟩ (Nat.le_of_ble_eq_true rfl) rfl dX11_look_96 (fun _ _ _ _ _ q => q) ?_
          rintro r33_ S33_ z33_ uc33_ us33_ ⟨hz33_, f33_, v34_, rfl, b_v34_, ha33_, q33_, g33_eI, g33_hM, g33_sI⟩
          have y35_ : m_I S33_ 912 (x + 418) = iI v1_ := (f33_.2.1 912 (by decide) _).trans (by simp (disch := omega) only [y_I_s_I, x_I_s_I, z_I_s_J, z_I_s_A, z_I_s_B, z_I_s_P, y27_, y28_, y29_])
          have y36_ : m_I S33_ 309 (x + 425) = iI v5_ := (f33_.2.1 309 (by decide) _).trans (by simp (disch := omega) only [y_I_s_I, x_I_s_I, z_I_s_J, z_I_s_A, z_I_s_B, z_I_s_P, y27_, y28_, y29_])
          have y37_ : m_P S33_ 907 (x + 418) = some o4_ := (f33_.2.2.1 907 (by decide) _).trans (by simp (disch := omega) only [y_P_s_P, x_P_s_P, z_P_s_I, z_P_s_J, z_P_s_A, z_P_s_B, y30_, y31_])
          have y38_ : m_P S33_ 908 (x + 418) = some (b_kn X o18_) := (f33_.2.2.1 908 (by decide) _).trans (by simp (disch := omega) only [y_P_s_P, x_P_s_P, z_P_s_I, z_P_s_J, z_P_s_A, z_P_s_B, y30_, y31_])
          have h33_ : cS S33_ x := f33_.keep (by decide) h25_
          have g33_gN : gN S33_ x := gN.fr g25_gN h25_ f33_ (by decide)
          have g33_gP : gP S33_ x := gP.fr g25_gP h25_ f33_ (by decide)
          have g33_oOk : oOk (b_kn X) S33_ x := oOk.fr g25_oOk h25_ f33_ (by decide)
          have g33_gL : gL S33_ x := gL.fr g25_gL h25_ f33_ (by decide)
          have g33_gD : gD S33_ x lo hi o18_ := gD.fr gD_ h25_ f33_ (by decide)
          have ab33_ : lA S33_ x ≤ 2162688 := lA_le g33_eI g33_hM
          refine u_if_eq hX (tgt := 112) dX11_look_99 (by decide) ⟨by omega, by omega⟩ (fun h39_ => ?_) (fun h39_ => ?_)
          ·
            refine v_iconst hX (v := iI 1) dX11_look_112 rfl ?_
            exact w_ireturn hX hE dX11_look_113 ⟨(by omega), ((((((((((cFr.rf _ _).sP (by decide) ⟨by omega, by omega⟩).sJ ⟨by omega, by omega⟩).sJ ⟨by omega, by omega⟩).sI (by decide) ⟨by omega, by omega⟩).sP (by decide) ⟨by omega, by omega⟩).tr (f7_.mono (by decide) (by decide) (by decide))).tr (f16_.mono (by decide) (by decide) (by decide))).tr (f25_.mono (by decide) (by decide) (by decide))).tr (f33_.mono (by decide) (by decide) (by decide))), 1, o18_, o4_, rfl, ⟨by omega, by omega⟩, (by simp (disch := omega) only [y_P_s_P, x_P_s_P, z_P_s_I, z_P_s_J, z_P_s_A, z_P_s_B, y37_, y38_]), (by omega), (by simp (disch := omega) only [y_P_s_P, x_P_s_P, z_P_s_I, z_P_s_J, z_P_s_A, z_P_s_B, y37_, y38_]), hs_o4_, ⟨by omega, by omega⟩, trivial, (fun q9 => absurd q9 (by decide)), g33_eI, g33_hM, g33_sI, g33_gL, g33_oOk⟩
          ·
            refine v_aload_n hX dX11_look_102 (i := 0) rfl rfl ?_
            refine v_get hX (ci := 9) (k := 4) (cs_k_418 h33_) bc_9 (by decide) (by decide) in_9 w_2_128 dX11_look_103 (mvP (f := 904) (q := (x + 419)) rfl rfl (cs_p_904 h33_)) ?_
            refine v_callV hX (n := 0) (g_isAtEnd (S := S33_) (x := x) (w := w) h33_ g33_sI) (cs_k_419 h33_) bc_7 (by decide) w_4_30 w_4_31 w_4_32 w_1_11 w_4_33 (by decide +kernel) rfl ⟨by decide, by decide⟩ ⟨by omega, by omega⟩ (Nat.le_of_ble_eq_true rfl) rfl dX11_look_106 (fun _ _ _ q => q) ?_
            rintro r40_ S40_ z40_ ⟨rfl, f40_, v41_, rfl, b_v41_, q40_, g40_sI⟩
            have y42_ : m_I S40_ 912 (x + 418) = iI v1_ := (f40_.2.1 912 (by decide) _).trans (by simp (disch := omega) only [y_I_s_I, x_I_s_I, z_I_s_J, z_I_s_A, z_I_s_B, z_I_s_P, y35_, y36_])
            have y43_ : m_I S40_ 309 (x + 425) = iI v5_ := (f40_.2.1 309 (by decide) _).trans (by simp (disch := omega) only [y_I_s_I, x_I_s_I, z_I_s_J, z_I_s_A, z_I_s_B, z_I_s_P, y35_, y36_])
            have y44_ : m_P S40_ 907 (x + 418) = some o4_ := (f40_.2.2.1 907 (by decide) _).trans (by simp (disch := omega) only [y_P_s_P, x_P_s_P, z_P_s_I, z_P_s_J, z_P_s_A, z_P_s_B, y37_, y38_])
            have y45_ : m_P S40_ 908 (x + 418) = some (b_kn X o18_) := (f40_.2.2.1 908 (by decide) _).trans (by simp (disch := omega) only [y_P_s_P, x_P_s_P, z_P_s_I, z_P_s_J, z_P_s_A, z_P_s_B, y37_, y38_])
            have h40_ : cS S40_ x := f40_.keep (by decide) h33_
            have g40_gN : gN S40_ x := gN.fr g33_gN h33_ f40_ (by decide)
            have g40_gP : gP S40_ x := gP.fr g33_gP h33_ f40_ (by decide)
            have g40_oOk : oOk (b_kn X) S40_ x := oOk.fr g33_oOk h33_ f40_ (by decide)
            have g40_gL : gL S40_ x := gL.fr g33_gL h33_ f40_ (by decide)
            have g40_gD : gD S40_ x lo hi o18_ := gD.fr g33_gD h33_ f40_ (by decide)
            have g40_eI : eI S40_ x w := eI.fr g33_eI h33_ f40_ (by decide)
            have g40_hM : hM S40_ x w := hM.fr g33_hM h33_ f40_ (by decide)
            have aa40_ : lA S40_ x = lA S33_ x := lA.fr g33_eI g33_hM f40_ (by decide)
            have ab40_ : lA S40_ x ≤ 2162688 := lA_le g40_eI g40_hM
            refine u_if_ne hX (tgt := 114) dX11_look_109 (by decide) ⟨by omega, by omega⟩ (fun h46_ => ?_) (fun h46_ => ?_)
            ·
              refine v_aload_n hX dX11_look_114 (i := 0) rfl rfl ?_
              refine v_callV hX (n := 0) (g_T_isTwice (S := S40_) (x := x) (w := w) (oi := o18_) h40_ (by simp (disch := omega) only [y_P_s_P, x_P_s_P, z_P_s_I, z_P_s_J, z_P_s_A, z_P_s_B, y44_, y45_]) (by omega) g40_gN g40_gL g40_sI) (cs_k_418 h40_) bc_9 (by decide) w_4_152 w_4_154 (bw_p (q := (yX11_isTwice, 16)) (List.mem_of_getElem? (i := 21) rfl) rfl) w_1_10 w_4_155 (by decide +kernel) rfl ⟨by decide, by decide⟩ ⟨by omega, by omega⟩ (Nat.le_of_ble_eq_true rfl) rfl dX11_look_115 (fun _ _ _ q => q) ?_
              rintro r47_ S47_ z47_ ⟨rfl, rfl, v48_, rfl, b_v48_, q47_⟩
              refine u_if_eq hX (tgt := 123) dX11_look_118 (by decide) ⟨by omega, by omega⟩ (fun h49_ => ?_) (fun h49_ => ?_)
              ·
                refine v_aload_n hX dX11_look_123 (i := 0) rfl rfl ?_
                refine v_callV hX (n := 0) (g_T_wantsSetNames (S := S40_) (x := x) (w := w) (oi := o18_) h40_ (by simp (disch := omega) only [y_P_s_P, x_P_s_P, z_P_s_I, z_P_s_J, z_P_s_A, z_P_s_B, y44_, y45_]) (by omega)) (cs_k_418 h40_) bc_9 (by decide) w_4_161 w_4_163 (bw_p (q := (yX11_wantsSetNames, 16)) (List.mem_of_getElem? (i := 22) rfl) rfl) w_1_10 w_4_164 (by decide +kernel) rfl ⟨by decide, by decide⟩ ⟨by omega, by omega⟩ (Nat.le_of_ble_eq_true rfl) rfl dX11_look_124 (fun _ _ _ q => q) ?_
                rintro r50_ S50_ z50_ ⟨rfl, rfl, v51_, rfl, b_v51_, q50_⟩
                refine u_if_eq hX (tgt := 142) dX11_look_127 (by decide) ⟨by omega, by omega⟩ (fun h52_ => ?_) (fun h52_ => ?_)
                ·
                  refine v_aload_n hX dX11_look_142 (i := 0) rfl rfl ?_
                  refine v_get hX (ci := 9) (k := 8) (cs_k_418 h40_) bc_9 (by decide) (by decide) in_9 w_2_134 dX11_look_143 (mvP (f := 908) (q := (b_kn X o18_)) rfl rfl (by simp (disch := omega) only [y_P_s_P, x_P_s_P, z_P_s_I, z_P_s_J, z_P_s_A, z_P_s_B, y44_, y45_])) ?_
                  refine v_getsK hX (i := 12) (by decide) rfl w_4_165 dX11_look_146 ?_
                  refine v_acmp_ne hX (tgt := 171) dX11_look_149 (by decide) (fun h53_ => ?_) (fun h53_ => ?_)
                  ·
                    refine v_aload_n hX dX11_look_171 (i := 0) rfl rfl ?_
                    refine v_callV hX (n := 0) (g_T_isTooMuch (S := S40_) (x := x) (w := w) (oi := o18_) h40_ (by simp (disch := omega) only [y_P_s_P, x_P_s_P, z_P_s_I, z_P_s_J, z_P_s_A, z_P_s_B, y44_, y45_]) (by omega)) (cs_k_418 h40_) bc_9 (by decide) w_4_174 w_4_176 (bw_p (q := (yX11_isTooMuch, 16)) (List.mem_of_getElem? (i := 23) rfl) rfl) w_1_10 w_4_177 (by decide +kernel) rfl ⟨by decide, by decide⟩ ⟨by omega, by omega⟩ (Nat.le_of_ble_eq_true rfl) rfl dX11_look_172 (fun _ _ _ q => q) ?_
                    rintro r54_ S54_ z54_ ⟨rfl, rfl, v55_, rfl, b_v55_, q54_⟩
                    refine u_if_eq hX (tgt := 183) dX11_look_175 (by decide) ⟨by omega, by omega⟩ (fun h56_ => ?_) (fun h56_ => ?_)
                    ·
                      refine v_iconst hX (v := iI 0) dX11_look_183 rfl ?_
                      exact w_ireturn hX hE dX11_look_184 ⟨(by omega), (((((((((((cFr.rf _ _).sP (by decide) ⟨by omega, by omega⟩).sJ ⟨by omega, by omega⟩).sJ ⟨by omega, by omega⟩).sI (by decide) ⟨by omega, by omega⟩).sP (by decide) ⟨by omega, by omega⟩).tr (f7_.mono (by decide) (by decide) (by decide))).tr (f16_.mono (by decide) (by decide) (by decide))).tr (f25_.mono (by decide) (by decide) (by decide))).tr (f33_.mono (by decide) (by decide) (by decide))).tr (f40_.mono (by decide) (by decide) (by decide))), 0, o18_, o4_, rfl, ⟨by omega, by omega⟩, (by simp (disch := omega) only [y_P_s_P, x_P_s_P, z_P_s_I, z_P_s_J, z_P_s_A, z_P_s_B, y44_, y45_]), (by omega), (by simp (disch := omega) only [y_P_s_P, x_P_s_P, z_P_s_I, z_P_s_J, z_P_s_A, z_P_s_B, y44_, y45_]), hs_o4_, ⟨by omega, by omega⟩, trivial, (fun _ h3_ => g40_gD h3_), g40_eI, g40_hM, g40_sI, g40_gL, g40_oOk⟩
                    ·
                      refine v_bipush hX (v := iI 6) dX11_look_178 (by decide) ?_
                      refine v_goto hX (tgt := 184) dX11_look_180 (by decide) ?_
                      exact w_ireturn hX hE dX11_look_184 ⟨(by omega), (((((((((((cFr.rf _ _).sP (by decide) ⟨by omega, by omega⟩).sJ ⟨by omega, by omega⟩).sJ ⟨by omega, by omega⟩).sI (by decide) ⟨by omega, by omega⟩).sP (by decide) ⟨by omega, by omega⟩).tr (f7_.mono (by decide) (by decide) (by decide))).tr (f16_.mono (by decide) (by decide) (by decide))).tr (f25_.mono (by decide) (by decide) (by decide))).tr (f33_.mono (by decide) (by decide) (by decide))).tr (f40_.mono (by decide) (by decide) (by decide))), 6, o18_, o4_, rfl, ⟨by omega, by omega⟩, (by simp (disch := omega) only [y_P_s_P, x_P_s_P, z_P_s_I, z_P_s_J, z_P_s_A, z_P_s_B, y44_, y45_]), (by omega), (by simp (disch := omega) only [y_P_s_P, x_P_s_P, z_P_s_I, z_P_s_J, z_P_s_A, z_P_s_B, y44_, y45_]), hs_o4_, ⟨by omega, by omega⟩, trivial, (fun q9 => absurd q9 (by decide)), g40_eI, g40_hM, g40_sI, g40_gL, g40_oOk⟩
                  ·
                    refine v_aload_n hX dX11_look_152 (i := 0) rfl rfl ?_
                    refine v_get hX (ci := 9) (k := 2) (cs_k_418 h40_) bc_9 (by decide) (by decide) in_9 w_2_126 dX11_look_153 (mvP (f := 902) (q := (x + 11)) rfl rfl (cs_p_902 h40_)) ?_
                    refine v_aload_n hX dX11_look_156 (i := 0) rfl rfl ?_
                    refine v_get hX (ci := 9) (k := 12) (cs_k_418 h40_) bc_9 (by decide) (by decide) in_9 w_2_138 dX11_look_157 (mvF (f := 912) (v := iI v1_) rfl rfl (by simp (disch := omega) only [y_I_s_I, x_I_s_I, z_I_s_J, z_I_s_A, z_I_s_B, z_I_s_P, y42_, y43_])) ?_
                    refine v_callV hX (n := 1) (g_X_constant (S := S40_) (x := x) (w := w) (e := v1_) h40_ ⟨by omega, by omega⟩ g40_eI) (cs_k_11 h40_) bc_2 (by decide) w_4_167 w_4_168 w_4_169 w_1_6 w_4_170 (by decide +kernel) rfl ⟨by decide, by decide⟩ ⟨by omega, by omega⟩ (Nat.le_of_ble_eq_true rfl) rfl dX11_look_160 (fun _ _ _ q => q) ?_
                    rintro r57_ S57_ z57_ ⟨rfl, rfl, v58_, rfl, b_v58_, q57_⟩
                    refine v_callS hX (n := 1) (g_T_isSpace (S := S40_) (x := x) (w := w) (wd := v58_) h40_ ⟨by omega, by omega⟩) w_4_171 w_4_172 w_1_10 w_4_173 (by decide +kernel) rfl ⟨by decide, by decide⟩ ⟨by omega, by omega⟩ (Nat.le_of_ble_eq_true rfl) rfl dX11_look_163 (fun _ _ _ q => q) ?_
                    rintro r59_ S59_ z59_ ⟨rfl, rfl, v60_, rfl, b_v60_, q59_⟩
                    refine u_if_ne hX (tgt := 171) dX11_look_166 (by decide) ⟨by omega, by omega⟩ (fun h61_ => ?_) (fun h61_ => ?_)
                    ·
                      refine v_aload_n hX dX11_look_171 (i := 0) rfl rfl ?_
                      refine v_callV hX (n := 0) (g_T_isTooMuch (S := S40_) (x := x) (w := w) (oi := o18_) h40_ (by simp (disch := omega) only [y_P_s_P, x_P_s_P, z_P_s_I, z_P_s_J, z_P_s_A, z_P_s_B, y44_, y45_]) (by omega)) (cs_k_418 h40_) bc_9 (by decide) w_4_174 w_4_176 (bw_p (q := (yX11_isTooMuch, 16)) (List.mem_of_getElem? (i := 23) rfl) rfl) w_1_10 w_4_177 (by decide +kernel) rfl ⟨by decide, by decide⟩ ⟨by omega, by omega⟩ (Nat.le_of_ble_eq_true rfl) rfl dX11_look_172 (fun _ _ _ q => q) ?_
                      rintro r62_ S62_ z62_ ⟨rfl, rfl, v63_, rfl, b_v63_, q62_⟩
                      refine u_if_eq hX (tgt := 183) dX11_look_175 (by decide) ⟨by omega, by omega⟩ (fun h64_ => ?_) (fun h64_ => ?_)
                      ·
                        refine v_iconst hX (v := iI 0) dX11_look_183 rfl ?_
                        exact w_ireturn hX hE dX11_look_184 ⟨(by omega), (((((((((((cFr.rf _ _).sP (by decide) ⟨by omega, by omega⟩).sJ ⟨by omega, by omega⟩).sJ ⟨by omega, by omega⟩).sI (by decide) ⟨by omega, by omega⟩).sP (by decide) ⟨by omega, by omega⟩).tr (f7_.mono (by decide) (by decide) (by decide))).tr (f16_.mono (by decide) (by decide) (by decide))).tr (f25_.mono (by decide) (by decide) (by decide))).tr (f33_.mono (by decide) (by decide) (by decide))).tr (f40_.mono (by decide) (by decide) (by decide))), 0, o18_, o4_, rfl, ⟨by omega, by omega⟩, (by simp (disch := omega) only [y_P_s_P, x_P_s_P, z_P_s_I, z_P_s_J, z_P_s_A, z_P_s_B, y44_, y45_]), (by omega), (by simp (disch := omega) only [y_P_s_P, x_P_s_P, z_P_s_I, z_P_s_J, z_P_s_A, z_P_s_B, y44_, y45_]), hs_o4_, ⟨by omega, by omega⟩, trivial, (fun _ h3_ => g40_gD h3_), g40_eI, g40_hM, g40_sI, g40_gL, g40_oOk⟩
                      ·
                        refine v_bipush hX (v := iI 6) dX11_look_178 (by decide) ?_
                        refine v_goto hX (tgt := 184) dX11_look_180 (by decide) ?_
                        exact w_ireturn hX hE dX11_look_184 ⟨(by omega), (((((((((((cFr.rf _ _).sP (by decide) ⟨by omega, by omega⟩).sJ ⟨by omega, by omega⟩).sJ ⟨by omega, by omega⟩).sI (by decide) ⟨by omega, by omega⟩).sP (by decide) ⟨by omega, by omega⟩).tr (f7_.mono (by decide) (by decide) (by decide))).tr (f16_.mono (by decide) (by decide) (by decide))).tr (f25_.mono (by decide) (by decide) (by decide))).tr (f33_.mono (by decide) (by decide) (by decide))).tr (f40_.mono (by decide) (by decide) (by decide))), 6, o18_, o4_, rfl, ⟨by omega, by omega⟩, (by simp (disch := omega) only [y_P_s_P, x_P_s_P, z_P_s_I, z_P_s_J, z_P_s_A, z_P_s_B, y44_, y45_]), (by omega), (by simp (disch := omega) only [y_P_s_P, x_P_s_P, z_P_s_I, z_P_s_J, z_P_s_A, z_P_s_B, y44_, y45_]), hs_o4_, ⟨by omega, by omega⟩, trivial, (fun q9 => absurd q9 (by decide)), g40_eI, g40_hM, g40_sI, g40_gL, g40_oOk⟩
                    ·
                      refine v_iconst hX (v := iI 5) dX11_look_169 rfl ?_
                      exact w_ireturn hX hE dX11_look_170 ⟨(by omega), (((((((((((cFr.rf _ _).sP (by decide) ⟨by omega, by omega⟩).sJ ⟨by omega, by omega⟩).sJ ⟨by omega, by omega⟩).sI (by decide) ⟨by omega, by omega⟩).sP (by decide) ⟨by omega, by omega⟩).tr (f7_.mono (by decide) (by decide) (by decide))).tr (f16_.mono (by decide) (by decide) (by decide))).tr (f25_.mono (by decide) (by decide) (by decide))).tr (f33_.mono (by decide) (by decide) (by decide))).tr (f40_.mono (by decide) (by decide) (by decide))), 5, o18_, o4_, rfl, ⟨by omega, by omega⟩, (by simp (disch := omega) only [y_P_s_P, x_P_s_P, z_P_s_I, z_P_s_J, z_P_s_A, z_P_s_B, y44_, y45_]), (by omega), (by simp (disch := omega) only [y_P_s_P, x_P_s_P, z_P_s_I, z_P_s_J, z_P_s_A, z_P_s_B, y44_, y45_]), hs_o4_, ⟨by omega, by omega⟩, trivial, (fun q9 => absurd q9 (by decide)), g40_eI, g40_hM, g40_sI, g40_gL, g40_oOk⟩
                ·
                  refine v_aload_n hX dX11_look_130 (i := 0) rfl rfl ?_
                  refine v_get hX (ci := 9) (k := 2) (cs_k_418 h40_) bc_9 (by decide) (by decide) in_9 w_2_126 dX11_look_131 (mvP (f := 902) (q := (x + 11)) rfl rfl (cs_p_902 h40_)) ?_
                  obtain ⟨v65_, e_v65_, b_v65_⟩ := i_ex (m_I S40_ 207 (x + 11))
                  refine v_get hX (ci := 2) (k := 7) (cs_k_11 h40_) bc_2 (by decide) (by decide) in_2 w_1_114 dX11_look_134 (mvF (f := 207) (v := iI v65_) rfl rfl (by simp (disch := omega) only [y_I_s_I, x_I_s_I, z_I_s_J, z_I_s_A, z_I_s_B, z_I_s_P, y42_, y43_, e_v65_])) ?_
                  refine u_if_ne hX (tgt := 142) dX11_look_137 (by decide) ⟨by omega, by omega⟩ (fun h66_ => ?_) (fun h66_ => ?_)
                  ·
                    refine v_aload_n hX dX11_look_142 (i := 0) rfl rfl ?_
                    refine v_get hX (ci := 9) (k := 8) (cs_k_418 h40_) bc_9 (by decide) (by decide) in_9 w_2_134 dX11_look_143 (mvP (f := 908) (q := (b_kn X o18_)) rfl rfl (by simp (disch := omega) only [y_P_s_P, x_P_s_P, z_P_s_I, z_P_s_J, z_P_s_A, z_P_s_B, y44_, y45_])) ?_
                    refine v_getsK hX (i := 12) (by decide) rfl w_4_165 dX11_look_146 ?_
                    refine v_acmp_ne hX (tgt := 171) dX11_look_149 (by decide) (fun h67_ => ?_) (fun h67_ => ?_)
                    ·
                      refine v_aload_n hX dX11_look_171 (i := 0) rfl rfl ?_
                      refine v_callV hX (n := 0) (g_T_isTooMuch (S := S40_) (x := x) (w := w) (oi := o18_) h40_ (by simp (disch := omega) only [y_P_s_P, x_P_s_P, z_P_s_I, z_P_s_J, z_P_s_A, z_P_s_B, y44_, y45_]) (by omega)) (cs_k_418 h40_) bc_9 (by decide) w_4_174 w_4_176 (bw_p (q := (yX11_isTooMuch, 16)) (List.mem_of_getElem? (i := 23) rfl) rfl) w_1_10 w_4_177 (by decide +kernel) rfl ⟨by decide, by decide⟩ ⟨by omega, by omega⟩ (Nat.le_of_ble_eq_true rfl) rfl dX11_look_172 (fun _ _ _ q => q) ?_
                      rintro r68_ S68_ z68_ ⟨rfl, rfl, v69_, rfl, b_v69_, q68_⟩
                      refine u_if_eq hX (tgt := 183) dX11_look_175 (by decide) ⟨by omega, by omega⟩ (fun h70_ => ?_) (fun h70_ => ?_)
                      ·
                        refine v_iconst hX (v := iI 0) dX11_look_183 rfl ?_
                        exact w_ireturn hX hE dX11_look_184 ⟨(by omega), (((((((((((cFr.rf _ _).sP (by decide) ⟨by omega, by omega⟩).sJ ⟨by omega, by omega⟩).sJ ⟨by omega, by omega⟩).sI (by decide) ⟨by omega, by omega⟩).sP (by decide) ⟨by omega, by omega⟩).tr (f7_.mono (by decide) (by decide) (by decide))).tr (f16_.mono (by decide) (by decide) (by decide))).tr (f25_.mono (by decide) (by decide) (by decide))).tr (f33_.mono (by decide) (by decide) (by decide))).tr (f40_.mono (by decide) (by decide) (by decide))), 0, o18_, o4_, rfl, ⟨by omega, by omega⟩, (by simp (disch := omega) only [y_P_s_P, x_P_s_P, z_P_s_I, z_P_s_J, z_P_s_A, z_P_s_B, y44_, y45_]), (by omega), (by simp (disch := omega) only [y_P_s_P, x_P_s_P, z_P_s_I, z_P_s_J, z_P_s_A, z_P_s_B, y44_, y45_]), hs_o4_, ⟨by omega, by omega⟩, trivial, (fun _ h3_ => g40_gD h3_), g40_eI, g40_hM, g40_sI, g40_gL, g40_oOk⟩
                      ·
                        refine v_bipush hX (v := iI 6) dX11_look_178 (by decide) ?_
                        refine v_goto hX (tgt := 184) dX11_look_180 (by decide) ?_
                        exact w_ireturn hX hE dX11_look_184 ⟨(by omega), (((((((((((cFr.rf _ _).sP (by decide) ⟨by omega, by omega⟩).sJ ⟨by omega, by omega⟩).sJ ⟨by omega, by omega⟩).sI (by decide) ⟨by omega, by omega⟩).sP (by decide) ⟨by omega, by omega⟩).tr (f7_.mono (by decide) (by decide) (by decide))).tr (f16_.mono (by decide) (by decide) (by decide))).tr (f25_.mono (by decide) (by decide) (by decide))).tr (f33_.mono (by decide) (by decide) (by decide))).tr (f40_.mono (by decide) (by decide) (by decide))), 6, o18_, o4_, rfl, ⟨by omega, by omega⟩, (by simp (disch := omega) only [y_P_s_P, x_P_s_P, z_P_s_I, z_P_s_J, z_P_s_A, z_P_s_B, y44_, y45_]), (by omega), (by simp (disch := omega) only [y_P_s_P, x_P_s_P, z_P_s_I, z_P_s_J, z_P_s_A, z_P_s_B, y44_, y45_]), hs_o4_, ⟨by omega, by omega⟩, trivial, (fun q9 => absurd q9 (by decide)), g40_eI, g40_hM, g40_sI, g40_gL, g40_oOk⟩
                    ·
                      refine v_aload_n hX dX11_look_152 (i := 0) rfl rfl ?_
                      refine v_get hX (ci := 9) (k := 2) (cs_k_418 h40_) bc_9 (by decide) (by decide) in_9 w_2_126 dX11_look_153 (mvP (f := 902) (q := (x + 11)) rfl rfl (cs_p_902 h40_)) ?_
                      refine v_aload_n hX dX11_look_156 (i := 0) rfl rfl ?_
                      refine v_get hX (ci := 9) (k := 12) (cs_k_418 h40_) bc_9 (by decide) (by decide) in_9 w_2_138 dX11_look_157 (mvF (f := 912) (v := iI v1_) rfl rfl (by simp (disch := omega) only [y_I_s_I, x_I_s_I, z_I_s_J, z_I_s_A, z_I_s_B, z_I_s_P, y42_, y43_, e_v65_])) ?_
                      refine v_callV hX (n := 1) (g_X_constant (S := S40_) (x := x) (w := w) (e := v1_) h40_ ⟨by omega, by omega⟩ g40_eI) (cs_k_11 h40_) bc_2 (by decide) w_4_167 w_4_168 w_4_169 w_1_6 w_4_170 (by decide +kernel) rfl ⟨by decide, by decide⟩ ⟨by omega, by omega⟩ (Nat.le_of_ble_eq_true rfl) rfl dX11_look_160 (fun _ _ _ q => q) ?_
                      rintro r71_ S71_ z71_ ⟨rfl, rfl, v72_, rfl, b_v72_, q71_⟩
                      refine v_callS hX (n := 1) (g_T_isSpace (S := S40_) (x := x) (w := w) (wd := v72_) h40_ ⟨by omega, by omega⟩) w_4_171 w_4_172 w_1_10 w_4_173 (by decide +kernel) rfl ⟨by decide, by decide⟩ ⟨by omega, by omega⟩ (Nat.le_of_ble_eq_true rfl) rfl dX11_look_163 (fun _ _ _ q => q) ?_
                      rintro r73_ S73_ z73_ ⟨rfl, rfl, v74_, rfl, b_v74_, q73_⟩
                      refine u_if_ne hX (tgt := 171) dX11_look_166 (by decide) ⟨by omega, by omega⟩ (fun h75_ => ?_) (fun h75_ => ?_)
                      ·
                        refine v_aload_n hX dX11_look_171 (i := 0) rfl rfl ?_
                        refine v_callV hX (n := 0) (g_T_isTooMuch (S := S40_) (x := x) (w := w) (oi := o18_) h40_ (by simp (disch := omega) only [y_P_s_P, x_P_s_P, z_P_s_I, z_P_s_J, z_P_s_A, z_P_s_B, y44_, y45_]) (by omega)) (cs_k_418 h40_) bc_9 (by decide) w_4_174 w_4_176 (bw_p (q := (yX11_isTooMuch, 16)) (List.mem_of_getElem? (i := 23) rfl) rfl) w_1_10 w_4_177 (by decide +kernel) rfl ⟨by decide, by decide⟩ ⟨by omega, by omega⟩ (Nat.le_of_ble_eq_true rfl) rfl dX11_look_172 (fun _ _ _ q => q) ?_
                        rintro r76_ S76_ z76_ ⟨rfl, rfl, v77_, rfl, b_v77_, q76_⟩
                        refine u_if_eq hX (tgt := 183) dX11_look_175 (by decide) ⟨by omega, by omega⟩ (fun h78_ => ?_) (fun h78_ => ?_)
                        ·
                          refine v_iconst hX (v := iI 0) dX11_look_183 rfl ?_
                          exact w_ireturn hX hE dX11_look_184 ⟨(by omega), (((((((((((cFr.rf _ _).sP (by decide) ⟨by omega, by omega⟩).sJ ⟨by omega, by omega⟩).sJ ⟨by omega, by omega⟩).sI (by decide) ⟨by omega, by omega⟩).sP (by decide) ⟨by omega, by omega⟩).tr (f7_.mono (by decide) (by decide) (by decide))).tr (f16_.mono (by decide) (by decide) (by decide))).tr (f25_.mono (by decide) (by decide) (by decide))).tr (f33_.mono (by decide) (by decide) (by decide))).tr (f40_.mono (by decide) (by decide) (by decide))), 0, o18_, o4_, rfl, ⟨by omega, by omega⟩, (by simp (disch := omega) only [y_P_s_P, x_P_s_P, z_P_s_I, z_P_s_J, z_P_s_A, z_P_s_B, y44_, y45_]), (by omega), (by simp (disch := omega) only [y_P_s_P, x_P_s_P, z_P_s_I, z_P_s_J, z_P_s_A, z_P_s_B, y44_, y45_]), hs_o4_, ⟨by omega, by omega⟩, trivial, (fun _ h3_ => g40_gD h3_), g40_eI, g40_hM, g40_sI, g40_gL, g40_oOk⟩
                        ·
                          refine v_bipush hX (v := iI 6) dX11_look_178 (by decide) ?_
                          refine v_goto hX (tgt := 184) dX11_look_180 (by decide) ?_
                          exact w_ireturn hX hE dX11_look_184 ⟨(by omega), (((((((((((cFr.rf _ _).sP (by decide) ⟨by omega, by omega⟩).sJ ⟨by omega, by omega⟩).sJ ⟨by omega, by omega⟩).sI (by decide) ⟨by omega, by omega⟩).sP (by decide) ⟨by omega, by omega⟩).tr (f7_.mono (by decide) (by decide) (by decide))).tr (f16_.mono (by decide) (by decide) (by decide))).tr (f25_.mono (by decide) (by decide) (by decide))).tr (f33_.mono (by decide) (by decide) (by decide))).tr (f40_.mono (by decide) (by decide) (by decide))), 6, o18_, o4_, rfl, ⟨by omega, by omega⟩, (by simp (disch := omega) only [y_P_s_P, x_P_s_P, z_P_s_I, z_P_s_J, z_P_s_A, z_P_s_B, y44_, y45_]), (by omega), (by simp (disch := omega) only [y_P_s_P, x_P_s_P, z_P_s_I, z_P_s_J, z_P_s_A, z_P_s_B, y44_, y45_]), hs_o4_, ⟨by omega, by omega⟩, trivial, (fun q9 => absurd q9 (by decide)), g40_eI, g40_hM, g40_sI, g40_gL, g40_oOk⟩
                      ·
                        refine v_iconst hX (v := iI 5) dX11_look_169 rfl ?_
                        exact w_ireturn hX hE dX11_look_170 ⟨(by omega), (((((((((((cFr.rf _ _).sP (by decide) ⟨by omega, by omega⟩).sJ ⟨by omega, by omega⟩).sJ ⟨by omega, by omega⟩).sI (by decide) ⟨by omega, by omega⟩).sP (by decide) ⟨by omega, by omega⟩).tr (f7_.mono (by decide) (by decide) (by decide))).tr (f16_.mono (by decide) (by decide) (by decide))).tr (f25_.mono (by decide) (by decide) (by decide))).tr (f33_.mono (by decide) (by decide) (by decide))).tr (f40_.mono (by decide) (by decide) (by decide))), 5, o18_, o4_, rfl, ⟨by omega, by omega⟩, (by simp (disch := omega) only [y_P_s_P, x_P_s_P, z_P_s_I, z_P_s_J, z_P_s_A, z_P_s_B, y44_, y45_]), (by omega), (by simp (disch := omega) only [y_P_s_P, x_P_s_P, z_P_s_I, z_P_s_J, z_P_s_A, z_P_s_B, y44_, y45_]), hs_o4_, ⟨by omega, by omega⟩, trivial, (fun q9 => absurd q9 (by decide)), g40_eI, g40_hM, g40_sI, g40_gL, g40_oOk⟩
                  ·
                    refine v_iconst hX (v := iI 4) dX11_look_140 rfl ?_
                    exact w_ireturn hX hE dX11_look_141 ⟨(by omega), (((((((((((cFr.rf _ _).sP (by decide) ⟨by omega, by omega⟩).sJ ⟨by omega, by omega⟩).sJ ⟨by omega, by omega⟩).sI (by decide) ⟨by omega, by omega⟩).sP (by decide) ⟨by omega, by omega⟩).tr (f7_.mono (by decide) (by decide) (by decide))).tr (f16_.mono (by decide) (by decide) (by decide))).tr (f25_.mono (by decide) (by decide) (by decide))).tr (f33_.mono (by decide) (by decide) (by decide))).tr (f40_.mono (by decide) (by decide) (by decide))), 4, o18_, o4_, rfl, ⟨by omega, by omega⟩, (by simp (disch := omega) only [y_P_s_P, x_P_s_P, z_P_s_I, z_P_s_J, z_P_s_A, z_P_s_B, y44_, y45_]), (by omega), (by simp (disch := omega) only [y_P_s_P, x_P_s_P, z_P_s_I, z_P_s_J, z_P_s_A, z_P_s_B, y44_, y45_]), hs_o4_, ⟨by omega, by omega⟩, trivial, (fun q9 => absurd q9 (by decide)), g40_eI, g40_hM, g40_sI, g40_gL, g40_oOk⟩
              ·
                refine v_iconst hX (v := iI 3) dX11_look_121 rfl ?_
                exact w_ireturn hX hE dX11_look_122 ⟨(by omega), (((((((((((cFr.rf _ _).sP (by decide) ⟨by omega, by omega⟩).sJ ⟨by omega, by omega⟩).sJ ⟨by omega, by omega⟩).sI (by decide) ⟨by omega, by omega⟩).sP (by decide) ⟨by omega, by omega⟩).tr (f7_.mono (by decide) (by decide) (by decide))).tr (f16_.mono (by decide) (by decide) (by decide))).tr (f25_.mono (by decide) (by decide) (by decide))).tr (f33_.mono (by decide) (by decide) (by decide))).tr (f40_.mono (by decide) (by decide) (by decide))), 3, o18_, o4_, rfl, ⟨by omega, by omega⟩, (by simp (disch := omega) only [y_P_s_P, x_P_s_P, z_P_s_I, z_P_s_J, z_P_s_A, z_P_s_B, y44_, y45_]), (by omega), (by simp (disch := omega) only [y_P_s_P, x_P_s_P, z_P_s_I, z_P_s_J, z_P_s_A, z_P_s_B, y44_, y45_]), hs_o4_, ⟨by omega, by omega⟩, trivial, (fun q9 => absurd q9 (by decide)), g40_eI, g40_hM, g40_sI, g40_gL, g40_oOk⟩
            ·
              refine v_iconst hX (v := iI 1) dX11_look_112 rfl ?_
              exact w_ireturn hX hE dX11_look_113 ⟨(by omega), (((((((((((cFr.rf _ _).sP (by decide) ⟨by omega, by omega⟩).sJ ⟨by omega, by omega⟩).sJ ⟨by omega, by omega⟩).sI (by decide) ⟨by omega, by omega⟩).sP (by decide) ⟨by omega, by omega⟩).tr (f7_.mono (by decide) (by decide) (by decide))).tr (f16_.mono (by decide) (by decide) (by decide))).tr (f25_.mono (by decide) (by decide) (by decide))).tr (f33_.mono (by decide) (by decide) (by decide))).tr (f40_.mono (by decide) (by decide) (by decide))), 1, o18_, o4_, rfl, ⟨by omega, by omega⟩, (by simp (disch := omega) only [y_P_s_P, x_P_s_P, z_P_s_I, z_P_s_J, z_P_s_A, z_P_s_B, y44_, y45_]), (by omega), (by simp (disch := omega) only [y_P_s_P, x_P_s_P, z_P_s_I, z_P_s_J, z_P_s_A, z_P_s_B, y44_, y45_]), hs_o4_, ⟨by omega, by omega⟩, trivial, (fun q9 => absurd q9 (by decide)), g40_eI, g40_hM, g40_sI, g40_gL, g40_oOk⟩
      ·
        refine v_iconst hX (v := iI 2) dX11_look_86 rfl ?_
        exact w_ireturn hX hE dX11_look_87 ⟨(by omega), ((((((((cFr.rf _ _).sP (by decide) ⟨by omega, by omega⟩).sJ ⟨by omega, by omega⟩).sJ ⟨by omega, by omega⟩).sI (by decide) ⟨by omega, by omega⟩).sP (by decide) ⟨by omega, by omega⟩).tr (f7_.mono (by decide) (by decide) (by decide))).tr (f16_.mono (by decide) (by decide) (by decide))), 2, o18_, o4_, rfl, ⟨by omega, by omega⟩, (by simp (disch := omega) only [y_P_s_P, x_P_s_P, z_P_s_I, z_P_s_J, z_P_s_A, z_P_s_B, y22_, e_o18_]), (by omega), (by simp (disch := omega) only [y_P_s_P, x_P_s_P, z_P_s_I, z_P_s_J, z_P_s_A, z_P_s_B, y22_, e_o18_]), hs_o4_, ⟨by omega, by omega⟩, trivial, (fun q9 => absurd q9 (by decide)), g16_eI, g16_hM, g16_sI, g16_gL, g16_oOk⟩
    ·
      refine v_iconst hX (v := iI 1) dX11_look_74 rfl ?_
      exact w_ireturn hX hE dX11_look_75 ⟨(by omega), ((((((((cFr.rf _ _).sP (by decide) ⟨by omega, by omega⟩).sJ ⟨by omega, by omega⟩).sJ ⟨by omega, by omega⟩).sI (by decide) ⟨by omega, by omega⟩).sP (by decide) ⟨by omega, by omega⟩).tr (f7_.mono (by decide) (by decide) (by decide))).tr (f16_.mono (by decide) (by decide) (by decide))), 1, o18_, o4_, rfl, ⟨by omega, by omega⟩, (by simp (disch := omega) only [y_P_s_P, x_P_s_P, z_P_s_I, z_P_s_J, z_P_s_A, z_P_s_B, y22_, e_o18_]), (by omega), (by simp (disch := omega) only [y_P_s_P, x_P_s_P, z_P_s_I, z_P_s_J, z_P_s_A, z_P_s_B, y22_, e_o18_]), hs_o4_, ⟨by omega, by omega⟩, trivial, (fun q9 => absurd q9 (by decide)), g16_eI, g16_hM, g16_sI, g16_gL, g16_oOk⟩
set_option maxRecDepth 100000 in
set_option maxHeartbeats 4000000 in
theorem g_T_accept {kn : Nat → Nat} {B : Nat} {S : b_M} {z x w : Nat} {lo : Int} {hi : Int} {oi : Nat} {dr : Nat} (h : cS S x) (e_lo : m_I S 306 (x + 425) = iI lo) (b_lo : -2147483648 ≤ lo ∧ lo < 2147483648) (e_hi : m_I S 307 (x + 425) = iI hi) (b_hi : -2147483648 ≤ hi ∧ hi < 2147483648) (e_oi : m_P S 908 (x + 418) = some (kn oi)) (o_oi : oi < 17) (e_dr : m_P S 907 (x + 418) = some dr) (hs_dr : isS x dr) (g_eI : eI S x w) (g_gN : gN S x) (g_gL : gL S x) (g_hM : hM S x w) (g_bY : bY S) (g_gP : gP S x) (g_oOk : oOk kn S x) (g_gC : gC S x lo hi oi) : b_C kn B yX11_accept cX11_accept 2 none 3 86 0 0 [.ref (x + 418)] S z (fun r S' z' => z = z' ∧ cFr [205, 206, 806, 504, 505, 807, 403, 913, 914, 915, 301, 310, 4, 5, 6, 802, 604] [1, 800] [7, 8, 10, 423, 424] w S S' x ∧ r = none ∧ (True) ∧ (eI S' x w) ∧ (gN S' x) ∧ (gL S' x) ∧ (gP S' x) ∧ (oOk kn S' x)) (fun _ _ _ => False) := by
  refine b_enter (by decide) (Nat.le_of_ble_eq_true rfl) ?_
  intro X hX hE hnL hkn hB hI_
  subst hkn; subst hB
  clear hI_
  change b_V X S z 0 0 0 [(0, .ref (x + 418))] []
  refine v_inj hX (fun inj_ => ?_)
  have L150 : ∀ (S150c : b_M) (vl : Int), cFr [205, 206, 806, 504, 505, 807, 403, 913, 914, 915, 301, 310, 4, 5, 6, 802, 604] [1, 800] [7, 8, 10, 423, 424] w S S150c x → ((-2147483648 ≤ vl ∧ vl < 2147483648)) → eI S150c x w → gN S150c x → gL S150c x → hM S150c x w → bY S150c → gP S150c x → oOk (b_kn X) S150c x → b_V X S150c z 0 0 150 [(1, .int (iI vl)), (0, .ref (x + 418))] [] := by
    intro S150c vl fr150 p150_0 g150_eI g150_gN g150_gL g150_hM g150_bY g150_gP g150_oOk
    have h150c : cS S150c x := fr150.keep (by decide) h
    have e150_lo : m_I S150c 306 (x + 425) = iI lo := (fr150.2.1 306 (by decide) _).trans e_lo
    have e150_hi : m_I S150c 307 (x + 425) = iI hi := (fr150.2.1 307 (by decide) _).trans e_hi
    have e150_oi : m_P S150c 908 (x + 418) = some (b_kn X oi) := (fr150.2.2.1 908 (by decide) _).trans e_oi
    have e150_dr : m_P S150c 907 (x + 418) = some dr := (fr150.2.2.1 907 (by decide) _).trans e_dr
    refine v_aload_n hX dX11_accept_150 (i := 0) rfl rfl ?_
    refine v_callV hX (n := 0) (g_T_isStatement (S := S150c) (x := x) (w := w) (oi := oi) h150c (by simp (disch := omega) only [y_P_s_P, x_P_s_P, z_P_s_I, z_P_s_J, z_P_s_A, z_P_s_B, e150_oi, e150_dr]) (by omega)) (cs_k_418 h150c) bc_9 (by decide) w_4_194 w_4_196 (bw_p (q := (yX11_isStatement, 16)) (List.mem_of_getElem? (i := 24) rfl) rfl) w_1_10 w_4_197 (by decide +kernel) rfl ⟨by decide, by decide⟩ ⟨by omega, by omega⟩ (Nat.le_of_ble_eq_true rfl) rfl dX11_accept_151 (fun _ _ _ q => q) ?_
    rintro r1_ S1_ z1_ ⟨rfl, rfl, v2_, rfl, b_v2_, q1_⟩
    refine u_if_eq hX (tgt := 222) dX11_accept_154 (by decide) ⟨by omega, by omega⟩ (fun h3_ => ?_) (fun h3_ => ?_)
    ·
      exact v_return hX hE dX11_accept_222 (by omega) (by omega) ⟨rfl, fr150, rfl, trivial, g150_eI, g150_gN, g150_gL, g150_gP, g150_oOk⟩
    ·
      refine v_aload_n hX dX11_accept_157 (i := 0) rfl rfl ?_
      refine v_get hX (ci := 9) (k := 7) (cs_k_418 h150c) bc_9 (by decide) (by decide) in_9 w_2_133 dX11_accept_158 (mvP (f := 907) (q := dr) rfl rfl (by simp (disch := omega) only [y_P_s_P, x_P_s_P, z_P_s_I, z_P_s_J, z_P_s_A, z_P_s_B, e150_oi, e150_dr])) ?_
      refine v_aload_n hX dX11_accept_161 (i := 0) rfl rfl ?_
      refine v_get hX (ci := 9) (k := 8) (cs_k_418 h150c) bc_9 (by decide) (by decide) in_9 w_2_134 dX11_accept_162 (mvP (f := 908) (q := (b_kn X oi)) rfl rfl (by simp (disch := omega) only [y_P_s_P, x_P_s_P, z_P_s_I, z_P_s_J, z_P_s_A, z_P_s_B, e150_oi, e150_dr])) ?_
      refine w_getO hX (i := oi) (k := 1) (by omega) (by decide) w_8_2 dX11_accept_165 ?_
      have b4_ := oI_b 1 (by decide) oi (by omega)
      have b5_ := oI_z oi (by omega)
      refine u_if_eq hX (tgt := 178) dX11_accept_168 (by decide) ⟨by omega, by omega⟩ (fun h6_ => ?_) (fun h6_ => ?_)
      ·
        refine v_getsK hX (i := 2) (by decide) rfl w_5_16 dX11_accept_178 ?_
        refine v_putP hX (ci := 8) (k := 0) (f := 800) (isS_k h150c hs_dr) bc_8 (by decide) (by decide) in_8 tyX10_ok nmX10 w_1_143 (Or.inl rfl) rfl rfl dX11_accept_181 rfl rfl ?_
        refine v_aload_n hX dX11_accept_184 (i := 0) rfl rfl ?_
        refine v_get hX (ci := 9) (k := 7) (cs_k_418 (cS.sP h150c (by decide) ⟨(isX_in hs_dr).1, (isX_in hs_dr).2⟩)) bc_9 (by decide) (by decide) in_9 w_2_133 dX11_accept_185 (mvP (f := 907) (q := dr) rfl rfl (by simp (disch := omega) only [y_P_s_P, x_P_s_P, z_P_s_I, z_P_s_J, z_P_s_A, z_P_s_B, e150_oi, e150_dr])) ?_
        refine v_aload_n hX dX11_accept_188 (i := 0) rfl rfl ?_
        obtain ⟨v7_, e_v7_, b_v7_⟩ := j_ex (m_J (s_P S150c 800 dr (some (b_kn X 2))) 909 (x + 418))
        refine v_get hX (ci := 9) (k := 9) (cs_k_418 (cS.sP h150c (by decide) ⟨(isX_in hs_dr).1, (isX_in hs_dr).2⟩)) bc_9 (by decide) (by decide) in_9 w_2_135 dX11_accept_189 (mvG (f := 909) (v := jJ v7_) rfl rfl e_v7_) ?_
        refine v_lconst hX (v := jJ 0) dX11_accept_192 rfl ?_
        refine u_lcmp hX dX11_accept_193 ⟨by omega, by omega⟩ ⟨by omega, by omega⟩ (fun v8_ b_v8_ c_v8_ => ?_)
        refine u_if_ne hX (tgt := 201) dX11_accept_194 (by decide) ⟨by omega, by omega⟩ (fun h9_ => ?_) (fun h9_ => ?_)
        ·
          refine v_aload_n hX dX11_accept_201 (i := 0) rfl rfl ?_
          refine v_get hX (ci := 9) (k := 1) (cs_k_418 (cS.sP h150c (by decide) ⟨(isX_in hs_dr).1, (isX_in hs_dr).2⟩)) bc_9 (by decide) (by decide) in_9 w_2_125 dX11_accept_202 (mvP (f := 901) (q := (x + 6)) rfl rfl (cs_p_901 (cS.sP h150c (by decide) ⟨(isX_in hs_dr).1, (isX_in hs_dr).2⟩))) ?_
          refine v_aload_n hX dX11_accept_205 (i := 0) rfl rfl ?_
          obtain ⟨v10_, e_v10_, b_v10_⟩ := j_ex (m_J (s_P S150c 800 dr (some (b_kn X 2))) 909 (x + 418))
          refine v_get hX (ci := 9) (k := 9) (cs_k_418 (cS.sP h150c (by decide) ⟨(isX_in hs_dr).1, (isX_in hs_dr).2⟩)) bc_9 (by decide) (by decide) in_9 w_2_135 dX11_accept_206 (mvG (f := 909) (v := jJ v10_) rfl rfl e_v10_) ?_
          refine v_callV hX (n := 1) (g_N_addLabel (S := (s_P S150c 800 dr (some (b_kn X 2)))) (x := x) (w := w) (v := v10_) (cS.sP h150c (by decide) ⟨(isX_in hs_dr).1, (isX_in hs_dr).2⟩) ⟨by omega, by omega⟩ (gN.fr g150_gN h150c (show cFr [] [800] [] w S150c (s_P S150c 800 dr (some (b_kn X 2))) x from ((cFr.rf _ _).sP (by decide) ⟨(isX_in hs_dr).1, (isX_in hs_dr).2⟩)) (by decide))) (cs_k_6 (cS.sP h150c (by decide) ⟨(isX_in hs_dr).1, (isX_in hs_dr).2⟩)) bc_5 (by decide) w_5_18 w_5_19 w_5_20 w_1_4 w_5_21 (by decide +kernel) rfl ⟨by decide, by decide⟩ ⟨by omega, by omega⟩ (Nat.le_of_ble_eq_true rfl) rfl dX11_accept_209 (fun _ _ _ q => q) ?_
          rintro r11_ S11_ z11_ ⟨rfl, f11_, v12_, rfl, b_v12_, q11_, g11_gN⟩
          have y13_ : m_I S11_ 306 (x + 425) = iI lo := (f11_.2.1 306 (by decide) _).trans (by simp (disch := omega) only [y_I_s_I, x_I_s_I, z_I_s_J, z_I_s_A, z_I_s_B, z_I_s_P, e150_lo, e150_hi])
          have y14_ : m_I S11_ 307 (x + 425) = iI hi := (f11_.2.1 307 (by decide) _).trans (by simp (disch := omega) only [y_I_s_I, x_I_s_I, z_I_s_J, z_I_s_A, z_I_s_B, z_I_s_P, e150_lo, e150_hi])
          have y15_ : m_P S11_ 908 (x + 418) = some (b_kn X oi) := (f11_.2.2.1 908 (by decide) _).trans (by simp (disch := omega) only [y_P_s_P, x_P_s_P, z_P_s_I, z_P_s_J, z_P_s_A, z_P_s_B, e150_oi, e150_dr])
          have y16_ : m_P S11_ 907 (x + 418) = some dr := (f11_.2.2.1 907 (by decide) _).trans (by simp (disch := omega) only [y_P_s_P, x_P_s_P, z_P_s_I, z_P_s_J, z_P_s_A, z_P_s_B, e150_oi, e150_dr])
          have y17_ : m_P S11_ 800 dr = some (b_kn X 2) := (f11_.2.2.1 800 (by decide) _).trans (by simp (disch := omega) only [y_P_s_P, x_P_s_P, z_P_s_I, z_P_s_J, z_P_s_A, z_P_s_B, e150_oi, e150_dr])
          have h11_ : cS S11_ x := f11_.keep (by decide) (cS.sP h150c (by decide) ⟨(isX_in hs_dr).1, (isX_in hs_dr).2⟩)
          have g11_eI : eI S11_ x w := eI.fr (eI.fr g150_eI h150c (show cFr [] [800] [] w S150c (s_P S150c 800 dr (some (b_kn X 2))) x from ((cFr.rf _ _).sP (by decide) ⟨(isX_in hs_dr).1, (isX_in hs_dr).2⟩)) (by decide)) (cS.sP h150c (by decide) ⟨(isX_in hs_dr).1, (isX_in hs_dr).2⟩) f11_ (by decide)
          have g11_gL : gL S11_ x := gL.fr (gL.fr g150_gL h150c (show cFr [] [800] [] w S150c (s_P S150c 800 dr (some (b_kn X 2))) x from ((cFr.rf _ _).sP (by decide) ⟨(isX_in hs_dr).1, (isX_in hs_dr).2⟩)) (by decide)) (cS.sP h150c (by decide) ⟨(isX_in hs_dr).1, (isX_in hs_dr).2⟩) f11_ (by decide)
          have g11_hM : hM S11_ x w := hM.fr (hM.fr g150_hM h150c (show cFr [] [800] [] w S150c (s_P S150c 800 dr (some (b_kn X 2))) x from ((cFr.rf _ _).sP (by decide) ⟨(isX_in hs_dr).1, (isX_in hs_dr).2⟩)) (by decide)) (cS.sP h150c (by decide) ⟨(isX_in hs_dr).1, (isX_in hs_dr).2⟩) f11_ (by decide)
          have g11_bY : bY S11_ := bY.fr (bY.fr g150_bY h150c (show cFr [] [800] [] w S150c (s_P S150c 800 dr (some (b_kn X 2))) x from ((cFr.rf _ _).sP (by decide) ⟨(isX_in hs_dr).1, (isX_in hs_dr).2⟩)) (by decide)) (cS.sP h150c (by decide) ⟨(isX_in hs_dr).1, (isX_in hs_dr).2⟩) f11_ (by decide)
          have g11_gP : gP S11_ x := gP.fr (gP.fr g150_gP h150c (show cFr [] [800] [] w S150c (s_P S150c 800 dr (some (b_kn X 2))) x from ((cFr.rf _ _).sP (by decide) ⟨(isX_in hs_dr).1, (isX_in hs_dr).2⟩)) (by decide)) (cS.sP h150c (by decide) ⟨(isX_in hs_dr).1, (isX_in hs_dr).2⟩) f11_ (by decide)
          have g11_oOk : oOk (b_kn X) S11_ x := oOk.fr (show oOk (b_kn X) (s_P S150c 800 dr (some (b_kn X 2))) x from oOk.set (i := 2) g150_oOk (by omega)) (cS.sP h150c (by decide) ⟨(isX_in hs_dr).1, (isX_in hs_dr).2⟩) f11_ (by decide)
          refine v_putI hX (ci := 8) (k := 2) (f := 802) (isS_k h11_ hs_dr) bc_8 (by decide) (by decide) in_8 tyX10_ok nmX10 w_1_148 (Or.inl rfl) rfl rfl dX11_accept_212 rfl rfl ?_
          refine v_aload_n hX dX11_accept_215 (i := 0) rfl rfl ?_
          refine v_get hX (ci := 9) (k := 0) (cs_k_418 (cS.sI h11_)) bc_9 (by decide) (by decide) in_9 w_2_124 dX11_accept_216 (mvP (f := 900) (q := (x + 5)) rfl rfl (cs_p_900 (cS.sI h11_))) ?_
          refine v_callV hX (n := 0) (g_P_keepDraft (S := (s_I S11_ 802 dr (iI v12_))) (x := x) (w := w) (cS.sI h11_) (gP.fr g11_gP h11_ (show cFr [802] [] [] w S11_ (s_I S11_ 802 dr (iI v12_)) x from ((cFr.rf _ _).sI (by decide) ⟨(isX_in hs_dr).1, (isX_in hs_dr).2⟩)) (by decide))) (cs_k_5 (cS.sI h11_)) bc_6 (by decide) w_5_22 w_5_23 w_5_24 w_1_3 w_5_25 (by decide +kernel) rfl ⟨by decide, by decide⟩ ⟨by omega, by omega⟩ (Nat.le_of_ble_eq_true rfl) rfl dX11_accept_219 (fun _ _ _ q => q) ?_
          rintro r18_ S18_ z18_ ⟨rfl, f18_, rfl, q18_, g18_gP⟩
          have y19_ : m_I S18_ 306 (x + 425) = iI lo := (f18_.2.1 306 (by decide) _).trans (by simp (disch := omega) only [y_I_s_I, x_I_s_I, z_I_s_J, z_I_s_A, z_I_s_B, z_I_s_P, y13_, y14_])
          have y20_ : m_I S18_ 307 (x + 425) = iI hi := (f18_.2.1 307 (by decide) _).trans (by simp (disch := omega) only [y_I_s_I, x_I_s_I, z_I_s_J, z_I_s_A, z_I_s_B, z_I_s_P, y13_, y14_])
          have y21_ : m_I S18_ 802 dr = iI v12_ := (f18_.2.1 802 (by decide) _).trans (by simp (disch := omega) only [y_I_s_I, x_I_s_I, z_I_s_J, z_I_s_A, z_I_s_B, z_I_s_P, y13_, y14_])
          have y22_ : m_P S18_ 908 (x + 418) = some (b_kn X oi) := (f18_.2.2.1 908 (by decide) _).trans (by simp (disch := omega) only [y_P_s_P, x_P_s_P, z_P_s_I, z_P_s_J, z_P_s_A, z_P_s_B, y15_, y16_, y17_])
          have y23_ : m_P S18_ 907 (x + 418) = some dr := (f18_.2.2.1 907 (by decide) _).trans (by simp (disch := omega) only [y_P_s_P, x_P_s_P, z_P_s_I, z_P_s_J, z_P_s_A, z_P_s_B, y15_, y16_, y17_])
          have y24_ : m_P S18_ 800 dr = some (b_kn X 2) := (f18_.2.2.1 800 (by decide) _).trans (by simp (disch := omega) only [y_P_s_P, x_P_s_P, z_P_s_I, z_P_s_J, z_P_s_A, z_P_s_B, y15_, y16_, y17_])
          have h18_ : cS S18_ x := f18_.keep (by decide) (cS.sI h11_)
          have g18_eI : eI S18_ x w := eI.fr (eI.fr g11_eI h11_ (show cFr [802] [] [] w S11_ (s_I S11_ 802 dr (iI v12_)) x from ((cFr.rf _ _).sI (by decide) ⟨(isX_in hs_dr).1, (isX_in hs_dr).2⟩)) (by decide)) (cS.sI h11_) f18_ (by decide)
          have g18_gL : gL S18_ x := gL.fr (gL.fr g11_gL h11_ (show cFr [802] [] [] w S11_ (s_I S11_ 802 dr (iI v12_)) x from ((cFr.rf _ _).sI (by decide) ⟨(isX_in hs_dr).1, (isX_in hs_dr).2⟩)) (by decide)) (cS.sI h11_) f18_ (by decide)
          have g18_hM : hM S18_ x w := hM.fr (hM.fr g11_hM h11_ (show cFr [802] [] [] w S11_ (s_I S11_ 802 dr (iI v12_)) x from ((cFr.rf _ _).sI (by decide) ⟨(isX_in hs_dr).1, (isX_in hs_dr).2⟩)) (by decide)) (cS.sI h11_) f18_ (by decide)
          have g18_bY : bY S18_ := bY.fr (bY.fr g11_bY h11_ (show cFr [802] [] [] w S11_ (s_I S11_ 802 dr (iI v12_)) x from ((cFr.rf _ _).sI (by decide) ⟨(isX_in hs_dr).1, (isX_in hs_dr).2⟩)) (by decide)) (cS.sI h11_) f18_ (by decide)
          have g18_oOk : oOk (b_kn X) S18_ x := oOk.fr (oOk.fr g11_oOk h11_ (show cFr [802] [] [] w S11_ (s_I S11_ 802 dr (iI v12_)) x from ((cFr.rf _ _).sI (by decide) ⟨(isX_in hs_dr).1, (isX_in hs_dr).2⟩)) (by decide)) (cS.sI h11_) f18_ (by decide)
          have g18_gN : gN S18_ x := gN.fr (gN.fr g11_gN h11_ (show cFr [802] [] [] w S11_ (s_I S11_ 802 dr (iI v12_)) x from ((cFr.rf _ _).sI (by decide) ⟨(isX_in hs_dr).1, (isX_in hs_dr).2⟩)) (by decide)) (cS.sI h11_) f18_ (by decide)
          exact v_return hX hE dX11_accept_222 (by omega) (by omega) ⟨rfl, ((((fr150.sP (by decide) ⟨(isX_in hs_dr).1, (isX_in hs_dr).2⟩).tr (f11_.mono (by decide) (by decide) (by decide))).sI (by decide) ⟨(isX_in hs_dr).1, (isX_in hs_dr).2⟩).tr (f18_.mono (by decide) (by decide) (by decide))), rfl, trivial, g18_eI, g18_gN, g18_gL, g18_gP, g18_oOk⟩
        ·
          refine v_iconst hX (v := iI (-1)) dX11_accept_197 rfl ?_
          refine v_goto hX (tgt := 212) dX11_accept_198 (by decide) ?_
          refine v_putI hX (ci := 8) (k := 2) (f := 802) (isS_k (cS.sP h150c (by decide) ⟨(isX_in hs_dr).1, (isX_in hs_dr).2⟩) hs_dr) bc_8 (by decide) (by decide) in_8 tyX10_ok nmX10 w_1_148 (Or.inl rfl) rfl rfl dX11_accept_212 rfl rfl ?_
          refine v_aload_n hX dX11_accept_215 (i := 0) rfl rfl ?_
          refine v_get hX (ci := 9) (k := 0) (cs_k_418 (cS.sI (cS.sP h150c (by decide) ⟨(isX_in hs_dr).1, (isX_in hs_dr).2⟩))) bc_9 (by decide) (by decide) in_9 w_2_124 dX11_accept_216 (mvP (f := 900) (q := (x + 5)) rfl rfl (cs_p_900 (cS.sI (cS.sP h150c (by decide) ⟨(isX_in hs_dr).1, (isX_in hs_dr).2⟩)))) ?_
          refine v_callV hX (n := 0) (g_P_keepDraft (S := (s_I (s_P S150c 800 dr (some (b_kn X 2))) 802 dr (iI (-1)))) (x := x) (w := w) (cS.sI (cS.sP h150c (by decide) ⟨(isX_in hs_dr).1, (isX_in hs_dr).2⟩)) (gP.fr g150_gP h150c (show cFr [802] [800] [] w S150c (s_I (s_P S150c 800 dr (some (b_kn X 2))) 802 dr (iI (-1))) x from (((cFr.rf _ _).sP (by decide) ⟨(isX_in hs_dr).1, (isX_in hs_dr).2⟩).sI (by decide) ⟨(isX_in hs_dr).1, (isX_in hs_dr).2⟩)) (by decide))) (cs_k_5 (cS.sI (cS.sP h150c (by decide) ⟨(isX_in hs_dr).1, (isX_in hs_dr).2⟩))) bc_6 (by decide) w_5_22 w_5_23 w_5_24 w_1_3 w_5_25 (by decide +kernel) rfl ⟨by decide, by decide⟩ ⟨by omega, by omega⟩ (Nat.le_of_ble_eq_true rfl) rfl dX11_accept_219 (fun _ _ _ q => q) ?_
          rintro r25_ S25_ z25_ ⟨rfl, f25_, rfl, q25_, g25_gP⟩
          have y26_ : m_I S25_ 306 (x + 425) = iI lo := (f25_.2.1 306 (by decide) _).trans (by simp (disch := omega) only [y_I_s_I, x_I_s_I, z_I_s_J, z_I_s_A, z_I_s_B, z_I_s_P, e150_lo, e150_hi])
          have y27_ : m_I S25_ 307 (x + 425) = iI hi := (f25_.2.1 307 (by decide) _).trans (by simp (disch := omega) only [y_I_s_I, x_I_s_I, z_I_s_J, z_I_s_A, z_I_s_B, z_I_s_P, e150_lo, e150_hi])
          have y28_ : m_I S25_ 802 dr = iI (-1) := (f25_.2.1 802 (by decide) _).trans (by simp (disch := omega) only [y_I_s_I, x_I_s_I, z_I_s_J, z_I_s_A, z_I_s_B, z_I_s_P, e150_lo, e150_hi])
          have y29_ : m_P S25_ 908 (x + 418) = some (b_kn X oi) := (f25_.2.2.1 908 (by decide) _).trans (by simp (disch := omega) only [y_P_s_P, x_P_s_P, z_P_s_I, z_P_s_J, z_P_s_A, z_P_s_B, e150_oi, e150_dr])
          have y30_ : m_P S25_ 907 (x + 418) = some dr := (f25_.2.2.1 907 (by decide) _).trans (by simp (disch := omega) only [y_P_s_P, x_P_s_P, z_P_s_I, z_P_s_J, z_P_s_A, z_P_s_B, e150_oi, e150_dr])
          have y31_ : m_P S25_ 800 dr = some (b_kn X 2) := (f25_.2.2.1 800 (by decide) _).trans (by simp (disch := omega) only [y_P_s_P, x_P_s_P, z_P_s_I, z_P_s_J, z_P_s_A, z_P_s_B, e150_oi, e150_dr])
          have h25_ : cS S25_ x := f25_.keep (by decide) (cS.sI (cS.sP h150c (by decide) ⟨(isX_in hs_dr).1, (isX_in hs_dr).2⟩))
          have g25_eI : eI S25_ x w := eI.fr (eI.fr g150_eI h150c (show cFr [802] [800] [] w S150c (s_I (s_P S150c 800 dr (some (b_kn X 2))) 802 dr (iI (-1))) x from (((cFr.rf _ _).sP (by decide) ⟨(isX_in hs_dr).1, (isX_in hs_dr).2⟩).sI (by decide) ⟨(isX_in hs_dr).1, (isX_in hs_dr).2⟩)) (by decide)) (cS.sI (cS.sP h150c (by decide) ⟨(isX_in hs_dr).1, (isX_in hs_dr).2⟩)) f25_ (by decide)
          have g25_gN : gN S25_ x := gN.fr (gN.fr g150_gN h150c (show cFr [802] [800] [] w S150c (s_I (s_P S150c 800 dr (some (b_kn X 2))) 802 dr (iI (-1))) x from (((cFr.rf _ _).sP (by decide) ⟨(isX_in hs_dr).1, (isX_in hs_dr).2⟩).sI (by decide) ⟨(isX_in hs_dr).1, (isX_in hs_dr).2⟩)) (by decide)) (cS.sI (cS.sP h150c (by decide) ⟨(isX_in hs_dr).1, (isX_in hs_dr).2⟩)) f25_ (by decide)
          have g25_gL : gL S25_ x := gL.fr (gL.fr g150_gL h150c (show cFr [802] [800] [] w S150c (s_I (s_P S150c 800 dr (some (b_kn X 2))) 802 dr (iI (-1))) x from (((cFr.rf _ _).sP (by decide) ⟨(isX_in hs_dr).1, (isX_in hs_dr).2⟩).sI (by decide) ⟨(isX_in hs_dr).1, (isX_in hs_dr).2⟩)) (by decide)) (cS.sI (cS.sP h150c (by decide) ⟨(isX_in hs_dr).1, (isX_in hs_dr).2⟩)) f25_ (by decide)
          have g25_hM : hM S25_ x w := hM.fr (hM.fr g150_hM h150c (show cFr [802] [800] [] w S150c (s_I (s_P S150c 800 dr (some (b_kn X 2))) 802 dr (iI (-1))) x from (((cFr.rf _ _).sP (by decide) ⟨(isX_in hs_dr).1, (isX_in hs_dr).2⟩).sI (by decide) ⟨(isX_in hs_dr).1, (isX_in hs_dr).2⟩)) (by decide)) (cS.sI (cS.sP h150c (by decide) ⟨(isX_in hs_dr).1, (isX_in hs_dr).2⟩)) f25_ (by decide)
          have g25_bY : bY S25_ := bY.fr (bY.fr g150_bY h150c (show cFr [802] [800] [] w S150c (s_I (s_P S150c 800 dr (some (b_kn X 2))) 802 dr (iI (-1))) x from (((cFr.rf _ _).sP (by decide) ⟨(isX_in hs_dr).1, (isX_in hs_dr).2⟩).sI (by decide) ⟨(isX_in hs_dr).1, (isX_in hs_dr).2⟩)) (by decide)) (cS.sI (cS.sP h150c (by decide) ⟨(isX_in hs_dr).1, (isX_in hs_dr).2⟩)) f25_ (by decide)
          have g25_oOk : oOk (b_kn X) S25_ x := oOk.fr (show oOk (b_kn X) (s_I (s_P S150c 800 dr (some (b_kn X 2))) 802 dr (iI (-1))) x from oOk.set (i := 2) g150_oOk (by omega)) (cS.sI (cS.sP h150c (by decide) ⟨(isX_in hs_dr).1, (isX_in hs_dr).2⟩)) f25_ (by decide)
          exact v_return hX hE dX11_accept_222 (by omega) (by omega) ⟨rfl, (((fr150.sP (by decide) ⟨(isX_in hs_dr).1, (isX_in hs_dr).2⟩).sI (by decide) ⟨(isX_in hs_dr).1, (isX_in hs_dr).2⟩).tr (f25_.mono (by decide) (by decide) (by decide))), rfl, trivial, g25_eI, g25_gN, g25_gL, g25_gP, g25_oOk⟩
      ·
        refine v_aload_n hX dX11_accept_171 (i := 0) rfl rfl ?_
        refine v_get hX (ci := 9) (k := 8) (cs_k_418 h150c) bc_9 (by decide) (by decide) in_9 w_2_134 dX11_accept_172 (mvP (f := 908) (q := (b_kn X oi)) rfl rfl (by simp (disch := omega) only [y_P_s_P, x_P_s_P, z_P_s_I, z_P_s_J, z_P_s_A, z_P_s_B, e150_oi, e150_dr])) ?_
        refine v_goto hX (tgt := 181) dX11_accept_175 (by decide) ?_
        refine v_putP hX (ci := 8) (k := 0) (f := 800) (isS_k h150c hs_dr) bc_8 (by decide) (by decide) in_8 tyX10_ok nmX10 w_1_143 (Or.inl rfl) rfl rfl dX11_accept_181 rfl rfl ?_
        refine v_aload_n hX dX11_accept_184 (i := 0) rfl rfl ?_
        refine v_get hX (ci := 9) (k := 7) (cs_k_418 (cS.sP h150c (by decide) ⟨(isX_in hs_dr).1, (isX_in hs_dr).2⟩)) bc_9 (by decide) (by decide) in_9 w_2_133 dX11_accept_185 (mvP (f := 907) (q := dr) rfl rfl (by simp (disch := omega) only [y_P_s_P, x_P_s_P, z_P_s_I, z_P_s_J, z_P_s_A, z_P_s_B, e150_oi, e150_dr])) ?_
        refine v_aload_n hX dX11_accept_188 (i := 0) rfl rfl ?_
        obtain ⟨v32_, e_v32_, b_v32_⟩ := j_ex (m_J (s_P S150c 800 dr (some (b_kn X oi))) 909 (x + 418))
        refine v_get hX (ci := 9) (k := 9) (cs_k_418 (cS.sP h150c (by decide) ⟨(isX_in hs_dr).1, (isX_in hs_dr).2⟩)) bc_9 (by decide) (by decide) in_9 w_2_135 dX11_accept_189 (mvG (f := 909) (v := jJ v32_) rfl rfl e_v32_) ?_
        refine v_lconst hX (v := jJ 0) dX11_accept_192 rfl ?_
        refine u_lcmp hX dX11_accept_193 ⟨by omega, by omega⟩ ⟨by omega, by omega⟩ (fun v33_ b_v33_ c_v33_ => ?_)
        refine u_if_ne hX (tgt := 201) dX11_accept_194 (by decide) ⟨by omega, by omega⟩ (fun h34_ => ?_) (fun h34_ => ?_)
        ·
          refine v_aload_n hX dX11_accept_201 (i := 0) rfl rfl ?_
          refine v_get hX (ci := 9) (k := 1) (cs_k_418 (cS.sP h150c (by decide) ⟨(isX_in hs_dr).1, (isX_in hs_dr).2⟩)) bc_9 (by decide) (by decide) in_9 w_2_125 dX11_accept_202 (mvP (f := 901) (q := (x + 6)) rfl rfl (cs_p_901 (cS.sP h150c (by decide) ⟨(isX_in hs_dr).1, (isX_in hs_dr).2⟩))) ?_
          refine v_aload_n hX dX11_accept_205 (i := 0) rfl rfl ?_
          obtain ⟨v35_, e_v35_, b_v35_⟩ := j_ex (m_J (s_P S150c 800 dr (some (b_kn X oi))) 909 (x + 418))
          refine v_get hX (ci := 9) (k := 9) (cs_k_418 (cS.sP h150c (by decide) ⟨(isX_in hs_dr).1, (isX_in hs_dr).2⟩)) bc_9 (by decide) (by decide) in_9 w_2_135 dX11_accept_206 (mvG (f := 909) (v := jJ v35_) rfl rfl e_v35_) ?_
          refine v_callV hX (n := 1) (g_N_addLabel (S := (s_P S150c 800 dr (some (b_kn X oi)))) (x := x) (w := w) (v := v35_) (cS.sP h150c (by decide) ⟨(isX_in hs_dr).1, (isX_in hs_dr).2⟩) ⟨by omega, by omega⟩ (gN.fr g150_gN h150c (show cFr [] [800] [] w S150c (s_P S150c 800 dr (some (b_kn X oi))) x from ((cFr.rf _ _).sP (by decide) ⟨(isX_in hs_dr).1, (isX_in hs_dr).2⟩)) (by decide))) (cs_k_6 (cS.sP h150c (by decide) ⟨(isX_in hs_dr).1, (isX_in hs_dr).2⟩)) bc_5 (by decide) w_5_18 w_5_19 w_5_20 w_1_4 w_5_21 (by decide +kernel) rfl ⟨by decide, by decide⟩ ⟨by omega, by omega⟩ (Nat.le_of_ble_eq_true rfl) rfl dX11_accept_209 (fun _ _ _ q => q) ?_
          rintro r36_ S36_ z36_ ⟨rfl, f36_, v37_, rfl, b_v37_, q36_, g36_gN⟩
          have y38_ : m_I S36_ 306 (x + 425) = iI lo := (f36_.2.1 306 (by decide) _).trans (by simp (disch := omega) only [y_I_s_I, x_I_s_I, z_I_s_J, z_I_s_A, z_I_s_B, z_I_s_P, e150_lo, e150_hi])
          have y39_ : m_I S36_ 307 (x + 425) = iI hi := (f36_.2.1 307 (by decide) _).trans (by simp (disch := omega) only [y_I_s_I, x_I_s_I, z_I_s_J, z_I_s_A, z_I_s_B, z_I_s_P, e150_lo, e150_hi])
          have y40_ : m_P S36_ 908 (x + 418) = some (b_kn X oi) := (f36_.2.2.1 908 (by decide) _).trans (by simp (disch := omega) only [y_P_s_P, x_P_s_P, z_P_s_I, z_P_s_J, z_P_s_A, z_P_s_B, e150_oi, e150_dr])
          have y41_ : m_P S36_ 907 (x + 418) = some dr := (f36_.2.2.1 907 (by decide) _).trans (by simp (disch := omega) only [y_P_s_P, x_P_s_P, z_P_s_I, z_P_s_J, z_P_s_A, z_P_s_B, e150_oi, e150_dr])
          have y42_ : m_P S36_ 800 dr = some (b_kn X oi) := (f36_.2.2.1 800 (by decide) _).trans (by simp (disch := omega) only [y_P_s_P, x_P_s_P, z_P_s_I, z_P_s_J, z_P_s_A, z_P_s_B, e150_oi, e150_dr])
          have h36_ : cS S36_ x := f36_.keep (by decide) (cS.sP h150c (by decide) ⟨(isX_in hs_dr).1, (isX_in hs_dr).2⟩)
          have g36_eI : eI S36_ x w := eI.fr (eI.fr g150_eI h150c (show cFr [] [800] [] w S150c (s_P S150c 800 dr (some (b_kn X oi))) x from ((cFr.rf _ _).sP (by decide) ⟨(isX_in hs_dr).1, (isX_in hs_dr).2⟩)) (by decide)) (cS.sP h150c (by decide) ⟨(isX_in hs_dr).1, (isX_in hs_dr).2⟩) f36_ (by decide)
          have g36_gL : gL S36_ x := gL.fr (gL.fr g150_gL h150c (show cFr [] [800] [] w S150c (s_P S150c 800 dr (some (b_kn X oi))) x from ((cFr.rf _ _).sP (by decide) ⟨(isX_in hs_dr).1, (isX_in hs_dr).2⟩)) (by decide)) (cS.sP h150c (by decide) ⟨(isX_in hs_dr).1, (isX_in hs_dr).2⟩) f36_ (by decide)
          have g36_hM : hM S36_ x w := hM.fr (hM.fr g150_hM h150c (show cFr [] [800] [] w S150c (s_P S150c 800 dr (some (b_kn X oi))) x from ((cFr.rf _ _).sP (by decide) ⟨(isX_in hs_dr).1, (isX_in hs_dr).2⟩)) (by decide)) (cS.sP h150c (by decide) ⟨(isX_in hs_dr).1, (isX_in hs_dr).2⟩) f36_ (by decide)
          have g36_bY : bY S36_ := bY.fr (bY.fr g150_bY h150c (show cFr [] [800] [] w S150c (s_P S150c 800 dr (some (b_kn X oi))) x from ((cFr.rf _ _).sP (by decide) ⟨(isX_in hs_dr).1, (isX_in hs_dr).2⟩)) (by decide)) (cS.sP h150c (by decide) ⟨(isX_in hs_dr).1, (isX_in hs_dr).2⟩) f36_ (by decide)
          have g36_gP : gP S36_ x := gP.fr (gP.fr g150_gP h150c (show cFr [] [800] [] w S150c (s_P S150c 800 dr (some (b_kn X oi))) x from ((cFr.rf _ _).sP (by decide) ⟨(isX_in hs_dr).1, (isX_in hs_dr).2⟩)) (by decide)) (cS.sP h150c (by decide) ⟨(isX_in hs_dr).1, (isX_in hs_dr).2⟩) f36_ (by decide)
          have g36_oOk : oOk (b_kn X) S36_ x := oOk.fr (show oOk (b_kn X) (s_P S150c 800 dr (some (b_kn X oi))) x from oOk.set (i := oi) g150_oOk (by omega)) (cS.sP h150c (by decide) ⟨(isX_in hs_dr).1, (isX_in hs_dr).2⟩) f36_ (by decide)
          refine v_putI hX (ci := 8) (k := 2) (f := 802) (isS_k h36_ hs_dr) bc_8 (by decide) (by decide) in_8 tyX10_ok nmX10 w_1_148 (Or.inl rfl) rfl rfl dX11_accept_212 rfl rfl ?_
          refine v_aload_n hX dX11_accept_215 (i := 0) rfl rfl ?_
          refine v_get hX (ci := 9) (k := 0) (cs_k_418 (cS.sI h36_)) bc_9 (by decide) (by decide) in_9 w_2_124 dX11_accept_216 (mvP (f := 900) (q := (x + 5)) rfl rfl (cs_p_900 (cS.sI h36_))) ?_
          refine v_callV hX (n := 0) (g_P_keepDraft (S := (s_I S36_ 802 dr (iI v37_))) (x := x) (w := w) (cS.sI h36_) (gP.fr g36_gP h36_ (show cFr [802] [] [] w S36_ (s_I S36_ 802 dr (iI v37_)) x from ((cFr.rf _ _).sI (by decide) ⟨(isX_in hs_dr).1, (isX_in hs_dr).2⟩)) (by decide))) (cs_k_5 (cS.sI h36_)) bc_6 (by decide) w_5_22 w_5_23 w_5_24 w_1_3 w_5_25 (by decide +kernel) rfl ⟨by decide, by decide⟩ ⟨by omega, by omega⟩ (Nat.le_of_ble_eq_true rfl) rfl dX11_accept_219 (fun _ _ _ q => q) ?_
          rintro r43_ S43_ z43_ ⟨rfl, f43_, rfl, q43_, g43_gP⟩
          have y44_ : m_I S43_ 306 (x + 425) = iI lo := (f43_.2.1 306 (by decide) _).trans (by simp (disch := omega) only [y_I_s_I, x_I_s_I, z_I_s_J, z_I_s_A, z_I_s_B, z_I_s_P, y38_, y39_])
          have y45_ : m_I S43_ 307 (x + 425) = iI hi := (f43_.2.1 307 (by decide) _).trans (by simp (disch := omega) only [y_I_s_I, x_I_s_I, z_I_s_J, z_I_s_A, z_I_s_B, z_I_s_P, y38_, y39_])
          have y46_ : m_I S43_ 802 dr = iI v37_ := (f43_.2.1 802 (by decide) _).trans (by simp (disch := omega) only [y_I_s_I, x_I_s_I, z_I_s_J, z_I_s_A, z_I_s_B, z_I_s_P, y38_, y39_])
          have y47_ : m_P S43_ 908 (x + 418) = some (b_kn X oi) := (f43_.2.2.1 908 (by decide) _).trans (by simp (disch := omega) only [y_P_s_P, x_P_s_P, z_P_s_I, z_P_s_J, z_P_s_A, z_P_s_B, y40_, y41_, y42_])
          have y48_ : m_P S43_ 907 (x + 418) = some dr := (f43_.2.2.1 907 (by decide) _).trans (by simp (disch := omega) only [y_P_s_P, x_P_s_P, z_P_s_I, z_P_s_J, z_P_s_A, z_P_s_B, y40_, y41_, y42_])
          have y49_ : m_P S43_ 800 dr = some (b_kn X oi) := (f43_.2.2.1 800 (by decide) _).trans (by simp (disch := omega) only [y_P_s_P, x_P_s_P, z_P_s_I, z_P_s_J, z_P_s_A, z_P_s_B, y40_, y41_, y42_])
          have h43_ : cS S43_ x := f43_.keep (by decide) (cS.sI h36_)
          have g43_eI : eI S43_ x w := eI.fr (eI.fr g36_eI h36_ (show cFr [802] [] [] w S36_ (s_I S36_ 802 dr (iI v37_)) x from ((cFr.rf _ _).sI (by decide) ⟨(isX_in hs_dr).1, (isX_in hs_dr).2⟩)) (by decide)) (cS.sI h36_) f43_ (by decide)
          have g43_gL : gL S43_ x := gL.fr (gL.fr g36_gL h36_ (show cFr [802] [] [] w S36_ (s_I S36_ 802 dr (iI v37_)) x from ((cFr.rf _ _).sI (by decide) ⟨(isX_in hs_dr).1, (isX_in hs_dr).2⟩)) (by decide)) (cS.sI h36_) f43_ (by decide)
          have g43_hM : hM S43_ x w := hM.fr (hM.fr g36_hM h36_ (show cFr [802] [] [] w S36_ (s_I S36_ 802 dr (iI v37_)) x from ((cFr.rf _ _).sI (by decide) ⟨(isX_in hs_dr).1, (isX_in hs_dr).2⟩)) (by decide)) (cS.sI h36_) f43_ (by decide)
          have g43_bY : bY S43_ := bY.fr (bY.fr g36_bY h36_ (show cFr [802] [] [] w S36_ (s_I S36_ 802 dr (iI v37_)) x from ((cFr.rf _ _).sI (by decide) ⟨(isX_in hs_dr).1, (isX_in hs_dr).2⟩)) (by decide)) (cS.sI h36_) f43_ (by decide)
          have g43_oOk : oOk (b_kn X) S43_ x := oOk.fr (oOk.fr g36_oOk h36_ (show cFr [802] [] [] w S36_ (s_I S36_ 802 dr (iI v37_)) x from ((cFr.rf _ _).sI (by decide) ⟨(isX_in hs_dr).1, (isX_in hs_dr).2⟩)) (by decide)) (cS.sI h36_) f43_ (by decide)
          have g43_gN : gN S43_ x := gN.fr (gN.fr g36_gN h36_ (show cFr [802] [] [] w S36_ (s_I S36_ 802 dr (iI v37_)) x from ((cFr.rf _ _).sI (by decide) ⟨(isX_in hs_dr).1, (isX_in hs_dr).2⟩)) (by decide)) (cS.sI h36_) f43_ (by decide)
          exact v_return hX hE dX11_accept_222 (by omega) (by omega) ⟨rfl, ((((fr150.sP (by decide) ⟨(isX_in hs_dr).1, (isX_in hs_dr).2⟩).tr (f36_.mono (by decide) (by decide) (by decide))).sI (by decide) ⟨(isX_in hs_dr).1, (isX_in hs_dr).2⟩).tr (f43_.mono (by decide) (by decide) (by decide))), rfl, trivial, g43_eI, g43_gN, g43_gL, g43_gP, g43_oOk⟩
        ·
          refine v_iconst hX (v := iI (-1)) dX11_accept_197 rfl ?_
          refine v_goto hX (tgt := 212) dX11_accept_198 (by decide) ?_
          refine v_putI hX (ci := 8) (k := 2) (f := 802) (isS_k (cS.sP h150c (by decide) ⟨(isX_in hs_dr).1, (isX_in hs_dr).2⟩) hs_dr) bc_8 (by decide) (by decide) in_8 tyX10_ok nmX10 w_1_148 (Or.inl rfl) rfl rfl dX11_accept_212 rfl rfl ?_
          refine v_aload_n hX dX11_accept_215 (i := 0) rfl rfl ?_
          refine v_get hX (ci := 9) (k := 0) (cs_k_418 (cS.sI (cS.sP h150c (by decide) ⟨(isX_in hs_dr).1, (isX_in hs_dr).2⟩))) bc_9 (by decide) (by decide) in_9 w_2_124 dX11_accept_216 (mvP (f := 900) (q := (x + 5)) rfl rfl (cs_p_900 (cS.sI (cS.sP h150c (by decide) ⟨(isX_in hs_dr).1, (isX_in hs_dr).2⟩)))) ?_
          refine v_callV hX (n := 0) (g_P_keepDraft (S := (s_I (s_P S150c 800 dr (some (b_kn X oi))) 802 dr (iI (-1)))) (x := x) (w := w) (cS.sI (cS.sP h150c (by decide) ⟨(isX_in hs_dr).1, (isX_in hs_dr).2⟩)) (gP.fr g150_gP h150c (show cFr [802] [800] [] w S150c (s_I (s_P S150c 800 dr (some (b_kn X oi))) 802 dr (iI (-1))) x from (((cFr.rf _ _).sP (by decide) ⟨(isX_in hs_dr).1, (isX_in hs_dr).2⟩).sI (by decide) ⟨(isX_in hs_dr).1, (isX_in hs_dr).2⟩)) (by decide))) (cs_k_5 (cS.sI (cS.sP h150c (by decide) ⟨(isX_in hs_dr).1, (isX_in hs_dr).2⟩))) bc_6 (by decide) w_5_22 w_5_23 w_5_24 w_1_3 w_5_25 (by decide +kernel) rfl ⟨by decide, by decide⟩ ⟨by omega, by omega⟩ (Nat.le_of_ble_eq_true rfl) rfl dX11_accept_219 (fun _ _ _ q => q) ?_
          rintro r50_ S50_ z50_ ⟨rfl, f50_, rfl, q50_, g50_gP⟩
          have y51_ : m_I S50_ 306 (x + 425) = iI lo := (f50_.2.1 306 (by decide) _).trans (by simp (disch := omega) only [y_I_s_I, x_I_s_I, z_I_s_J, z_I_s_A, z_I_s_B, z_I_s_P, e150_lo, e150_hi])
          have y52_ : m_I S50_ 307 (x + 425) = iI hi := (f50_.2.1 307 (by decide) _).trans (by simp (disch := omega) only [y_I_s_I, x_I_s_I, z_I_s_J, z_I_s_A, z_I_s_B, z_I_s_P, e150_lo, e150_hi])
          have y53_ : m_I S50_ 802 dr = iI (-1) := (f50_.2.1 802 (by decide) _).trans (by simp (disch := omega) only [y_I_s_I, x_I_s_I, z_I_s_J, z_I_s_A, z_I_s_B, z_I_s_P, e150_lo, e150_hi])
          have y54_ : m_P S50_ 908 (x + 418) = some (b_kn X oi) := (f50_.2.2.1 908 (by decide) _).trans (by simp (disch := omega) only [y_P_s_P, x_P_s_P, z_P_s_I, z_P_s_J, z_P_s_A, z_P_s_B, e150_oi, e150_dr])
          have y55_ : m_P S50_ 907 (x + 418) = some dr := (f50_.2.2.1 907 (by decide) _).trans (by simp (disch := omega) only [y_P_s_P, x_P_s_P, z_P_s_I, z_P_s_J, z_P_s_A, z_P_s_B, e150_oi, e150_dr])
          have y56_ : m_P S50_ 800 dr = some (b_kn X oi) := (f50_.2.2.1 800 (by decide) _).trans (by simp (disch := omega) only [y_P_s_P, x_P_s_P, z_P_s_I, z_P_s_J, z_P_s_A, z_P_s_B, e150_oi, e150_dr])
          have h50_ : cS S50_ x := f50_.keep (by decide) (cS.sI (cS.sP h150c (by decide) ⟨(isX_in hs_dr).1, (isX_in hs_dr).2⟩))
          have g50_eI : eI S50_ x w := eI.fr (eI.fr g150_eI h150c (show cFr [802] [800] [] w S150c (s_I (s_P S150c 800 dr (some (b_kn X oi))) 802 dr (iI (-1))) x from (((cFr.rf _ _).sP (by decide) ⟨(isX_in hs_dr).1, (isX_in hs_dr).2⟩).sI (by decide) ⟨(isX_in hs_dr).1, (isX_in hs_dr).2⟩)) (by decide)) (cS.sI (cS.sP h150c (by decide) ⟨(isX_in hs_dr).1, (isX_in hs_dr).2⟩)) f50_ (by decide)
          have g50_gN : gN S50_ x := gN.fr (gN.fr g150_gN h150c (show cFr [802] [800] [] w S150c (s_I (s_P S150c 800 dr (some (b_kn X oi))) 802 dr (iI (-1))) x from (((cFr.rf _ _).sP (by decide) ⟨(isX_in hs_dr).1, (isX_in hs_dr).2⟩).sI (by decide) ⟨(isX_in hs_dr).1, (isX_in hs_dr).2⟩)) (by decide)) (cS.sI (cS.sP h150c (by decide) ⟨(isX_in hs_dr).1, (isX_in hs_dr).2⟩)) f50_ (by decide)
          have g50_gL : gL S50_ x := gL.fr (gL.fr g150_gL h150c (show cFr [802] [800] [] w S150c (s_I (s_P S150c 800 dr (some (b_kn X oi))) 802 dr (iI (-1))) x from (((cFr.rf _ _).sP (by decide) ⟨(isX_in hs_dr).1, (isX_in hs_dr).2⟩).sI (by decide) ⟨(isX_in hs_dr).1, (isX_in hs_dr).2⟩)) (by decide)) (cS.sI (cS.sP h150c (by decide) ⟨(isX_in hs_dr).1, (isX_in hs_dr).2⟩)) f50_ (by decide)
          have g50_hM : hM S50_ x w := hM.fr (hM.fr g150_hM h150c (show cFr [802] [800] [] w S150c (s_I (s_P S150c 800 dr (some (b_kn X oi))) 802 dr (iI (-1))) x from (((cFr.rf _ _).sP (by decide) ⟨(isX_in hs_dr).1, (isX_in hs_dr).2⟩).sI (by decide) ⟨(isX_in hs_dr).1, (isX_in hs_dr).2⟩)) (by decide)) (cS.sI (cS.sP h150c (by decide) ⟨(isX_in hs_dr).1, (isX_in hs_dr).2⟩)) f50_ (by decide)
          have g50_bY : bY S50_ := bY.fr (bY.fr g150_bY h150c (show cFr [802] [800] [] w S150c (s_I (s_P S150c 800 dr (some (b_kn X oi))) 802 dr (iI (-1))) x from (((cFr.rf _ _).sP (by decide) ⟨(isX_in hs_dr).1, (isX_in hs_dr).2⟩).sI (by decide) ⟨(isX_in hs_dr).1, (isX_in hs_dr).2⟩)) (by decide)) (cS.sI (cS.sP h150c (by decide) ⟨(isX_in hs_dr).1, (isX_in hs_dr).2⟩)) f50_ (by decide)
          have g50_oOk : oOk (b_kn X) S50_ x := oOk.fr (show oOk (b_kn X) (s_I (s_P S150c 800 dr (some (b_kn X oi))) 802 dr (iI (-1))) x from oOk.set (i := oi) g150_oOk (by omega)) (cS.sI (cS.sP h150c (by decide) ⟨(isX_in hs_dr).1, (isX_in hs_dr).2⟩)) f50_ (by decide)
          exact v_return hX hE dX11_accept_222 (by omega) (by omega) ⟨rfl, (((fr150.sP (by decide) ⟨(isX_in hs_dr).1, (isX_in hs_dr).2⟩).sI (by decide) ⟨(isX_in hs_dr).1, (isX_in hs_dr).2⟩).tr (f50_.mono (by decide) (by decide) (by decide))), rfl, trivial, g50_eI, g50_gN, g50_gL, g50_gP, g50_oOk⟩
  have L111 : ∀ (S111c : b_M) (vl : Int), cFr [205, 206, 806, 504, 505, 807, 403, 913, 914, 915, 301, 310, 4, 5, 6, 802, 604] [1, 800] [7, 8, 10, 423, 424] w S S111c x → ((-2147483648 ≤ vl ∧ vl < 2147483648)) → eI S111c x w → gN S111c x → gL S111c x → hM S111c x w → bY S111c → gP S111c x → oOk (b_kn X) S111c x → gC S111c x lo hi oi → b_V X S111c z 0 0 111 [(1, .int (iI vl)), (0, .ref (x + 418))] [] := by
    intro S111c vl fr111 p111_0 g111_eI g111_gN g111_gL g111_hM g111_bY g111_gP g111_oOk g111_gC
    have h111c : cS S111c x := fr111.keep (by decide) h
    have e111_lo : m_I S111c 306 (x + 425) = iI lo := (fr111.2.1 306 (by decide) _).trans e_lo
    have e111_hi : m_I S111c 307 (x + 425) = iI hi := (fr111.2.1 307 (by decide) _).trans e_hi
    have e111_oi : m_P S111c 908 (x + 418) = some (b_kn X oi) := (fr111.2.2.1 908 (by decide) _).trans e_oi
    have e111_dr : m_P S111c 907 (x + 418) = some dr := (fr111.2.2.1 907 (by decide) _).trans e_dr
    refine v_aload_n hX dX11_accept_111 (i := 0) rfl rfl ?_
    refine v_get hX (ci := 9) (k := 8) (cs_k_418 h111c) bc_9 (by decide) (by decide) in_9 w_2_134 dX11_accept_112 (mvP (f := 908) (q := (b_kn X oi)) rfl rfl (by simp (disch := omega) only [y_P_s_P, x_P_s_P, z_P_s_I, z_P_s_J, z_P_s_A, z_P_s_B, e111_oi, e111_dr])) ?_
    refine v_getsK hX (i := 3) (by decide) rfl w_4_39 dX11_accept_115 ?_
    refine v_acmp_ne hX (tgt := 150) dX11_accept_118 (by decide) (fun h57_ => ?_) (fun h57_ => ?_)
    ·
      have h57_i : oi ≠ 3 := fun q9 => h57_ (by rw [q9])
      exact L150 _ vl fr111 (by omega) g111_eI g111_gN g111_gL g111_hM g111_bY g111_gP g111_oOk
    ·
      have h57_i := inj_ _ _ (by omega) (by omega) h57_
      have gc9_ := g111_gC (by omega)
      have gA9_ := gc9_.1
      have gO9_ := gc9_.2
      obtain ⟨fr9, to9, dp9, mt9, nx9, bw9, L9, a1_, a2_, a3_, a4_, a5_, a6_, a7_, a8_, a9_, b1_, b2_, b3_, b4_, b5_, b6_, b7_⟩ := id gA9_
      have fre_ : fr9 = lo := i_one a1_ (show m_I S111c 306 (x + 425) = iI lo from (by simp (disch := omega) only [y_I_s_I, x_I_s_I, z_I_s_J, z_I_s_A, z_I_s_B, z_I_s_P, e111_lo, e111_hi])) ⟨by omega, by omega⟩ ⟨by omega, by omega⟩
      have toe_ : to9 = hi := i_one a2_ (show m_I S111c 307 (x + 425) = iI hi from (by simp (disch := omega) only [y_I_s_I, x_I_s_I, z_I_s_J, z_I_s_A, z_I_s_B, z_I_s_P, e111_lo, e111_hi])) ⟨by omega, by omega⟩ ⟨by omega, by omega⟩
      refine v_aload_n hX dX11_accept_121 (i := 0) rfl rfl ?_
      refine v_get hX (ci := 9) (k := 6) (cs_k_418 h111c) bc_9 (by decide) (by decide) in_9 w_2_131 dX11_accept_122 (mvP (f := 906) (q := (x + 425)) rfl rfl (cs_p_906 h111c)) ?_
      refine v_aload_n hX dX11_accept_125 (i := 0) rfl rfl ?_
      refine v_get hX (ci := 9) (k := 5) (cs_k_418 h111c) bc_9 (by decide) (by decide) in_9 w_2_129 dX11_accept_126 (mvP (f := 905) (q := (x + 421)) rfl rfl (cs_p_905 h111c)) ?_
      refine v_aload_n hX dX11_accept_129 (i := 0) rfl rfl ?_
      obtain ⟨v58_, e_v58_, b_v58_⟩ := i_ex (m_I S111c 911 (x + 418))
      refine v_get hX (ci := 9) (k := 11) (cs_k_418 h111c) bc_9 (by decide) (by decide) in_9 w_2_137 dX11_accept_130 (mvF (f := 911) (v := iI v58_) rfl rfl (by simp (disch := omega) only [y_I_s_I, x_I_s_I, z_I_s_J, z_I_s_A, z_I_s_B, z_I_s_P, e111_lo, e111_hi, e_v58_])) ?_
      refine v_callV hX (n := 1) (g_M_from (S := S111c) (x := x) (w := w) (k := v58_) h111c ⟨by omega, by omega⟩ g111_gL) (cs_k_421 h111c) bc_4 (by decide) w_4_226 w_4_227 w_4_228 w_1_12 w_4_229 (by decide +kernel) rfl ⟨by decide, by decide⟩ ⟨by omega, by omega⟩ (Nat.le_of_ble_eq_true rfl) rfl dX11_accept_133 (fun _ _ _ q => q) ?_
      rintro r59_ S59_ z59_ ⟨rfl, rfl, v60_, rfl, b_v60_, q59_⟩
      refine v_aload_n hX dX11_accept_136 (i := 0) rfl rfl ?_
      refine v_get hX (ci := 9) (k := 5) (cs_k_418 h111c) bc_9 (by decide) (by decide) in_9 w_2_129 dX11_accept_137 (mvP (f := 905) (q := (x + 421)) rfl rfl (cs_p_905 h111c)) ?_
      refine v_aload_n hX dX11_accept_140 (i := 0) rfl rfl ?_
      refine v_get hX (ci := 9) (k := 11) (cs_k_418 h111c) bc_9 (by decide) (by decide) in_9 w_2_137 dX11_accept_141 (mvF (f := 911) (v := iI v58_) rfl rfl (by simp (disch := omega) only [y_I_s_I, x_I_s_I, z_I_s_J, z_I_s_A, z_I_s_B, z_I_s_P, e111_lo, e111_hi, e_v58_])) ?_
      refine v_callV hX (n := 1) (g_M_to (S := S111c) (x := x) (w := w) (k := v58_) h111c ⟨by omega, by omega⟩ g111_gL gA9_) (cs_k_421 h111c) bc_4 (by decide) w_4_230 w_4_231 w_4_232 w_1_12 w_4_233 (by decide +kernel) rfl ⟨by decide, by decide⟩ ⟨by omega, by omega⟩ (Nat.le_of_ble_eq_true rfl) rfl dX11_accept_144 (fun _ _ _ q => q) ?_
      rintro r61_ S61_ z61_ ⟨rfl, rfl, v62_, rfl, b_v62_, q61_, q61_0⟩
      refine v_callV hX (n := 2) (g_L_enter (S := S111c) (x := x) (w := w) (bf := v60_) (bt := v62_) h111c ⟨by omega, by omega⟩ ⟨by omega, by omega⟩ (fun d e0 h0 => ⟨by have dpe : dp9 = d := i_one a3_ e0 ⟨by omega, by omega⟩ ⟨by omega, by omega⟩; have h9 := q61_0 d lo e0 (by simp (disch := omega) only [y_I_s_I, x_I_s_I, z_I_s_J, z_I_s_A, z_I_s_B, z_I_s_P, e111_lo, e111_hi, e_v58_]) ⟨by omega, by omega⟩ ⟨by omega, by omega⟩ h0; omega, by have dpe : dp9 = d := i_one a3_ e0 ⟨by omega, by omega⟩ ⟨by omega, by omega⟩; have h8 := (b7_ (by omega)).1; omega⟩) g111_gL gO9_ g111_hM g111_bY (by omega)) (cs_k_425 h111c) bc_3 (by decide) w_4_234 w_4_235 w_4_236 w_1_13 w_4_237 (by decide +kernel) rfl ⟨by decide, by decide⟩ ⟨by omega, by omega⟩ (Nat.le_of_ble_eq_true rfl) rfl dX11_accept_147 (fun _ _ _ q => q) ?_
      rintro r63_ S63_ z63_ ⟨rfl, f63_, rfl, q63_, g63_gL⟩
      have y64_ : m_I S63_ 306 (x + 425) = iI lo := (f63_.2.1 306 (by decide) _).trans (by simp (disch := omega) only [y_I_s_I, x_I_s_I, z_I_s_J, z_I_s_A, z_I_s_B, z_I_s_P, e111_lo, e111_hi, e_v58_])
      have y65_ : m_I S63_ 307 (x + 425) = iI hi := (f63_.2.1 307 (by decide) _).trans (by simp (disch := omega) only [y_I_s_I, x_I_s_I, z_I_s_J, z_I_s_A, z_I_s_B, z_I_s_P, e111_lo, e111_hi, e_v58_])
      have y66_ : m_I S63_ 911 (x + 418) = iI v58_ := (f63_.2.1 911 (by decide) _).trans (by simp (disch := omega) only [y_I_s_I, x_I_s_I, z_I_s_J, z_I_s_A, z_I_s_B, z_I_s_P, e111_lo, e111_hi, e_v58_])
      have y67_ : m_P S63_ 908 (x + 418) = some (b_kn X oi) := (f63_.2.2.1 908 (by decide) _).trans (by simp (disch := omega) only [y_P_s_P, x_P_s_P, z_P_s_I, z_P_s_J, z_P_s_A, z_P_s_B, e111_oi, e111_dr])
      have y68_ : m_P S63_ 907 (x + 418) = some dr := (f63_.2.2.1 907 (by decide) _).trans (by simp (disch := omega) only [y_P_s_P, x_P_s_P, z_P_s_I, z_P_s_J, z_P_s_A, z_P_s_B, e111_oi, e111_dr])
      have h63_ : cS S63_ x := f63_.keep (by decide) h111c
      have g63_eI : eI S63_ x w := eI.fr g111_eI h111c f63_ (by decide)
      have g63_gN : gN S63_ x := gN.fr g111_gN h111c f63_ (by decide)
      have g63_hM : hM S63_ x w := hM.fr g111_hM h111c f63_ (by decide)
      have g63_bY : bY S63_ := bY.fr g111_bY h111c f63_ (by decide)
      have g63_gP : gP S63_ x := gP.fr g111_gP h111c f63_ (by decide)
      have g63_oOk : oOk (b_kn X) S63_ x := oOk.fr g111_oOk h111c f63_ (by decide)
      exact L150 _ vl (fr111.tr (f63_.mono (by decide) (by decide) (by decide))) (by omega) g63_eI g63_gN g63_gL g63_hM g63_bY g63_gP g63_oOk
  have L78 : ∀ (S78c : b_M) (vl : Int), cFr [205, 206, 806, 504, 505, 807, 403, 913, 914, 915, 301, 310, 4, 5, 6, 802, 604] [1, 800] [7, 8, 10, 423, 424] w S S78c x → ((-2147483648 ≤ vl ∧ vl < 2147483648)) → eI S78c x w → gN S78c x → gL S78c x → hM S78c x w → bY S78c → gP S78c x → oOk (b_kn X) S78c x → gC S78c x lo hi oi → b_V X S78c z 0 0 78 [(1, .int (iI vl)), (0, .ref (x + 418))] [] := by
    intro S78c vl fr78 p78_0 g78_eI g78_gN g78_gL g78_hM g78_bY g78_gP g78_oOk g78_gC
    have h78c : cS S78c x := fr78.keep (by decide) h
    have e78_lo : m_I S78c 306 (x + 425) = iI lo := (fr78.2.1 306 (by decide) _).trans e_lo
    have e78_hi : m_I S78c 307 (x + 425) = iI hi := (fr78.2.1 307 (by decide) _).trans e_hi
    have e78_oi : m_P S78c 908 (x + 418) = some (b_kn X oi) := (fr78.2.2.1 908 (by decide) _).trans e_oi
    have e78_dr : m_P S78c 907 (x + 418) = some dr := (fr78.2.2.1 907 (by decide) _).trans e_dr
    refine v_aload_n hX dX11_accept_78 (i := 0) rfl rfl ?_
    refine v_get hX (ci := 9) (k := 8) (cs_k_418 h78c) bc_9 (by decide) (by decide) in_9 w_2_134 dX11_accept_79 (mvP (f := 908) (q := (b_kn X oi)) rfl rfl (by simp (disch := omega) only [y_P_s_P, x_P_s_P, z_P_s_I, z_P_s_J, z_P_s_A, z_P_s_B, e78_oi, e78_dr])) ?_
    refine v_getsK hX (i := 15) (by decide) rfl w_4_159 dX11_accept_82 ?_
    refine v_acmp_ne hX (tgt := 111) dX11_accept_85 (by decide) (fun h69_ => ?_) (fun h69_ => ?_)
    ·
      have h69_i : oi ≠ 15 := fun q9 => h69_ (by rw [q9])
      exact L111 _ vl fr78 (by omega) g78_eI g78_gN g78_gL g78_hM g78_bY g78_gP g78_oOk g78_gC
    ·
      have h69_i := inj_ _ _ (by omega) (by omega) h69_
      refine v_aload_n hX dX11_accept_88 (i := 0) rfl rfl ?_
      refine v_get hX (ci := 9) (k := 5) (cs_k_418 h78c) bc_9 (by decide) (by decide) in_9 w_2_129 dX11_accept_89 (mvP (f := 905) (q := (x + 421)) rfl rfl (cs_p_905 h78c)) ?_
      refine v_aload_n hX dX11_accept_92 (i := 0) rfl rfl ?_
      obtain ⟨v70_, e_v70_, b_v70_⟩ := j_ex (m_J S78c 910 (x + 418))
      refine v_get hX (ci := 9) (k := 10) (cs_k_418 h78c) bc_9 (by decide) (by decide) in_9 w_2_136 dX11_accept_93 (mvG (f := 910) (v := jJ v70_) rfl rfl e_v70_) ?_
      refine v_aload_n hX dX11_accept_96 (i := 0) rfl rfl ?_
      refine v_get hX (ci := 9) (k := 6) (cs_k_418 h78c) bc_9 (by decide) (by decide) in_9 w_2_131 dX11_accept_97 (mvP (f := 906) (q := (x + 425)) rfl rfl (cs_p_906 h78c)) ?_
      obtain ⟨v71_, e_v71_, b_v71_⟩ := i_ex (m_I S78c 308 (x + 425))
      refine v_get hX (ci := 3) (k := 8) (cs_k_425 h78c) bc_3 (by decide) (by decide) in_3 w_2_88 dX11_accept_100 (mvF (f := 308) (v := iI v71_) rfl rfl (by simp (disch := omega) only [y_I_s_I, x_I_s_I, z_I_s_J, z_I_s_A, z_I_s_B, z_I_s_P, e78_lo, e78_hi, e_v71_])) ?_
      refine v_callV hX (n := 2) (g_M_open (S := S78c) (x := x) (w := w) (v := v70_) (f_ := v71_) h78c ⟨by omega, by omega⟩ ⟨by omega, by omega⟩ (by simp (disch := omega) only [y_I_s_I, x_I_s_I, z_I_s_J, z_I_s_A, z_I_s_B, z_I_s_P, e78_lo, e78_hi, e_v71_]) g78_gL) (cs_k_421 h78c) bc_4 (by decide) w_4_218 w_4_219 w_4_220 w_1_12 w_4_221 (by decide +kernel) rfl ⟨by decide, by decide⟩ ⟨by omega, by omega⟩ (Nat.le_of_ble_eq_true rfl) rfl dX11_accept_103 (fun _ _ _ q => q) ?_
      rintro r72_ S72_ z72_ ⟨rfl, f72_, rfl, q72_, g72_gL⟩
      have y73_ : m_I S72_ 306 (x + 425) = iI lo := (f72_.2.1 306 (by decide) _).trans (by simp (disch := omega) only [y_I_s_I, x_I_s_I, z_I_s_J, z_I_s_A, z_I_s_B, z_I_s_P, e78_lo, e78_hi, e_v71_])
      have y74_ : m_I S72_ 307 (x + 425) = iI hi := (f72_.2.1 307 (by decide) _).trans (by simp (disch := omega) only [y_I_s_I, x_I_s_I, z_I_s_J, z_I_s_A, z_I_s_B, z_I_s_P, e78_lo, e78_hi, e_v71_])
      have y75_ : m_I S72_ 308 (x + 425) = iI v71_ := (f72_.2.1 308 (by decide) _).trans (by simp (disch := omega) only [y_I_s_I, x_I_s_I, z_I_s_J, z_I_s_A, z_I_s_B, z_I_s_P, e78_lo, e78_hi, e_v71_])
      have y76_ : m_P S72_ 908 (x + 418) = some (b_kn X oi) := (f72_.2.2.1 908 (by decide) _).trans (by simp (disch := omega) only [y_P_s_P, x_P_s_P, z_P_s_I, z_P_s_J, z_P_s_A, z_P_s_B, e78_oi, e78_dr])
      have y77_ : m_P S72_ 907 (x + 418) = some dr := (f72_.2.2.1 907 (by decide) _).trans (by simp (disch := omega) only [y_P_s_P, x_P_s_P, z_P_s_I, z_P_s_J, z_P_s_A, z_P_s_B, e78_oi, e78_dr])
      have h72_ : cS S72_ x := f72_.keep (by decide) h78c
      have g72_eI : eI S72_ x w := eI.fr g78_eI h78c f72_ (by decide)
      have g72_gN : gN S72_ x := gN.fr g78_gN h78c f72_ (by decide)
      have g72_hM : hM S72_ x w := hM.fr g78_hM h78c f72_ (by decide)
      have g72_bY : bY S72_ := bY.fr g78_bY h78c f72_ (by decide)
      have g72_gP : gP S72_ x := gP.fr g78_gP h78c f72_ (by decide)
      have g72_oOk : oOk (b_kn X) S72_ x := oOk.fr g78_oOk h78c f72_ (by decide)
      refine v_aload_n hX dX11_accept_106 (i := 0) rfl rfl ?_
      refine v_iconst hX (v := iI 1) dX11_accept_107 rfl ?_
      refine v_callV hX (n := 1) (g_T_pass (S := S72_) (x := x) (w := w) (rt := 1) h72_ ⟨by omega, by omega⟩ (by omega)) (cs_k_418 h72_) bc_9 (by decide) w_4_222 w_4_224 (bw_p (q := (yX11_pass, 16)) (List.mem_of_getElem? (i := 27) rfl) rfl) w_1_10 w_4_225 (by decide +kernel) rfl ⟨by decide, by decide⟩ ⟨by omega, by omega⟩ (Nat.le_of_ble_eq_true rfl) rfl dX11_accept_108 (fun _ _ _ q => q) ?_
      rintro r78_ S78_ z78_ ⟨rfl, f78_, rfl, q78_⟩
      have y79_ : m_I S78_ 306 (x + 425) = iI lo := (f78_.2.1 306 (by decide) _).trans (by simp (disch := omega) only [y_I_s_I, x_I_s_I, z_I_s_J, z_I_s_A, z_I_s_B, z_I_s_P, y73_, y74_, y75_])
      have y80_ : m_I S78_ 307 (x + 425) = iI hi := (f78_.2.1 307 (by decide) _).trans (by simp (disch := omega) only [y_I_s_I, x_I_s_I, z_I_s_J, z_I_s_A, z_I_s_B, z_I_s_P, y73_, y74_, y75_])
      have y81_ : m_I S78_ 308 (x + 425) = iI v71_ := (f78_.2.1 308 (by decide) _).trans (by simp (disch := omega) only [y_I_s_I, x_I_s_I, z_I_s_J, z_I_s_A, z_I_s_B, z_I_s_P, y73_, y74_, y75_])
      have y82_ : m_P S78_ 908 (x + 418) = some (b_kn X oi) := (f78_.2.2.1 908 (by decide) _).trans (by simp (disch := omega) only [y_P_s_P, x_P_s_P, z_P_s_I, z_P_s_J, z_P_s_A, z_P_s_B, y76_, y77_])
      have y83_ : m_P S78_ 907 (x + 418) = some dr := (f78_.2.2.1 907 (by decide) _).trans (by simp (disch := omega) only [y_P_s_P, x_P_s_P, z_P_s_I, z_P_s_J, z_P_s_A, z_P_s_B, y76_, y77_])
      have h78_ : cS S78_ x := f78_.keep (by decide) h72_
      have g78_eI : eI S78_ x w := eI.fr g72_eI h72_ f78_ (by decide)
      have g78_gN : gN S78_ x := gN.fr g72_gN h72_ f78_ (by decide)
      have g78_hM : hM S78_ x w := hM.fr g72_hM h72_ f78_ (by decide)
      have g78_bY : bY S78_ := bY.fr g72_bY h72_ f78_ (by decide)
      have g78_gP : gP S78_ x := gP.fr g72_gP h72_ f78_ (by decide)
      have g78_oOk : oOk (b_kn X) S78_ x := oOk.fr g72_oOk h72_ f78_ (by decide)
      have g78_gL : gL S78_ x := gL.fr g72_gL h72_ f78_ (by decide)
      exact L111 _ vl ((fr78.tr (f72_.mono (by decide) (by decide) (by decide))).tr (f78_.mono (by decide) (by decide) (by decide))) (by omega) g78_eI g78_gN g78_gL g78_hM g78_bY g78_gP g78_oOk (fun h3_ => False.elim (by omega))
  have L60 : ∀ (S60c : b_M) (vl : Int), cFr [205, 206, 806, 504, 505, 807, 403, 913, 914, 915, 301, 310, 4, 5, 6, 802, 604] [1, 800] [7, 8, 10, 423, 424] w S S60c x → ((-2147483648 ≤ vl ∧ vl < 2147483648)) → eI S60c x w → gN S60c x → gL S60c x → hM S60c x w → bY S60c → gP S60c x → oOk (b_kn X) S60c x → gC S60c x lo hi oi → b_V X S60c z 0 0 60 [(1, .int (iI vl)), (0, .ref (x + 418))] [] := by
    intro S60c vl fr60 p60_0 g60_eI g60_gN g60_gL g60_hM g60_bY g60_gP g60_oOk g60_gC
    have h60c : cS S60c x := fr60.keep (by decide) h
    have e60_lo : m_I S60c 306 (x + 425) = iI lo := (fr60.2.1 306 (by decide) _).trans e_lo
    have e60_hi : m_I S60c 307 (x + 425) = iI hi := (fr60.2.1 307 (by decide) _).trans e_hi
    have e60_oi : m_P S60c 908 (x + 418) = some (b_kn X oi) := (fr60.2.2.1 908 (by decide) _).trans e_oi
    have e60_dr : m_P S60c 907 (x + 418) = some dr := (fr60.2.2.1 907 (by decide) _).trans e_dr
    refine v_aload_n hX dX11_accept_60 (i := 0) rfl rfl ?_
    refine v_get hX (ci := 9) (k := 8) (cs_k_418 h60c) bc_9 (by decide) (by decide) in_9 w_2_134 dX11_accept_61 (mvP (f := 908) (q := (b_kn X oi)) rfl rfl (by simp (disch := omega) only [y_P_s_P, x_P_s_P, z_P_s_I, z_P_s_J, z_P_s_A, z_P_s_B, e60_oi, e60_dr])) ?_
    refine v_getsK hX (i := 12) (by decide) rfl w_4_165 dX11_accept_64 ?_
    refine v_acmp_ne hX (tgt := 78) dX11_accept_67 (by decide) (fun h84_ => ?_) (fun h84_ => ?_)
    ·
      have h84_i : oi ≠ 12 := fun q9 => h84_ (by rw [q9])
      exact L78 _ vl fr60 (by omega) g60_eI g60_gN g60_gL g60_hM g60_bY g60_gP g60_oOk g60_gC
    ·
      have h84_i := inj_ _ _ (by omega) (by omega) h84_
      refine v_aload_n hX dX11_accept_70 (i := 0) rfl rfl ?_
      refine v_get hX (ci := 9) (k := 7) (cs_k_418 h60c) bc_9 (by decide) (by decide) in_9 w_2_133 dX11_accept_71 (mvP (f := 907) (q := dr) rfl rfl (by simp (disch := omega) only [y_P_s_P, x_P_s_P, z_P_s_I, z_P_s_J, z_P_s_A, z_P_s_B, e60_oi, e60_dr])) ?_
      refine v_iload_n hX dX11_accept_74 (i := 1) rfl rfl ?_
      refine v_putI hX (ci := 8) (k := 7) (f := 807) (isS_k h60c hs_dr) bc_8 (by decide) (by decide) in_8 tyX10_ok nmX10 w_1_162 (Or.inl rfl) rfl rfl dX11_accept_75 rfl rfl ?_
      exact L78 _ vl (fr60.sI (by decide) ⟨(isX_in hs_dr).1, (isX_in hs_dr).2⟩) (by omega) (eI.fr g60_eI h60c (show cFr [807] [] [] w S60c (s_I S60c 807 dr (iI vl)) x from ((cFr.rf _ _).sI (by decide) ⟨(isX_in hs_dr).1, (isX_in hs_dr).2⟩)) (by decide)) (gN.fr g60_gN h60c (show cFr [807] [] [] w S60c (s_I S60c 807 dr (iI vl)) x from ((cFr.rf _ _).sI (by decide) ⟨(isX_in hs_dr).1, (isX_in hs_dr).2⟩)) (by decide)) (gL.fr g60_gL h60c (show cFr [807] [] [] w S60c (s_I S60c 807 dr (iI vl)) x from ((cFr.rf _ _).sI (by decide) ⟨(isX_in hs_dr).1, (isX_in hs_dr).2⟩)) (by decide)) (hM.fr g60_hM h60c (show cFr [807] [] [] w S60c (s_I S60c 807 dr (iI vl)) x from ((cFr.rf _ _).sI (by decide) ⟨(isX_in hs_dr).1, (isX_in hs_dr).2⟩)) (by decide)) (bY.fr g60_bY h60c (show cFr [807] [] [] w S60c (s_I S60c 807 dr (iI vl)) x from ((cFr.rf _ _).sI (by decide) ⟨(isX_in hs_dr).1, (isX_in hs_dr).2⟩)) (by decide)) (gP.fr g60_gP h60c (show cFr [807] [] [] w S60c (s_I S60c 807 dr (iI vl)) x from ((cFr.rf _ _).sI (by decide) ⟨(isX_in hs_dr).1, (isX_in hs_dr).2⟩)) (by decide)) (oOk.fr g60_oOk h60c (show cFr [807] [] [] w S60c (s_I S60c 807 dr (iI vl)) x from ((cFr.rf _ _).sI (by decide) ⟨(isX_in hs_dr).1, (isX_in hs_dr).2⟩)) (by decide)) (gC.fr g60_gC h60c (show cFr [807] [] [] w S60c (s_I S60c 807 dr (iI vl)) x from ((cFr.rf _ _).sI (by decide) ⟨(isX_in hs_dr).1, (isX_in hs_dr).2⟩)) (by decide))
  have L38 : ∀ (S38c : b_M) (vl : Int), cFr [205, 206, 806, 504, 505, 807, 403, 913, 914, 915, 301, 310, 4, 5, 6, 802, 604] [1, 800] [7, 8, 10, 423, 424] w S S38c x → ((-2147483648 ≤ vl ∧ vl < 2147483648)) → eI S38c x w → gN S38c x → gL S38c x → hM S38c x w → bY S38c → gP S38c x → oOk (b_kn X) S38c x → gC S38c x lo hi oi → b_V X S38c z 0 0 38 [(1, .int (iI vl)), (0, .ref (x + 418))] [] := by
    intro S38c vl fr38 p38_0 g38_eI g38_gN g38_gL g38_hM g38_bY g38_gP g38_oOk g38_gC
    have h38c : cS S38c x := fr38.keep (by decide) h
    have e38_lo : m_I S38c 306 (x + 425) = iI lo := (fr38.2.1 306 (by decide) _).trans e_lo
    have e38_hi : m_I S38c 307 (x + 425) = iI hi := (fr38.2.1 307 (by decide) _).trans e_hi
    have e38_oi : m_P S38c 908 (x + 418) = some (b_kn X oi) := (fr38.2.2.1 908 (by decide) _).trans e_oi
    have e38_dr : m_P S38c 907 (x + 418) = some dr := (fr38.2.2.1 907 (by decide) _).trans e_dr
    refine v_aload_n hX dX11_accept_38 (i := 0) rfl rfl ?_
    refine v_get hX (ci := 9) (k := 8) (cs_k_418 h38c) bc_9 (by decide) (by decide) in_9 w_2_134 dX11_accept_39 (mvP (f := 908) (q := (b_kn X oi)) rfl rfl (by simp (disch := omega) only [y_P_s_P, x_P_s_P, z_P_s_I, z_P_s_J, z_P_s_A, z_P_s_B, e38_oi, e38_dr])) ?_
    refine v_getsK hX (i := 14) (by decide) rfl w_4_157 dX11_accept_42 ?_
    refine v_acmp_ne hX (tgt := 60) dX11_accept_45 (by decide) (fun h85_ => ?_) (fun h85_ => ?_)
    ·
      have h85_i : oi ≠ 14 := fun q9 => h85_ (by rw [q9])
      exact L60 _ vl fr38 (by omega) g38_eI g38_gN g38_gL g38_hM g38_bY g38_gP g38_oOk g38_gC
    ·
      have h85_i := inj_ _ _ (by omega) (by omega) h85_
      refine v_aload_n hX dX11_accept_48 (i := 0) rfl rfl ?_
      refine v_get hX (ci := 9) (k := 1) (cs_k_418 h38c) bc_9 (by decide) (by decide) in_9 w_2_125 dX11_accept_49 (mvP (f := 901) (q := (x + 6)) rfl rfl (cs_p_901 h38c)) ?_
      refine v_aload_n hX dX11_accept_52 (i := 0) rfl rfl ?_
      obtain ⟨v86_, e_v86_, b_v86_⟩ := j_ex (m_J S38c 910 (x + 418))
      refine v_get hX (ci := 9) (k := 10) (cs_k_418 h38c) bc_9 (by decide) (by decide) in_9 w_2_136 dX11_accept_53 (mvG (f := 910) (v := jJ v86_) rfl rfl e_v86_) ?_
      refine v_iload_n hX dX11_accept_56 (i := 1) rfl rfl ?_
      refine v_callV hX (n := 2) (g_N_addSet (S := S38c) (x := x) (w := w) (v := v86_) (val := vl) h38c ⟨by omega, by omega⟩ ⟨by omega, by omega⟩ g38_gN) (cs_k_6 h38c) bc_5 (by decide) w_4_207 w_4_208 w_4_209 w_1_4 w_4_210 (by decide +kernel) rfl ⟨by decide, by decide⟩ ⟨by omega, by omega⟩ (Nat.le_of_ble_eq_true rfl) rfl dX11_accept_57 (fun _ _ _ q => q) ?_
      rintro r87_ S87_ z87_ ⟨rfl, f87_, rfl, q87_, g87_gN⟩
      have y88_ : m_I S87_ 306 (x + 425) = iI lo := (f87_.2.1 306 (by decide) _).trans (by simp (disch := omega) only [y_I_s_I, x_I_s_I, z_I_s_J, z_I_s_A, z_I_s_B, z_I_s_P, e38_lo, e38_hi])
      have y89_ : m_I S87_ 307 (x + 425) = iI hi := (f87_.2.1 307 (by decide) _).trans (by simp (disch := omega) only [y_I_s_I, x_I_s_I, z_I_s_J, z_I_s_A, z_I_s_B, z_I_s_P, e38_lo, e38_hi])
      have y90_ : m_P S87_ 908 (x + 418) = some (b_kn X oi) := (f87_.2.2.1 908 (by decide) _).trans (by simp (disch := omega) only [y_P_s_P, x_P_s_P, z_P_s_I, z_P_s_J, z_P_s_A, z_P_s_B, e38_oi, e38_dr])
      have y91_ : m_P S87_ 907 (x + 418) = some dr := (f87_.2.2.1 907 (by decide) _).trans (by simp (disch := omega) only [y_P_s_P, x_P_s_P, z_P_s_I, z_P_s_J, z_P_s_A, z_P_s_B, e38_oi, e38_dr])
      have h87_ : cS S87_ x := f87_.keep (by decide) h38c
      have g87_eI : eI S87_ x w := eI.fr g38_eI h38c f87_ (by decide)
      have g87_gL : gL S87_ x := gL.fr g38_gL h38c f87_ (by decide)
      have g87_hM : hM S87_ x w := hM.fr g38_hM h38c f87_ (by decide)
      have g87_bY : bY S87_ := bY.fr g38_bY h38c f87_ (by decide)
      have g87_gP : gP S87_ x := gP.fr g38_gP h38c f87_ (by decide)
      have g87_oOk : oOk (b_kn X) S87_ x := oOk.fr g38_oOk h38c f87_ (by decide)
      have g87_gC : gC S87_ x lo hi oi := gC.fr g38_gC h38c f87_ (by decide)
      exact L60 _ vl (fr38.tr (f87_.mono (by decide) (by decide) (by decide))) (by omega) g87_eI g87_gN g87_gL g87_hM g87_bY g87_gP g87_oOk g87_gC
  refine v_aload_n hX dX11_accept_0 (i := 0) rfl rfl ?_
  refine v_get hX (ci := 9) (k := 2) (cs_k_418 h) bc_9 (by decide) (by decide) in_9 w_2_126 dX11_accept_1 (mvP (f := 902) (q := (x + 11)) rfl rfl (cs_p_902 h)) ?_
  refine v_aload_n hX dX11_accept_4 (i := 0) rfl rfl ?_
  obtain ⟨v92_, e_v92_, b_v92_⟩ := i_ex (m_I S 912 (x + 418))
  refine v_get hX (ci := 9) (k := 12) (cs_k_418 h) bc_9 (by decide) (by decide) in_9 w_2_138 dX11_accept_5 (mvF (f := 912) (v := iI v92_) rfl rfl (by simp (disch := omega) only [y_I_s_I, x_I_s_I, z_I_s_J, z_I_s_A, z_I_s_B, z_I_s_P, e_lo, e_hi, e_v92_])) ?_
  refine v_callV hX (n := 1) (g_X_constant (S := S) (x := x) (w := w) (e := v92_) h ⟨by omega, by omega⟩ g_eI) (cs_k_11 h) bc_2 (by decide) w_4_167 w_4_168 w_4_169 w_1_6 w_4_170 (by decide +kernel) rfl ⟨by decide, by decide⟩ ⟨by omega, by omega⟩ (Nat.le_of_ble_eq_true rfl) rfl dX11_accept_8 (fun _ _ _ q => q) ?_
  rintro r93_ S93_ z93_ ⟨rfl, rfl, v94_, rfl, b_v94_, q93_⟩
  refine v_istore_n hX (lv' := [(1, .int (iI v94_)), (0, .ref (x + 418))]) dX11_accept_11 (i := 1) rfl (by rw [hnL]; decide) rfl ?_
  refine v_aload_n hX dX11_accept_12 (i := 0) rfl rfl ?_
  refine v_callV hX (n := 0) (g_T_wantsSetNames (S := S) (x := x) (w := w) (oi := oi) h (by simp (disch := omega) only [y_P_s_P, x_P_s_P, z_P_s_I, z_P_s_J, z_P_s_A, z_P_s_B, e_oi, e_dr]) (by omega)) (cs_k_418 h) bc_9 (by decide) w_4_161 w_4_163 (bw_p (q := (yX11_wantsSetNames, 16)) (List.mem_of_getElem? (i := 22) rfl) rfl) w_1_10 w_4_164 (by decide +kernel) rfl ⟨by decide, by decide⟩ ⟨by omega, by omega⟩ (Nat.le_of_ble_eq_true rfl) rfl dX11_accept_13 (fun _ _ _ q => q) ?_
  rintro r95_ S95_ z95_ ⟨rfl, rfl, v96_, rfl, b_v96_, q95_⟩
  refine u_if_eq hX (tgt := 38) dX11_accept_16 (by decide) ⟨by omega, by omega⟩ (fun h97_ => ?_) (fun h97_ => ?_)
  ·
    exact L38 _ v94_ (cFr.rf _ _) (by omega) g_eI g_gN g_gL g_hM g_bY g_gP g_oOk g_gC
  ·
    refine v_aload_n hX dX11_accept_19 (i := 0) rfl rfl ?_
    refine v_get hX (ci := 9) (k := 2) (cs_k_418 h) bc_9 (by decide) (by decide) in_9 w_2_126 dX11_accept_20 (mvP (f := 902) (q := (x + 11)) rfl rfl (cs_p_902 h)) ?_
    refine v_aload_n hX dX11_accept_23 (i := 0) rfl rfl ?_
    refine v_get hX (ci := 9) (k := 12) (cs_k_418 h) bc_9 (by decide) (by decide) in_9 w_2_138 dX11_accept_24 (mvF (f := 912) (v := iI v92_) rfl rfl (by simp (disch := omega) only [y_I_s_I, x_I_s_I, z_I_s_J, z_I_s_A, z_I_s_B, z_I_s_P, e_lo, e_hi, e_v92_])) ?_
    refine v_callV hX (n := 1) (g_X_cut (S := S) (x := x) (w := w) (mk := v92_) h ⟨by omega, by omega⟩ g_eI) (cs_k_11 h) bc_2 (by decide) w_4_206 w_3_80 w_3_81 w_1_6 w_3_82 (by decide +kernel) rfl ⟨by decide, by decide⟩ ⟨by omega, by omega⟩ (Nat.le_of_ble_eq_true rfl) rfl dX11_accept_27 (fun _ _ _ q => q) ?_
    rintro r98_ S98_ z98_ ⟨rfl, f98_, rfl, q98_, g98_eI⟩
    have y99_ : m_I S98_ 306 (x + 425) = iI lo := (f98_.2.1 306 (by decide) _).trans (by simp (disch := omega) only [y_I_s_I, x_I_s_I, z_I_s_J, z_I_s_A, z_I_s_B, z_I_s_P, e_lo, e_hi, e_v92_])
    have y100_ : m_I S98_ 307 (x + 425) = iI hi := (f98_.2.1 307 (by decide) _).trans (by simp (disch := omega) only [y_I_s_I, x_I_s_I, z_I_s_J, z_I_s_A, z_I_s_B, z_I_s_P, e_lo, e_hi, e_v92_])
    have y101_ : m_I S98_ 912 (x + 418) = iI v92_ := (f98_.2.1 912 (by decide) _).trans (by simp (disch := omega) only [y_I_s_I, x_I_s_I, z_I_s_J, z_I_s_A, z_I_s_B, z_I_s_P, e_lo, e_hi, e_v92_])
    have y102_ : m_P S98_ 908 (x + 418) = some (b_kn X oi) := (f98_.2.2.1 908 (by decide) _).trans (by simp (disch := omega) only [y_P_s_P, x_P_s_P, z_P_s_I, z_P_s_J, z_P_s_A, z_P_s_B, e_oi, e_dr])
    have y103_ : m_P S98_ 907 (x + 418) = some dr := (f98_.2.2.1 907 (by decide) _).trans (by simp (disch := omega) only [y_P_s_P, x_P_s_P, z_P_s_I, z_P_s_J, z_P_s_A, z_P_s_B, e_oi, e_dr])
    have h98_ : cS S98_ x := f98_.keep (by decide) h
    have g98_gN : gN S98_ x := gN.fr g_gN h f98_ (by decide)
    have g98_gL : gL S98_ x := gL.fr g_gL h f98_ (by decide)
    have g98_hM : hM S98_ x w := hM.fr g_hM h f98_ (by decide)
    have g98_bY : bY S98_ := bY.fr g_bY h f98_ (by decide)
    have g98_gP : gP S98_ x := gP.fr g_gP h f98_ (by decide)
    have g98_oOk : oOk (b_kn X) S98_ x := oOk.fr g_oOk h f98_ (by decide)
    have g98_gC : gC S98_ x lo hi oi := gC.fr g_gC h f98_ (by decide)
    refine v_aload_n hX dX11_accept_30 (i := 0) rfl rfl ?_
    refine v_get hX (ci := 9) (k := 7) (cs_k_418 h98_) bc_9 (by decide) (by decide) in_9 w_2_133 dX11_accept_31 (mvP (f := 907) (q := dr) rfl rfl (by simp (disch := omega) only [y_P_s_P, x_P_s_P, z_P_s_I, z_P_s_J, z_P_s_A, z_P_s_B, y102_, y103_])) ?_
    refine v_iconst hX (v := iI 0) dX11_accept_34 rfl ?_
    refine v_putI hX (ci := 8) (k := 6) (f := 806) (isS_k h98_ hs_dr) bc_8 (by decide) (by decide) in_8 tyX10_ok nmX10 w_1_159 (Or.inl rfl) rfl rfl dX11_accept_35 rfl rfl ?_
    exact L38 _ v94_ (((cFr.rf _ _).tr (f98_.mono (by decide) (by decide) (by decide))).sI (by decide) ⟨(isX_in hs_dr).1, (isX_in hs_dr).2⟩) (by omega) (eI.fr g98_eI h98_ (show cFr [806] [] [] w S98_ (s_I S98_ 806 dr (iI 0)) x from ((cFr.rf _ _).sI (by decide) ⟨(isX_in hs_dr).1, (isX_in hs_dr).2⟩)) (by decide)) (gN.fr g98_gN h98_ (show cFr [806] [] [] w S98_ (s_I S98_ 806 dr (iI 0)) x from ((cFr.rf _ _).sI (by decide) ⟨(isX_in hs_dr).1, (isX_in hs_dr).2⟩)) (by decide)) (gL.fr g98_gL h98_ (show cFr [806] [] [] w S98_ (s_I S98_ 806 dr (iI 0)) x from ((cFr.rf _ _).sI (by decide) ⟨(isX_in hs_dr).1, (isX_in hs_dr).2⟩)) (by decide)) (hM.fr g98_hM h98_ (show cFr [806] [] [] w S98_ (s_I S98_ 806 dr (iI 0)) x from ((cFr.rf _ _).sI (by decide) ⟨(isX_in hs_dr).1, (isX_in hs_dr).2⟩)) (by decide)) (bY.fr g98_bY h98_ (show cFr [806] [] [] w S98_ (s_I S98_ 806 dr (iI 0)) x from ((cFr.rf _ _).sI (by decide) ⟨(isX_in hs_dr).1, (isX_in hs_dr).2⟩)) (by decide)) (gP.fr g98_gP h98_ (show cFr [806] [] [] w S98_ (s_I S98_ 806 dr (iI 0)) x from ((cFr.rf _ _).sI (by decide) ⟨(isX_in hs_dr).1, (isX_in hs_dr).2⟩)) (by decide)) (oOk.fr g98_oOk h98_ (show cFr [806] [] [] w S98_ (s_I S98_ 806 dr (iI 0)) x from ((cFr.rf _ _).sI (by decide) ⟨(isX_in hs_dr).1, (isX_in hs_dr).2⟩)) (by decide)) (gC.fr g98_gC h98_ (show cFr [806] [] [] w S98_ (s_I S98_ 806 dr (iI 0)) x from ((cFr.rf _ _).sI (by decide) ⟨(isX_in hs_dr).1, (isX_in hs_dr).2⟩)) (by decide))
/-- turn one's operation and draft -/
def tJ (kn : Nat → Nat) (S : b_M) (x : Nat) : Prop := ∃ i d, i < 17 ∧ m_P S 908 (x + 418) = some (kn i) ∧ isS x d ∧ m_P S 907 (x + 418) = some d
theorem tJ.fr {kn : Nat → Nat} {Fs Ps As : List Nat} {w : Nat} {S S1 : b_M} {x : Nat} (h : tJ kn S x) (_ : cS S x) (f : cFr Fs Ps As w S S1 x) (hd : 907 ∉ Ps ∧ 908 ∉ Ps) : tJ kn S1 x := by
  obtain ⟨i, d, a, b, c, e⟩ := h
  exact ⟨i, d, a, (f.2.2.1 908 hd.2 _).trans b, c, (f.2.2.1 907 hd.1 _).trans e⟩
set_option maxRecDepth 100000 in
set_option maxHeartbeats 4000000 in
theorem g_T_run {kn : Nat → Nat} {B : Nat} {S : b_M} {z x w : Nat} {ln : Int} {mt : Int} {mc ms : Nat} (h : cS S x) (e_mt : m_I S 403 (x + 421) = iI mt) (b_mt : -2147483648 ≤ mt ∧ mt < 2147483648) (b_ln : -2147483648 ≤ ln ∧ ln < 2147483648) (g_eI : eI S x w) (g_hM : hM S x w) (g_gN : gN S x) (g_gR : gR S x) (g_gP : gP S x) (g_oOk : oOk kn S x) (g_bY : bY S) (g_sE : sE S x) (g_tJ : tJ kn S x) (rm_ : 2 * (2162688 - lA S x) ≤ (ms : Int) ∧ 2 * (2162688 - lA S x) ≤ 256 * (mc : Int)) (zw : x + 457 ≤ w ∧ w ≤ z) (p : mt = 0 ∧ 0 ≤ ln ∧ ln ≤ 4096) : a_C kn B yX11_run cX11_run 5 none 8 177 mc ms [.ref (x + 418), .ref (x + 1), .int (iI ln)] S z (fun r S' z' uc us => z ≤ z' ∧ cFr [301, 303, 306, 307, 308, 309, 310, 4, 5, 6, 701, 702, 703, 704, 205, 206, 207, 801, 802, 803, 804, 805, 806, 807, 808, 809, 810, 911, 912, 913, 914, 915, 504, 505, 403, 604, 102] [302, 304, 305, 700, 204, 800, 907, 908, 1] [3, 4, 7, 8, 10, 12, 13, 14, 423, 424, 431, 432, 435, 436, 439, 440, 443, 444, 447, 448, 451, 452, 455, 456] w S S' x ∧ r = none ∧ ((us : Int) ≤ 2 * (lA S' x - lA S x) ∧ 256 * (uc : Int) ≤ (us : Int)) ∧ (True) ∧ (eI S' x w) ∧ (hM S' x w) ∧ (gN S' x) ∧ (gR S' x) ∧ (gP S' x) ∧ (oOk kn S' x) ∧ (bY S') ∧ (sE S' x) ∧ (tJ kn S' x)) (fun _ _ _ _ _ => False) := by
  refine a_enter (by decide) (Nat.le_of_ble_eq_true rfl) ?_
  intro X hX hE hnL hkn hB hI_
  subst hkn; subst hB
  clear hI_
  change b_V X S z 0 0 0 [(0, .ref (x + 418)), (1, .ref (x + 1)), (2, .int (iI ln))] []
  have ab_ : lA S x ≤ 2162688 := lA_le g_eI g_hM
  have L104 : ∀ (S104c : b_M) (z104c ce104c sl104c : Nat), cFr [301, 303, 306, 307, 308, 309, 310, 4, 5, 6, 701, 702, 703, 704, 205, 206, 207, 801, 802, 803, 804, 805, 806, 807, 808, 809, 810, 911, 912, 913, 914, 915, 504, 505, 403, 604, 102] [302, 304, 305, 700, 204, 800, 907, 908, 1] [3, 4, 7, 8, 10, 12, 13, 14, 423, 424, 431, 432, 435, 436, 439, 440, 443, 444, 447, 448, 451, 452, 455, 456] w S S104c x → z ≤ z104c → ((sl104c : Int) ≤ 2 * (lA S104c x - lA S x) ∧ 256 * (ce104c : Int) ≤ (sl104c : Int)) → eI S104c x w → hM S104c x w → gN S104c x → gR S104c x → gP S104c x → oOk (b_kn X) S104c x → bY S104c → sE S104c x → tJ (b_kn X) S104c x → b_V X S104c z104c ce104c sl104c 104 [(0, .ref (x + 418))] [] := by
    intro S104c z104c ce104c sl104c fr104 hz104 ha104 g104_eI g104_hM g104_gN g104_gR g104_gP g104_oOk g104_bY g104_sE g104_tJ
    have h104c : cS S104c x := fr104.keep (by decide) h
    have ab104_ : lA S104c x ≤ 2162688 := lA_le g104_eI g104_hM
    refine v_aload_n hX dX11_run_104 (i := 0) rfl rfl ?_
    obtain ⟨v1_, e_v1_, b_v1_⟩ := i_ex (m_I S104c 913 (x + 418))
    refine v_get hX (ci := 9) (k := 13) (cs_k_418 h104c) bc_9 (by decide) (by decide) in_9 w_2_139 dX11_run_105 (mvF (f := 913) (v := iI v1_) rfl rfl (by simp (disch := omega) only [y_I_s_I, x_I_s_I, z_I_s_J, z_I_s_A, z_I_s_B, z_I_s_P, e_v1_])) ?_
    refine u_if_eq hX (tgt := 130) dX11_run_108 (by decide) ⟨by omega, by omega⟩ (fun h2_ => ?_) (fun h2_ => ?_)
    ·
      exact w_return hX hE dX11_run_130 ⟨(by omega), fr104, rfl, ⟨by omega, by omega⟩, trivial, g104_eI, g104_hM, g104_gN, g104_gR, g104_gP, g104_oOk, g104_bY, g104_sE, g104_tJ⟩
    ·
      refine v_aload_n hX dX11_run_111 (i := 0) rfl rfl ?_
      obtain ⟨v3_, e_v3_, b_v3_⟩ := i_ex (m_I S104c 914 (x + 418))
      refine v_get hX (ci := 9) (k := 14) (cs_k_418 h104c) bc_9 (by decide) (by decide) in_9 w_2_140 dX11_run_112 (mvF (f := 914) (v := iI v3_) rfl rfl (by simp (disch := omega) only [y_I_s_I, x_I_s_I, z_I_s_J, z_I_s_A, z_I_s_B, z_I_s_P, e_v1_, e_v3_])) ?_
      refine u_if_eq hX (tgt := 130) dX11_run_115 (by decide) ⟨by omega, by omega⟩ (fun h4_ => ?_) (fun h4_ => ?_)
      ·
        exact w_return hX hE dX11_run_130 ⟨(by omega), fr104, rfl, ⟨by omega, by omega⟩, trivial, g104_eI, g104_hM, g104_gN, g104_gR, g104_gP, g104_oOk, g104_bY, g104_sE, g104_tJ⟩
      ·
        refine v_aload_n hX dX11_run_118 (i := 0) rfl rfl ?_
        refine v_get hX (ci := 9) (k := 3) (cs_k_418 h104c) bc_9 (by decide) (by decide) in_9 w_2_127 dX11_run_119 (mvP (f := 903) (q := (x + 2)) rfl rfl (cs_p_903 h104c)) ?_
        refine v_iconst hX (v := iI 1) dX11_run_122 rfl ?_
        refine v_aload_n hX dX11_run_123 (i := 0) rfl rfl ?_
        obtain ⟨v5_, e_v5_, b_v5_⟩ := i_ex (m_I S104c 915 (x + 418))
        refine v_get hX (ci := 9) (k := 15) (cs_k_418 h104c) bc_9 (by decide) (by decide) in_9 w_2_141 dX11_run_124 (mvF (f := 915) (v := iI v5_) rfl rfl (by simp (disch := omega) only [y_I_s_I, x_I_s_I, z_I_s_J, z_I_s_A, z_I_s_B, z_I_s_P, e_v1_, e_v3_, e_v5_])) ?_
        refine v_callV hX (n := 2) (g_E_tell (S := S104c) (x := x) (w := w) (n := 1) (l := v5_) h104c ⟨by omega, by omega⟩ ⟨by omega, by omega⟩ g104_gR) (cs_k_2 h104c) bc_1 (by decide) w_5_31 w_5_32 w_5_33 w_1_2 w_5_34 (by decide +kernel) rfl ⟨by decide, by decide⟩ ⟨by omega, by omega⟩ (Nat.le_of_ble_eq_true rfl) rfl dX11_run_127 (fun _ _ _ q => q) ?_
        rintro r6_ S6_ z6_ ⟨rfl, f6_, rfl, q6_, g6_gR⟩
        have y7_ : m_I S6_ 913 (x + 418) = iI v1_ := (f6_.2.1 913 (by decide) _).trans (by simp (disch := omega) only [y_I_s_I, x_I_s_I, z_I_s_J, z_I_s_A, z_I_s_B, z_I_s_P, e_v1_, e_v3_, e_v5_])
        have y8_ : m_I S6_ 914 (x + 418) = iI v3_ := (f6_.2.1 914 (by decide) _).trans (by simp (disch := omega) only [y_I_s_I, x_I_s_I, z_I_s_J, z_I_s_A, z_I_s_B, z_I_s_P, e_v1_, e_v3_, e_v5_])
        have y9_ : m_I S6_ 915 (x + 418) = iI v5_ := (f6_.2.1 915 (by decide) _).trans (by simp (disch := omega) only [y_I_s_I, x_I_s_I, z_I_s_J, z_I_s_A, z_I_s_B, z_I_s_P, e_v1_, e_v3_, e_v5_])
        have h6_ : cS S6_ x := f6_.keep (by decide) h104c
        have g6_eI : eI S6_ x w := eI.fr g104_eI h104c f6_ (by decide)
        have g6_hM : hM S6_ x w := hM.fr g104_hM h104c f6_ (by decide)
        have g6_gN : gN S6_ x := gN.fr g104_gN h104c f6_ (by decide)
        have g6_gP : gP S6_ x := gP.fr g104_gP h104c f6_ (by decide)
        have g6_oOk : oOk (b_kn X) S6_ x := oOk.fr g104_oOk h104c f6_ (by decide)
        have g6_bY : bY S6_ := bY.fr g104_bY h104c f6_ (by decide)
        have g6_sE : sE S6_ x := sE.fr g104_sE h104c f6_ (by decide)
        have g6_tJ : tJ (b_kn X) S6_ x := tJ.fr g104_tJ h104c f6_ (by decide)
        have aa6_ : lA S6_ x = lA S104c x := lA.fr g104_eI g104_hM f6_ (by decide)
        have ab6_ : lA S6_ x ≤ 2162688 := lA_le g6_eI g6_hM
        exact w_return hX hE dX11_run_130 ⟨(by omega), (fr104.tr (f6_.mono (by decide) (by decide) (by decide))), rfl, ⟨by omega, by omega⟩, trivial, g6_eI, g6_hM, g6_gN, g6_gR, g6_gP, g6_oOk, g6_bY, g6_sE, g6_tJ⟩
  have L16 : ∀ (n16 : Nat) (S16c : b_M) (i : Int) (z16c ce16c sl16c : Nat), cFr [301, 303, 306, 307, 308, 309, 310, 4, 5, 6, 701, 702, 703, 704, 205, 206, 207, 801, 802, 803, 804, 805, 806, 807, 808, 809, 810, 911, 912, 913, 914, 915, 504, 505, 403, 604, 102] [302, 304, 305, 700, 204, 800, 907, 908, 1] [3, 4, 7, 8, 10, 12, 13, 14, 423, 424, 431, 432, 435, 436, 439, 440, 443, 444, 447, 448, 451, 452, 455, 456] w S S16c x → z ≤ z16c → ((sl16c : Int) ≤ 2 * (lA S16c x - lA S x) ∧ 256 * (ce16c : Int) ≤ (sl16c : Int)) → (0 ≤ i ∧ i ≤ 1000000) → eI S16c x w → hM S16c x w → gN S16c x → gR S16c x → gP S16c x → oOk (b_kn X) S16c x → bY S16c → sE S16c x → tJ (b_kn X) S16c x → gL S16c x → (1000000 - i).toNat = n16 → b_V X S16c z16c ce16c sl16c 16 [(3, .int (iI i)), (0, .ref (x + 418)), (1, .ref (x + 1)), (2, .int (iI ln))] [] := by
    intro n16
    induction n16 using Nat.strongRecOn with
    | _ n16 ih16 =>
    intro S16c i z16c ce16c sl16c fr16 hz16 ha16 p16_0 g16_eI g16_hM g16_gN g16_gR g16_gP g16_oOk g16_bY g16_sE g16_tJ g16_gL hm16
    have h16c : cS S16c x := fr16.keep (by decide) h
    have ab16_ : lA S16c x ≤ 2162688 := lA_le g16_eI g16_hM
    have L98 : ∀ (S98c : b_M) (z98c ce98c sl98c : Nat), cFr [301, 303, 306, 307, 308, 309, 310, 4, 5, 6, 701, 702, 703, 704, 205, 206, 207, 801, 802, 803, 804, 805, 806, 807, 808, 809, 810, 911, 912, 913, 914, 915, 504, 505, 403, 604, 102] [302, 304, 305, 700, 204, 800, 907, 908, 1] [3, 4, 7, 8, 10, 12, 13, 14, 423, 424, 431, 432, 435, 436, 439, 440, 443, 444, 447, 448, 451, 452, 455, 456] w S S98c x → z ≤ z98c → ((sl98c : Int) ≤ 2 * (lA S98c x - lA S x) ∧ 256 * (ce98c : Int) ≤ (sl98c : Int)) → (0 ≤ i ∧ i < 1000000) → eI S98c x w → hM S98c x w → gN S98c x → gR S98c x → gP S98c x → oOk (b_kn X) S98c x → bY S98c → sE S98c x → tJ (b_kn X) S98c x → gL S98c x → b_V X S98c z98c ce98c sl98c 98 [(3, .int (iI i)), (0, .ref (x + 418)), (1, .ref (x + 1)), (2, .int (iI ln))] [] := by
      intro S98c z98c ce98c sl98c fr98 hz98 ha98 p98_0 g98_eI g98_hM g98_gN g98_gR g98_gP g98_oOk g98_bY g98_sE g98_tJ g98_gL
      have h98c : cS S98c x := fr98.keep (by decide) h
      have ab98_ : lA S98c x ≤ 2162688 := lA_le g98_eI g98_hM
      refine v_iinc hX (v := iI (i + 1)) (lv' := [(3, .int (iI (i + 1))), (0, .ref (x + 418)), (1, .ref (x + 1)), (2, .int (iI ln))]) dX11_run_98 rfl (iI_add _ _) (by rw [hnL]; decide) rfl ?_
      refine v_goto hX (tgt := 16) dX11_run_101 (by decide) ?_
      exact ih16 _ (by omega) _ (i + 1) _ _ _ fr98 (by omega) ⟨by omega, by omega⟩ (by omega) g98_eI g98_hM g98_gN g98_gR g98_gP g98_oOk g98_bY g98_sE g98_tJ g98_gL rfl
    refine v_iload_n hX dX11_run_16 (i := 3) rfl rfl ?_
    refine v_ldc hX (v := iI 1000000) dX11_run_17 (show Cond.constant _ _ (iI 1000000) ∈ b_Ws from w_3_108) ?_
    refine u_icmp_ge hX (tgt := 104) dX11_run_19 (by decide) ⟨by omega, by omega⟩ ⟨by omega, by omega⟩ (fun h10_ => ?_) (fun h10_ => ?_)
    ·
      refine v_locals (lv' := [(0, .ref (x + 418))]) (by simp) ?_
      exact L104 _ _ _ _ fr16 (by omega) ⟨by omega, by omega⟩ g16_eI g16_hM g16_gN g16_gR g16_gP g16_oOk g16_bY g16_sE g16_tJ
    ·
      refine v_aload_n hX dX11_run_22 (i := 0) rfl rfl ?_
      refine v_get hX (ci := 9) (k := 6) (cs_k_418 h16c) bc_9 (by decide) (by decide) in_9 w_2_131 dX11_run_23 (mvP (f := 906) (q := (x + 425)) rfl rfl (cs_p_906 h16c)) ?_
      refine w_callV hX (n := 0) (g_L_advance (S := S16c) (x := x) (w := w) (mc := mc - ce16c) (ms := ms - sl16c) h16c g16_eI g16_hM g16_gL ⟨by omega, by omega⟩ (by omega)) (cs_k_425 h16c) bc_3 (by decide) w_3_109 w_3_110 w_3_111 w_1_13 w_3_112 (by decide +kernel) rfl ⟨by decide, by decide⟩ ⟨by omega, by omega⟩ (Nat.le_of_ble_eq_true rfl) rfl dX11_run_26 (fun _ _ _ _ _ q => q) ?_
      rintro r11_ S11_ z11_ uc11_ us11_ ⟨hz11_, f11_, v12_, rfl, b_v12_, ha11_, q11_, q11_0, g11_eI, g11_hM, g11_gL⟩
      have h11_ : cS S11_ x := f11_.keep (by decide) h16c
      have g11_gN : gN S11_ x := gN.fr g16_gN h16c f11_ (by decide)
      have g11_gR : gR S11_ x := gR.fr g16_gR h16c f11_ (by decide)
      have g11_gP : gP S11_ x := gP.fr g16_gP h16c f11_ (by decide)
      have g11_oOk : oOk (b_kn X) S11_ x := oOk.fr g16_oOk h16c f11_ (by decide)
      have g11_bY : bY S11_ := bY.fr g16_bY h16c f11_ (by decide)
      have g11_sE : sE S11_ x := sE.fr g16_sE h16c f11_ (by decide)
      have g11_tJ : tJ (b_kn X) S11_ x := tJ.fr g16_tJ h16c f11_ (by decide)
      have ab11_ : lA S11_ x ≤ 2162688 := lA_le g11_eI g11_hM
      refine u_if_eq hX (tgt := 104) dX11_run_29 (by decide) ⟨by omega, by omega⟩ (fun h13_ => ?_) (fun h13_ => ?_)
      ·
        refine v_locals (lv' := [(0, .ref (x + 418))]) (by simp) ?_
        exact L104 _ _ _ _ (fr16.tr (f11_.mono (by decide) (by decide) (by decide))) (by omega) ⟨by omega, by omega⟩ g11_eI g11_hM g11_gN g11_gR g11_gP g11_oOk g11_bY g11_sE g11_tJ
      ·
        have gA_ := q11_0 (by omega)
        obtain ⟨fr_, to_, dp_, mt_, nx_, bw_, L_, a1_, a2_, a3_, a4_, a5_, a6_, a7_, a8_, a9_, b1_, b2_, b3_, b4_, b5_, b6_, b7_⟩ := id gA_
        refine v_aload_n hX dX11_run_32 (i := 0) rfl rfl ?_
        refine v_get hX (ci := 9) (k := 4) (cs_k_418 h11_) bc_9 (by decide) (by decide) in_9 w_2_128 dX11_run_33 (mvP (f := 904) (q := (x + 419)) rfl rfl (cs_p_904 h11_)) ?_
        refine v_aload_n hX dX11_run_36 (i := 0) rfl rfl ?_
        refine v_get hX (ci := 9) (k := 6) (cs_k_418 h11_) bc_9 (by decide) (by decide) in_9 w_2_131 dX11_run_37 (mvP (f := 906) (q := (x + 425)) rfl rfl (cs_p_906 h11_)) ?_
        refine v_get hX (ci := 3) (k := 5) (cs_k_425 h11_) bc_3 (by decide) (by decide) in_3 w_2_82 dX11_run_40 (mvP (f := 305) (q := bw_) rfl rfl (by simp (disch := omega) only [y_P_s_P, x_P_s_P, z_P_s_I, z_P_s_J, z_P_s_A, z_P_s_B, a6_])) ?_
        refine v_aload_n hX dX11_run_43 (i := 0) rfl rfl ?_
        refine v_get hX (ci := 9) (k := 6) (cs_k_418 h11_) bc_9 (by decide) (by decide) in_9 w_2_131 dX11_run_44 (mvP (f := 906) (q := (x + 425)) rfl rfl (cs_p_906 h11_)) ?_
        refine v_get hX (ci := 3) (k := 6) (cs_k_425 h11_) bc_3 (by decide) (by decide) in_3 w_2_83 dX11_run_47 (mvF (f := 306) (v := iI fr_) rfl rfl (by simp (disch := omega) only [y_I_s_I, x_I_s_I, z_I_s_J, z_I_s_A, z_I_s_B, z_I_s_P, a1_, a2_])) ?_
        refine v_aload_n hX dX11_run_50 (i := 0) rfl rfl ?_
        refine v_get hX (ci := 9) (k := 6) (cs_k_418 h11_) bc_9 (by decide) (by decide) in_9 w_2_131 dX11_run_51 (mvP (f := 906) (q := (x + 425)) rfl rfl (cs_p_906 h11_)) ?_
        refine v_get hX (ci := 3) (k := 7) (cs_k_425 h11_) bc_3 (by decide) (by decide) in_3 w_2_85 dX11_run_54 (mvF (f := 307) (v := iI to_) rfl rfl (by simp (disch := omega) only [y_I_s_I, x_I_s_I, z_I_s_J, z_I_s_A, z_I_s_B, z_I_s_P, a1_, a2_])) ?_
        refine v_callV hX (n := 3) (g_start (S := S11_) (x := x) (w := w) (src := bw_) (f_ := fr_) (l_ := to_) (Ls := L_) h11_ ⟨by omega, by omega⟩ ⟨by omega, by omega⟩ a7_ a8_ (by omega) g11_sE (by omega)) (cs_k_419 h11_) bc_7 (by decide) w_3_146 w_3_147 w_3_148 w_1_11 w_3_149 (by decide +kernel) rfl ⟨by decide, by decide⟩ ⟨by omega, by omega⟩ (Nat.le_of_ble_eq_true rfl) rfl dX11_run_57 (fun _ _ _ q => q) ?_
        rintro r14_ S14_ z14_ ⟨rfl, f14_, rfl, q14_, g14_sI⟩
        have y15_ : m_I S14_ 306 (x + 425) = iI fr_ := (f14_.2.1 306 (by decide) _).trans (by simp (disch := omega) only [y_I_s_I, x_I_s_I, z_I_s_J, z_I_s_A, z_I_s_B, z_I_s_P, a1_, a2_])
        have y16_ : m_I S14_ 307 (x + 425) = iI to_ := (f14_.2.1 307 (by decide) _).trans (by simp (disch := omega) only [y_I_s_I, x_I_s_I, z_I_s_J, z_I_s_A, z_I_s_B, z_I_s_P, a1_, a2_])
        have y17_ : m_P S14_ 305 (x + 425) = some bw_ := (f14_.2.2.1 305 (by decide) _).trans (by simp (disch := omega) only [y_P_s_P, x_P_s_P, z_P_s_I, z_P_s_J, z_P_s_A, z_P_s_B, a6_])
        have k18_ : m_K S14_ bw_ = 12 := (f14_.2.2.2.2 _ (by rw [show m_K S11_ bw_ = 12 from a7_]; decide)).1.trans a7_
        have l19_ : m_L S14_ bw_ = L_ := (f14_.2.2.2.2 _ (by rw [show m_K S11_ bw_ = 12 from a7_]; decide)).2.1.trans a8_
        have h14_ : cS S14_ x := f14_.keep (by decide) h11_
        have g14_gN : gN S14_ x := gN.fr g11_gN h11_ f14_ (by decide)
        have g14_gR : gR S14_ x := gR.fr g11_gR h11_ f14_ (by decide)
        have g14_gP : gP S14_ x := gP.fr g11_gP h11_ f14_ (by decide)
        have g14_oOk : oOk (b_kn X) S14_ x := oOk.fr g11_oOk h11_ f14_ (by decide)
        have g14_bY : bY S14_ := bY.fr g11_bY h11_ f14_ (by decide)
        have g14_tJ : tJ (b_kn X) S14_ x := tJ.fr g11_tJ h11_ f14_ (by decide)
        have g14_eI : eI S14_ x w := eI.fr g11_eI h11_ f14_ (by decide)
        have g14_hM : hM S14_ x w := hM.fr g11_hM h11_ f14_ (by decide)
        have g14_gL : gL S14_ x := gL.fr g11_gL h11_ f14_ (by decide)
        have g14_gA : gA S14_ x := gA.fr gA_ h11_ f14_ (by decide)
        have aa14_ : lA S14_ x = lA S11_ x := lA.fr g11_eI g11_hM f14_ (by decide)
        have ab14_ : lA S14_ x ≤ 2162688 := lA_le g14_eI g14_hM
        refine v_aload_n hX dX11_run_60 (i := 0) rfl rfl ?_
        obtain ⟨v20_, e_v20_, b_v20_⟩ := i_ex (m_I S14_ 913 (x + 418))
        refine v_get hX (ci := 9) (k := 13) (cs_k_418 h14_) bc_9 (by decide) (by decide) in_9 w_2_139 dX11_run_61 (mvF (f := 913) (v := iI v20_) rfl rfl (by simp (disch := omega) only [y_I_s_I, x_I_s_I, z_I_s_J, z_I_s_A, z_I_s_B, z_I_s_P, y15_, y16_, e_v20_])) ?_
        refine u_if_eq hX (tgt := 74) dX11_run_64 (by decide) ⟨by omega, by omega⟩ (fun h21_ => ?_) (fun h21_ => ?_)
        ·
          obtain ⟨oq_, dq_, o_oq_, e_oq_, hs_dq_, e_dq_⟩ := id g14_tJ
          refine v_aload_n hX dX11_run_74 (i := 0) rfl rfl ?_
          refine w_callV hX (n := 0) (g_T_look (S := S14_) (x := x) (w := w) (oi := oq_) (dr := dq_) (mc := mc - (ce16c + uc11_)) (ms := ms - (sl16c + us11_)) h14_ (by simp (disch := omega) only [y_P_s_P, x_P_s_P, z_P_s_I, z_P_s_J, z_P_s_A, z_P_s_B, y17_, e_oq_, e_dq_]) (by omega) (by simp (disch := omega) only [y_P_s_P, x_P_s_P, z_P_s_I, z_P_s_J, z_P_s_A, z_P_s_B, y17_, e_oq_, e_dq_]) hs_dq_ g14_eI g14_hM g14_gN g14_sI g14_gL g14_gP g14_oOk ⟨by omega, by omega⟩ (by omega)) (cs_k_418 h14_) bc_9 (by decide) w_4_13 w_4_15 (bw_p (q := (yX11_look, 16)) (List.mem_of_getElem? (i := 12) rfl) rfl) w_1_10 w_4_16 (by decide +kernel) rfl ⟨by decide, by decide⟩ ⟨by omega, by omega⟩ (Nat.le_of_ble_eq_true rfl) rfl dX11_run_75 (fun _ _ _ _ _ q => q) ?_
          rintro r22_ S22_ z22_ uc22_ us22_ ⟨hz22_, f22_, v23_, o24_, d25_, rfl, b_v23_, e_o24_, o_o24_, e_d25_, hs_d25_, ha22_, q22_, q22_0, g22_eI, g22_hM, g22_sI, g22_gL, g22_oOk⟩
          have y26_ : m_I S22_ 306 (x + 425) = iI fr_ := (f22_.2.1 306 (by decide) _).trans (by simp (disch := omega) only [y_I_s_I, x_I_s_I, z_I_s_J, z_I_s_A, z_I_s_B, z_I_s_P, y15_, y16_, e_v20_])
          have y27_ : m_I S22_ 307 (x + 425) = iI to_ := (f22_.2.1 307 (by decide) _).trans (by simp (disch := omega) only [y_I_s_I, x_I_s_I, z_I_s_J, z_I_s_A, z_I_s_B, z_I_s_P, y15_, y16_, e_v20_])
          have y28_ : m_I S22_ 913 (x + 418) = iI v20_ := (f22_.2.1 913 (by decide) _).trans (by simp (disch := omega) only [y_I_s_I, x_I_s_I, z_I_s_J, z_I_s_A, z_I_s_B, z_I_s_P, y15_, y16_, e_v20_])
          have y29_ : m_P S22_ 305 (x + 425) = some bw_ := (f22_.2.2.1 305 (by decide) _).trans (by simp (disch := omega) only [y_P_s_P, x_P_s_P, z_P_s_I, z_P_s_J, z_P_s_A, z_P_s_B, y17_, e_oq_, e_dq_])
          have k30_ : m_K S22_ bw_ = 12 := (f22_.2.2.2.2 _ (by rw [show m_K S14_ bw_ = 12 from k18_]; decide)).1.trans k18_
          have l31_ : m_L S22_ bw_ = L_ := (f22_.2.2.2.2 _ (by rw [show m_K S14_ bw_ = 12 from k18_]; decide)).2.1.trans l19_
          have h22_ : cS S22_ x := f22_.keep (by decide) h14_
          have g22_gN : gN S22_ x := gN.fr g14_gN h14_ f22_ (by decide)
          have g22_gR : gR S22_ x := gR.fr g14_gR h14_ f22_ (by decide)
          have g22_gP : gP S22_ x := gP.fr g14_gP h14_ f22_ (by decide)
          have g22_bY : bY S22_ := bY.fr g14_bY h14_ f22_ (by decide)
          have g22_gA : gA S22_ x := gA.fr g14_gA h14_ f22_ (by decide)
          have ab22_ : lA S22_ x ≤ 2162688 := lA_le g22_eI g22_hM
          refine v_istore hX (lv' := [(4, .int (iI v23_)), (3, .int (iI i)), (0, .ref (x + 418)), (1, .ref (x + 1)), (2, .int (iI ln))]) dX11_run_78 (by rw [hnL]; decide) rfl ?_
          refine v_iload hX dX11_run_80 rfl ?_
          refine u_if_ne hX (tgt := 92) dX11_run_82 (by decide) ⟨by omega, by omega⟩ (fun h32_ => ?_) (fun h32_ => ?_)
          ·
            refine v_aload_n hX dX11_run_92 (i := 0) rfl rfl ?_
            refine v_iload hX dX11_run_93 rfl ?_
            refine v_callV hX (n := 1) (g_T_refuse (S := S22_) (x := x) (w := w) (er := v23_) (oi := o24_) h22_ (by simp (disch := omega) only [y_P_s_P, x_P_s_P, z_P_s_I, z_P_s_J, z_P_s_A, z_P_s_B, y29_, e_o24_, e_d25_]) (by omega) ⟨by omega, by omega⟩ g22_gR g22_eI) (cs_k_418 h22_) bc_9 (by decide) w_5_27 w_5_29 (bw_p (q := (yX11_refuse, 16)) (List.mem_of_getElem? (i := 28) rfl) rfl) w_1_10 w_5_30 (by decide +kernel) rfl ⟨by decide, by decide⟩ ⟨by omega, by omega⟩ (Nat.le_of_ble_eq_true rfl) rfl dX11_run_95 (fun _ _ _ q => q) ?_
            rintro r33_ S33_ z33_ ⟨rfl, f33_, rfl, q33_, g33_gR, g33_eI⟩
            have y34_ : m_I S33_ 306 (x + 425) = iI fr_ := (f33_.2.1 306 (by decide) _).trans (by simp (disch := omega) only [y_I_s_I, x_I_s_I, z_I_s_J, z_I_s_A, z_I_s_B, z_I_s_P, y26_, y27_, y28_])
            have y35_ : m_I S33_ 307 (x + 425) = iI to_ := (f33_.2.1 307 (by decide) _).trans (by simp (disch := omega) only [y_I_s_I, x_I_s_I, z_I_s_J, z_I_s_A, z_I_s_B, z_I_s_P, y26_, y27_, y28_])
            have y36_ : m_P S33_ 305 (x + 425) = some bw_ := (f33_.2.2.1 305 (by decide) _).trans (by simp (disch := omega) only [y_P_s_P, x_P_s_P, z_P_s_I, z_P_s_J, z_P_s_A, z_P_s_B, y29_, e_o24_, e_d25_])
            have y37_ : m_P S33_ 908 (x + 418) = some (b_kn X o24_) := (f33_.2.2.1 908 (by decide) _).trans (by simp (disch := omega) only [y_P_s_P, x_P_s_P, z_P_s_I, z_P_s_J, z_P_s_A, z_P_s_B, y29_, e_o24_, e_d25_])
            have y38_ : m_P S33_ 907 (x + 418) = some d25_ := (f33_.2.2.1 907 (by decide) _).trans (by simp (disch := omega) only [y_P_s_P, x_P_s_P, z_P_s_I, z_P_s_J, z_P_s_A, z_P_s_B, y29_, e_o24_, e_d25_])
            have k39_ : m_K S33_ bw_ = 12 := (f33_.2.2.2.2 _ (by rw [show m_K S22_ bw_ = 12 from k30_]; decide)).1.trans k30_
            have l40_ : m_L S33_ bw_ = L_ := (f33_.2.2.2.2 _ (by rw [show m_K S22_ bw_ = 12 from k30_]; decide)).2.1.trans l31_
            have h33_ : cS S33_ x := f33_.keep (by decide) h22_
            have g33_gN : gN S33_ x := gN.fr g22_gN h22_ f33_ (by decide)
            have g33_gP : gP S33_ x := gP.fr g22_gP h22_ f33_ (by decide)
            have g33_bY : bY S33_ := bY.fr g22_bY h22_ f33_ (by decide)
            have g33_gA : gA S33_ x := gA.fr g22_gA h22_ f33_ (by decide)
            have g33_hM : hM S33_ x w := hM.fr g22_hM h22_ f33_ (by decide)
            have g33_sI : sI S33_ x fr_ to_ := sI.fr g22_sI h22_ f33_ (by decide)
            have g33_gL : gL S33_ x := gL.fr g22_gL h22_ f33_ (by decide)
            have g33_oOk : oOk (b_kn X) S33_ x := oOk.fr g22_oOk h22_ f33_ (by decide)
            have aa33_ : lA S33_ x = lA S22_ x := lA.fr g22_eI g22_hM f33_ (by decide)
            have ab33_ : lA S33_ x ≤ 2162688 := lA_le g33_eI g33_hM
            refine v_locals (lv' := [(3, .int (iI i)), (0, .ref (x + 418)), (1, .ref (x + 1)), (2, .int (iI ln))]) (by simp) ?_
            exact L98 _ _ _ _ ((((fr16.tr (f11_.mono (by decide) (by decide) (by decide))).tr (f14_.mono (by decide) (by decide) (by decide))).tr (f22_.mono (by decide) (by decide) (by decide))).tr (f33_.mono (by decide) (by decide) (by decide))) (by omega) ⟨by omega, by omega⟩ (by omega) g33_eI g33_hM g33_gN g33_gR g33_gP g33_oOk g33_bY ⟨_, _, g33_sI⟩ ⟨o24_, d25_, by omega, (by simp (disch := omega) only [y_P_s_P, x_P_s_P, z_P_s_I, z_P_s_J, z_P_s_A, z_P_s_B, y36_, y37_, y38_]), hs_d25_, (by simp (disch := omega) only [y_P_s_P, x_P_s_P, z_P_s_I, z_P_s_J, z_P_s_A, z_P_s_B, y36_, y37_, y38_])⟩ g33_gL
          ·
            have gC_ : gC S22_ x fr_ to_ o24_ := fun h3_ => ⟨g22_gA, q22_0 (by omega) h3_⟩
            refine v_aload_n hX dX11_run_85 (i := 0) rfl rfl ?_
            refine v_callV hX (n := 0) (g_T_accept (S := S22_) (x := x) (w := w) (lo := fr_) (hi := to_) (oi := o24_) (dr := d25_) h22_ (by simp (disch := omega) only [y_I_s_I, x_I_s_I, z_I_s_J, z_I_s_A, z_I_s_B, z_I_s_P, y26_, y27_, y28_]) ⟨by omega, by omega⟩ (by simp (disch := omega) only [y_I_s_I, x_I_s_I, z_I_s_J, z_I_s_A, z_I_s_B, z_I_s_P, y26_, y27_, y28_]) ⟨by omega, by omega⟩ (by simp (disch := omega) only [y_P_s_P, x_P_s_P, z_P_s_I, z_P_s_J, z_P_s_A, z_P_s_B, y29_, e_o24_, e_d25_]) (by omega) (by simp (disch := omega) only [y_P_s_P, x_P_s_P, z_P_s_I, z_P_s_J, z_P_s_A, z_P_s_B, y29_, e_o24_, e_d25_]) hs_d25_ g22_eI g22_gN g22_gL g22_hM g22_bY g22_gP g22_oOk gC_) (cs_k_418 h22_) bc_9 (by decide) w_4_202 w_4_204 (bw_p (q := (yX11_accept, 16)) (List.mem_of_getElem? (i := 25) rfl) rfl) w_1_10 w_4_205 (by decide +kernel) rfl ⟨by decide, by decide⟩ ⟨by omega, by omega⟩ (Nat.le_of_ble_eq_true rfl) rfl dX11_run_86 (fun _ _ _ q => q) ?_
            rintro r41_ S41_ z41_ ⟨rfl, f41_, rfl, q41_, g41_eI, g41_gN, g41_gL, g41_gP, g41_oOk⟩
            have y42_ : m_I S41_ 306 (x + 425) = iI fr_ := (f41_.2.1 306 (by decide) _).trans (by simp (disch := omega) only [y_I_s_I, x_I_s_I, z_I_s_J, z_I_s_A, z_I_s_B, z_I_s_P, y26_, y27_, y28_])
            have y43_ : m_I S41_ 307 (x + 425) = iI to_ := (f41_.2.1 307 (by decide) _).trans (by simp (disch := omega) only [y_I_s_I, x_I_s_I, z_I_s_J, z_I_s_A, z_I_s_B, z_I_s_P, y26_, y27_, y28_])
            have y44_ : m_P S41_ 305 (x + 425) = some bw_ := (f41_.2.2.1 305 (by decide) _).trans (by simp (disch := omega) only [y_P_s_P, x_P_s_P, z_P_s_I, z_P_s_J, z_P_s_A, z_P_s_B, y29_, e_o24_, e_d25_])
            have y45_ : m_P S41_ 908 (x + 418) = some (b_kn X o24_) := (f41_.2.2.1 908 (by decide) _).trans (by simp (disch := omega) only [y_P_s_P, x_P_s_P, z_P_s_I, z_P_s_J, z_P_s_A, z_P_s_B, y29_, e_o24_, e_d25_])
            have y46_ : m_P S41_ 907 (x + 418) = some d25_ := (f41_.2.2.1 907 (by decide) _).trans (by simp (disch := omega) only [y_P_s_P, x_P_s_P, z_P_s_I, z_P_s_J, z_P_s_A, z_P_s_B, y29_, e_o24_, e_d25_])
            have k47_ : m_K S41_ bw_ = 12 := (f41_.2.2.2.2 _ (by rw [show m_K S22_ bw_ = 12 from k30_]; decide)).1.trans k30_
            have l48_ : m_L S41_ bw_ = L_ := (f41_.2.2.2.2 _ (by rw [show m_K S22_ bw_ = 12 from k30_]; decide)).2.1.trans l31_
            have h41_ : cS S41_ x := f41_.keep (by decide) h22_
            have g41_gR : gR S41_ x := gR.fr g22_gR h22_ f41_ (by decide)
            have g41_bY : bY S41_ := bY.fr g22_bY h22_ f41_ (by decide)
            have g41_hM : hM S41_ x w := hM.fr g22_hM h22_ f41_ (by decide)
            have g41_sI : sI S41_ x fr_ to_ := sI.fr g22_sI h22_ f41_ (by decide)
            have aa41_ : lA S41_ x = lA S22_ x := lA.fr g22_eI g22_hM f41_ (by decide)
            have ab41_ : lA S41_ x ≤ 2162688 := lA_le g41_eI g41_hM
            refine v_goto hX (tgt := 98) dX11_run_89 (by decide) ?_
            refine v_locals (lv' := [(3, .int (iI i)), (0, .ref (x + 418)), (1, .ref (x + 1)), (2, .int (iI ln))]) (by simp) ?_
            exact L98 _ _ _ _ ((((fr16.tr (f11_.mono (by decide) (by decide) (by decide))).tr (f14_.mono (by decide) (by decide) (by decide))).tr (f22_.mono (by decide) (by decide) (by decide))).tr (f41_.mono (by decide) (by decide) (by decide))) (by omega) ⟨by omega, by omega⟩ (by omega) g41_eI g41_hM g41_gN g41_gR g41_gP g41_oOk g41_bY ⟨_, _, g41_sI⟩ ⟨o24_, d25_, by omega, (by simp (disch := omega) only [y_P_s_P, x_P_s_P, z_P_s_I, z_P_s_J, z_P_s_A, z_P_s_B, y44_, y45_, y46_]), hs_d25_, (by simp (disch := omega) only [y_P_s_P, x_P_s_P, z_P_s_I, z_P_s_J, z_P_s_A, z_P_s_B, y44_, y45_, y46_])⟩ g41_gL
        ·
          refine v_aload_n hX dX11_run_67 (i := 0) rfl rfl ?_
          refine v_callV hX (n := 0) (g_T_passLine (S := S14_) (x := x) (w := w) h14_ g14_sI g14_gL g14_gA) (cs_k_418 h14_) bc_9 (by decide) w_3_150 w_3_152 (bw_p (q := (yX11_passLine, 16)) (List.mem_of_getElem? (i := 10) rfl) rfl) w_1_10 w_3_153 (by decide +kernel) rfl ⟨by decide, by decide⟩ ⟨by omega, by omega⟩ (Nat.le_of_ble_eq_true rfl) rfl dX11_run_68 (fun _ _ _ q => q) ?_
          rintro r49_ S49_ z49_ ⟨rfl, f49_, rfl, q49_, g49_sI, g49_gL⟩
          have y50_ : m_I S49_ 306 (x + 425) = iI fr_ := (f49_.2.1 306 (by decide) _).trans (by simp (disch := omega) only [y_I_s_I, x_I_s_I, z_I_s_J, z_I_s_A, z_I_s_B, z_I_s_P, y15_, y16_, e_v20_])
          have y51_ : m_I S49_ 307 (x + 425) = iI to_ := (f49_.2.1 307 (by decide) _).trans (by simp (disch := omega) only [y_I_s_I, x_I_s_I, z_I_s_J, z_I_s_A, z_I_s_B, z_I_s_P, y15_, y16_, e_v20_])
          have y52_ : m_P S49_ 305 (x + 425) = some bw_ := (f49_.2.2.1 305 (by decide) _).trans (by simp (disch := omega) only [y_P_s_P, x_P_s_P, z_P_s_I, z_P_s_J, z_P_s_A, z_P_s_B, y17_])
          have k53_ : m_K S49_ bw_ = 12 := (f49_.2.2.2.2 _ (by rw [show m_K S14_ bw_ = 12 from k18_]; decide)).1.trans k18_
          have l54_ : m_L S49_ bw_ = L_ := (f49_.2.2.2.2 _ (by rw [show m_K S14_ bw_ = 12 from k18_]; decide)).2.1.trans l19_
          have h49_ : cS S49_ x := f49_.keep (by decide) h14_
          have g49_gN : gN S49_ x := gN.fr g14_gN h14_ f49_ (by decide)
          have g49_gR : gR S49_ x := gR.fr g14_gR h14_ f49_ (by decide)
          have g49_gP : gP S49_ x := gP.fr g14_gP h14_ f49_ (by decide)
          have g49_oOk : oOk (b_kn X) S49_ x := oOk.fr g14_oOk h14_ f49_ (by decide)
          have g49_bY : bY S49_ := bY.fr g14_bY h14_ f49_ (by decide)
          have g49_tJ : tJ (b_kn X) S49_ x := tJ.fr g14_tJ h14_ f49_ (by decide)
          have g49_eI : eI S49_ x w := eI.fr g14_eI h14_ f49_ (by decide)
          have g49_hM : hM S49_ x w := hM.fr g14_hM h14_ f49_ (by decide)
          have aa49_ : lA S49_ x = lA S14_ x := lA.fr g14_eI g14_hM f49_ (by decide)
          have ab49_ : lA S49_ x ≤ 2162688 := lA_le g49_eI g49_hM
          refine v_goto hX (tgt := 98) dX11_run_71 (by decide) ?_
          exact L98 _ _ _ _ (((fr16.tr (f11_.mono (by decide) (by decide) (by decide))).tr (f14_.mono (by decide) (by decide) (by decide))).tr (f49_.mono (by decide) (by decide) (by decide))) (by omega) ⟨by omega, by omega⟩ (by omega) g49_eI g49_hM g49_gN g49_gR g49_gP g49_oOk g49_bY ⟨_, _, g49_sI⟩ g49_tJ g49_gL
  refine v_aload_n hX dX11_run_0 (i := 0) rfl rfl ?_
  refine v_get hX (ci := 9) (k := 6) (cs_k_418 h) bc_9 (by decide) (by decide) in_9 w_2_131 dX11_run_1 (mvP (f := 906) (q := (x + 425)) rfl rfl (cs_p_906 h)) ?_
  refine v_aload_n hX dX11_run_4 (i := 1) rfl rfl ?_
  refine v_iload_n hX dX11_run_5 (i := 2) rfl rfl ?_
  refine v_callV hX (n := 2) (g_L_start (S := S) (x := x) (w := w) (src := (x + 1)) (ln := ln) (mt := mt) (Ls := 4096) h (by simp (disch := omega) only [y_I_s_I, x_I_s_I, z_I_s_J, z_I_s_A, z_I_s_B, z_I_s_P, e_mt]) ⟨by omega, by omega⟩ ⟨by omega, by omega⟩ (cs_k_1 h) (cs_l_1 h) (by omega) rfl (by omega)) (cs_k_425 h) bc_3 (by decide) w_3_103 w_3_104 w_3_105 w_1_13 w_3_106 (by decide +kernel) rfl ⟨by decide, by decide⟩ ⟨by omega, by omega⟩ (Nat.le_of_ble_eq_true rfl) rfl dX11_run_6 (fun _ _ _ q => q) ?_
  rintro r55_ S55_ z55_ ⟨rfl, f55_, rfl, q55_, g55_gL⟩
  have y56_ : m_I S55_ 403 (x + 421) = iI mt := (f55_.2.1 403 (by decide) _).trans (by simp (disch := omega) only [y_I_s_I, x_I_s_I, z_I_s_J, z_I_s_A, z_I_s_B, z_I_s_P, e_mt])
  have h55_ : cS S55_ x := f55_.keep (by decide) h
  have g55_eI : eI S55_ x w := eI.fr g_eI h f55_ (by decide)
  have g55_hM : hM S55_ x w := hM.fr g_hM h f55_ (by decide)
  have g55_gN : gN S55_ x := gN.fr g_gN h f55_ (by decide)
  have g55_gR : gR S55_ x := gR.fr g_gR h f55_ (by decide)
  have g55_gP : gP S55_ x := gP.fr g_gP h f55_ (by decide)
  have g55_oOk : oOk (b_kn X) S55_ x := oOk.fr g_oOk h f55_ (by decide)
  have g55_bY : bY S55_ := bY.fr g_bY h f55_ (by decide)
  have g55_sE : sE S55_ x := sE.fr g_sE h f55_ (by decide)
  have g55_tJ : tJ (b_kn X) S55_ x := tJ.fr g_tJ h f55_ (by decide)
  have aa55_ : lA S55_ x = lA S x := lA.fr g_eI g_hM f55_ (by decide)
  have ab55_ : lA S55_ x ≤ 2162688 := lA_le g55_eI g55_hM
  refine v_aload_n hX dX11_run_9 (i := 0) rfl rfl ?_
  refine v_iconst hX (v := iI 0) dX11_run_10 rfl ?_
  refine v_putI hX (ci := 9) (k := 13) (f := 913) (cs_k_418 h55_) bc_9 (by decide) (by decide) in_9 tyX11_ok nmX11 w_2_139 (Or.inl rfl) (nar_b (by omega)) (fit_b (by omega)) dX11_run_11 rfl rfl ?_
  refine v_iconst hX (v := iI 0) dX11_run_14 rfl ?_
  refine v_istore_n hX (lv' := [(3, .int (iI 0)), (0, .ref (x + 418)), (1, .ref (x + 1)), (2, .int (iI ln))]) dX11_run_15 (i := 3) rfl (by rw [hnL]; decide) rfl ?_
  have a57_ : lA (s_I S55_ 913 (x + 418) (iI 0)) x = lA S55_ x := lA.fr g55_eI g55_hM (show cFr [913] [] [] w S55_ (s_I S55_ 913 (x + 418) (iI 0)) x from ((cFr.rf _ _).sI (by decide) ⟨by omega, by omega⟩)) (by decide)
  exact L16 _ _ 0 _ _ _ (((cFr.rf _ _).tr (f55_.mono (by decide) (by decide) (by decide))).sI (by decide) ⟨by omega, by omega⟩) (by omega) ⟨by omega, by omega⟩ (by omega) (eI.fr g55_eI h55_ (show cFr [913] [] [] w S55_ (s_I S55_ 913 (x + 418) (iI 0)) x from ((cFr.rf _ _).sI (by decide) ⟨by omega, by omega⟩)) (by decide)) (hM.fr g55_hM h55_ (show cFr [913] [] [] w S55_ (s_I S55_ 913 (x + 418) (iI 0)) x from ((cFr.rf _ _).sI (by decide) ⟨by omega, by omega⟩)) (by decide)) (gN.fr g55_gN h55_ (show cFr [913] [] [] w S55_ (s_I S55_ 913 (x + 418) (iI 0)) x from ((cFr.rf _ _).sI (by decide) ⟨by omega, by omega⟩)) (by decide)) (gR.fr g55_gR h55_ (show cFr [913] [] [] w S55_ (s_I S55_ 913 (x + 418) (iI 0)) x from ((cFr.rf _ _).sI (by decide) ⟨by omega, by omega⟩)) (by decide)) (gP.fr g55_gP h55_ (show cFr [913] [] [] w S55_ (s_I S55_ 913 (x + 418) (iI 0)) x from ((cFr.rf _ _).sI (by decide) ⟨by omega, by omega⟩)) (by decide)) (oOk.fr g55_oOk h55_ (show cFr [913] [] [] w S55_ (s_I S55_ 913 (x + 418) (iI 0)) x from ((cFr.rf _ _).sI (by decide) ⟨by omega, by omega⟩)) (by decide)) (bY.fr g55_bY h55_ (show cFr [913] [] [] w S55_ (s_I S55_ 913 (x + 418) (iI 0)) x from ((cFr.rf _ _).sI (by decide) ⟨by omega, by omega⟩)) (by decide)) (sE.fr g55_sE h55_ (show cFr [913] [] [] w S55_ (s_I S55_ 913 (x + 418) (iI 0)) x from ((cFr.rf _ _).sI (by decide) ⟨by omega, by omega⟩)) (by decide)) (tJ.fr g55_tJ h55_ (show cFr [913] [] [] w S55_ (s_I S55_ 913 (x + 418) (iI 0)) x from ((cFr.rf _ _).sI (by decide) ⟨by omega, by omega⟩)) (by decide)) (gL.fr g55_gL h55_ (show cFr [913] [] [] w S55_ (s_I S55_ 913 (x + 418) (iI 0)) x from ((cFr.rf _ _).sI (by decide) ⟨by omega, by omega⟩)) (by decide)) rfl
