theorem oOk.set {kn : Nat → Nat} {S : b_M} {x a i : Nat} (h : oOk kn S x) (hi : i < 17) : oOk kn (s_P S 800 a (some (kn i))) x := fun j hj => by
  by_cases e : x + 17 + j = a
  · exact ⟨i, hi, by rw [e, y_P_s_P]⟩
  · rw [x_P_s_P _ _ _ _ _ _ (Or.inr e)]; exact h j hj
set_option maxRecDepth 100000 in
set_option maxHeartbeats 4000000 in
theorem t_S_clear {kn : Nat → Nat} {B : Nat} {S : b_M} {z x w : Nat} {l : Int} {f_ : Int} {a : Nat} (h : cS S x) (b_l : -2147483648 ≤ l ∧ l < 2147483648) (b_f_ : -2147483648 ≤ f_ ∧ f_ < 2147483648) (hs_a : isS x a) (oo : oOk kn S x) : b_C kn B yX10_clear cX10_clear 3 none 0 0 0 0 [.ref a, .int (iI l), .int (iI f_)] S z (fun r S' z' => z = z' ∧ cFr [801, 802, 803, 804, 805, 806, 807, 808, 809, 810] [800] [] w S S' x ∧ r = none ∧ (True) ∧ (oOk kn S' x)) (fun _ _ _ => False) := by
  refine b_enter (by decide) (Nat.le_of_ble_eq_true rfl) ?_
  intro X hX hE hnL hkn hB hI_
  subst hkn; subst hB
  clear hI_
  change b_V X S z 0 0 0 [(0, .ref a), (1, .int (iI l)), (2, .int (iI f_))] []
  refine v_aload_n hX dX10_clear_0 (i := 0) rfl rfl ?_
  refine v_getsK hX (i := 0) (by decide) rfl w_1_139 dX10_clear_1 ?_
  refine v_putP hX (ci := 8) (k := 0) (f := 800) (isS_k h hs_a) bc_8 (by decide) (by decide) in_8 tyX10_ok nmX10 w_1_141 (Or.inl rfl) rfl rfl dX10_clear_4 rfl rfl ?_
  refine v_aload_n hX dX10_clear_7 (i := 0) rfl rfl ?_
  refine v_iload_n hX dX10_clear_8 (i := 1) rfl rfl ?_
  refine v_putI hX (ci := 8) (k := 1) (f := 801) (isS_k (cS.sP h (by decide) ⟨(isX_in hs_a).1, (isX_in hs_a).2⟩) hs_a) bc_8 (by decide) (by decide) in_8 tyX10_ok nmX10 w_1_144 (Or.inl rfl) rfl rfl dX10_clear_9 rfl rfl ?_
  refine v_aload_n hX dX10_clear_12 (i := 0) rfl rfl ?_
  refine v_iconst hX (v := iI (-1)) dX10_clear_13 rfl ?_
  refine v_putI hX (ci := 8) (k := 2) (f := 802) (isS_k (cS.sI (cS.sP h (by decide) ⟨(isX_in hs_a).1, (isX_in hs_a).2⟩)) hs_a) bc_8 (by decide) (by decide) in_8 tyX10_ok nmX10 w_1_146 (Or.inl rfl) rfl rfl dX10_clear_14 rfl rfl ?_
  refine v_aload_n hX dX10_clear_17 (i := 0) rfl rfl ?_
  refine v_iconst hX (v := iI 0) dX10_clear_18 rfl ?_
  refine v_putI hX (ci := 8) (k := 3) (f := 803) (isS_k (cS.sI (cS.sI (cS.sP h (by decide) ⟨(isX_in hs_a).1, (isX_in hs_a).2⟩))) hs_a) bc_8 (by decide) (by decide) in_8 tyX10_ok nmX10 w_1_149 (Or.inl rfl) rfl rfl dX10_clear_19 rfl rfl ?_
  refine v_aload_n hX dX10_clear_22 (i := 0) rfl rfl ?_
  refine v_iconst hX (v := iI 0) dX10_clear_23 rfl ?_
  refine v_putI hX (ci := 8) (k := 4) (f := 804) (isS_k (cS.sI (cS.sI (cS.sI (cS.sP h (by decide) ⟨(isX_in hs_a).1, (isX_in hs_a).2⟩)))) hs_a) bc_8 (by decide) (by decide) in_8 tyX10_ok nmX10 w_1_152 (Or.inl rfl) rfl rfl dX10_clear_24 rfl rfl ?_
  refine v_aload_n hX dX10_clear_27 (i := 0) rfl rfl ?_
  refine v_iload_n hX dX10_clear_28 (i := 2) rfl rfl ?_
  refine v_putI hX (ci := 8) (k := 5) (f := 805) (isS_k (cS.sI (cS.sI (cS.sI (cS.sI (cS.sP h (by decide) ⟨(isX_in hs_a).1, (isX_in hs_a).2⟩))))) hs_a) bc_8 (by decide) (by decide) in_8 tyX10_ok nmX10 w_1_155 (Or.inl rfl) rfl rfl dX10_clear_29 rfl rfl ?_
  refine v_aload_n hX dX10_clear_32 (i := 0) rfl rfl ?_
  refine v_iconst hX (v := iI 0) dX10_clear_33 rfl ?_
  refine v_putI hX (ci := 8) (k := 6) (f := 806) (isS_k (cS.sI (cS.sI (cS.sI (cS.sI (cS.sI (cS.sP h (by decide) ⟨(isX_in hs_a).1, (isX_in hs_a).2⟩)))))) hs_a) bc_8 (by decide) (by decide) in_8 tyX10_ok nmX10 w_1_157 (Or.inl rfl) rfl rfl dX10_clear_34 rfl rfl ?_
  refine v_aload_n hX dX10_clear_37 (i := 0) rfl rfl ?_
  refine v_iconst hX (v := iI 0) dX10_clear_38 rfl ?_
  refine v_putI hX (ci := 8) (k := 7) (f := 807) (isS_k (cS.sI (cS.sI (cS.sI (cS.sI (cS.sI (cS.sI (cS.sP h (by decide) ⟨(isX_in hs_a).1, (isX_in hs_a).2⟩))))))) hs_a) bc_8 (by decide) (by decide) in_8 tyX10_ok nmX10 w_1_160 (Or.inl rfl) rfl rfl dX10_clear_39 rfl rfl ?_
  refine v_aload_n hX dX10_clear_42 (i := 0) rfl rfl ?_
  refine v_iconst hX (v := iI 0) dX10_clear_43 rfl ?_
  refine v_putI hX (ci := 8) (k := 8) (f := 808) (isS_k (cS.sI (cS.sI (cS.sI (cS.sI (cS.sI (cS.sI (cS.sI (cS.sP h (by decide) ⟨(isX_in hs_a).1, (isX_in hs_a).2⟩)))))))) hs_a) bc_8 (by decide) (by decide) in_8 tyX10_ok nmX10 w_1_163 (Or.inl rfl) rfl rfl dX10_clear_44 rfl rfl ?_
  refine v_aload_n hX dX10_clear_47 (i := 0) rfl rfl ?_
  refine v_iconst hX (v := iI (-1)) dX10_clear_48 rfl ?_
  refine v_putI hX (ci := 8) (k := 9) (f := 809) (isS_k (cS.sI (cS.sI (cS.sI (cS.sI (cS.sI (cS.sI (cS.sI (cS.sI (cS.sP h (by decide) ⟨(isX_in hs_a).1, (isX_in hs_a).2⟩))))))))) hs_a) bc_8 (by decide) (by decide) in_8 tyX10_ok nmX10 w_1_165 (Or.inl rfl) rfl rfl dX10_clear_49 rfl rfl ?_
  refine v_aload_n hX dX10_clear_52 (i := 0) rfl rfl ?_
  refine v_iconst hX (v := iI 0) dX10_clear_53 rfl ?_
  refine v_putI hX (ci := 8) (k := 10) (f := 810) (isS_k (cS.sI (cS.sI (cS.sI (cS.sI (cS.sI (cS.sI (cS.sI (cS.sI (cS.sI (cS.sP h (by decide) ⟨(isX_in hs_a).1, (isX_in hs_a).2⟩)))))))))) hs_a) bc_8 (by decide) (by decide) in_8 tyX10_ok nmX10 w_1_167 (Or.inl rfl) (nar_b (by omega)) (fit_b (by omega)) dX10_clear_54 rfl rfl ?_
  exact v_return hX hE dX10_clear_57 (by omega) (by omega) ⟨rfl, ((((((((((((cFr.rf _ _).sP (by decide) ⟨(isX_in hs_a).1, (isX_in hs_a).2⟩).sI (by decide) ⟨(isX_in hs_a).1, (isX_in hs_a).2⟩).sI (by decide) ⟨(isX_in hs_a).1, (isX_in hs_a).2⟩).sI (by decide) ⟨(isX_in hs_a).1, (isX_in hs_a).2⟩).sI (by decide) ⟨(isX_in hs_a).1, (isX_in hs_a).2⟩).sI (by decide) ⟨(isX_in hs_a).1, (isX_in hs_a).2⟩).sI (by decide) ⟨(isX_in hs_a).1, (isX_in hs_a).2⟩).sI (by decide) ⟨(isX_in hs_a).1, (isX_in hs_a).2⟩).sI (by decide) ⟨(isX_in hs_a).1, (isX_in hs_a).2⟩).sI (by decide) ⟨(isX_in hs_a).1, (isX_in hs_a).2⟩).sI (by decide) ⟨(isX_in hs_a).1, (isX_in hs_a).2⟩), rfl, trivial, (show oOk (b_kn X) (s_P S 800 a (some (b_kn X 0))) x from oOk.set oo (by decide))⟩
set_option maxRecDepth 100000 in
set_option maxHeartbeats 4000000 in
theorem t_S_holds {kn : Nat → Nat} {B : Nat} {S : b_M} {z x w : Nat} {i : Int} {a : Nat} (h : cS S x) (b_i : -2147483648 ≤ i ∧ i < 2147483648) (hs_a : isS x a) (oo : oOk kn S x) : b_C kn B yX10_holds cX10_holds 2 (some .boolean) 0 0 0 0 [.ref a, .int (iI i)] S z (fun r S' z' => z = z' ∧ S = S' ∧ ∃ q : Int, r = some (.int (iI q)) ∧ (q = 0 ∨ q = 1) ∧ (True)) (fun _ _ _ => False) := by
  refine b_enter (by decide) (Nat.le_of_ble_eq_true rfl) ?_
  intro X hX hE hnL hkn hB hI_
  subst hkn; subst hB
  clear hI_
  change b_V X S z 0 0 0 [(0, .ref a), (1, .int (iI i))] []
  refine v_aload_n hX dX10_holds_0 (i := 0) rfl rfl ?_
  obtain ⟨o1_, b_o1_, e_o1_⟩ := oOk.at oo hs_a
  refine v_get hX (ci := 8) (k := 0) (isS_k h hs_a) bc_8 (by decide) (by decide) in_8 w_1_141 dX10_holds_1 (mvP (f := 800) (q := (b_kn X o1_)) rfl rfl e_o1_) ?_
  refine v_getsK hX (i := 13) (by decide) rfl w_5_154 dX10_holds_4 ?_
  refine v_acmp_eq hX (tgt := 35) dX10_holds_7 (by decide) (fun h2_ => ?_) (fun h2_ => ?_)
  ·
    refine v_iconst hX (v := iI 0) dX10_holds_35 rfl ?_
    exact v_zreturn hX (nar_b (by omega)) hE dX10_holds_36 (by omega) (by omega) ⟨rfl, rfl, 0, rfl, (by omega), trivial⟩
  ·
    refine v_iload_n hX dX10_holds_10 (i := 1) rfl rfl ?_
    refine v_aload_n hX dX10_holds_11 (i := 0) rfl rfl ?_
    obtain ⟨v3_, e_v3_, b_v3_⟩ := i_ex (m_I S 808 a)
    refine v_get hX (ci := 8) (k := 8) (isS_k h hs_a) bc_8 (by decide) (by decide) in_8 w_1_163 dX10_holds_12 (mvF (f := 808) (v := iI v3_) rfl rfl (by simp (disch := omega) only [y_I_s_I, x_I_s_I, z_I_s_J, z_I_s_A, z_I_s_B, z_I_s_P, e_v3_])) ?_
    refine u_icmp_lt hX (tgt := 35) dX10_holds_15 (by decide) ⟨by omega, by omega⟩ ⟨by omega, by omega⟩ (fun h4_ => ?_) (fun h4_ => ?_)
    ·
      refine v_iconst hX (v := iI 0) dX10_holds_35 rfl ?_
      exact v_zreturn hX (nar_b (by omega)) hE dX10_holds_36 (by omega) (by omega) ⟨rfl, rfl, 0, rfl, (by omega), trivial⟩
    ·
      refine v_iload_n hX dX10_holds_18 (i := 1) rfl rfl ?_
      refine v_aload_n hX dX10_holds_19 (i := 0) rfl rfl ?_
      refine v_get hX (ci := 8) (k := 8) (isS_k h hs_a) bc_8 (by decide) (by decide) in_8 w_1_163 dX10_holds_20 (mvF (f := 808) (v := iI v3_) rfl rfl (by simp (disch := omega) only [y_I_s_I, x_I_s_I, z_I_s_J, z_I_s_A, z_I_s_B, z_I_s_P, e_v3_])) ?_
      refine v_aload_n hX dX10_holds_23 (i := 0) rfl rfl ?_
      obtain ⟨v5_, e_v5_, b_v5_⟩ := i_ex (m_I S 807 a)
      refine v_get hX (ci := 8) (k := 7) (isS_k h hs_a) bc_8 (by decide) (by decide) in_8 w_1_160 dX10_holds_24 (mvF (f := 807) (v := iI v5_) rfl rfl (by simp (disch := omega) only [y_I_s_I, x_I_s_I, z_I_s_J, z_I_s_A, z_I_s_B, z_I_s_P, e_v3_, e_v5_])) ?_
      refine u_iadd hX dX10_holds_27 ?_
      obtain ⟨v6_, e_v6_, b_v6_⟩ := i_ex (iI (v3_ + v5_))
      rw [e_v6_]
      refine u_icmp_ge hX (tgt := 35) dX10_holds_28 (by decide) ⟨by omega, by omega⟩ ⟨by omega, by omega⟩ (fun h7_ => ?_) (fun h7_ => ?_)
      ·
        refine v_iconst hX (v := iI 0) dX10_holds_35 rfl ?_
        exact v_zreturn hX (nar_b (by omega)) hE dX10_holds_36 (by omega) (by omega) ⟨rfl, rfl, 0, rfl, (by omega), trivial⟩
      ·
        refine v_iconst hX (v := iI 1) dX10_holds_31 rfl ?_
        refine v_goto hX (tgt := 36) dX10_holds_32 (by decide) ?_
        exact v_zreturn hX (nar_b (by omega)) hE dX10_holds_36 (by omega) (by omega) ⟨rfl, rfl, 1, rfl, (by omega), trivial⟩
set_option maxRecDepth 100000 in
set_option maxHeartbeats 4000000 in
theorem t_S_tell {kn : Nat → Nat} {B : Nat} {S : b_M} {z x w : Nat} {what : Int} {a : Nat} (h : cS S x) (b_what : -2147483648 ≤ what ∧ what < 2147483648) (hs_a : isS x a) : b_C kn B yX10_tell cX10_tell 2 (some .int) 0 0 0 0 [.ref a, .int (iI what)] S z (fun r S' z' => z = z' ∧ S = S' ∧ ∃ q : Int, r = some (.int (iI q)) ∧ (-2147483648 ≤ q ∧ q < 2147483648) ∧ (True)) (fun _ _ _ => False) := by
  refine b_enter (by decide) (Nat.le_of_ble_eq_true rfl) ?_
  intro X hX hE hnL hkn hB hI_
  subst hkn; subst hB
  clear hI_
  change b_V X S z 0 0 0 [(0, .ref a), (1, .int (iI what))] []
  refine v_iload_n hX dX10_tell_0 (i := 1) rfl rfl ?_
  by_cases h1_ : 0 ≤ what ∧ what ≤ 2
  ·
    have h2_ : what = 0 ∨ what = 1 ∨ what = 2 := by omega
    rcases h2_ with h2_ | h2_ | h2_
    ·
      refine v_tableIn hX (off := 27) (tgt := 28) dX10_tell_1 (by rw [iI_to ⟨by omega, by omega⟩]; omega) (by rw [iI_to ⟨by omega, by omega⟩]; omega) (by rw [iI_to ⟨by omega, by omega⟩, h2_]; rfl) (by decide) ?_
      refine v_aload_n hX dX10_tell_28 (i := 0) rfl rfl ?_
      obtain ⟨v3_, e_v3_, b_v3_⟩ := i_ex (m_I S 801 a)
      refine v_get hX (ci := 8) (k := 1) (isS_k h hs_a) bc_8 (by decide) (by decide) in_8 w_1_144 dX10_tell_29 (mvF (f := 801) (v := iI v3_) rfl rfl (by simp (disch := omega) only [y_I_s_I, x_I_s_I, z_I_s_J, z_I_s_A, z_I_s_B, z_I_s_P, e_v3_])) ?_
      exact v_ireturn hX hE dX10_tell_32 (by omega) (by omega) ⟨rfl, rfl, v3_, rfl, ⟨by omega, by omega⟩, trivial⟩
    ·
      refine v_tableIn hX (off := 32) (tgt := 33) dX10_tell_1 (by rw [iI_to ⟨by omega, by omega⟩]; omega) (by rw [iI_to ⟨by omega, by omega⟩]; omega) (by rw [iI_to ⟨by omega, by omega⟩, h2_]; rfl) (by decide) ?_
      refine v_aload_n hX dX10_tell_33 (i := 0) rfl rfl ?_
      obtain ⟨v4_, e_v4_, b_v4_⟩ := i_ex (m_I S 808 a)
      refine v_get hX (ci := 8) (k := 8) (isS_k h hs_a) bc_8 (by decide) (by decide) in_8 w_1_163 dX10_tell_34 (mvF (f := 808) (v := iI v4_) rfl rfl (by simp (disch := omega) only [y_I_s_I, x_I_s_I, z_I_s_J, z_I_s_A, z_I_s_B, z_I_s_P, e_v4_])) ?_
      exact v_ireturn hX hE dX10_tell_37 (by omega) (by omega) ⟨rfl, rfl, v4_, rfl, ⟨by omega, by omega⟩, trivial⟩
    ·
      refine v_tableIn hX (off := 37) (tgt := 38) dX10_tell_1 (by rw [iI_to ⟨by omega, by omega⟩]; omega) (by rw [iI_to ⟨by omega, by omega⟩]; omega) (by rw [iI_to ⟨by omega, by omega⟩, h2_]; rfl) (by decide) ?_
      refine v_aload_n hX dX10_tell_38 (i := 0) rfl rfl ?_
      obtain ⟨v5_, e_v5_, b_v5_⟩ := i_ex (m_I S 807 a)
      refine v_get hX (ci := 8) (k := 7) (isS_k h hs_a) bc_8 (by decide) (by decide) in_8 w_1_160 dX10_tell_39 (mvF (f := 807) (v := iI v5_) rfl rfl (by simp (disch := omega) only [y_I_s_I, x_I_s_I, z_I_s_J, z_I_s_A, z_I_s_B, z_I_s_P, e_v5_])) ?_
      exact v_ireturn hX hE dX10_tell_42 (by omega) (by omega) ⟨rfl, rfl, v5_, rfl, ⟨by omega, by omega⟩, trivial⟩
  ·
    refine v_tableOut hX (tgt := 43) dX10_tell_1 (by rw [iI_to ⟨by omega, by omega⟩]; omega) (by decide) ?_
    refine v_aload_n hX dX10_tell_43 (i := 0) rfl rfl ?_
    obtain ⟨v6_, e_v6_, b_v6_⟩ := i_ex (m_I S 810 a)
    refine v_get hX (ci := 8) (k := 10) (isS_k h hs_a) bc_8 (by decide) (by decide) in_8 w_1_167 dX10_tell_44 (mvF (f := 810) (v := iI v6_) rfl rfl (by simp (disch := omega) only [y_I_s_I, x_I_s_I, z_I_s_J, z_I_s_A, z_I_s_B, z_I_s_P, e_v6_])) ?_
    refine u_if_eq hX (tgt := 54) dX10_tell_47 (by decide) ⟨by omega, by omega⟩ (fun h7_ => ?_) (fun h7_ => ?_)
    ·
      refine v_iconst hX (v := iI 0) dX10_tell_54 rfl ?_
      exact v_ireturn hX hE dX10_tell_55 (by omega) (by omega) ⟨rfl, rfl, 0, rfl, ⟨by omega, by omega⟩, trivial⟩
    ·
      refine v_iconst hX (v := iI 1) dX10_tell_50 rfl ?_
      refine v_goto hX (tgt := 55) dX10_tell_51 (by decide) ?_
      exact v_ireturn hX hE dX10_tell_55 (by omega) (by omega) ⟨rfl, rfl, 1, rfl, ⟨by omega, by omega⟩, trivial⟩
set_option maxRecDepth 100000 in
set_option maxHeartbeats 4000000 in
theorem t_X_cut {kn : Nat → Nat} {B : Nat} {S : b_M} {z x w : Nat} {mk : Int} {he : Int} {ht : Int} {Lt : Int} (h : cS S x) (e_he : m_I S 205 (x + 11) = iI he) (b_he : -2147483648 ≤ he ∧ he < 2147483648) (e_ht : m_I S 206 (x + 11) = iI ht) (b_ht : -2147483648 ≤ ht ∧ ht < 2147483648) (b_mk : -2147483648 ≤ mk ∧ mk < 2147483648) (ef : eF S x Lt) (p : 0 ≤ he ∧ he ≤ 3208 ∧ 0 ≤ ht ∧ ht ≤ Lt) : b_C kn B yX3_cut cX3_cut 2 none 0 0 0 0 [.ref (x + 11), .int (iI mk)] S z (fun r S' z' => z = z' ∧ cFr [205, 206] [] [] w S S' x ∧ ∃ h1 t1 : Int, r = none ∧ m_I S' 205 (x + 11) = iI h1 ∧ (-2147483648 ≤ h1 ∧ h1 < 2147483648) ∧ m_I S' 206 (x + 11) = iI t1 ∧ (-2147483648 ≤ t1 ∧ t1 < 2147483648) ∧ (0 ≤ h1 ∧ h1 ≤ he ∧ 0 ≤ t1 ∧ t1 ≤ Lt ∧ (0 ≤ mk ∧ mk ≤ he → h1 = mk))) (fun _ _ _ => False) := by
  refine b_enter (by decide) (Nat.le_of_ble_eq_true rfl) ?_
  intro X hX hE hnL hkn hB hI_
  subst hkn; subst hB
  clear hI_
  change b_V X S z 0 0 0 [(0, .ref (x + 11)), (1, .int (iI mk))] []
  refine v_iload_n hX dX3_cut_0 (i := 1) rfl rfl ?_
  refine u_if_lt hX (tgt := 27) dX3_cut_1 (by decide) ⟨by omega, by omega⟩ (fun h1_ => ?_) (fun h1_ => ?_)
  ·
    exact v_return hX hE dX3_cut_27 (by omega) (by omega) ⟨rfl, (cFr.rf _ _), he, ht, rfl, (by simp (disch := omega) only [y_I_s_I, x_I_s_I, z_I_s_J, z_I_s_A, z_I_s_B, z_I_s_P, e_he, e_ht]), ⟨by omega, by omega⟩, (by simp (disch := omega) only [y_I_s_I, x_I_s_I, z_I_s_J, z_I_s_A, z_I_s_B, z_I_s_P, e_he, e_ht]), ⟨by omega, by omega⟩, (by omega)⟩
  ·
    refine v_iload_n hX dX3_cut_4 (i := 1) rfl rfl ?_
    refine v_aload_n hX dX3_cut_5 (i := 0) rfl rfl ?_
    refine v_get hX (ci := 2) (k := 5) (cs_k_11 h) bc_2 (by decide) (by decide) in_2 w_1_110 dX3_cut_6 (mvF (f := 205) (v := iI he) rfl rfl (by simp (disch := omega) only [y_I_s_I, x_I_s_I, z_I_s_J, z_I_s_A, z_I_s_B, z_I_s_P, e_he, e_ht])) ?_
    refine u_icmp_gt hX (tgt := 27) dX3_cut_9 (by decide) ⟨by omega, by omega⟩ ⟨by omega, by omega⟩ (fun h2_ => ?_) (fun h2_ => ?_)
    ·
      exact v_return hX hE dX3_cut_27 (by omega) (by omega) ⟨rfl, (cFr.rf _ _), he, ht, rfl, (by simp (disch := omega) only [y_I_s_I, x_I_s_I, z_I_s_J, z_I_s_A, z_I_s_B, z_I_s_P, e_he, e_ht]), ⟨by omega, by omega⟩, (by simp (disch := omega) only [y_I_s_I, x_I_s_I, z_I_s_J, z_I_s_A, z_I_s_B, z_I_s_P, e_he, e_ht]), ⟨by omega, by omega⟩, (by omega)⟩
    ·
      refine v_aload_n hX dX3_cut_12 (i := 0) rfl rfl ?_
      refine v_iload_n hX dX3_cut_13 (i := 1) rfl rfl ?_
      refine v_putI hX (ci := 2) (k := 5) (f := 205) (cs_k_11 h) bc_2 (by decide) (by decide) in_2 tyX3_ok nmX3 w_1_110 (Or.inl rfl) rfl rfl dX3_cut_14 rfl rfl ?_
      refine v_aload_n hX dX3_cut_17 (i := 0) rfl rfl ?_
      refine v_aload_n hX dX3_cut_18 (i := 0) rfl rfl ?_
      refine v_get hX (ci := 2) (k := 3) (cs_k_11 (cS.sI h)) bc_2 (by decide) (by decide) in_2 w_1_108 dX3_cut_19 (mvP (f := 203) (q := (x + 14)) rfl rfl (cs_p_203 (cS.sI h))) ?_
      refine v_iload_n hX dX3_cut_22 (i := 1) rfl rfl ?_
      refine u_iald hX (L := 3209) (cs_k_14 (cS.sI h)) (cs_l_14 (cS.sI h)) ⟨by omega, by omega⟩ (by decide) dX3_cut_23 (fun v3_ e_v3_ b_v3_ => ?_)
      try simp (disch := omega) only [zr_I, zr_J, zr_B, rA_A, zl_I, zl_J, zl_A, lA_B, zr_P] at e_v3_
      have g24_ := ef mk (by omega) (by omega)
      refine v_putI hX (ci := 2) (k := 6) (f := 206) (cs_k_11 (cS.sI h)) bc_2 (by decide) (by decide) in_2 tyX3_ok nmX3 w_1_112 (Or.inl rfl) rfl rfl dX3_cut_24 rfl rfl ?_
      exact v_return hX hE dX3_cut_27 (by omega) (by omega) ⟨rfl, (((cFr.rf _ _).sI (by decide) ⟨by omega, by omega⟩).sI (by decide) ⟨by omega, by omega⟩), mk, v3_, rfl, (by simp (disch := omega) only [y_I_s_I, x_I_s_I, z_I_s_J, z_I_s_A, z_I_s_B, z_I_s_P, e_he, e_ht]), ⟨by omega, by omega⟩, (by simp (disch := omega) only [y_I_s_I, x_I_s_I, z_I_s_J, z_I_s_A, z_I_s_B, z_I_s_P, e_he, e_ht]), ⟨by omega, by omega⟩, (by omega)⟩
set_option maxRecDepth 100000 in
set_option maxHeartbeats 4000000 in
theorem t_X_constant {kn : Nat → Nat} {B : Nat} {S : b_M} {z x w : Nat} {e : Int} {he : Int} (h : cS S x) (e_he : m_I S 205 (x + 11) = iI he) (b_he : -2147483648 ≤ he ∧ he < 2147483648) (b_e : -2147483648 ≤ e ∧ e < 2147483648) (p : 0 ≤ he ∧ he ≤ 3208) : b_C kn B yX3_constant cX3_constant 2 (some .int) 0 0 0 0 [.ref (x + 11), .int (iI e)] S z (fun r S' z' => z = z' ∧ S = S' ∧ ∃ q : Int, r = some (.int (iI q)) ∧ (-2147483648 ≤ q ∧ q < 2147483648) ∧ (True)) (fun _ _ _ => False) := by
  refine b_enter (by decide) (Nat.le_of_ble_eq_true rfl) ?_
  intro X hX hE hnL hkn hB hI_
  subst hkn; subst hB
  clear hI_
  change b_V X S z 0 0 0 [(0, .ref (x + 11)), (1, .int (iI e))] []
  refine v_iload_n hX dX3_constant_0 (i := 1) rfl rfl ?_
  refine u_if_lt hX (tgt := 21) dX3_constant_1 (by decide) ⟨by omega, by omega⟩ (fun h1_ => ?_) (fun h1_ => ?_)
  ·
    refine v_iconst hX (v := iI 0) dX3_constant_21 rfl ?_
    exact v_ireturn hX hE dX3_constant_22 (by omega) (by omega) ⟨rfl, rfl, 0, rfl, ⟨by omega, by omega⟩, trivial⟩
  ·
    refine v_iload_n hX dX3_constant_4 (i := 1) rfl rfl ?_
    refine v_aload_n hX dX3_constant_5 (i := 0) rfl rfl ?_
    refine v_get hX (ci := 2) (k := 5) (cs_k_11 h) bc_2 (by decide) (by decide) in_2 w_1_110 dX3_constant_6 (mvF (f := 205) (v := iI he) rfl rfl (by simp (disch := omega) only [y_I_s_I, x_I_s_I, z_I_s_J, z_I_s_A, z_I_s_B, z_I_s_P, e_he])) ?_
    refine u_icmp_ge hX (tgt := 21) dX3_constant_9 (by decide) ⟨by omega, by omega⟩ ⟨by omega, by omega⟩ (fun h2_ => ?_) (fun h2_ => ?_)
    ·
      refine v_iconst hX (v := iI 0) dX3_constant_21 rfl ?_
      exact v_ireturn hX hE dX3_constant_22 (by omega) (by omega) ⟨rfl, rfl, 0, rfl, ⟨by omega, by omega⟩, trivial⟩
    ·
      refine v_aload_n hX dX3_constant_12 (i := 0) rfl rfl ?_
      refine v_get hX (ci := 2) (k := 1) (cs_k_11 h) bc_2 (by decide) (by decide) in_2 w_1_106 dX3_constant_13 (mvP (f := 201) (q := (x + 12)) rfl rfl (cs_p_201 h)) ?_
      refine v_iload_n hX dX3_constant_16 (i := 1) rfl rfl ?_
      refine u_iald hX (L := 3208) (cs_k_12 h) (cs_l_12 h) ⟨by omega, by omega⟩ (by decide) dX3_constant_17 (fun v3_ e_v3_ b_v3_ => ?_)
      refine v_goto hX (tgt := 22) dX3_constant_18 (by decide) ?_
      exact v_ireturn hX hE dX3_constant_22 (by omega) (by omega) ⟨rfl, rfl, v3_, rfl, ⟨by omega, by omega⟩, trivial⟩
set_option maxRecDepth 100000 in
set_option maxHeartbeats 4000000 in
theorem t_X_firstTerm {kn : Nat → Nat} {B : Nat} {S : b_M} {z x w : Nat} {e : Int} {he : Int} {Lt : Int} (h : cS S x) (e_he : m_I S 205 (x + 11) = iI he) (b_he : -2147483648 ≤ he ∧ he < 2147483648) (b_e : -2147483648 ≤ e ∧ e < 2147483648) (ef : eF S x Lt) (p : 0 ≤ he ∧ he ≤ 3208 ∧ 0 ≤ Lt) : b_C kn B yX3_firstTerm cX3_firstTerm 2 (some .int) 0 0 0 0 [.ref (x + 11), .int (iI e)] S z (fun r S' z' => z = z' ∧ S = S' ∧ ∃ q : Int, r = some (.int (iI q)) ∧ (-2147483648 ≤ q ∧ q < 2147483648) ∧ (0 ≤ q ∧ q ≤ Lt)) (fun _ _ _ => False) := by
  refine b_enter (by decide) (Nat.le_of_ble_eq_true rfl) ?_
  intro X hX hE hnL hkn hB hI_
  subst hkn; subst hB
  clear hI_
  change b_V X S z 0 0 0 [(0, .ref (x + 11)), (1, .int (iI e))] []
  refine v_iload_n hX dX3_firstTerm_0 (i := 1) rfl rfl ?_
  refine u_if_lt hX (tgt := 21) dX3_firstTerm_1 (by decide) ⟨by omega, by omega⟩ (fun h1_ => ?_) (fun h1_ => ?_)
  ·
    refine v_iconst hX (v := iI 0) dX3_firstTerm_21 rfl ?_
    exact v_ireturn hX hE dX3_firstTerm_22 (by omega) (by omega) ⟨rfl, rfl, 0, rfl, ⟨by omega, by omega⟩, (by omega)⟩
  ·
    refine v_iload_n hX dX3_firstTerm_4 (i := 1) rfl rfl ?_
    refine v_aload_n hX dX3_firstTerm_5 (i := 0) rfl rfl ?_
    refine v_get hX (ci := 2) (k := 5) (cs_k_11 h) bc_2 (by decide) (by decide) in_2 w_1_110 dX3_firstTerm_6 (mvF (f := 205) (v := iI he) rfl rfl (by simp (disch := omega) only [y_I_s_I, x_I_s_I, z_I_s_J, z_I_s_A, z_I_s_B, z_I_s_P, e_he])) ?_
    refine u_icmp_ge hX (tgt := 21) dX3_firstTerm_9 (by decide) ⟨by omega, by omega⟩ ⟨by omega, by omega⟩ (fun h2_ => ?_) (fun h2_ => ?_)
    ·
      refine v_iconst hX (v := iI 0) dX3_firstTerm_21 rfl ?_
      exact v_ireturn hX hE dX3_firstTerm_22 (by omega) (by omega) ⟨rfl, rfl, 0, rfl, ⟨by omega, by omega⟩, (by omega)⟩
    ·
      refine v_aload_n hX dX3_firstTerm_12 (i := 0) rfl rfl ?_
      refine v_get hX (ci := 2) (k := 3) (cs_k_11 h) bc_2 (by decide) (by decide) in_2 w_1_108 dX3_firstTerm_13 (mvP (f := 203) (q := (x + 14)) rfl rfl (cs_p_203 h)) ?_
      refine v_iload_n hX dX3_firstTerm_16 (i := 1) rfl rfl ?_
      refine u_iald hX (L := 3209) (cs_k_14 h) (cs_l_14 h) ⟨by omega, by omega⟩ (by decide) dX3_firstTerm_17 (fun v3_ e_v3_ b_v3_ => ?_)
      have g18_ := ef e (by omega) (by omega)
      refine v_goto hX (tgt := 22) dX3_firstTerm_18 (by decide) ?_
      exact v_ireturn hX hE dX3_firstTerm_22 (by omega) (by omega) ⟨rfl, rfl, v3_, rfl, ⟨by omega, by omega⟩, (by omega)⟩
set_option maxRecDepth 100000 in
set_option maxHeartbeats 4000000 in
theorem t_X_lastTerm {kn : Nat → Nat} {B : Nat} {S : b_M} {z x w : Nat} {e : Int} {he : Int} {Lt : Int} (h : cS S x) (e_he : m_I S 205 (x + 11) = iI he) (b_he : -2147483648 ≤ he ∧ he < 2147483648) (b_e : -2147483648 ≤ e ∧ e < 2147483648) (ef : eF S x Lt) (p : 0 ≤ he ∧ he ≤ 3208 ∧ 0 ≤ Lt) : b_C kn B yX3_lastTerm cX3_lastTerm 2 (some .int) 0 0 0 0 [.ref (x + 11), .int (iI e)] S z (fun r S' z' => z = z' ∧ S = S' ∧ ∃ q : Int, r = some (.int (iI q)) ∧ (-2147483648 ≤ q ∧ q < 2147483648) ∧ (0 ≤ q ∧ q ≤ Lt)) (fun _ _ _ => False) := by
  refine b_enter (by decide) (Nat.le_of_ble_eq_true rfl) ?_
  intro X hX hE hnL hkn hB hI_
  subst hkn; subst hB
  clear hI_
  change b_V X S z 0 0 0 [(0, .ref (x + 11)), (1, .int (iI e))] []
  refine v_iload_n hX dX3_lastTerm_0 (i := 1) rfl rfl ?_
  refine u_if_lt hX (tgt := 23) dX3_lastTerm_1 (by decide) ⟨by omega, by omega⟩ (fun h1_ => ?_) (fun h1_ => ?_)
  ·
    refine v_iconst hX (v := iI 0) dX3_lastTerm_23 rfl ?_
    exact v_ireturn hX hE dX3_lastTerm_24 (by omega) (by omega) ⟨rfl, rfl, 0, rfl, ⟨by omega, by omega⟩, (by omega)⟩
  ·
    refine v_iload_n hX dX3_lastTerm_4 (i := 1) rfl rfl ?_
    refine v_aload_n hX dX3_lastTerm_5 (i := 0) rfl rfl ?_
    refine v_get hX (ci := 2) (k := 5) (cs_k_11 h) bc_2 (by decide) (by decide) in_2 w_1_110 dX3_lastTerm_6 (mvF (f := 205) (v := iI he) rfl rfl (by simp (disch := omega) only [y_I_s_I, x_I_s_I, z_I_s_J, z_I_s_A, z_I_s_B, z_I_s_P, e_he])) ?_
    refine u_icmp_ge hX (tgt := 23) dX3_lastTerm_9 (by decide) ⟨by omega, by omega⟩ ⟨by omega, by omega⟩ (fun h2_ => ?_) (fun h2_ => ?_)
    ·
      refine v_iconst hX (v := iI 0) dX3_lastTerm_23 rfl ?_
      exact v_ireturn hX hE dX3_lastTerm_24 (by omega) (by omega) ⟨rfl, rfl, 0, rfl, ⟨by omega, by omega⟩, (by omega)⟩
    ·
      refine v_aload_n hX dX3_lastTerm_12 (i := 0) rfl rfl ?_
      refine v_get hX (ci := 2) (k := 3) (cs_k_11 h) bc_2 (by decide) (by decide) in_2 w_1_108 dX3_lastTerm_13 (mvP (f := 203) (q := (x + 14)) rfl rfl (cs_p_203 h)) ?_
      refine v_iload_n hX dX3_lastTerm_16 (i := 1) rfl rfl ?_
      refine v_iconst hX (v := iI 1) dX3_lastTerm_17 rfl ?_
      refine u_iadd hX dX3_lastTerm_18 ?_
      refine u_iald hX (L := 3209) (cs_k_14 h) (cs_l_14 h) ⟨by omega, by omega⟩ (by decide) dX3_lastTerm_19 (fun v3_ e_v3_ b_v3_ => ?_)
      have g20_ := ef (e + 1) (by omega) (by omega)
      refine v_goto hX (tgt := 24) dX3_lastTerm_20 (by decide) ?_
      exact v_ireturn hX hE dX3_lastTerm_24 (by omega) (by omega) ⟨rfl, rfl, v3_, rfl, ⟨by omega, by omega⟩, (by omega)⟩
set_option maxRecDepth 100000 in
set_option maxHeartbeats 4000000 in
theorem t_X_isKnown {kn : Nat → Nat} {B : Nat} {S : b_M} {z x w : Nat} {e : Int} {he : Int} {tm Ltm : Nat} (h : cS S x) (e_he : m_I S 205 (x + 11) = iI he) (b_he : -2147483648 ≤ he ∧ he < 2147483648) (e_tm : m_P S 204 (x + 11) = some tm) (k_tm : m_K S tm = 14) (l_tm : m_L S tm = Ltm) (c_tm : (Ltm : Int) ≤ 2097152) (b_e : -2147483648 ≤ e ∧ e < 2147483648) (ef : eF S x (Ltm : Int)) (p : 0 ≤ he ∧ he ≤ 3208) : b_C kn B yX3_isKnown cX3_isKnown 3 (some .boolean) 1 21 0 0 [.ref (x + 11), .int (iI e)] S z (fun r S' z' => z = z' ∧ S = S' ∧ ∃ q : Int, r = some (.int (iI q)) ∧ (q = 0 ∨ q = 1) ∧ (True)) (fun _ _ _ => False) := by
  refine b_enter (by decide) (Nat.le_of_ble_eq_true rfl) ?_
  intro X hX hE hnL hkn hB hI_
  subst hkn; subst hB
  clear hI_
  have L6 : ∀ (n6 : Nat) (i : Int), (0 ≤ i ∧ i ≤ (Ltm : Int)) → ((Ltm : Int) - i).toNat = n6 → b_V X S z 0 0 6 [(2, .int (iI i)), (0, .ref (x + 11)), (1, .int (iI e))] [] := by
    intro n6
    induction n6 using Nat.strongRecOn with
    | _ n6 ih6 =>
    intro i p6_0 hm6
    refine v_iload_n hX dX3_isKnown_6 (i := 2) rfl rfl ?_
    refine v_aload_n hX dX3_isKnown_7 (i := 0) rfl rfl ?_
    refine v_iload_n hX dX3_isKnown_8 (i := 1) rfl rfl ?_
    refine v_callV hX (n := 1) (t_X_lastTerm (S := S) (x := x) (w := w) (e := e) (he := he) h (by simp (disch := omega) only [y_I_s_I, x_I_s_I, z_I_s_J, z_I_s_A, z_I_s_B, z_I_s_P, e_he]) ⟨by omega, by omega⟩ ⟨by omega, by omega⟩ ef (by omega)) (cs_k_11 h) bc_2 (by decide) w_5_83 w_5_85 (bw_p (q := (yX3_lastTerm, 8)) (List.mem_of_getElem? (i := 34) rfl) rfl) w_1_6 w_5_86 (by decide +kernel) rfl ⟨by decide, by decide⟩ ⟨by omega, by omega⟩ (Nat.le_of_ble_eq_true rfl) rfl dX3_isKnown_9 (fun _ _ _ q => q) ?_
    rintro r1_ S1_ z1_ ⟨rfl, rfl, v2_, rfl, b_v2_, q1_⟩
    refine u_icmp_ge hX (tgt := 34) dX3_isKnown_12 (by decide) ⟨by omega, by omega⟩ ⟨by omega, by omega⟩ (fun h3_ => ?_) (fun h3_ => ?_)
    ·
      refine v_iconst hX (v := iI 1) dX3_isKnown_34 rfl ?_
      exact v_zreturn hX (nar_b (by omega)) hE dX3_isKnown_35 (by omega) (by omega) ⟨rfl, rfl, 1, rfl, (by omega), trivial⟩
    ·
      refine v_aload_n hX dX3_isKnown_15 (i := 0) rfl rfl ?_
      refine v_get hX (ci := 2) (k := 4) (cs_k_11 h) bc_2 (by decide) (by decide) in_2 w_1_109 dX3_isKnown_16 (mvP (f := 204) (q := tm) rfl rfl (by simp (disch := omega) only [y_P_s_P, x_P_s_P, z_P_s_I, z_P_s_J, z_P_s_A, z_P_s_B, e_tm])) ?_
      refine v_iload_n hX dX3_isKnown_19 (i := 2) rfl rfl ?_
      refine u_lald hX (L := Ltm) k_tm l_tm ⟨by omega, by omega⟩ (by omega) dX3_isKnown_20 (fun v4_ e_v4_ b_v4_ => ?_)
      refine v_lconst hX (v := jJ 0) dX3_isKnown_21 rfl ?_
      refine u_lcmp hX dX3_isKnown_22 ⟨by omega, by omega⟩ ⟨by omega, by omega⟩ (fun v5_ b_v5_ c_v5_ => ?_)
      refine u_if_ne hX (tgt := 28) dX3_isKnown_23 (by decide) ⟨by omega, by omega⟩ (fun h6_ => ?_) (fun h6_ => ?_)
      ·
        refine v_iinc hX (v := iI (i + 1)) (lv' := [(2, .int (iI (i + 1))), (0, .ref (x + 11)), (1, .int (iI e))]) dX3_isKnown_28 rfl (iI_add _ _) (by rw [hnL]; decide) rfl ?_
        refine v_goto hX (tgt := 6) dX3_isKnown_31 (by decide) ?_
        exact ih6 _ (by omega) (i + 1) (by omega) rfl
      ·
        refine v_iconst hX (v := iI 0) dX3_isKnown_26 rfl ?_
        exact v_zreturn hX (nar_b (by omega)) hE dX3_isKnown_27 (by omega) (by omega) ⟨rfl, rfl, 0, rfl, (by omega), trivial⟩
  change b_V X S z 0 0 0 [(0, .ref (x + 11)), (1, .int (iI e))] []
  refine v_aload_n hX dX3_isKnown_0 (i := 0) rfl rfl ?_
  refine v_iload_n hX dX3_isKnown_1 (i := 1) rfl rfl ?_
  refine v_callV hX (n := 1) (t_X_firstTerm (S := S) (x := x) (w := w) (e := e) (he := he) h (by simp (disch := omega) only [y_I_s_I, x_I_s_I, z_I_s_J, z_I_s_A, z_I_s_B, z_I_s_P, e_he]) ⟨by omega, by omega⟩ ⟨by omega, by omega⟩ ef (by omega)) (cs_k_11 h) bc_2 (by decide) w_5_79 w_5_81 (bw_p (q := (yX3_firstTerm, 8)) (List.mem_of_getElem? (i := 33) rfl) rfl) w_1_6 w_5_82 (by decide +kernel) rfl ⟨by decide, by decide⟩ ⟨by omega, by omega⟩ (Nat.le_of_ble_eq_true rfl) rfl dX3_isKnown_2 (fun _ _ _ q => q) ?_
  rintro r7_ S7_ z7_ ⟨rfl, rfl, v8_, rfl, b_v8_, q7_⟩
  refine v_istore_n hX (lv' := [(2, .int (iI v8_)), (0, .ref (x + 11)), (1, .int (iI e))]) dX3_isKnown_5 (i := 2) rfl (by rw [hnL]; decide) rfl ?_
  exact L6 _ v8_ (by omega) rfl
set_option maxRecDepth 100000 in
set_option maxHeartbeats 4000000 in
theorem t_X_value {kn : Nat → Nat} {B : Nat} {S : b_M} {z x w : Nat} {e : Int} {pl : Int} {he : Int} {tm Ltm : Nat} (h : cS S x) (e_he : m_I S 205 (x + 11) = iI he) (b_he : -2147483648 ≤ he ∧ he < 2147483648) (e_tm : m_P S 204 (x + 11) = some tm) (k_tm : m_K S tm = 14) (l_tm : m_L S tm = Ltm) (c_tm : (Ltm : Int) ≤ 2097152) (b_e : -2147483648 ≤ e ∧ e < 2147483648) (b_pl : -2147483648 ≤ pl ∧ pl < 2147483648) (ef : eF S x (Ltm : Int)) (p : 0 ≤ he ∧ he ≤ 3208) : b_C kn B yX3_value cX3_value 6 (some .int) 1 21 0 0 [.ref (x + 11), .int (iI e), .int (iI pl)] S z (fun r S' z' => z = z' ∧ S = S' ∧ ∃ q : Int, r = some (.int (iI q)) ∧ (-2147483648 ≤ q ∧ q < 2147483648) ∧ (True)) (fun _ _ _ => False) := by
  refine b_enter (by decide) (Nat.le_of_ble_eq_true rfl) ?_
  intro X hX hE hnL hkn hB hI_
  subst hkn; subst hB
  clear hI_
  have L37 : ∀ (n37 : Nat) (i : Int) (sum : Int), (0 ≤ i ∧ i ≤ (Ltm : Int) ∧ (-2147483648 ≤ sum ∧ sum < 2147483648) ∧ 0 ≤ e ∧ e < he) → ((Ltm : Int) - i).toNat = n37 → b_V X S z 0 0 37 [(4, .int (iI i)), (3, .int (iI sum)), (0, .ref (x + 11)), (1, .int (iI e)), (2, .int (iI pl))] [] := by
    intro n37
    induction n37 using Nat.strongRecOn with
    | _ n37 ih37 =>
    intro i sum p37_0 hm37
    refine v_iload hX dX3_value_37 rfl ?_
    refine v_aload_n hX dX3_value_39 (i := 0) rfl rfl ?_
    refine v_iload_n hX dX3_value_40 (i := 1) rfl rfl ?_
    refine v_callV hX (n := 1) (t_X_lastTerm (S := S) (x := x) (w := w) (e := e) (he := he) h (by simp (disch := omega) only [y_I_s_I, x_I_s_I, z_I_s_J, z_I_s_A, z_I_s_B, z_I_s_P, e_he]) ⟨by omega, by omega⟩ ⟨by omega, by omega⟩ ef (by omega)) (cs_k_11 h) bc_2 (by decide) w_5_83 w_5_85 (bw_p (q := (yX3_lastTerm, 8)) (List.mem_of_getElem? (i := 34) rfl) rfl) w_1_6 w_5_86 (by decide +kernel) rfl ⟨by decide, by decide⟩ ⟨by omega, by omega⟩ (Nat.le_of_ble_eq_true rfl) rfl dX3_value_41 (fun _ _ _ q => q) ?_
    rintro r1_ S1_ z1_ ⟨rfl, rfl, v2_, rfl, b_v2_, q1_⟩
    refine u_icmp_ge hX (tgt := 105) dX3_value_44 (by decide) ⟨by omega, by omega⟩ ⟨by omega, by omega⟩ (fun h3_ => ?_) (fun h3_ => ?_)
    ·
      refine v_iload_n hX dX3_value_105 (i := 3) rfl rfl ?_
      exact v_ireturn hX hE dX3_value_106 (by omega) (by omega) ⟨rfl, rfl, sum, rfl, ⟨by omega, by omega⟩, trivial⟩
    ·
      refine v_aload_n hX dX3_value_47 (i := 0) rfl rfl ?_
      refine v_get hX (ci := 2) (k := 4) (cs_k_11 h) bc_2 (by decide) (by decide) in_2 w_1_109 dX3_value_48 (mvP (f := 204) (q := tm) rfl rfl (by simp (disch := omega) only [y_P_s_P, x_P_s_P, z_P_s_I, z_P_s_J, z_P_s_A, z_P_s_B, e_tm])) ?_
      refine v_iload hX dX3_value_51 rfl ?_
      refine u_lald hX (L := Ltm) k_tm l_tm ⟨by omega, by omega⟩ (by omega) dX3_value_53 (fun v4_ e_v4_ b_v4_ => ?_)
      refine u_l2i hX dX3_value_54 ?_
      obtain ⟨v5_, e_v5_, b_v5_⟩ := i_ex (iI v4_)
      rw [e_v5_]
      refine v_istore hX (lv' := [(5, .int (iI v5_)), (4, .int (iI i)), (3, .int (iI sum)), (0, .ref (x + 11)), (1, .int (iI e)), (2, .int (iI pl))]) dX3_value_55 (by rw [hnL]; decide) rfl ?_
      refine v_iload hX dX3_value_57 rfl ?_
      refine u_if_le hX (tgt := 79) dX3_value_59 (by decide) ⟨by omega, by omega⟩ (fun h6_ => ?_) (fun h6_ => ?_)
      ·
        refine v_iload hX dX3_value_79 rfl ?_
        refine u_if_ge hX (tgt := 99) dX3_value_81 (by decide) ⟨by omega, by omega⟩ (fun h7_ => ?_) (fun h7_ => ?_)
        ·
          refine v_iinc hX (v := iI (i + 1)) (lv' := [(4, .int (iI (i + 1))), (5, .int (iI v5_)), (3, .int (iI sum)), (0, .ref (x + 11)), (1, .int (iI e)), (2, .int (iI pl))]) dX3_value_99 rfl (iI_add _ _) (by rw [hnL]; decide) rfl ?_
          refine v_goto hX (tgt := 37) dX3_value_102 (by decide) ?_
          refine v_locals (lv' := [(4, .int (iI (i + 1))), (3, .int (iI sum)), (0, .ref (x + 11)), (1, .int (iI e)), (2, .int (iI pl))]) (by simp) ?_
          exact ih37 _ (by omega) (i + 1) sum (by omega) rfl
        ·
          refine v_iload_n hX dX3_value_84 (i := 3) rfl rfl ?_
          refine v_aload_n hX dX3_value_85 (i := 0) rfl rfl ?_
          refine v_get hX (ci := 2) (k := 0) (cs_k_11 h) bc_2 (by decide) (by decide) in_2 w_1_105 dX3_value_86 (mvP (f := 200) (q := (x + 6)) rfl rfl (cs_p_200 h)) ?_
          refine v_iload hX dX3_value_89 rfl ?_
          refine u_ineg hX dX3_value_91 ?_
          obtain ⟨v8_, e_v8_, b_v8_⟩ := i_ex (iI (-v5_))
          rw [e_v8_]
          refine v_iconst hX (v := iI 1) dX3_value_92 rfl ?_
          refine u_isub hX dX3_value_93 ?_
          obtain ⟨v9_, e_v9_, b_v9_⟩ := i_ex (iI (v8_ - 1))
          rw [e_v9_]
          refine v_callV hX (n := 1) (t_N_value (S := S) (x := x) (w := w) (id := v9_) h ⟨by omega, by omega⟩) (cs_k_6 h) bc_5 (by decide) w_4_122 w_4_123 w_4_124 w_1_4 w_4_125 (by decide +kernel) rfl ⟨by decide, by decide⟩ ⟨by omega, by omega⟩ (Nat.le_of_ble_eq_true rfl) rfl dX3_value_94 (fun _ _ _ q => q) ?_
          rintro r10_ S10_ z10_ ⟨rfl, rfl, v11_, rfl, b_v11_, q10_⟩
          refine u_isub hX dX3_value_97 ?_
          obtain ⟨v12_, e_v12_, b_v12_⟩ := i_ex (iI (sum - v11_))
          rw [e_v12_]
          refine v_istore_n hX (lv' := [(3, .int (iI v12_)), (5, .int (iI v5_)), (4, .int (iI i)), (0, .ref (x + 11)), (1, .int (iI e)), (2, .int (iI pl))]) dX3_value_98 (i := 3) rfl (by rw [hnL]; decide) rfl ?_
          refine v_iinc hX (v := iI (i + 1)) (lv' := [(4, .int (iI (i + 1))), (3, .int (iI v12_)), (5, .int (iI v5_)), (0, .ref (x + 11)), (1, .int (iI e)), (2, .int (iI pl))]) dX3_value_99 rfl (iI_add _ _) (by rw [hnL]; decide) rfl ?_
          refine v_goto hX (tgt := 37) dX3_value_102 (by decide) ?_
          refine v_locals (lv' := [(4, .int (iI (i + 1))), (3, .int (iI v12_)), (0, .ref (x + 11)), (1, .int (iI e)), (2, .int (iI pl))]) (by simp) ?_
          exact ih37 _ (by omega) (i + 1) v12_ (by omega) rfl
      ·
        refine v_iload_n hX dX3_value_62 (i := 3) rfl rfl ?_
        refine v_aload_n hX dX3_value_63 (i := 0) rfl rfl ?_
        refine v_get hX (ci := 2) (k := 0) (cs_k_11 h) bc_2 (by decide) (by decide) in_2 w_1_105 dX3_value_64 (mvP (f := 200) (q := (x + 6)) rfl rfl (cs_p_200 h)) ?_
        refine v_iload hX dX3_value_67 rfl ?_
        refine v_iconst hX (v := iI 1) dX3_value_69 rfl ?_
        refine u_isub hX dX3_value_70 ?_
        obtain ⟨v13_, e_v13_, b_v13_⟩ := i_ex (iI (v5_ - 1))
        rw [e_v13_]
        refine v_callV hX (n := 1) (t_N_value (S := S) (x := x) (w := w) (id := v13_) h ⟨by omega, by omega⟩) (cs_k_6 h) bc_5 (by decide) w_4_122 w_4_123 w_4_124 w_1_4 w_4_125 (by decide +kernel) rfl ⟨by decide, by decide⟩ ⟨by omega, by omega⟩ (Nat.le_of_ble_eq_true rfl) rfl dX3_value_71 (fun _ _ _ q => q) ?_
        rintro r14_ S14_ z14_ ⟨rfl, rfl, v15_, rfl, b_v15_, q14_⟩
        refine u_iadd hX dX3_value_74 ?_
        obtain ⟨v16_, e_v16_, b_v16_⟩ := i_ex (iI (sum + v15_))
        rw [e_v16_]
        refine v_istore_n hX (lv' := [(3, .int (iI v16_)), (5, .int (iI v5_)), (4, .int (iI i)), (0, .ref (x + 11)), (1, .int (iI e)), (2, .int (iI pl))]) dX3_value_75 (i := 3) rfl (by rw [hnL]; decide) rfl ?_
        refine v_goto hX (tgt := 99) dX3_value_76 (by decide) ?_
        refine v_iinc hX (v := iI (i + 1)) (lv' := [(4, .int (iI (i + 1))), (3, .int (iI v16_)), (5, .int (iI v5_)), (0, .ref (x + 11)), (1, .int (iI e)), (2, .int (iI pl))]) dX3_value_99 rfl (iI_add _ _) (by rw [hnL]; decide) rfl ?_
        refine v_goto hX (tgt := 37) dX3_value_102 (by decide) ?_
        refine v_locals (lv' := [(4, .int (iI (i + 1))), (3, .int (iI v16_)), (0, .ref (x + 11)), (1, .int (iI e)), (2, .int (iI pl))]) (by simp) ?_
        exact ih37 _ (by omega) (i + 1) v16_ (by omega) rfl
  change b_V X S z 0 0 0 [(0, .ref (x + 11)), (1, .int (iI e)), (2, .int (iI pl))] []
  refine v_iload_n hX dX3_value_0 (i := 1) rfl rfl ?_
  refine u_if_lt hX (tgt := 12) dX3_value_1 (by decide) ⟨by omega, by omega⟩ (fun h17_ => ?_) (fun h17_ => ?_)
  ·
    refine v_iconst hX (v := iI 0) dX3_value_12 rfl ?_
    exact v_ireturn hX hE dX3_value_13 (by omega) (by omega) ⟨rfl, rfl, 0, rfl, ⟨by omega, by omega⟩, trivial⟩
  ·
    refine v_iload_n hX dX3_value_4 (i := 1) rfl rfl ?_
    refine v_aload_n hX dX3_value_5 (i := 0) rfl rfl ?_
    refine v_get hX (ci := 2) (k := 5) (cs_k_11 h) bc_2 (by decide) (by decide) in_2 w_1_110 dX3_value_6 (mvF (f := 205) (v := iI he) rfl rfl (by simp (disch := omega) only [y_I_s_I, x_I_s_I, z_I_s_J, z_I_s_A, z_I_s_B, z_I_s_P, e_he])) ?_
    refine u_icmp_lt hX (tgt := 14) dX3_value_9 (by decide) ⟨by omega, by omega⟩ ⟨by omega, by omega⟩ (fun h18_ => ?_) (fun h18_ => ?_)
    ·
      refine v_aload_n hX dX3_value_14 (i := 0) rfl rfl ?_
      refine v_get hX (ci := 2) (k := 1) (cs_k_11 h) bc_2 (by decide) (by decide) in_2 w_1_106 dX3_value_15 (mvP (f := 201) (q := (x + 12)) rfl rfl (cs_p_201 h)) ?_
      refine v_iload_n hX dX3_value_18 (i := 1) rfl rfl ?_
      refine u_iald hX (L := 3208) (cs_k_12 h) (cs_l_12 h) ⟨by omega, by omega⟩ (by decide) dX3_value_19 (fun v19_ e_v19_ b_v19_ => ?_)
      refine v_aload_n hX dX3_value_20 (i := 0) rfl rfl ?_
      refine v_get hX (ci := 2) (k := 2) (cs_k_11 h) bc_2 (by decide) (by decide) in_2 w_1_107 dX3_value_21 (mvP (f := 202) (q := (x + 13)) rfl rfl (cs_p_202 h)) ?_
      refine v_iload_n hX dX3_value_24 (i := 1) rfl rfl ?_
      refine u_iald hX (L := 3208) (cs_k_13 h) (cs_l_13 h) ⟨by omega, by omega⟩ (by decide) dX3_value_25 (fun v20_ e_v20_ b_v20_ => ?_)
      refine v_iload_n hX dX3_value_26 (i := 2) rfl rfl ?_
      refine u_imul hX dX3_value_27 ?_
      obtain ⟨v21_, e_v21_, b_v21_⟩ := i_ex (iI (v20_ * pl))
      rw [e_v21_]
      refine u_iadd hX dX3_value_28 ?_
      obtain ⟨v22_, e_v22_, b_v22_⟩ := i_ex (iI (v19_ + v21_))
      rw [e_v22_]
      refine v_istore_n hX (lv' := [(3, .int (iI v22_)), (0, .ref (x + 11)), (1, .int (iI e)), (2, .int (iI pl))]) dX3_value_29 (i := 3) rfl (by rw [hnL]; decide) rfl ?_
      refine v_aload_n hX dX3_value_30 (i := 0) rfl rfl ?_
      refine v_iload_n hX dX3_value_31 (i := 1) rfl rfl ?_
      refine v_callV hX (n := 1) (t_X_firstTerm (S := S) (x := x) (w := w) (e := e) (he := he) h (by simp (disch := omega) only [y_I_s_I, x_I_s_I, z_I_s_J, z_I_s_A, z_I_s_B, z_I_s_P, e_he]) ⟨by omega, by omega⟩ ⟨by omega, by omega⟩ ef (by omega)) (cs_k_11 h) bc_2 (by decide) w_5_79 w_5_81 (bw_p (q := (yX3_firstTerm, 8)) (List.mem_of_getElem? (i := 33) rfl) rfl) w_1_6 w_5_82 (by decide +kernel) rfl ⟨by decide, by decide⟩ ⟨by omega, by omega⟩ (Nat.le_of_ble_eq_true rfl) rfl dX3_value_32 (fun _ _ _ q => q) ?_
      rintro r23_ S23_ z23_ ⟨rfl, rfl, v24_, rfl, b_v24_, q23_⟩
      refine v_istore hX (lv' := [(4, .int (iI v24_)), (3, .int (iI v22_)), (0, .ref (x + 11)), (1, .int (iI e)), (2, .int (iI pl))]) dX3_value_35 (by rw [hnL]; decide) rfl ?_
      exact L37 _ v24_ v22_ (by omega) rfl
    ·
      refine v_iconst hX (v := iI 0) dX3_value_12 rfl ?_
      exact v_ireturn hX hE dX3_value_13 (by omega) (by omega) ⟨rfl, rfl, 0, rfl, ⟨by omega, by omega⟩, trivial⟩
set_option maxRecDepth 100000 in
set_option maxHeartbeats 4000000 in
theorem t_X_resolve {kn : Nat → Nat} {B : Nat} {S : b_M} {z x w : Nat} {ht : Int} {tm Ltm : Nat} (h : cS S x) (e_ht : m_I S 206 (x + 11) = iI ht) (b_ht : -2147483648 ≤ ht ∧ ht < 2147483648) (e_tm : m_P S 204 (x + 11) = some tm) (k_tm : m_K S tm = 14) (l_tm : m_L S tm = Ltm) (c_tm : (Ltm : Int) ≤ 2097152) (nk : nOk S x) (fp_tm : (x ≤ tm ∧ tm < x + 457) ∨ w ≤ tm) (p : 0 ≤ ht ∧ ht ≤ (Ltm : Int)) : b_C kn B yX3_resolve cX3_resolve 5 none 1 24 0 0 [.ref (x + 11)] S z (fun r S' z' => z = z' ∧ cFr [] [] [] w S S' x ∧ r = none ∧ (True)) (fun _ _ _ => False) := by
  refine b_enter (by decide) (Nat.le_of_ble_eq_true rfl) ?_
  intro X hX hE hnL hkn hB hI_
  subst hkn; subst hB
  clear hI_
  have L2 : ∀ (n2 : Nat) (S2c : b_M) (i : Int), cFr [] [] [] w S S2c x → (0 ≤ i ∧ i ≤ ht) → (nOk S2c x) → (ht - i).toNat = n2 → b_V X S2c z 0 0 2 [(1, .int (iI i)), (0, .ref (x + 11))] [] := by
    intro n2
    induction n2 using Nat.strongRecOn with
    | _ n2 ih2 =>
    intro S2c i fr2 p2_0 p2_1 hm2
    have h2c : cS S2c x := fr2.keep (by decide) h
    have e2_ht : m_I S2c 206 (x + 11) = iI ht := (fr2.2.1 206 (by decide) _).trans e_ht
    have k2_tm : m_K S2c tm = 14 := (fr2.2.2.2.2 _ (by rw [k_tm]; decide)).1.trans k_tm
    have l2_tm : m_L S2c tm = Ltm := (fr2.2.2.2.2 _ (by rw [k_tm]; decide)).2.1.trans l_tm
    have e2_tm : m_P S2c 204 (x + 11) = some tm := (fr2.2.2.1 204 (by decide) _).trans e_tm
    refine v_iload_n hX dX3_resolve_2 (i := 1) rfl rfl ?_
    refine v_aload_n hX dX3_resolve_3 (i := 0) rfl rfl ?_
    refine v_get hX (ci := 2) (k := 6) (cs_k_11 h2c) bc_2 (by decide) (by decide) in_2 w_1_112 dX3_resolve_4 (mvF (f := 206) (v := iI ht) rfl rfl (by simp (disch := omega) only [y_I_s_I, x_I_s_I, z_I_s_J, z_I_s_A, z_I_s_B, z_I_s_P, e2_ht])) ?_
    refine u_icmp_ge hX (tgt := 67) dX3_resolve_7 (by decide) ⟨by omega, by omega⟩ ⟨by omega, by omega⟩ (fun h1_ => ?_) (fun h1_ => ?_)
    ·
      exact v_return hX hE dX3_resolve_67 (by omega) (by omega) ⟨rfl, fr2, rfl, trivial⟩
    ·
      refine v_aload_n hX dX3_resolve_10 (i := 0) rfl rfl ?_
      refine v_get hX (ci := 2) (k := 4) (cs_k_11 h2c) bc_2 (by decide) (by decide) in_2 w_1_109 dX3_resolve_11 (mvP (f := 204) (q := tm) rfl rfl (by simp (disch := omega) only [y_P_s_P, x_P_s_P, z_P_s_I, z_P_s_J, z_P_s_A, z_P_s_B, e2_tm])) ?_
      refine v_iload_n hX dX3_resolve_14 (i := 1) rfl rfl ?_
      refine u_lald hX (L := Ltm) k2_tm l2_tm ⟨by omega, by omega⟩ (by omega) dX3_resolve_15 (fun v2_ e_v2_ b_v2_ => ?_)
      try simp (disch := omega) only [zr_I, zr_J, zr_B, rA_A, zl_I, zl_J, zl_A, lA_B, zr_P] at e_v2_
      refine u_mabsL hX w_5_43 w_5_44 w_1_15 w_5_45 (by decide) (Nat.le_of_ble_eq_true rfl) (by omega) (by omega) dX3_resolve_16 (fun v3_ q_v3_ b_v3_ => ?_)
      refine v_lstore_n hX (lv' := [(2, .long (jJ v3_)), (1, .int (iI i)), (0, .ref (x + 11))]) dX3_resolve_19 (i := 2) rfl (by rw [hnL]; decide) rfl ?_
      refine v_aload_n hX dX3_resolve_20 (i := 0) rfl rfl ?_
      refine v_get hX (ci := 2) (k := 0) (cs_k_11 h2c) bc_2 (by decide) (by decide) in_2 w_1_105 dX3_resolve_21 (mvP (f := 200) (q := (x + 6)) rfl rfl (cs_p_200 h2c)) ?_
      refine v_lload_n hX dX3_resolve_24 (i := 2) rfl rfl ?_
      refine v_callV hX (n := 1) (t_N_find (S := S2c) (x := x) (w := w) (v := v3_) h2c ⟨by omega, by omega⟩ (p2_1)) (cs_k_6 h2c) bc_5 (by decide) w_4_113 w_4_114 w_4_115 w_1_4 w_4_116 (by decide +kernel) rfl ⟨by decide, by decide⟩ ⟨by omega, by omega⟩ (Nat.le_of_ble_eq_true rfl) rfl dX3_resolve_25 (fun _ _ _ q => q) ?_
      rintro r4_ S4_ z4_ ⟨rfl, rfl, v5_, rfl, b_v5_, q4_⟩
      refine v_istore hX (lv' := [(4, .int (iI v5_)), (2, .long (jJ v3_)), (1, .int (iI i)), (0, .ref (x + 11))]) dX3_resolve_28 (by rw [hnL]; decide) rfl ?_
      refine v_aload_n hX dX3_resolve_30 (i := 0) rfl rfl ?_
      refine v_get hX (ci := 2) (k := 4) (cs_k_11 h2c) bc_2 (by decide) (by decide) in_2 w_1_109 dX3_resolve_31 (mvP (f := 204) (q := tm) rfl rfl (by simp (disch := omega) only [y_P_s_P, x_P_s_P, z_P_s_I, z_P_s_J, z_P_s_A, z_P_s_B, e2_tm])) ?_
      refine v_iload_n hX dX3_resolve_34 (i := 1) rfl rfl ?_
      refine v_aload_n hX dX3_resolve_35 (i := 0) rfl rfl ?_
      refine v_get hX (ci := 2) (k := 4) (cs_k_11 h2c) bc_2 (by decide) (by decide) in_2 w_1_109 dX3_resolve_36 (mvP (f := 204) (q := tm) rfl rfl (by simp (disch := omega) only [y_P_s_P, x_P_s_P, z_P_s_I, z_P_s_J, z_P_s_A, z_P_s_B, e2_tm])) ?_
      refine v_iload_n hX dX3_resolve_39 (i := 1) rfl rfl ?_
      refine u_lald hX (L := Ltm) k2_tm l2_tm ⟨by omega, by omega⟩ (by omega) dX3_resolve_40 (fun v6_ e_v6_ b_v6_ => ?_)
      try simp (disch := omega) only [zr_I, zr_J, zr_B, rA_A, zl_I, zl_J, zl_A, lA_B, zr_P] at e_v6_
      refine v_lconst hX (v := jJ 0) dX3_resolve_41 rfl ?_
      refine u_lcmp hX dX3_resolve_42 ⟨by omega, by omega⟩ ⟨by omega, by omega⟩ (fun v7_ b_v7_ c_v7_ => ?_)
      refine u_if_ge hX (tgt := 55) dX3_resolve_43 (by decide) ⟨by omega, by omega⟩ (fun h8_ => ?_) (fun h8_ => ?_)
      ·
        refine v_iload hX dX3_resolve_55 rfl ?_
        refine v_iconst hX (v := iI 1) dX3_resolve_57 rfl ?_
        refine u_iadd hX dX3_resolve_58 ?_
        refine u_i2l hX dX3_resolve_59 ⟨by omega, by omega⟩ ?_
        refine u_last hX (L := Ltm) k2_tm l2_tm ⟨by omega, by omega⟩ (by omega) dX3_resolve_60 ?_
        refine v_iinc hX (v := iI (i + 1)) (lv' := [(1, .int (iI (i + 1))), (4, .int (iI v5_)), (2, .long (jJ v3_)), (0, .ref (x + 11))]) dX3_resolve_61 rfl (iI_add _ _) (by rw [hnL]; decide) rfl ?_
        refine v_goto hX (tgt := 2) dX3_resolve_64 (by decide) ?_
        refine v_locals (lv' := [(1, .int (iI (i + 1))), (0, .ref (x + 11))]) (by simp) ?_
        exact ih2 _ (by omega) _ (i + 1) (fr2.sB fp_tm) (by omega) (nOk.fr p2_1 h2c (show cFr [] [] [] w S2c (s_B S2c tm i.toNat (jJ (v5_ + 1))) x from ((cFr.rf _ _).sB fp_tm)) (by decide)) rfl
      ·
        refine v_iload hX dX3_resolve_46 rfl ?_
        refine v_iconst hX (v := iI 1) dX3_resolve_48 rfl ?_
        refine u_iadd hX dX3_resolve_49 ?_
        refine u_ineg hX dX3_resolve_50 ?_
        refine u_i2l hX dX3_resolve_51 ⟨by omega, by omega⟩ ?_
        refine v_goto hX (tgt := 60) dX3_resolve_52 (by decide) ?_
        refine u_last hX (L := Ltm) k2_tm l2_tm ⟨by omega, by omega⟩ (by omega) dX3_resolve_60 ?_
        refine v_iinc hX (v := iI (i + 1)) (lv' := [(1, .int (iI (i + 1))), (4, .int (iI v5_)), (2, .long (jJ v3_)), (0, .ref (x + 11))]) dX3_resolve_61 rfl (iI_add _ _) (by rw [hnL]; decide) rfl ?_
        refine v_goto hX (tgt := 2) dX3_resolve_64 (by decide) ?_
        refine v_locals (lv' := [(1, .int (iI (i + 1))), (0, .ref (x + 11))]) (by simp) ?_
        exact ih2 _ (by omega) _ (i + 1) (fr2.sB fp_tm) (by omega) (nOk.fr p2_1 h2c (show cFr [] [] [] w S2c (s_B S2c tm i.toNat (jJ (-(v5_ + 1)))) x from ((cFr.rf _ _).sB fp_tm)) (by decide)) rfl
  change b_V X S z 0 0 0 [(0, .ref (x + 11))] []
  refine v_iconst hX (v := iI 0) dX3_resolve_0 rfl ?_
  refine v_istore_n hX (lv' := [(1, .int (iI 0)), (0, .ref (x + 11))]) dX3_resolve_1 (i := 1) rfl (by rw [hnL]; decide) rfl ?_
  exact L2 _ _ 0 (cFr.rf _ _) (by omega) nk rfl
