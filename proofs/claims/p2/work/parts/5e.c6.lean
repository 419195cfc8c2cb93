set_option maxRecDepth 100000 in
set_option maxHeartbeats 4000000 in
theorem j_copyOf {kn : Nat → Nat} {B : Nat} {S : b_M} {z x w : Nat} {src L : Nat} {n : Int} (k_src : m_K S src = 14) (l_src : m_L S src = L) (hn : (L : Int) < n ∧ n ≤ 65536) (zw : x + 457 ≤ w ∧ w ≤ z) : b_C kn B yJ7_copyOf_c38d5 cJ7_copyOf_c38d5 3 (some (.array .long)) 1 40 1 n.toNat [.ref src, .int (iI n)] S z (fun r S' z' => z + 1 = z' ∧ cFr [] [] [] w S S' x ∧ r = some (.ref z) ∧ m_K S' z = 14 ∧ m_L S' z = n.toNat) (fun _ _ _ => False) := by
  refine b_enter (by decide) (Nat.le_of_ble_eq_true rfl) ?_
  intro X hX hE hnL hkn hB hI_
  subst hkn; subst hB
  clear hI_
  change b_V X S z 0 0 0 [(0, .ref src), (1, .int (iI n))] []
  refine v_fresh (fun hf => ?_)
  have hz := hf src (by rw [k_src]; decide)
  refine v_iload_n hX dJ7_copyOf_c38d5_0 (i := 1) rfl rfl ?_
  refine v_aload_n hX dJ7_copyOf_c38d5_1 (i := 0) rfl rfl ?_
  refine u_alen hX (L := L) (t0 := 2) (ty := .long) k_src ⟨by decide, by decide⟩ (fun _ => rfl) l_src dJ7_copyOf_c38d5_2 ?_
  refine u_icmp_ne hX (tgt := 14) dJ7_copyOf_c38d5_3 (by decide) ⟨by omega, by omega⟩ ⟨by omega, by omega⟩ (fun h1 => ?_) (fun h1 => False.elim (by omega))
  refine v_iload_n hX dJ7_copyOf_c38d5_14 (i := 1) rfl rfl ?_
  refine v_newa_l hX (N := n.toNat) w_1_98 dJ7_copyOf_c38d5_15 (fun q => by
    have h8 := Int32.lt_iff_toInt_lt.mp q
    have h9 : (0 : Int32).toInt = 0 := by decide
    rw [iI_to ⟨by omega, by omega⟩, h9] at h8
    omega) (iI_clamp ⟨by omega, by omega⟩) (by show n.toNat * 8 ≤ _; omega) (by omega) (by omega) ?_
  have k1 : m_K (n_A S z 14 n.toNat) src = 14 := (x_K_n_A _ _ _ _ _ (by omega)).trans k_src
  have l1 : m_L (n_A S z 14 n.toNat) src = L := (x_L_n_A _ _ _ _ _ (by omega)).trans l_src
  have kz : m_K (n_A S z 14 n.toNat) z = 14 := by rw [q_K_n_A, if_pos rfl]
  have lz : m_L (n_A S z 14 n.toNat) z = n.toNat := by rw [q_L_n_A, if_pos rfl]
  refine v_astore_n hX (lv' := [(2, .ref z), (0, .ref src), (1, .int (iI n))]) dJ7_copyOf_c38d5_17 (i := 2) rfl (by rw [hnL]; decide) rfl ?_
  refine v_aload_n hX dJ7_copyOf_c38d5_18 (i := 0) rfl rfl ?_
  refine v_iconst hX (v := iI 0) dJ7_copyOf_c38d5_19 rfl ?_
  refine v_aload_n hX dJ7_copyOf_c38d5_20 (i := 2) rfl rfl ?_
  refine v_iconst hX (v := iI 0) dJ7_copyOf_c38d5_21 rfl ?_
  refine v_aload_n hX dJ7_copyOf_c38d5_22 (i := 0) rfl rfl ?_
  refine u_alen hX (L := L) (t0 := 2) (ty := .long) k1 ⟨by decide, by decide⟩ (fun _ => rfl) l1 dJ7_copyOf_c38d5_23 ?_
  refine v_iload_n hX dJ7_copyOf_c38d5_24 (i := 1) rfl rfl ?_
  refine u_mmin hX w_4_137 w_2_122 w_1_15 w_2_123 (by decide) (Nat.le_of_ble_eq_true rfl) (by omega) (by omega) ⟨by omega, by omega⟩ ⟨by omega, by omega⟩ dJ7_copyOf_c38d5_25 (fun q hq bq => ?_)
  refine w_acopyL hX (src := src) (dst := z) (n := q) k1 kz ⟨⟨by omega, by rw [l1]; omega⟩, by rw [lz]; omega, by omega⟩ w_4_138 w_4_140 w_4_139 w_1_27 (by decide) (Nat.le_of_ble_eq_true rfl) dJ7_copyOf_c38d5_28 (fun g hg => ?_)
  refine v_aload_n hX dJ7_copyOf_c38d5_31 (i := 2) rfl rfl ?_
  exact v_areturn hX (Or.inr ⟨_, rfl⟩) hE dJ7_copyOf_c38d5_32 (by omega) (by omega) ⟨rfl, ((cFr.rf _ _).nA zw.2 (by omega) hf).rB (Or.inr zw.2), rfl, kz, lz⟩
set_option maxRecDepth 100000 in
set_option maxHeartbeats 4000000 in
theorem t_X_addName {kn : Nat → Nat} {B : Nat} {S : b_M} {z x w : Nat} {v : Int} {sg : Int} {he : Int} {ht : Int} {tm Ltm : Nat} {mc ms : Nat} (h : cS S x) (e_he : m_I S 205 (x + 11) = iI he) (b_he : -2147483648 ≤ he ∧ he < 2147483648) (e_ht : m_I S 206 (x + 11) = iI ht) (b_ht : -2147483648 ≤ ht ∧ ht < 2147483648) (e_tm : m_P S 204 (x + 11) = some tm) (k_tm : m_K S tm = 14) (l_tm : m_L S tm = Ltm) (c_tm : (Ltm : Int) ≤ 2097152) (b_v : -9223372036854775808 ≤ v ∧ v < 9223372036854775808) (b_sg : -2147483648 ≤ sg ∧ sg < 2147483648) (fp_tm : inW x w tm) (g_gN : gN S x) (rm_ : 131072 - 2 * (Ltm : Int) ≤ (ms : Int) ∧ 131072 - 2 * (Ltm : Int) ≤ 256 * (mc : Int)) (zw : x + 457 ≤ w ∧ w ≤ z) (p : (0 ≤ he ∧ he ≤ 3207) ∧ 0 ≤ ht ∧ ht ≤ (Ltm : Int) ∧ 256 ≤ (Ltm : Int) ∧ (Ltm : Int) ≤ 65536) : a_C kn B yX3_addName cX3_addName 5 none 2 62 mc ms [.ref (x + 11), .long (jJ v), .int (iI sg)] S z (fun r S' z' uc us => z ≤ z' ∧ cFr [206, 207] [204] [12] w S S' x ∧ ∃ t1 : Int, ∃ tm1 Ltm1 : Nat, r = none ∧ m_I S' 206 (x + 11) = iI t1 ∧ (-2147483648 ≤ t1 ∧ t1 < 2147483648) ∧ m_P S' 204 (x + 11) = some tm1 ∧ m_K S' tm1 = 14 ∧ m_L S' tm1 = Ltm1 ∧ (Ltm1 : Int) ≤ 2097152 ∧ ((us : Int) ≤ 2 * ((Ltm1 : Int) - (Ltm : Int)) ∧ 256 * (uc : Int) ≤ (us : Int)) ∧ (0 ≤ t1 ∧ t1 ≤ (Ltm1 : Int) ∧ (Ltm : Int) ≤ (Ltm1 : Int) ∧ (Ltm1 : Int) ≤ 65536) ∧ (inW x w tm1)) (fun _ _ _ _ _ => False) := by
  refine a_enter (by decide) (Nat.le_of_ble_eq_true rfl) ?_
  intro X hX hE hnL hkn hB hI_
  subst hkn; subst hB
  clear hI_
  change b_V X S z 0 0 0 [(0, .ref (x + 11)), (1, .long (jJ v)), (3, .int (iI sg))] []
  refine v_aload_n hX dX3_addName_0 (i := 0) rfl rfl ?_
  refine v_get hX (ci := 2) (k := 0) (cs_k_11 h) bc_2 (by decide) (by decide) in_2 w_1_105 dX3_addName_1 (mvP (f := 200) (q := (x + 6)) rfl rfl (cs_p_200 h)) ?_
  refine v_lload_n hX dX3_addName_4 (i := 1) rfl rfl ?_
  refine v_callV hX (n := 1) (g_N_find (S := S) (x := x) (w := w) (v := v) h ⟨by omega, by omega⟩ g_gN) (cs_k_6 h) bc_5 (by decide) w_4_113 w_4_114 w_4_115 w_1_4 w_4_116 (by decide +kernel) rfl ⟨by decide, by decide⟩ ⟨by omega, by omega⟩ (Nat.le_of_ble_eq_true rfl) rfl dX3_addName_5 (fun _ _ _ q => q) ?_
  rintro r1_ S1_ z1_ ⟨rfl, rfl, v2_, rfl, b_v2_, q1_⟩
  refine v_istore hX (lv' := [(4, .int (iI v2_)), (0, .ref (x + 11)), (1, .long (jJ v)), (3, .int (iI sg))]) dX3_addName_8 (by rw [hnL]; decide) rfl ?_
  refine v_aload_n hX dX3_addName_10 (i := 0) rfl rfl ?_
  refine v_get hX (ci := 2) (k := 0) (cs_k_11 h) bc_2 (by decide) (by decide) in_2 w_1_105 dX3_addName_11 (mvP (f := 200) (q := (x + 6)) rfl rfl (cs_p_200 h)) ?_
  refine v_iload hX dX3_addName_14 rfl ?_
  refine v_callV hX (n := 1) (t_N_isSet (S := S) (x := x) (w := w) (id := v2_) h ⟨by omega, by omega⟩) (cs_k_6 h) bc_5 (by decide) w_4_118 w_4_119 w_4_120 w_1_4 w_4_121 (by decide +kernel) rfl ⟨by decide, by decide⟩ ⟨by omega, by omega⟩ (Nat.le_of_ble_eq_true rfl) rfl dX3_addName_16 (fun _ _ _ q => q) ?_
  rintro r3_ S3_ z3_ ⟨rfl, rfl, v4_, rfl, b_v4_, q3_⟩
  refine u_if_eq hX (tgt := 46) dX3_addName_19 (by decide) ⟨by omega, by omega⟩ (fun h5_ => ?_) (fun h5_ => ?_)
  ·
    refine v_aload_n hX dX3_addName_46 (i := 0) rfl rfl ?_
    refine v_iconst hX (v := iI 0) dX3_addName_47 rfl ?_
    refine v_putI hX (ci := 2) (k := 7) (f := 207) (cs_k_11 h) bc_2 (by decide) (by decide) in_2 tyX3_ok nmX3 w_1_113 (Or.inl rfl) (nar_b (by omega)) (fit_b (by omega)) dX3_addName_48 rfl rfl ?_
    refine v_aload_n hX dX3_addName_51 (i := 0) rfl rfl ?_
    refine v_get hX (ci := 2) (k := 6) (cs_k_11 (cS.sI h)) bc_2 (by decide) (by decide) in_2 w_1_112 dX3_addName_52 (mvF (f := 206) (v := iI ht) rfl rfl (by simp (disch := omega) only [y_I_s_I, x_I_s_I, z_I_s_J, z_I_s_A, z_I_s_B, z_I_s_P, e_he, e_ht])) ?_
    refine v_aload_n hX dX3_addName_55 (i := 0) rfl rfl ?_
    refine v_get hX (ci := 2) (k := 4) (cs_k_11 (cS.sI h)) bc_2 (by decide) (by decide) in_2 w_1_109 dX3_addName_56 (mvP (f := 204) (q := tm) rfl rfl (by simp (disch := omega) only [y_P_s_P, x_P_s_P, z_P_s_I, z_P_s_J, z_P_s_A, z_P_s_B, e_tm])) ?_
    refine u_alen hX (L := Ltm) (t0 := 2) (ty := .long) k_tm ⟨by decide, by decide⟩ (fun _ => rfl) l_tm dX3_addName_59 ?_
    refine u_icmp_ne hX (tgt := 90) dX3_addName_60 (by decide) ⟨by omega, by omega⟩ ⟨by omega, by omega⟩ (fun h6_ => ?_) (fun h6_ => ?_)
    ·
      refine v_aload_n hX dX3_addName_90 (i := 0) rfl rfl ?_
      refine v_get hX (ci := 2) (k := 6) (cs_k_11 (cS.sI h)) bc_2 (by decide) (by decide) in_2 w_1_112 dX3_addName_91 (mvF (f := 206) (v := iI ht) rfl rfl (by simp (disch := omega) only [y_I_s_I, x_I_s_I, z_I_s_J, z_I_s_A, z_I_s_B, z_I_s_P, e_he, e_ht])) ?_
      refine v_aload_n hX dX3_addName_94 (i := 0) rfl rfl ?_
      refine v_get hX (ci := 2) (k := 4) (cs_k_11 (cS.sI h)) bc_2 (by decide) (by decide) in_2 w_1_109 dX3_addName_95 (mvP (f := 204) (q := tm) rfl rfl (by simp (disch := omega) only [y_P_s_P, x_P_s_P, z_P_s_I, z_P_s_J, z_P_s_A, z_P_s_B, e_tm])) ?_
      refine u_alen hX (L := Ltm) (t0 := 2) (ty := .long) k_tm ⟨by decide, by decide⟩ (fun _ => rfl) l_tm dX3_addName_98 ?_
      refine u_icmp_ge hX (tgt := 125) dX3_addName_99 (by decide) ⟨by omega, by omega⟩ ⟨by omega, by omega⟩ (fun h7_ => ?_) (fun h7_ => ?_)
      ·
        exact w_return hX hE dX3_addName_125 ⟨(by omega), ((cFr.rf _ _).sI (by decide) ⟨by omega, by omega⟩), ht, tm, Ltm, rfl, (by simp (disch := omega) only [y_I_s_I, x_I_s_I, z_I_s_J, z_I_s_A, z_I_s_B, z_I_s_P, e_he, e_ht]), ⟨by omega, by omega⟩, (by simp (disch := omega) only [y_P_s_P, x_P_s_P, z_P_s_I, z_P_s_J, z_P_s_A, z_P_s_B, e_tm]), k_tm, l_tm, (by omega), (by omega), (by omega), fp_tm⟩
      ·
        refine v_aload_n hX dX3_addName_102 (i := 0) rfl rfl ?_
        refine v_get hX (ci := 2) (k := 4) (cs_k_11 (cS.sI h)) bc_2 (by decide) (by decide) in_2 w_1_109 dX3_addName_103 (mvP (f := 204) (q := tm) rfl rfl (by simp (disch := omega) only [y_P_s_P, x_P_s_P, z_P_s_I, z_P_s_J, z_P_s_A, z_P_s_B, e_tm])) ?_
        refine v_aload_n hX dX3_addName_106 (i := 0) rfl rfl ?_
        refine v_get hX (ci := 2) (k := 6) (cs_k_11 (cS.sI h)) bc_2 (by decide) (by decide) in_2 w_1_112 dX3_addName_107 (mvF (f := 206) (v := iI ht) rfl rfl (by simp (disch := omega) only [y_I_s_I, x_I_s_I, z_I_s_J, z_I_s_A, z_I_s_B, z_I_s_P, e_he, e_ht])) ?_
        refine v_iload_n hX dX3_addName_110 (i := 3) rfl rfl ?_
        refine u_i2l hX dX3_addName_111 ⟨by omega, by omega⟩ ?_
        refine v_lload_n hX dX3_addName_112 (i := 1) rfl rfl ?_
        refine u_lmul hX dX3_addName_113 ?_
        obtain ⟨v8_, e_v8_, b_v8_⟩ := j_ex (jJ (sg * v))
        rw [e_v8_]
        refine u_last hX (L := Ltm) k_tm l_tm ⟨by omega, by omega⟩ (by omega) dX3_addName_114 ?_
        refine v_aload_n hX dX3_addName_115 (i := 0) rfl rfl ?_
        refine v_dup hX dX3_addName_116 rfl ?_
        refine v_get hX (ci := 2) (k := 6) (cs_k_11 (cS.sB (cS.sI h))) bc_2 (by decide) (by decide) in_2 w_1_112 dX3_addName_117 (mvF (f := 206) (v := iI ht) rfl rfl (by simp (disch := omega) only [y_I_s_I, x_I_s_I, z_I_s_J, z_I_s_A, z_I_s_B, z_I_s_P, e_he, e_ht])) ?_
        refine v_iconst hX (v := iI 1) dX3_addName_120 rfl ?_
        refine u_iadd hX dX3_addName_121 ?_
        refine v_putI hX (ci := 2) (k := 6) (f := 206) (cs_k_11 (cS.sB (cS.sI h))) bc_2 (by decide) (by decide) in_2 tyX3_ok nmX3 w_1_112 (Or.inl rfl) rfl rfl dX3_addName_122 rfl rfl ?_
        exact w_return hX hE dX3_addName_125 ⟨(by omega), ((((cFr.rf _ _).sI (by decide) ⟨by omega, by omega⟩).sB fp_tm).sI (by decide) ⟨by omega, by omega⟩), (ht + 1), tm, Ltm, rfl, (by simp (disch := omega) only [y_I_s_I, x_I_s_I, z_I_s_J, z_I_s_A, z_I_s_B, z_I_s_P, e_he, e_ht]), ⟨by omega, by omega⟩, (by simp (disch := omega) only [y_P_s_P, x_P_s_P, z_P_s_I, z_P_s_J, z_P_s_A, z_P_s_B, e_tm]), k_tm, l_tm, (by omega), (by omega), (by omega), fp_tm⟩
    ·
      refine v_aload_n hX dX3_addName_63 (i := 0) rfl rfl ?_
      refine v_get hX (ci := 2) (k := 6) (cs_k_11 (cS.sI h)) bc_2 (by decide) (by decide) in_2 w_1_112 dX3_addName_64 (mvF (f := 206) (v := iI ht) rfl rfl (by simp (disch := omega) only [y_I_s_I, x_I_s_I, z_I_s_J, z_I_s_A, z_I_s_B, z_I_s_P, e_he, e_ht])) ?_
      refine v_ldc hX (v := iI 32768) dX3_addName_67 (show Cond.constant _ _ (iI 32768) ∈ b_Ws from w_4_126) ?_
      refine u_icmp_ge hX (tgt := 90) dX3_addName_69 (by decide) ⟨by omega, by omega⟩ ⟨by omega, by omega⟩ (fun h9_ => ?_) (fun h9_ => ?_)
      ·
        refine v_aload_n hX dX3_addName_90 (i := 0) rfl rfl ?_
        refine v_get hX (ci := 2) (k := 6) (cs_k_11 (cS.sI h)) bc_2 (by decide) (by decide) in_2 w_1_112 dX3_addName_91 (mvF (f := 206) (v := iI ht) rfl rfl (by simp (disch := omega) only [y_I_s_I, x_I_s_I, z_I_s_J, z_I_s_A, z_I_s_B, z_I_s_P, e_he, e_ht])) ?_
        refine v_aload_n hX dX3_addName_94 (i := 0) rfl rfl ?_
        refine v_get hX (ci := 2) (k := 4) (cs_k_11 (cS.sI h)) bc_2 (by decide) (by decide) in_2 w_1_109 dX3_addName_95 (mvP (f := 204) (q := tm) rfl rfl (by simp (disch := omega) only [y_P_s_P, x_P_s_P, z_P_s_I, z_P_s_J, z_P_s_A, z_P_s_B, e_tm])) ?_
        refine u_alen hX (L := Ltm) (t0 := 2) (ty := .long) k_tm ⟨by decide, by decide⟩ (fun _ => rfl) l_tm dX3_addName_98 ?_
        refine u_icmp_ge hX (tgt := 125) dX3_addName_99 (by decide) ⟨by omega, by omega⟩ ⟨by omega, by omega⟩ (fun h10_ => ?_) (fun h10_ => ?_)
        ·
          exact w_return hX hE dX3_addName_125 ⟨(by omega), ((cFr.rf _ _).sI (by decide) ⟨by omega, by omega⟩), ht, tm, Ltm, rfl, (by simp (disch := omega) only [y_I_s_I, x_I_s_I, z_I_s_J, z_I_s_A, z_I_s_B, z_I_s_P, e_he, e_ht]), ⟨by omega, by omega⟩, (by simp (disch := omega) only [y_P_s_P, x_P_s_P, z_P_s_I, z_P_s_J, z_P_s_A, z_P_s_B, e_tm]), k_tm, l_tm, (by omega), (by omega), (by omega), fp_tm⟩
        ·
          refine v_aload_n hX dX3_addName_102 (i := 0) rfl rfl ?_
          refine v_get hX (ci := 2) (k := 4) (cs_k_11 (cS.sI h)) bc_2 (by decide) (by decide) in_2 w_1_109 dX3_addName_103 (mvP (f := 204) (q := tm) rfl rfl (by simp (disch := omega) only [y_P_s_P, x_P_s_P, z_P_s_I, z_P_s_J, z_P_s_A, z_P_s_B, e_tm])) ?_
          refine v_aload_n hX dX3_addName_106 (i := 0) rfl rfl ?_
          refine v_get hX (ci := 2) (k := 6) (cs_k_11 (cS.sI h)) bc_2 (by decide) (by decide) in_2 w_1_112 dX3_addName_107 (mvF (f := 206) (v := iI ht) rfl rfl (by simp (disch := omega) only [y_I_s_I, x_I_s_I, z_I_s_J, z_I_s_A, z_I_s_B, z_I_s_P, e_he, e_ht])) ?_
          refine v_iload_n hX dX3_addName_110 (i := 3) rfl rfl ?_
          refine u_i2l hX dX3_addName_111 ⟨by omega, by omega⟩ ?_
          refine v_lload_n hX dX3_addName_112 (i := 1) rfl rfl ?_
          refine u_lmul hX dX3_addName_113 ?_
          obtain ⟨v11_, e_v11_, b_v11_⟩ := j_ex (jJ (sg * v))
          rw [e_v11_]
          refine u_last hX (L := Ltm) k_tm l_tm ⟨by omega, by omega⟩ (by omega) dX3_addName_114 ?_
          refine v_aload_n hX dX3_addName_115 (i := 0) rfl rfl ?_
          refine v_dup hX dX3_addName_116 rfl ?_
          refine v_get hX (ci := 2) (k := 6) (cs_k_11 (cS.sB (cS.sI h))) bc_2 (by decide) (by decide) in_2 w_1_112 dX3_addName_117 (mvF (f := 206) (v := iI ht) rfl rfl (by simp (disch := omega) only [y_I_s_I, x_I_s_I, z_I_s_J, z_I_s_A, z_I_s_B, z_I_s_P, e_he, e_ht])) ?_
          refine v_iconst hX (v := iI 1) dX3_addName_120 rfl ?_
          refine u_iadd hX dX3_addName_121 ?_
          refine v_putI hX (ci := 2) (k := 6) (f := 206) (cs_k_11 (cS.sB (cS.sI h))) bc_2 (by decide) (by decide) in_2 tyX3_ok nmX3 w_1_112 (Or.inl rfl) rfl rfl dX3_addName_122 rfl rfl ?_
          exact w_return hX hE dX3_addName_125 ⟨(by omega), ((((cFr.rf _ _).sI (by decide) ⟨by omega, by omega⟩).sB fp_tm).sI (by decide) ⟨by omega, by omega⟩), (ht + 1), tm, Ltm, rfl, (by simp (disch := omega) only [y_I_s_I, x_I_s_I, z_I_s_J, z_I_s_A, z_I_s_B, z_I_s_P, e_he, e_ht]), ⟨by omega, by omega⟩, (by simp (disch := omega) only [y_P_s_P, x_P_s_P, z_P_s_I, z_P_s_J, z_P_s_A, z_P_s_B, e_tm]), k_tm, l_tm, (by omega), (by omega), (by omega), fp_tm⟩
      ·
        refine v_aload_n hX dX3_addName_72 (i := 0) rfl rfl ?_
        refine v_aload_n hX dX3_addName_73 (i := 0) rfl rfl ?_
        refine v_get hX (ci := 2) (k := 4) (cs_k_11 (cS.sI h)) bc_2 (by decide) (by decide) in_2 w_1_109 dX3_addName_74 (mvP (f := 204) (q := tm) rfl rfl (by simp (disch := omega) only [y_P_s_P, x_P_s_P, z_P_s_I, z_P_s_J, z_P_s_A, z_P_s_B, e_tm])) ?_
        refine v_iconst hX (v := iI 2) dX3_addName_77 rfl ?_
        refine v_aload_n hX dX3_addName_78 (i := 0) rfl rfl ?_
        refine v_get hX (ci := 2) (k := 4) (cs_k_11 (cS.sI h)) bc_2 (by decide) (by decide) in_2 w_1_109 dX3_addName_79 (mvP (f := 204) (q := tm) rfl rfl (by simp (disch := omega) only [y_P_s_P, x_P_s_P, z_P_s_I, z_P_s_J, z_P_s_A, z_P_s_B, e_tm])) ?_
        refine u_alen hX (L := Ltm) (t0 := 2) (ty := .long) k_tm ⟨by decide, by decide⟩ (fun _ => rfl) l_tm dX3_addName_82 ?_
        refine u_imul hX dX3_addName_83 ?_
        refine v_callS hX (n := 2) (j_copyOf (S := (s_I S 207 (x + 11) (iI 0))) (x := x) (w := w) (src := tm) (L := Ltm) (n := (2 * (Ltm : Int))) k_tm l_tm (by omega) zw) w_4_127 w_4_128 w_1_5 w_4_129 (by decide +kernel) rfl ⟨by decide, by decide⟩ ⟨by omega, by omega⟩ (Nat.le_of_ble_eq_true rfl) rfl dX3_addName_84 (fun _ _ _ q => q) ?_
        rintro r12_ S12_ z12_ ⟨rfl, f12_, rfl, k_z, l_z⟩
        have fp_z : inW x w z := Or.inr zw.2
        have y13_ : m_I S12_ 205 (x + 11) = iI he := (f12_.2.1 205 (by decide) _).trans (by simp (disch := omega) only [y_I_s_I, x_I_s_I, z_I_s_J, z_I_s_A, z_I_s_B, z_I_s_P, e_he, e_ht])
        have y14_ : m_I S12_ 206 (x + 11) = iI ht := (f12_.2.1 206 (by decide) _).trans (by simp (disch := omega) only [y_I_s_I, x_I_s_I, z_I_s_J, z_I_s_A, z_I_s_B, z_I_s_P, e_he, e_ht])
        have y15_ : m_I S12_ 207 (x + 11) = iI 0 := (f12_.2.1 207 (by decide) _).trans (by simp (disch := omega) only [y_I_s_I, x_I_s_I, z_I_s_J, z_I_s_A, z_I_s_B, z_I_s_P, e_he, e_ht])
        have y16_ : m_P S12_ 204 (x + 11) = some tm := (f12_.2.2.1 204 (by decide) _).trans (by simp (disch := omega) only [y_P_s_P, x_P_s_P, z_P_s_I, z_P_s_J, z_P_s_A, z_P_s_B, e_tm])
        have k17_ : m_K S12_ tm = 14 := (f12_.2.2.2.2 _ (by rw [show m_K (s_I S 207 (x + 11) (iI 0)) tm = 14 from k_tm]; decide)).1.trans k_tm
        have l18_ : m_L S12_ tm = Ltm := (f12_.2.2.2.2 _ (by rw [show m_K (s_I S 207 (x + 11) (iI 0)) tm = 14 from k_tm]; decide)).2.1.trans l_tm
        have h12_ : cS S12_ x := f12_.keep (by decide) (cS.sI h)
        have g12_gN : gN S12_ x := gN.fr (gN.fr g_gN h (show cFr [207] [] [] w S (s_I S 207 (x + 11) (iI 0)) x from ((cFr.rf _ _).sI (by decide) ⟨by omega, by omega⟩)) (by decide)) (cS.sI h) f12_ (by decide)
        refine v_putP hX (ci := 2) (k := 4) (f := 204) (cs_k_11 h12_) bc_2 (by decide) (by decide) in_2 tyX3_ok nmX3 w_1_109 (Or.inl rfl) rfl rfl dX3_addName_87 rfl rfl ?_
        refine v_aload_n hX dX3_addName_90 (i := 0) rfl rfl ?_
        refine v_get hX (ci := 2) (k := 6) (cs_k_11 (cS.sP h12_ (by decide) ⟨by omega, by omega⟩)) bc_2 (by decide) (by decide) in_2 w_1_112 dX3_addName_91 (mvF (f := 206) (v := iI ht) rfl rfl (by simp (disch := omega) only [y_I_s_I, x_I_s_I, z_I_s_J, z_I_s_A, z_I_s_B, z_I_s_P, y13_, y14_, y15_])) ?_
        refine v_aload_n hX dX3_addName_94 (i := 0) rfl rfl ?_
        refine v_get hX (ci := 2) (k := 4) (cs_k_11 (cS.sP h12_ (by decide) ⟨by omega, by omega⟩)) bc_2 (by decide) (by decide) in_2 w_1_109 dX3_addName_95 (mvP (f := 204) (q := z) rfl rfl (by simp (disch := omega) only [y_P_s_P, x_P_s_P, z_P_s_I, z_P_s_J, z_P_s_A, z_P_s_B, y16_])) ?_
        refine u_alen hX (L := ((2 * (Ltm : Int))).toNat) (t0 := 2) (ty := .long) k_z ⟨by decide, by decide⟩ (fun _ => rfl) l_z dX3_addName_98 ?_
        refine u_icmp_ge hX (tgt := 125) dX3_addName_99 (by decide) ⟨by omega, by omega⟩ ⟨by omega, by omega⟩ (fun h19_ => ?_) (fun h19_ => ?_)
        ·
          exact w_return hX hE dX3_addName_125 ⟨(by omega), ((((cFr.rf _ _).sI (by decide) ⟨by omega, by omega⟩).tr (f12_.mono (by decide) (by decide) (by decide))).sP (by decide) ⟨by omega, by omega⟩), ht, z, ((2 * (Ltm : Int))).toNat, rfl, (by simp (disch := omega) only [y_I_s_I, x_I_s_I, z_I_s_J, z_I_s_A, z_I_s_B, z_I_s_P, y13_, y14_, y15_]), ⟨by omega, by omega⟩, (by simp (disch := omega) only [y_P_s_P, x_P_s_P, z_P_s_I, z_P_s_J, z_P_s_A, z_P_s_B, y16_]), k_z, l_z, (by omega), (by omega), (by omega), fp_z⟩
        ·
          refine v_aload_n hX dX3_addName_102 (i := 0) rfl rfl ?_
          refine v_get hX (ci := 2) (k := 4) (cs_k_11 (cS.sP h12_ (by decide) ⟨by omega, by omega⟩)) bc_2 (by decide) (by decide) in_2 w_1_109 dX3_addName_103 (mvP (f := 204) (q := z) rfl rfl (by simp (disch := omega) only [y_P_s_P, x_P_s_P, z_P_s_I, z_P_s_J, z_P_s_A, z_P_s_B, y16_])) ?_
          refine v_aload_n hX dX3_addName_106 (i := 0) rfl rfl ?_
          refine v_get hX (ci := 2) (k := 6) (cs_k_11 (cS.sP h12_ (by decide) ⟨by omega, by omega⟩)) bc_2 (by decide) (by decide) in_2 w_1_112 dX3_addName_107 (mvF (f := 206) (v := iI ht) rfl rfl (by simp (disch := omega) only [y_I_s_I, x_I_s_I, z_I_s_J, z_I_s_A, z_I_s_B, z_I_s_P, y13_, y14_, y15_])) ?_
          refine v_iload_n hX dX3_addName_110 (i := 3) rfl rfl ?_
          refine u_i2l hX dX3_addName_111 ⟨by omega, by omega⟩ ?_
          refine v_lload_n hX dX3_addName_112 (i := 1) rfl rfl ?_
          refine u_lmul hX dX3_addName_113 ?_
          obtain ⟨v20_, e_v20_, b_v20_⟩ := j_ex (jJ (sg * v))
          rw [e_v20_]
          refine u_last hX (L := ((2 * (Ltm : Int))).toNat) k_z l_z ⟨by omega, by omega⟩ (by omega) dX3_addName_114 ?_
          refine v_aload_n hX dX3_addName_115 (i := 0) rfl rfl ?_
          refine v_dup hX dX3_addName_116 rfl ?_
          refine v_get hX (ci := 2) (k := 6) (cs_k_11 (cS.sB (cS.sP h12_ (by decide) ⟨by omega, by omega⟩))) bc_2 (by decide) (by decide) in_2 w_1_112 dX3_addName_117 (mvF (f := 206) (v := iI ht) rfl rfl (by simp (disch := omega) only [y_I_s_I, x_I_s_I, z_I_s_J, z_I_s_A, z_I_s_B, z_I_s_P, y13_, y14_, y15_])) ?_
          refine v_iconst hX (v := iI 1) dX3_addName_120 rfl ?_
          refine u_iadd hX dX3_addName_121 ?_
          refine v_putI hX (ci := 2) (k := 6) (f := 206) (cs_k_11 (cS.sB (cS.sP h12_ (by decide) ⟨by omega, by omega⟩))) bc_2 (by decide) (by decide) in_2 tyX3_ok nmX3 w_1_112 (Or.inl rfl) rfl rfl dX3_addName_122 rfl rfl ?_
          exact w_return hX hE dX3_addName_125 ⟨(by omega), ((((((cFr.rf _ _).sI (by decide) ⟨by omega, by omega⟩).tr (f12_.mono (by decide) (by decide) (by decide))).sP (by decide) ⟨by omega, by omega⟩).sB fp_z).sI (by decide) ⟨by omega, by omega⟩), (ht + 1), z, ((2 * (Ltm : Int))).toNat, rfl, (by simp (disch := omega) only [y_I_s_I, x_I_s_I, z_I_s_J, z_I_s_A, z_I_s_B, z_I_s_P, y13_, y14_, y15_]), ⟨by omega, by omega⟩, (by simp (disch := omega) only [y_P_s_P, x_P_s_P, z_P_s_I, z_P_s_J, z_P_s_A, z_P_s_B, y16_]), k_z, l_z, (by omega), (by omega), (by omega), fp_z⟩
  ·
    refine v_aload_n hX dX3_addName_22 (i := 0) rfl rfl ?_
    refine v_get hX (ci := 2) (k := 1) (cs_k_11 h) bc_2 (by decide) (by decide) in_2 w_1_106 dX3_addName_23 (mvP (f := 201) (q := (x + 12)) rfl rfl (cs_p_201 h)) ?_
    refine v_aload_n hX dX3_addName_26 (i := 0) rfl rfl ?_
    refine v_get hX (ci := 2) (k := 5) (cs_k_11 h) bc_2 (by decide) (by decide) in_2 w_1_110 dX3_addName_27 (mvF (f := 205) (v := iI he) rfl rfl (by simp (disch := omega) only [y_I_s_I, x_I_s_I, z_I_s_J, z_I_s_A, z_I_s_B, z_I_s_P, e_he, e_ht])) ?_
    refine v_dup2 hX dX3_addName_30 rfl rfl ?_
    refine u_iald hX (L := 3208) (cs_k_12 h) (cs_l_12 h) ⟨by omega, by omega⟩ (by decide) dX3_addName_31 (fun v21_ e_v21_ b_v21_ => ?_)
    refine v_iload_n hX dX3_addName_32 (i := 3) rfl rfl ?_
    refine v_aload_n hX dX3_addName_33 (i := 0) rfl rfl ?_
    refine v_get hX (ci := 2) (k := 0) (cs_k_11 h) bc_2 (by decide) (by decide) in_2 w_1_105 dX3_addName_34 (mvP (f := 200) (q := (x + 6)) rfl rfl (cs_p_200 h)) ?_
    refine v_iload hX dX3_addName_37 rfl ?_
    refine v_callV hX (n := 1) (t_N_value (S := S) (x := x) (w := w) (id := v2_) h ⟨by omega, by omega⟩) (cs_k_6 h) bc_5 (by decide) w_4_122 w_4_123 w_4_124 w_1_4 w_4_125 (by decide +kernel) rfl ⟨by decide, by decide⟩ ⟨by omega, by omega⟩ (Nat.le_of_ble_eq_true rfl) rfl dX3_addName_39 (fun _ _ _ q => q) ?_
    rintro r22_ S22_ z22_ ⟨rfl, rfl, v23_, rfl, b_v23_, q22_⟩
    refine u_imul hX dX3_addName_42 ?_
    obtain ⟨v24_, e_v24_, b_v24_⟩ := i_ex (iI (sg * v23_))
    rw [e_v24_]
    refine u_iadd hX dX3_addName_43 ?_
    obtain ⟨v25_, e_v25_, b_v25_⟩ := i_ex (iI (v21_ + v24_))
    rw [e_v25_]
    refine u_iast hX (L := 3208) (cs_k_12 h) (cs_l_12 h) ⟨by omega, by omega⟩ (by decide) dX3_addName_44 ?_
    exact w_return hX hE dX3_addName_45 ⟨(by omega), ((cFr.rf _ _).sA (by decide) (by decide) (cs_k_12 h)), ht, tm, Ltm, rfl, (by simp (disch := omega) only [y_I_s_I, x_I_s_I, z_I_s_J, z_I_s_A, z_I_s_B, z_I_s_P, e_he, e_ht]), ⟨by omega, by omega⟩, (by simp (disch := omega) only [y_P_s_P, x_P_s_P, z_P_s_I, z_P_s_J, z_P_s_A, z_P_s_B, e_tm]), k_tm, l_tm, (by omega), (by omega), (by omega), fp_tm⟩
set_option maxRecDepth 100000 in
set_option maxHeartbeats 4000000 in
theorem g_X_addName {kn : Nat → Nat} {B : Nat} {S : b_M} {z x w : Nat} {v : Int} {sg : Int} {he : Int} {mc ms : Nat} (h : cS S x) (e_he : m_I S 205 (x + 11) = iI he) (b_he : -2147483648 ≤ he ∧ he < 2147483648) (b_v : -9223372036854775808 ≤ v ∧ v < 9223372036854775808) (b_sg : -2147483648 ≤ sg ∧ sg < 2147483648) (g_eI : eI S x w) (g_hM : hM S x w) (g_gN : gN S x) (rm_ : 2 * (2162688 - lA S x) ≤ (ms : Int) ∧ 2 * (2162688 - lA S x) ≤ 256 * (mc : Int)) (zw : x + 457 ≤ w ∧ w ≤ z) (p : 0 ≤ he ∧ he ≤ 3207) : a_C kn B yX3_addName cX3_addName 5 none 2 62 mc ms [.ref (x + 11), .long (jJ v), .int (iI sg)] S z (fun r S' z' uc us => z ≤ z' ∧ cFr [206, 207] [204] [12] w S S' x ∧ r = none ∧ ((us : Int) ≤ 2 * (lA S' x - lA S x) ∧ 256 * (uc : Int) ≤ (us : Int)) ∧ (True) ∧ (eI S' x w) ∧ (hM S' x w)) (fun _ _ _ _ _ => False) := by
  obtain ⟨h1, h2, tm, he9, ht, e1, k1, p1, e2, e3, q1, q2, q3, q4⟩ := id g_eI
  have hl := lT_at e1
  have hm := isP_b g_hM.1
  have hA : lA S x = lT S x + lM S x := rfl
  refine (t_X_addName (w := w) (tm := tm) (Ltm := m_L S tm) h e_he b_he e3 ⟨by omega, by omega⟩ e1 k1 rfl (by omega) b_v b_sg p1 g_gN ⟨by omega, by omega⟩ zw (by omega)).mono ?_ (fun _ _ _ _ _ h => h)
  rintro r S1 z1 uc us ⟨hz, f, t1, tm1, Ltm1, rfl, e_t1, b_t1, e_tm1, k_tm1, l_tm1, c_tm1, pa, pq, fp⟩
  have hl1 := lT_at e_tm1
  rw [l_tm1] at hl1
  have hm1 := lM.fr g_hM f (by decide)
  have hA1 : lA S1 x = lT S1 x + lM S1 x := rfl
  refine ⟨hz, f, rfl, ⟨by omega, by omega⟩, trivial, ⟨fun i a b => ?_, by omega, tm1, he, t1, e_tm1, k_tm1, fp, (f.2.1 205 (by decide) _).trans e_he, e_t1, by omega, by omega, by omega, by omega⟩, hM.fr g_hM h f (by decide)⟩
  have h9 := (h1.fr h f (by decide)) i a b
  omega
set_option maxRecDepth 100000 in
set_option maxHeartbeats 4000000 in
theorem g_X_readTerm {kn : Nat → Nat} {B : Nat} {S : b_M} {z x w : Nat} {sg : Int} {he : Int} {lo : Int} {hi : Int} {mc ms : Nat} (h : cS S x) (e_he : m_I S 205 (x + 11) = iI he) (b_he : -2147483648 ≤ he ∧ he < 2147483648) (b_sg : -2147483648 ≤ sg ∧ sg < 2147483648) (g_eI : eI S x w) (g_hM : hM S x w) (g_gN : gN S x) (g_sI : sI S x lo hi) (rm_ : 2 * (2162688 - lA S x) ≤ (ms : Int) ∧ 2 * (2162688 - lA S x) ≤ 256 * (mc : Int)) (zw : x + 457 ≤ w ∧ w ≤ z) (p : 0 ≤ he ∧ he ≤ 3207) : a_C kn B yX3_readTerm cX3_readTerm 7 (some .boolean) 3 86 mc ms [.ref (x + 11), .ref (x + 419), .int (iI sg)] S z (fun r S' z' uc us => z ≤ z' ∧ cFr [206, 207, 701, 703, 704] [204] [12, 13] w S S' x ∧ ∃ q : Int, r = some (.int (iI q)) ∧ (q = 0 ∨ q = 1) ∧ ((us : Int) ≤ 2 * (lA S' x - lA S x) ∧ 256 * (uc : Int) ≤ (us : Int)) ∧ (True) ∧ (eI S' x w) ∧ (hM S' x w) ∧ (sI S' x lo hi)) (fun _ _ _ _ _ => False) := by
  refine a_enter (by decide) (Nat.le_of_ble_eq_true rfl) ?_
  intro X hX hE hnL hkn hB hI_
  subst hkn; subst hB
  clear hI_
  change b_V X S z 0 0 0 [(0, .ref (x + 11)), (1, .ref (x + 419)), (2, .int (iI sg))] []
  have ab_ : lA S x ≤ 2162688 := lA_le g_eI g_hM
  refine v_aload_n hX dX3_readTerm_0 (i := 1) rfl rfl ?_
  refine v_bipush hX (v := iI 46) dX3_readTerm_1 (by decide) ?_
  refine v_callV hX (n := 1) (g_takes (S := S) (x := x) (w := w) (c := 46) h ⟨by omega, by omega⟩ g_sI) (cs_k_419 h) bc_7 (by decide) w_4_107 w_4_60 w_4_61 w_1_11 w_4_62 (by decide +kernel) rfl ⟨by decide, by decide⟩ ⟨by omega, by omega⟩ (Nat.le_of_ble_eq_true rfl) rfl dX3_readTerm_3 (fun _ _ _ q => q) ?_
  rintro r1_ S1_ z1_ ⟨rfl, f1_, v2_, rfl, b_v2_, q1_, g1_sI⟩
  have y3_ : m_I S1_ 205 (x + 11) = iI he := (f1_.2.1 205 (by decide) _).trans (by simp (disch := omega) only [y_I_s_I, x_I_s_I, z_I_s_J, z_I_s_A, z_I_s_B, z_I_s_P, e_he])
  have h1_ : cS S1_ x := f1_.keep (by decide) h
  have g1_eI : eI S1_ x w := eI.fr g_eI h f1_ (by decide)
  have g1_hM : hM S1_ x w := hM.fr g_hM h f1_ (by decide)
  have g1_gN : gN S1_ x := gN.fr g_gN h f1_ (by decide)
  have aa1_ : lA S1_ x = lA S x := lA.fr g_eI g_hM f1_ (by decide)
  have ab1_ : lA S1_ x ≤ 2162688 := lA_le g1_eI g1_hM
  refine u_if_eq hX (tgt := 29) dX3_readTerm_6 (by decide) ⟨by omega, by omega⟩ (fun h4_ => ?_) (fun h4_ => ?_)
  ·
    refine v_aload_n hX dX3_readTerm_29 (i := 1) rfl rfl ?_
    refine v_callV hX (n := 0) (g_readName (S := S1_) (x := x) (w := w) h1_ g1_sI) (cs_k_419 h1_) bc_7 (by decide) w_4_108 w_3_167 w_3_168 w_1_11 w_3_169 (by decide +kernel) rfl ⟨by decide, by decide⟩ ⟨by omega, by omega⟩ (Nat.le_of_ble_eq_true rfl) rfl dX3_readTerm_30 (fun _ _ _ q => q) ?_
    rintro r5_ S5_ z5_ ⟨rfl, f5_, v6_, rfl, b_v6_, q5_, g5_sI⟩
    have y7_ : m_I S5_ 205 (x + 11) = iI he := (f5_.2.1 205 (by decide) _).trans (by simp (disch := omega) only [y_I_s_I, x_I_s_I, z_I_s_J, z_I_s_A, z_I_s_B, z_I_s_P, y3_])
    have h5_ : cS S5_ x := f5_.keep (by decide) h1_
    have g5_eI : eI S5_ x w := eI.fr g1_eI h1_ f5_ (by decide)
    have g5_hM : hM S5_ x w := hM.fr g1_hM h1_ f5_ (by decide)
    have g5_gN : gN S5_ x := gN.fr g1_gN h1_ f5_ (by decide)
    have aa5_ : lA S5_ x = lA S1_ x := lA.fr g1_eI g1_hM f5_ (by decide)
    have ab5_ : lA S5_ x ≤ 2162688 := lA_le g5_eI g5_hM
    refine v_lstore_n hX (lv' := [(3, .long (jJ v6_)), (0, .ref (x + 11)), (1, .ref (x + 419)), (2, .int (iI sg))]) dX3_readTerm_33 (i := 3) rfl (by rw [hnL]; decide) rfl ?_
    refine v_lload_n hX dX3_readTerm_34 (i := 3) rfl rfl ?_
    refine v_lconst hX (v := jJ 0) dX3_readTerm_35 rfl ?_
    refine u_lcmp hX dX3_readTerm_36 ⟨by omega, by omega⟩ ⟨by omega, by omega⟩ (fun v8_ b_v8_ c_v8_ => ?_)
    refine u_if_eq hX (tgt := 48) dX3_readTerm_37 (by decide) ⟨by omega, by omega⟩ (fun h9_ => ?_) (fun h9_ => ?_)
    ·
      refine v_aload_n hX dX3_readTerm_48 (i := 1) rfl rfl ?_
      refine v_callV hX (n := 0) (g_readNumber (S := S5_) (x := x) (w := w) h5_ g5_sI) (cs_k_419 h5_) bc_7 (by decide) w_4_141 w_4_142 w_4_143 w_1_11 w_4_144 (by decide +kernel) rfl ⟨by decide, by decide⟩ ⟨by omega, by omega⟩ (Nat.le_of_ble_eq_true rfl) rfl dX3_readTerm_49 (fun _ _ _ q => q) ?_
      rintro r10_ S10_ z10_ ⟨rfl, f10_, v11_, rfl, b_v11_, q10_, g10_sI⟩
      have y12_ : m_I S10_ 205 (x + 11) = iI he := (f10_.2.1 205 (by decide) _).trans (by simp (disch := omega) only [y_I_s_I, x_I_s_I, z_I_s_J, z_I_s_A, z_I_s_B, z_I_s_P, y7_])
      have h10_ : cS S10_ x := f10_.keep (by decide) h5_
      have g10_eI : eI S10_ x w := eI.fr g5_eI h5_ f10_ (by decide)
      have g10_hM : hM S10_ x w := hM.fr g5_hM h5_ f10_ (by decide)
      have g10_gN : gN S10_ x := gN.fr g5_gN h5_ f10_ (by decide)
      have aa10_ : lA S10_ x = lA S5_ x := lA.fr g5_eI g5_hM f10_ (by decide)
      have ab10_ : lA S10_ x ≤ 2162688 := lA_le g10_eI g10_hM
      refine v_lstore hX (lv' := [(5, .long (jJ v11_)), (3, .long (jJ v6_)), (0, .ref (x + 11)), (1, .ref (x + 419)), (2, .int (iI sg))]) dX3_readTerm_52 (by rw [hnL]; decide) rfl ?_
      refine v_aload_n hX dX3_readTerm_54 (i := 0) rfl rfl ?_
      refine v_get hX (ci := 2) (k := 1) (cs_k_11 h10_) bc_2 (by decide) (by decide) in_2 w_1_106 dX3_readTerm_55 (mvP (f := 201) (q := (x + 12)) rfl rfl (cs_p_201 h10_)) ?_
      refine v_aload_n hX dX3_readTerm_58 (i := 0) rfl rfl ?_
      refine v_get hX (ci := 2) (k := 5) (cs_k_11 h10_) bc_2 (by decide) (by decide) in_2 w_1_110 dX3_readTerm_59 (mvF (f := 205) (v := iI he) rfl rfl (by simp (disch := omega) only [y_I_s_I, x_I_s_I, z_I_s_J, z_I_s_A, z_I_s_B, z_I_s_P, y12_])) ?_
      refine v_dup2 hX dX3_readTerm_62 rfl rfl ?_
      refine u_iald hX (L := 3208) (cs_k_12 h10_) (cs_l_12 h10_) ⟨by omega, by omega⟩ (by decide) dX3_readTerm_63 (fun v13_ e_v13_ b_v13_ => ?_)
      try simp (disch := omega) only [zr_I, zr_J, zr_B, rA_A, zl_I, zl_J, zl_A, lA_B, zr_P] at e_v13_
      refine v_iload_n hX dX3_readTerm_64 (i := 2) rfl rfl ?_
      refine v_lload hX dX3_readTerm_65 rfl ?_
      refine u_l2i hX dX3_readTerm_67 ?_
      obtain ⟨v14_, e_v14_, b_v14_⟩ := i_ex (iI v11_)
      rw [e_v14_]
      refine u_imul hX dX3_readTerm_68 ?_
      obtain ⟨v15_, e_v15_, b_v15_⟩ := i_ex (iI (sg * v14_))
      rw [e_v15_]
      refine u_iadd hX dX3_readTerm_69 ?_
      obtain ⟨v16_, e_v16_, b_v16_⟩ := i_ex (iI (v13_ + v15_))
      rw [e_v16_]
      refine u_iast hX (L := 3208) (cs_k_12 h10_) (cs_l_12 h10_) ⟨by omega, by omega⟩ (by decide) dX3_readTerm_70 ?_
      refine v_lload hX dX3_readTerm_71 rfl ?_
      refine v_lconst hX (v := jJ 0) dX3_readTerm_73 rfl ?_
      refine u_lcmp hX dX3_readTerm_74 ⟨by omega, by omega⟩ ⟨by omega, by omega⟩ (fun v17_ b_v17_ c_v17_ => ?_)
      refine u_if_lt hX (tgt := 82) dX3_readTerm_75 (by decide) ⟨by omega, by omega⟩ (fun h18_ => ?_) (fun h18_ => ?_)
      ·
        refine v_iconst hX (v := iI 0) dX3_readTerm_82 rfl ?_
        have a19_ : lA (s_A S10_ (x + 12) he.toNat (iI v16_)) x = lA S10_ x := lA.fr g10_eI g10_hM (show cFr [] [] [12] w S10_ (s_A S10_ (x + 12) he.toNat (iI v16_)) x from ((cFr.rf _ _).sA (by decide) (by decide) (cs_k_12 h10_))) (by decide)
        exact w_zreturn hX (nar_b (by omega)) hE dX3_readTerm_83 ⟨(by omega), (((((cFr.rf _ _).tr (f1_.mono (by decide) (by decide) (by decide))).tr (f5_.mono (by decide) (by decide) (by decide))).tr (f10_.mono (by decide) (by decide) (by decide))).sA (by decide) (by decide) (cs_k_12 h10_)), 0, rfl, (by omega), ⟨by omega, by omega⟩, trivial, (eI.fr g10_eI h10_ (show cFr [] [] [12] w S10_ (s_A S10_ (x + 12) he.toNat (iI v16_)) x from ((cFr.rf _ _).sA (by decide) (by decide) (cs_k_12 h10_))) (by decide)), (hM.fr g10_hM h10_ (show cFr [] [] [12] w S10_ (s_A S10_ (x + 12) he.toNat (iI v16_)) x from ((cFr.rf _ _).sA (by decide) (by decide) (cs_k_12 h10_))) (by decide)), (sI.fr g10_sI h10_ (show cFr [] [] [12] w S10_ (s_A S10_ (x + 12) he.toNat (iI v16_)) x from ((cFr.rf _ _).sA (by decide) (by decide) (cs_k_12 h10_))) (by decide))⟩
      ·
        refine v_iconst hX (v := iI 1) dX3_readTerm_78 rfl ?_
        refine v_goto hX (tgt := 83) dX3_readTerm_79 (by decide) ?_
        have a20_ : lA (s_A S10_ (x + 12) he.toNat (iI v16_)) x = lA S10_ x := lA.fr g10_eI g10_hM (show cFr [] [] [12] w S10_ (s_A S10_ (x + 12) he.toNat (iI v16_)) x from ((cFr.rf _ _).sA (by decide) (by decide) (cs_k_12 h10_))) (by decide)
        exact w_zreturn hX (nar_b (by omega)) hE dX3_readTerm_83 ⟨(by omega), (((((cFr.rf _ _).tr (f1_.mono (by decide) (by decide) (by decide))).tr (f5_.mono (by decide) (by decide) (by decide))).tr (f10_.mono (by decide) (by decide) (by decide))).sA (by decide) (by decide) (cs_k_12 h10_)), 1, rfl, (by omega), ⟨by omega, by omega⟩, trivial, (eI.fr g10_eI h10_ (show cFr [] [] [12] w S10_ (s_A S10_ (x + 12) he.toNat (iI v16_)) x from ((cFr.rf _ _).sA (by decide) (by decide) (cs_k_12 h10_))) (by decide)), (hM.fr g10_hM h10_ (show cFr [] [] [12] w S10_ (s_A S10_ (x + 12) he.toNat (iI v16_)) x from ((cFr.rf _ _).sA (by decide) (by decide) (cs_k_12 h10_))) (by decide)), (sI.fr g10_sI h10_ (show cFr [] [] [12] w S10_ (s_A S10_ (x + 12) he.toNat (iI v16_)) x from ((cFr.rf _ _).sA (by decide) (by decide) (cs_k_12 h10_))) (by decide))⟩
    ·
      refine v_aload_n hX dX3_readTerm_40 (i := 0) rfl rfl ?_
      refine v_lload_n hX dX3_readTerm_41 (i := 3) rfl rfl ?_
      refine v_iload_n hX dX3_readTerm_42 (i := 2) rfl rfl ?_
      refine w_callV hX (n := 2) (g_X_addName (S := S5_) (x := x) (w := w) (v := v6_) (sg := sg) (he := he) (mc := mc - 0) (ms := ms - 0) h5_ (by simp (disch := omega) only [y_I_s_I, x_I_s_I, z_I_s_J, z_I_s_A, z_I_s_B, z_I_s_P, y7_]) ⟨by omega, by omega⟩ ⟨by omega, by omega⟩ ⟨by omega, by omega⟩ g5_eI g5_hM g5_gN ⟨by omega, by omega⟩ (by omega) (by omega)) (cs_k_11 h5_) bc_2 (by decide) w_4_109 w_4_111 (bw_p (q := (yX3_addName, 8)) (List.mem_of_getElem? (i := 20) rfl) rfl) w_1_6 w_4_112 (by decide +kernel) rfl ⟨by decide, by decide⟩ ⟨by omega, by omega⟩ (Nat.le_of_ble_eq_true rfl) rfl dX3_readTerm_43 (fun _ _ _ _ _ q => q) ?_
      rintro r21_ S21_ z21_ uc21_ us21_ ⟨hz21_, f21_, rfl, ha21_, q21_, g21_eI, g21_hM⟩
      have y22_ : m_I S21_ 205 (x + 11) = iI he := (f21_.2.1 205 (by decide) _).trans (by simp (disch := omega) only [y_I_s_I, x_I_s_I, z_I_s_J, z_I_s_A, z_I_s_B, z_I_s_P, y7_])
      have h21_ : cS S21_ x := f21_.keep (by decide) h5_
      have g21_gN : gN S21_ x := gN.fr g5_gN h5_ f21_ (by decide)
      have g21_sI : sI S21_ x lo hi := sI.fr g5_sI h5_ f21_ (by decide)
      have ab21_ : lA S21_ x ≤ 2162688 := lA_le g21_eI g21_hM
      refine v_iconst hX (v := iI 1) dX3_readTerm_46 rfl ?_
      exact w_zreturn hX (nar_b (by omega)) hE dX3_readTerm_47 ⟨(by omega), ((((cFr.rf _ _).tr (f1_.mono (by decide) (by decide) (by decide))).tr (f5_.mono (by decide) (by decide) (by decide))).tr (f21_.mono (by decide) (by decide) (by decide))), 1, rfl, (by omega), ⟨by omega, by omega⟩, trivial, g21_eI, g21_hM, g21_sI⟩
  ·
    refine v_aload_n hX dX3_readTerm_9 (i := 0) rfl rfl ?_
    refine v_get hX (ci := 2) (k := 2) (cs_k_11 h1_) bc_2 (by decide) (by decide) in_2 w_1_107 dX3_readTerm_10 (mvP (f := 202) (q := (x + 13)) rfl rfl (cs_p_202 h1_)) ?_
    refine v_aload_n hX dX3_readTerm_13 (i := 0) rfl rfl ?_
    refine v_get hX (ci := 2) (k := 5) (cs_k_11 h1_) bc_2 (by decide) (by decide) in_2 w_1_110 dX3_readTerm_14 (mvF (f := 205) (v := iI he) rfl rfl (by simp (disch := omega) only [y_I_s_I, x_I_s_I, z_I_s_J, z_I_s_A, z_I_s_B, z_I_s_P, y3_])) ?_
    refine v_dup2 hX dX3_readTerm_17 rfl rfl ?_
    refine u_iald hX (L := 3208) (cs_k_13 h1_) (cs_l_13 h1_) ⟨by omega, by omega⟩ (by decide) dX3_readTerm_18 (fun v23_ e_v23_ b_v23_ => ?_)
    try simp (disch := omega) only [zr_I, zr_J, zr_B, rA_A, zl_I, zl_J, zl_A, lA_B, zr_P] at e_v23_
    refine v_iload_n hX dX3_readTerm_19 (i := 2) rfl rfl ?_
    refine u_iadd hX dX3_readTerm_20 ?_
    obtain ⟨v24_, e_v24_, b_v24_⟩ := i_ex (iI (v23_ + sg))
    rw [e_v24_]
    refine u_iast hX (L := 3208) (cs_k_13 h1_) (cs_l_13 h1_) ⟨by omega, by omega⟩ (by decide) dX3_readTerm_21 ?_
    refine v_aload_n hX dX3_readTerm_22 (i := 0) rfl rfl ?_
    refine v_iconst hX (v := iI 0) dX3_readTerm_23 rfl ?_
    refine v_putI hX (ci := 2) (k := 7) (f := 207) (cs_k_11 (cS.sA h1_)) bc_2 (by decide) (by decide) in_2 tyX3_ok nmX3 w_1_113 (Or.inl rfl) (nar_b (by omega)) (fit_b (by omega)) dX3_readTerm_24 rfl rfl ?_
    refine v_iconst hX (v := iI 1) dX3_readTerm_27 rfl ?_
    have a25_ : lA (s_I (s_A S1_ (x + 13) he.toNat (iI v24_)) 207 (x + 11) (iI 0)) x = lA S1_ x := lA.fr g1_eI g1_hM (show cFr [207] [] [13] w S1_ (s_I (s_A S1_ (x + 13) he.toNat (iI v24_)) 207 (x + 11) (iI 0)) x from (((cFr.rf _ _).sA (by decide) (by decide) (cs_k_13 h1_)).sI (by decide) ⟨by omega, by omega⟩)) (by decide)
    exact w_zreturn hX (nar_b (by omega)) hE dX3_readTerm_28 ⟨(by omega), ((((cFr.rf _ _).tr (f1_.mono (by decide) (by decide) (by decide))).sA (by decide) (by decide) (cs_k_13 h1_)).sI (by decide) ⟨by omega, by omega⟩), 1, rfl, (by omega), ⟨by omega, by omega⟩, trivial, (eI.fr g1_eI h1_ (show cFr [207] [] [13] w S1_ (s_I (s_A S1_ (x + 13) he.toNat (iI v24_)) 207 (x + 11) (iI 0)) x from (((cFr.rf _ _).sA (by decide) (by decide) (cs_k_13 h1_)).sI (by decide) ⟨by omega, by omega⟩)) (by decide)), (hM.fr g1_hM h1_ (show cFr [207] [] [13] w S1_ (s_I (s_A S1_ (x + 13) he.toNat (iI v24_)) 207 (x + 11) (iI 0)) x from (((cFr.rf _ _).sA (by decide) (by decide) (cs_k_13 h1_)).sI (by decide) ⟨by omega, by omega⟩)) (by decide)), (sI.fr g1_sI h1_ (show cFr [207] [] [13] w S1_ (s_I (s_A S1_ (x + 13) he.toNat (iI v24_)) 207 (x + 11) (iI 0)) x from (((cFr.rf _ _).sA (by decide) (by decide) (cs_k_13 h1_)).sI (by decide) ⟨by omega, by omega⟩)) (by decide))⟩
set_option maxRecDepth 100000 in
set_option maxHeartbeats 4000000 in
theorem t_X_read {kn : Nat → Nat} {B : Nat} {S : b_M} {z x w : Nat} {he : Int} {lo : Int} {hi : Int} {mc ms : Nat} (h : cS S x) (e_he : m_I S 205 (x + 11) = iI he) (b_he : -2147483648 ≤ he ∧ he < 2147483648) (g_eI : eI S x w) (g_hM : hM S x w) (g_gN : gN S x) (g_sI : sI S x lo hi) (rm_ : 2 * (2162688 - lA S x) ≤ (ms : Int) ∧ 2 * (2162688 - lA S x) ≤ 256 * (mc : Int)) (zw : x + 457 ≤ w ∧ w ≤ z) (p : 0 ≤ he ∧ he ≤ 3208) : a_C kn B yX3_read cX3_read 5 (some .boolean) 4 112 mc ms [.ref (x + 11), .ref (x + 419)] S z (fun r S' z' uc us => z ≤ z' ∧ cFr [205, 206, 207, 701, 703, 704] [204] [12, 13, 14] w S S' x ∧ ∃ q : Int, r = some (.int (iI q)) ∧ (q = 0 ∨ q = 1) ∧ ((us : Int) ≤ 2 * (lA S' x - lA S x) ∧ 256 * (uc : Int) ≤ (us : Int)) ∧ (True) ∧ (eI S' x w) ∧ (hM S' x w) ∧ (sI S' x lo hi)) (fun _ _ _ _ _ => False) := by
  refine a_enter (by decide) (Nat.le_of_ble_eq_true rfl) ?_
  intro X hX hE hnL hkn hB hI_
  subst hkn; subst hB
  clear hI_
  change b_V X S z 0 0 0 [(0, .ref (x + 11)), (1, .ref (x + 419))] []
  have ab_ : lA S x ≤ 2162688 := lA_le g_eI g_hM
  have L97 : ∀ (S97c : b_M) (h0 : Int) (ok : Int) (z97c ce97c sl97c : Nat), cFr [205, 206, 207, 701, 703, 704] [204] [12, 13, 14] w S S97c x → m_I S97c 205 (x + 11) = iI h0 → (-2147483648 ≤ h0 ∧ h0 < 2147483648) → z ≤ z97c → ((sl97c : Int) ≤ 2 * (lA S97c x - lA S x) ∧ 256 * (ce97c : Int) ≤ (sl97c : Int)) → (h0 = he ∧ he < 3208 ∧ (ok = 0 ∨ ok = 1)) → eI S97c x w → hM S97c x w → gN S97c x → sI S97c x lo hi → b_V X S97c z97c ce97c sl97c 97 [(3, .int (iI ok)), (0, .ref (x + 11)), (1, .ref (x + 419))] [] := by
    intro S97c h0 ok z97c ce97c sl97c fr97 e_h0 b_h0 hz97 ha97 p97_0 g97_eI g97_hM g97_gN g97_sI
    have h97c : cS S97c x := fr97.keep (by decide) h
    have ab97_ : lA S97c x ≤ 2162688 := lA_le g97_eI g97_hM
    obtain ⟨ef9, lt9, tm9, he9, ht9, e91, k91, p91, e92, e93, q91, q92, q93, q94⟩ := id g97_eI
    refine v_aload_n hX dX3_read_97 (i := 0) rfl rfl ?_
    refine v_dup hX dX3_read_98 rfl ?_
    refine v_get hX (ci := 2) (k := 5) (cs_k_11 h97c) bc_2 (by decide) (by decide) in_2 w_1_110 dX3_read_99 (mvF (f := 205) (v := iI h0) rfl rfl (by simp (disch := omega) only [y_I_s_I, x_I_s_I, z_I_s_J, z_I_s_A, z_I_s_B, z_I_s_P, e_h0, e93])) ?_
    refine v_iconst hX (v := iI 1) dX3_read_102 rfl ?_
    refine u_iadd hX dX3_read_103 ?_
    refine v_putI hX (ci := 2) (k := 5) (f := 205) (cs_k_11 h97c) bc_2 (by decide) (by decide) in_2 tyX3_ok nmX3 w_1_110 (Or.inl rfl) rfl rfl dX3_read_104 rfl rfl ?_
    refine v_aload_n hX dX3_read_107 (i := 0) rfl rfl ?_
    refine v_get hX (ci := 2) (k := 3) (cs_k_11 (cS.sI h97c)) bc_2 (by decide) (by decide) in_2 w_1_108 dX3_read_108 (mvP (f := 203) (q := (x + 14)) rfl rfl (cs_p_203 (cS.sI h97c))) ?_
    refine v_aload_n hX dX3_read_111 (i := 0) rfl rfl ?_
    refine v_get hX (ci := 2) (k := 5) (cs_k_11 (cS.sI h97c)) bc_2 (by decide) (by decide) in_2 w_1_110 dX3_read_112 (mvF (f := 205) (v := iI (h0 + 1)) rfl rfl (by simp (disch := omega) only [y_I_s_I, x_I_s_I, z_I_s_J, z_I_s_A, z_I_s_B, z_I_s_P, e_h0, e93])) ?_
    refine v_aload_n hX dX3_read_115 (i := 0) rfl rfl ?_
    refine v_get hX (ci := 2) (k := 6) (cs_k_11 (cS.sI h97c)) bc_2 (by decide) (by decide) in_2 w_1_112 dX3_read_116 (mvF (f := 206) (v := iI ht9) rfl rfl (by simp (disch := omega) only [y_I_s_I, x_I_s_I, z_I_s_J, z_I_s_A, z_I_s_B, z_I_s_P, e_h0, e93])) ?_
    refine u_iast hX (L := 3209) (cs_k_14 (cS.sI h97c)) (cs_l_14 (cS.sI h97c)) ⟨by omega, by omega⟩ (by decide) dX3_read_119 ?_
    refine v_iload_n hX dX3_read_120 (i := 3) rfl rfl ?_
    have a1_ : lA (s_A (s_I S97c 205 (x + 11) (iI (h0 + 1))) (x + 14) (h0 + 1).toNat (iI ht9)) x = lA S97c x := lA.fr g97_eI g97_hM (show cFr [205] [] [14] w S97c (s_A (s_I S97c 205 (x + 11) (iI (h0 + 1))) (x + 14) (h0 + 1).toNat (iI ht9)) x from (((cFr.rf _ _).sI (by decide) ⟨by omega, by omega⟩).sA (by decide) (by decide) (cs_k_14 (cS.sI h97c)))) (by decide)
    exact w_zreturn hX (nar_b (by omega)) hE dX3_read_121 ⟨(by omega), ((fr97.sI (by decide) ⟨by omega, by omega⟩).sA (by decide) (by decide) (cs_k_14 (cS.sI h97c))), ok, rfl, (by omega), ⟨by omega, by omega⟩, trivial, ⟨fun i a b => by by_cases g : i = h0 + 1; (rw [g, show lT (s_A (s_I S97c 205 (x + 11) (iI (h0 + 1))) (x + 14) (h0 + 1).toNat (iI ht9)) x = lT S97c x from rfl]; simp (disch := omega) only [zr_I, zr_J, zr_B, rA_A, zl_I, zl_J, zl_A, lA_B, zr_P, rA_y]; omega); (rw [show lT (s_A (s_I S97c 205 (x + 11) (iI (h0 + 1))) (x + 14) (h0 + 1).toNat (iI ht9)) x = lT S97c x from rfl]; simp (disch := omega) only [zr_I, zr_J, zr_B, rA_A, zl_I, zl_J, zl_A, lA_B, zr_P, rA_x]; exact ef9 i a b), lt9, tm9, h0 + 1, ht9, e91, k91, p91, (by simp (disch := omega) only [y_I_s_I, x_I_s_I, z_I_s_J, z_I_s_A, z_I_s_B, z_I_s_P, e_h0, e93]), (by simp (disch := omega) only [y_I_s_I, x_I_s_I, z_I_s_J, z_I_s_A, z_I_s_B, z_I_s_P, e_h0, e93]), by omega, by omega, q93, q94⟩, (hM.fr g97_hM h97c (show cFr [205] [] [14] w S97c (s_A (s_I S97c 205 (x + 11) (iI (h0 + 1))) (x + 14) (h0 + 1).toNat (iI ht9)) x from (((cFr.rf _ _).sI (by decide) ⟨by omega, by omega⟩).sA (by decide) (by decide) (cs_k_14 (cS.sI h97c)))) (by decide)), (sI.fr g97_sI h97c (show cFr [205] [] [14] w S97c (s_A (s_I S97c 205 (x + 11) (iI (h0 + 1))) (x + 14) (h0 + 1).toNat (iI ht9)) x from (((cFr.rf _ _).sI (by decide) ⟨by omega, by omega⟩).sA (by decide) (by decide) (cs_k_14 (cS.sI h97c)))) (by decide))⟩
  have L63 : ∀ (n63 : Nat) (S63c : b_M) (h0 : Int) (lf : Int) (ok : Int) (sg : Int) (z63c ce63c sl63c : Nat), cFr [205, 206, 207, 701, 703, 704] [204] [12, 13, 14] w S S63c x → m_I S63c 205 (x + 11) = iI h0 → (-2147483648 ≤ h0 ∧ h0 < 2147483648) → z ≤ z63c → ((sl63c : Int) ≤ 2 * (lA S63c x - lA S x) ∧ 256 * (ce63c : Int) ≤ (sl63c : Int)) → (h0 = he ∧ he < 3208 ∧ -1 ≤ lf ∧ lf ≤ 2097152 ∧ (ok = 0 ∨ ok = 1)) → eI S63c x w → hM S63c x w → gN S63c x → sI S63c x lo hi → (lf + 1).toNat = n63 → b_V X S63c z63c ce63c sl63c 63 [(4, .int (iI lf)), (3, .int (iI ok)), (2, .int (iI sg)), (0, .ref (x + 11)), (1, .ref (x + 419))] [] := by
    intro n63
    induction n63 using Nat.strongRecOn with
    | _ n63 ih63 =>
    intro S63c h0 lf ok sg z63c ce63c sl63c fr63 e_h0 b_h0 hz63 ha63 p63_0 g63_eI g63_hM g63_gN g63_sI hm63
    have h63c : cS S63c x := fr63.keep (by decide) h
    have ab63_ : lA S63c x ≤ 2162688 := lA_le g63_eI g63_hM
    refine v_iload_n hX dX3_read_63 (i := 3) rfl rfl ?_
    refine u_if_eq hX (tgt := 97) dX3_read_64 (by decide) ⟨by omega, by omega⟩ (fun h2_ => ?_) (fun h2_ => ?_)
    ·
      refine v_locals (lv' := [(3, .int (iI ok)), (0, .ref (x + 11)), (1, .ref (x + 419))]) (by simp) ?_
      exact L97 _ h0 ok _ _ _ fr63 (by simp (disch := omega) only [y_I_s_I, x_I_s_I, z_I_s_J, z_I_s_A, z_I_s_B, z_I_s_P, e_h0]) ⟨by omega, by omega⟩ (by omega) ⟨by omega, by omega⟩ (by omega) g63_eI g63_hM g63_gN g63_sI
    ·
      refine v_iload hX dX3_read_67 rfl ?_
      refine u_if_le hX (tgt := 97) dX3_read_69 (by decide) ⟨by omega, by omega⟩ (fun h3_ => ?_) (fun h3_ => ?_)
      ·
        refine v_locals (lv' := [(3, .int (iI ok)), (0, .ref (x + 11)), (1, .ref (x + 419))]) (by simp) ?_
        exact L97 _ h0 ok _ _ _ fr63 (by simp (disch := omega) only [y_I_s_I, x_I_s_I, z_I_s_J, z_I_s_A, z_I_s_B, z_I_s_P, e_h0]) ⟨by omega, by omega⟩ (by omega) ⟨by omega, by omega⟩ (by omega) g63_eI g63_hM g63_gN g63_sI
      ·
        refine v_aload_n hX dX3_read_72 (i := 1) rfl rfl ?_
        refine v_callV hX (n := 0) (g_readSign (S := S63c) (x := x) (w := w) h63c g63_sI) (cs_k_419 h63c) bc_7 (by decide) w_4_98 w_4_99 w_4_100 w_1_11 w_4_101 (by decide +kernel) rfl ⟨by decide, by decide⟩ ⟨by omega, by omega⟩ (Nat.le_of_ble_eq_true rfl) rfl dX3_read_73 (fun _ _ _ q => q) ?_
        rintro r4_ S4_ z4_ ⟨rfl, f4_, v5_, rfl, b_v5_, q4_, g4_sI⟩
        have y6_ : m_I S4_ 205 (x + 11) = iI h0 := (f4_.2.1 205 (by decide) _).trans (by simp (disch := omega) only [y_I_s_I, x_I_s_I, z_I_s_J, z_I_s_A, z_I_s_B, z_I_s_P, e_h0])
        have h4_ : cS S4_ x := f4_.keep (by decide) h63c
        have g4_eI : eI S4_ x w := eI.fr g63_eI h63c f4_ (by decide)
        have g4_hM : hM S4_ x w := hM.fr g63_hM h63c f4_ (by decide)
        have g4_gN : gN S4_ x := gN.fr g63_gN h63c f4_ (by decide)
        have aa4_ : lA S4_ x = lA S63c x := lA.fr g63_eI g63_hM f4_ (by decide)
        have ab4_ : lA S4_ x ≤ 2162688 := lA_le g4_eI g4_hM
        refine v_istore_n hX (lv' := [(2, .int (iI v5_)), (4, .int (iI lf)), (3, .int (iI ok)), (0, .ref (x + 11)), (1, .ref (x + 419))]) dX3_read_76 (i := 2) rfl (by rw [hnL]; decide) rfl ?_
        refine v_iload_n hX dX3_read_77 (i := 2) rfl rfl ?_
        refine u_if_ne hX (tgt := 84) dX3_read_78 (by decide) ⟨by omega, by omega⟩ (fun h7_ => ?_) (fun h7_ => ?_)
        ·
          refine v_aload_n hX dX3_read_84 (i := 0) rfl rfl ?_
          refine v_aload_n hX dX3_read_85 (i := 1) rfl rfl ?_
          refine v_iload_n hX dX3_read_86 (i := 2) rfl rfl ?_
          refine w_callV hX (n := 2) (g_X_readTerm (S := S4_) (x := x) (w := w) (sg := v5_) (he := h0) (mc := mc - ce63c) (ms := ms - sl63c) h4_ (by simp (disch := omega) only [y_I_s_I, x_I_s_I, z_I_s_J, z_I_s_A, z_I_s_B, z_I_s_P, y6_]) ⟨by omega, by omega⟩ ⟨by omega, by omega⟩ g4_eI g4_hM g4_gN g4_sI ⟨by omega, by omega⟩ (by omega) (by omega)) (cs_k_11 h4_) bc_2 (by decide) w_4_103 w_4_105 (bw_p (q := (yX3_readTerm, 8)) (List.mem_of_getElem? (i := 19) rfl) rfl) w_1_6 w_4_106 (by decide +kernel) rfl ⟨by decide, by decide⟩ ⟨by omega, by omega⟩ (Nat.le_of_ble_eq_true rfl) rfl dX3_read_87 (fun _ _ _ _ _ q => q) ?_
          rintro r8_ S8_ z8_ uc8_ us8_ ⟨hz8_, f8_, v9_, rfl, b_v9_, ha8_, q8_, g8_eI, g8_hM, g8_sI⟩
          have y10_ : m_I S8_ 205 (x + 11) = iI h0 := (f8_.2.1 205 (by decide) _).trans (by simp (disch := omega) only [y_I_s_I, x_I_s_I, z_I_s_J, z_I_s_A, z_I_s_B, z_I_s_P, y6_])
          have h8_ : cS S8_ x := f8_.keep (by decide) h4_
          have g8_gN : gN S8_ x := gN.fr g4_gN h4_ f8_ (by decide)
          have ab8_ : lA S8_ x ≤ 2162688 := lA_le g8_eI g8_hM
          refine v_istore_n hX (lv' := [(3, .int (iI v9_)), (2, .int (iI v5_)), (4, .int (iI lf)), (0, .ref (x + 11)), (1, .ref (x + 419))]) dX3_read_90 (i := 3) rfl (by rw [hnL]; decide) rfl ?_
          refine v_iinc hX (v := iI (lf + (-1))) (lv' := [(4, .int (iI (lf + (-1)))), (3, .int (iI v9_)), (2, .int (iI v5_)), (0, .ref (x + 11)), (1, .ref (x + 419))]) dX3_read_91 rfl (iI_add _ _) (by rw [hnL]; decide) rfl ?_
          refine v_goto hX (tgt := 63) dX3_read_94 (by decide) ?_
          exact ih63 _ (by omega) _ h0 (lf + (-1)) v9_ v5_ _ _ _ ((fr63.tr (f4_.mono (by decide) (by decide) (by decide))).tr (f8_.mono (by decide) (by decide) (by decide))) (by simp (disch := omega) only [y_I_s_I, x_I_s_I, z_I_s_J, z_I_s_A, z_I_s_B, z_I_s_P, y10_]) ⟨by omega, by omega⟩ (by omega) ⟨by omega, by omega⟩ (by omega) g8_eI g8_hM g8_gN g8_sI rfl
        ·
          refine v_goto hX (tgt := 97) dX3_read_81 (by decide) ?_
          refine v_locals (lv' := [(3, .int (iI ok)), (0, .ref (x + 11)), (1, .ref (x + 419))]) (by simp) ?_
          exact L97 _ h0 ok _ _ _ (fr63.tr (f4_.mono (by decide) (by decide) (by decide))) (by simp (disch := omega) only [y_I_s_I, x_I_s_I, z_I_s_J, z_I_s_A, z_I_s_B, z_I_s_P, y6_]) ⟨by omega, by omega⟩ (by omega) ⟨by omega, by omega⟩ (by omega) g4_eI g4_hM g4_gN g4_sI
  have L53 : ∀ (S53c : b_M) (h0 : Int) (sg : Int) (sv : Int) (z53c ce53c sl53c : Nat), cFr [205, 206, 207, 701, 703, 704] [204] [12, 13, 14] w S S53c x → m_I S53c 205 (x + 11) = iI h0 → (-2147483648 ≤ h0 ∧ h0 < 2147483648) → z ≤ z53c → ((sl53c : Int) ≤ 2 * (lA S53c x - lA S x) ∧ 256 * (ce53c : Int) ≤ (sl53c : Int)) → (h0 = he ∧ he < 3208 ∧ -1 ≤ sv ∧ sv ≤ 1) → eI S53c x w → hM S53c x w → gN S53c x → sI S53c x lo hi → b_V X S53c z53c ce53c sl53c 53 [(2, .int (iI sg)), (0, .ref (x + 11)), (1, .ref (x + 419))] [.int (iI sv), .ref (x + 419), .ref (x + 11)] := by
    intro S53c h0 sg sv z53c ce53c sl53c fr53 e_h0 b_h0 hz53 ha53 p53_0 g53_eI g53_hM g53_gN g53_sI
    have h53c : cS S53c x := fr53.keep (by decide) h
    have ab53_ : lA S53c x ≤ 2162688 := lA_le g53_eI g53_hM
    refine w_callV hX (n := 2) (g_X_readTerm (S := S53c) (x := x) (w := w) (sg := sv) (he := h0) (mc := mc - ce53c) (ms := ms - sl53c) h53c (by simp (disch := omega) only [y_I_s_I, x_I_s_I, z_I_s_J, z_I_s_A, z_I_s_B, z_I_s_P, e_h0]) ⟨by omega, by omega⟩ ⟨by omega, by omega⟩ g53_eI g53_hM g53_gN g53_sI ⟨by omega, by omega⟩ (by omega) (by omega)) (cs_k_11 h53c) bc_2 (by decide) w_4_103 w_4_105 (bw_p (q := (yX3_readTerm, 8)) (List.mem_of_getElem? (i := 19) rfl) rfl) w_1_6 w_4_106 (by decide +kernel) rfl ⟨by decide, by decide⟩ ⟨by omega, by omega⟩ (Nat.le_of_ble_eq_true rfl) rfl dX3_read_53 (fun _ _ _ _ _ q => q) ?_
    rintro r11_ S11_ z11_ uc11_ us11_ ⟨hz11_, f11_, v12_, rfl, b_v12_, ha11_, q11_, g11_eI, g11_hM, g11_sI⟩
    have y13_ : m_I S11_ 205 (x + 11) = iI h0 := (f11_.2.1 205 (by decide) _).trans (by simp (disch := omega) only [y_I_s_I, x_I_s_I, z_I_s_J, z_I_s_A, z_I_s_B, z_I_s_P, e_h0])
    have h11_ : cS S11_ x := f11_.keep (by decide) h53c
    have g11_gN : gN S11_ x := gN.fr g53_gN h53c f11_ (by decide)
    have ab11_ : lA S11_ x ≤ 2162688 := lA_le g11_eI g11_hM
    refine v_istore_n hX (lv' := [(3, .int (iI v12_)), (2, .int (iI sg)), (0, .ref (x + 11)), (1, .ref (x + 419))]) dX3_read_56 (i := 3) rfl (by rw [hnL]; decide) rfl ?_
    refine v_aload_n hX dX3_read_57 (i := 1) rfl rfl ?_
    refine v_callV hX (n := 0) (g_left (S := S11_) (x := x) (w := w) h11_ g11_sI) (cs_k_419 h11_) bc_7 (by decide) w_4_148 w_4_149 w_4_150 w_1_11 w_4_151 (by decide +kernel) rfl ⟨by decide, by decide⟩ ⟨by omega, by omega⟩ (Nat.le_of_ble_eq_true rfl) rfl dX3_read_58 (fun _ _ _ q => q) ?_
    rintro r14_ S14_ z14_ ⟨rfl, rfl, v15_, rfl, b_v15_, q14_⟩
    refine v_istore hX (lv' := [(4, .int (iI v15_)), (3, .int (iI v12_)), (2, .int (iI sg)), (0, .ref (x + 11)), (1, .ref (x + 419))]) dX3_read_61 (by rw [hnL]; decide) rfl ?_
    exact L63 _ _ h0 v15_ v12_ sg _ _ _ (fr53.tr (f11_.mono (by decide) (by decide) (by decide))) (by simp (disch := omega) only [y_I_s_I, x_I_s_I, z_I_s_J, z_I_s_A, z_I_s_B, z_I_s_P, y13_]) ⟨by omega, by omega⟩ (by omega) ⟨by omega, by omega⟩ (by omega) g11_eI g11_hM g11_gN g11_sI rfl
  refine v_aload_n hX dX3_read_0 (i := 0) rfl rfl ?_
  refine v_get hX (ci := 2) (k := 5) (cs_k_11 h) bc_2 (by decide) (by decide) in_2 w_1_110 dX3_read_1 (mvF (f := 205) (v := iI he) rfl rfl (by simp (disch := omega) only [y_I_s_I, x_I_s_I, z_I_s_J, z_I_s_A, z_I_s_B, z_I_s_P, e_he])) ?_
  refine v_sipush hX (v := iI 3208) dX3_read_4 (by decide) ?_
  refine u_icmp_lt hX (tgt := 12) dX3_read_7 (by decide) ⟨by omega, by omega⟩ ⟨by omega, by omega⟩ (fun h16_ => ?_) (fun h16_ => ?_)
  ·
    refine v_aload_n hX dX3_read_12 (i := 0) rfl rfl ?_
    refine v_get hX (ci := 2) (k := 1) (cs_k_11 h) bc_2 (by decide) (by decide) in_2 w_1_106 dX3_read_13 (mvP (f := 201) (q := (x + 12)) rfl rfl (cs_p_201 h)) ?_
    refine v_aload_n hX dX3_read_16 (i := 0) rfl rfl ?_
    refine v_get hX (ci := 2) (k := 5) (cs_k_11 h) bc_2 (by decide) (by decide) in_2 w_1_110 dX3_read_17 (mvF (f := 205) (v := iI he) rfl rfl (by simp (disch := omega) only [y_I_s_I, x_I_s_I, z_I_s_J, z_I_s_A, z_I_s_B, z_I_s_P, e_he])) ?_
    refine v_iconst hX (v := iI 0) dX3_read_20 rfl ?_
    refine u_iast hX (L := 3208) (cs_k_12 h) (cs_l_12 h) ⟨by omega, by omega⟩ (by decide) dX3_read_21 ?_
    refine v_aload_n hX dX3_read_22 (i := 0) rfl rfl ?_
    refine v_get hX (ci := 2) (k := 2) (cs_k_11 (cS.sA h)) bc_2 (by decide) (by decide) in_2 w_1_107 dX3_read_23 (mvP (f := 202) (q := (x + 13)) rfl rfl (cs_p_202 (cS.sA h))) ?_
    refine v_aload_n hX dX3_read_26 (i := 0) rfl rfl ?_
    refine v_get hX (ci := 2) (k := 5) (cs_k_11 (cS.sA h)) bc_2 (by decide) (by decide) in_2 w_1_110 dX3_read_27 (mvF (f := 205) (v := iI he) rfl rfl (by simp (disch := omega) only [y_I_s_I, x_I_s_I, z_I_s_J, z_I_s_A, z_I_s_B, z_I_s_P, e_he])) ?_
    refine v_iconst hX (v := iI 0) dX3_read_30 rfl ?_
    refine u_iast hX (L := 3208) (cs_k_13 (cS.sA h)) (cs_l_13 (cS.sA h)) ⟨by omega, by omega⟩ (by decide) dX3_read_31 ?_
    refine v_aload_n hX dX3_read_32 (i := 0) rfl rfl ?_
    refine v_iconst hX (v := iI 1) dX3_read_33 rfl ?_
    refine v_putI hX (ci := 2) (k := 7) (f := 207) (cs_k_11 (cS.sA (cS.sA h))) bc_2 (by decide) (by decide) in_2 tyX3_ok nmX3 w_1_113 (Or.inl rfl) (nar_b (by omega)) (fit_b (by omega)) dX3_read_34 rfl rfl ?_
    refine v_aload_n hX dX3_read_37 (i := 1) rfl rfl ?_
    have a17_ : lA (s_I (s_A (s_A S (x + 12) he.toNat (iI 0)) (x + 13) he.toNat (iI 0)) 207 (x + 11) (iI 1)) x = lA S x := lA.fr g_eI g_hM (show cFr [207] [] [12, 13] w S (s_I (s_A (s_A S (x + 12) he.toNat (iI 0)) (x + 13) he.toNat (iI 0)) 207 (x + 11) (iI 1)) x from ((((cFr.rf _ _).sA (by decide) (by decide) (cs_k_12 h)).sA (by decide) (by decide) (cs_k_13 (cS.sA h))).sI (by decide) ⟨by omega, by omega⟩)) (by decide)
    refine v_callV hX (n := 0) (g_readSign (S := (s_I (s_A (s_A S (x + 12) he.toNat (iI 0)) (x + 13) he.toNat (iI 0)) 207 (x + 11) (iI 1))) (x := x) (w := w) (cS.sI (cS.sA (cS.sA h))) (sI.fr g_sI h (show cFr [207] [] [12, 13] w S (s_I (s_A (s_A S (x + 12) he.toNat (iI 0)) (x + 13) he.toNat (iI 0)) 207 (x + 11) (iI 1)) x from ((((cFr.rf _ _).sA (by decide) (by decide) (cs_k_12 h)).sA (by decide) (by decide) (cs_k_13 (cS.sA h))).sI (by decide) ⟨by omega, by omega⟩)) (by decide))) (cs_k_419 (cS.sI (cS.sA (cS.sA h)))) bc_7 (by decide) w_4_98 w_4_99 w_4_100 w_1_11 w_4_101 (by decide +kernel) rfl ⟨by decide, by decide⟩ ⟨by omega, by omega⟩ (Nat.le_of_ble_eq_true rfl) rfl dX3_read_38 (fun _ _ _ q => q) ?_
    rintro r18_ S18_ z18_ ⟨rfl, f18_, v19_, rfl, b_v19_, q18_, g18_sI⟩
    have y20_ : m_I S18_ 205 (x + 11) = iI he := (f18_.2.1 205 (by decide) _).trans (by simp (disch := omega) only [y_I_s_I, x_I_s_I, z_I_s_J, z_I_s_A, z_I_s_B, z_I_s_P, e_he])
    have y21_ : m_I S18_ 207 (x + 11) = iI 1 := (f18_.2.1 207 (by decide) _).trans (by simp (disch := omega) only [y_I_s_I, x_I_s_I, z_I_s_J, z_I_s_A, z_I_s_B, z_I_s_P, e_he])
    have h18_ : cS S18_ x := f18_.keep (by decide) (cS.sI (cS.sA (cS.sA h)))
    have g18_eI : eI S18_ x w := eI.fr (eI.fr g_eI h (show cFr [207] [] [12, 13] w S (s_I (s_A (s_A S (x + 12) he.toNat (iI 0)) (x + 13) he.toNat (iI 0)) 207 (x + 11) (iI 1)) x from ((((cFr.rf _ _).sA (by decide) (by decide) (cs_k_12 h)).sA (by decide) (by decide) (cs_k_13 (cS.sA h))).sI (by decide) ⟨by omega, by omega⟩)) (by decide)) (cS.sI (cS.sA (cS.sA h))) f18_ (by decide)
    have g18_hM : hM S18_ x w := hM.fr (hM.fr g_hM h (show cFr [207] [] [12, 13] w S (s_I (s_A (s_A S (x + 12) he.toNat (iI 0)) (x + 13) he.toNat (iI 0)) 207 (x + 11) (iI 1)) x from ((((cFr.rf _ _).sA (by decide) (by decide) (cs_k_12 h)).sA (by decide) (by decide) (cs_k_13 (cS.sA h))).sI (by decide) ⟨by omega, by omega⟩)) (by decide)) (cS.sI (cS.sA (cS.sA h))) f18_ (by decide)
    have g18_gN : gN S18_ x := gN.fr (gN.fr g_gN h (show cFr [207] [] [12, 13] w S (s_I (s_A (s_A S (x + 12) he.toNat (iI 0)) (x + 13) he.toNat (iI 0)) 207 (x + 11) (iI 1)) x from ((((cFr.rf _ _).sA (by decide) (by decide) (cs_k_12 h)).sA (by decide) (by decide) (cs_k_13 (cS.sA h))).sI (by decide) ⟨by omega, by omega⟩)) (by decide)) (cS.sI (cS.sA (cS.sA h))) f18_ (by decide)
    have aa18_ : lA S18_ x = lA (s_I (s_A (s_A S (x + 12) he.toNat (iI 0)) (x + 13) he.toNat (iI 0)) 207 (x + 11) (iI 1)) x := lA.fr (eI.fr g_eI h (show cFr [207] [] [12, 13] w S (s_I (s_A (s_A S (x + 12) he.toNat (iI 0)) (x + 13) he.toNat (iI 0)) 207 (x + 11) (iI 1)) x from ((((cFr.rf _ _).sA (by decide) (by decide) (cs_k_12 h)).sA (by decide) (by decide) (cs_k_13 (cS.sA h))).sI (by decide) ⟨by omega, by omega⟩)) (by decide)) (hM.fr g_hM h (show cFr [207] [] [12, 13] w S (s_I (s_A (s_A S (x + 12) he.toNat (iI 0)) (x + 13) he.toNat (iI 0)) 207 (x + 11) (iI 1)) x from ((((cFr.rf _ _).sA (by decide) (by decide) (cs_k_12 h)).sA (by decide) (by decide) (cs_k_13 (cS.sA h))).sI (by decide) ⟨by omega, by omega⟩)) (by decide)) f18_ (by decide)
    have ab18_ : lA S18_ x ≤ 2162688 := lA_le g18_eI g18_hM
    refine v_istore_n hX (lv' := [(2, .int (iI v19_)), (0, .ref (x + 11)), (1, .ref (x + 419))]) dX3_read_41 (i := 2) rfl (by rw [hnL]; decide) rfl ?_
    refine v_aload_n hX dX3_read_42 (i := 0) rfl rfl ?_
    refine v_aload_n hX dX3_read_43 (i := 1) rfl rfl ?_
    refine v_iload_n hX dX3_read_44 (i := 2) rfl rfl ?_
    refine u_if_ne hX (tgt := 52) dX3_read_45 (by decide) ⟨by omega, by omega⟩ (fun h22_ => ?_) (fun h22_ => ?_)
    ·
      refine v_iload_n hX dX3_read_52 (i := 2) rfl rfl ?_
      exact L53 _ he v19_ v19_ _ _ _ (((((cFr.rf _ _).sA (by decide) (by decide) (cs_k_12 h)).sA (by decide) (by decide) (cs_k_13 (cS.sA h))).sI (by decide) ⟨by omega, by omega⟩).tr (f18_.mono (by decide) (by decide) (by decide))) (by simp (disch := omega) only [y_I_s_I, x_I_s_I, z_I_s_J, z_I_s_A, z_I_s_B, z_I_s_P, y20_, y21_]) ⟨by omega, by omega⟩ (by omega) ⟨by omega, by omega⟩ (by omega) g18_eI g18_hM g18_gN g18_sI
    ·
      refine v_iconst hX (v := iI 1) dX3_read_48 rfl ?_
      refine v_goto hX (tgt := 53) dX3_read_49 (by decide) ?_
      exact L53 _ he v19_ 1 _ _ _ (((((cFr.rf _ _).sA (by decide) (by decide) (cs_k_12 h)).sA (by decide) (by decide) (cs_k_13 (cS.sA h))).sI (by decide) ⟨by omega, by omega⟩).tr (f18_.mono (by decide) (by decide) (by decide))) (by simp (disch := omega) only [y_I_s_I, x_I_s_I, z_I_s_J, z_I_s_A, z_I_s_B, z_I_s_P, y20_, y21_]) ⟨by omega, by omega⟩ (by omega) ⟨by omega, by omega⟩ (by omega) g18_eI g18_hM g18_gN g18_sI
  ·
    refine v_iconst hX (v := iI 0) dX3_read_10 rfl ?_
    exact w_zreturn hX (nar_b (by omega)) hE dX3_read_11 ⟨(by omega), (cFr.rf _ _), 0, rfl, (by omega), ⟨by omega, by omega⟩, trivial, g_eI, g_hM, g_sI⟩
set_option maxRecDepth 100000 in
set_option maxHeartbeats 4000000 in
theorem g_X_read {kn : Nat → Nat} {B : Nat} {S : b_M} {z x w : Nat} {lo : Int} {hi : Int} {mc ms : Nat} (h : cS S x) (g_eI : eI S x w) (g_hM : hM S x w) (g_gN : gN S x) (g_sI : sI S x lo hi) (rm_ : 2 * (2162688 - lA S x) ≤ (ms : Int) ∧ 2 * (2162688 - lA S x) ≤ 256 * (mc : Int)) (zw : x + 457 ≤ w ∧ w ≤ z) : a_C kn B yX3_read cX3_read 5 (some .boolean) 4 112 mc ms [.ref (x + 11), .ref (x + 419)] S z (fun r S' z' uc us => z ≤ z' ∧ cFr [205, 206, 207, 701, 703, 704] [204] [12, 13, 14] w S S' x ∧ ∃ q : Int, r = some (.int (iI q)) ∧ (q = 0 ∨ q = 1) ∧ ((us : Int) ≤ 2 * (lA S' x - lA S x) ∧ 256 * (uc : Int) ≤ (us : Int)) ∧ (True) ∧ (eI S' x w) ∧ (hM S' x w) ∧ (sI S' x lo hi)) (fun _ _ _ _ _ => False) := by
  obtain ⟨h1, h2, tm, he, ht, e1, k1, p1, e2, e3, q1, q2, q3, q4⟩ := id g_eI
  exact t_X_read (w := w) h e2 ⟨by omega, by omega⟩ g_eI g_hM g_gN g_sI rm_ zw (by omega)
