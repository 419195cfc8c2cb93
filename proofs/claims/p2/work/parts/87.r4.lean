theorem lA_y (S : b_M) (a : Nat) (k i v : Int) (hv : -9223372036854775808 ≤ v ∧ v < 9223372036854775808) (h : i = k) : lAt (s_B S a k.toNat (jJ v)) a i = v := by subst h; unfold lAt; rw [y_B_s_B, jJ_to hv]
theorem lA_x (S : b_M) (a : Nat) (k i : Int) (v : Int64) (h : 0 ≤ i ∧ 0 ≤ k ∧ i ≠ k) : lAt (s_B S a k.toNat v) a i = lAt S a i := by unfold lAt; rw [x_B_s_B _ _ _ _ _ _ (Or.inr (by omega))]
theorem mS.sI {S : b_M} {x f b : Nat} {v : Int32} (h : mS S x) : mS (s_I S f b v) x := h
theorem mS.sJ {S : b_M} {x f b : Nat} {v : Int64} (h : mS S x) : mS (s_J S f b v) x := h
theorem mS.sA {S : b_M} {x b i : Nat} {v : Int32} (h : mS S x) : mS (s_A S b i v) x := h
theorem mS.sB {S : b_M} {x b i : Nat} {v : Int64} (h : mS S x) : mS (s_B S b i v) x := h
set_option maxRecDepth 100000 in
set_option maxHeartbeats 4000000 in
theorem k_wrong {kn : Nat → Nat} {B : Nat} {S : b_M} {z x : Nat} {what : Int} {where_ : Int} {er : Int} (h : mS S x) (e_er : m_I S 1153 x = iI er) (b_er : -2147483648 ≤ er ∧ er < 2147483648) (b_what : -2147483648 ≤ what ∧ what < 2147483648) (b_where_ : -2147483648 ≤ where_ ∧ where_ < 2147483648) (p : 0 ≤ er ∧ er ≤ 50) : b_C kn B yX13_wrong cX13_wrong 3 none 0 0 0 0 [.ref x, .int (iI what), .int (iI where_)] S z (fun r S' z' => z = z' ∧ mFr [1154, 1153] [] [36, 37] S S' x ∧ ∃ r1 h1 : Int, r = none ∧ m_I S' 1153 x = iI r1 ∧ (-2147483648 ≤ r1 ∧ r1 < 2147483648) ∧ m_I S' 1154 x = iI h1 ∧ (-2147483648 ≤ h1 ∧ h1 < 2147483648) ∧ (h1 = 1 ∧ er ≤ r1 ∧ r1 ≤ 50 ∧ 0 < r1)) (fun _ _ _ => False) := by
  refine b_enter (by decide) (Nat.le_of_ble_eq_true rfl) ?_
  intro X hX hE hnL hkn hB hI_
  subst hkn; subst hB
  clear hI_
  change b_V X S z 0 0 0 [(0, .ref x), (1, .int (iI what)), (2, .int (iI where_))] []
  refine v_aload_n hX dX13_wrong_0 (i := 0) rfl rfl ?_
  refine v_iconst hX (v := iI 1) dX13_wrong_1 rfl ?_
  refine v_putI hX (ci := 11) (k := 54) (f := 1154) (ms_kx h) bc_11 (by decide) (by decide) in_11 tyX13_ok nmX13 w_6_30 (Or.inl rfl) (nar_b (by omega)) (fit_b (by omega)) dX13_wrong_2 rfl rfl ?_
  refine v_aload_n hX dX13_wrong_5 (i := 0) rfl rfl ?_
  refine v_get hX (ci := 11) (k := 53) (ms_kx (mS.sI h)) bc_11 (by decide) (by decide) in_11 w_6_29 dX13_wrong_6 (mvF (f := 1153) (v := iI er) rfl rfl (by simp (disch := omega) only [y_I_s_I, x_I_s_I, z_I_s_J, z_I_s_A, z_I_s_B, e_er])) ?_
  refine v_bipush hX (v := iI 50) dX13_wrong_9 (by decide) ?_
  refine u_icmp_ne hX (tgt := 15) dX13_wrong_11 (by decide) ⟨by omega, by omega⟩ ⟨by omega, by omega⟩ (fun h1_ => ?_) (fun h1_ => ?_)
  ·
    refine v_aload_n hX dX13_wrong_15 (i := 0) rfl rfl ?_
    refine v_get hX (ci := 11) (k := 55) (ms_kx (mS.sI h)) bc_11 (by decide) (by decide) in_11 w_6_31 dX13_wrong_16 (mvP (f := 1155) (q := (x + 36)) rfl rfl (ms_p_1155 (mS.sI h))) ?_
    refine v_aload_n hX dX13_wrong_19 (i := 0) rfl rfl ?_
    refine v_get hX (ci := 11) (k := 53) (ms_kx (mS.sI h)) bc_11 (by decide) (by decide) in_11 w_6_29 dX13_wrong_20 (mvF (f := 1153) (v := iI er) rfl rfl (by simp (disch := omega) only [y_I_s_I, x_I_s_I, z_I_s_J, z_I_s_A, z_I_s_B, e_er])) ?_
    refine v_iload_n hX dX13_wrong_23 (i := 1) rfl rfl ?_
    refine u_iast hX (L := 50) (ms_k_1155 (mS.sI h)) (ms_l_1155 (mS.sI h)) ⟨by omega, by omega⟩ (by decide) dX13_wrong_24 ?_
    refine v_aload_n hX dX13_wrong_25 (i := 0) rfl rfl ?_
    refine v_get hX (ci := 11) (k := 56) (ms_kx (mS.sA (mS.sI h))) bc_11 (by decide) (by decide) in_11 w_6_32 dX13_wrong_26 (mvP (f := 1156) (q := (x + 37)) rfl rfl (ms_p_1156 (mS.sA (mS.sI h)))) ?_
    refine v_aload_n hX dX13_wrong_29 (i := 0) rfl rfl ?_
    refine v_get hX (ci := 11) (k := 53) (ms_kx (mS.sA (mS.sI h))) bc_11 (by decide) (by decide) in_11 w_6_29 dX13_wrong_30 (mvF (f := 1153) (v := iI er) rfl rfl (by simp (disch := omega) only [y_I_s_I, x_I_s_I, z_I_s_J, z_I_s_A, z_I_s_B, e_er])) ?_
    refine v_iload_n hX dX13_wrong_33 (i := 2) rfl rfl ?_
    refine u_iast hX (L := 50) (ms_k_1156 (mS.sA (mS.sI h))) (ms_l_1156 (mS.sA (mS.sI h))) ⟨by omega, by omega⟩ (by decide) dX13_wrong_34 ?_
    refine v_aload_n hX dX13_wrong_35 (i := 0) rfl rfl ?_
    refine v_dup hX dX13_wrong_36 rfl ?_
    refine v_get hX (ci := 11) (k := 53) (ms_kx (mS.sA (mS.sA (mS.sI h)))) bc_11 (by decide) (by decide) in_11 w_6_29 dX13_wrong_37 (mvF (f := 1153) (v := iI er) rfl rfl (by simp (disch := omega) only [y_I_s_I, x_I_s_I, z_I_s_J, z_I_s_A, z_I_s_B, e_er])) ?_
    refine v_iconst hX (v := iI 1) dX13_wrong_40 rfl ?_
    refine u_iadd hX dX13_wrong_41 ?_
    refine v_putI hX (ci := 11) (k := 53) (f := 1153) (ms_kx (mS.sA (mS.sA (mS.sI h)))) bc_11 (by decide) (by decide) in_11 tyX13_ok nmX13 w_6_29 (Or.inl rfl) rfl rfl dX13_wrong_42 rfl rfl ?_
    exact v_return hX hE dX13_wrong_45 (by omega) (by omega) ⟨rfl, (((((mFr.rf _ _).sI (by decide)).sA (by decide)).sA (by decide)).sI (by decide)), (er + 1), 1, rfl, (by simp (disch := omega) only [y_I_s_I, x_I_s_I, z_I_s_J, z_I_s_A, z_I_s_B, e_er]), ⟨by omega, by omega⟩, (by simp (disch := omega) only [y_I_s_I, x_I_s_I, z_I_s_J, z_I_s_A, z_I_s_B, e_er]), ⟨by omega, by omega⟩, (by omega)⟩
  ·
    exact v_return hX hE dX13_wrong_14 (by omega) (by omega) ⟨rfl, ((mFr.rf _ _).sI (by decide)), er, 1, rfl, (by simp (disch := omega) only [y_I_s_I, x_I_s_I, z_I_s_J, z_I_s_A, z_I_s_B, e_er]), ⟨by omega, by omega⟩, (by simp (disch := omega) only [y_I_s_I, x_I_s_I, z_I_s_J, z_I_s_A, z_I_s_B, e_er]), ⟨by omega, by omega⟩, (by omega)⟩
set_option maxRecDepth 100000 in
set_option maxHeartbeats 4000000 in
theorem k_add {kn : Nat → Nat} {B : Nat} {S : b_M} {z x : Nat} {its : Int} {nm : Int} {st_ : Int} {la : Int} {ln : Int} (h : mS S x) (e_st_ : m_I S 1128 x = iI st_) (b_st_ : -2147483648 ≤ st_ ∧ st_ < 2147483648) (e_la : m_I S 1139 x = iI la) (b_la : -2147483648 ≤ la ∧ la < 2147483648) (e_ln : m_I S 1109 x = iI ln) (b_ln : -2147483648 ≤ ln ∧ ln < 2147483648) (b_its : -2147483648 ≤ its ∧ its < 2147483648) (b_nm : -9223372036854775808 ≤ nm ∧ nm < 9223372036854775808) (p : 0 ≤ st_ ∧ st_ < 400 ∧ 0 ≤ la ∧ la ≤ st_ ∧ 0 ≤ nm) : b_C kn B yX13_add cX13_add 4 none 0 0 0 0 [.ref x, .int (iI its), .long (jJ nm)] S z (fun r S' z' => z = z' ∧ mFr [1128, 1139] [] [17, 18, 24, 21, 23, 25, 26] S S' x ∧ ∃ s1 l1 : Int, r = none ∧ m_I S' 1128 x = iI s1 ∧ (-2147483648 ≤ s1 ∧ s1 < 2147483648) ∧ m_I S' 1139 x = iI l1 ∧ (-2147483648 ≤ l1 ∧ l1 < 2147483648) ∧ (s1 = st_ + 1 ∧ (0 < nm → l1 = la + 1) ∧ (nm = 0 → l1 = la)) ∧ ((∀ i : Int, 0 ≤ i → i ≠ st_ → rAt S' (x + 18) i = rAt S (x + 18) i) ∧ rAt S' (x + 18) st_ = its) ∧ ((∀ i : Int, 0 ≤ i → i ≠ st_ → lAt S' (x + 24) i = lAt S (x + 24) i) ∧ lAt S' (x + 24) st_ = nm) ∧ ((∀ i : Int, 0 ≤ i → i ≠ st_ → rAt S' (x + 21) i = rAt S (x + 21) i) ∧ rAt S' (x + 21) st_ = 0) ∧ ((∀ i : Int, 0 ≤ i → i ≠ st_ → rAt S' (x + 23) i = rAt S (x + 23) i) ∧ rAt S' (x + 23) st_ = 0) ∧ ((∀ i : Int, 0 ≤ i → i ≠ st_ → rAt S' (x + 25) i = rAt S (x + 25) i) ∧ rAt S' (x + 25) st_ = 0) ∧ ((∀ i : Int, 0 ≤ i → i ≠ st_ → rAt S' (x + 26) i = rAt S (x + 26) i) ∧ rAt S' (x + 26) st_ = 0)) (fun _ _ _ => False) := by
  refine b_enter (by decide) (Nat.le_of_ble_eq_true rfl) ?_
  intro X hX hE hnL hkn hB hI_
  subst hkn; subst hB
  clear hI_
  change b_V X S z 0 0 0 [(0, .ref x), (1, .int (iI its)), (2, .long (jJ nm))] []
  refine v_aload_n hX dX13_add_0 (i := 0) rfl rfl ?_
  refine v_get hX (ci := 11) (k := 29) (ms_kx h) bc_11 (by decide) (by decide) in_11 w_6_5 dX13_add_1 (mvP (f := 1129) (q := (x + 17)) rfl rfl (ms_p_1129 h)) ?_
  refine v_aload_n hX dX13_add_4 (i := 0) rfl rfl ?_
  refine v_get hX (ci := 11) (k := 28) (ms_kx h) bc_11 (by decide) (by decide) in_11 w_6_4 dX13_add_5 (mvF (f := 1128) (v := iI st_) rfl rfl (by simp (disch := omega) only [y_I_s_I, x_I_s_I, z_I_s_J, z_I_s_A, z_I_s_B, e_st_, e_la, e_ln])) ?_
  refine v_aload_n hX dX13_add_8 (i := 0) rfl rfl ?_
  refine v_get hX (ci := 11) (k := 9) (ms_kx h) bc_11 (by decide) (by decide) in_11 w_5_225 dX13_add_9 (mvF (f := 1109) (v := iI ln) rfl rfl (by simp (disch := omega) only [y_I_s_I, x_I_s_I, z_I_s_J, z_I_s_A, z_I_s_B, e_st_, e_la, e_ln])) ?_
  refine u_iast hX (L := 400) (ms_k_1129 h) (ms_l_1129 h) ⟨by omega, by omega⟩ (by decide) dX13_add_12 ?_
  refine v_aload_n hX dX13_add_13 (i := 0) rfl rfl ?_
  refine v_get hX (ci := 11) (k := 30) (ms_kx (mS.sA h)) bc_11 (by decide) (by decide) in_11 w_6_6 dX13_add_14 (mvP (f := 1130) (q := (x + 18)) rfl rfl (ms_p_1130 (mS.sA h))) ?_
  refine v_aload_n hX dX13_add_17 (i := 0) rfl rfl ?_
  refine v_get hX (ci := 11) (k := 28) (ms_kx (mS.sA h)) bc_11 (by decide) (by decide) in_11 w_6_4 dX13_add_18 (mvF (f := 1128) (v := iI st_) rfl rfl (by simp (disch := omega) only [y_I_s_I, x_I_s_I, z_I_s_J, z_I_s_A, z_I_s_B, e_st_, e_la, e_ln])) ?_
  refine v_iload_n hX dX13_add_21 (i := 1) rfl rfl ?_
  refine u_iast hX (L := 400) (ms_k_1130 (mS.sA h)) (ms_l_1130 (mS.sA h)) ⟨by omega, by omega⟩ (by decide) dX13_add_22 ?_
  refine v_aload_n hX dX13_add_23 (i := 0) rfl rfl ?_
  refine v_get hX (ci := 11) (k := 36) (ms_kx (mS.sA (mS.sA h))) bc_11 (by decide) (by decide) in_11 w_6_12 dX13_add_24 (mvP (f := 1136) (q := (x + 24)) rfl rfl (ms_p_1136 (mS.sA (mS.sA h)))) ?_
  refine v_aload_n hX dX13_add_27 (i := 0) rfl rfl ?_
  refine v_get hX (ci := 11) (k := 28) (ms_kx (mS.sA (mS.sA h))) bc_11 (by decide) (by decide) in_11 w_6_4 dX13_add_28 (mvF (f := 1128) (v := iI st_) rfl rfl (by simp (disch := omega) only [y_I_s_I, x_I_s_I, z_I_s_J, z_I_s_A, z_I_s_B, e_st_, e_la, e_ln])) ?_
  refine v_lload_n hX dX13_add_31 (i := 2) rfl rfl ?_
  refine u_last hX (L := 400) (ms_k_1136 (mS.sA (mS.sA h))) (ms_l_1136 (mS.sA (mS.sA h))) ⟨by omega, by omega⟩ (by decide) dX13_add_32 ?_
  refine v_aload_n hX dX13_add_33 (i := 0) rfl rfl ?_
  refine v_get hX (ci := 11) (k := 33) (ms_kx (mS.sB (mS.sA (mS.sA h)))) bc_11 (by decide) (by decide) in_11 w_6_9 dX13_add_34 (mvP (f := 1133) (q := (x + 21)) rfl rfl (ms_p_1133 (mS.sB (mS.sA (mS.sA h))))) ?_
  refine v_aload_n hX dX13_add_37 (i := 0) rfl rfl ?_
  refine v_get hX (ci := 11) (k := 28) (ms_kx (mS.sB (mS.sA (mS.sA h)))) bc_11 (by decide) (by decide) in_11 w_6_4 dX13_add_38 (mvF (f := 1128) (v := iI st_) rfl rfl (by simp (disch := omega) only [y_I_s_I, x_I_s_I, z_I_s_J, z_I_s_A, z_I_s_B, e_st_, e_la, e_ln])) ?_
  refine v_iconst hX (v := iI 0) dX13_add_41 rfl ?_
  refine u_iast hX (L := 400) (ms_k_1133 (mS.sB (mS.sA (mS.sA h)))) (ms_l_1133 (mS.sB (mS.sA (mS.sA h)))) ⟨by omega, by omega⟩ (by decide) dX13_add_42 ?_
  refine v_aload_n hX dX13_add_43 (i := 0) rfl rfl ?_
  refine v_get hX (ci := 11) (k := 35) (ms_kx (mS.sA (mS.sB (mS.sA (mS.sA h))))) bc_11 (by decide) (by decide) in_11 w_6_11 dX13_add_44 (mvP (f := 1135) (q := (x + 23)) rfl rfl (ms_p_1135 (mS.sA (mS.sB (mS.sA (mS.sA h)))))) ?_
  refine v_aload_n hX dX13_add_47 (i := 0) rfl rfl ?_
  refine v_get hX (ci := 11) (k := 28) (ms_kx (mS.sA (mS.sB (mS.sA (mS.sA h))))) bc_11 (by decide) (by decide) in_11 w_6_4 dX13_add_48 (mvF (f := 1128) (v := iI st_) rfl rfl (by simp (disch := omega) only [y_I_s_I, x_I_s_I, z_I_s_J, z_I_s_A, z_I_s_B, e_st_, e_la, e_ln])) ?_
  refine v_iconst hX (v := iI 0) dX13_add_51 rfl ?_
  refine u_iast hX (L := 400) (ms_k_1135 (mS.sA (mS.sB (mS.sA (mS.sA h))))) (ms_l_1135 (mS.sA (mS.sB (mS.sA (mS.sA h))))) ⟨by omega, by omega⟩ (by decide) dX13_add_52 ?_
  refine v_aload_n hX dX13_add_53 (i := 0) rfl rfl ?_
  refine v_get hX (ci := 11) (k := 37) (ms_kx (mS.sA (mS.sA (mS.sB (mS.sA (mS.sA h)))))) bc_11 (by decide) (by decide) in_11 w_6_13 dX13_add_54 (mvP (f := 1137) (q := (x + 25)) rfl rfl (ms_p_1137 (mS.sA (mS.sA (mS.sB (mS.sA (mS.sA h))))))) ?_
  refine v_aload_n hX dX13_add_57 (i := 0) rfl rfl ?_
  refine v_get hX (ci := 11) (k := 28) (ms_kx (mS.sA (mS.sA (mS.sB (mS.sA (mS.sA h)))))) bc_11 (by decide) (by decide) in_11 w_6_4 dX13_add_58 (mvF (f := 1128) (v := iI st_) rfl rfl (by simp (disch := omega) only [y_I_s_I, x_I_s_I, z_I_s_J, z_I_s_A, z_I_s_B, e_st_, e_la, e_ln])) ?_
  refine v_iconst hX (v := iI 0) dX13_add_61 rfl ?_
  refine u_zast hX (L := 400) (ms_k_1137 (mS.sA (mS.sA (mS.sB (mS.sA (mS.sA h)))))) (ms_l_1137 (mS.sA (mS.sA (mS.sB (mS.sA (mS.sA h)))))) ⟨by omega, by omega⟩ (by decide) (by omega) dX13_add_62 ?_
  refine v_aload_n hX dX13_add_63 (i := 0) rfl rfl ?_
  refine v_get hX (ci := 11) (k := 38) (ms_kx (mS.sA (mS.sA (mS.sA (mS.sB (mS.sA (mS.sA h))))))) bc_11 (by decide) (by decide) in_11 w_6_14 dX13_add_64 (mvP (f := 1138) (q := (x + 26)) rfl rfl (ms_p_1138 (mS.sA (mS.sA (mS.sA (mS.sB (mS.sA (mS.sA h)))))))) ?_
  refine v_aload_n hX dX13_add_67 (i := 0) rfl rfl ?_
  refine v_get hX (ci := 11) (k := 28) (ms_kx (mS.sA (mS.sA (mS.sA (mS.sB (mS.sA (mS.sA h))))))) bc_11 (by decide) (by decide) in_11 w_6_4 dX13_add_68 (mvF (f := 1128) (v := iI st_) rfl rfl (by simp (disch := omega) only [y_I_s_I, x_I_s_I, z_I_s_J, z_I_s_A, z_I_s_B, e_st_, e_la, e_ln])) ?_
  refine v_iconst hX (v := iI 0) dX13_add_71 rfl ?_
  refine u_iast hX (L := 400) (ms_k_1138 (mS.sA (mS.sA (mS.sA (mS.sB (mS.sA (mS.sA h))))))) (ms_l_1138 (mS.sA (mS.sA (mS.sA (mS.sB (mS.sA (mS.sA h))))))) ⟨by omega, by omega⟩ (by decide) dX13_add_72 ?_
  refine v_aload_n hX dX13_add_73 (i := 0) rfl rfl ?_
  refine v_dup hX dX13_add_74 rfl ?_
  refine v_get hX (ci := 11) (k := 39) (ms_kx (mS.sA (mS.sA (mS.sA (mS.sA (mS.sB (mS.sA (mS.sA h)))))))) bc_11 (by decide) (by decide) in_11 w_6_15 dX13_add_75 (mvF (f := 1139) (v := iI la) rfl rfl (by simp (disch := omega) only [y_I_s_I, x_I_s_I, z_I_s_J, z_I_s_A, z_I_s_B, e_st_, e_la, e_ln])) ?_
  refine v_lload_n hX dX13_add_78 (i := 2) rfl rfl ?_
  refine v_lconst hX (v := jJ 0) dX13_add_79 rfl ?_
  refine u_lcmp hX dX13_add_80 ⟨by omega, by omega⟩ ⟨by omega, by omega⟩ (fun v1_ b_v1_ c_v1_ => ?_)
  refine u_if_le hX (tgt := 88) dX13_add_81 (by decide) ⟨by omega, by omega⟩ (fun h2_ => ?_) (fun h2_ => ?_)
  ·
    refine v_iconst hX (v := iI 0) dX13_add_88 rfl ?_
    refine u_iadd hX dX13_add_89 ?_
    refine v_putI hX (ci := 11) (k := 39) (f := 1139) (ms_kx (mS.sA (mS.sA (mS.sA (mS.sA (mS.sB (mS.sA (mS.sA h)))))))) bc_11 (by decide) (by decide) in_11 tyX13_ok nmX13 w_6_15 (Or.inl rfl) rfl rfl dX13_add_90 rfl rfl ?_
    refine v_aload_n hX dX13_add_93 (i := 0) rfl rfl ?_
    refine v_dup hX dX13_add_94 rfl ?_
    refine v_get hX (ci := 11) (k := 28) (ms_kx (mS.sI (mS.sA (mS.sA (mS.sA (mS.sA (mS.sB (mS.sA (mS.sA h))))))))) bc_11 (by decide) (by decide) in_11 w_6_4 dX13_add_95 (mvF (f := 1128) (v := iI st_) rfl rfl (by simp (disch := omega) only [y_I_s_I, x_I_s_I, z_I_s_J, z_I_s_A, z_I_s_B, e_st_, e_la, e_ln])) ?_
    refine v_iconst hX (v := iI 1) dX13_add_98 rfl ?_
    refine u_iadd hX dX13_add_99 ?_
    refine v_putI hX (ci := 11) (k := 28) (f := 1128) (ms_kx (mS.sI (mS.sA (mS.sA (mS.sA (mS.sA (mS.sB (mS.sA (mS.sA h))))))))) bc_11 (by decide) (by decide) in_11 tyX13_ok nmX13 w_6_4 (Or.inl rfl) rfl rfl dX13_add_100 rfl rfl ?_
    exact v_return hX hE dX13_add_103 (by omega) (by omega) ⟨rfl, ((((((((((mFr.rf _ _).sA (by decide)).sA (by decide)).sB (by decide)).sA (by decide)).sA (by decide)).sA (by decide)).sA (by decide)).sI (by decide)).sI (by decide)), (st_ + 1), (la + 0), rfl, (by simp (disch := omega) only [y_I_s_I, x_I_s_I, z_I_s_J, z_I_s_A, z_I_s_B, e_st_, e_la, e_ln]), ⟨by omega, by omega⟩, (by simp (disch := omega) only [y_I_s_I, x_I_s_I, z_I_s_J, z_I_s_A, z_I_s_B, e_st_, e_la, e_ln]), ⟨by omega, by omega⟩, (by omega), ⟨fun i g1 g2 => by simp (disch := omega) only [zr_I, zr_J, zr_B, rA_A, zl_I, zl_J, zl_A, lA_B, rA_x], by simp (disch := omega) only [zr_I, zr_J, zr_B, rA_A, zl_I, zl_J, zl_A, lA_B, rA_y]⟩, ⟨fun i g1 g2 => by simp (disch := omega) only [zr_I, zr_J, zr_B, rA_A, zl_I, zl_J, zl_A, lA_B, lA_x], by simp (disch := omega) only [zr_I, zr_J, zr_B, rA_A, zl_I, zl_J, zl_A, lA_B, lA_y]⟩, ⟨fun i g1 g2 => by simp (disch := omega) only [zr_I, zr_J, zr_B, rA_A, zl_I, zl_J, zl_A, lA_B, rA_x], by simp (disch := omega) only [zr_I, zr_J, zr_B, rA_A, zl_I, zl_J, zl_A, lA_B, rA_y]⟩, ⟨fun i g1 g2 => by simp (disch := omega) only [zr_I, zr_J, zr_B, rA_A, zl_I, zl_J, zl_A, lA_B, rA_x], by simp (disch := omega) only [zr_I, zr_J, zr_B, rA_A, zl_I, zl_J, zl_A, lA_B, rA_y]⟩, ⟨fun i g1 g2 => by simp (disch := omega) only [zr_I, zr_J, zr_B, rA_A, zl_I, zl_J, zl_A, lA_B, rA_x], by simp (disch := omega) only [zr_I, zr_J, zr_B, rA_A, zl_I, zl_J, zl_A, lA_B, rA_y]⟩, ⟨fun i g1 g2 => by simp (disch := omega) only [zr_I, zr_J, zr_B, rA_A, zl_I, zl_J, zl_A, lA_B, rA_x], by simp (disch := omega) only [zr_I, zr_J, zr_B, rA_A, zl_I, zl_J, zl_A, lA_B, rA_y]⟩⟩
  ·
    refine v_iconst hX (v := iI 1) dX13_add_84 rfl ?_
    refine v_goto hX (tgt := 89) dX13_add_85 (by decide) ?_
    refine u_iadd hX dX13_add_89 ?_
    refine v_putI hX (ci := 11) (k := 39) (f := 1139) (ms_kx (mS.sA (mS.sA (mS.sA (mS.sA (mS.sB (mS.sA (mS.sA h)))))))) bc_11 (by decide) (by decide) in_11 tyX13_ok nmX13 w_6_15 (Or.inl rfl) rfl rfl dX13_add_90 rfl rfl ?_
    refine v_aload_n hX dX13_add_93 (i := 0) rfl rfl ?_
    refine v_dup hX dX13_add_94 rfl ?_
    refine v_get hX (ci := 11) (k := 28) (ms_kx (mS.sI (mS.sA (mS.sA (mS.sA (mS.sA (mS.sB (mS.sA (mS.sA h))))))))) bc_11 (by decide) (by decide) in_11 w_6_4 dX13_add_95 (mvF (f := 1128) (v := iI st_) rfl rfl (by simp (disch := omega) only [y_I_s_I, x_I_s_I, z_I_s_J, z_I_s_A, z_I_s_B, e_st_, e_la, e_ln])) ?_
    refine v_iconst hX (v := iI 1) dX13_add_98 rfl ?_
    refine u_iadd hX dX13_add_99 ?_
    refine v_putI hX (ci := 11) (k := 28) (f := 1128) (ms_kx (mS.sI (mS.sA (mS.sA (mS.sA (mS.sA (mS.sB (mS.sA (mS.sA h))))))))) bc_11 (by decide) (by decide) in_11 tyX13_ok nmX13 w_6_4 (Or.inl rfl) rfl rfl dX13_add_100 rfl rfl ?_
    exact v_return hX hE dX13_add_103 (by omega) (by omega) ⟨rfl, ((((((((((mFr.rf _ _).sA (by decide)).sA (by decide)).sB (by decide)).sA (by decide)).sA (by decide)).sA (by decide)).sA (by decide)).sI (by decide)).sI (by decide)), (st_ + 1), (la + 1), rfl, (by simp (disch := omega) only [y_I_s_I, x_I_s_I, z_I_s_J, z_I_s_A, z_I_s_B, e_st_, e_la, e_ln]), ⟨by omega, by omega⟩, (by simp (disch := omega) only [y_I_s_I, x_I_s_I, z_I_s_J, z_I_s_A, z_I_s_B, e_st_, e_la, e_ln]), ⟨by omega, by omega⟩, (by omega), ⟨fun i g1 g2 => by simp (disch := omega) only [zr_I, zr_J, zr_B, rA_A, zl_I, zl_J, zl_A, lA_B, rA_x], by simp (disch := omega) only [zr_I, zr_J, zr_B, rA_A, zl_I, zl_J, zl_A, lA_B, rA_y]⟩, ⟨fun i g1 g2 => by simp (disch := omega) only [zr_I, zr_J, zr_B, rA_A, zl_I, zl_J, zl_A, lA_B, lA_x], by simp (disch := omega) only [zr_I, zr_J, zr_B, rA_A, zl_I, zl_J, zl_A, lA_B, lA_y]⟩, ⟨fun i g1 g2 => by simp (disch := omega) only [zr_I, zr_J, zr_B, rA_A, zl_I, zl_J, zl_A, lA_B, rA_x], by simp (disch := omega) only [zr_I, zr_J, zr_B, rA_A, zl_I, zl_J, zl_A, lA_B, rA_y]⟩, ⟨fun i g1 g2 => by simp (disch := omega) only [zr_I, zr_J, zr_B, rA_A, zl_I, zl_J, zl_A, lA_B, rA_x], by simp (disch := omega) only [zr_I, zr_J, zr_B, rA_A, zl_I, zl_J, zl_A, lA_B, rA_y]⟩, ⟨fun i g1 g2 => by simp (disch := omega) only [zr_I, zr_J, zr_B, rA_A, zl_I, zl_J, zl_A, lA_B, rA_x], by simp (disch := omega) only [zr_I, zr_J, zr_B, rA_A, zl_I, zl_J, zl_A, lA_B, rA_y]⟩, ⟨fun i g1 g2 => by simp (disch := omega) only [zr_I, zr_J, zr_B, rA_A, zl_I, zl_J, zl_A, lA_B, rA_x], by simp (disch := omega) only [zr_I, zr_J, zr_B, rA_A, zl_I, zl_J, zl_A, lA_B, rA_y]⟩⟩
set_option maxRecDepth 100000 in
set_option maxHeartbeats 4000000 in
theorem k_addSet {kn : Nat → Nat} {B : Nat} {S : b_M} {z x : Nat} {nm : Int} {val : Int} {se : Int} (h : mS S x) (e_se : m_I S 1148 x = iI se) (b_se : -2147483648 ≤ se ∧ se < 2147483648) (b_nm : -9223372036854775808 ≤ nm ∧ nm < 9223372036854775808) (b_val : -2147483648 ≤ val ∧ val < 2147483648) (so : sOk S x se) (p : se < 400 ∧ 0 ≤ nm) : b_C kn B yX13_addSet cX13_addSet 5 none 1 21 0 0 [.ref x, .long (jJ nm), .int (iI val)] S z (fun r S' z' => z = z' ∧ mFr [1148] [] [32, 33, 34, 35] S S' x ∧ ∃ s1 : Int, r = none ∧ m_I S' 1148 x = iI s1 ∧ (-2147483648 ≤ s1 ∧ s1 < 2147483648) ∧ (s1 = se + 1) ∧ (sOk S' x (se + 1))) (fun _ _ _ => False) := by
  refine b_enter (by decide) (Nat.le_of_ble_eq_true rfl) ?_
  intro X hX hE hnL hkn hB hI_
  subst hkn; subst hB
  clear hI_
  change b_V X S z 0 0 0 [(0, .ref x), (1, .long (jJ nm)), (3, .int (iI val))] []
  have so1 := so.1
  refine v_aload_n hX dX13_addSet_0 (i := 0) rfl rfl ?_
  refine v_get hX (ci := 11) (k := 49) (ms_kx h) bc_11 (by decide) (by decide) in_11 w_6_25 dX13_addSet_1 (mvP (f := 1149) (q := (x + 32)) rfl rfl (ms_p_1149 h)) ?_
  refine v_aload_n hX dX13_addSet_4 (i := 0) rfl rfl ?_
  refine v_get hX (ci := 11) (k := 48) (ms_kx h) bc_11 (by decide) (by decide) in_11 w_6_24 dX13_addSet_5 (mvF (f := 1148) (v := iI se) rfl rfl (by simp (disch := omega) only [y_I_s_I, x_I_s_I, z_I_s_J, z_I_s_A, z_I_s_B, e_se])) ?_
  refine v_lload_n hX dX13_addSet_8 (i := 1) rfl rfl ?_
  refine u_last hX (L := 400) (ms_k_1149 h) (ms_l_1149 h) ⟨by omega, by omega⟩ (by decide) dX13_addSet_9 ?_
  refine v_aload_n hX dX13_addSet_10 (i := 0) rfl rfl ?_
  refine v_get hX (ci := 11) (k := 50) (ms_kx (mS.sB h)) bc_11 (by decide) (by decide) in_11 w_6_26 dX13_addSet_11 (mvP (f := 1150) (q := (x + 33)) rfl rfl (ms_p_1150 (mS.sB h))) ?_
  refine v_aload_n hX dX13_addSet_14 (i := 0) rfl rfl ?_
  refine v_get hX (ci := 11) (k := 48) (ms_kx (mS.sB h)) bc_11 (by decide) (by decide) in_11 w_6_24 dX13_addSet_15 (mvF (f := 1148) (v := iI se) rfl rfl (by simp (disch := omega) only [y_I_s_I, x_I_s_I, z_I_s_J, z_I_s_A, z_I_s_B, e_se])) ?_
  refine v_iload_n hX dX13_addSet_18 (i := 3) rfl rfl ?_
  refine u_iast hX (L := 400) (ms_k_1150 (mS.sB h)) (ms_l_1150 (mS.sB h)) ⟨by omega, by omega⟩ (by decide) dX13_addSet_19 ?_
  refine v_lload_n hX dX13_addSet_20 (i := 1) rfl rfl ?_
  refine v_callS hX (n := 1) (k_chainOf (S := (s_A (s_B S (x + 32) se.toNat (jJ nm)) (x + 33) se.toNat (iI val))) (x := 0) (v := nm) ⟨by omega, by omega⟩ (by omega)) w_7_94 w_7_95 w_1_16 w_7_96 (by decide +kernel) rfl ⟨by decide, by decide⟩ ⟨by omega, by omega⟩ (Nat.le_of_ble_eq_true rfl) rfl dX13_addSet_21 (fun _ _ _ q => q) ?_
  rintro r1_ S1_ z1_ ⟨rfl, rfl, v2_, rfl, b_v2_, q1_⟩
  refine v_istore hX (lv' := [(4, .int (iI v2_)), (0, .ref x), (1, .long (jJ nm)), (3, .int (iI val))]) dX13_addSet_24 (by rw [hnL]; decide) rfl ?_
  refine v_aload_n hX dX13_addSet_26 (i := 0) rfl rfl ?_
  refine v_get hX (ci := 11) (k := 51) (ms_kx (mS.sA (mS.sB h))) bc_11 (by decide) (by decide) in_11 w_6_27 dX13_addSet_27 (mvP (f := 1151) (q := (x + 34)) rfl rfl (ms_p_1151 (mS.sA (mS.sB h)))) ?_
  refine v_aload_n hX dX13_addSet_30 (i := 0) rfl rfl ?_
  refine v_get hX (ci := 11) (k := 48) (ms_kx (mS.sA (mS.sB h))) bc_11 (by decide) (by decide) in_11 w_6_24 dX13_addSet_31 (mvF (f := 1148) (v := iI se) rfl rfl (by simp (disch := omega) only [y_I_s_I, x_I_s_I, z_I_s_J, z_I_s_A, z_I_s_B, e_se])) ?_
  refine v_aload_n hX dX13_addSet_34 (i := 0) rfl rfl ?_
  refine v_get hX (ci := 11) (k := 52) (ms_kx (mS.sA (mS.sB h))) bc_11 (by decide) (by decide) in_11 w_6_28 dX13_addSet_35 (mvP (f := 1152) (q := (x + 35)) rfl rfl (ms_p_1152 (mS.sA (mS.sB h)))) ?_
  refine v_iload hX dX13_addSet_38 rfl ?_
  refine u_iald hX (L := 1021) (ms_k_1152 (mS.sA (mS.sB h))) (ms_l_1152 (mS.sA (mS.sB h))) ⟨by omega, by omega⟩ (by decide) dX13_addSet_40 (fun v3_ e_v3_ b_v3_ => ?_)
  try simp (disch := omega) only [zr_I, zr_J, zr_B, rA_A, zl_I, zl_J, zl_A, lA_B] at e_v3_
  have g1_ := so.2.1 v2_ (by omega) (by omega)
  refine u_iast hX (L := 400) (ms_k_1151 (mS.sA (mS.sB h))) (ms_l_1151 (mS.sA (mS.sB h))) ⟨by omega, by omega⟩ (by decide) dX13_addSet_41 ?_
  refine v_aload_n hX dX13_addSet_42 (i := 0) rfl rfl ?_
  refine v_get hX (ci := 11) (k := 52) (ms_kx (mS.sA (mS.sA (mS.sB h)))) bc_11 (by decide) (by decide) in_11 w_6_28 dX13_addSet_43 (mvP (f := 1152) (q := (x + 35)) rfl rfl (ms_p_1152 (mS.sA (mS.sA (mS.sB h))))) ?_
  refine v_iload hX dX13_addSet_46 rfl ?_
  refine v_aload_n hX dX13_addSet_48 (i := 0) rfl rfl ?_
  refine v_get hX (ci := 11) (k := 48) (ms_kx (mS.sA (mS.sA (mS.sB h)))) bc_11 (by decide) (by decide) in_11 w_6_24 dX13_addSet_49 (mvF (f := 1148) (v := iI se) rfl rfl (by simp (disch := omega) only [y_I_s_I, x_I_s_I, z_I_s_J, z_I_s_A, z_I_s_B, e_se])) ?_
  refine u_iast hX (L := 1021) (ms_k_1152 (mS.sA (mS.sA (mS.sB h)))) (ms_l_1152 (mS.sA (mS.sA (mS.sB h)))) ⟨by omega, by omega⟩ (by decide) dX13_addSet_52 ?_
  refine v_aload_n hX dX13_addSet_53 (i := 0) rfl rfl ?_
  refine v_dup hX dX13_addSet_54 rfl ?_
  refine v_get hX (ci := 11) (k := 48) (ms_kx (mS.sA (mS.sA (mS.sA (mS.sB h))))) bc_11 (by decide) (by decide) in_11 w_6_24 dX13_addSet_55 (mvF (f := 1148) (v := iI se) rfl rfl (by simp (disch := omega) only [y_I_s_I, x_I_s_I, z_I_s_J, z_I_s_A, z_I_s_B, e_se])) ?_
  refine v_iconst hX (v := iI 1) dX13_addSet_58 rfl ?_
  refine u_iadd hX dX13_addSet_59 ?_
  refine v_putI hX (ci := 11) (k := 48) (f := 1148) (ms_kx (mS.sA (mS.sA (mS.sA (mS.sB h))))) bc_11 (by decide) (by decide) in_11 tyX13_ok nmX13 w_6_24 (Or.inl rfl) rfl rfl dX13_addSet_60 rfl rfl ?_
  have so9 : sOk (s_I (s_A (s_A (s_A (s_B S (x + 32) se.toNat (jJ nm)) (x + 33) se.toNat (iI val)) (x + 34) se.toNat (iI v3_)) (x + 35) v2_.toNat (iI se)) 1148 x (iI (se + 1))) x (se + 1) := by
    refine ⟨⟨by omega, by omega⟩, fun i g1 g2 => ?_, fun i g1 g2 => ?_⟩
    · by_cases g : i = v2_
      · simp (disch := omega) only [zr_I, zr_J, zr_B, rA_A, zl_I, zl_J, zl_A, lA_B, rA_y]; omega
      · simp (disch := omega) only [zr_I, zr_J, zr_B, rA_A, zl_I, zl_J, zl_A, lA_B, rA_x]; have := so.2.1 i g1 g2; omega
    · by_cases g : i = se
      · simp (disch := omega) only [zr_I, zr_J, zr_B, rA_A, zl_I, zl_J, zl_A, lA_B, rA_y]; omega
      · simp (disch := omega) only [zr_I, zr_J, zr_B, rA_A, zl_I, zl_J, zl_A, lA_B, rA_x]; have := so.2.2 i g1 (by omega); omega
  exact v_return hX hE dX13_addSet_63 (by omega) (by omega) ⟨rfl, ((((((mFr.rf _ _).sB (by decide)).sA (by decide)).sA (by decide)).sA (by decide)).sI (by decide)), (se + 1), rfl, (by simp (disch := omega) only [y_I_s_I, x_I_s_I, z_I_s_J, z_I_s_A, z_I_s_B, e_se]), ⟨by omega, by omega⟩, (by omega), so9⟩
set_option maxRecDepth 100000 in
set_option maxHeartbeats 4000000 in
theorem k_troubleOf {kn : Nat → Nat} {B : Nat} {S : b_M} {z x : Nat} {op : Int} {its : Int} {nm : Int} {val : Int} {st_ : Int} {sn : Int} {un : Int} {se : Int} (h : mS S x) (e_st_ : m_I S 1128 x = iI st_) (b_st_ : -2147483648 ≤ st_ ∧ st_ < 2147483648) (e_sn : m_I S 1148 x = iI sn) (b_sn : -2147483648 ≤ sn ∧ sn < 2147483648) (e_un : m_I S 1162 x = iI un) (b_un : -2147483648 ≤ un ∧ un < 2147483648) (b_op : -2147483648 ≤ op ∧ op < 2147483648) (b_its : -9223372036854775808 ≤ its ∧ its < 9223372036854775808) (b_nm : -9223372036854775808 ≤ nm ∧ nm < 9223372036854775808) (b_val : -2147483648 ≤ val ∧ val < 2147483648) (so : sOk S x se) (p : 0 ≤ st_ ∧ st_ ≤ 400 ∧ 0 ≤ its ∧ 0 ≤ nm) : b_C kn B yX13_troubleOf cX13_troubleOf 7 (some .int) 3 66 0 0 [.ref x, .int (iI op), .long (jJ its), .long (jJ nm), .int (iI val)] S z (fun r S' z' => z = z' ∧ S = S' ∧ ∃ q : Int, r = some (.int (iI q)) ∧ (-2147483648 ≤ q ∧ q < 2147483648) ∧ (0 ≤ q ∧ q ≤ 6 ∧ (q = 0 → (st_ = 400 → its = 0 ∧ op = 11) ∧ (op = 11 → sn ≠ 400) ∧ (op = 9 → 0 ≤ val ∧ val ≤ 1000)))) (fun _ _ _ => False) := by
  refine b_enter (by decide) (Nat.le_of_ble_eq_true rfl) ?_
  intro X hX hE hnL hkn hB hI_
  subst hkn; subst hB
  clear hI_
  have L98 : ((op = 9 → 0 ≤ val ∧ val ≤ 1000) ∧ (op = 11 → sn ≠ 400)) → b_V X S z 0 0 98 [(0, .ref x), (1, .int (iI op)), (2, .long (jJ its)), (4, .long (jJ nm)), (6, .int (iI val))] [] := by
    intro p98_0
    refine v_aload_n hX dX13_troubleOf_98 (i := 0) rfl rfl ?_
    refine v_get hX (ci := 11) (k := 28) (ms_kx h) bc_11 (by decide) (by decide) in_11 w_6_4 dX13_troubleOf_99 (mvF (f := 1128) (v := iI st_) rfl rfl (by simp (disch := omega) only [y_I_s_I, x_I_s_I, z_I_s_J, z_I_s_A, z_I_s_B, e_st_, e_sn, e_un])) ?_
    refine v_sipush hX (v := iI 400) dX13_troubleOf_102 (by decide) ?_
    refine u_icmp_ne hX (tgt := 125) dX13_troubleOf_105 (by decide) ⟨by omega, by omega⟩ ⟨by omega, by omega⟩ (fun h1_ => ?_) (fun h1_ => ?_)
    ·
      refine v_iconst hX (v := iI 0) dX13_troubleOf_125 rfl ?_
      exact v_ireturn hX hE dX13_troubleOf_126 (by omega) (by omega) ⟨rfl, rfl, 0, rfl, ⟨by omega, by omega⟩, (by omega)⟩
    ·
      refine v_lload_n hX dX13_troubleOf_108 (i := 2) rfl rfl ?_
      refine v_lconst hX (v := jJ 0) dX13_troubleOf_109 rfl ?_
      refine u_lcmp hX dX13_troubleOf_110 ⟨by omega, by omega⟩ ⟨by omega, by omega⟩ (fun v2_ b_v2_ c_v2_ => ?_)
      refine u_if_gt hX (tgt := 120) dX13_troubleOf_111 (by decide) ⟨by omega, by omega⟩ (fun h3_ => ?_) (fun h3_ => ?_)
      ·
        refine v_bipush hX (v := iI 6) dX13_troubleOf_120 (by decide) ?_
        refine v_goto hX (tgt := 126) dX13_troubleOf_122 (by decide) ?_
        exact v_ireturn hX hE dX13_troubleOf_126 (by omega) (by omega) ⟨rfl, rfl, 6, rfl, ⟨by omega, by omega⟩, (by omega)⟩
      ·
        refine v_iload_n hX dX13_troubleOf_114 (i := 1) rfl rfl ?_
        refine v_bipush hX (v := iI 11) dX13_troubleOf_115 (by decide) ?_
        refine u_icmp_eq hX (tgt := 125) dX13_troubleOf_117 (by decide) ⟨by omega, by omega⟩ ⟨by omega, by omega⟩ (fun h4_ => ?_) (fun h4_ => ?_)
        ·
          refine v_iconst hX (v := iI 0) dX13_troubleOf_125 rfl ?_
          exact v_ireturn hX hE dX13_troubleOf_126 (by omega) (by omega) ⟨rfl, rfl, 0, rfl, ⟨by omega, by omega⟩, (by omega)⟩
        ·
          refine v_bipush hX (v := iI 6) dX13_troubleOf_120 (by decide) ?_
          refine v_goto hX (tgt := 126) dX13_troubleOf_122 (by decide) ?_
          exact v_ireturn hX hE dX13_troubleOf_126 (by omega) (by omega) ⟨rfl, rfl, 6, rfl, ⟨by omega, by omega⟩, (by omega)⟩
  have L79 : (op = 9 → 0 ≤ val ∧ val ≤ 1000) → b_V X S z 0 0 79 [(0, .ref x), (1, .int (iI op)), (2, .long (jJ its)), (4, .long (jJ nm)), (6, .int (iI val))] [] := by
    intro p79_0
    refine v_iload_n hX dX13_troubleOf_79 (i := 1) rfl rfl ?_
    refine v_bipush hX (v := iI 11) dX13_troubleOf_80 (by decide) ?_
    refine u_icmp_ne hX (tgt := 98) dX13_troubleOf_82 (by decide) ⟨by omega, by omega⟩ ⟨by omega, by omega⟩ (fun h5_ => ?_) (fun h5_ => ?_)
    ·
      exact L98 (by omega)
    ·
      refine v_aload_n hX dX13_troubleOf_85 (i := 0) rfl rfl ?_
      refine v_get hX (ci := 11) (k := 48) (ms_kx h) bc_11 (by decide) (by decide) in_11 w_6_24 dX13_troubleOf_86 (mvF (f := 1148) (v := iI sn) rfl rfl (by simp (disch := omega) only [y_I_s_I, x_I_s_I, z_I_s_J, z_I_s_A, z_I_s_B, e_st_, e_sn, e_un])) ?_
      refine v_sipush hX (v := iI 400) dX13_troubleOf_89 (by decide) ?_
      refine u_icmp_ne hX (tgt := 98) dX13_troubleOf_92 (by decide) ⟨by omega, by omega⟩ ⟨by omega, by omega⟩ (fun h6_ => ?_) (fun h6_ => ?_)
      ·
        exact L98 (by omega)
      ·
        refine v_bipush hX (v := iI 6) dX13_troubleOf_95 (by decide) ?_
        exact v_ireturn hX hE dX13_troubleOf_97 (by omega) (by omega) ⟨rfl, rfl, 6, rfl, ⟨by omega, by omega⟩, (by omega)⟩
  have L59 : b_V X S z 0 0 59 [(0, .ref x), (1, .int (iI op)), (2, .long (jJ its)), (4, .long (jJ nm)), (6, .int (iI val))] [] := by
    refine v_iload_n hX dX13_troubleOf_59 (i := 1) rfl rfl ?_
    refine v_bipush hX (v := iI 9) dX13_troubleOf_60 (by decide) ?_
    refine u_icmp_ne hX (tgt := 79) dX13_troubleOf_62 (by decide) ⟨by omega, by omega⟩ ⟨by omega, by omega⟩ (fun h7_ => ?_) (fun h7_ => ?_)
    ·
      exact L79 (by omega)
    ·
      refine v_iload hX dX13_troubleOf_65 rfl ?_
      refine v_iconst hX (v := iI 0) dX13_troubleOf_67 rfl ?_
      refine v_sipush hX (v := iI 1000) dX13_troubleOf_68 (by decide) ?_
      refine v_callS hX (n := 3) (k_within (S := S) (x := 0) (v := val) (a := 0) (b := 1000) ⟨by omega, by omega⟩ ⟨by omega, by omega⟩ ⟨by omega, by omega⟩) w_6_210 w_6_211 w_1_16 w_6_212 (by decide +kernel) rfl ⟨by decide, by decide⟩ ⟨by omega, by omega⟩ (Nat.le_of_ble_eq_true rfl) rfl dX13_troubleOf_71 (fun _ _ _ q => q) ?_
      rintro r8_ S8_ z8_ ⟨rfl, rfl, v9_, rfl, b_v9_, q8_⟩
      refine u_if_ne hX (tgt := 79) dX13_troubleOf_74 (by decide) ⟨by omega, by omega⟩ (fun h10_ => ?_) (fun h10_ => ?_)
      ·
        exact L79 (by omega)
      ·
        refine v_iconst hX (v := iI 5) dX13_troubleOf_77 rfl ?_
        exact v_ireturn hX hE dX13_troubleOf_78 (by omega) (by omega) ⟨rfl, rfl, 5, rfl, ⟨by omega, by omega⟩, (by omega)⟩
  have L38 : b_V X S z 0 0 38 [(0, .ref x), (1, .int (iI op)), (2, .long (jJ its)), (4, .long (jJ nm)), (6, .int (iI val))] [] := by
    refine v_iload_n hX dX13_troubleOf_38 (i := 1) rfl rfl ?_
    refine v_bipush hX (v := iI 11) dX13_troubleOf_39 (by decide) ?_
    refine u_icmp_eq hX (tgt := 50) dX13_troubleOf_41 (by decide) ⟨by omega, by omega⟩ ⟨by omega, by omega⟩ (fun h11_ => ?_) (fun h11_ => ?_)
    ·
      refine v_aload_n hX dX13_troubleOf_50 (i := 0) rfl rfl ?_
      refine v_get hX (ci := 11) (k := 62) (ms_kx h) bc_11 (by decide) (by decide) in_11 w_6_38 dX13_troubleOf_51 (mvF (f := 1162) (v := iI un) rfl rfl (by simp (disch := omega) only [y_I_s_I, x_I_s_I, z_I_s_J, z_I_s_A, z_I_s_B, e_st_, e_sn, e_un])) ?_
      refine u_if_eq hX (tgt := 59) dX13_troubleOf_54 (by decide) ⟨by omega, by omega⟩ (fun h12_ => ?_) (fun h12_ => ?_)
      ·
        exact L59
      ·
        refine v_iconst hX (v := iI 4) dX13_troubleOf_57 rfl ?_
        exact v_ireturn hX hE dX13_troubleOf_58 (by omega) (by omega) ⟨rfl, rfl, 4, rfl, ⟨by omega, by omega⟩, (by omega)⟩
    ·
      refine v_iload_n hX dX13_troubleOf_44 (i := 1) rfl rfl ?_
      refine v_bipush hX (v := iI 9) dX13_troubleOf_45 (by decide) ?_
      refine u_icmp_ne hX (tgt := 59) dX13_troubleOf_47 (by decide) ⟨by omega, by omega⟩ ⟨by omega, by omega⟩ (fun h13_ => ?_) (fun h13_ => ?_)
      ·
        exact L59
      ·
        refine v_aload_n hX dX13_troubleOf_50 (i := 0) rfl rfl ?_
        refine v_get hX (ci := 11) (k := 62) (ms_kx h) bc_11 (by decide) (by decide) in_11 w_6_38 dX13_troubleOf_51 (mvF (f := 1162) (v := iI un) rfl rfl (by simp (disch := omega) only [y_I_s_I, x_I_s_I, z_I_s_J, z_I_s_A, z_I_s_B, e_st_, e_sn, e_un])) ?_
        refine u_if_eq hX (tgt := 59) dX13_troubleOf_54 (by decide) ⟨by omega, by omega⟩ (fun h14_ => ?_) (fun h14_ => ?_)
        ·
          exact L59
        ·
          refine v_iconst hX (v := iI 4) dX13_troubleOf_57 rfl ?_
          exact v_ireturn hX hE dX13_troubleOf_58 (by omega) (by omega) ⟨rfl, rfl, 4, rfl, ⟨by omega, by omega⟩, (by omega)⟩
  change b_V X S z 0 0 0 [(0, .ref x), (1, .int (iI op)), (2, .long (jJ its)), (4, .long (jJ nm)), (6, .int (iI val))] []
  refine v_lload_n hX dX13_troubleOf_0 (i := 2) rfl rfl ?_
  refine v_lconst hX (v := jJ 0) dX13_troubleOf_1 rfl ?_
  refine u_lcmp hX dX13_troubleOf_2 ⟨by omega, by omega⟩ ⟨by omega, by omega⟩ (fun v15_ b_v15_ c_v15_ => ?_)
  refine u_if_le hX (tgt := 14) dX13_troubleOf_3 (by decide) ⟨by omega, by omega⟩ (fun h16_ => ?_) (fun h16_ => ?_)
  ·
    refine v_iload_n hX dX13_troubleOf_14 (i := 1) rfl rfl ?_
    refine v_bipush hX (v := iI 11) dX13_troubleOf_15 (by decide) ?_
    refine u_icmp_ne hX (tgt := 38) dX13_troubleOf_17 (by decide) ⟨by omega, by omega⟩ ⟨by omega, by omega⟩ (fun h17_ => ?_) (fun h17_ => ?_)
    ·
      exact L38
    ·
      refine v_aload_n hX dX13_troubleOf_20 (i := 0) rfl rfl ?_
      refine v_lload hX dX13_troubleOf_21 rfl ?_
      refine v_callV hX (n := 1) (k_isThere (S := S) (x := x) (v := nm) (st_ := st_) h (by simp (disch := omega) only [y_I_s_I, x_I_s_I, z_I_s_J, z_I_s_A, z_I_s_B, e_st_, e_sn, e_un]) ⟨by omega, by omega⟩ ⟨by omega, by omega⟩ so (by omega)) (ms_kx h) bc_11 (by decide) w_7_82 w_7_84 (bw_p (q := (yX13_isThere, 72)) (List.mem_of_getElem? (i := 62) rfl) rfl) w_1_16 w_7_85 (by decide +kernel) rfl ⟨by decide, by decide⟩ ⟨by omega, by omega⟩ (Nat.le_of_ble_eq_true rfl) rfl dX13_troubleOf_23 (fun _ _ _ q => q) ?_
      rintro r18_ S18_ z18_ ⟨rfl, rfl, v19_, rfl, b_v19_, q18_⟩
      refine u_if_ne hX (tgt := 36) dX13_troubleOf_26 (by decide) ⟨by omega, by omega⟩ (fun h20_ => ?_) (fun h20_ => ?_)
      ·
        refine v_iconst hX (v := iI 3) dX13_troubleOf_36 rfl ?_
        exact v_ireturn hX hE dX13_troubleOf_37 (by omega) (by omega) ⟨rfl, rfl, 3, rfl, ⟨by omega, by omega⟩, (by omega)⟩
      ·
        refine v_lload hX dX13_troubleOf_29 rfl ?_
        refine v_lload_n hX dX13_troubleOf_31 (i := 2) rfl rfl ?_
        refine u_lcmp hX dX13_troubleOf_32 ⟨by omega, by omega⟩ ⟨by omega, by omega⟩ (fun v21_ b_v21_ c_v21_ => ?_)
        refine u_if_ne hX (tgt := 38) dX13_troubleOf_33 (by decide) ⟨by omega, by omega⟩ (fun h22_ => ?_) (fun h22_ => ?_)
        ·
          exact L38
        ·
          refine v_iconst hX (v := iI 3) dX13_troubleOf_36 rfl ?_
          exact v_ireturn hX hE dX13_troubleOf_37 (by omega) (by omega) ⟨rfl, rfl, 3, rfl, ⟨by omega, by omega⟩, (by omega)⟩
  ·
    refine v_aload_n hX dX13_troubleOf_6 (i := 0) rfl rfl ?_
    refine v_lload_n hX dX13_troubleOf_7 (i := 2) rfl rfl ?_
    refine v_callV hX (n := 1) (k_isThere (S := S) (x := x) (v := its) (st_ := st_) h (by simp (disch := omega) only [y_I_s_I, x_I_s_I, z_I_s_J, z_I_s_A, z_I_s_B, e_st_, e_sn, e_un]) ⟨by omega, by omega⟩ ⟨by omega, by omega⟩ so (by omega)) (ms_kx h) bc_11 (by decide) w_7_82 w_7_84 (bw_p (q := (yX13_isThere, 72)) (List.mem_of_getElem? (i := 62) rfl) rfl) w_1_16 w_7_85 (by decide +kernel) rfl ⟨by decide, by decide⟩ ⟨by omega, by omega⟩ (Nat.le_of_ble_eq_true rfl) rfl dX13_troubleOf_8 (fun _ _ _ q => q) ?_
    rintro r23_ S23_ z23_ ⟨rfl, rfl, v24_, rfl, b_v24_, q23_⟩
    refine u_if_ne hX (tgt := 36) dX13_troubleOf_11 (by decide) ⟨by omega, by omega⟩ (fun h25_ => ?_) (fun h25_ => ?_)
    ·
      refine v_iconst hX (v := iI 3) dX13_troubleOf_36 rfl ?_
      exact v_ireturn hX hE dX13_troubleOf_37 (by omega) (by omega) ⟨rfl, rfl, 3, rfl, ⟨by omega, by omega⟩, (by omega)⟩
    ·
      refine v_iload_n hX dX13_troubleOf_14 (i := 1) rfl rfl ?_
      refine v_bipush hX (v := iI 11) dX13_troubleOf_15 (by decide) ?_
      refine u_icmp_ne hX (tgt := 38) dX13_troubleOf_17 (by decide) ⟨by omega, by omega⟩ ⟨by omega, by omega⟩ (fun h26_ => ?_) (fun h26_ => ?_)
      ·
        exact L38
      ·
        refine v_aload_n hX dX13_troubleOf_20 (i := 0) rfl rfl ?_
        refine v_lload hX dX13_troubleOf_21 rfl ?_
        refine v_callV hX (n := 1) (k_isThere (S := S) (x := x) (v := nm) (st_ := st_) h (by simp (disch := omega) only [y_I_s_I, x_I_s_I, z_I_s_J, z_I_s_A, z_I_s_B, e_st_, e_sn, e_un]) ⟨by omega, by omega⟩ ⟨by omega, by omega⟩ so (by omega)) (ms_kx h) bc_11 (by decide) w_7_82 w_7_84 (bw_p (q := (yX13_isThere, 72)) (List.mem_of_getElem? (i := 62) rfl) rfl) w_1_16 w_7_85 (by decide +kernel) rfl ⟨by decide, by decide⟩ ⟨by omega, by omega⟩ (Nat.le_of_ble_eq_true rfl) rfl dX13_troubleOf_23 (fun _ _ _ q => q) ?_
        rintro r27_ S27_ z27_ ⟨rfl, rfl, v28_, rfl, b_v28_, q27_⟩
        refine u_if_ne hX (tgt := 36) dX13_troubleOf_26 (by decide) ⟨by omega, by omega⟩ (fun h29_ => ?_) (fun h29_ => ?_)
        ·
          refine v_iconst hX (v := iI 3) dX13_troubleOf_36 rfl ?_
          exact v_ireturn hX hE dX13_troubleOf_37 (by omega) (by omega) ⟨rfl, rfl, 3, rfl, ⟨by omega, by omega⟩, (by omega)⟩
        ·
          refine v_lload hX dX13_troubleOf_29 rfl ?_
          refine v_lload_n hX dX13_troubleOf_31 (i := 2) rfl rfl ?_
          refine u_lcmp hX dX13_troubleOf_32 ⟨by omega, by omega⟩ ⟨by omega, by omega⟩ (fun v30_ b_v30_ c_v30_ => ?_)
          refine u_if_ne hX (tgt := 38) dX13_troubleOf_33 (by decide) ⟨by omega, by omega⟩ (fun h31_ => ?_) (fun h31_ => ?_)
          ·
            exact L38
          ·
            refine v_iconst hX (v := iI 3) dX13_troubleOf_36 rfl ?_
            exact v_ireturn hX hE dX13_troubleOf_37 (by omega) (by omega) ⟨rfl, rfl, 3, rfl, ⟨by omega, by omega⟩, (by omega)⟩
set_option maxRecDepth 100000 in
set_option maxHeartbeats 4000000 in
theorem k_isPlainName {kn : Nat → Nat} {B : Nat} {S : b_M} {z x : Nat} {v : Int} (h : mS S x) (b_v : -9223372036854775808 ≤ v ∧ v < 9223372036854775808) : b_C kn B yX13_isPlainName cX13_isPlainName 5 (some .boolean) 0 0 0 0 [.ref x, .long (jJ v)] S z (fun r S' z' => z = z' ∧ S = S' ∧ ∃ q : Int, r = some (.int (iI q)) ∧ (-2147483648 ≤ q ∧ q < 2147483648) ∧ (q = 0 ∨ q = 1)) (fun _ _ _ => False) := by
  refine b_enter (by decide) (Nat.le_of_ble_eq_true rfl) ?_
  intro X hX hE hnL hkn hB hI_
  subst hkn; subst hB
  clear hI_
  have L5 : ∀ (n5 : Nat) (i : Int) (r0 : Int), (0 ≤ i ∧ i ≤ 7 ∧ (r0 = 0 ∨ r0 = 1)) → (7 - i).toNat = n5 → b_V X S z 0 0 5 [(4, .int (iI i)), (3, .int (iI r0)), (0, .ref x), (1, .long (jJ v))] [] := by
    intro n5
    induction n5 using Nat.strongRecOn with
    | _ n5 ih5 =>
    intro i r0 p5_0 hm5
    refine v_iload hX dX13_isPlainName_5 rfl ?_
    refine v_bipush hX (v := iI 7) dX13_isPlainName_7 (by decide) ?_
    refine u_icmp_ge hX (tgt := 40) dX13_isPlainName_9 (by decide) ⟨by omega, by omega⟩ ⟨by omega, by omega⟩ (fun h1_ => ?_) (fun h1_ => ?_)
    ·
      refine v_iload_n hX dX13_isPlainName_40 (i := 3) rfl rfl ?_
      exact v_zreturn hX (nar_b (by omega)) hE dX13_isPlainName_41 (by omega) (by omega) ⟨rfl, rfl, r0, rfl, ⟨by omega, by omega⟩, (by omega)⟩
    ·
      refine v_iload_n hX dX13_isPlainName_12 (i := 3) rfl rfl ?_
      refine u_if_ne hX (tgt := 28) dX13_isPlainName_13 (by decide) ⟨by omega, by omega⟩ (fun h2_ => ?_) (fun h2_ => ?_)
      ·
        refine v_iconst hX (v := iI 1) dX13_isPlainName_28 rfl ?_
        refine v_goto hX (tgt := 33) dX13_isPlainName_29 (by decide) ?_
        refine v_istore_n hX (lv' := [(3, .int (iI 1)), (4, .int (iI i)), (0, .ref x), (1, .long (jJ v))]) dX13_isPlainName_33 (i := 3) rfl (by rw [hnL]; decide) rfl ?_
        refine v_iinc hX (v := iI (i + 1)) (lv' := [(4, .int (iI (i + 1))), (3, .int (iI 1)), (0, .ref x), (1, .long (jJ v))]) dX13_isPlainName_34 rfl (iI_add _ _) (by rw [hnL]; decide) rfl ?_
        refine v_goto hX (tgt := 5) dX13_isPlainName_37 (by decide) ?_
        exact ih5 _ (by omega) (i + 1) 1 (by omega) rfl
      ·
        refine v_aload_n hX dX13_isPlainName_16 (i := 0) rfl rfl ?_
        refine v_get hX (ci := 11) (k := 0) (ms_kx h) bc_11 (by decide) (by decide) in_11 w_5_216 dX13_isPlainName_17 (mvP (f := 1100) (q := (x + 1)) rfl rfl (ms_p_1100 h)) ?_
        refine v_iload hX dX13_isPlainName_20 rfl ?_
        refine u_lald hX (L := 7) (ms_k_1100 h) (ms_l_1100 h) ⟨by omega, by omega⟩ (by decide) dX13_isPlainName_22 (fun v3_ e_v3_ b_v3_ => ?_)
        refine v_lload_n hX dX13_isPlainName_23 (i := 1) rfl rfl ?_
        refine u_lcmp hX dX13_isPlainName_24 ⟨by omega, by omega⟩ ⟨by omega, by omega⟩ (fun v4_ b_v4_ c_v4_ => ?_)
        refine u_if_ne hX (tgt := 32) dX13_isPlainName_25 (by decide) ⟨by omega, by omega⟩ (fun h5_ => ?_) (fun h5_ => ?_)
        ·
          refine v_iconst hX (v := iI 0) dX13_isPlainName_32 rfl ?_
          refine v_istore_n hX (lv' := [(3, .int (iI 0)), (4, .int (iI i)), (0, .ref x), (1, .long (jJ v))]) dX13_isPlainName_33 (i := 3) rfl (by rw [hnL]; decide) rfl ?_
          refine v_iinc hX (v := iI (i + 1)) (lv' := [(4, .int (iI (i + 1))), (3, .int (iI 0)), (0, .ref x), (1, .long (jJ v))]) dX13_isPlainName_34 rfl (iI_add _ _) (by rw [hnL]; decide) rfl ?_
          refine v_goto hX (tgt := 5) dX13_isPlainName_37 (by decide) ?_
          exact ih5 _ (by omega) (i + 1) 0 (by omega) rfl
        ·
          refine v_iconst hX (v := iI 1) dX13_isPlainName_28 rfl ?_
          refine v_goto hX (tgt := 33) dX13_isPlainName_29 (by decide) ?_
          refine v_istore_n hX (lv' := [(3, .int (iI 1)), (4, .int (iI i)), (0, .ref x), (1, .long (jJ v))]) dX13_isPlainName_33 (i := 3) rfl (by rw [hnL]; decide) rfl ?_
          refine v_iinc hX (v := iI (i + 1)) (lv' := [(4, .int (iI (i + 1))), (3, .int (iI 1)), (0, .ref x), (1, .long (jJ v))]) dX13_isPlainName_34 rfl (iI_add _ _) (by rw [hnL]; decide) rfl ?_
          refine v_goto hX (tgt := 5) dX13_isPlainName_37 (by decide) ?_
          exact ih5 _ (by omega) (i + 1) 1 (by omega) rfl
  change b_V X S z 0 0 0 [(0, .ref x), (1, .long (jJ v))] []
  refine v_iconst hX (v := iI 0) dX13_isPlainName_0 rfl ?_
  refine v_istore_n hX (lv' := [(3, .int (iI 0)), (0, .ref x), (1, .long (jJ v))]) dX13_isPlainName_1 (i := 3) rfl (by rw [hnL]; decide) rfl ?_
  refine v_iconst hX (v := iI 0) dX13_isPlainName_2 rfl ?_
  refine v_istore hX (lv' := [(4, .int (iI 0)), (3, .int (iI 0)), (0, .ref x), (1, .long (jJ v))]) dX13_isPlainName_3 (by rw [hnL]; decide) rfl ?_
  exact L5 _ 0 0 (by omega) rfl
set_option maxRecDepth 100000 in
set_option maxHeartbeats 4000000 in
theorem k_findMacro2 {kn : Nat → Nat} {B : Nat} {S : b_M} {z x : Nat} {v : Int} {mc_ : Int} (h : mS S x) (e_mc_ : m_I S 1112 x = iI mc_) (b_mc_ : -2147483648 ≤ mc_ ∧ mc_ < 2147483648) (b_v : -9223372036854775808 ≤ v ∧ v < 9223372036854775808) (p : 0 ≤ mc_ ∧ mc_ ≤ 12) : b_C kn B yX13_findMacro cX13_findMacro 4 (some .int) 0 0 0 0 [.ref x, .long (jJ v)] S z (fun r S' z' => z = z' ∧ S = S' ∧ ∃ q : Int, r = some (.int (iI q)) ∧ (-2147483648 ≤ q ∧ q < 2147483648) ∧ (-1 ≤ q ∧ q < mc_) ∧ (q = -1 → ∀ j : Int, 0 ≤ j → j < mc_ → lAt S (x + 6) j ≠ v) ∧ (0 ≤ q → lAt S (x + 6) q = v)) (fun _ _ _ => False) := by
  refine b_enter (by decide) (Nat.le_of_ble_eq_true rfl) ?_
  intro X hX hE hnL hkn hB hI_
  subst hkn; subst hB
  clear hI_
  have L2 : ∀ (n2 : Nat) (i : Int), (0 ≤ i ∧ i ≤ mc_) → (∀ j : Int, 0 ≤ j → j < i → lAt S (x + 6) j ≠ v) → (mc_ - i).toNat = n2 → b_V X S z 0 0 2 [(3, .int (iI i)), (0, .ref x), (1, .long (jJ v))] [] := by
    intro n2
    induction n2 using Nat.strongRecOn with
    | _ n2 ih2 =>
    intro i p2_0 p2_1 hm2
    refine v_iload_n hX dX13_findMacro_2 (i := 3) rfl rfl ?_
    refine v_aload_n hX dX13_findMacro_3 (i := 0) rfl rfl ?_
    refine v_get hX (ci := 11) (k := 12) (ms_kx h) bc_11 (by decide) (by decide) in_11 w_5_228 dX13_findMacro_4 (mvF (f := 1112) (v := iI mc_) rfl rfl (by simp (disch := omega) only [y_I_s_I, x_I_s_I, z_I_s_J, z_I_s_A, z_I_s_B, e_mc_])) ?_
    refine u_icmp_ge hX (tgt := 29) dX13_findMacro_7 (by decide) ⟨by omega, by omega⟩ ⟨by omega, by omega⟩ (fun h1_ => ?_) (fun h1_ => ?_)
    ·
      refine v_iconst hX (v := iI (-1)) dX13_findMacro_29 rfl ?_
      exact v_ireturn hX hE dX13_findMacro_30 (by omega) (by omega) ⟨rfl, rfl, (-1), rfl, ⟨by omega, by omega⟩, (by omega), (fun g j g1 g2 => p2_1 j g1 (by omega)), (fun g => absurd g (by omega))⟩
    ·
      refine v_aload_n hX dX13_findMacro_10 (i := 0) rfl rfl ?_
      refine v_get hX (ci := 11) (k := 15) (ms_kx h) bc_11 (by decide) (by decide) in_11 w_5_231 dX13_findMacro_11 (mvP (f := 1115) (q := (x + 6)) rfl rfl (ms_p_1115 h)) ?_
      refine v_iload_n hX dX13_findMacro_14 (i := 3) rfl rfl ?_
      refine u_lald hX (L := 12) (ms_k_1115 h) (ms_l_1115 h) ⟨by omega, by omega⟩ (by decide) dX13_findMacro_15 (fun v2_ e_v2_ b_v2_ => ?_)
      refine v_lload_n hX dX13_findMacro_16 (i := 1) rfl rfl ?_
      refine u_lcmp hX dX13_findMacro_17 ⟨by omega, by omega⟩ ⟨by omega, by omega⟩ (fun v3_ b_v3_ c_v3_ => ?_)
      refine u_if_ne hX (tgt := 23) dX13_findMacro_18 (by decide) ⟨by omega, by omega⟩ (fun h4_ => ?_) (fun h4_ => ?_)
      ·
        refine v_iinc hX (v := iI (i + 1)) (lv' := [(3, .int (iI (i + 1))), (0, .ref x), (1, .long (jJ v))]) dX13_findMacro_23 rfl (iI_add _ _) (by rw [hnL]; decide) rfl ?_
        refine v_goto hX (tgt := 2) dX13_findMacro_26 (by decide) ?_
        exact ih2 _ (by omega) (i + 1) (by omega) (fun j g1 g2 => by rcases (show j < i ∨ j = i by omega) with g | g; exact p2_1 j g1 g; rw [g]; omega) rfl
      ·
        refine v_iload_n hX dX13_findMacro_21 (i := 3) rfl rfl ?_
        exact v_ireturn hX hE dX13_findMacro_22 (by omega) (by omega) ⟨rfl, rfl, i, rfl, ⟨by omega, by omega⟩, (by omega), (fun g => absurd g (by omega)), (fun _ => by omega)⟩
  change b_V X S z 0 0 0 [(0, .ref x), (1, .long (jJ v))] []
  refine v_iconst hX (v := iI 0) dX13_findMacro_0 rfl ?_
  refine v_istore_n hX (lv' := [(3, .int (iI 0)), (0, .ref x), (1, .long (jJ v))]) dX13_findMacro_1 (i := 3) rfl (by rw [hnL]; decide) rfl ?_
  exact L2 _ 0 (by omega) (fun j g1 g2 => absurd g2 (by omega)) rfl
set_option maxRecDepth 100000 in
set_option maxHeartbeats 4000000 in
theorem k_plainOperation {kn : Nat → Nat} {B : Nat} {S : b_M} {z x : Nat} {v : Int} {mc_ : Int} (h : mS S x) (e_mc_ : m_I S 1112 x = iI mc_) (b_mc_ : -2147483648 ≤ mc_ ∧ mc_ < 2147483648) (b_v : -9223372036854775808 ≤ v ∧ v < 9223372036854775808) (p : 0 ≤ mc_ ∧ mc_ ≤ 12) : b_C kn B yX13_plainOperation cX13_plainOperation 4 (some .int) 1 23 0 0 [.ref x, .long (jJ v)] S z (fun r S' z' => z = z' ∧ S = S' ∧ ∃ q : Int, r = some (.int (iI q)) ∧ (-2147483648 ≤ q ∧ q < 2147483648) ∧ (q = -1 ∨ (1 ≤ q ∧ q ≤ 7) ∨ (14 ≤ q ∧ q < 14 + mc_))) (fun _ _ _ => False) := by
  refine b_enter (by decide) (Nat.le_of_ble_eq_true rfl) ?_
  intro X hX hE hnL hkn hB hI_
  subst hkn; subst hB
  clear hI_
  have L2 : ∀ (n2 : Nat) (i : Int), (0 ≤ i ∧ i ≤ 7) → (7 - i).toNat = n2 → b_V X S z 0 0 2 [(3, .int (iI i)), (0, .ref x), (1, .long (jJ v))] [] := by
    intro n2
    induction n2 using Nat.strongRecOn with
    | _ n2 ih2 =>
    intro i p2_0 hm2
    refine v_iload_n hX dX13_plainOperation_2 (i := 3) rfl rfl ?_
    refine v_bipush hX (v := iI 7) dX13_plainOperation_3 (by decide) ?_
    refine u_icmp_ge hX (tgt := 29) dX13_plainOperation_5 (by decide) ⟨by omega, by omega⟩ ⟨by omega, by omega⟩ (fun h1_ => ?_) (fun h1_ => ?_)
    ·
      refine v_aload_n hX dX13_plainOperation_29 (i := 0) rfl rfl ?_
      refine v_lload_n hX dX13_plainOperation_30 (i := 1) rfl rfl ?_
      refine v_callV hX (n := 1) (k_findMacro2 (S := S) (x := x) (v := v) (mc_ := mc_) h (by simp (disch := omega) only [y_I_s_I, x_I_s_I, z_I_s_J, z_I_s_A, z_I_s_B, e_mc_]) ⟨by omega, by omega⟩ ⟨by omega, by omega⟩ (by omega)) (ms_kx h) bc_11 (by decide) w_7_54 w_7_56 (bw_p (q := (yX13_findMacro, 72)) (List.mem_of_getElem? (i := 55) rfl) rfl) w_1_16 w_7_57 (by decide +kernel) rfl ⟨by decide, by decide⟩ ⟨by omega, by omega⟩ (Nat.le_of_ble_eq_true rfl) rfl dX13_plainOperation_31 (fun _ _ _ q => q) ?_
      rintro r2_ S2_ z2_ ⟨rfl, rfl, v3_, rfl, b_v3_, q2_, q2_0, q2_1⟩
      refine u_if_lt hX (tgt := 48) dX13_plainOperation_34 (by decide) ⟨by omega, by omega⟩ (fun h4_ => ?_) (fun h4_ => ?_)
      ·
        refine v_iconst hX (v := iI (-1)) dX13_plainOperation_48 rfl ?_
        exact v_ireturn hX hE dX13_plainOperation_49 (by omega) (by omega) ⟨rfl, rfl, (-1), rfl, ⟨by omega, by omega⟩, (by omega)⟩
      ·
        refine v_bipush hX (v := iI 14) dX13_plainOperation_37 (by decide) ?_
        refine v_aload_n hX dX13_plainOperation_39 (i := 0) rfl rfl ?_
        refine v_lload_n hX dX13_plainOperation_40 (i := 1) rfl rfl ?_
        refine v_callV hX (n := 1) (k_findMacro2 (S := S) (x := x) (v := v) (mc_ := mc_) h (by simp (disch := omega) only [y_I_s_I, x_I_s_I, z_I_s_J, z_I_s_A, z_I_s_B, e_mc_]) ⟨by omega, by omega⟩ ⟨by omega, by omega⟩ (by omega)) (ms_kx h) bc_11 (by decide) w_7_54 w_7_56 (bw_p (q := (yX13_findMacro, 72)) (List.mem_of_getElem? (i := 55) rfl) rfl) w_1_16 w_7_57 (by decide +kernel) rfl ⟨by decide, by decide⟩ ⟨by omega, by omega⟩ (Nat.le_of_ble_eq_true rfl) rfl dX13_plainOperation_41 (fun _ _ _ q => q) ?_
        rintro r5_ S5_ z5_ ⟨rfl, rfl, v6_, rfl, b_v6_, q5_, q5_0, q5_1⟩
        have g44_ : v6_ ≠ -1 := fun g => q5_0 g v3_ (by omega) (by omega) (q2_1 (by omega))
        refine u_iadd hX dX13_plainOperation_44 ?_
        refine v_goto hX (tgt := 49) dX13_plainOperation_45 (by decide) ?_
        exact v_ireturn hX hE dX13_plainOperation_49 (by omega) (by omega) ⟨rfl, rfl, (14 + v6_), rfl, ⟨by omega, by omega⟩, (by omega)⟩
    ·
      refine v_aload_n hX dX13_plainOperation_8 (i := 0) rfl rfl ?_
      refine v_get hX (ci := 11) (k := 0) (ms_kx h) bc_11 (by decide) (by decide) in_11 w_5_216 dX13_plainOperation_9 (mvP (f := 1100) (q := (x + 1)) rfl rfl (ms_p_1100 h)) ?_
      refine v_iload_n hX dX13_plainOperation_12 (i := 3) rfl rfl ?_
      refine u_lald hX (L := 7) (ms_k_1100 h) (ms_l_1100 h) ⟨by omega, by omega⟩ (by decide) dX13_plainOperation_13 (fun v7_ e_v7_ b_v7_ => ?_)
      refine v_lload_n hX dX13_plainOperation_14 (i := 1) rfl rfl ?_
      refine u_lcmp hX dX13_plainOperation_15 ⟨by omega, by omega⟩ ⟨by omega, by omega⟩ (fun v8_ b_v8_ c_v8_ => ?_)
      refine u_if_ne hX (tgt := 23) dX13_plainOperation_16 (by decide) ⟨by omega, by omega⟩ (fun h9_ => ?_) (fun h9_ => ?_)
      ·
        refine v_iinc hX (v := iI (i + 1)) (lv' := [(3, .int (iI (i + 1))), (0, .ref x), (1, .long (jJ v))]) dX13_plainOperation_23 rfl (iI_add _ _) (by rw [hnL]; decide) rfl ?_
        refine v_goto hX (tgt := 2) dX13_plainOperation_26 (by decide) ?_
        exact ih2 _ (by omega) (i + 1) (by omega) rfl
      ·
        refine v_iconst hX (v := iI 1) dX13_plainOperation_19 rfl ?_
        refine v_iload_n hX dX13_plainOperation_20 (i := 3) rfl rfl ?_
        refine u_iadd hX dX13_plainOperation_21 ?_
        exact v_ireturn hX hE dX13_plainOperation_22 (by omega) (by omega) ⟨rfl, rfl, (1 + i), rfl, ⟨by omega, by omega⟩, (by omega)⟩
  change b_V X S z 0 0 0 [(0, .ref x), (1, .long (jJ v))] []
  refine v_iconst hX (v := iI 0) dX13_plainOperation_0 rfl ?_
  refine v_istore_n hX (lv' := [(3, .int (iI 0)), (0, .ref x), (1, .long (jJ v))]) dX13_plainOperation_1 (i := 3) rfl (by rw [hnL]; decide) rfl ?_
  exact L2 _ 0 (by omega) rfl
set_option maxRecDepth 100000 in
set_option maxHeartbeats 4000000 in
theorem k_putIn {kn : Nat → Nat} {B : Nat} {S : b_M} {z x : Nat} {c : Int} {ls : Int} (h : mS S x) (e_ls : m_I S 1107 x = iI ls) (b_ls : -2147483648 ≤ ls ∧ ls < 2147483648) (b_c : -2147483648 ≤ c ∧ c < 2147483648) (p : 0 ≤ ls ∧ ls < 8400) : b_C kn B yX13_putIn cX13_putIn 2 none 0 0 0 0 [.ref x, .int (iI c)] S z (fun r S' z' => z = z' ∧ mFr [1107] [] [5] S S' x ∧ ∃ l1 : Int, r = none ∧ m_I S' 1107 x = iI l1 ∧ (-2147483648 ≤ l1 ∧ l1 < 2147483648) ∧ (l1 = ls + 1)) (fun _ _ _ => False) := by
  refine b_enter (by decide) (Nat.le_of_ble_eq_true rfl) ?_
  intro X hX hE hnL hkn hB hI_
  subst hkn; subst hB
  clear hI_
  change b_V X S z 0 0 0 [(0, .ref x), (1, .int (iI c))] []
  refine v_aload_n hX dX13_putIn_0 (i := 0) rfl rfl ?_
  refine v_get hX (ci := 11) (k := 11) (ms_kx h) bc_11 (by decide) (by decide) in_11 w_5_227 dX13_putIn_1 (mvP (f := 1111) (q := (x + 5)) rfl rfl (ms_p_1111 h)) ?_
  refine v_aload_n hX dX13_putIn_4 (i := 0) rfl rfl ?_
  refine v_get hX (ci := 11) (k := 7) (ms_kx h) bc_11 (by decide) (by decide) in_11 w_5_223 dX13_putIn_5 (mvF (f := 1107) (v := iI ls) rfl rfl (by simp (disch := omega) only [y_I_s_I, x_I_s_I, z_I_s_J, z_I_s_A, z_I_s_B, e_ls])) ?_
  refine v_iload_n hX dX13_putIn_8 (i := 1) rfl rfl ?_
  refine u_iast hX (L := 8400) (ms_k_1111 h) (ms_l_1111 h) ⟨by omega, by omega⟩ (by decide) dX13_putIn_9 ?_
  refine v_aload_n hX dX13_putIn_10 (i := 0) rfl rfl ?_
  refine v_dup hX dX13_putIn_11 rfl ?_
  refine v_get hX (ci := 11) (k := 7) (ms_kx (mS.sA h)) bc_11 (by decide) (by decide) in_11 w_5_223 dX13_putIn_12 (mvF (f := 1107) (v := iI ls) rfl rfl (by simp (disch := omega) only [y_I_s_I, x_I_s_I, z_I_s_J, z_I_s_A, z_I_s_B, e_ls])) ?_
  refine v_iconst hX (v := iI 1) dX13_putIn_15 rfl ?_
  refine u_iadd hX dX13_putIn_16 ?_
  refine v_putI hX (ci := 11) (k := 7) (f := 1107) (ms_kx (mS.sA h)) bc_11 (by decide) (by decide) in_11 tyX13_ok nmX13 w_5_223 (Or.inl rfl) rfl rfl dX13_putIn_17 rfl rfl ?_
  exact v_return hX hE dX13_putIn_20 (by omega) (by omega) ⟨rfl, (((mFr.rf _ _).sA (by decide)).sI (by decide)), (ls + 1), rfl, (by simp (disch := omega) only [y_I_s_I, x_I_s_I, z_I_s_J, z_I_s_A, z_I_s_B, e_ls]), ⟨by omega, by omega⟩, (by omega)⟩
set_option maxRecDepth 100000 in
set_option maxHeartbeats 4000000 in
theorem k_isPlain {kn : Nat → Nat} {B : Nat} {S : b_M} {z x : Nat} {ls : Int} (h : mS S x) (e_ls : m_I S 1107 x = iI ls) (b_ls : -2147483648 ≤ ls ∧ ls < 2147483648) (p : ls ≤ 8400) : b_C kn B yX13_isPlain cX13_isPlain 2 (some .boolean) 1 22 0 0 [.ref x] S z (fun r S' z' => z = z' ∧ S = S' ∧ ∃ q : Int, r = some (.int (iI q)) ∧ (-2147483648 ≤ q ∧ q < 2147483648) ∧ (q = 0 ∨ q = 1)) (fun _ _ _ => False) := by
  refine b_enter (by decide) (Nat.le_of_ble_eq_true rfl) ?_
  intro X hX hE hnL hkn hB hI_
  subst hkn; subst hB
  clear hI_
  have L2 : ∀ (n2 : Nat) (i : Int), (0 ≤ i ∧ (i = 0 ∨ i ≤ ls)) → (ls - i).toNat = n2 → b_V X S z 0 0 2 [(1, .int (iI i)), (0, .ref x)] [] := by
    intro n2
    induction n2 using Nat.strongRecOn with
    | _ n2 ih2 =>
    intro i p2_0 hm2
    refine v_iload_n hX dX13_isPlain_2 (i := 1) rfl rfl ?_
    refine v_aload_n hX dX13_isPlain_3 (i := 0) rfl rfl ?_
    refine v_get hX (ci := 11) (k := 7) (ms_kx h) bc_11 (by decide) (by decide) in_11 w_5_223 dX13_isPlain_4 (mvF (f := 1107) (v := iI ls) rfl rfl (by simp (disch := omega) only [y_I_s_I, x_I_s_I, z_I_s_J, z_I_s_A, z_I_s_B, e_ls])) ?_
    refine u_icmp_ge hX (tgt := 34) dX13_isPlain_7 (by decide) ⟨by omega, by omega⟩ ⟨by omega, by omega⟩ (fun h1_ => ?_) (fun h1_ => ?_)
    ·
      refine v_iconst hX (v := iI 1) dX13_isPlain_34 rfl ?_
      exact v_zreturn hX (nar_b (by omega)) hE dX13_isPlain_35 (by omega) (by omega) ⟨rfl, rfl, 1, rfl, ⟨by omega, by omega⟩, (by omega)⟩
    ·
      refine v_aload_n hX dX13_isPlain_10 (i := 0) rfl rfl ?_
      refine v_get hX (ci := 11) (k := 11) (ms_kx h) bc_11 (by decide) (by decide) in_11 w_5_227 dX13_isPlain_11 (mvP (f := 1111) (q := (x + 5)) rfl rfl (ms_p_1111 h)) ?_
      refine v_iload_n hX dX13_isPlain_14 (i := 1) rfl rfl ?_
      refine u_iald hX (L := 8400) (ms_k_1111 h) (ms_l_1111 h) ⟨by omega, by omega⟩ (by decide) dX13_isPlain_15 (fun v2_ e_v2_ b_v2_ => ?_)
      refine v_bipush hX (v := iI 32) dX13_isPlain_16 (by decide) ?_
      refine v_bipush hX (v := iI 126) dX13_isPlain_18 (by decide) ?_
      refine v_callS hX (n := 3) (k_within (S := S) (x := 0) (v := v2_) (a := 32) (b := 126) ⟨by omega, by omega⟩ ⟨by omega, by omega⟩ ⟨by omega, by omega⟩) w_6_210 w_6_211 w_1_16 w_6_212 (by decide +kernel) rfl ⟨by decide, by decide⟩ ⟨by omega, by omega⟩ (Nat.le_of_ble_eq_true rfl) rfl dX13_isPlain_20 (fun _ _ _ q => q) ?_
      rintro r3_ S3_ z3_ ⟨rfl, rfl, v4_, rfl, b_v4_, q3_⟩
      refine u_if_ne hX (tgt := 28) dX13_isPlain_23 (by decide) ⟨by omega, by omega⟩ (fun h5_ => ?_) (fun h5_ => ?_)
      ·
        refine v_iinc hX (v := iI (i + 1)) (lv' := [(1, .int (iI (i + 1))), (0, .ref x)]) dX13_isPlain_28 rfl (iI_add _ _) (by rw [hnL]; decide) rfl ?_
        refine v_goto hX (tgt := 2) dX13_isPlain_31 (by decide) ?_
        exact ih2 _ (by omega) (i + 1) (by omega) rfl
      ·
        refine v_iconst hX (v := iI 0) dX13_isPlain_26 rfl ?_
        exact v_zreturn hX (nar_b (by omega)) hE dX13_isPlain_27 (by omega) (by omega) ⟨rfl, rfl, 0, rfl, ⟨by omega, by omega⟩, (by omega)⟩
  change b_V X S z 0 0 0 [(0, .ref x)] []
  refine v_iconst hX (v := iI 0) dX13_isPlain_0 rfl ?_
  refine v_istore_n hX (lv' := [(1, .int (iI 0)), (0, .ref x)]) dX13_isPlain_1 (i := 1) rfl (by rw [hnL]; decide) rfl ?_
  exact L2 _ 0 (by omega) rfl
set_option maxRecDepth 100000 in
set_option maxHeartbeats 4000000 in
theorem k_cutComment {kn : Nat → Nat} {B : Nat} {S : b_M} {z x : Nat} {ls : Int} (h : mS S x) (e_ls : m_I S 1107 x = iI ls) (b_ls : -2147483648 ≤ ls ∧ ls < 2147483648) (p : 0 ≤ ls ∧ ls ≤ 8400) : b_C kn B yX13_cutComment cX13_cutComment 2 none 0 0 0 0 [.ref x] S z (fun r S' z' => z = z' ∧ mFr [1107] [] [] S S' x ∧ ∃ l1 : Int, r = none ∧ m_I S' 1107 x = iI l1 ∧ (-2147483648 ≤ l1 ∧ l1 < 2147483648) ∧ (0 ≤ l1 ∧ l1 ≤ ls)) (fun _ _ _ => False) := by
  refine b_enter (by decide) (Nat.le_of_ble_eq_true rfl) ?_
  intro X hX hE hnL hkn hB hI_
  subst hkn; subst hB
  clear hI_
  have L2 : ∀ (n2 : Nat) (S2c : b_M) (l0 : Int) (i : Int), mFr [1107] [] [] S S2c x → m_I S2c 1107 x = iI l0 → (-2147483648 ≤ l0 ∧ l0 < 2147483648) → (0 ≤ i ∧ i ≤ ls ∧ l0 = ls) → (ls - i).toNat = n2 → b_V X S2c z 0 0 2 [(1, .int (iI i)), (0, .ref x)] [] := by
    intro n2
    induction n2 using Nat.strongRecOn with
    | _ n2 ih2 =>
    intro S2c l0 i fr2 e_l0 b_l0 p2_0 hm2
    have h2c : mS S2c x := fr2.keep h
    refine v_iload_n hX dX13_cutComment_2 (i := 1) rfl rfl ?_
    refine v_aload_n hX dX13_cutComment_3 (i := 0) rfl rfl ?_
    refine v_get hX (ci := 11) (k := 7) (ms_kx h2c) bc_11 (by decide) (by decide) in_11 w_5_223 dX13_cutComment_4 (mvF (f := 1107) (v := iI l0) rfl rfl (by simp (disch := omega) only [y_I_s_I, x_I_s_I, z_I_s_J, z_I_s_A, z_I_s_B, e_l0])) ?_
    refine u_icmp_ge hX (tgt := 27) dX13_cutComment_7 (by decide) ⟨by omega, by omega⟩ ⟨by omega, by omega⟩ (fun h1_ => ?_) (fun h1_ => ?_)
    ·
      refine v_aload_n hX dX13_cutComment_27 (i := 0) rfl rfl ?_
      refine v_iload_n hX dX13_cutComment_28 (i := 1) rfl rfl ?_
      refine v_putI hX (ci := 11) (k := 7) (f := 1107) (ms_kx h2c) bc_11 (by decide) (by decide) in_11 tyX13_ok nmX13 w_5_223 (Or.inl rfl) rfl rfl dX13_cutComment_29 rfl rfl ?_
      exact v_return hX hE dX13_cutComment_32 (by omega) (by omega) ⟨rfl, (fr2.sI (by decide)), i, rfl, (by simp (disch := omega) only [y_I_s_I, x_I_s_I, z_I_s_J, z_I_s_A, z_I_s_B, e_l0]), ⟨by omega, by omega⟩, (by omega)⟩
    ·
      refine v_aload_n hX dX13_cutComment_10 (i := 0) rfl rfl ?_
      refine v_get hX (ci := 11) (k := 11) (ms_kx h2c) bc_11 (by decide) (by decide) in_11 w_5_227 dX13_cutComment_11 (mvP (f := 1111) (q := (x + 5)) rfl rfl (ms_p_1111 h2c)) ?_
      refine v_iload_n hX dX13_cutComment_14 (i := 1) rfl rfl ?_
      refine u_iald hX (L := 8400) (ms_k_1111 h2c) (ms_l_1111 h2c) ⟨by omega, by omega⟩ (by decide) dX13_cutComment_15 (fun v2_ e_v2_ b_v2_ => ?_)
      try simp (disch := omega) only [zr_I, zr_J, zr_B, rA_A, zl_I, zl_J, zl_A, lA_B] at e_v2_
      refine v_bipush hX (v := iI 59) dX13_cutComment_16 (by decide) ?_
      refine u_icmp_eq hX (tgt := 27) dX13_cutComment_18 (by decide) ⟨by omega, by omega⟩ ⟨by omega, by omega⟩ (fun h3_ => ?_) (fun h3_ => ?_)
      ·
        refine v_aload_n hX dX13_cutComment_27 (i := 0) rfl rfl ?_
        refine v_iload_n hX dX13_cutComment_28 (i := 1) rfl rfl ?_
        refine v_putI hX (ci := 11) (k := 7) (f := 1107) (ms_kx h2c) bc_11 (by decide) (by decide) in_11 tyX13_ok nmX13 w_5_223 (Or.inl rfl) rfl rfl dX13_cutComment_29 rfl rfl ?_
        exact v_return hX hE dX13_cutComment_32 (by omega) (by omega) ⟨rfl, (fr2.sI (by decide)), i, rfl, (by simp (disch := omega) only [y_I_s_I, x_I_s_I, z_I_s_J, z_I_s_A, z_I_s_B, e_l0]), ⟨by omega, by omega⟩, (by omega)⟩
      ·
        refine v_iinc hX (v := iI (i + 1)) (lv' := [(1, .int (iI (i + 1))), (0, .ref x)]) dX13_cutComment_21 rfl (iI_add _ _) (by rw [hnL]; decide) rfl ?_
        refine v_goto hX (tgt := 2) dX13_cutComment_24 (by decide) ?_
        exact ih2 _ (by omega) _ l0 (i + 1) fr2 (by simp (disch := omega) only [y_I_s_I, x_I_s_I, z_I_s_J, z_I_s_A, z_I_s_B, e_l0]) ⟨by omega, by omega⟩ (by omega) rfl
  change b_V X S z 0 0 0 [(0, .ref x)] []
  refine v_iconst hX (v := iI 0) dX13_cutComment_0 rfl ?_
  refine v_istore_n hX (lv' := [(1, .int (iI 0)), (0, .ref x)]) dX13_cutComment_1 (i := 1) rfl (by rw [hnL]; decide) rfl ?_
  exact L2 _ _ ls 0 (mFr.rf _ _) (by simp (disch := omega) only [y_I_s_I, x_I_s_I, z_I_s_J, z_I_s_A, z_I_s_B, e_ls]) ⟨by omega, by omega⟩ (by omega) rfl
set_option maxRecDepth 100000 in
set_option maxHeartbeats 4000000 in
theorem k_takeLabel {kn : Nat → Nat} {B : Nat} {S : b_M} {z x : Nat} {at_ : Int} {ls : Int} {bd : Int} (h : mS S x) (e_at_ : m_I S 1108 x = iI at_) (b_at_ : -2147483648 ≤ at_ ∧ at_ < 2147483648) (e_ls : m_I S 1107 x = iI ls) (b_ls : -2147483648 ≤ ls ∧ ls < 2147483648) (e_bd : m_I S 1110 x = iI bd) (b_bd : -2147483648 ≤ bd ∧ bd < 2147483648) (p : 0 ≤ at_ ∧ ls ≤ 8400 ∧ (bd = 0 ∨ bd = 1) ∧ at_ ≤ 8400 ∧ 0 ≤ ls) : b_C kn B yX13_takeLabel cX13_takeLabel 4 (some .long) 5 105 0 0 [.ref x] S z (fun r S' z' => z = z' ∧ mFr [1108, 1110] [] [] S S' x ∧ ∃ w1 a1 b1 : Int, r = some (.long (jJ w1)) ∧ (-9223372036854775808 ≤ w1 ∧ w1 < 9223372036854775808) ∧ m_I S' 1108 x = iI a1 ∧ (-2147483648 ≤ a1 ∧ a1 < 2147483648) ∧ m_I S' 1110 x = iI b1 ∧ (-2147483648 ≤ b1 ∧ b1 < 2147483648) ∧ (0 ≤ w1 ∧ w1 < 1152921504606846976 ∧ at_ ≤ a1 ∧ (a1 = at_ ∨ a1 = at_ + 1 ∨ a1 ≤ ls + 1) ∧ (b1 = 0 ∨ b1 = 1) ∧ (b1 = 0 → bd = 0))) (fun _ _ _ => False) := by
  refine b_enter (by decide) (Nat.le_of_ble_eq_true rfl) ?_
  intro X hX hE hnL hkn hB hI_
  subst hkn; subst hB
  clear hI_
  have L87 : ∀ (S87c : b_M) (a0 : Int) (w : Int) (bb : Int), mFr [1108, 1110] [] [] S S87c x → m_I S87c 1108 x = iI a0 → (-2147483648 ≤ a0 ∧ a0 < 2147483648) → (0 ≤ w ∧ w < 1152921504606846976 ∧ at_ ≤ a0 ∧ (a0 = at_ ∨ a0 ≤ ls) ∧ (bb = 0 ∨ bb = 1) ∧ (bb = 0 → bd = 0)) → b_V X S87c z 0 0 87 [(2, .long (jJ w)), (0, .ref x)] [.int (iI bb), .ref x] := by
    intro S87c a0 w bb fr87 e_a0 b_a0 p87_0
    have h87c : mS S87c x := fr87.keep h
    have hc87_5 : ∀ i, rAt S87c (x + 5) i = rAt S (x + 5) i := fun i => (fr87.1 (x + 5) (by omega) (fun j hj => absurd hj List.not_mem_nil)).rA i
    have e87_ls : m_I S87c 1107 x = iI ls := (fr87.2.2.2.1 1107 (by decide)).trans e_ls
    refine v_putI hX (ci := 11) (k := 10) (f := 1110) (ms_kx h87c) bc_11 (by decide) (by decide) in_11 tyX13_ok nmX13 w_5_226 (Or.inl rfl) (nar_b (by omega)) (fit_b (by omega)) dX13_takeLabel_87 rfl rfl ?_
    refine v_aload_n hX dX13_takeLabel_90 (i := 0) rfl rfl ?_
    refine v_dup hX dX13_takeLabel_91 rfl ?_
    refine v_get hX (ci := 11) (k := 8) (ms_kx (mS.sI h87c)) bc_11 (by decide) (by decide) in_11 w_5_224 dX13_takeLabel_92 (mvF (f := 1108) (v := iI a0) rfl rfl (by simp (disch := omega) only [y_I_s_I, x_I_s_I, z_I_s_J, z_I_s_A, z_I_s_B, e87_ls, e_a0])) ?_
    refine v_iconst hX (v := iI 1) dX13_takeLabel_95 rfl ?_
    refine u_iadd hX dX13_takeLabel_96 ?_
    refine v_putI hX (ci := 11) (k := 8) (f := 1108) (ms_kx (mS.sI h87c)) bc_11 (by decide) (by decide) in_11 tyX13_ok nmX13 w_5_224 (Or.inl rfl) rfl rfl dX13_takeLabel_97 rfl rfl ?_
    refine v_aload_n hX dX13_takeLabel_100 (i := 0) rfl rfl ?_
    refine v_callV hX (n := 0) (k_passBlanks (S := (s_I (s_I S87c 1110 x (iI bb)) 1108 x (iI (a0 + 1)))) (x := x) (at_ := (a0 + 1)) (ls := ls) (mS.sI (mS.sI h87c)) (by simp (disch := omega) only [y_I_s_I, x_I_s_I, z_I_s_J, z_I_s_A, z_I_s_B, e87_ls, e_a0]) ⟨by omega, by omega⟩ (by simp (disch := omega) only [y_I_s_I, x_I_s_I, z_I_s_J, z_I_s_A, z_I_s_B, e87_ls, e_a0]) ⟨by omega, by omega⟩ (by omega)) (ms_kx (mS.sI (mS.sI h87c))) bc_11 (by decide) w_7_25 w_7_27 (bw_p (q := (yX13_passBlanks, 72)) (List.mem_of_getElem? (i := 50) rfl) rfl) w_1_16 w_7_28 (by decide +kernel) rfl ⟨by decide, by decide⟩ ⟨by omega, by omega⟩ (Nat.le_of_ble_eq_true rfl) rfl dX13_takeLabel_101 (fun _ _ _ q => q) ?_
    rintro r1_ S1_ z1_ ⟨rfl, f1_, v2_, rfl, e_v2_, b_v2_, q1_, q1_0⟩
    try simp (disch := omega) only [zr_I, zr_J, zr_B, rA_A, zl_I, zl_J, zl_A, lA_B, hc87_5] at q1_0
    have e1_1107 : m_I S1_ 1107 x = iI ls := (f1_.2.2.2.1 1107 (by decide)).trans (by simp (disch := omega) only [y_I_s_I, x_I_s_I, z_I_s_J, z_I_s_A, z_I_s_B, e87_ls, e_a0])
    have e1_1110 : m_I S1_ 1110 x = iI bb := (f1_.2.2.2.1 1110 (by decide)).trans (by simp (disch := omega) only [y_I_s_I, x_I_s_I, z_I_s_J, z_I_s_A, z_I_s_B, e87_ls, e_a0])
    have h1_ : mS S1_ x := f1_.keep (mS.sI (mS.sI h87c))
    have hc1_5 : ∀ i, rAt S1_ (x + 5) i = rAt S (x + 5) i := fun i => ((f1_.1 (x + 5) (by omega) (fun j hj => absurd hj List.not_mem_nil)).rA i).trans (by simp (disch := omega) only [zr_I, zr_J, zr_B, rA_A, zl_I, zl_J, zl_A, lA_B, hc87_5])
    refine v_lload_n hX dX13_takeLabel_104 (i := 2) rfl rfl ?_
    exact v_lreturn hX hE dX13_takeLabel_105 (by omega) (by omega) ⟨rfl, (((fr87.sI (by decide)).sI (by decide)).tr (f1_.mono (by decide) (by decide) (by decide))), w, v2_, bb, rfl, ⟨by omega, by omega⟩, (by simp (disch := omega) only [y_I_s_I, x_I_s_I, z_I_s_J, z_I_s_A, z_I_s_B, e1_1107, e1_1110, e_v2_]), ⟨by omega, by omega⟩, (by simp (disch := omega) only [y_I_s_I, x_I_s_I, z_I_s_J, z_I_s_A, z_I_s_B, e1_1107, e1_1110, e_v2_]), ⟨by omega, by omega⟩, (by omega)⟩
  have L60 : ∀ (S60c : b_M) (a0 : Int) (b0 : Int), mFr [1108, 1110] [] [] S S60c x → m_I S60c 1108 x = iI a0 → m_I S60c 1110 x = iI b0 → (-2147483648 ≤ a0 ∧ a0 < 2147483648) → (-2147483648 ≤ b0 ∧ b0 < 2147483648) → (a0 = at_ ∧ b0 = bd) → b_V X S60c z 0 0 60 [(0, .ref x)] [] := by
    intro S60c a0 b0 fr60 e_a0 e_b0 b_a0 b_b0 p60_0
    have h60c : mS S60c x := fr60.keep h
    have hc60_5 : ∀ i, rAt S60c (x + 5) i = rAt S (x + 5) i := fun i => (fr60.1 (x + 5) (by omega) (fun j hj => absurd hj List.not_mem_nil)).rA i
    have e60_ls : m_I S60c 1107 x = iI ls := (fr60.2.2.2.1 1107 (by decide)).trans e_ls
    refine v_lconst hX (v := jJ 0) dX13_takeLabel_60 rfl ?_
    exact v_lreturn hX hE dX13_takeLabel_61 (by omega) (by omega) ⟨rfl, fr60, 0, a0, b0, rfl, ⟨by omega, by omega⟩, (by simp (disch := omega) only [y_I_s_I, x_I_s_I, z_I_s_J, z_I_s_A, z_I_s_B, e60_ls, e_a0, e_b0]), ⟨by omega, by omega⟩, (by simp (disch := omega) only [y_I_s_I, x_I_s_I, z_I_s_J, z_I_s_A, z_I_s_B, e60_ls, e_a0, e_b0]), ⟨by omega, by omega⟩, (by omega)⟩
  have L5 : ∀ (n5 : Nat) (S5c : b_M) (a0 : Int) (b0 : Int) (k : Int), mFr [1108, 1110] [] [] S S5c x → m_I S5c 1108 x = iI a0 → m_I S5c 1110 x = iI b0 → (-2147483648 ≤ a0 ∧ a0 < 2147483648) → (-2147483648 ≤ b0 ∧ b0 < 2147483648) → (a0 = at_ ∧ b0 = bd ∧ at_ ≤ k ∧ (k = at_ ∨ k ≤ ls)) → (ls - k).toNat = n5 → b_V X S5c z 0 0 5 [(1, .int (iI k)), (0, .ref x)] [] := by
    intro n5
    induction n5 using Nat.strongRecOn with
    | _ n5 ih5 =>
    intro S5c a0 b0 k fr5 e_a0 e_b0 b_a0 b_b0 p5_0 hm5
    have h5c : mS S5c x := fr5.keep h
    have hc5_5 : ∀ i, rAt S5c (x + 5) i = rAt S (x + 5) i := fun i => (fr5.1 (x + 5) (by omega) (fun j hj => absurd hj List.not_mem_nil)).rA i
    have e5_ls : m_I S5c 1107 x = iI ls := (fr5.2.2.2.1 1107 (by decide)).trans e_ls
    refine v_iload_n hX dX13_takeLabel_5 (i := 1) rfl rfl ?_
    refine v_aload_n hX dX13_takeLabel_6 (i := 0) rfl rfl ?_
    refine v_get hX (ci := 11) (k := 7) (ms_kx h5c) bc_11 (by decide) (by decide) in_11 w_5_223 dX13_takeLabel_7 (mvF (f := 1107) (v := iI ls) rfl rfl (by simp (disch := omega) only [y_I_s_I, x_I_s_I, z_I_s_J, z_I_s_A, z_I_s_B, e5_ls, e_a0, e_b0])) ?_
    refine u_icmp_ge hX (tgt := 31) dX13_takeLabel_10 (by decide) ⟨by omega, by omega⟩ ⟨by omega, by omega⟩ (fun h3_ => ?_) (fun h3_ => ?_)
    ·
      refine v_aload_n hX dX13_takeLabel_31 (i := 0) rfl rfl ?_
      refine v_callV hX (n := 0) (k_now (S := S5c) (x := x) (at_ := a0) (ls := ls) h5c (by simp (disch := omega) only [y_I_s_I, x_I_s_I, z_I_s_J, z_I_s_A, z_I_s_B, e5_ls, e_a0, e_b0]) ⟨by omega, by omega⟩ (by simp (disch := omega) only [y_I_s_I, x_I_s_I, z_I_s_J, z_I_s_A, z_I_s_B, e5_ls, e_a0, e_b0]) ⟨by omega, by omega⟩ (by omega)) (ms_kx h5c) bc_11 (by decide) w_7_29 w_7_31 (bw_p (q := (yX13_now, 72)) (List.mem_of_getElem? (i := 51) rfl) rfl) w_1_16 w_7_32 (by decide +kernel) rfl ⟨by decide, by decide⟩ ⟨by omega, by omega⟩ (Nat.le_of_ble_eq_true rfl) rfl dX13_takeLabel_32 (fun _ _ _ q => q) ?_
      rintro r4_ S4_ z4_ ⟨rfl, rfl, v5_, rfl, b_v5_, q4_⟩
      try simp (disch := omega) only [zr_I, zr_J, zr_B, rA_A, zl_I, zl_J, zl_A, lA_B, hc5_5] at q4_
      refine v_callS hX (n := 1) (k_isStart (S := S5c) (x := 0) (c := v5_) ⟨by omega, by omega⟩) w_6_236 w_6_237 w_1_16 w_6_238 (by decide +kernel) rfl ⟨by decide, by decide⟩ ⟨by omega, by omega⟩ (Nat.le_of_ble_eq_true rfl) rfl dX13_takeLabel_35 (fun _ _ _ q => q) ?_
      rintro r6_ S6_ z6_ ⟨rfl, rfl, v7_, rfl, b_v7_, q6_⟩
      refine u_if_eq hX (tgt := 60) dX13_takeLabel_38 (by decide) ⟨by omega, by omega⟩ (fun h8_ => ?_) (fun h8_ => ?_)
      ·
        refine v_locals (lv' := [(0, .ref x)]) (by simp) ?_
        exact L60 _ a0 b0 fr5 (by simp (disch := omega) only [y_I_s_I, x_I_s_I, z_I_s_J, z_I_s_A, z_I_s_B, e5_ls, e_a0, e_b0]) (by simp (disch := omega) only [y_I_s_I, x_I_s_I, z_I_s_J, z_I_s_A, z_I_s_B, e5_ls, e_a0, e_b0]) ⟨by omega, by omega⟩ ⟨by omega, by omega⟩ (by omega)
      ·
        refine v_iload_n hX dX13_takeLabel_41 (i := 1) rfl rfl ?_
        refine v_aload_n hX dX13_takeLabel_42 (i := 0) rfl rfl ?_
        refine v_get hX (ci := 11) (k := 7) (ms_kx h5c) bc_11 (by decide) (by decide) in_11 w_5_223 dX13_takeLabel_43 (mvF (f := 1107) (v := iI ls) rfl rfl (by simp (disch := omega) only [y_I_s_I, x_I_s_I, z_I_s_J, z_I_s_A, z_I_s_B, e5_ls, e_a0, e_b0])) ?_
        refine u_icmp_eq hX (tgt := 60) dX13_takeLabel_46 (by decide) ⟨by omega, by omega⟩ ⟨by omega, by omega⟩ (fun h9_ => ?_) (fun h9_ => ?_)
        ·
          refine v_locals (lv' := [(0, .ref x)]) (by simp) ?_
          exact L60 _ a0 b0 fr5 (by simp (disch := omega) only [y_I_s_I, x_I_s_I, z_I_s_J, z_I_s_A, z_I_s_B, e5_ls, e_a0, e_b0]) (by simp (disch := omega) only [y_I_s_I, x_I_s_I, z_I_s_J, z_I_s_A, z_I_s_B, e5_ls, e_a0, e_b0]) ⟨by omega, by omega⟩ ⟨by omega, by omega⟩ (by omega)
        ·
          refine v_aload_n hX dX13_takeLabel_49 (i := 0) rfl rfl ?_
          refine v_get hX (ci := 11) (k := 11) (ms_kx h5c) bc_11 (by decide) (by decide) in_11 w_5_227 dX13_takeLabel_50 (mvP (f := 1111) (q := (x + 5)) rfl rfl (ms_p_1111 h5c)) ?_
          refine v_iload_n hX dX13_takeLabel_53 (i := 1) rfl rfl ?_
          refine u_iald hX (L := 8400) (ms_k_1111 h5c) (ms_l_1111 h5c) ⟨by omega, by omega⟩ (by decide) dX13_takeLabel_54 (fun v10_ e_v10_ b_v10_ => ?_)
          try simp (disch := omega) only [zr_I, zr_J, zr_B, rA_A, zl_I, zl_J, zl_A, lA_B, hc5_5] at e_v10_
          refine v_bipush hX (v := iI 58) dX13_takeLabel_55 (by decide) ?_
          refine u_icmp_eq hX (tgt := 62) dX13_takeLabel_57 (by decide) ⟨by omega, by omega⟩ ⟨by omega, by omega⟩ (fun h11_ => ?_) (fun h11_ => ?_)
          ·
            refine v_aload_n hX dX13_takeLabel_62 (i := 0) rfl rfl ?_
            refine v_callV hX (n := 0) (k_takeName (S := S5c) (x := x) (at_ := a0) (ls := ls) (bd := b0) h5c (by simp (disch := omega) only [y_I_s_I, x_I_s_I, z_I_s_J, z_I_s_A, z_I_s_B, e5_ls, e_a0, e_b0]) ⟨by omega, by omega⟩ (by simp (disch := omega) only [y_I_s_I, x_I_s_I, z_I_s_J, z_I_s_A, z_I_s_B, e5_ls, e_a0, e_b0]) ⟨by omega, by omega⟩ (by simp (disch := omega) only [y_I_s_I, x_I_s_I, z_I_s_J, z_I_s_A, z_I_s_B, e5_ls, e_a0, e_b0]) ⟨by omega, by omega⟩ (by omega)) (ms_kx h5c) bc_11 (by decide) w_7_37 w_7_39 (bw_p (q := (yX13_takeName, 72)) (List.mem_of_getElem? (i := 53) rfl) rfl) w_1_16 w_7_40 (by decide +kernel) rfl ⟨by decide, by decide⟩ ⟨by omega, by omega⟩ (Nat.le_of_ble_eq_true rfl) rfl dX13_takeLabel_63 (fun _ _ _ q => q) ?_
            rintro r12_ S12_ z12_ ⟨rfl, f12_, v13_, v14_, v15_, rfl, b_v13_, e_v14_, b_v14_, e_v15_, b_v15_, q12_⟩
            have e12_1107 : m_I S12_ 1107 x = iI ls := (f12_.2.2.2.1 1107 (by decide)).trans (by simp (disch := omega) only [y_I_s_I, x_I_s_I, z_I_s_J, z_I_s_A, z_I_s_B, e5_ls, e_a0, e_b0])
            have h12_ : mS S12_ x := f12_.keep h5c
            have hc12_5 : ∀ i, rAt S12_ (x + 5) i = rAt S (x + 5) i := fun i => ((f12_.1 (x + 5) (by omega) (fun j hj => absurd hj List.not_mem_nil)).rA i).trans (hc5_5 i)
            refine v_lstore_n hX (lv' := [(2, .long (jJ v13_)), (1, .int (iI k)), (0, .ref x)]) dX13_takeLabel_66 (i := 2) rfl (by rw [hnL]; decide) rfl ?_
            refine v_aload_n hX dX13_takeLabel_67 (i := 0) rfl rfl ?_
            refine v_aload_n hX dX13_takeLabel_68 (i := 0) rfl rfl ?_
            refine v_get hX (ci := 11) (k := 10) (ms_kx h12_) bc_11 (by decide) (by decide) in_11 w_5_226 dX13_takeLabel_69 (mvF (f := 1110) (v := iI v15_) rfl rfl (by simp (disch := omega) only [y_I_s_I, x_I_s_I, z_I_s_J, z_I_s_A, z_I_s_B, e12_1107, e_v14_, e_v15_])) ?_
            refine u_if_ne hX (tgt := 82) dX13_takeLabel_72 (by decide) ⟨by omega, by omega⟩ (fun h16_ => ?_) (fun h16_ => ?_)
            ·
              refine v_iconst hX (v := iI 1) dX13_takeLabel_82 rfl ?_
              refine v_goto hX (tgt := 87) dX13_takeLabel_83 (by decide) ?_
              refine v_locals (lv' := [(2, .long (jJ v13_)), (0, .ref x)]) (by simp) ?_
              exact L87 _ v14_ v13_ 1 (fr5.tr (f12_.mono (by decide) (by decide) (by decide))) (by simp (disch := omega) only [y_I_s_I, x_I_s_I, z_I_s_J, z_I_s_A, z_I_s_B, e12_1107, e_v14_, e_v15_]) ⟨by omega, by omega⟩ (by omega)
            ·
              refine v_lload_n hX dX13_takeLabel_75 (i := 2) rfl rfl ?_
              refine v_callS hX (n := 1) (k_isReg (S := S12_) (x := 0) (v := v13_) ⟨by omega, by omega⟩) w_7_45 w_7_46 w_1_16 w_7_47 (by decide +kernel) rfl ⟨by decide, by decide⟩ ⟨by omega, by omega⟩ (Nat.le_of_ble_eq_true rfl) rfl dX13_takeLabel_76 (fun _ _ _ q => q) ?_
              rintro r17_ S17_ z17_ ⟨rfl, rfl, v18_, rfl, b_v18_, q17_⟩
              refine u_if_eq hX (tgt := 86) dX13_takeLabel_79 (by decide) ⟨by omega, by omega⟩ (fun h19_ => ?_) (fun h19_ => ?_)
              ·
                refine v_iconst hX (v := iI 0) dX13_takeLabel_86 rfl ?_
                refine v_locals (lv' := [(2, .long (jJ v13_)), (0, .ref x)]) (by simp) ?_
                exact L87 _ v14_ v13_ 0 (fr5.tr (f12_.mono (by decide) (by decide) (by decide))) (by simp (disch := omega) only [y_I_s_I, x_I_s_I, z_I_s_J, z_I_s_A, z_I_s_B, e12_1107, e_v14_, e_v15_]) ⟨by omega, by omega⟩ (by omega)
              ·
                refine v_iconst hX (v := iI 1) dX13_takeLabel_82 rfl ?_
                refine v_goto hX (tgt := 87) dX13_takeLabel_83 (by decide) ?_
                refine v_locals (lv' := [(2, .long (jJ v13_)), (0, .ref x)]) (by simp) ?_
                exact L87 _ v14_ v13_ 1 (fr5.tr (f12_.mono (by decide) (by decide) (by decide))) (by simp (disch := omega) only [y_I_s_I, x_I_s_I, z_I_s_J, z_I_s_A, z_I_s_B, e12_1107, e_v14_, e_v15_]) ⟨by omega, by omega⟩ (by omega)
          ·
            refine v_locals (lv' := [(0, .ref x)]) (by simp) ?_
            exact L60 _ a0 b0 fr5 (by simp (disch := omega) only [y_I_s_I, x_I_s_I, z_I_s_J, z_I_s_A, z_I_s_B, e5_ls, e_a0, e_b0]) (by simp (disch := omega) only [y_I_s_I, x_I_s_I, z_I_s_J, z_I_s_A, z_I_s_B, e5_ls, e_a0, e_b0]) ⟨by omega, by omega⟩ ⟨by omega, by omega⟩ (by omega)
    ·
      refine v_aload_n hX dX13_takeLabel_13 (i := 0) rfl rfl ?_
      refine v_get hX (ci := 11) (k := 11) (ms_kx h5c) bc_11 (by decide) (by decide) in_11 w_5_227 dX13_takeLabel_14 (mvP (f := 1111) (q := (x + 5)) rfl rfl (ms_p_1111 h5c)) ?_
      refine v_iload_n hX dX13_takeLabel_17 (i := 1) rfl rfl ?_
      refine u_iald hX (L := 8400) (ms_k_1111 h5c) (ms_l_1111 h5c) ⟨by omega, by omega⟩ (by decide) dX13_takeLabel_18 (fun v20_ e_v20_ b_v20_ => ?_)
      try simp (disch := omega) only [zr_I, zr_J, zr_B, rA_A, zl_I, zl_J, zl_A, lA_B, hc5_5] at e_v20_
      refine v_callS hX (n := 1) (k_isPart (S := S5c) (x := 0) (c := v20_) ⟨by omega, by omega⟩) w_6_233 w_6_234 w_1_16 w_6_235 (by decide +kernel) rfl ⟨by decide, by decide⟩ ⟨by omega, by omega⟩ (Nat.le_of_ble_eq_true rfl) rfl dX13_takeLabel_19 (fun _ _ _ q => q) ?_
      rintro r21_ S21_ z21_ ⟨rfl, rfl, v22_, rfl, b_v22_, q21_⟩
      refine u_if_eq hX (tgt := 31) dX13_takeLabel_22 (by decide) ⟨by omega, by omega⟩ (fun h23_ => ?_) (fun h23_ => ?_)
      ·
        refine v_aload_n hX dX13_takeLabel_31 (i := 0) rfl rfl ?_
        refine v_callV hX (n := 0) (k_now (S := S5c) (x := x) (at_ := a0) (ls := ls) h5c (by simp (disch := omega) only [y_I_s_I, x_I_s_I, z_I_s_J, z_I_s_A, z_I_s_B, e5_ls, e_a0, e_b0]) ⟨by omega, by omega⟩ (by simp (disch := omega) only [y_I_s_I, x_I_s_I, z_I_s_J, z_I_s_A, z_I_s_B, e5_ls, e_a0, e_b0]) ⟨by omega, by omega⟩ (by omega)) (ms_kx h5c) bc_11 (by decide) w_7_29 w_7_31 (bw_p (q := (yX13_now, 72)) (List.mem_of_getElem? (i := 51) rfl) rfl) w_1_16 w_7_32 (by decide +kernel) rfl ⟨by decide, by decide⟩ ⟨by omega, by omega⟩ (Nat.le_of_ble_eq_true rfl) rfl dX13_takeLabel_32 (fun _ _ _ q => q) ?_
        rintro r24_ S24_ z24_ ⟨rfl, rfl, v25_, rfl, b_v25_, q24_⟩
        try simp (disch := omega) only [zr_I, zr_J, zr_B, rA_A, zl_I, zl_J, zl_A, lA_B, hc5_5] at q24_
        refine v_callS hX (n := 1) (k_isStart (S := S5c) (x := 0) (c := v25_) ⟨by omega, by omega⟩) w_6_236 w_6_237 w_1_16 w_6_238 (by decide +kernel) rfl ⟨by decide, by decide⟩ ⟨by omega, by omega⟩ (Nat.le_of_ble_eq_true rfl) rfl dX13_takeLabel_35 (fun _ _ _ q => q) ?_
        rintro r26_ S26_ z26_ ⟨rfl, rfl, v27_, rfl, b_v27_, q26_⟩
        refine u_if_eq hX (tgt := 60) dX13_takeLabel_38 (by decide) ⟨by omega, by omega⟩ (fun h28_ => ?_) (fun h28_ => ?_)
        ·
          refine v_locals (lv' := [(0, .ref x)]) (by simp) ?_
          exact L60 _ a0 b0 fr5 (by simp (disch := omega) only [y_I_s_I, x_I_s_I, z_I_s_J, z_I_s_A, z_I_s_B, e5_ls, e_a0, e_b0]) (by simp (disch := omega) only [y_I_s_I, x_I_s_I, z_I_s_J, z_I_s_A, z_I_s_B, e5_ls, e_a0, e_b0]) ⟨by omega, by omega⟩ ⟨by omega, by omega⟩ (by omega)
        ·
          refine v_iload_n hX dX13_takeLabel_41 (i := 1) rfl rfl ?_
          refine v_aload_n hX dX13_takeLabel_42 (i := 0) rfl rfl ?_
          refine v_get hX (ci := 11) (k := 7) (ms_kx h5c) bc_11 (by decide) (by decide) in_11 w_5_223 dX13_takeLabel_43 (mvF (f := 1107) (v := iI ls) rfl rfl (by simp (disch := omega) only [y_I_s_I, x_I_s_I, z_I_s_J, z_I_s_A, z_I_s_B, e5_ls, e_a0, e_b0])) ?_
          refine u_icmp_eq hX (tgt := 60) dX13_takeLabel_46 (by decide) ⟨by omega, by omega⟩ ⟨by omega, by omega⟩ (fun h29_ => ?_) (fun h29_ => ?_)
          ·
            refine v_locals (lv' := [(0, .ref x)]) (by simp) ?_
            exact L60 _ a0 b0 fr5 (by simp (disch := omega) only [y_I_s_I, x_I_s_I, z_I_s_J, z_I_s_A, z_I_s_B, e5_ls, e_a0, e_b0]) (by simp (disch := omega) only [y_I_s_I, x_I_s_I, z_I_s_J, z_I_s_A, z_I_s_B, e5_ls, e_a0, e_b0]) ⟨by omega, by omega⟩ ⟨by omega, by omega⟩ (by omega)
          ·
            refine v_aload_n hX dX13_takeLabel_49 (i := 0) rfl rfl ?_
            refine v_get hX (ci := 11) (k := 11) (ms_kx h5c) bc_11 (by decide) (by decide) in_11 w_5_227 dX13_takeLabel_50 (mvP (f := 1111) (q := (x + 5)) rfl rfl (ms_p_1111 h5c)) ?_
            refine v_iload_n hX dX13_takeLabel_53 (i := 1) rfl rfl ?_
            refine u_iald hX (L := 8400) (ms_k_1111 h5c) (ms_l_1111 h5c) ⟨by omega, by omega⟩ (by decide) dX13_takeLabel_54 (fun v30_ e_v30_ b_v30_ => ?_)
            try simp (disch := omega) only [zr_I, zr_J, zr_B, rA_A, zl_I, zl_J, zl_A, lA_B, hc5_5] at e_v30_
            refine v_bipush hX (v := iI 58) dX13_takeLabel_55 (by decide) ?_
            refine u_icmp_eq hX (tgt := 62) dX13_takeLabel_57 (by decide) ⟨by omega, by omega⟩ ⟨by omega, by omega⟩ (fun h31_ => ?_) (fun h31_ => ?_)
            ·
              refine v_aload_n hX dX13_takeLabel_62 (i := 0) rfl rfl ?_
              refine v_callV hX (n := 0) (k_takeName (S := S5c) (x := x) (at_ := a0) (ls := ls) (bd := b0) h5c (by simp (disch := omega) only [y_I_s_I, x_I_s_I, z_I_s_J, z_I_s_A, z_I_s_B, e5_ls, e_a0, e_b0]) ⟨by omega, by omega⟩ (by simp (disch := omega) only [y_I_s_I, x_I_s_I, z_I_s_J, z_I_s_A, z_I_s_B, e5_ls, e_a0, e_b0]) ⟨by omega, by omega⟩ (by simp (disch := omega) only [y_I_s_I, x_I_s_I, z_I_s_J, z_I_s_A, z_I_s_B, e5_ls, e_a0, e_b0]) ⟨by omega, by omega⟩ (by omega)) (ms_kx h5c) bc_11 (by decide) w_7_37 w_7_39 (bw_p (q := (yX13_takeName, 72)) (List.mem_of_getElem? (i := 53) rfl) rfl) w_1_16 w_7_40 (by decide +kernel) rfl ⟨by decide, by decide⟩ ⟨by omega, by omega⟩ (Nat.le_of_ble_eq_true rfl) rfl dX13_takeLabel_63 (fun _ _ _ q => q) ?_
              rintro r32_ S32_ z32_ ⟨rfl, f32_, v33_, v34_, v35_, rfl, b_v33_, e_v34_, b_v34_, e_v35_, b_v35_, q32_⟩
              have e32_1107 : m_I S32_ 1107 x = iI ls := (f32_.2.2.2.1 1107 (by decide)).trans (by simp (disch := omega) only [y_I_s_I, x_I_s_I, z_I_s_J, z_I_s_A, z_I_s_B, e5_ls, e_a0, e_b0])
              have h32_ : mS S32_ x := f32_.keep h5c
              have hc32_5 : ∀ i, rAt S32_ (x + 5) i = rAt S (x + 5) i := fun i => ((f32_.1 (x + 5) (by omega) (fun j hj => absurd hj List.not_mem_nil)).rA i).trans (hc5_5 i)
              refine v_lstore_n hX (lv' := [(2, .long (jJ v33_)), (1, .int (iI k)), (0, .ref x)]) dX13_takeLabel_66 (i := 2) rfl (by rw [hnL]; decide) rfl ?_
              refine v_aload_n hX dX13_takeLabel_67 (i := 0) rfl rfl ?_
              refine v_aload_n hX dX13_takeLabel_68 (i := 0) rfl rfl ?_
              refine v_get hX (ci := 11) (k := 10) (ms_kx h32_) bc_11 (by decide) (by decide) in_11 w_5_226 dX13_takeLabel_69 (mvF (f := 1110) (v := iI v35_) rfl rfl (by simp (disch := omega) only [y_I_s_I, x_I_s_I, z_I_s_J, z_I_s_A, z_I_s_B, e32_1107, e_v34_, e_v35_])) ?_
              refine u_if_ne hX (tgt := 82) dX13_takeLabel_72 (by decide) ⟨by omega, by omega⟩ (fun h36_ => ?_) (fun h36_ => ?_)
              ·
                refine v_iconst hX (v := iI 1) dX13_takeLabel_82 rfl ?_
                refine v_goto hX (tgt := 87) dX13_takeLabel_83 (by decide) ?_
                refine v_locals (lv' := [(2, .long (jJ v33_)), (0, .ref x)]) (by simp) ?_
                exact L87 _ v34_ v33_ 1 (fr5.tr (f32_.mono (by decide) (by decide) (by decide))) (by simp (disch := omega) only [y_I_s_I, x_I_s_I, z_I_s_J, z_I_s_A, z_I_s_B, e32_1107, e_v34_, e_v35_]) ⟨by omega, by omega⟩ (by omega)
              ·
                refine v_lload_n hX dX13_takeLabel_75 (i := 2) rfl rfl ?_
                refine v_callS hX (n := 1) (k_isReg (S := S32_) (x := 0) (v := v33_) ⟨by omega, by omega⟩) w_7_45 w_7_46 w_1_16 w_7_47 (by decide +kernel) rfl ⟨by decide, by decide⟩ ⟨by omega, by omega⟩ (Nat.le_of_ble_eq_true rfl) rfl dX13_takeLabel_76 (fun _ _ _ q => q) ?_
                rintro r37_ S37_ z37_ ⟨rfl, rfl, v38_, rfl, b_v38_, q37_⟩
                refine u_if_eq hX (tgt := 86) dX13_takeLabel_79 (by decide) ⟨by omega, by omega⟩ (fun h39_ => ?_) (fun h39_ => ?_)
                ·
                  refine v_iconst hX (v := iI 0) dX13_takeLabel_86 rfl ?_
                  refine v_locals (lv' := [(2, .long (jJ v33_)), (0, .ref x)]) (by simp) ?_
                  exact L87 _ v34_ v33_ 0 (fr5.tr (f32_.mono (by decide) (by decide) (by decide))) (by simp (disch := omega) only [y_I_s_I, x_I_s_I, z_I_s_J, z_I_s_A, z_I_s_B, e32_1107, e_v34_, e_v35_]) ⟨by omega, by omega⟩ (by omega)
                ·
                  refine v_iconst hX (v := iI 1) dX13_takeLabel_82 rfl ?_
                  refine v_goto hX (tgt := 87) dX13_takeLabel_83 (by decide) ?_
                  refine v_locals (lv' := [(2, .long (jJ v33_)), (0, .ref x)]) (by simp) ?_
                  exact L87 _ v34_ v33_ 1 (fr5.tr (f32_.mono (by decide) (by decide) (by decide))) (by simp (disch := omega) only [y_I_s_I, x_I_s_I, z_I_s_J, z_I_s_A, z_I_s_B, e32_1107, e_v34_, e_v35_]) ⟨by omega, by omega⟩ (by omega)
            ·
              refine v_locals (lv' := [(0, .ref x)]) (by simp) ?_
              exact L60 _ a0 b0 fr5 (by simp (disch := omega) only [y_I_s_I, x_I_s_I, z_I_s_J, z_I_s_A, z_I_s_B, e5_ls, e_a0, e_b0]) (by simp (disch := omega) only [y_I_s_I, x_I_s_I, z_I_s_J, z_I_s_A, z_I_s_B, e5_ls, e_a0, e_b0]) ⟨by omega, by omega⟩ ⟨by omega, by omega⟩ (by omega)
      ·
        refine v_iinc hX (v := iI (k + 1)) (lv' := [(1, .int (iI (k + 1))), (0, .ref x)]) dX13_takeLabel_25 rfl (iI_add _ _) (by rw [hnL]; decide) rfl ?_
        refine v_goto hX (tgt := 5) dX13_takeLabel_28 (by decide) ?_
        exact ih5 _ (by omega) _ a0 b0 (k + 1) fr5 (by simp (disch := omega) only [y_I_s_I, x_I_s_I, z_I_s_J, z_I_s_A, z_I_s_B, e5_ls, e_a0, e_b0]) (by simp (disch := omega) only [y_I_s_I, x_I_s_I, z_I_s_J, z_I_s_A, z_I_s_B, e5_ls, e_a0, e_b0]) ⟨by omega, by omega⟩ ⟨by omega, by omega⟩ (by omega) rfl
  change b_V X S z 0 0 0 [(0, .ref x)] []
  refine v_aload_n hX dX13_takeLabel_0 (i := 0) rfl rfl ?_
  refine v_get hX (ci := 11) (k := 8) (ms_kx h) bc_11 (by decide) (by decide) in_11 w_5_224 dX13_takeLabel_1 (mvF (f := 1108) (v := iI at_) rfl rfl (by simp (disch := omega) only [y_I_s_I, x_I_s_I, z_I_s_J, z_I_s_A, z_I_s_B, e_at_, e_ls, e_bd])) ?_
  refine v_istore_n hX (lv' := [(1, .int (iI at_)), (0, .ref x)]) dX13_takeLabel_4 (i := 1) rfl (by rw [hnL]; decide) rfl ?_
  exact L5 _ _ at_ bd at_ (mFr.rf _ _) (by simp (disch := omega) only [y_I_s_I, x_I_s_I, z_I_s_J, z_I_s_A, z_I_s_B, e_at_, e_ls, e_bd]) (by simp (disch := omega) only [y_I_s_I, x_I_s_I, z_I_s_J, z_I_s_A, z_I_s_B, e_at_, e_ls, e_bd]) ⟨by omega, by omega⟩ ⟨by omega, by omega⟩ (by omega) rfl
set_option maxRecDepth 100000 in
set_option maxHeartbeats 4000000 in
theorem k_dotOperation {kn : Nat → Nat} {B : Nat} {S : b_M} {z x : Nat} {at_ : Int} {ls : Int} {bd : Int} (h : mS S x) (e_at_ : m_I S 1108 x = iI at_) (b_at_ : -2147483648 ≤ at_ ∧ at_ < 2147483648) (e_ls : m_I S 1107 x = iI ls) (b_ls : -2147483648 ≤ ls ∧ ls < 2147483648) (e_bd : m_I S 1110 x = iI bd) (b_bd : -2147483648 ≤ bd ∧ bd < 2147483648) (p : 0 ≤ at_ ∧ ls ≤ 8400 ∧ (bd = 0 ∨ bd = 1) ∧ at_ ≤ 8400) : b_C kn B yX13_dotOperation cX13_dotOperation 5 (some .int) 3 62 0 0 [.ref x] S z (fun r S' z' => z = z' ∧ mFr [1108, 1110] [] [] S S' x ∧ ∃ q a1 b1 : Int, r = some (.int (iI q)) ∧ (-2147483648 ≤ q ∧ q < 2147483648) ∧ m_I S' 1108 x = iI a1 ∧ (-2147483648 ≤ a1 ∧ a1 < 2147483648) ∧ m_I S' 1110 x = iI b1 ∧ (-2147483648 ≤ b1 ∧ b1 < 2147483648) ∧ ((q = -1 ∨ (8 ≤ q ∧ q ≤ 13)) ∧ at_ ≤ a1 ∧ (a1 = at_ + 1 ∨ a1 ≤ ls) ∧ (b1 = 0 ∨ b1 = 1) ∧ (b1 = 0 → bd = 0))) (fun _ _ _ => False) := by
  refine b_enter (by decide) (Nat.le_of_ble_eq_true rfl) ?_
  intro X hX hE hnL hkn hB hI_
  subst hkn; subst hB
  clear hI_
  have L88 : ∀ (n88 : Nat) (S88c : b_M) (a0 : Int) (b0 : Int) (i : Int) (n : Int) (w : Int), mFr [1108, 1110] [] [] S S88c x → m_I S88c 1108 x = iI a0 → m_I S88c 1110 x = iI b0 → (-2147483648 ≤ a0 ∧ a0 < 2147483648) → (-2147483648 ≤ b0 ∧ b0 < 2147483648) → (at_ + 1 ≤ a0 ∧ (a0 = at_ + 1 ∨ a0 ≤ ls) ∧ 0 ≤ i ∧ i ≤ 6 ∧ 0 ≤ n ∧ n < 2147483648 ∧ 0 ≤ w ∧ w < 1152921504606846976 ∧ (b0 = 0 ∨ b0 = 1) ∧ (b0 = 0 → bd = 0)) → (6 - i).toNat = n88 → b_V X S88c z 0 0 88 [(4, .int (iI i)), (3, .int (iI n)), (1, .long (jJ w)), (0, .ref x)] [] := by
    intro n88
    induction n88 using Nat.strongRecOn with
    | _ n88 ih88 =>
    intro S88c a0 b0 i n w fr88 e_a0 e_b0 b_a0 b_b0 p88_0 hm88
    have h88c : mS S88c x := fr88.keep h
    have hc88_5 : ∀ i, rAt S88c (x + 5) i = rAt S (x + 5) i := fun i => (fr88.1 (x + 5) (by omega) (fun j hj => absurd hj List.not_mem_nil)).rA i
    have e88_ls : m_I S88c 1107 x = iI ls := (fr88.2.2.2.1 1107 (by decide)).trans e_ls
    refine v_iload hX dX13_dotOperation_88 rfl ?_
    refine v_bipush hX (v := iI 6) dX13_dotOperation_90 (by decide) ?_
    refine u_icmp_ge hX (tgt := 125) dX13_dotOperation_92 (by decide) ⟨by omega, by omega⟩ ⟨by omega, by omega⟩ (fun h1_ => ?_) (fun h1_ => ?_)
    ·
      refine v_iconst hX (v := iI (-1)) dX13_dotOperation_125 rfl ?_
      exact v_ireturn hX hE dX13_dotOperation_126 (by omega) (by omega) ⟨rfl, fr88, (-1), a0, b0, rfl, ⟨by omega, by omega⟩, (by simp (disch := omega) only [y_I_s_I, x_I_s_I, z_I_s_J, z_I_s_A, z_I_s_B, e88_ls, e_a0, e_b0]), ⟨by omega, by omega⟩, (by simp (disch := omega) only [y_I_s_I, x_I_s_I, z_I_s_J, z_I_s_A, z_I_s_B, e88_ls, e_a0, e_b0]), ⟨by omega, by omega⟩, (by omega)⟩
    ·
      refine v_iload_n hX dX13_dotOperation_95 (i := 3) rfl rfl ?_
      refine v_bipush hX (v := iI 6) dX13_dotOperation_96 (by decide) ?_
      refine u_icmp_ge hX (tgt := 125) dX13_dotOperation_98 (by decide) ⟨by omega, by omega⟩ ⟨by omega, by omega⟩ (fun h2_ => ?_) (fun h2_ => ?_)
      ·
        refine v_iconst hX (v := iI (-1)) dX13_dotOperation_125 rfl ?_
        exact v_ireturn hX hE dX13_dotOperation_126 (by omega) (by omega) ⟨rfl, fr88, (-1), a0, b0, rfl, ⟨by omega, by omega⟩, (by simp (disch := omega) only [y_I_s_I, x_I_s_I, z_I_s_J, z_I_s_A, z_I_s_B, e88_ls, e_a0, e_b0]), ⟨by omega, by omega⟩, (by simp (disch := omega) only [y_I_s_I, x_I_s_I, z_I_s_J, z_I_s_A, z_I_s_B, e88_ls, e_a0, e_b0]), ⟨by omega, by omega⟩, (by omega)⟩
      ·
        refine v_aload_n hX dX13_dotOperation_101 (i := 0) rfl rfl ?_
        refine v_get hX (ci := 11) (k := 1) (ms_kx h88c) bc_11 (by decide) (by decide) in_11 w_5_217 dX13_dotOperation_102 (mvP (f := 1101) (q := (x + 2)) rfl rfl (ms_p_1101 h88c)) ?_
        refine v_iload hX dX13_dotOperation_105 rfl ?_
        refine u_lald hX (L := 6) (ms_k_1101 h88c) (ms_l_1101 h88c) ⟨by omega, by omega⟩ (by decide) dX13_dotOperation_107 (fun v3_ e_v3_ b_v3_ => ?_)
        try simp (disch := omega) only [zr_I, zr_J, zr_B, rA_A, zl_I, zl_J, zl_A, lA_B, hc88_5] at e_v3_
        refine v_lload_n hX dX13_dotOperation_108 (i := 1) rfl rfl ?_
        refine u_lcmp hX dX13_dotOperation_109 ⟨by omega, by omega⟩ ⟨by omega, by omega⟩ (fun v4_ b_v4_ c_v4_ => ?_)
        refine u_if_ne hX (tgt := 119) dX13_dotOperation_110 (by decide) ⟨by omega, by omega⟩ (fun h5_ => ?_) (fun h5_ => ?_)
        ·
          refine v_iinc hX (v := iI (i + 1)) (lv' := [(4, .int (iI (i + 1))), (3, .int (iI n)), (1, .long (jJ w)), (0, .ref x)]) dX13_dotOperation_119 rfl (iI_add _ _) (by rw [hnL]; decide) rfl ?_
          refine v_goto hX (tgt := 88) dX13_dotOperation_122 (by decide) ?_
          exact ih88 _ (by omega) _ a0 b0 (i + 1) n w fr88 (by simp (disch := omega) only [y_I_s_I, x_I_s_I, z_I_s_J, z_I_s_A, z_I_s_B, e88_ls, e_a0, e_b0]) (by simp (disch := omega) only [y_I_s_I, x_I_s_I, z_I_s_J, z_I_s_A, z_I_s_B, e88_ls, e_a0, e_b0]) ⟨by omega, by omega⟩ ⟨by omega, by omega⟩ (by omega) rfl
        ·
          refine v_bipush hX (v := iI 8) dX13_dotOperation_113 (by decide) ?_
          refine v_iload hX dX13_dotOperation_115 rfl ?_
          refine u_iadd hX dX13_dotOperation_117 ?_
          exact v_ireturn hX hE dX13_dotOperation_118 (by omega) (by omega) ⟨rfl, fr88, (8 + i), a0, b0, rfl, ⟨by omega, by omega⟩, (by simp (disch := omega) only [y_I_s_I, x_I_s_I, z_I_s_J, z_I_s_A, z_I_s_B, e88_ls, e_a0, e_b0]), ⟨by omega, by omega⟩, (by simp (disch := omega) only [y_I_s_I, x_I_s_I, z_I_s_J, z_I_s_A, z_I_s_B, e88_ls, e_a0, e_b0]), ⟨by omega, by omega⟩, (by omega)⟩
  have L82 : ∀ (S82c : b_M) (a0 : Int) (n : Int) (w : Int) (bb : Int), mFr [1108, 1110] [] [] S S82c x → m_I S82c 1108 x = iI a0 → (-2147483648 ≤ a0 ∧ a0 < 2147483648) → (at_ + 1 ≤ a0 ∧ (a0 = at_ + 1 ∨ a0 ≤ ls) ∧ 0 ≤ n ∧ n < 2147483648 ∧ 0 ≤ w ∧ w < 1152921504606846976 ∧ (bb = 0 ∨ bb = 1) ∧ (bb = 0 → bd = 0)) → b_V X S82c z 0 0 82 [(3, .int (iI n)), (1, .long (jJ w)), (0, .ref x)] [.int (iI bb), .ref x] := by
    intro S82c a0 n w bb fr82 e_a0 b_a0 p82_0
    have h82c : mS S82c x := fr82.keep h
    have hc82_5 : ∀ i, rAt S82c (x + 5) i = rAt S (x + 5) i := fun i => (fr82.1 (x + 5) (by omega) (fun j hj => absurd hj List.not_mem_nil)).rA i
    have e82_ls : m_I S82c 1107 x = iI ls := (fr82.2.2.2.1 1107 (by decide)).trans e_ls
    refine v_putI hX (ci := 11) (k := 10) (f := 1110) (ms_kx h82c) bc_11 (by decide) (by decide) in_11 tyX13_ok nmX13 w_5_226 (Or.inl rfl) (nar_b (by omega)) (fit_b (by omega)) dX13_dotOperation_82 rfl rfl ?_
    refine v_iconst hX (v := iI 0) dX13_dotOperation_85 rfl ?_
    refine v_istore hX (lv' := [(4, .int (iI 0)), (3, .int (iI n)), (1, .long (jJ w)), (0, .ref x)]) dX13_dotOperation_86 (by rw [hnL]; decide) rfl ?_
    exact L88 _ _ a0 bb 0 n w (fr82.sI (by decide)) (by simp (disch := omega) only [y_I_s_I, x_I_s_I, z_I_s_J, z_I_s_A, z_I_s_B, e82_ls, e_a0]) (by simp (disch := omega) only [y_I_s_I, x_I_s_I, z_I_s_J, z_I_s_A, z_I_s_B, e82_ls, e_a0]) ⟨by omega, by omega⟩ ⟨by omega, by omega⟩ (by omega) rfl
  have L14 : ∀ (n14 : Nat) (S14c : b_M) (a0 : Int) (b0 : Int) (n : Int) (w : Int), mFr [1108, 1110] [] [] S S14c x → m_I S14c 1108 x = iI a0 → m_I S14c 1110 x = iI b0 → (-2147483648 ≤ a0 ∧ a0 < 2147483648) → (-2147483648 ≤ b0 ∧ b0 < 2147483648) → (at_ + 1 ≤ a0 ∧ (a0 = at_ + 1 ∨ a0 ≤ ls) ∧ n = a0 - at_ - 1 ∧ b0 = bd ∧ n < 2147483648) → (wb n w) → (ls - a0).toNat = n14 → b_V X S14c z 0 0 14 [(3, .int (iI n)), (1, .long (jJ w)), (0, .ref x)] [] := by
    intro n14
    induction n14 using Nat.strongRecOn with
    | _ n14 ih14 =>
    intro S14c a0 b0 n w fr14 e_a0 e_b0 b_a0 b_b0 p14_0 p14_1 hm14
    have h14c : mS S14c x := fr14.keep h
    have hc14_5 : ∀ i, rAt S14c (x + 5) i = rAt S (x + 5) i := fun i => (fr14.1 (x + 5) (by omega) (fun j hj => absurd hj List.not_mem_nil)).rA i
    have e14_ls : m_I S14c 1107 x = iI ls := (fr14.2.2.2.1 1107 (by decide)).trans e_ls
    refine v_aload_n hX dX13_dotOperation_14 (i := 0) rfl rfl ?_
    refine v_callV hX (n := 0) (k_now (S := S14c) (x := x) (at_ := a0) (ls := ls) h14c (by simp (disch := omega) only [y_I_s_I, x_I_s_I, z_I_s_J, z_I_s_A, z_I_s_B, e14_ls, e_a0, e_b0]) ⟨by omega, by omega⟩ (by simp (disch := omega) only [y_I_s_I, x_I_s_I, z_I_s_J, z_I_s_A, z_I_s_B, e14_ls, e_a0, e_b0]) ⟨by omega, by omega⟩ (by omega)) (ms_kx h14c) bc_11 (by decide) w_7_29 w_7_31 (bw_p (q := (yX13_now, 72)) (List.mem_of_getElem? (i := 51) rfl) rfl) w_1_16 w_7_32 (by decide +kernel) rfl ⟨by decide, by decide⟩ ⟨by omega, by omega⟩ (Nat.le_of_ble_eq_true rfl) rfl dX13_dotOperation_15 (fun _ _ _ q => q) ?_
    rintro r6_ S6_ z6_ ⟨rfl, rfl, v7_, rfl, b_v7_, q6_⟩
    try simp (disch := omega) only [zr_I, zr_J, zr_B, rA_A, zl_I, zl_J, zl_A, lA_B, hc14_5] at q6_
    refine v_callS hX (n := 1) (k_isSmall (S := S14c) (x := 0) (c := v7_) ⟨by omega, by omega⟩) w_6_239 w_7_0 w_1_16 w_7_1 (by decide +kernel) rfl ⟨by decide, by decide⟩ ⟨by omega, by omega⟩ (Nat.le_of_ble_eq_true rfl) rfl dX13_dotOperation_18 (fun _ _ _ q => q) ?_
    rintro r8_ S8_ z8_ ⟨rfl, rfl, v9_, rfl, b_v9_, q8_⟩
    refine u_if_eq hX (tgt := 65) dX13_dotOperation_21 (by decide) ⟨by omega, by omega⟩ (fun h10_ => ?_) (fun h10_ => ?_)
    ·
      have wl_ := wb_lt p14_1
      refine v_aload_n hX dX13_dotOperation_65 (i := 0) rfl rfl ?_
      refine v_aload_n hX dX13_dotOperation_66 (i := 0) rfl rfl ?_
      refine v_get hX (ci := 11) (k := 10) (ms_kx h14c) bc_11 (by decide) (by decide) in_11 w_5_226 dX13_dotOperation_67 (mvF (f := 1110) (v := iI b0) rfl rfl (by simp (disch := omega) only [y_I_s_I, x_I_s_I, z_I_s_J, z_I_s_A, z_I_s_B, e14_ls, e_a0, e_b0])) ?_
      refine u_if_ne hX (tgt := 77) dX13_dotOperation_70 (by decide) ⟨by omega, by omega⟩ (fun h11_ => ?_) (fun h11_ => ?_)
      ·
        refine v_iconst hX (v := iI 1) dX13_dotOperation_77 rfl ?_
        refine v_goto hX (tgt := 82) dX13_dotOperation_78 (by decide) ?_
        exact L82 _ a0 n w 1 fr14 (by simp (disch := omega) only [y_I_s_I, x_I_s_I, z_I_s_J, z_I_s_A, z_I_s_B, e14_ls, e_a0, e_b0]) ⟨by omega, by omega⟩ (by omega)
      ·
        refine v_iload_n hX dX13_dotOperation_73 (i := 3) rfl rfl ?_
        refine u_if_ne hX (tgt := 81) dX13_dotOperation_74 (by decide) ⟨by omega, by omega⟩ (fun h12_ => ?_) (fun h12_ => ?_)
        ·
          refine v_iconst hX (v := iI 0) dX13_dotOperation_81 rfl ?_
          exact L82 _ a0 n w 0 fr14 (by simp (disch := omega) only [y_I_s_I, x_I_s_I, z_I_s_J, z_I_s_A, z_I_s_B, e14_ls, e_a0, e_b0]) ⟨by omega, by omega⟩ (by omega)
        ·
          refine v_iconst hX (v := iI 1) dX13_dotOperation_77 rfl ?_
          refine v_goto hX (tgt := 82) dX13_dotOperation_78 (by decide) ?_
          exact L82 _ a0 n w 1 fr14 (by simp (disch := omega) only [y_I_s_I, x_I_s_I, z_I_s_J, z_I_s_A, z_I_s_B, e14_ls, e_a0, e_b0]) ⟨by omega, by omega⟩ (by omega)
    ·
      refine v_iload_n hX dX13_dotOperation_24 (i := 3) rfl rfl ?_
      refine v_bipush hX (v := iI 10) dX13_dotOperation_25 (by decide) ?_
      refine u_icmp_ge hX (tgt := 47) dX13_dotOperation_27 (by decide) ⟨by omega, by omega⟩ ⟨by omega, by omega⟩ (fun h13_ => ?_) (fun h13_ => ?_)
      ·
        refine v_lload_n hX dX13_dotOperation_47 (i := 1) rfl rfl ?_
        refine v_lstore_n hX (lv' := [(1, .long (jJ w)), (3, .int (iI n)), (0, .ref x)]) dX13_dotOperation_48 (i := 1) rfl (by rw [hnL]; decide) rfl ?_
        refine v_iinc hX (v := iI (n + 1)) (lv' := [(3, .int (iI (n + 1))), (1, .long (jJ w)), (0, .ref x)]) dX13_dotOperation_49 rfl (iI_add _ _) (by rw [hnL]; decide) rfl ?_
        refine v_aload_n hX dX13_dotOperation_52 (i := 0) rfl rfl ?_
        refine v_dup hX dX13_dotOperation_53 rfl ?_
        refine v_get hX (ci := 11) (k := 8) (ms_kx h14c) bc_11 (by decide) (by decide) in_11 w_5_224 dX13_dotOperation_54 (mvF (f := 1108) (v := iI a0) rfl rfl (by simp (disch := omega) only [y_I_s_I, x_I_s_I, z_I_s_J, z_I_s_A, z_I_s_B, e14_ls, e_a0, e_b0])) ?_
        refine v_iconst hX (v := iI 1) dX13_dotOperation_57 rfl ?_
        refine u_iadd hX dX13_dotOperation_58 ?_
        refine v_putI hX (ci := 11) (k := 8) (f := 1108) (ms_kx h14c) bc_11 (by decide) (by decide) in_11 tyX13_ok nmX13 w_5_224 (Or.inl rfl) rfl rfl dX13_dotOperation_59 rfl rfl ?_
        refine v_goto hX (tgt := 14) dX13_dotOperation_62 (by decide) ?_
        exact ih14 _ (by omega) _ (a0 + 1) b0 (n + 1) w (fr14.sI (by decide)) (by simp (disch := omega) only [y_I_s_I, x_I_s_I, z_I_s_J, z_I_s_A, z_I_s_B, e14_ls, e_a0, e_b0]) (by simp (disch := omega) only [y_I_s_I, x_I_s_I, z_I_s_J, z_I_s_A, z_I_s_B, e14_ls, e_a0, e_b0]) ⟨by omega, by omega⟩ ⟨by omega, by omega⟩ (by omega) (wb_more p14_1 (by omega)) rfl
      ·
        refine v_ldc2 hX (v := jJ 64) dX13_dotOperation_30 (show Cond.constantLong _ _ (jJ 64) ∈ b_Ws from w_7_41) ?_
        refine v_lload_n hX dX13_dotOperation_33 (i := 1) rfl rfl ?_
        refine u_lmul hX dX13_dotOperation_34 ?_
        refine v_aload_n hX dX13_dotOperation_35 (i := 0) rfl rfl ?_
        refine v_callV hX (n := 0) (k_now (S := S14c) (x := x) (at_ := a0) (ls := ls) h14c (by simp (disch := omega) only [y_I_s_I, x_I_s_I, z_I_s_J, z_I_s_A, z_I_s_B, e14_ls, e_a0, e_b0]) ⟨by omega, by omega⟩ (by simp (disch := omega) only [y_I_s_I, x_I_s_I, z_I_s_J, z_I_s_A, z_I_s_B, e14_ls, e_a0, e_b0]) ⟨by omega, by omega⟩ (by omega)) (ms_kx h14c) bc_11 (by decide) w_7_29 w_7_31 (bw_p (q := (yX13_now, 72)) (List.mem_of_getElem? (i := 51) rfl) rfl) w_1_16 w_7_32 (by decide +kernel) rfl ⟨by decide, by decide⟩ ⟨by omega, by omega⟩ (Nat.le_of_ble_eq_true rfl) rfl dX13_dotOperation_36 (fun _ _ _ q => q) ?_
        rintro r14_ S14_ z14_ ⟨rfl, rfl, v15_, rfl, b_v15_, q14_⟩
        try simp (disch := omega) only [zr_I, zr_J, zr_B, rA_A, zl_I, zl_J, zl_A, lA_B, hc14_5] at q14_
        refine v_callS hX (n := 1) (k_codeOf (S := S14c) (x := 0) (c := v15_) ⟨by omega, by omega⟩ (by omega)) w_7_42 w_7_43 w_1_16 w_7_44 (by decide +kernel) rfl ⟨by decide, by decide⟩ ⟨by omega, by omega⟩ (Nat.le_of_ble_eq_true rfl) rfl dX13_dotOperation_39 (fun _ _ _ q => q) ?_
        rintro r16_ S16_ z16_ ⟨rfl, rfl, v17_, rfl, b_v17_, q16_⟩
        refine u_i2l hX dX13_dotOperation_42 ⟨by omega, by omega⟩ ?_
        refine u_ladd hX dX13_dotOperation_43 ?_
        refine v_goto hX (tgt := 48) dX13_dotOperation_44 (by decide) ?_
        refine v_lstore_n hX (lv' := [(1, .long (jJ ((64 * w) + v17_))), (3, .int (iI n)), (0, .ref x)]) dX13_dotOperation_48 (i := 1) rfl (by rw [hnL]; decide) rfl ?_
        refine v_iinc hX (v := iI (n + 1)) (lv' := [(3, .int (iI (n + 1))), (1, .long (jJ ((64 * w) + v17_))), (0, .ref x)]) dX13_dotOperation_49 rfl (iI_add _ _) (by rw [hnL]; decide) rfl ?_
        refine v_aload_n hX dX13_dotOperation_52 (i := 0) rfl rfl ?_
        refine v_dup hX dX13_dotOperation_53 rfl ?_
        refine v_get hX (ci := 11) (k := 8) (ms_kx h14c) bc_11 (by decide) (by decide) in_11 w_5_224 dX13_dotOperation_54 (mvF (f := 1108) (v := iI a0) rfl rfl (by simp (disch := omega) only [y_I_s_I, x_I_s_I, z_I_s_J, z_I_s_A, z_I_s_B, e14_ls, e_a0, e_b0])) ?_
        refine v_iconst hX (v := iI 1) dX13_dotOperation_57 rfl ?_
        refine u_iadd hX dX13_dotOperation_58 ?_
        refine v_putI hX (ci := 11) (k := 8) (f := 1108) (ms_kx h14c) bc_11 (by decide) (by decide) in_11 tyX13_ok nmX13 w_5_224 (Or.inl rfl) rfl rfl dX13_dotOperation_59 rfl rfl ?_
        refine v_goto hX (tgt := 14) dX13_dotOperation_62 (by decide) ?_
        exact ih14 _ (by omega) _ (a0 + 1) b0 (n + 1) ((64 * w) + v17_) (fr14.sI (by decide)) (by simp (disch := omega) only [y_I_s_I, x_I_s_I, z_I_s_J, z_I_s_A, z_I_s_B, e14_ls, e_a0, e_b0]) (by simp (disch := omega) only [y_I_s_I, x_I_s_I, z_I_s_J, z_I_s_A, z_I_s_B, e14_ls, e_a0, e_b0]) ⟨by omega, by omega⟩ ⟨by omega, by omega⟩ (by omega) (wb_step p14_1 (by omega) (by omega)) rfl
  change b_V X S z 0 0 0 [(0, .ref x)] []
  refine v_aload_n hX dX13_dotOperation_0 (i := 0) rfl rfl ?_
  refine v_dup hX dX13_dotOperation_1 rfl ?_
  refine v_get hX (ci := 11) (k := 8) (ms_kx h) bc_11 (by decide) (by decide) in_11 w_5_224 dX13_dotOperation_2 (mvF (f := 1108) (v := iI at_) rfl rfl (by simp (disch := omega) only [y_I_s_I, x_I_s_I, z_I_s_J, z_I_s_A, z_I_s_B, e_at_, e_ls, e_bd])) ?_
  refine v_iconst hX (v := iI 1) dX13_dotOperation_5 rfl ?_
  refine u_iadd hX dX13_dotOperation_6 ?_
  refine v_putI hX (ci := 11) (k := 8) (f := 1108) (ms_kx h) bc_11 (by decide) (by decide) in_11 tyX13_ok nmX13 w_5_224 (Or.inl rfl) rfl rfl dX13_dotOperation_7 rfl rfl ?_
  refine v_lconst hX (v := jJ 0) dX13_dotOperation_10 rfl ?_
  refine v_lstore_n hX (lv' := [(1, .long (jJ 0)), (0, .ref x)]) dX13_dotOperation_11 (i := 1) rfl (by rw [hnL]; decide) rfl ?_
  refine v_iconst hX (v := iI 0) dX13_dotOperation_12 rfl ?_
  refine v_istore_n hX (lv' := [(3, .int (iI 0)), (1, .long (jJ 0)), (0, .ref x)]) dX13_dotOperation_13 (i := 3) rfl (by rw [hnL]; decide) rfl ?_
  exact L14 _ _ (at_ + 1) bd 0 0 ((mFr.rf _ _).sI (by decide)) (by simp (disch := omega) only [y_I_s_I, x_I_s_I, z_I_s_J, z_I_s_A, z_I_s_B, e_at_, e_ls, e_bd]) (by simp (disch := omega) only [y_I_s_I, x_I_s_I, z_I_s_J, z_I_s_A, z_I_s_B, e_at_, e_ls, e_bd]) ⟨by omega, by omega⟩ ⟨by omega, by omega⟩ (by omega) wb_0 rfl
