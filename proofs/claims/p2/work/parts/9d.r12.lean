set_option maxRecDepth 100000 in
set_option maxHeartbeats 4000000 in
theorem k_sayStatement {kn : Nat → Nat} {B : Nat} {S : b_M} {z x : Nat} {sx : Int} {st_ : Int} {wt : Int} {wo_ : Int} {lo_ : Int} {se : Int} {ex : Int} {ps : Int} (h : mS S x) (e_st_ : m_I S 1128 x = iI st_) (b_st_ : -2147483648 ≤ st_ ∧ st_ < 2147483648) (e_wt : m_I S 1163 x = iI wt) (b_wt : -2147483648 ≤ wt ∧ wt < 2147483648) (e_wo_ : m_I S 1157 x = iI wo_) (b_wo_ : -2147483648 ≤ wo_ ∧ wo_ < 2147483648) (e_lo_ : m_I S 1159 x = iI lo_) (b_lo_ : -2147483648 ≤ lo_ ∧ lo_ < 2147483648) (b_sx : -2147483648 ≤ sx ∧ sx < 2147483648) (so : sOk S x se) (eo : eOk S x ex ps) (lw : (∀ j : Int, 0 ≤ j → j < sx → rAt S (x + 18) j = 7 → 0 ≤ rAt S (x + 22) j ∧ rAt S (x + 22) j < ex)) (p : 0 ≤ st_ ∧ st_ ≤ 400 ∧ 0 ≤ sx ∧ sx < 400 ∧ (wt = 0 ∨ wt = 1) ∧ sx < st_ ∧ 0 ≤ lo_ ∧ lo_ ≤ sx ∧ 0 ≤ wo_ ∧ wo_ + wd S x sx ≤ 65535 ∧ 0 ≤ rAt S (x + 18) sx ∧ rAt S (x + 18) sx ≤ 10 ∧ 0 ≤ rAt S (x + 21) sx ∧ rAt S (x + 21) sx ≤ 8 ∧ 0 ≤ rAt S (x + 23) sx ∧ rAt S (x + 23) sx ≤ 1000 ∧ (0 < rAt S (x + 21) sx → 0 ≤ rAt S (x + 22) sx ∧ rAt S (x + 22) sx + rAt S (x + 21) sx ≤ ex) ∧ (rAt S (x + 18) sx = 2 ∨ rAt S (x + 18) sx = 5 ∨ rAt S (x + 18) sx = 6 ∨ rAt S (x + 18) sx = 7 → 1 ≤ rAt S (x + 21) sx) ∧ (rAt S (x + 25) sx = 0 ∨ rAt S (x + 18) sx = 2 ∨ rAt S (x + 18) sx = 5 ∨ rAt S (x + 18) sx = 6)) : b_C kn B yX13_sayStatement cX13_sayStatement 6 none 7 156 0 0 [.ref x, .int (iI sx)] S z (fun r S' z' => z = z' ∧ mFr [1164, 1162, 1157, 1159] [] [38] S S' x ∧ ∃ w1 l1 : Int, r = none ∧ m_I S' 1157 x = iI w1 ∧ (-2147483648 ≤ w1 ∧ w1 < 2147483648) ∧ m_I S' 1159 x = iI l1 ∧ (-2147483648 ≤ l1 ∧ l1 < 2147483648) ∧ (w1 = wo_ + wd S x sx ∧ lo_ ≤ l1 ∧ l1 ≤ lo_ + 1)) (fun _ _ _ => False) := by
  refine b_enter (by decide) (Nat.le_of_ble_eq_true rfl) ?_
  intro X hX hE hnL hkn hB hI_
  subst hkn; subst hB
  clear hI_
  have L361 : ∀ (S361c : b_M) (w0 : Int) (l0 : Int), mFr [1164, 1162, 1157, 1159] [] [38] S S361c x → m_I S361c 1157 x = iI w0 → m_I S361c 1159 x = iI l0 → (-2147483648 ≤ w0 ∧ w0 < 2147483648) → (-2147483648 ≤ l0 ∧ l0 < 2147483648) → (w0 = wo_ + wd S x sx ∧ l0 = lo_) → b_V X S361c z 0 0 361 [(0, .ref x), (1, .int (iI sx))] [] := by
    intro S361c w0 l0 fr361 e_w0 e_l0 b_w0 b_l0 p361_0
    have h361c : mS S361c x := fr361.keep h
    have hc361_35 : ∀ i, rAt S361c (x + 35) i = rAt S (x + 35) i := fun i => (fr361.1 (x + 35) (by omega) (by intro j hj; simp only [List.mem_cons, List.not_mem_nil, or_false] at hj; omega)).rA i
    have hc361_34 : ∀ i, rAt S361c (x + 34) i = rAt S (x + 34) i := fun i => (fr361.1 (x + 34) (by omega) (by intro j hj; simp only [List.mem_cons, List.not_mem_nil, or_false] at hj; omega)).rA i
    have hc361_26 : ∀ i, rAt S361c (x + 26) i = rAt S (x + 26) i := fun i => (fr361.1 (x + 26) (by omega) (by intro j hj; simp only [List.mem_cons, List.not_mem_nil, or_false] at hj; omega)).rA i
    have hc361_22 : ∀ i, rAt S361c (x + 22) i = rAt S (x + 22) i := fun i => (fr361.1 (x + 22) (by omega) (by intro j hj; simp only [List.mem_cons, List.not_mem_nil, or_false] at hj; omega)).rA i
    have hc361_27 : ∀ i, rAt S361c (x + 27) i = rAt S (x + 27) i := fun i => (fr361.1 (x + 27) (by omega) (by intro j hj; simp only [List.mem_cons, List.not_mem_nil, or_false] at hj; omega)).rA i
    have hc361_28 : ∀ i, rAt S361c (x + 28) i = rAt S (x + 28) i := fun i => (fr361.1 (x + 28) (by omega) (by intro j hj; simp only [List.mem_cons, List.not_mem_nil, or_false] at hj; omega)).rA i
    have hc361_29 : ∀ i, rAt S361c (x + 29) i = rAt S (x + 29) i := fun i => (fr361.1 (x + 29) (by omega) (by intro j hj; simp only [List.mem_cons, List.not_mem_nil, or_false] at hj; omega)).rA i
    have hc361_18 : ∀ i, rAt S361c (x + 18) i = rAt S (x + 18) i := fun i => (fr361.1 (x + 18) (by omega) (by intro j hj; simp only [List.mem_cons, List.not_mem_nil, or_false] at hj; omega)).rA i
    have hc361_25 : ∀ i, rAt S361c (x + 25) i = rAt S (x + 25) i := fun i => (fr361.1 (x + 25) (by omega) (by intro j hj; simp only [List.mem_cons, List.not_mem_nil, or_false] at hj; omega)).rA i
    have hc361_19 : ∀ i, rAt S361c (x + 19) i = rAt S (x + 19) i := fun i => (fr361.1 (x + 19) (by omega) (by intro j hj; simp only [List.mem_cons, List.not_mem_nil, or_false] at hj; omega)).rA i
    have hc361_21 : ∀ i, rAt S361c (x + 21) i = rAt S (x + 21) i := fun i => (fr361.1 (x + 21) (by omega) (by intro j hj; simp only [List.mem_cons, List.not_mem_nil, or_false] at hj; omega)).rA i
    have hc361_23 : ∀ i, rAt S361c (x + 23) i = rAt S (x + 23) i := fun i => (fr361.1 (x + 23) (by omega) (by intro j hj; simp only [List.mem_cons, List.not_mem_nil, or_false] at hj; omega)).rA i
    have hc361_20 : ∀ i, rAt S361c (x + 20) i = rAt S (x + 20) i := fun i => (fr361.1 (x + 20) (by omega) (by intro j hj; simp only [List.mem_cons, List.not_mem_nil, or_false] at hj; omega)).rA i
    have e361_st_ : m_I S361c 1128 x = iI st_ := (fr361.2.2.2.1 1128 (by decide)).trans e_st_
    have e361_wt : m_I S361c 1163 x = iI wt := (fr361.2.2.2.1 1163 (by decide)).trans e_wt
    refine v_aload_n hX dX13_sayStatement_361 (i := 0) rfl rfl ?_
    refine v_dup hX dX13_sayStatement_362 rfl ?_
    refine v_get hX (ci := 11) (k := 59) (ms_kx h361c) bc_11 (by decide) (by decide) in_11 w_6_35 dX13_sayStatement_363 (mvF (f := 1159) (v := iI l0) rfl rfl (by simp (disch := omega) only [y_I_s_I, x_I_s_I, z_I_s_J, z_I_s_A, z_I_s_B, e361_st_, e361_wt, e_w0, e_l0])) ?_
    refine v_aload_n hX dX13_sayStatement_366 (i := 0) rfl rfl ?_
    refine v_get hX (ci := 11) (k := 37) (ms_kx h361c) bc_11 (by decide) (by decide) in_11 w_6_13 dX13_sayStatement_367 (mvP (f := 1137) (q := (x + 25)) rfl rfl (ms_p_1137 h361c)) ?_
    refine v_iload_n hX dX13_sayStatement_370 (i := 1) rfl rfl ?_
    refine u_zald hX (L := 400) (ms_k_1137 h361c) (ms_l_1137 h361c) ⟨by omega, by omega⟩ (by decide) dX13_sayStatement_371 (fun v1_ e_v1_ b_v1_ => ?_)
    try simp (disch := omega) only [zr_I, zr_J, zr_B, rA_A, zl_I, zl_J, zl_A, lA_B, hc361_35, hc361_34, hc361_26, hc361_22, hc361_27, hc361_28, hc361_29, hc361_18, hc361_25, hc361_19, hc361_21, hc361_23, hc361_20] at e_v1_
    refine u_if_eq hX (tgt := 379) dX13_sayStatement_372 (by decide) ⟨by omega, by omega⟩ (fun h2_ => ?_) (fun h2_ => ?_)
    ·
      refine v_iconst hX (v := iI 0) dX13_sayStatement_379 rfl ?_
      refine u_iadd hX dX13_sayStatement_380 ?_
      refine v_putI hX (ci := 11) (k := 59) (f := 1159) (ms_kx h361c) bc_11 (by decide) (by decide) in_11 tyX13_ok nmX13 w_6_35 (Or.inl rfl) rfl rfl dX13_sayStatement_381 rfl rfl ?_
      exact v_return hX hE dX13_sayStatement_384 (by omega) (by omega) ⟨rfl, (fr361.sI (by decide)), w0, (l0 + 0), rfl, (by simp (disch := omega) only [y_I_s_I, x_I_s_I, z_I_s_J, z_I_s_A, z_I_s_B, e361_st_, e361_wt, e_w0, e_l0]), ⟨by omega, by omega⟩, (by simp (disch := omega) only [y_I_s_I, x_I_s_I, z_I_s_J, z_I_s_A, z_I_s_B, e361_st_, e361_wt, e_w0, e_l0]), ⟨by omega, by omega⟩, (by omega)⟩
    ·
      refine v_iconst hX (v := iI 1) dX13_sayStatement_375 rfl ?_
      refine v_goto hX (tgt := 380) dX13_sayStatement_376 (by decide) ?_
      refine u_iadd hX dX13_sayStatement_380 ?_
      refine v_putI hX (ci := 11) (k := 59) (f := 1159) (ms_kx h361c) bc_11 (by decide) (by decide) in_11 tyX13_ok nmX13 w_6_35 (Or.inl rfl) rfl rfl dX13_sayStatement_381 rfl rfl ?_
      exact v_return hX hE dX13_sayStatement_384 (by omega) (by omega) ⟨rfl, (fr361.sI (by decide)), w0, (l0 + 1), rfl, (by simp (disch := omega) only [y_I_s_I, x_I_s_I, z_I_s_J, z_I_s_A, z_I_s_B, e361_st_, e361_wt, e_w0, e_l0]), ⟨by omega, by omega⟩, (by simp (disch := omega) only [y_I_s_I, x_I_s_I, z_I_s_J, z_I_s_A, z_I_s_B, e361_st_, e361_wt, e_w0, e_l0]), ⟨by omega, by omega⟩, (by omega)⟩
  have L328 : ∀ (n328 : Nat) (S328c : b_M) (w0 : Int) (l0 : Int) (i : Int), mFr [1164, 1162, 1157, 1159] [] [38] S S328c x → m_I S328c 1157 x = iI w0 → m_I S328c 1159 x = iI l0 → (-2147483648 ≤ w0 ∧ w0 < 2147483648) → (-2147483648 ≤ l0 ∧ l0 < 2147483648) → (rAt S (x + 18) sx = 9 ∧ 0 ≤ i ∧ i ≤ rAt S (x + 23) sx ∧ w0 = wo_ + i ∧ l0 = lo_) → (rAt S (x + 23) sx - i).toNat = n328 → b_V X S328c z 0 0 328 [(5, .int (iI i)), (0, .ref x), (1, .int (iI sx))] [] := by
    intro n328
    induction n328 using Nat.strongRecOn with
    | _ n328 ih328 =>
    intro S328c w0 l0 i fr328 e_w0 e_l0 b_w0 b_l0 p328_0 hm328
    have h328c : mS S328c x := fr328.keep h
    have hc328_35 : ∀ i, rAt S328c (x + 35) i = rAt S (x + 35) i := fun i => (fr328.1 (x + 35) (by omega) (by intro j hj; simp only [List.mem_cons, List.not_mem_nil, or_false] at hj; omega)).rA i
    have hc328_34 : ∀ i, rAt S328c (x + 34) i = rAt S (x + 34) i := fun i => (fr328.1 (x + 34) (by omega) (by intro j hj; simp only [List.mem_cons, List.not_mem_nil, or_false] at hj; omega)).rA i
    have hc328_26 : ∀ i, rAt S328c (x + 26) i = rAt S (x + 26) i := fun i => (fr328.1 (x + 26) (by omega) (by intro j hj; simp only [List.mem_cons, List.not_mem_nil, or_false] at hj; omega)).rA i
    have hc328_22 : ∀ i, rAt S328c (x + 22) i = rAt S (x + 22) i := fun i => (fr328.1 (x + 22) (by omega) (by intro j hj; simp only [List.mem_cons, List.not_mem_nil, or_false] at hj; omega)).rA i
    have hc328_27 : ∀ i, rAt S328c (x + 27) i = rAt S (x + 27) i := fun i => (fr328.1 (x + 27) (by omega) (by intro j hj; simp only [List.mem_cons, List.not_mem_nil, or_false] at hj; omega)).rA i
    have hc328_28 : ∀ i, rAt S328c (x + 28) i = rAt S (x + 28) i := fun i => (fr328.1 (x + 28) (by omega) (by intro j hj; simp only [List.mem_cons, List.not_mem_nil, or_false] at hj; omega)).rA i
    have hc328_29 : ∀ i, rAt S328c (x + 29) i = rAt S (x + 29) i := fun i => (fr328.1 (x + 29) (by omega) (by intro j hj; simp only [List.mem_cons, List.not_mem_nil, or_false] at hj; omega)).rA i
    have hc328_18 : ∀ i, rAt S328c (x + 18) i = rAt S (x + 18) i := fun i => (fr328.1 (x + 18) (by omega) (by intro j hj; simp only [List.mem_cons, List.not_mem_nil, or_false] at hj; omega)).rA i
    have hc328_25 : ∀ i, rAt S328c (x + 25) i = rAt S (x + 25) i := fun i => (fr328.1 (x + 25) (by omega) (by intro j hj; simp only [List.mem_cons, List.not_mem_nil, or_false] at hj; omega)).rA i
    have hc328_19 : ∀ i, rAt S328c (x + 19) i = rAt S (x + 19) i := fun i => (fr328.1 (x + 19) (by omega) (by intro j hj; simp only [List.mem_cons, List.not_mem_nil, or_false] at hj; omega)).rA i
    have hc328_21 : ∀ i, rAt S328c (x + 21) i = rAt S (x + 21) i := fun i => (fr328.1 (x + 21) (by omega) (by intro j hj; simp only [List.mem_cons, List.not_mem_nil, or_false] at hj; omega)).rA i
    have hc328_23 : ∀ i, rAt S328c (x + 23) i = rAt S (x + 23) i := fun i => (fr328.1 (x + 23) (by omega) (by intro j hj; simp only [List.mem_cons, List.not_mem_nil, or_false] at hj; omega)).rA i
    have hc328_20 : ∀ i, rAt S328c (x + 20) i = rAt S (x + 20) i := fun i => (fr328.1 (x + 20) (by omega) (by intro j hj; simp only [List.mem_cons, List.not_mem_nil, or_false] at hj; omega)).rA i
    have e328_st_ : m_I S328c 1128 x = iI st_ := (fr328.2.2.2.1 1128 (by decide)).trans e_st_
    have e328_wt : m_I S328c 1163 x = iI wt := (fr328.2.2.2.1 1163 (by decide)).trans e_wt
    have gw_ := wd_any S x sx
    refine v_iload hX dX13_sayStatement_328 rfl ?_
    refine v_aload_n hX dX13_sayStatement_330 (i := 0) rfl rfl ?_
    refine v_get hX (ci := 11) (k := 35) (ms_kx h328c) bc_11 (by decide) (by decide) in_11 w_6_11 dX13_sayStatement_331 (mvP (f := 1135) (q := (x + 23)) rfl rfl (ms_p_1135 h328c)) ?_
    refine v_iload_n hX dX13_sayStatement_334 (i := 1) rfl rfl ?_
    refine u_iald hX (L := 400) (ms_k_1135 h328c) (ms_l_1135 h328c) ⟨by omega, by omega⟩ (by decide) dX13_sayStatement_335 (fun v3_ e_v3_ b_v3_ => ?_)
    try simp (disch := omega) only [zr_I, zr_J, zr_B, rA_A, zl_I, zl_J, zl_A, lA_B, hc328_35, hc328_34, hc328_26, hc328_22, hc328_27, hc328_28, hc328_29, hc328_18, hc328_25, hc328_19, hc328_21, hc328_23, hc328_20] at e_v3_
    refine u_icmp_ge hX (tgt := 350) dX13_sayStatement_336 (by decide) ⟨by omega, by omega⟩ ⟨by omega, by omega⟩ (fun h4_ => ?_) (fun h4_ => ?_)
    ·
      have gw_ := wd_any S x sx
      refine v_goto hX (tgt := 361) dX13_sayStatement_350 (by decide) ?_
      refine v_locals (lv' := [(0, .ref x), (1, .int (iI sx))]) (by simp) ?_
      exact L361 _ w0 l0 fr328 (by simp (disch := omega) only [y_I_s_I, x_I_s_I, z_I_s_J, z_I_s_A, z_I_s_B, e328_st_, e328_wt, e_w0, e_l0]) (by simp (disch := omega) only [y_I_s_I, x_I_s_I, z_I_s_J, z_I_s_A, z_I_s_B, e328_st_, e328_wt, e_w0, e_l0]) ⟨by omega, by omega⟩ ⟨by omega, by omega⟩ (by omega)
    ·
      refine v_aload_n hX dX13_sayStatement_339 (i := 0) rfl rfl ?_
      refine v_iconst hX (v := iI 0) dX13_sayStatement_340 rfl ?_
      refine v_callV hX (n := 1) (k_say (S := S328c) (x := x) (v := 0) (wo_ := w0) h328c (by simp (disch := omega) only [y_I_s_I, x_I_s_I, z_I_s_J, z_I_s_A, z_I_s_B, e328_st_, e328_wt, e_w0, e_l0]) ⟨by omega, by omega⟩ ⟨by omega, by omega⟩ (by omega)) (ms_kx h328c) bc_11 (by decide) w_7_203 w_7_205 (bw_p (q := (yX13_say, 72)) (List.mem_of_getElem? (i := 91) rfl) rfl) w_1_16 w_7_206 (by decide +kernel) rfl ⟨by decide, by decide⟩ ⟨by omega, by omega⟩ (Nat.le_of_ble_eq_true rfl) rfl dX13_sayStatement_341 (fun _ _ _ q => q) ?_
      rintro r5_ S5_ z5_ ⟨rfl, f5_, v6_, rfl, e_v6_, b_v6_, q5_⟩
      have e5_1128 : m_I S5_ 1128 x = iI st_ := (f5_.2.2.2.1 1128 (by decide)).trans (by simp (disch := omega) only [y_I_s_I, x_I_s_I, z_I_s_J, z_I_s_A, z_I_s_B, e328_st_, e328_wt, e_w0, e_l0])
      have e5_1163 : m_I S5_ 1163 x = iI wt := (f5_.2.2.2.1 1163 (by decide)).trans (by simp (disch := omega) only [y_I_s_I, x_I_s_I, z_I_s_J, z_I_s_A, z_I_s_B, e328_st_, e328_wt, e_w0, e_l0])
      have e5_1159 : m_I S5_ 1159 x = iI l0 := (f5_.2.2.2.1 1159 (by decide)).trans (by simp (disch := omega) only [y_I_s_I, x_I_s_I, z_I_s_J, z_I_s_A, z_I_s_B, e328_st_, e328_wt, e_w0, e_l0])
      have h5_ : mS S5_ x := f5_.keep h328c
      have hc5_35 : ∀ i, rAt S5_ (x + 35) i = rAt S (x + 35) i := fun i => ((f5_.1 (x + 35) (by omega) (by intro j hj; simp only [List.mem_cons, List.not_mem_nil, or_false] at hj; omega)).rA i).trans (hc328_35 i)
      have hc5_34 : ∀ i, rAt S5_ (x + 34) i = rAt S (x + 34) i := fun i => ((f5_.1 (x + 34) (by omega) (by intro j hj; simp only [List.mem_cons, List.not_mem_nil, or_false] at hj; omega)).rA i).trans (hc328_34 i)
      have hc5_26 : ∀ i, rAt S5_ (x + 26) i = rAt S (x + 26) i := fun i => ((f5_.1 (x + 26) (by omega) (by intro j hj; simp only [List.mem_cons, List.not_mem_nil, or_false] at hj; omega)).rA i).trans (hc328_26 i)
      have hc5_22 : ∀ i, rAt S5_ (x + 22) i = rAt S (x + 22) i := fun i => ((f5_.1 (x + 22) (by omega) (by intro j hj; simp only [List.mem_cons, List.not_mem_nil, or_false] at hj; omega)).rA i).trans (hc328_22 i)
      have hc5_27 : ∀ i, rAt S5_ (x + 27) i = rAt S (x + 27) i := fun i => ((f5_.1 (x + 27) (by omega) (by intro j hj; simp only [List.mem_cons, List.not_mem_nil, or_false] at hj; omega)).rA i).trans (hc328_27 i)
      have hc5_28 : ∀ i, rAt S5_ (x + 28) i = rAt S (x + 28) i := fun i => ((f5_.1 (x + 28) (by omega) (by intro j hj; simp only [List.mem_cons, List.not_mem_nil, or_false] at hj; omega)).rA i).trans (hc328_28 i)
      have hc5_29 : ∀ i, rAt S5_ (x + 29) i = rAt S (x + 29) i := fun i => ((f5_.1 (x + 29) (by omega) (by intro j hj; simp only [List.mem_cons, List.not_mem_nil, or_false] at hj; omega)).rA i).trans (hc328_29 i)
      have hc5_18 : ∀ i, rAt S5_ (x + 18) i = rAt S (x + 18) i := fun i => ((f5_.1 (x + 18) (by omega) (by intro j hj; simp only [List.mem_cons, List.not_mem_nil, or_false] at hj; omega)).rA i).trans (hc328_18 i)
      have hc5_25 : ∀ i, rAt S5_ (x + 25) i = rAt S (x + 25) i := fun i => ((f5_.1 (x + 25) (by omega) (by intro j hj; simp only [List.mem_cons, List.not_mem_nil, or_false] at hj; omega)).rA i).trans (hc328_25 i)
      have hc5_19 : ∀ i, rAt S5_ (x + 19) i = rAt S (x + 19) i := fun i => ((f5_.1 (x + 19) (by omega) (by intro j hj; simp only [List.mem_cons, List.not_mem_nil, or_false] at hj; omega)).rA i).trans (hc328_19 i)
      have hc5_21 : ∀ i, rAt S5_ (x + 21) i = rAt S (x + 21) i := fun i => ((f5_.1 (x + 21) (by omega) (by intro j hj; simp only [List.mem_cons, List.not_mem_nil, or_false] at hj; omega)).rA i).trans (hc328_21 i)
      have hc5_23 : ∀ i, rAt S5_ (x + 23) i = rAt S (x + 23) i := fun i => ((f5_.1 (x + 23) (by omega) (by intro j hj; simp only [List.mem_cons, List.not_mem_nil, or_false] at hj; omega)).rA i).trans (hc328_23 i)
      have hc5_20 : ∀ i, rAt S5_ (x + 20) i = rAt S (x + 20) i := fun i => ((f5_.1 (x + 20) (by omega) (by intro j hj; simp only [List.mem_cons, List.not_mem_nil, or_false] at hj; omega)).rA i).trans (hc328_20 i)
      refine v_iinc hX (v := iI (i + 1)) (lv' := [(5, .int (iI (i + 1))), (0, .ref x), (1, .int (iI sx))]) dX13_sayStatement_344 rfl (iI_add _ _) (by rw [hnL]; decide) rfl ?_
      refine v_goto hX (tgt := 328) dX13_sayStatement_347 (by decide) ?_
      exact ih328 _ (by omega) _ v6_ l0 (i + 1) (fr328.tr (f5_.mono (by decide) (by decide) (by decide))) (by simp (disch := omega) only [y_I_s_I, x_I_s_I, z_I_s_J, z_I_s_A, z_I_s_B, e5_1128, e5_1163, e5_1159, e_v6_]) (by simp (disch := omega) only [y_I_s_I, x_I_s_I, z_I_s_J, z_I_s_A, z_I_s_B, e5_1128, e5_1163, e5_1159, e_v6_]) ⟨by omega, by omega⟩ ⟨by omega, by omega⟩ (by omega) rfl
  have L294 : ∀ (n294 : Nat) (S294c : b_M) (w0 : Int) (l0 : Int) (i : Int), mFr [1164, 1162, 1157, 1159] [] [38] S S294c x → m_I S294c 1157 x = iI w0 → m_I S294c 1159 x = iI l0 → (-2147483648 ≤ w0 ∧ w0 < 2147483648) → (-2147483648 ≤ l0 ∧ l0 < 2147483648) → (rAt S (x + 18) sx = 8 ∧ 0 ≤ i ∧ i ≤ rAt S (x + 21) sx ∧ w0 = wo_ + i ∧ l0 = lo_) → (rAt S (x + 21) sx - i).toNat = n294 → b_V X S294c z 0 0 294 [(5, .int (iI i)), (0, .ref x), (1, .int (iI sx))] [] := by
    intro n294
    induction n294 using Nat.strongRecOn with
    | _ n294 ih294 =>
    intro S294c w0 l0 i fr294 e_w0 e_l0 b_w0 b_l0 p294_0 hm294
    have h294c : mS S294c x := fr294.keep h
    have hc294_35 : ∀ i, rAt S294c (x + 35) i = rAt S (x + 35) i := fun i => (fr294.1 (x + 35) (by omega) (by intro j hj; simp only [List.mem_cons, List.not_mem_nil, or_false] at hj; omega)).rA i
    have hc294_34 : ∀ i, rAt S294c (x + 34) i = rAt S (x + 34) i := fun i => (fr294.1 (x + 34) (by omega) (by intro j hj; simp only [List.mem_cons, List.not_mem_nil, or_false] at hj; omega)).rA i
    have hc294_26 : ∀ i, rAt S294c (x + 26) i = rAt S (x + 26) i := fun i => (fr294.1 (x + 26) (by omega) (by intro j hj; simp only [List.mem_cons, List.not_mem_nil, or_false] at hj; omega)).rA i
    have hc294_22 : ∀ i, rAt S294c (x + 22) i = rAt S (x + 22) i := fun i => (fr294.1 (x + 22) (by omega) (by intro j hj; simp only [List.mem_cons, List.not_mem_nil, or_false] at hj; omega)).rA i
    have hc294_27 : ∀ i, rAt S294c (x + 27) i = rAt S (x + 27) i := fun i => (fr294.1 (x + 27) (by omega) (by intro j hj; simp only [List.mem_cons, List.not_mem_nil, or_false] at hj; omega)).rA i
    have hc294_28 : ∀ i, rAt S294c (x + 28) i = rAt S (x + 28) i := fun i => (fr294.1 (x + 28) (by omega) (by intro j hj; simp only [List.mem_cons, List.not_mem_nil, or_false] at hj; omega)).rA i
    have hc294_29 : ∀ i, rAt S294c (x + 29) i = rAt S (x + 29) i := fun i => (fr294.1 (x + 29) (by omega) (by intro j hj; simp only [List.mem_cons, List.not_mem_nil, or_false] at hj; omega)).rA i
    have hc294_18 : ∀ i, rAt S294c (x + 18) i = rAt S (x + 18) i := fun i => (fr294.1 (x + 18) (by omega) (by intro j hj; simp only [List.mem_cons, List.not_mem_nil, or_false] at hj; omega)).rA i
    have hc294_25 : ∀ i, rAt S294c (x + 25) i = rAt S (x + 25) i := fun i => (fr294.1 (x + 25) (by omega) (by intro j hj; simp only [List.mem_cons, List.not_mem_nil, or_false] at hj; omega)).rA i
    have hc294_19 : ∀ i, rAt S294c (x + 19) i = rAt S (x + 19) i := fun i => (fr294.1 (x + 19) (by omega) (by intro j hj; simp only [List.mem_cons, List.not_mem_nil, or_false] at hj; omega)).rA i
    have hc294_21 : ∀ i, rAt S294c (x + 21) i = rAt S (x + 21) i := fun i => (fr294.1 (x + 21) (by omega) (by intro j hj; simp only [List.mem_cons, List.not_mem_nil, or_false] at hj; omega)).rA i
    have hc294_23 : ∀ i, rAt S294c (x + 23) i = rAt S (x + 23) i := fun i => (fr294.1 (x + 23) (by omega) (by intro j hj; simp only [List.mem_cons, List.not_mem_nil, or_false] at hj; omega)).rA i
    have hc294_20 : ∀ i, rAt S294c (x + 20) i = rAt S (x + 20) i := fun i => (fr294.1 (x + 20) (by omega) (by intro j hj; simp only [List.mem_cons, List.not_mem_nil, or_false] at hj; omega)).rA i
    have e294_st_ : m_I S294c 1128 x = iI st_ := (fr294.2.2.2.1 1128 (by decide)).trans e_st_
    have e294_wt : m_I S294c 1163 x = iI wt := (fr294.2.2.2.1 1163 (by decide)).trans e_wt
    have gw_ := wd_any S x sx
    refine v_iload hX dX13_sayStatement_294 rfl ?_
    refine v_aload_n hX dX13_sayStatement_296 (i := 0) rfl rfl ?_
    refine v_get hX (ci := 11) (k := 33) (ms_kx h294c) bc_11 (by decide) (by decide) in_11 w_6_9 dX13_sayStatement_297 (mvP (f := 1133) (q := (x + 21)) rfl rfl (ms_p_1133 h294c)) ?_
    refine v_iload_n hX dX13_sayStatement_300 (i := 1) rfl rfl ?_
    refine u_iald hX (L := 400) (ms_k_1133 h294c) (ms_l_1133 h294c) ⟨by omega, by omega⟩ (by decide) dX13_sayStatement_301 (fun v7_ e_v7_ b_v7_ => ?_)
    try simp (disch := omega) only [zr_I, zr_J, zr_B, rA_A, zl_I, zl_J, zl_A, lA_B, hc294_35, hc294_34, hc294_26, hc294_22, hc294_27, hc294_28, hc294_29, hc294_18, hc294_25, hc294_19, hc294_21, hc294_23, hc294_20] at e_v7_
    refine u_icmp_ge hX (tgt := 322) dX13_sayStatement_302 (by decide) ⟨by omega, by omega⟩ ⟨by omega, by omega⟩ (fun h8_ => ?_) (fun h8_ => ?_)
    ·
      have gw_ := wd_any S x sx
      refine v_goto hX (tgt := 361) dX13_sayStatement_322 (by decide) ?_
      refine v_locals (lv' := [(0, .ref x), (1, .int (iI sx))]) (by simp) ?_
      exact L361 _ w0 l0 fr294 (by simp (disch := omega) only [y_I_s_I, x_I_s_I, z_I_s_J, z_I_s_A, z_I_s_B, e294_st_, e294_wt, e_w0, e_l0]) (by simp (disch := omega) only [y_I_s_I, x_I_s_I, z_I_s_J, z_I_s_A, z_I_s_B, e294_st_, e294_wt, e_w0, e_l0]) ⟨by omega, by omega⟩ ⟨by omega, by omega⟩ (by omega)
    ·
      refine v_aload_n hX dX13_sayStatement_305 (i := 0) rfl rfl ?_
      refine v_aload_n hX dX13_sayStatement_306 (i := 0) rfl rfl ?_
      refine v_iload_n hX dX13_sayStatement_307 (i := 1) rfl rfl ?_
      refine v_iload hX dX13_sayStatement_308 rfl ?_
      refine v_callV hX (n := 2) (k_valueAt (S := S294c) (x := x) (sx := sx) (k := i) (st_ := st_) (wt := wt) h294c (by simp (disch := omega) only [y_I_s_I, x_I_s_I, z_I_s_J, z_I_s_A, z_I_s_B, e294_st_, e294_wt, e_w0, e_l0]) ⟨by omega, by omega⟩ (by simp (disch := omega) only [y_I_s_I, x_I_s_I, z_I_s_J, z_I_s_A, z_I_s_B, e294_st_, e294_wt, e_w0, e_l0]) ⟨by omega, by omega⟩ ⟨by omega, by omega⟩ ⟨by omega, by omega⟩ (so.c (fun i => hc294_35 i) (fun i => hc294_34 i)) (eo.c (fun i => (hc294_27 i)) (fun i => (hc294_28 i)) (fun i => (hc294_29 i))) (by (try simp (disch := omega) only [zr_I, zr_J, zr_B, rA_A, zl_I, zl_J, zl_A, lA_B, hc294_35, hc294_34, hc294_26, hc294_22, hc294_27, hc294_28, hc294_29, hc294_18, hc294_25, hc294_19, hc294_21, hc294_23, hc294_20]); omega)) (ms_kx h294c) bc_11 (by decide) w_7_182 w_7_184 (bw_p (q := (yX13_valueAt, 72)) (List.mem_of_getElem? (i := 86) rfl) rfl) w_1_16 w_7_185 (by decide +kernel) rfl ⟨by decide, by decide⟩ ⟨by omega, by omega⟩ (Nat.le_of_ble_eq_true rfl) rfl dX13_sayStatement_310 (fun _ _ _ q => q) ?_
      rintro r9_ S9_ z9_ ⟨rfl, f9_, v10_, v11_, rfl, b_v10_, e_v11_, b_v11_, q9_⟩
      have e9_1128 : m_I S9_ 1128 x = iI st_ := (f9_.2.2.2.1 1128 (by decide)).trans (by simp (disch := omega) only [y_I_s_I, x_I_s_I, z_I_s_J, z_I_s_A, z_I_s_B, e294_st_, e294_wt, e_w0, e_l0])
      have e9_1163 : m_I S9_ 1163 x = iI wt := (f9_.2.2.2.1 1163 (by decide)).trans (by simp (disch := omega) only [y_I_s_I, x_I_s_I, z_I_s_J, z_I_s_A, z_I_s_B, e294_st_, e294_wt, e_w0, e_l0])
      have e9_1157 : m_I S9_ 1157 x = iI w0 := (f9_.2.2.2.1 1157 (by decide)).trans (by simp (disch := omega) only [y_I_s_I, x_I_s_I, z_I_s_J, z_I_s_A, z_I_s_B, e294_st_, e294_wt, e_w0, e_l0])
      have e9_1159 : m_I S9_ 1159 x = iI l0 := (f9_.2.2.2.1 1159 (by decide)).trans (by simp (disch := omega) only [y_I_s_I, x_I_s_I, z_I_s_J, z_I_s_A, z_I_s_B, e294_st_, e294_wt, e_w0, e_l0])
      have h9_ : mS S9_ x := f9_.keep h294c
      have hc9_35 : ∀ i, rAt S9_ (x + 35) i = rAt S (x + 35) i := fun i => ((f9_.1 (x + 35) (by omega) (fun j hj => absurd hj List.not_mem_nil)).rA i).trans (hc294_35 i)
      have hc9_34 : ∀ i, rAt S9_ (x + 34) i = rAt S (x + 34) i := fun i => ((f9_.1 (x + 34) (by omega) (fun j hj => absurd hj List.not_mem_nil)).rA i).trans (hc294_34 i)
      have hc9_26 : ∀ i, rAt S9_ (x + 26) i = rAt S (x + 26) i := fun i => ((f9_.1 (x + 26) (by omega) (fun j hj => absurd hj List.not_mem_nil)).rA i).trans (hc294_26 i)
      have hc9_22 : ∀ i, rAt S9_ (x + 22) i = rAt S (x + 22) i := fun i => ((f9_.1 (x + 22) (by omega) (fun j hj => absurd hj List.not_mem_nil)).rA i).trans (hc294_22 i)
      have hc9_27 : ∀ i, rAt S9_ (x + 27) i = rAt S (x + 27) i := fun i => ((f9_.1 (x + 27) (by omega) (fun j hj => absurd hj List.not_mem_nil)).rA i).trans (hc294_27 i)
      have hc9_28 : ∀ i, rAt S9_ (x + 28) i = rAt S (x + 28) i := fun i => ((f9_.1 (x + 28) (by omega) (fun j hj => absurd hj List.not_mem_nil)).rA i).trans (hc294_28 i)
      have hc9_29 : ∀ i, rAt S9_ (x + 29) i = rAt S (x + 29) i := fun i => ((f9_.1 (x + 29) (by omega) (fun j hj => absurd hj List.not_mem_nil)).rA i).trans (hc294_29 i)
      have hc9_18 : ∀ i, rAt S9_ (x + 18) i = rAt S (x + 18) i := fun i => ((f9_.1 (x + 18) (by omega) (fun j hj => absurd hj List.not_mem_nil)).rA i).trans (hc294_18 i)
      have hc9_25 : ∀ i, rAt S9_ (x + 25) i = rAt S (x + 25) i := fun i => ((f9_.1 (x + 25) (by omega) (fun j hj => absurd hj List.not_mem_nil)).rA i).trans (hc294_25 i)
      have hc9_19 : ∀ i, rAt S9_ (x + 19) i = rAt S (x + 19) i := fun i => ((f9_.1 (x + 19) (by omega) (fun j hj => absurd hj List.not_mem_nil)).rA i).trans (hc294_19 i)
      have hc9_21 : ∀ i, rAt S9_ (x + 21) i = rAt S (x + 21) i := fun i => ((f9_.1 (x + 21) (by omega) (fun j hj => absurd hj List.not_mem_nil)).rA i).trans (hc294_21 i)
      have hc9_23 : ∀ i, rAt S9_ (x + 23) i = rAt S (x + 23) i := fun i => ((f9_.1 (x + 23) (by omega) (fun j hj => absurd hj List.not_mem_nil)).rA i).trans (hc294_23 i)
      have hc9_20 : ∀ i, rAt S9_ (x + 20) i = rAt S (x + 20) i := fun i => ((f9_.1 (x + 20) (by omega) (fun j hj => absurd hj List.not_mem_nil)).rA i).trans (hc294_20 i)
      refine v_callV hX (n := 1) (k_say (S := S9_) (x := x) (v := v10_) (wo_ := w0) h9_ (by simp (disch := omega) only [y_I_s_I, x_I_s_I, z_I_s_J, z_I_s_A, z_I_s_B, e9_1128, e9_1163, e9_1157, e9_1159, e_v11_]) ⟨by omega, by omega⟩ ⟨by omega, by omega⟩ (by omega)) (ms_kx h9_) bc_11 (by decide) w_7_203 w_7_205 (bw_p (q := (yX13_say, 72)) (List.mem_of_getElem? (i := 91) rfl) rfl) w_1_16 w_7_206 (by decide +kernel) rfl ⟨by decide, by decide⟩ ⟨by omega, by omega⟩ (Nat.le_of_ble_eq_true rfl) rfl dX13_sayStatement_313 (fun _ _ _ q => q) ?_
      rintro r12_ S12_ z12_ ⟨rfl, f12_, v13_, rfl, e_v13_, b_v13_, q12_⟩
      have e12_1128 : m_I S12_ 1128 x = iI st_ := (f12_.2.2.2.1 1128 (by decide)).trans (by simp (disch := omega) only [y_I_s_I, x_I_s_I, z_I_s_J, z_I_s_A, z_I_s_B, e9_1128, e9_1163, e9_1157, e9_1159, e_v11_])
      have e12_1163 : m_I S12_ 1163 x = iI wt := (f12_.2.2.2.1 1163 (by decide)).trans (by simp (disch := omega) only [y_I_s_I, x_I_s_I, z_I_s_J, z_I_s_A, z_I_s_B, e9_1128, e9_1163, e9_1157, e9_1159, e_v11_])
      have e12_1159 : m_I S12_ 1159 x = iI l0 := (f12_.2.2.2.1 1159 (by decide)).trans (by simp (disch := omega) only [y_I_s_I, x_I_s_I, z_I_s_J, z_I_s_A, z_I_s_B, e9_1128, e9_1163, e9_1157, e9_1159, e_v11_])
      have e12_1162 : m_I S12_ 1162 x = iI v11_ := (f12_.2.2.2.1 1162 (by decide)).trans (by simp (disch := omega) only [y_I_s_I, x_I_s_I, z_I_s_J, z_I_s_A, z_I_s_B, e9_1128, e9_1163, e9_1157, e9_1159, e_v11_])
      have h12_ : mS S12_ x := f12_.keep h9_
      have hc12_35 : ∀ i, rAt S12_ (x + 35) i = rAt S (x + 35) i := fun i => ((f12_.1 (x + 35) (by omega) (by intro j hj; simp only [List.mem_cons, List.not_mem_nil, or_false] at hj; omega)).rA i).trans (hc9_35 i)
      have hc12_34 : ∀ i, rAt S12_ (x + 34) i = rAt S (x + 34) i := fun i => ((f12_.1 (x + 34) (by omega) (by intro j hj; simp only [List.mem_cons, List.not_mem_nil, or_false] at hj; omega)).rA i).trans (hc9_34 i)
      have hc12_26 : ∀ i, rAt S12_ (x + 26) i = rAt S (x + 26) i := fun i => ((f12_.1 (x + 26) (by omega) (by intro j hj; simp only [List.mem_cons, List.not_mem_nil, or_false] at hj; omega)).rA i).trans (hc9_26 i)
      have hc12_22 : ∀ i, rAt S12_ (x + 22) i = rAt S (x + 22) i := fun i => ((f12_.1 (x + 22) (by omega) (by intro j hj; simp only [List.mem_cons, List.not_mem_nil, or_false] at hj; omega)).rA i).trans (hc9_22 i)
      have hc12_27 : ∀ i, rAt S12_ (x + 27) i = rAt S (x + 27) i := fun i => ((f12_.1 (x + 27) (by omega) (by intro j hj; simp only [List.mem_cons, List.not_mem_nil, or_false] at hj; omega)).rA i).trans (hc9_27 i)
      have hc12_28 : ∀ i, rAt S12_ (x + 28) i = rAt S (x + 28) i := fun i => ((f12_.1 (x + 28) (by omega) (by intro j hj; simp only [List.mem_cons, List.not_mem_nil, or_false] at hj; omega)).rA i).trans (hc9_28 i)
      have hc12_29 : ∀ i, rAt S12_ (x + 29) i = rAt S (x + 29) i := fun i => ((f12_.1 (x + 29) (by omega) (by intro j hj; simp only [List.mem_cons, List.not_mem_nil, or_false] at hj; omega)).rA i).trans (hc9_29 i)
      have hc12_18 : ∀ i, rAt S12_ (x + 18) i = rAt S (x + 18) i := fun i => ((f12_.1 (x + 18) (by omega) (by intro j hj; simp only [List.mem_cons, List.not_mem_nil, or_false] at hj; omega)).rA i).trans (hc9_18 i)
      have hc12_25 : ∀ i, rAt S12_ (x + 25) i = rAt S (x + 25) i := fun i => ((f12_.1 (x + 25) (by omega) (by intro j hj; simp only [List.mem_cons, List.not_mem_nil, or_false] at hj; omega)).rA i).trans (hc9_25 i)
      have hc12_19 : ∀ i, rAt S12_ (x + 19) i = rAt S (x + 19) i := fun i => ((f12_.1 (x + 19) (by omega) (by intro j hj; simp only [List.mem_cons, List.not_mem_nil, or_false] at hj; omega)).rA i).trans (hc9_19 i)
      have hc12_21 : ∀ i, rAt S12_ (x + 21) i = rAt S (x + 21) i := fun i => ((f12_.1 (x + 21) (by omega) (by intro j hj; simp only [List.mem_cons, List.not_mem_nil, or_false] at hj; omega)).rA i).trans (hc9_21 i)
      have hc12_23 : ∀ i, rAt S12_ (x + 23) i = rAt S (x + 23) i := fun i => ((f12_.1 (x + 23) (by omega) (by intro j hj; simp only [List.mem_cons, List.not_mem_nil, or_false] at hj; omega)).rA i).trans (hc9_23 i)
      have hc12_20 : ∀ i, rAt S12_ (x + 20) i = rAt S (x + 20) i := fun i => ((f12_.1 (x + 20) (by omega) (by intro j hj; simp only [List.mem_cons, List.not_mem_nil, or_false] at hj; omega)).rA i).trans (hc9_20 i)
      refine v_iinc hX (v := iI (i + 1)) (lv' := [(5, .int (iI (i + 1))), (0, .ref x), (1, .int (iI sx))]) dX13_sayStatement_316 rfl (iI_add _ _) (by rw [hnL]; decide) rfl ?_
      refine v_goto hX (tgt := 294) dX13_sayStatement_319 (by decide) ?_
      exact ih294 _ (by omega) _ v13_ l0 (i + 1) ((fr294.tr (f9_.mono (by decide) (by decide) (by decide))).tr (f12_.mono (by decide) (by decide) (by decide))) (by simp (disch := omega) only [y_I_s_I, x_I_s_I, z_I_s_J, z_I_s_A, z_I_s_B, e12_1128, e12_1163, e12_1159, e12_1162, e_v13_]) (by simp (disch := omega) only [y_I_s_I, x_I_s_I, z_I_s_J, z_I_s_A, z_I_s_B, e12_1128, e12_1163, e12_1159, e12_1162, e_v13_]) ⟨by omega, by omega⟩ ⟨by omega, by omega⟩ (by omega) rfl
  have L19 : ∀ (S19c : b_M) (w0 : Int) (l0 : Int) (v : Int), mFr [1164, 1162, 1157, 1159] [] [38] S S19c x → m_I S19c 1157 x = iI w0 → m_I S19c 1159 x = iI l0 → (-2147483648 ≤ w0 ∧ w0 < 2147483648) → (-2147483648 ≤ l0 ∧ l0 < 2147483648) → ((-2147483648 ≤ v ∧ v < 2147483648) ∧ w0 = wo_ ∧ l0 = lo_) → b_V X S19c z 0 0 19 [(0, .ref x), (1, .int (iI sx))] [.int (iI v)] := by
    intro S19c w0 l0 v fr19 e_w0 e_l0 b_w0 b_l0 p19_0
    have h19c : mS S19c x := fr19.keep h
    have hc19_35 : ∀ i, rAt S19c (x + 35) i = rAt S (x + 35) i := fun i => (fr19.1 (x + 35) (by omega) (by intro j hj; simp only [List.mem_cons, List.not_mem_nil, or_false] at hj; omega)).rA i
    have hc19_34 : ∀ i, rAt S19c (x + 34) i = rAt S (x + 34) i := fun i => (fr19.1 (x + 34) (by omega) (by intro j hj; simp only [List.mem_cons, List.not_mem_nil, or_false] at hj; omega)).rA i
    have hc19_26 : ∀ i, rAt S19c (x + 26) i = rAt S (x + 26) i := fun i => (fr19.1 (x + 26) (by omega) (by intro j hj; simp only [List.mem_cons, List.not_mem_nil, or_false] at hj; omega)).rA i
    have hc19_22 : ∀ i, rAt S19c (x + 22) i = rAt S (x + 22) i := fun i => (fr19.1 (x + 22) (by omega) (by intro j hj; simp only [List.mem_cons, List.not_mem_nil, or_false] at hj; omega)).rA i
    have hc19_27 : ∀ i, rAt S19c (x + 27) i = rAt S (x + 27) i := fun i => (fr19.1 (x + 27) (by omega) (by intro j hj; simp only [List.mem_cons, List.not_mem_nil, or_false] at hj; omega)).rA i
    have hc19_28 : ∀ i, rAt S19c (x + 28) i = rAt S (x + 28) i := fun i => (fr19.1 (x + 28) (by omega) (by intro j hj; simp only [List.mem_cons, List.not_mem_nil, or_false] at hj; omega)).rA i
    have hc19_29 : ∀ i, rAt S19c (x + 29) i = rAt S (x + 29) i := fun i => (fr19.1 (x + 29) (by omega) (by intro j hj; simp only [List.mem_cons, List.not_mem_nil, or_false] at hj; omega)).rA i
    have hc19_18 : ∀ i, rAt S19c (x + 18) i = rAt S (x + 18) i := fun i => (fr19.1 (x + 18) (by omega) (by intro j hj; simp only [List.mem_cons, List.not_mem_nil, or_false] at hj; omega)).rA i
    have hc19_25 : ∀ i, rAt S19c (x + 25) i = rAt S (x + 25) i := fun i => (fr19.1 (x + 25) (by omega) (by intro j hj; simp only [List.mem_cons, List.not_mem_nil, or_false] at hj; omega)).rA i
    have hc19_19 : ∀ i, rAt S19c (x + 19) i = rAt S (x + 19) i := fun i => (fr19.1 (x + 19) (by omega) (by intro j hj; simp only [List.mem_cons, List.not_mem_nil, or_false] at hj; omega)).rA i
    have hc19_21 : ∀ i, rAt S19c (x + 21) i = rAt S (x + 21) i := fun i => (fr19.1 (x + 21) (by omega) (by intro j hj; simp only [List.mem_cons, List.not_mem_nil, or_false] at hj; omega)).rA i
    have hc19_23 : ∀ i, rAt S19c (x + 23) i = rAt S (x + 23) i := fun i => (fr19.1 (x + 23) (by omega) (by intro j hj; simp only [List.mem_cons, List.not_mem_nil, or_false] at hj; omega)).rA i
    have hc19_20 : ∀ i, rAt S19c (x + 20) i = rAt S (x + 20) i := fun i => (fr19.1 (x + 20) (by omega) (by intro j hj; simp only [List.mem_cons, List.not_mem_nil, or_false] at hj; omega)).rA i
    have e19_st_ : m_I S19c 1128 x = iI st_ := (fr19.2.2.2.1 1128 (by decide)).trans e_st_
    have e19_wt : m_I S19c 1163 x = iI wt := (fr19.2.2.2.1 1163 (by decide)).trans e_wt
    refine v_istore_n hX (lv' := [(2, .int (iI v)), (0, .ref x), (1, .int (iI sx))]) dX13_sayStatement_19 (i := 2) rfl (by rw [hnL]; decide) rfl ?_
    refine v_aload_n hX dX13_sayStatement_20 (i := 0) rfl rfl ?_
    refine v_get hX (ci := 11) (k := 31) (ms_kx h19c) bc_11 (by decide) (by decide) in_11 w_6_7 dX13_sayStatement_21 (mvP (f := 1131) (q := (x + 19)) rfl rfl (ms_p_1131 h19c)) ?_
    refine v_iload_n hX dX13_sayStatement_24 (i := 1) rfl rfl ?_
    refine u_iald hX (L := 400) (ms_k_1131 h19c) (ms_l_1131 h19c) ⟨by omega, by omega⟩ (by decide) dX13_sayStatement_25 (fun v14_ e_v14_ b_v14_ => ?_)
    try simp (disch := omega) only [zr_I, zr_J, zr_B, rA_A, zl_I, zl_J, zl_A, lA_B, hc19_35, hc19_34, hc19_26, hc19_22, hc19_27, hc19_28, hc19_29, hc19_18, hc19_25, hc19_19, hc19_21, hc19_23, hc19_20] at e_v14_
    refine v_bipush hX (v := iI 9) dX13_sayStatement_26 (by decide) ?_
    refine u_ishl hX dX13_sayStatement_28 (fun v15_ b_v15_ => ?_)
    refine v_istore_n hX (lv' := [(3, .int (iI v15_)), (2, .int (iI v)), (0, .ref x), (1, .int (iI sx))]) dX13_sayStatement_29 (i := 3) rfl (by rw [hnL]; decide) rfl ?_
    refine v_iload_n hX dX13_sayStatement_30 (i := 2) rfl rfl ?_
    refine v_aload_n hX dX13_sayStatement_31 (i := 0) rfl rfl ?_
    refine v_get hX (ci := 11) (k := 38) (ms_kx h19c) bc_11 (by decide) (by decide) in_11 w_6_14 dX13_sayStatement_32 (mvP (f := 1138) (q := (x + 26)) rfl rfl (ms_p_1138 h19c)) ?_
    refine v_iload_n hX dX13_sayStatement_35 (i := 1) rfl rfl ?_
    refine u_iald hX (L := 400) (ms_k_1138 h19c) (ms_l_1138 h19c) ⟨by omega, by omega⟩ (by decide) dX13_sayStatement_36 (fun v16_ e_v16_ b_v16_ => ?_)
    try simp (disch := omega) only [zr_I, zr_J, zr_B, rA_A, zl_I, zl_J, zl_A, lA_B, hc19_35, hc19_34, hc19_26, hc19_22, hc19_27, hc19_28, hc19_29, hc19_18, hc19_25, hc19_19, hc19_21, hc19_23, hc19_20] at e_v16_
    refine u_isub hX dX13_sayStatement_37 ?_
    refine v_iconst hX (v := iI 1) dX13_sayStatement_38 rfl ?_
    refine u_isub hX dX13_sayStatement_39 ?_
    refine v_istore hX (lv' := [(4, .int (iI ((v - v16_) - 1))), (3, .int (iI v15_)), (2, .int (iI v)), (0, .ref x), (1, .int (iI sx))]) dX13_sayStatement_40 (by rw [hnL]; decide) rfl ?_
    refine v_aload_n hX dX13_sayStatement_42 (i := 0) rfl rfl ?_
    refine v_get hX (ci := 11) (k := 30) (ms_kx h19c) bc_11 (by decide) (by decide) in_11 w_6_6 dX13_sayStatement_43 (mvP (f := 1130) (q := (x + 18)) rfl rfl (ms_p_1130 h19c)) ?_
    refine v_iload_n hX dX13_sayStatement_46 (i := 1) rfl rfl ?_
    refine u_iald hX (L := 400) (ms_k_1130 h19c) (ms_l_1130 h19c) ⟨by omega, by omega⟩ (by decide) dX13_sayStatement_47 (fun v17_ e_v17_ b_v17_ => ?_)
    try simp (disch := omega) only [zr_I, zr_J, zr_B, rA_A, zl_I, zl_J, zl_A, lA_B, hc19_35, hc19_34, hc19_26, hc19_22, hc19_27, hc19_28, hc19_29, hc19_18, hc19_25, hc19_19, hc19_21, hc19_23, hc19_20] at e_v17_
    have gw_ := wd_any S x sx
    by_cases h18_ : 1 ≤ v17_ ∧ v17_ ≤ 10
    ·
      have h19_ : v17_ = 1 ∨ v17_ = 2 ∨ v17_ = 3 ∨ v17_ = 4 ∨ v17_ = 5 ∨ v17_ = 6 ∨ v17_ = 7 ∨ v17_ = 8 ∨ v17_ = 9 ∨ v17_ = 10 := by omega
      rcases h19_ with h19_ | h19_ | h19_ | h19_ | h19_ | h19_ | h19_ | h19_ | h19_ | h19_
      ·
        refine v_tableIn hX (off := 56) (tgt := 104) dX13_sayStatement_48 (by rw [iI_to ⟨by omega, by omega⟩]; omega) (by rw [iI_to ⟨by omega, by omega⟩]; omega) (by rw [iI_to ⟨by omega, by omega⟩, h19_]; rfl) (by decide) ?_
        refine v_aload_n hX dX13_sayStatement_104 (i := 0) rfl rfl ?_
        refine v_iconst hX (v := iI 0) dX13_sayStatement_105 rfl ?_
        refine v_callV hX (n := 1) (k_say (S := S19c) (x := x) (v := 0) (wo_ := w0) h19c (by simp (disch := omega) only [y_I_s_I, x_I_s_I, z_I_s_J, z_I_s_A, z_I_s_B, e19_st_, e19_wt, e_w0, e_l0]) ⟨by omega, by omega⟩ ⟨by omega, by omega⟩ (by omega)) (ms_kx h19c) bc_11 (by decide) w_7_203 w_7_205 (bw_p (q := (yX13_say, 72)) (List.mem_of_getElem? (i := 91) rfl) rfl) w_1_16 w_7_206 (by decide +kernel) rfl ⟨by decide, by decide⟩ ⟨by omega, by omega⟩ (Nat.le_of_ble_eq_true rfl) rfl dX13_sayStatement_106 (fun _ _ _ q => q) ?_
        rintro r20_ S20_ z20_ ⟨rfl, f20_, v21_, rfl, e_v21_, b_v21_, q20_⟩
        have e20_1128 : m_I S20_ 1128 x = iI st_ := (f20_.2.2.2.1 1128 (by decide)).trans (by simp (disch := omega) only [y_I_s_I, x_I_s_I, z_I_s_J, z_I_s_A, z_I_s_B, e19_st_, e19_wt, e_w0, e_l0])
        have e20_1163 : m_I S20_ 1163 x = iI wt := (f20_.2.2.2.1 1163 (by decide)).trans (by simp (disch := omega) only [y_I_s_I, x_I_s_I, z_I_s_J, z_I_s_A, z_I_s_B, e19_st_, e19_wt, e_w0, e_l0])
        have e20_1159 : m_I S20_ 1159 x = iI l0 := (f20_.2.2.2.1 1159 (by decide)).trans (by simp (disch := omega) only [y_I_s_I, x_I_s_I, z_I_s_J, z_I_s_A, z_I_s_B, e19_st_, e19_wt, e_w0, e_l0])
        have h20_ : mS S20_ x := f20_.keep h19c
        have hc20_35 : ∀ i, rAt S20_ (x + 35) i = rAt S (x + 35) i := fun i => ((f20_.1 (x + 35) (by omega) (by intro j hj; simp only [List.mem_cons, List.not_mem_nil, or_false] at hj; omega)).rA i).trans (hc19_35 i)
        have hc20_34 : ∀ i, rAt S20_ (x + 34) i = rAt S (x + 34) i := fun i => ((f20_.1 (x + 34) (by omega) (by intro j hj; simp only [List.mem_cons, List.not_mem_nil, or_false] at hj; omega)).rA i).trans (hc19_34 i)
        have hc20_26 : ∀ i, rAt S20_ (x + 26) i = rAt S (x + 26) i := fun i => ((f20_.1 (x + 26) (by omega) (by intro j hj; simp only [List.mem_cons, List.not_mem_nil, or_false] at hj; omega)).rA i).trans (hc19_26 i)
        have hc20_22 : ∀ i, rAt S20_ (x + 22) i = rAt S (x + 22) i := fun i => ((f20_.1 (x + 22) (by omega) (by intro j hj; simp only [List.mem_cons, List.not_mem_nil, or_false] at hj; omega)).rA i).trans (hc19_22 i)
        have hc20_27 : ∀ i, rAt S20_ (x + 27) i = rAt S (x + 27) i := fun i => ((f20_.1 (x + 27) (by omega) (by intro j hj; simp only [List.mem_cons, List.not_mem_nil, or_false] at hj; omega)).rA i).trans (hc19_27 i)
        have hc20_28 : ∀ i, rAt S20_ (x + 28) i = rAt S (x + 28) i := fun i => ((f20_.1 (x + 28) (by omega) (by intro j hj; simp only [List.mem_cons, List.not_mem_nil, or_false] at hj; omega)).rA i).trans (hc19_28 i)
        have hc20_29 : ∀ i, rAt S20_ (x + 29) i = rAt S (x + 29) i := fun i => ((f20_.1 (x + 29) (by omega) (by intro j hj; simp only [List.mem_cons, List.not_mem_nil, or_false] at hj; omega)).rA i).trans (hc19_29 i)
        have hc20_18 : ∀ i, rAt S20_ (x + 18) i = rAt S (x + 18) i := fun i => ((f20_.1 (x + 18) (by omega) (by intro j hj; simp only [List.mem_cons, List.not_mem_nil, or_false] at hj; omega)).rA i).trans (hc19_18 i)
        have hc20_25 : ∀ i, rAt S20_ (x + 25) i = rAt S (x + 25) i := fun i => ((f20_.1 (x + 25) (by omega) (by intro j hj; simp only [List.mem_cons, List.not_mem_nil, or_false] at hj; omega)).rA i).trans (hc19_25 i)
        have hc20_19 : ∀ i, rAt S20_ (x + 19) i = rAt S (x + 19) i := fun i => ((f20_.1 (x + 19) (by omega) (by intro j hj; simp only [List.mem_cons, List.not_mem_nil, or_false] at hj; omega)).rA i).trans (hc19_19 i)
        have hc20_21 : ∀ i, rAt S20_ (x + 21) i = rAt S (x + 21) i := fun i => ((f20_.1 (x + 21) (by omega) (by intro j hj; simp only [List.mem_cons, List.not_mem_nil, or_false] at hj; omega)).rA i).trans (hc19_21 i)
        have hc20_23 : ∀ i, rAt S20_ (x + 23) i = rAt S (x + 23) i := fun i => ((f20_.1 (x + 23) (by omega) (by intro j hj; simp only [List.mem_cons, List.not_mem_nil, or_false] at hj; omega)).rA i).trans (hc19_23 i)
        have hc20_20 : ∀ i, rAt S20_ (x + 20) i = rAt S (x + 20) i := fun i => ((f20_.1 (x + 20) (by omega) (by intro j hj; simp only [List.mem_cons, List.not_mem_nil, or_false] at hj; omega)).rA i).trans (hc19_20 i)
        refine v_goto hX (tgt := 361) dX13_sayStatement_109 (by decide) ?_
        refine v_locals (lv' := [(0, .ref x), (1, .int (iI sx))]) (by simp) ?_
        exact L361 _ v21_ l0 (fr19.tr (f20_.mono (by decide) (by decide) (by decide))) (by simp (disch := omega) only [y_I_s_I, x_I_s_I, z_I_s_J, z_I_s_A, z_I_s_B, e20_1128, e20_1163, e20_1159, e_v21_]) (by simp (disch := omega) only [y_I_s_I, x_I_s_I, z_I_s_J, z_I_s_A, z_I_s_B, e20_1128, e20_1163, e20_1159, e_v21_]) ⟨by omega, by omega⟩ ⟨by omega, by omega⟩ (by omega)
      ·
        refine v_tableIn hX (off := 64) (tgt := 112) dX13_sayStatement_48 (by rw [iI_to ⟨by omega, by omega⟩]; omega) (by rw [iI_to ⟨by omega, by omega⟩]; omega) (by rw [iI_to ⟨by omega, by omega⟩, h19_]; rfl) (by decide) ?_
        refine v_aload_n hX dX13_sayStatement_112 (i := 0) rfl rfl ?_
        refine v_get hX (ci := 11) (k := 37) (ms_kx h19c) bc_11 (by decide) (by decide) in_11 w_6_13 dX13_sayStatement_113 (mvP (f := 1137) (q := (x + 25)) rfl rfl (ms_p_1137 h19c)) ?_
        refine v_iload_n hX dX13_sayStatement_116 (i := 1) rfl rfl ?_
        refine u_zald hX (L := 400) (ms_k_1137 h19c) (ms_l_1137 h19c) ⟨by omega, by omega⟩ (by decide) dX13_sayStatement_117 (fun v22_ e_v22_ b_v22_ => ?_)
        try simp (disch := omega) only [zr_I, zr_J, zr_B, rA_A, zl_I, zl_J, zl_A, lA_B, hc19_35, hc19_34, hc19_26, hc19_22, hc19_27, hc19_28, hc19_29, hc19_18, hc19_25, hc19_19, hc19_21, hc19_23, hc19_20] at e_v22_
        refine u_if_eq hX (tgt := 130) dX13_sayStatement_118 (by decide) ⟨by omega, by omega⟩ (fun h23_ => ?_) (fun h23_ => ?_)
        ·
          refine v_aload_n hX dX13_sayStatement_130 (i := 0) rfl rfl ?_
          refine v_sipush hX (v := iI 4096) dX13_sayStatement_131 (by decide) ?_
          refine v_iload_n hX dX13_sayStatement_134 (i := 3) rfl rfl ?_
          refine u_ior hX dX13_sayStatement_135 (fun v24_ b_v24_ => ?_)
          refine v_iload_n hX dX13_sayStatement_136 (i := 2) rfl rfl ?_
          refine v_sipush hX (v := iI 511) dX13_sayStatement_137 (by decide) ?_
          refine u_iand hX dX13_sayStatement_140 (fun v25_ b_v25_ => ?_)
          refine u_ior hX dX13_sayStatement_141 (fun v26_ b_v26_ => ?_)
          refine v_callV hX (n := 1) (k_say (S := S19c) (x := x) (v := v26_) (wo_ := w0) h19c (by simp (disch := omega) only [y_I_s_I, x_I_s_I, z_I_s_J, z_I_s_A, z_I_s_B, e19_st_, e19_wt, e_w0, e_l0]) ⟨by omega, by omega⟩ ⟨by omega, by omega⟩ (by omega)) (ms_kx h19c) bc_11 (by decide) w_7_203 w_7_205 (bw_p (q := (yX13_say, 72)) (List.mem_of_getElem? (i := 91) rfl) rfl) w_1_16 w_7_206 (by decide +kernel) rfl ⟨by decide, by decide⟩ ⟨by omega, by omega⟩ (Nat.le_of_ble_eq_true rfl) rfl dX13_sayStatement_142 (fun _ _ _ q => q) ?_
          rintro r27_ S27_ z27_ ⟨rfl, f27_, v28_, rfl, e_v28_, b_v28_, q27_⟩
          have e27_1128 : m_I S27_ 1128 x = iI st_ := (f27_.2.2.2.1 1128 (by decide)).trans (by simp (disch := omega) only [y_I_s_I, x_I_s_I, z_I_s_J, z_I_s_A, z_I_s_B, e19_st_, e19_wt, e_w0, e_l0])
          have e27_1163 : m_I S27_ 1163 x = iI wt := (f27_.2.2.2.1 1163 (by decide)).trans (by simp (disch := omega) only [y_I_s_I, x_I_s_I, z_I_s_J, z_I_s_A, z_I_s_B, e19_st_, e19_wt, e_w0, e_l0])
          have e27_1159 : m_I S27_ 1159 x = iI l0 := (f27_.2.2.2.1 1159 (by decide)).trans (by simp (disch := omega) only [y_I_s_I, x_I_s_I, z_I_s_J, z_I_s_A, z_I_s_B, e19_st_, e19_wt, e_w0, e_l0])
          have h27_ : mS S27_ x := f27_.keep h19c
          have hc27_35 : ∀ i, rAt S27_ (x + 35) i = rAt S (x + 35) i := fun i => ((f27_.1 (x + 35) (by omega) (by intro j hj; simp only [List.mem_cons, List.not_mem_nil, or_false] at hj; omega)).rA i).trans (hc19_35 i)
          have hc27_34 : ∀ i, rAt S27_ (x + 34) i = rAt S (x + 34) i := fun i => ((f27_.1 (x + 34) (by omega) (by intro j hj; simp only [List.mem_cons, List.not_mem_nil, or_false] at hj; omega)).rA i).trans (hc19_34 i)
          have hc27_26 : ∀ i, rAt S27_ (x + 26) i = rAt S (x + 26) i := fun i => ((f27_.1 (x + 26) (by omega) (by intro j hj; simp only [List.mem_cons, List.not_mem_nil, or_false] at hj; omega)).rA i).trans (hc19_26 i)
          have hc27_22 : ∀ i, rAt S27_ (x + 22) i = rAt S (x + 22) i := fun i => ((f27_.1 (x + 22) (by omega) (by intro j hj; simp only [List.mem_cons, List.not_mem_nil, or_false] at hj; omega)).rA i).trans (hc19_22 i)
          have hc27_27 : ∀ i, rAt S27_ (x + 27) i = rAt S (x + 27) i := fun i => ((f27_.1 (x + 27) (by omega) (by intro j hj; simp only [List.mem_cons, List.not_mem_nil, or_false] at hj; omega)).rA i).trans (hc19_27 i)
          have hc27_28 : ∀ i, rAt S27_ (x + 28) i = rAt S (x + 28) i := fun i => ((f27_.1 (x + 28) (by omega) (by intro j hj; simp only [List.mem_cons, List.not_mem_nil, or_false] at hj; omega)).rA i).trans (hc19_28 i)
          have hc27_29 : ∀ i, rAt S27_ (x + 29) i = rAt S (x + 29) i := fun i => ((f27_.1 (x + 29) (by omega) (by intro j hj; simp only [List.mem_cons, List.not_mem_nil, or_false] at hj; omega)).rA i).trans (hc19_29 i)
          have hc27_18 : ∀ i, rAt S27_ (x + 18) i = rAt S (x + 18) i := fun i => ((f27_.1 (x + 18) (by omega) (by intro j hj; simp only [List.mem_cons, List.not_mem_nil, or_false] at hj; omega)).rA i).trans (hc19_18 i)
          have hc27_25 : ∀ i, rAt S27_ (x + 25) i = rAt S (x + 25) i := fun i => ((f27_.1 (x + 25) (by omega) (by intro j hj; simp only [List.mem_cons, List.not_mem_nil, or_false] at hj; omega)).rA i).trans (hc19_25 i)
          have hc27_19 : ∀ i, rAt S27_ (x + 19) i = rAt S (x + 19) i := fun i => ((f27_.1 (x + 19) (by omega) (by intro j hj; simp only [List.mem_cons, List.not_mem_nil, or_false] at hj; omega)).rA i).trans (hc19_19 i)
          have hc27_21 : ∀ i, rAt S27_ (x + 21) i = rAt S (x + 21) i := fun i => ((f27_.1 (x + 21) (by omega) (by intro j hj; simp only [List.mem_cons, List.not_mem_nil, or_false] at hj; omega)).rA i).trans (hc19_21 i)
          have hc27_23 : ∀ i, rAt S27_ (x + 23) i = rAt S (x + 23) i := fun i => ((f27_.1 (x + 23) (by omega) (by intro j hj; simp only [List.mem_cons, List.not_mem_nil, or_false] at hj; omega)).rA i).trans (hc19_23 i)
          have hc27_20 : ∀ i, rAt S27_ (x + 20) i = rAt S (x + 20) i := fun i => ((f27_.1 (x + 20) (by omega) (by intro j hj; simp only [List.mem_cons, List.not_mem_nil, or_false] at hj; omega)).rA i).trans (hc19_20 i)
          refine v_goto hX (tgt := 361) dX13_sayStatement_145 (by decide) ?_
          refine v_locals (lv' := [(0, .ref x), (1, .int (iI sx))]) (by simp) ?_
          exact L361 _ v28_ l0 (fr19.tr (f27_.mono (by decide) (by decide) (by decide))) (by simp (disch := omega) only [y_I_s_I, x_I_s_I, z_I_s_J, z_I_s_A, z_I_s_B, e27_1128, e27_1163, e27_1159, e_v28_]) (by simp (disch := omega) only [y_I_s_I, x_I_s_I, z_I_s_J, z_I_s_A, z_I_s_B, e27_1128, e27_1163, e27_1159, e_v28_]) ⟨by omega, by omega⟩ ⟨by omega, by omega⟩ (by omega)
        ·
          refine v_aload_n hX dX13_sayStatement_121 (i := 0) rfl rfl ?_
          refine v_iconst hX (v := iI 2) dX13_sayStatement_122 rfl ?_
          refine v_iload_n hX dX13_sayStatement_123 (i := 1) rfl rfl ?_
          refine v_callV hX (n := 2) (k_sayLong (S := S19c) (x := x) (cd := 2) (sx := sx) (st_ := st_) (wt := wt) (wo_ := w0) h19c (by simp (disch := omega) only [y_I_s_I, x_I_s_I, z_I_s_J, z_I_s_A, z_I_s_B, e19_st_, e19_wt, e_w0, e_l0]) ⟨by omega, by omega⟩ (by simp (disch := omega) only [y_I_s_I, x_I_s_I, z_I_s_J, z_I_s_A, z_I_s_B, e19_st_, e19_wt, e_w0, e_l0]) ⟨by omega, by omega⟩ (by simp (disch := omega) only [y_I_s_I, x_I_s_I, z_I_s_J, z_I_s_A, z_I_s_B, e19_st_, e19_wt, e_w0, e_l0]) ⟨by omega, by omega⟩ ⟨by omega, by omega⟩ ⟨by omega, by omega⟩ (so.c (fun i => hc19_35 i) (fun i => hc19_34 i)) (eo.c (fun i => (hc19_27 i)) (fun i => (hc19_28 i)) (fun i => (hc19_29 i))) (by (try simp (disch := omega) only [zr_I, zr_J, zr_B, rA_A, zl_I, zl_J, zl_A, lA_B, hc19_35, hc19_34, hc19_26, hc19_22, hc19_27, hc19_28, hc19_29, hc19_18, hc19_25, hc19_19, hc19_21, hc19_23, hc19_20]); omega)) (ms_kx h19c) bc_11 (by decide) w_7_207 w_7_209 (bw_p (q := (yX13_sayLong, 72)) (List.mem_of_getElem? (i := 92) rfl) rfl) w_1_16 w_7_210 (by decide +kernel) rfl ⟨by decide, by decide⟩ ⟨by omega, by omega⟩ (Nat.le_of_ble_eq_true rfl) rfl dX13_sayStatement_124 (fun _ _ _ q => q) ?_
          rintro r29_ S29_ z29_ ⟨rfl, f29_, v30_, rfl, e_v30_, b_v30_, q29_⟩
          have e29_1128 : m_I S29_ 1128 x = iI st_ := (f29_.2.2.2.1 1128 (by decide)).trans (by simp (disch := omega) only [y_I_s_I, x_I_s_I, z_I_s_J, z_I_s_A, z_I_s_B, e19_st_, e19_wt, e_w0, e_l0])
          have e29_1163 : m_I S29_ 1163 x = iI wt := (f29_.2.2.2.1 1163 (by decide)).trans (by simp (disch := omega) only [y_I_s_I, x_I_s_I, z_I_s_J, z_I_s_A, z_I_s_B, e19_st_, e19_wt, e_w0, e_l0])
          have e29_1159 : m_I S29_ 1159 x = iI l0 := (f29_.2.2.2.1 1159 (by decide)).trans (by simp (disch := omega) only [y_I_s_I, x_I_s_I, z_I_s_J, z_I_s_A, z_I_s_B, e19_st_, e19_wt, e_w0, e_l0])
          have h29_ : mS S29_ x := f29_.keep h19c
          have hc29_35 : ∀ i, rAt S29_ (x + 35) i = rAt S (x + 35) i := fun i => ((f29_.1 (x + 35) (by omega) (by intro j hj; simp only [List.mem_cons, List.not_mem_nil, or_false] at hj; omega)).rA i).trans (hc19_35 i)
          have hc29_34 : ∀ i, rAt S29_ (x + 34) i = rAt S (x + 34) i := fun i => ((f29_.1 (x + 34) (by omega) (by intro j hj; simp only [List.mem_cons, List.not_mem_nil, or_false] at hj; omega)).rA i).trans (hc19_34 i)
          have hc29_26 : ∀ i, rAt S29_ (x + 26) i = rAt S (x + 26) i := fun i => ((f29_.1 (x + 26) (by omega) (by intro j hj; simp only [List.mem_cons, List.not_mem_nil, or_false] at hj; omega)).rA i).trans (hc19_26 i)
          have hc29_22 : ∀ i, rAt S29_ (x + 22) i = rAt S (x + 22) i := fun i => ((f29_.1 (x + 22) (by omega) (by intro j hj; simp only [List.mem_cons, List.not_mem_nil, or_false] at hj; omega)).rA i).trans (hc19_22 i)
          have hc29_27 : ∀ i, rAt S29_ (x + 27) i = rAt S (x + 27) i := fun i => ((f29_.1 (x + 27) (by omega) (by intro j hj; simp only [List.mem_cons, List.not_mem_nil, or_false] at hj; omega)).rA i).trans (hc19_27 i)
          have hc29_28 : ∀ i, rAt S29_ (x + 28) i = rAt S (x + 28) i := fun i => ((f29_.1 (x + 28) (by omega) (by intro j hj; simp only [List.mem_cons, List.not_mem_nil, or_false] at hj; omega)).rA i).trans (hc19_28 i)
          have hc29_29 : ∀ i, rAt S29_ (x + 29) i = rAt S (x + 29) i := fun i => ((f29_.1 (x + 29) (by omega) (by intro j hj; simp only [List.mem_cons, List.not_mem_nil, or_false] at hj; omega)).rA i).trans (hc19_29 i)
          have hc29_18 : ∀ i, rAt S29_ (x + 18) i = rAt S (x + 18) i := fun i => ((f29_.1 (x + 18) (by omega) (by intro j hj; simp only [List.mem_cons, List.not_mem_nil, or_false] at hj; omega)).rA i).trans (hc19_18 i)
          have hc29_25 : ∀ i, rAt S29_ (x + 25) i = rAt S (x + 25) i := fun i => ((f29_.1 (x + 25) (by omega) (by intro j hj; simp only [List.mem_cons, List.not_mem_nil, or_false] at hj; omega)).rA i).trans (hc19_25 i)
          have hc29_19 : ∀ i, rAt S29_ (x + 19) i = rAt S (x + 19) i := fun i => ((f29_.1 (x + 19) (by omega) (by intro j hj; simp only [List.mem_cons, List.not_mem_nil, or_false] at hj; omega)).rA i).trans (hc19_19 i)
          have hc29_21 : ∀ i, rAt S29_ (x + 21) i = rAt S (x + 21) i := fun i => ((f29_.1 (x + 21) (by omega) (by intro j hj; simp only [List.mem_cons, List.not_mem_nil, or_false] at hj; omega)).rA i).trans (hc19_21 i)
          have hc29_23 : ∀ i, rAt S29_ (x + 23) i = rAt S (x + 23) i := fun i => ((f29_.1 (x + 23) (by omega) (by intro j hj; simp only [List.mem_cons, List.not_mem_nil, or_false] at hj; omega)).rA i).trans (hc19_23 i)
          have hc29_20 : ∀ i, rAt S29_ (x + 20) i = rAt S (x + 20) i := fun i => ((f29_.1 (x + 20) (by omega) (by intro j hj; simp only [List.mem_cons, List.not_mem_nil, or_false] at hj; omega)).rA i).trans (hc19_20 i)
          refine v_goto hX (tgt := 361) dX13_sayStatement_127 (by decide) ?_
          refine v_locals (lv' := [(0, .ref x), (1, .int (iI sx))]) (by simp) ?_
          exact L361 _ v30_ l0 (fr19.tr (f29_.mono (by decide) (by decide) (by decide))) (by simp (disch := omega) only [y_I_s_I, x_I_s_I, z_I_s_J, z_I_s_A, z_I_s_B, e29_1128, e29_1163, e29_1159, e_v30_]) (by simp (disch := omega) only [y_I_s_I, x_I_s_I, z_I_s_J, z_I_s_A, z_I_s_B, e29_1128, e29_1163, e29_1159, e_v30_]) ⟨by omega, by omega⟩ ⟨by omega, by omega⟩ (by omega)
      ·
        refine v_tableIn hX (off := 100) (tgt := 148) dX13_sayStatement_48 (by rw [iI_to ⟨by omega, by omega⟩]; omega) (by rw [iI_to ⟨by omega, by omega⟩]; omega) (by rw [iI_to ⟨by omega, by omega⟩, h19_]; rfl) (by decide) ?_
        refine v_aload_n hX dX13_sayStatement_148 (i := 0) rfl rfl ?_
        refine v_sipush hX (v := iI 12288) dX13_sayStatement_149 (by decide) ?_
        refine v_iload_n hX dX13_sayStatement_152 (i := 3) rfl rfl ?_
        refine u_ior hX dX13_sayStatement_153 (fun v31_ b_v31_ => ?_)
        refine v_aload_n hX dX13_sayStatement_154 (i := 0) rfl rfl ?_
        refine v_get hX (ci := 11) (k := 32) (ms_kx h19c) bc_11 (by decide) (by decide) in_11 w_6_8 dX13_sayStatement_155 (mvP (f := 1132) (q := (x + 20)) rfl rfl (ms_p_1132 h19c)) ?_
        refine v_iload_n hX dX13_sayStatement_158 (i := 1) rfl rfl ?_
        refine u_iald hX (L := 400) (ms_k_1132 h19c) (ms_l_1132 h19c) ⟨by omega, by omega⟩ (by decide) dX13_sayStatement_159 (fun v32_ e_v32_ b_v32_ => ?_)
        try simp (disch := omega) only [zr_I, zr_J, zr_B, rA_A, zl_I, zl_J, zl_A, lA_B, hc19_35, hc19_34, hc19_26, hc19_22, hc19_27, hc19_28, hc19_29, hc19_18, hc19_25, hc19_19, hc19_21, hc19_23, hc19_20] at e_v32_
        refine v_bipush hX (v := iI 6) dX13_sayStatement_160 (by decide) ?_
        refine u_ishl hX dX13_sayStatement_162 (fun v33_ b_v33_ => ?_)
        refine u_ior hX dX13_sayStatement_163 (fun v34_ b_v34_ => ?_)
        refine v_callV hX (n := 1) (k_say (S := S19c) (x := x) (v := v34_) (wo_ := w0) h19c (by simp (disch := omega) only [y_I_s_I, x_I_s_I, z_I_s_J, z_I_s_A, z_I_s_B, e19_st_, e19_wt, e_w0, e_l0]) ⟨by omega, by omega⟩ ⟨by omega, by omega⟩ (by omega)) (ms_kx h19c) bc_11 (by decide) w_7_203 w_7_205 (bw_p (q := (yX13_say, 72)) (List.mem_of_getElem? (i := 91) rfl) rfl) w_1_16 w_7_206 (by decide +kernel) rfl ⟨by decide, by decide⟩ ⟨by omega, by omega⟩ (Nat.le_of_ble_eq_true rfl) rfl dX13_sayStatement_164 (fun _ _ _ q => q) ?_
        rintro r35_ S35_ z35_ ⟨rfl, f35_, v36_, rfl, e_v36_, b_v36_, q35_⟩
        have e35_1128 : m_I S35_ 1128 x = iI st_ := (f35_.2.2.2.1 1128 (by decide)).trans (by simp (disch := omega) only [y_I_s_I, x_I_s_I, z_I_s_J, z_I_s_A, z_I_s_B, e19_st_, e19_wt, e_w0, e_l0])
        have e35_1163 : m_I S35_ 1163 x = iI wt := (f35_.2.2.2.1 1163 (by decide)).trans (by simp (disch := omega) only [y_I_s_I, x_I_s_I, z_I_s_J, z_I_s_A, z_I_s_B, e19_st_, e19_wt, e_w0, e_l0])
        have e35_1159 : m_I S35_ 1159 x = iI l0 := (f35_.2.2.2.1 1159 (by decide)).trans (by simp (disch := omega) only [y_I_s_I, x_I_s_I, z_I_s_J, z_I_s_A, z_I_s_B, e19_st_, e19_wt, e_w0, e_l0])
        have h35_ : mS S35_ x := f35_.keep h19c
        have hc35_35 : ∀ i, rAt S35_ (x + 35) i = rAt S (x + 35) i := fun i => ((f35_.1 (x + 35) (by omega) (by intro j hj; simp only [List.mem_cons, List.not_mem_nil, or_false] at hj; omega)).rA i).trans (hc19_35 i)
        have hc35_34 : ∀ i, rAt S35_ (x + 34) i = rAt S (x + 34) i := fun i => ((f35_.1 (x + 34) (by omega) (by intro j hj; simp only [List.mem_cons, List.not_mem_nil, or_false] at hj; omega)).rA i).trans (hc19_34 i)
        have hc35_26 : ∀ i, rAt S35_ (x + 26) i = rAt S (x + 26) i := fun i => ((f35_.1 (x + 26) (by omega) (by intro j hj; simp only [List.mem_cons, List.not_mem_nil, or_false] at hj; omega)).rA i).trans (hc19_26 i)
        have hc35_22 : ∀ i, rAt S35_ (x + 22) i = rAt S (x + 22) i := fun i => ((f35_.1 (x + 22) (by omega) (by intro j hj; simp only [List.mem_cons, List.not_mem_nil, or_false] at hj; omega)).rA i).trans (hc19_22 i)
        have hc35_27 : ∀ i, rAt S35_ (x + 27) i = rAt S (x + 27) i := fun i => ((f35_.1 (x + 27) (by omega) (by intro j hj; simp only [List.mem_cons, List.not_mem_nil, or_false] at hj; omega)).rA i).trans (hc19_27 i)
        have hc35_28 : ∀ i, rAt S35_ (x + 28) i = rAt S (x + 28) i := fun i => ((f35_.1 (x + 28) (by omega) (by intro j hj; simp only [List.mem_cons, List.not_mem_nil, or_false] at hj; omega)).rA i).trans (hc19_28 i)
        have hc35_29 : ∀ i, rAt S35_ (x + 29) i = rAt S (x + 29) i := fun i => ((f35_.1 (x + 29) (by omega) (by intro j hj; simp only [List.mem_cons, List.not_mem_nil, or_false] at hj; omega)).rA i).trans (hc19_29 i)
        have hc35_18 : ∀ i, rAt S35_ (x + 18) i = rAt S (x + 18) i := fun i => ((f35_.1 (x + 18) (by omega) (by intro j hj; simp only [List.mem_cons, List.not_mem_nil, or_false] at hj; omega)).rA i).trans (hc19_18 i)
        have hc35_25 : ∀ i, rAt S35_ (x + 25) i = rAt S (x + 25) i := fun i => ((f35_.1 (x + 25) (by omega) (by intro j hj; simp only [List.mem_cons, List.not_mem_nil, or_false] at hj; omega)).rA i).trans (hc19_25 i)
        have hc35_19 : ∀ i, rAt S35_ (x + 19) i = rAt S (x + 19) i := fun i => ((f35_.1 (x + 19) (by omega) (by intro j hj; simp only [List.mem_cons, List.not_mem_nil, or_false] at hj; omega)).rA i).trans (hc19_19 i)
        have hc35_21 : ∀ i, rAt S35_ (x + 21) i = rAt S (x + 21) i := fun i => ((f35_.1 (x + 21) (by omega) (by intro j hj; simp only [List.mem_cons, List.not_mem_nil, or_false] at hj; omega)).rA i).trans (hc19_21 i)
        have hc35_23 : ∀ i, rAt S35_ (x + 23) i = rAt S (x + 23) i := fun i => ((f35_.1 (x + 23) (by omega) (by intro j hj; simp only [List.mem_cons, List.not_mem_nil, or_false] at hj; omega)).rA i).trans (hc19_23 i)
        have hc35_20 : ∀ i, rAt S35_ (x + 20) i = rAt S (x + 20) i := fun i => ((f35_.1 (x + 20) (by omega) (by intro j hj; simp only [List.mem_cons, List.not_mem_nil, or_false] at hj; omega)).rA i).trans (hc19_20 i)
        refine v_goto hX (tgt := 361) dX13_sayStatement_167 (by decide) ?_
        refine v_locals (lv' := [(0, .ref x), (1, .int (iI sx))]) (by simp) ?_
        exact L361 _ v36_ l0 (fr19.tr (f35_.mono (by decide) (by decide) (by decide))) (by simp (disch := omega) only [y_I_s_I, x_I_s_I, z_I_s_J, z_I_s_A, z_I_s_B, e35_1128, e35_1163, e35_1159, e_v36_]) (by simp (disch := omega) only [y_I_s_I, x_I_s_I, z_I_s_J, z_I_s_A, z_I_s_B, e35_1128, e35_1163, e35_1159, e_v36_]) ⟨by omega, by omega⟩ ⟨by omega, by omega⟩ (by omega)
      ·
        refine v_tableIn hX (off := 122) (tgt := 170) dX13_sayStatement_48 (by rw [iI_to ⟨by omega, by omega⟩]; omega) (by rw [iI_to ⟨by omega, by omega⟩]; omega) (by rw [iI_to ⟨by omega, by omega⟩, h19_]; rfl) (by decide) ?_
        refine v_aload_n hX dX13_sayStatement_170 (i := 0) rfl rfl ?_
        refine v_sipush hX (v := iI 16384) dX13_sayStatement_171 (by decide) ?_
        refine v_iload_n hX dX13_sayStatement_174 (i := 3) rfl rfl ?_
        refine u_ior hX dX13_sayStatement_175 (fun v37_ b_v37_ => ?_)
        refine v_aload_n hX dX13_sayStatement_176 (i := 0) rfl rfl ?_
        refine v_get hX (ci := 11) (k := 32) (ms_kx h19c) bc_11 (by decide) (by decide) in_11 w_6_8 dX13_sayStatement_177 (mvP (f := 1132) (q := (x + 20)) rfl rfl (ms_p_1132 h19c)) ?_
        refine v_iload_n hX dX13_sayStatement_180 (i := 1) rfl rfl ?_
        refine u_iald hX (L := 400) (ms_k_1132 h19c) (ms_l_1132 h19c) ⟨by omega, by omega⟩ (by decide) dX13_sayStatement_181 (fun v38_ e_v38_ b_v38_ => ?_)
        try simp (disch := omega) only [zr_I, zr_J, zr_B, rA_A, zl_I, zl_J, zl_A, lA_B, hc19_35, hc19_34, hc19_26, hc19_22, hc19_27, hc19_28, hc19_29, hc19_18, hc19_25, hc19_19, hc19_21, hc19_23, hc19_20] at e_v38_
        refine v_bipush hX (v := iI 6) dX13_sayStatement_182 (by decide) ?_
        refine u_ishl hX dX13_sayStatement_184 (fun v39_ b_v39_ => ?_)
        refine u_ior hX dX13_sayStatement_185 (fun v40_ b_v40_ => ?_)
        refine v_callV hX (n := 1) (k_say (S := S19c) (x := x) (v := v40_) (wo_ := w0) h19c (by simp (disch := omega) only [y_I_s_I, x_I_s_I, z_I_s_J, z_I_s_A, z_I_s_B, e19_st_, e19_wt, e_w0, e_l0]) ⟨by omega, by omega⟩ ⟨by omega, by omega⟩ (by omega)) (ms_kx h19c) bc_11 (by decide) w_7_203 w_7_205 (bw_p (q := (yX13_say, 72)) (List.mem_of_getElem? (i := 91) rfl) rfl) w_1_16 w_7_206 (by decide +kernel) rfl ⟨by decide, by decide⟩ ⟨by omega, by omega⟩ (Nat.le_of_ble_eq_true rfl) rfl dX13_sayStatement_186 (fun _ _ _ q => q) ?_
        rintro r41_ S41_ z41_ ⟨rfl, f41_, v42_, rfl, e_v42_, b_v42_, q41_⟩
        have e41_1128 : m_I S41_ 1128 x = iI st_ := (f41_.2.2.2.1 1128 (by decide)).trans (by simp (disch := omega) only [y_I_s_I, x_I_s_I, z_I_s_J, z_I_s_A, z_I_s_B, e19_st_, e19_wt, e_w0, e_l0])
        have e41_1163 : m_I S41_ 1163 x = iI wt := (f41_.2.2.2.1 1163 (by decide)).trans (by simp (disch := omega) only [y_I_s_I, x_I_s_I, z_I_s_J, z_I_s_A, z_I_s_B, e19_st_, e19_wt, e_w0, e_l0])
        have e41_1159 : m_I S41_ 1159 x = iI l0 := (f41_.2.2.2.1 1159 (by decide)).trans (by simp (disch := omega) only [y_I_s_I, x_I_s_I, z_I_s_J, z_I_s_A, z_I_s_B, e19_st_, e19_wt, e_w0, e_l0])
        have h41_ : mS S41_ x := f41_.keep h19c
        have hc41_35 : ∀ i, rAt S41_ (x + 35) i = rAt S (x + 35) i := fun i => ((f41_.1 (x + 35) (by omega) (by intro j hj; simp only [List.mem_cons, List.not_mem_nil, or_false] at hj; omega)).rA i).trans (hc19_35 i)
        have hc41_34 : ∀ i, rAt S41_ (x + 34) i = rAt S (x + 34) i := fun i => ((f41_.1 (x + 34) (by omega) (by intro j hj; simp only [List.mem_cons, List.not_mem_nil, or_false] at hj; omega)).rA i).trans (hc19_34 i)
        have hc41_26 : ∀ i, rAt S41_ (x + 26) i = rAt S (x + 26) i := fun i => ((f41_.1 (x + 26) (by omega) (by intro j hj; simp only [List.mem_cons, List.not_mem_nil, or_false] at hj; omega)).rA i).trans (hc19_26 i)
        have hc41_22 : ∀ i, rAt S41_ (x + 22) i = rAt S (x + 22) i := fun i => ((f41_.1 (x + 22) (by omega) (by intro j hj; simp only [List.mem_cons, List.not_mem_nil, or_false] at hj; omega)).rA i).trans (hc19_22 i)
        have hc41_27 : ∀ i, rAt S41_ (x + 27) i = rAt S (x + 27) i := fun i => ((f41_.1 (x + 27) (by omega) (by intro j hj; simp only [List.mem_cons, List.not_mem_nil, or_false] at hj; omega)).rA i).trans (hc19_27 i)
        have hc41_28 : ∀ i, rAt S41_ (x + 28) i = rAt S (x + 28) i := fun i => ((f41_.1 (x + 28) (by omega) (by intro j hj; simp only [List.mem_cons, List.not_mem_nil, or_false] at hj; omega)).rA i).trans (hc19_28 i)
        have hc41_29 : ∀ i, rAt S41_ (x + 29) i = rAt S (x + 29) i := fun i => ((f41_.1 (x + 29) (by omega) (by intro j hj; simp only [List.mem_cons, List.not_mem_nil, or_false] at hj; omega)).rA i).trans (hc19_29 i)
        have hc41_18 : ∀ i, rAt S41_ (x + 18) i = rAt S (x + 18) i := fun i => ((f41_.1 (x + 18) (by omega) (by intro j hj; simp only [List.mem_cons, List.not_mem_nil, or_false] at hj; omega)).rA i).trans (hc19_18 i)
        have hc41_25 : ∀ i, rAt S41_ (x + 25) i = rAt S (x + 25) i := fun i => ((f41_.1 (x + 25) (by omega) (by intro j hj; simp only [List.mem_cons, List.not_mem_nil, or_false] at hj; omega)).rA i).trans (hc19_25 i)
        have hc41_19 : ∀ i, rAt S41_ (x + 19) i = rAt S (x + 19) i := fun i => ((f41_.1 (x + 19) (by omega) (by intro j hj; simp only [List.mem_cons, List.not_mem_nil, or_false] at hj; omega)).rA i).trans (hc19_19 i)
        have hc41_21 : ∀ i, rAt S41_ (x + 21) i = rAt S (x + 21) i := fun i => ((f41_.1 (x + 21) (by omega) (by intro j hj; simp only [List.mem_cons, List.not_mem_nil, or_false] at hj; omega)).rA i).trans (hc19_21 i)
        have hc41_23 : ∀ i, rAt S41_ (x + 23) i = rAt S (x + 23) i := fun i => ((f41_.1 (x + 23) (by omega) (by intro j hj; simp only [List.mem_cons, List.not_mem_nil, or_false] at hj; omega)).rA i).trans (hc19_23 i)
        have hc41_20 : ∀ i, rAt S41_ (x + 20) i = rAt S (x + 20) i := fun i => ((f41_.1 (x + 20) (by omega) (by intro j hj; simp only [List.mem_cons, List.not_mem_nil, or_false] at hj; omega)).rA i).trans (hc19_20 i)
        refine v_goto hX (tgt := 361) dX13_sayStatement_189 (by decide) ?_
        refine v_locals (lv' := [(0, .ref x), (1, .int (iI sx))]) (by simp) ?_
        exact L361 _ v42_ l0 (fr19.tr (f41_.mono (by decide) (by decide) (by decide))) (by simp (disch := omega) only [y_I_s_I, x_I_s_I, z_I_s_J, z_I_s_A, z_I_s_B, e41_1128, e41_1163, e41_1159, e_v42_]) (by simp (disch := omega) only [y_I_s_I, x_I_s_I, z_I_s_J, z_I_s_A, z_I_s_B, e41_1128, e41_1163, e41_1159, e_v42_]) ⟨by omega, by omega⟩ ⟨by omega, by omega⟩ (by omega)
      ·
        refine v_tableIn hX (off := 144) (tgt := 192) dX13_sayStatement_48 (by rw [iI_to ⟨by omega, by omega⟩]; omega) (by rw [iI_to ⟨by omega, by omega⟩]; omega) (by rw [iI_to ⟨by omega, by omega⟩, h19_]; rfl) (by decide) ?_
        refine v_aload_n hX dX13_sayStatement_192 (i := 0) rfl rfl ?_
        refine v_get hX (ci := 11) (k := 37) (ms_kx h19c) bc_11 (by decide) (by decide) in_11 w_6_13 dX13_sayStatement_193 (mvP (f := 1137) (q := (x + 25)) rfl rfl (ms_p_1137 h19c)) ?_
        refine v_iload_n hX dX13_sayStatement_196 (i := 1) rfl rfl ?_
        refine u_zald hX (L := 400) (ms_k_1137 h19c) (ms_l_1137 h19c) ⟨by omega, by omega⟩ (by decide) dX13_sayStatement_197 (fun v43_ e_v43_ b_v43_ => ?_)
        try simp (disch := omega) only [zr_I, zr_J, zr_B, rA_A, zl_I, zl_J, zl_A, lA_B, hc19_35, hc19_34, hc19_26, hc19_22, hc19_27, hc19_28, hc19_29, hc19_18, hc19_25, hc19_19, hc19_21, hc19_23, hc19_20] at e_v43_
        refine u_if_eq hX (tgt := 211) dX13_sayStatement_198 (by decide) ⟨by omega, by omega⟩ (fun h44_ => ?_) (fun h44_ => ?_)
        ·
          refine v_aload_n hX dX13_sayStatement_211 (i := 0) rfl rfl ?_
          refine v_sipush hX (v := iI 20480) dX13_sayStatement_212 (by decide) ?_
          refine v_iload hX dX13_sayStatement_215 rfl ?_
          refine v_bipush hX (v := iI 63) dX13_sayStatement_217 (by decide) ?_
          refine u_iand hX dX13_sayStatement_219 (fun v45_ b_v45_ => ?_)
          refine u_ior hX dX13_sayStatement_220 (fun v46_ b_v46_ => ?_)
          refine v_callV hX (n := 1) (k_say (S := S19c) (x := x) (v := v46_) (wo_ := w0) h19c (by simp (disch := omega) only [y_I_s_I, x_I_s_I, z_I_s_J, z_I_s_A, z_I_s_B, e19_st_, e19_wt, e_w0, e_l0]) ⟨by omega, by omega⟩ ⟨by omega, by omega⟩ (by omega)) (ms_kx h19c) bc_11 (by decide) w_7_203 w_7_205 (bw_p (q := (yX13_say, 72)) (List.mem_of_getElem? (i := 91) rfl) rfl) w_1_16 w_7_206 (by decide +kernel) rfl ⟨by decide, by decide⟩ ⟨by omega, by omega⟩ (Nat.le_of_ble_eq_true rfl) rfl dX13_sayStatement_221 (fun _ _ _ q => q) ?_
          rintro r47_ S47_ z47_ ⟨rfl, f47_, v48_, rfl, e_v48_, b_v48_, q47_⟩
          have e47_1128 : m_I S47_ 1128 x = iI st_ := (f47_.2.2.2.1 1128 (by decide)).trans (by simp (disch := omega) only [y_I_s_I, x_I_s_I, z_I_s_J, z_I_s_A, z_I_s_B, e19_st_, e19_wt, e_w0, e_l0])
          have e47_1163 : m_I S47_ 1163 x = iI wt := (f47_.2.2.2.1 1163 (by decide)).trans (by simp (disch := omega) only [y_I_s_I, x_I_s_I, z_I_s_J, z_I_s_A, z_I_s_B, e19_st_, e19_wt, e_w0, e_l0])
          have e47_1159 : m_I S47_ 1159 x = iI l0 := (f47_.2.2.2.1 1159 (by decide)).trans (by simp (disch := omega) only [y_I_s_I, x_I_s_I, z_I_s_J, z_I_s_A, z_I_s_B, e19_st_, e19_wt, e_w0, e_l0])
          have h47_ : mS S47_ x := f47_.keep h19c
          have hc47_35 : ∀ i, rAt S47_ (x + 35) i = rAt S (x + 35) i := fun i => ((f47_.1 (x + 35) (by omega) (by intro j hj; simp only [List.mem_cons, List.not_mem_nil, or_false] at hj; omega)).rA i).trans (hc19_35 i)
          have hc47_34 : ∀ i, rAt S47_ (x + 34) i = rAt S (x + 34) i := fun i => ((f47_.1 (x + 34) (by omega) (by intro j hj; simp only [List.mem_cons, List.not_mem_nil, or_false] at hj; omega)).rA i).trans (hc19_34 i)
          have hc47_26 : ∀ i, rAt S47_ (x + 26) i = rAt S (x + 26) i := fun i => ((f47_.1 (x + 26) (by omega) (by intro j hj; simp only [List.mem_cons, List.not_mem_nil, or_false] at hj; omega)).rA i).trans (hc19_26 i)
          have hc47_22 : ∀ i, rAt S47_ (x + 22) i = rAt S (x + 22) i := fun i => ((f47_.1 (x + 22) (by omega) (by intro j hj; simp only [List.mem_cons, List.not_mem_nil, or_false] at hj; omega)).rA i).trans (hc19_22 i)
          have hc47_27 : ∀ i, rAt S47_ (x + 27) i = rAt S (x + 27) i := fun i => ((f47_.1 (x + 27) (by omega) (by intro j hj; simp only [List.mem_cons, List.not_mem_nil, or_false] at hj; omega)).rA i).trans (hc19_27 i)
          have hc47_28 : ∀ i, rAt S47_ (x + 28) i = rAt S (x + 28) i := fun i => ((f47_.1 (x + 28) (by omega) (by intro j hj; simp only [List.mem_cons, List.not_mem_nil, or_false] at hj; omega)).rA i).trans (hc19_28 i)
          have hc47_29 : ∀ i, rAt S47_ (x + 29) i = rAt S (x + 29) i := fun i => ((f47_.1 (x + 29) (by omega) (by intro j hj; simp only [List.mem_cons, List.not_mem_nil, or_false] at hj; omega)).rA i).trans (hc19_29 i)
          have hc47_18 : ∀ i, rAt S47_ (x + 18) i = rAt S (x + 18) i := fun i => ((f47_.1 (x + 18) (by omega) (by intro j hj; simp only [List.mem_cons, List.not_mem_nil, or_false] at hj; omega)).rA i).trans (hc19_18 i)
          have hc47_25 : ∀ i, rAt S47_ (x + 25) i = rAt S (x + 25) i := fun i => ((f47_.1 (x + 25) (by omega) (by intro j hj; simp only [List.mem_cons, List.not_mem_nil, or_false] at hj; omega)).rA i).trans (hc19_25 i)
          have hc47_19 : ∀ i, rAt S47_ (x + 19) i = rAt S (x + 19) i := fun i => ((f47_.1 (x + 19) (by omega) (by intro j hj; simp only [List.mem_cons, List.not_mem_nil, or_false] at hj; omega)).rA i).trans (hc19_19 i)
          have hc47_21 : ∀ i, rAt S47_ (x + 21) i = rAt S (x + 21) i := fun i => ((f47_.1 (x + 21) (by omega) (by intro j hj; simp only [List.mem_cons, List.not_mem_nil, or_false] at hj; omega)).rA i).trans (hc19_21 i)
          have hc47_23 : ∀ i, rAt S47_ (x + 23) i = rAt S (x + 23) i := fun i => ((f47_.1 (x + 23) (by omega) (by intro j hj; simp only [List.mem_cons, List.not_mem_nil, or_false] at hj; omega)).rA i).trans (hc19_23 i)
          have hc47_20 : ∀ i, rAt S47_ (x + 20) i = rAt S (x + 20) i := fun i => ((f47_.1 (x + 20) (by omega) (by intro j hj; simp only [List.mem_cons, List.not_mem_nil, or_false] at hj; omega)).rA i).trans (hc19_20 i)
          refine v_goto hX (tgt := 361) dX13_sayStatement_224 (by decide) ?_
          refine v_locals (lv' := [(0, .ref x), (1, .int (iI sx))]) (by simp) ?_
          exact L361 _ v48_ l0 (fr19.tr (f47_.mono (by decide) (by decide) (by decide))) (by simp (disch := omega) only [y_I_s_I, x_I_s_I, z_I_s_J, z_I_s_A, z_I_s_B, e47_1128, e47_1163, e47_1159, e_v48_]) (by simp (disch := omega) only [y_I_s_I, x_I_s_I, z_I_s_J, z_I_s_A, z_I_s_B, e47_1128, e47_1163, e47_1159, e_v48_]) ⟨by omega, by omega⟩ ⟨by omega, by omega⟩ (by omega)
        ·
          refine v_aload_n hX dX13_sayStatement_201 (i := 0) rfl rfl ?_
          refine v_bipush hX (v := iI 6) dX13_sayStatement_202 (by decide) ?_
          refine v_iload_n hX dX13_sayStatement_204 (i := 1) rfl rfl ?_
          refine v_callV hX (n := 2) (k_sayLong (S := S19c) (x := x) (cd := 6) (sx := sx) (st_ := st_) (wt := wt) (wo_ := w0) h19c (by simp (disch := omega) only [y_I_s_I, x_I_s_I, z_I_s_J, z_I_s_A, z_I_s_B, e19_st_, e19_wt, e_w0, e_l0]) ⟨by omega, by omega⟩ (by simp (disch := omega) only [y_I_s_I, x_I_s_I, z_I_s_J, z_I_s_A, z_I_s_B, e19_st_, e19_wt, e_w0, e_l0]) ⟨by omega, by omega⟩ (by simp (disch := omega) only [y_I_s_I, x_I_s_I, z_I_s_J, z_I_s_A, z_I_s_B, e19_st_, e19_wt, e_w0, e_l0]) ⟨by omega, by omega⟩ ⟨by omega, by omega⟩ ⟨by omega, by omega⟩ (so.c (fun i => hc19_35 i) (fun i => hc19_34 i)) (eo.c (fun i => (hc19_27 i)) (fun i => (hc19_28 i)) (fun i => (hc19_29 i))) (by (try simp (disch := omega) only [zr_I, zr_J, zr_B, rA_A, zl_I, zl_J, zl_A, lA_B, hc19_35, hc19_34, hc19_26, hc19_22, hc19_27, hc19_28, hc19_29, hc19_18, hc19_25, hc19_19, hc19_21, hc19_23, hc19_20]); omega)) (ms_kx h19c) bc_11 (by decide) w_7_207 w_7_209 (bw_p (q := (yX13_sayLong, 72)) (List.mem_of_getElem? (i := 92) rfl) rfl) w_1_16 w_7_210 (by decide +kernel) rfl ⟨by decide, by decide⟩ ⟨by omega, by omega⟩ (Nat.le_of_ble_eq_true rfl) rfl dX13_sayStatement_205 (fun _ _ _ q => q) ?_
          rintro r49_ S49_ z49_ ⟨rfl, f49_, v50_, rfl, e_v50_, b_v50_, q49_⟩
          have e49_1128 : m_I S49_ 1128 x = iI st_ := (f49_.2.2.2.1 1128 (by decide)).trans (by simp (disch := omega) only [y_I_s_I, x_I_s_I, z_I_s_J, z_I_s_A, z_I_s_B, e19_st_, e19_wt, e_w0, e_l0])
          have e49_1163 : m_I S49_ 1163 x = iI wt := (f49_.2.2.2.1 1163 (by decide)).trans (by simp (disch := omega) only [y_I_s_I, x_I_s_I, z_I_s_J, z_I_s_A, z_I_s_B, e19_st_, e19_wt, e_w0, e_l0])
          have e49_1159 : m_I S49_ 1159 x = iI l0 := (f49_.2.2.2.1 1159 (by decide)).trans (by simp (disch := omega) only [y_I_s_I, x_I_s_I, z_I_s_J, z_I_s_A, z_I_s_B, e19_st_, e19_wt, e_w0, e_l0])
          have h49_ : mS S49_ x := f49_.keep h19c
          have hc49_35 : ∀ i, rAt S49_ (x + 35) i = rAt S (x + 35) i := fun i => ((f49_.1 (x + 35) (by omega) (by intro j hj; simp only [List.mem_cons, List.not_mem_nil, or_false] at hj; omega)).rA i).trans (hc19_35 i)
          have hc49_34 : ∀ i, rAt S49_ (x + 34) i = rAt S (x + 34) i := fun i => ((f49_.1 (x + 34) (by omega) (by intro j hj; simp only [List.mem_cons, List.not_mem_nil, or_false] at hj; omega)).rA i).trans (hc19_34 i)
          have hc49_26 : ∀ i, rAt S49_ (x + 26) i = rAt S (x + 26) i := fun i => ((f49_.1 (x + 26) (by omega) (by intro j hj; simp only [List.mem_cons, List.not_mem_nil, or_false] at hj; omega)).rA i).trans (hc19_26 i)
          have hc49_22 : ∀ i, rAt S49_ (x + 22) i = rAt S (x + 22) i := fun i => ((f49_.1 (x + 22) (by omega) (by intro j hj; simp only [List.mem_cons, List.not_mem_nil, or_false] at hj; omega)).rA i).trans (hc19_22 i)
          have hc49_27 : ∀ i, rAt S49_ (x + 27) i = rAt S (x + 27) i := fun i => ((f49_.1 (x + 27) (by omega) (by intro j hj; simp only [List.mem_cons, List.not_mem_nil, or_false] at hj; omega)).rA i).trans (hc19_27 i)
          have hc49_28 : ∀ i, rAt S49_ (x + 28) i = rAt S (x + 28) i := fun i => ((f49_.1 (x + 28) (by omega) (by intro j hj; simp only [List.mem_cons, List.not_mem_nil, or_false] at hj; omega)).rA i).trans (hc19_28 i)
          have hc49_29 : ∀ i, rAt S49_ (x + 29) i = rAt S (x + 29) i := fun i => ((f49_.1 (x + 29) (by omega) (by intro j hj; simp only [List.mem_cons, List.not_mem_nil, or_false] at hj; omega)).rA i).trans (hc19_29 i)
          have hc49_18 : ∀ i, rAt S49_ (x + 18) i = rAt S (x + 18) i := fun i => ((f49_.1 (x + 18) (by omega) (by intro j hj; simp only [List.mem_cons, List.not_mem_nil, or_false] at hj; omega)).rA i).trans (hc19_18 i)
          have hc49_25 : ∀ i, rAt S49_ (x + 25) i = rAt S (x + 25) i := fun i => ((f49_.1 (x + 25) (by omega) (by intro j hj; simp only [List.mem_cons, List.not_mem_nil, or_false] at hj; omega)).rA i).trans (hc19_25 i)
          have hc49_19 : ∀ i, rAt S49_ (x + 19) i = rAt S (x + 19) i := fun i => ((f49_.1 (x + 19) (by omega) (by intro j hj; simp only [List.mem_cons, List.not_mem_nil, or_false] at hj; omega)).rA i).trans (hc19_19 i)
          have hc49_21 : ∀ i, rAt S49_ (x + 21) i = rAt S (x + 21) i := fun i => ((f49_.1 (x + 21) (by omega) (by intro j hj; simp only [List.mem_cons, List.not_mem_nil, or_false] at hj; omega)).rA i).trans (hc19_21 i)
          have hc49_23 : ∀ i, rAt S49_ (x + 23) i = rAt S (x + 23) i := fun i => ((f49_.1 (x + 23) (by omega) (by intro j hj; simp only [List.mem_cons, List.not_mem_nil, or_false] at hj; omega)).rA i).trans (hc19_23 i)
          have hc49_20 : ∀ i, rAt S49_ (x + 20) i = rAt S (x + 20) i := fun i => ((f49_.1 (x + 20) (by omega) (by intro j hj; simp only [List.mem_cons, List.not_mem_nil, or_false] at hj; omega)).rA i).trans (hc19_20 i)
          refine v_goto hX (tgt := 361) dX13_sayStatement_208 (by decide) ?_
          refine v_locals (lv' := [(0, .ref x), (1, .int (iI sx))]) (by simp) ?_
          exact L361 _ v50_ l0 (fr19.tr (f49_.mono (by decide) (by decide) (by decide))) (by simp (disch := omega) only [y_I_s_I, x_I_s_I, z_I_s_J, z_I_s_A, z_I_s_B, e49_1128, e49_1163, e49_1159, e_v50_]) (by simp (disch := omega) only [y_I_s_I, x_I_s_I, z_I_s_J, z_I_s_A, z_I_s_B, e49_1128, e49_1163, e49_1159, e_v50_]) ⟨by omega, by omega⟩ ⟨by omega, by omega⟩ (by omega)
      ·
        refine v_tableIn hX (off := 179) (tgt := 227) dX13_sayStatement_48 (by rw [iI_to ⟨by omega, by omega⟩]; omega) (by rw [iI_to ⟨by omega, by omega⟩]; omega) (by rw [iI_to ⟨by omega, by omega⟩, h19_]; rfl) (by decide) ?_
        refine v_aload_n hX dX13_sayStatement_227 (i := 0) rfl rfl ?_
        refine v_get hX (ci := 11) (k := 37) (ms_kx h19c) bc_11 (by decide) (by decide) in_11 w_6_13 dX13_sayStatement_228 (mvP (f := 1137) (q := (x + 25)) rfl rfl (ms_p_1137 h19c)) ?_
        refine v_iload_n hX dX13_sayStatement_231 (i := 1) rfl rfl ?_
        refine u_zald hX (L := 400) (ms_k_1137 h19c) (ms_l_1137 h19c) ⟨by omega, by omega⟩ (by decide) dX13_sayStatement_232 (fun v51_ e_v51_ b_v51_ => ?_)
        try simp (disch := omega) only [zr_I, zr_J, zr_B, rA_A, zl_I, zl_J, zl_A, lA_B, hc19_35, hc19_34, hc19_26, hc19_22, hc19_27, hc19_28, hc19_29, hc19_18, hc19_25, hc19_19, hc19_21, hc19_23, hc19_20] at e_v51_
        refine u_if_eq hX (tgt := 246) dX13_sayStatement_233 (by decide) ⟨by omega, by omega⟩ (fun h52_ => ?_) (fun h52_ => ?_)
        ·
          refine v_aload_n hX dX13_sayStatement_246 (i := 0) rfl rfl ?_
          refine v_sipush hX (v := iI 28672) dX13_sayStatement_247 (by decide) ?_
          refine v_iload_n hX dX13_sayStatement_250 (i := 3) rfl rfl ?_
          refine u_ior hX dX13_sayStatement_251 (fun v53_ b_v53_ => ?_)
          refine v_iload hX dX13_sayStatement_252 rfl ?_
          refine v_bipush hX (v := iI 31) dX13_sayStatement_254 (by decide) ?_
          refine u_iand hX dX13_sayStatement_256 (fun v54_ b_v54_ => ?_)
          refine u_ior hX dX13_sayStatement_257 (fun v55_ b_v55_ => ?_)
          refine v_callV hX (n := 1) (k_say (S := S19c) (x := x) (v := v55_) (wo_ := w0) h19c (by simp (disch := omega) only [y_I_s_I, x_I_s_I, z_I_s_J, z_I_s_A, z_I_s_B, e19_st_, e19_wt, e_w0, e_l0]) ⟨by omega, by omega⟩ ⟨by omega, by omega⟩ (by omega)) (ms_kx h19c) bc_11 (by decide) w_7_203 w_7_205 (bw_p (q := (yX13_say, 72)) (List.mem_of_getElem? (i := 91) rfl) rfl) w_1_16 w_7_206 (by decide +kernel) rfl ⟨by decide, by decide⟩ ⟨by omega, by omega⟩ (Nat.le_of_ble_eq_true rfl) rfl dX13_sayStatement_258 (fun _ _ _ q => q) ?_
          rintro r56_ S56_ z56_ ⟨rfl, f56_, v57_, rfl, e_v57_, b_v57_, q56_⟩
          have e56_1128 : m_I S56_ 1128 x = iI st_ := (f56_.2.2.2.1 1128 (by decide)).trans (by simp (disch := omega) only [y_I_s_I, x_I_s_I, z_I_s_J, z_I_s_A, z_I_s_B, e19_st_, e19_wt, e_w0, e_l0])
          have e56_1163 : m_I S56_ 1163 x = iI wt := (f56_.2.2.2.1 1163 (by decide)).trans (by simp (disch := omega) only [y_I_s_I, x_I_s_I, z_I_s_J, z_I_s_A, z_I_s_B, e19_st_, e19_wt, e_w0, e_l0])
          have e56_1159 : m_I S56_ 1159 x = iI l0 := (f56_.2.2.2.1 1159 (by decide)).trans (by simp (disch := omega) only [y_I_s_I, x_I_s_I, z_I_s_J, z_I_s_A, z_I_s_B, e19_st_, e19_wt, e_w0, e_l0])
          have h56_ : mS S56_ x := f56_.keep h19c
          have hc56_35 : ∀ i, rAt S56_ (x + 35) i = rAt S (x + 35) i := fun i => ((f56_.1 (x + 35) (by omega) (by intro j hj; simp only [List.mem_cons, List.not_mem_nil, or_false] at hj; omega)).rA i).trans (hc19_35 i)
          have hc56_34 : ∀ i, rAt S56_ (x + 34) i = rAt S (x + 34) i := fun i => ((f56_.1 (x + 34) (by omega) (by intro j hj; simp only [List.mem_cons, List.not_mem_nil, or_false] at hj; omega)).rA i).trans (hc19_34 i)
          have hc56_26 : ∀ i, rAt S56_ (x + 26) i = rAt S (x + 26) i := fun i => ((f56_.1 (x + 26) (by omega) (by intro j hj; simp only [List.mem_cons, List.not_mem_nil, or_false] at hj; omega)).rA i).trans (hc19_26 i)
          have hc56_22 : ∀ i, rAt S56_ (x + 22) i = rAt S (x + 22) i := fun i => ((f56_.1 (x + 22) (by omega) (by intro j hj; simp only [List.mem_cons, List.not_mem_nil, or_false] at hj; omega)).rA i).trans (hc19_22 i)
          have hc56_27 : ∀ i, rAt S56_ (x + 27) i = rAt S (x + 27) i := fun i => ((f56_.1 (x + 27) (by omega) (by intro j hj; simp only [List.mem_cons, List.not_mem_nil, or_false] at hj; omega)).rA i).trans (hc19_27 i)
          have hc56_28 : ∀ i, rAt S56_ (x + 28) i = rAt S (x + 28) i := fun i => ((f56_.1 (x + 28) (by omega) (by intro j hj; simp only [List.mem_cons, List.not_mem_nil, or_false] at hj; omega)).rA i).trans (hc19_28 i)
          have hc56_29 : ∀ i, rAt S56_ (x + 29) i = rAt S (x + 29) i := fun i => ((f56_.1 (x + 29) (by omega) (by intro j hj; simp only [List.mem_cons, List.not_mem_nil, or_false] at hj; omega)).rA i).trans (hc19_29 i)
          have hc56_18 : ∀ i, rAt S56_ (x + 18) i = rAt S (x + 18) i := fun i => ((f56_.1 (x + 18) (by omega) (by intro j hj; simp only [List.mem_cons, List.not_mem_nil, or_false] at hj; omega)).rA i).trans (hc19_18 i)
          have hc56_25 : ∀ i, rAt S56_ (x + 25) i = rAt S (x + 25) i := fun i => ((f56_.1 (x + 25) (by omega) (by intro j hj; simp only [List.mem_cons, List.not_mem_nil, or_false] at hj; omega)).rA i).trans (hc19_25 i)
          have hc56_19 : ∀ i, rAt S56_ (x + 19) i = rAt S (x + 19) i := fun i => ((f56_.1 (x + 19) (by omega) (by intro j hj; simp only [List.mem_cons, List.not_mem_nil, or_false] at hj; omega)).rA i).trans (hc19_19 i)
          have hc56_21 : ∀ i, rAt S56_ (x + 21) i = rAt S (x + 21) i := fun i => ((f56_.1 (x + 21) (by omega) (by intro j hj; simp only [List.mem_cons, List.not_mem_nil, or_false] at hj; omega)).rA i).trans (hc19_21 i)
          have hc56_23 : ∀ i, rAt S56_ (x + 23) i = rAt S (x + 23) i := fun i => ((f56_.1 (x + 23) (by omega) (by intro j hj; simp only [List.mem_cons, List.not_mem_nil, or_false] at hj; omega)).rA i).trans (hc19_23 i)
          have hc56_20 : ∀ i, rAt S56_ (x + 20) i = rAt S (x + 20) i := fun i => ((f56_.1 (x + 20) (by omega) (by intro j hj; simp only [List.mem_cons, List.not_mem_nil, or_false] at hj; omega)).rA i).trans (hc19_20 i)
          refine v_goto hX (tgt := 361) dX13_sayStatement_261 (by decide) ?_
          refine v_locals (lv' := [(0, .ref x), (1, .int (iI sx))]) (by simp) ?_
          exact L361 _ v57_ l0 (fr19.tr (f56_.mono (by decide) (by decide) (by decide))) (by simp (disch := omega) only [y_I_s_I, x_I_s_I, z_I_s_J, z_I_s_A, z_I_s_B, e56_1128, e56_1163, e56_1159, e_v57_]) (by simp (disch := omega) only [y_I_s_I, x_I_s_I, z_I_s_J, z_I_s_A, z_I_s_B, e56_1128, e56_1163, e56_1159, e_v57_]) ⟨by omega, by omega⟩ ⟨by omega, by omega⟩ (by omega)
        ·
          refine v_aload_n hX dX13_sayStatement_236 (i := 0) rfl rfl ?_
          refine v_bipush hX (v := iI 8) dX13_sayStatement_237 (by decide) ?_
          refine v_iload_n hX dX13_sayStatement_239 (i := 1) rfl rfl ?_
          refine v_callV hX (n := 2) (k_sayLong (S := S19c) (x := x) (cd := 8) (sx := sx) (st_ := st_) (wt := wt) (wo_ := w0) h19c (by simp (disch := omega) only [y_I_s_I, x_I_s_I, z_I_s_J, z_I_s_A, z_I_s_B, e19_st_, e19_wt, e_w0, e_l0]) ⟨by omega, by omega⟩ (by simp (disch := omega) only [y_I_s_I, x_I_s_I, z_I_s_J, z_I_s_A, z_I_s_B, e19_st_, e19_wt, e_w0, e_l0]) ⟨by omega, by omega⟩ (by simp (disch := omega) only [y_I_s_I, x_I_s_I, z_I_s_J, z_I_s_A, z_I_s_B, e19_st_, e19_wt, e_w0, e_l0]) ⟨by omega, by omega⟩ ⟨by omega, by omega⟩ ⟨by omega, by omega⟩ (so.c (fun i => hc19_35 i) (fun i => hc19_34 i)) (eo.c (fun i => (hc19_27 i)) (fun i => (hc19_28 i)) (fun i => (hc19_29 i))) (by (try simp (disch := omega) only [zr_I, zr_J, zr_B, rA_A, zl_I, zl_J, zl_A, lA_B, hc19_35, hc19_34, hc19_26, hc19_22, hc19_27, hc19_28, hc19_29, hc19_18, hc19_25, hc19_19, hc19_21, hc19_23, hc19_20]); omega)) (ms_kx h19c) bc_11 (by decide) w_7_207 w_7_209 (bw_p (q := (yX13_sayLong, 72)) (List.mem_of_getElem? (i := 92) rfl) rfl) w_1_16 w_7_210 (by decide +kernel) rfl ⟨by decide, by decide⟩ ⟨by omega, by omega⟩ (Nat.le_of_ble_eq_true rfl) rfl dX13_sayStatement_240 (fun _ _ _ q => q) ?_
          rintro r58_ S58_ z58_ ⟨rfl, f58_, v59_, rfl, e_v59_, b_v59_, q58_⟩
          have e58_1128 : m_I S58_ 1128 x = iI st_ := (f58_.2.2.2.1 1128 (by decide)).trans (by simp (disch := omega) only [y_I_s_I, x_I_s_I, z_I_s_J, z_I_s_A, z_I_s_B, e19_st_, e19_wt, e_w0, e_l0])
          have e58_1163 : m_I S58_ 1163 x = iI wt := (f58_.2.2.2.1 1163 (by decide)).trans (by simp (disch := omega) only [y_I_s_I, x_I_s_I, z_I_s_J, z_I_s_A, z_I_s_B, e19_st_, e19_wt, e_w0, e_l0])
          have e58_1159 : m_I S58_ 1159 x = iI l0 := (f58_.2.2.2.1 1159 (by decide)).trans (by simp (disch := omega) only [y_I_s_I, x_I_s_I, z_I_s_J, z_I_s_A, z_I_s_B, e19_st_, e19_wt, e_w0, e_l0])
          have h58_ : mS S58_ x := f58_.keep h19c
          have hc58_35 : ∀ i, rAt S58_ (x + 35) i = rAt S (x + 35) i := fun i => ((f58_.1 (x + 35) (by omega) (by intro j hj; simp only [List.mem_cons, List.not_mem_nil, or_false] at hj; omega)).rA i).trans (hc19_35 i)
          have hc58_34 : ∀ i, rAt S58_ (x + 34) i = rAt S (x + 34) i := fun i => ((f58_.1 (x + 34) (by omega) (by intro j hj; simp only [List.mem_cons, List.not_mem_nil, or_false] at hj; omega)).rA i).trans (hc19_34 i)
          have hc58_26 : ∀ i, rAt S58_ (x + 26) i = rAt S (x + 26) i := fun i => ((f58_.1 (x + 26) (by omega) (by intro j hj; simp only [List.mem_cons, List.not_mem_nil, or_false] at hj; omega)).rA i).trans (hc19_26 i)
          have hc58_22 : ∀ i, rAt S58_ (x + 22) i = rAt S (x + 22) i := fun i => ((f58_.1 (x + 22) (by omega) (by intro j hj; simp only [List.mem_cons, List.not_mem_nil, or_false] at hj; omega)).rA i).trans (hc19_22 i)
          have hc58_27 : ∀ i, rAt S58_ (x + 27) i = rAt S (x + 27) i := fun i => ((f58_.1 (x + 27) (by omega) (by intro j hj; simp only [List.mem_cons, List.not_mem_nil, or_false] at hj; omega)).rA i).trans (hc19_27 i)
          have hc58_28 : ∀ i, rAt S58_ (x + 28) i = rAt S (x + 28) i := fun i => ((f58_.1 (x + 28) (by omega) (by intro j hj; simp only [List.mem_cons, List.not_mem_nil, or_false] at hj; omega)).rA i).trans (hc19_28 i)
          have hc58_29 : ∀ i, rAt S58_ (x + 29) i = rAt S (x + 29) i := fun i => ((f58_.1 (x + 29) (by omega) (by intro j hj; simp only [List.mem_cons, List.not_mem_nil, or_false] at hj; omega)).rA i).trans (hc19_29 i)
          have hc58_18 : ∀ i, rAt S58_ (x + 18) i = rAt S (x + 18) i := fun i => ((f58_.1 (x + 18) (by omega) (by intro j hj; simp only [List.mem_cons, List.not_mem_nil, or_false] at hj; omega)).rA i).trans (hc19_18 i)
          have hc58_25 : ∀ i, rAt S58_ (x + 25) i = rAt S (x + 25) i := fun i => ((f58_.1 (x + 25) (by omega) (by intro j hj; simp only [List.mem_cons, List.not_mem_nil, or_false] at hj; omega)).rA i).trans (hc19_25 i)
          have hc58_19 : ∀ i, rAt S58_ (x + 19) i = rAt S (x + 19) i := fun i => ((f58_.1 (x + 19) (by omega) (by intro j hj; simp only [List.mem_cons, List.not_mem_nil, or_false] at hj; omega)).rA i).trans (hc19_19 i)
          have hc58_21 : ∀ i, rAt S58_ (x + 21) i = rAt S (x + 21) i := fun i => ((f58_.1 (x + 21) (by omega) (by intro j hj; simp only [List.mem_cons, List.not_mem_nil, or_false] at hj; omega)).rA i).trans (hc19_21 i)
          have hc58_23 : ∀ i, rAt S58_ (x + 23) i = rAt S (x + 23) i := fun i => ((f58_.1 (x + 23) (by omega) (by intro j hj; simp only [List.mem_cons, List.not_mem_nil, or_false] at hj; omega)).rA i).trans (hc19_23 i)
          have hc58_20 : ∀ i, rAt S58_ (x + 20) i = rAt S (x + 20) i := fun i => ((f58_.1 (x + 20) (by omega) (by intro j hj; simp only [List.mem_cons, List.not_mem_nil, or_false] at hj; omega)).rA i).trans (hc19_20 i)
          refine v_goto hX (tgt := 361) dX13_sayStatement_243 (by decide) ?_
          refine v_locals (lv' := [(0, .ref x), (1, .int (iI sx))]) (by simp) ?_
          exact L361 _ v59_ l0 (fr19.tr (f58_.mono (by decide) (by decide) (by decide))) (by simp (disch := omega) only [y_I_s_I, x_I_s_I, z_I_s_J, z_I_s_A, z_I_s_B, e58_1128, e58_1163, e58_1159, e_v59_]) (by simp (disch := omega) only [y_I_s_I, x_I_s_I, z_I_s_J, z_I_s_A, z_I_s_B, e58_1128, e58_1163, e58_1159, e_v59_]) ⟨by omega, by omega⟩ ⟨by omega, by omega⟩ (by omega)
      ·
        refine v_tableIn hX (off := 216) (tgt := 264) dX13_sayStatement_48 (by rw [iI_to ⟨by omega, by omega⟩]; omega) (by rw [iI_to ⟨by omega, by omega⟩]; omega) (by rw [iI_to ⟨by omega, by omega⟩, h19_]; rfl) (by decide) ?_
        refine v_aload_n hX dX13_sayStatement_264 (i := 0) rfl rfl ?_
        refine v_ldcw hX (v := iI 36864) dX13_sayStatement_265 (show Cond.constant _ _ (iI 36864) ∈ b_Ws from w_7_211) ?_
        refine v_iload_n hX dX13_sayStatement_268 (i := 3) rfl rfl ?_
        refine u_ior hX dX13_sayStatement_269 (fun v60_ b_v60_ => ?_)
        refine v_aload_n hX dX13_sayStatement_270 (i := 0) rfl rfl ?_
        refine v_iload_n hX dX13_sayStatement_271 (i := 1) rfl rfl ?_
        refine v_callV hX (n := 1) (k_literalPlace (S := S19c) (x := x) (sx := sx) (st_ := st_) h19c (by simp (disch := omega) only [y_I_s_I, x_I_s_I, z_I_s_J, z_I_s_A, z_I_s_B, e19_st_, e19_wt, e_w0, e_l0]) ⟨by omega, by omega⟩ ⟨by omega, by omega⟩ (by omega)) (ms_kx h19c) bc_11 (by decide) w_7_195 w_7_197 (bw_p (q := (yX13_literalPlace, 72)) (List.mem_of_getElem? (i := 89) rfl) rfl) w_1_16 w_7_198 (by decide +kernel) rfl ⟨by decide, by decide⟩ ⟨by omega, by omega⟩ (Nat.le_of_ble_eq_true rfl) rfl dX13_sayStatement_272 (fun _ _ _ q => q) ?_
        rintro r61_ S61_ z61_ ⟨rfl, rfl, v62_, rfl, b_v62_, q61_⟩
        refine v_aload_n hX dX13_sayStatement_275 (i := 0) rfl rfl ?_
        refine v_get hX (ci := 11) (k := 38) (ms_kx h19c) bc_11 (by decide) (by decide) in_11 w_6_14 dX13_sayStatement_276 (mvP (f := 1138) (q := (x + 26)) rfl rfl (ms_p_1138 h19c)) ?_
        refine v_iload_n hX dX13_sayStatement_279 (i := 1) rfl rfl ?_
        refine u_iald hX (L := 400) (ms_k_1138 h19c) (ms_l_1138 h19c) ⟨by omega, by omega⟩ (by decide) dX13_sayStatement_280 (fun v63_ e_v63_ b_v63_ => ?_)
        try simp (disch := omega) only [zr_I, zr_J, zr_B, rA_A, zl_I, zl_J, zl_A, lA_B, hc19_35, hc19_34, hc19_26, hc19_22, hc19_27, hc19_28, hc19_29, hc19_18, hc19_25, hc19_19, hc19_21, hc19_23, hc19_20] at e_v63_
        refine u_isub hX dX13_sayStatement_281 ?_
        refine v_iconst hX (v := iI 1) dX13_sayStatement_282 rfl ?_
        refine u_isub hX dX13_sayStatement_283 ?_
        refine u_ior hX dX13_sayStatement_284 (fun v64_ b_v64_ => ?_)
        refine v_callV hX (n := 1) (k_say (S := S19c) (x := x) (v := v64_) (wo_ := w0) h19c (by simp (disch := omega) only [y_I_s_I, x_I_s_I, z_I_s_J, z_I_s_A, z_I_s_B, e19_st_, e19_wt, e_w0, e_l0]) ⟨by omega, by omega⟩ ⟨by omega, by omega⟩ (by omega)) (ms_kx h19c) bc_11 (by decide) w_7_203 w_7_205 (bw_p (q := (yX13_say, 72)) (List.mem_of_getElem? (i := 91) rfl) rfl) w_1_16 w_7_206 (by decide +kernel) rfl ⟨by decide, by decide⟩ ⟨by omega, by omega⟩ (Nat.le_of_ble_eq_true rfl) rfl dX13_sayStatement_285 (fun _ _ _ q => q) ?_
        rintro r65_ S65_ z65_ ⟨rfl, f65_, v66_, rfl, e_v66_, b_v66_, q65_⟩
        have e65_1128 : m_I S65_ 1128 x = iI st_ := (f65_.2.2.2.1 1128 (by decide)).trans (by simp (disch := omega) only [y_I_s_I, x_I_s_I, z_I_s_J, z_I_s_A, z_I_s_B, e19_st_, e19_wt, e_w0, e_l0])
        have e65_1163 : m_I S65_ 1163 x = iI wt := (f65_.2.2.2.1 1163 (by decide)).trans (by simp (disch := omega) only [y_I_s_I, x_I_s_I, z_I_s_J, z_I_s_A, z_I_s_B, e19_st_, e19_wt, e_w0, e_l0])
        have e65_1159 : m_I S65_ 1159 x = iI l0 := (f65_.2.2.2.1 1159 (by decide)).trans (by simp (disch := omega) only [y_I_s_I, x_I_s_I, z_I_s_J, z_I_s_A, z_I_s_B, e19_st_, e19_wt, e_w0, e_l0])
        have h65_ : mS S65_ x := f65_.keep h19c
        have hc65_35 : ∀ i, rAt S65_ (x + 35) i = rAt S (x + 35) i := fun i => ((f65_.1 (x + 35) (by omega) (by intro j hj; simp only [List.mem_cons, List.not_mem_nil, or_false] at hj; omega)).rA i).trans (hc19_35 i)
        have hc65_34 : ∀ i, rAt S65_ (x + 34) i = rAt S (x + 34) i := fun i => ((f65_.1 (x + 34) (by omega) (by intro j hj; simp only [List.mem_cons, List.not_mem_nil, or_false] at hj; omega)).rA i).trans (hc19_34 i)
        have hc65_26 : ∀ i, rAt S65_ (x + 26) i = rAt S (x + 26) i := fun i => ((f65_.1 (x + 26) (by omega) (by intro j hj; simp only [List.mem_cons, List.not_mem_nil, or_false] at hj; omega)).rA i).trans (hc19_26 i)
        have hc65_22 : ∀ i, rAt S65_ (x + 22) i = rAt S (x + 22) i := fun i => ((f65_.1 (x + 22) (by omega) (by intro j hj; simp only [List.mem_cons, List.not_mem_nil, or_false] at hj; omega)).rA i).trans (hc19_22 i)
        have hc65_27 : ∀ i, rAt S65_ (x + 27) i = rAt S (x + 27) i := fun i => ((f65_.1 (x + 27) (by omega) (by intro j hj; simp only [List.mem_cons, List.not_mem_nil, or_false] at hj; omega)).rA i).trans (hc19_27 i)
        have hc65_28 : ∀ i, rAt S65_ (x + 28) i = rAt S (x + 28) i := fun i => ((f65_.1 (x + 28) (by omega) (by intro j hj; simp only [List.mem_cons, List.not_mem_nil, or_false] at hj; omega)).rA i).trans (hc19_28 i)
        have hc65_29 : ∀ i, rAt S65_ (x + 29) i = rAt S (x + 29) i := fun i => ((f65_.1 (x + 29) (by omega) (by intro j hj; simp only [List.mem_cons, List.not_mem_nil, or_false] at hj; omega)).rA i).trans (hc19_29 i)
        have hc65_18 : ∀ i, rAt S65_ (x + 18) i = rAt S (x + 18) i := fun i => ((f65_.1 (x + 18) (by omega) (by intro j hj; simp only [List.mem_cons, List.not_mem_nil, or_false] at hj; omega)).rA i).trans (hc19_18 i)
        have hc65_25 : ∀ i, rAt S65_ (x + 25) i = rAt S (x + 25) i := fun i => ((f65_.1 (x + 25) (by omega) (by intro j hj; simp only [List.mem_cons, List.not_mem_nil, or_false] at hj; omega)).rA i).trans (hc19_25 i)
        have hc65_19 : ∀ i, rAt S65_ (x + 19) i = rAt S (x + 19) i := fun i => ((f65_.1 (x + 19) (by omega) (by intro j hj; simp only [List.mem_cons, List.not_mem_nil, or_false] at hj; omega)).rA i).trans (hc19_19 i)
        have hc65_21 : ∀ i, rAt S65_ (x + 21) i = rAt S (x + 21) i := fun i => ((f65_.1 (x + 21) (by omega) (by intro j hj; simp only [List.mem_cons, List.not_mem_nil, or_false] at hj; omega)).rA i).trans (hc19_21 i)
        have hc65_23 : ∀ i, rAt S65_ (x + 23) i = rAt S (x + 23) i := fun i => ((f65_.1 (x + 23) (by omega) (by intro j hj; simp only [List.mem_cons, List.not_mem_nil, or_false] at hj; omega)).rA i).trans (hc19_23 i)
        have hc65_20 : ∀ i, rAt S65_ (x + 20) i = rAt S (x + 20) i := fun i => ((f65_.1 (x + 20) (by omega) (by intro j hj; simp only [List.mem_cons, List.not_mem_nil, or_false] at hj; omega)).rA i).trans (hc19_20 i)
        refine v_goto hX (tgt := 361) dX13_sayStatement_288 (by decide) ?_
        refine v_locals (lv' := [(0, .ref x), (1, .int (iI sx))]) (by simp) ?_
        exact L361 _ v66_ l0 (fr19.tr (f65_.mono (by decide) (by decide) (by decide))) (by simp (disch := omega) only [y_I_s_I, x_I_s_I, z_I_s_J, z_I_s_A, z_I_s_B, e65_1128, e65_1163, e65_1159, e_v66_]) (by simp (disch := omega) only [y_I_s_I, x_I_s_I, z_I_s_J, z_I_s_A, z_I_s_B, e65_1128, e65_1163, e65_1159, e_v66_]) ⟨by omega, by omega⟩ ⟨by omega, by omega⟩ (by omega)
      ·
        refine v_tableIn hX (off := 243) (tgt := 291) dX13_sayStatement_48 (by rw [iI_to ⟨by omega, by omega⟩]; omega) (by rw [iI_to ⟨by omega, by omega⟩]; omega) (by rw [iI_to ⟨by omega, by omega⟩, h19_]; rfl) (by decide) ?_
        refine v_iconst hX (v := iI 0) dX13_sayStatement_291 rfl ?_
        refine v_istore hX (lv' := [(5, .int (iI 0)), (4, .int (iI ((v - v16_) - 1))), (3, .int (iI v15_)), (2, .int (iI v)), (0, .ref x), (1, .int (iI sx))]) dX13_sayStatement_292 (by rw [hnL]; decide) rfl ?_
        refine v_locals (lv' := [(5, .int (iI 0)), (0, .ref x), (1, .int (iI sx))]) (by simp) ?_
        exact L294 _ _ w0 l0 0 fr19 (by simp (disch := omega) only [y_I_s_I, x_I_s_I, z_I_s_J, z_I_s_A, z_I_s_B, e19_st_, e19_wt, e_w0, e_l0]) (by simp (disch := omega) only [y_I_s_I, x_I_s_I, z_I_s_J, z_I_s_A, z_I_s_B, e19_st_, e19_wt, e_w0, e_l0]) ⟨by omega, by omega⟩ ⟨by omega, by omega⟩ (by omega) rfl
      ·
        refine v_tableIn hX (off := 277) (tgt := 325) dX13_sayStatement_48 (by rw [iI_to ⟨by omega, by omega⟩]; omega) (by rw [iI_to ⟨by omega, by omega⟩]; omega) (by rw [iI_to ⟨by omega, by omega⟩, h19_]; rfl) (by decide) ?_
        refine v_iconst hX (v := iI 0) dX13_sayStatement_325 rfl ?_
        refine v_istore hX (lv' := [(5, .int (iI 0)), (4, .int (iI ((v - v16_) - 1))), (3, .int (iI v15_)), (2, .int (iI v)), (0, .ref x), (1, .int (iI sx))]) dX13_sayStatement_326 (by rw [hnL]; decide) rfl ?_
        refine v_locals (lv' := [(5, .int (iI 0)), (0, .ref x), (1, .int (iI sx))]) (by simp) ?_
        exact L328 _ _ w0 l0 0 fr19 (by simp (disch := omega) only [y_I_s_I, x_I_s_I, z_I_s_J, z_I_s_A, z_I_s_B, e19_st_, e19_wt, e_w0, e_l0]) (by simp (disch := omega) only [y_I_s_I, x_I_s_I, z_I_s_J, z_I_s_A, z_I_s_B, e19_st_, e19_wt, e_w0, e_l0]) ⟨by omega, by omega⟩ ⟨by omega, by omega⟩ (by omega) rfl
      ·
        refine v_tableIn hX (off := 305) (tgt := 353) dX13_sayStatement_48 (by rw [iI_to ⟨by omega, by omega⟩]; omega) (by rw [iI_to ⟨by omega, by omega⟩]; omega) (by rw [iI_to ⟨by omega, by omega⟩, h19_]; rfl) (by decide) ?_
        refine v_aload_n hX dX13_sayStatement_353 (i := 0) rfl rfl ?_
        have glc_ : lc S19c x sx = lc S x sx := lc_c (fun i => by simp (disch := omega) only [zr_I, zr_J, zr_B, rA_A, zl_I, zl_J, zl_A, lA_B, hc19_18]) sx
        refine v_iload_n hX dX13_sayStatement_354 (i := 1) rfl rfl ?_
        refine v_callV hX (n := 1) (k_sayPool (S := S19c) (x := x) (sx := sx) (st_ := st_) (wt := wt) (wo_ := w0) h19c (by simp (disch := omega) only [y_I_s_I, x_I_s_I, z_I_s_J, z_I_s_A, z_I_s_B, e19_st_, e19_wt, e_w0, e_l0]) ⟨by omega, by omega⟩ (by simp (disch := omega) only [y_I_s_I, x_I_s_I, z_I_s_J, z_I_s_A, z_I_s_B, e19_st_, e19_wt, e_w0, e_l0]) ⟨by omega, by omega⟩ (by simp (disch := omega) only [y_I_s_I, x_I_s_I, z_I_s_J, z_I_s_A, z_I_s_B, e19_st_, e19_wt, e_w0, e_l0]) ⟨by omega, by omega⟩ ⟨by omega, by omega⟩ (so.c (fun i => hc19_35 i) (fun i => hc19_34 i)) (eo.c (fun i => (hc19_27 i)) (fun i => (hc19_28 i)) (fun i => (hc19_29 i))) (by intro j a b c; simp (disch := omega) only [zr_I, zr_J, zr_B, rA_A, zl_I, zl_J, zl_A, lA_B, hc19_35, hc19_34, hc19_26, hc19_22, hc19_27, hc19_28, hc19_29, hc19_18, hc19_25, hc19_19, hc19_21, hc19_23, hc19_20] at c ⊢; exact lw j a b c) (by omega)) (ms_kx h19c) bc_11 (by decide) w_7_212 w_7_214 (bw_p (q := (yX13_sayPool, 72)) (List.mem_of_getElem? (i := 93) rfl) rfl) w_1_16 w_7_215 (by decide +kernel) rfl ⟨by decide, by decide⟩ ⟨by omega, by omega⟩ (Nat.le_of_ble_eq_true rfl) rfl dX13_sayStatement_355 (fun _ _ _ q => q) ?_
        rintro r67_ S67_ z67_ ⟨rfl, f67_, v68_, rfl, e_v68_, b_v68_, q67_⟩
        have e67_1128 : m_I S67_ 1128 x = iI st_ := (f67_.2.2.2.1 1128 (by decide)).trans (by simp (disch := omega) only [y_I_s_I, x_I_s_I, z_I_s_J, z_I_s_A, z_I_s_B, e19_st_, e19_wt, e_w0, e_l0])
        have e67_1163 : m_I S67_ 1163 x = iI wt := (f67_.2.2.2.1 1163 (by decide)).trans (by simp (disch := omega) only [y_I_s_I, x_I_s_I, z_I_s_J, z_I_s_A, z_I_s_B, e19_st_, e19_wt, e_w0, e_l0])
        have e67_1159 : m_I S67_ 1159 x = iI l0 := (f67_.2.2.2.1 1159 (by decide)).trans (by simp (disch := omega) only [y_I_s_I, x_I_s_I, z_I_s_J, z_I_s_A, z_I_s_B, e19_st_, e19_wt, e_w0, e_l0])
        have h67_ : mS S67_ x := f67_.keep h19c
        have hc67_35 : ∀ i, rAt S67_ (x + 35) i = rAt S (x + 35) i := fun i => ((f67_.1 (x + 35) (by omega) (by intro j hj; simp only [List.mem_cons, List.not_mem_nil, or_false] at hj; omega)).rA i).trans (hc19_35 i)
        have hc67_34 : ∀ i, rAt S67_ (x + 34) i = rAt S (x + 34) i := fun i => ((f67_.1 (x + 34) (by omega) (by intro j hj; simp only [List.mem_cons, List.not_mem_nil, or_false] at hj; omega)).rA i).trans (hc19_34 i)
        have hc67_26 : ∀ i, rAt S67_ (x + 26) i = rAt S (x + 26) i := fun i => ((f67_.1 (x + 26) (by omega) (by intro j hj; simp only [List.mem_cons, List.not_mem_nil, or_false] at hj; omega)).rA i).trans (hc19_26 i)
        have hc67_22 : ∀ i, rAt S67_ (x + 22) i = rAt S (x + 22) i := fun i => ((f67_.1 (x + 22) (by omega) (by intro j hj; simp only [List.mem_cons, List.not_mem_nil, or_false] at hj; omega)).rA i).trans (hc19_22 i)
        have hc67_27 : ∀ i, rAt S67_ (x + 27) i = rAt S (x + 27) i := fun i => ((f67_.1 (x + 27) (by omega) (by intro j hj; simp only [List.mem_cons, List.not_mem_nil, or_false] at hj; omega)).rA i).trans (hc19_27 i)
        have hc67_28 : ∀ i, rAt S67_ (x + 28) i = rAt S (x + 28) i := fun i => ((f67_.1 (x + 28) (by omega) (by intro j hj; simp only [List.mem_cons, List.not_mem_nil, or_false] at hj; omega)).rA i).trans (hc19_28 i)
        have hc67_29 : ∀ i, rAt S67_ (x + 29) i = rAt S (x + 29) i := fun i => ((f67_.1 (x + 29) (by omega) (by intro j hj; simp only [List.mem_cons, List.not_mem_nil, or_false] at hj; omega)).rA i).trans (hc19_29 i)
        have hc67_18 : ∀ i, rAt S67_ (x + 18) i = rAt S (x + 18) i := fun i => ((f67_.1 (x + 18) (by omega) (by intro j hj; simp only [List.mem_cons, List.not_mem_nil, or_false] at hj; omega)).rA i).trans (hc19_18 i)
        have hc67_25 : ∀ i, rAt S67_ (x + 25) i = rAt S (x + 25) i := fun i => ((f67_.1 (x + 25) (by omega) (by intro j hj; simp only [List.mem_cons, List.not_mem_nil, or_false] at hj; omega)).rA i).trans (hc19_25 i)
        have hc67_19 : ∀ i, rAt S67_ (x + 19) i = rAt S (x + 19) i := fun i => ((f67_.1 (x + 19) (by omega) (by intro j hj; simp only [List.mem_cons, List.not_mem_nil, or_false] at hj; omega)).rA i).trans (hc19_19 i)
        have hc67_21 : ∀ i, rAt S67_ (x + 21) i = rAt S (x + 21) i := fun i => ((f67_.1 (x + 21) (by omega) (by intro j hj; simp only [List.mem_cons, List.not_mem_nil, or_false] at hj; omega)).rA i).trans (hc19_21 i)
        have hc67_23 : ∀ i, rAt S67_ (x + 23) i = rAt S (x + 23) i := fun i => ((f67_.1 (x + 23) (by omega) (by intro j hj; simp only [List.mem_cons, List.not_mem_nil, or_false] at hj; omega)).rA i).trans (hc19_23 i)
        have hc67_20 : ∀ i, rAt S67_ (x + 20) i = rAt S (x + 20) i := fun i => ((f67_.1 (x + 20) (by omega) (by intro j hj; simp only [List.mem_cons, List.not_mem_nil, or_false] at hj; omega)).rA i).trans (hc19_20 i)
        refine v_goto hX (tgt := 361) dX13_sayStatement_358 (by decide) ?_
        refine v_locals (lv' := [(0, .ref x), (1, .int (iI sx))]) (by simp) ?_
        exact L361 _ v68_ l0 (fr19.tr (f67_.mono (by decide) (by decide) (by decide))) (by simp (disch := omega) only [y_I_s_I, x_I_s_I, z_I_s_J, z_I_s_A, z_I_s_B, e67_1128, e67_1163, e67_1159, e_v68_]) (by simp (disch := omega) only [y_I_s_I, x_I_s_I, z_I_s_J, z_I_s_A, z_I_s_B, e67_1128, e67_1163, e67_1159, e_v68_]) ⟨by omega, by omega⟩ ⟨by omega, by omega⟩ (by omega)
    ·
      refine v_tableOut hX (tgt := 361) dX13_sayStatement_48 (by rw [iI_to ⟨by omega, by omega⟩]; omega) (by decide) ?_
      refine v_locals (lv' := [(0, .ref x), (1, .int (iI sx))]) (by simp) ?_
      exact L361 _ w0 l0 fr19 (by simp (disch := omega) only [y_I_s_I, x_I_s_I, z_I_s_J, z_I_s_A, z_I_s_B, e19_st_, e19_wt, e_w0, e_l0]) (by simp (disch := omega) only [y_I_s_I, x_I_s_I, z_I_s_J, z_I_s_A, z_I_s_B, e19_st_, e19_wt, e_w0, e_l0]) ⟨by omega, by omega⟩ ⟨by omega, by omega⟩ (by omega)
  change b_V X S z 0 0 0 [(0, .ref x), (1, .int (iI sx))] []
  refine v_aload_n hX dX13_sayStatement_0 (i := 0) rfl rfl ?_
  refine v_get hX (ci := 11) (k := 33) (ms_kx h) bc_11 (by decide) (by decide) in_11 w_6_9 dX13_sayStatement_1 (mvP (f := 1133) (q := (x + 21)) rfl rfl (ms_p_1133 h)) ?_
  refine v_iload_n hX dX13_sayStatement_4 (i := 1) rfl rfl ?_
  refine u_iald hX (L := 400) (ms_k_1133 h) (ms_l_1133 h) ⟨by omega, by omega⟩ (by decide) dX13_sayStatement_5 (fun v69_ e_v69_ b_v69_ => ?_)
  refine u_if_le hX (tgt := 18) dX13_sayStatement_6 (by decide) ⟨by omega, by omega⟩ (fun h70_ => ?_) (fun h70_ => ?_)
  ·
    refine v_iconst hX (v := iI 0) dX13_sayStatement_18 rfl ?_
    exact L19 _ wo_ lo_ 0 (mFr.rf _ _) (by simp (disch := omega) only [y_I_s_I, x_I_s_I, z_I_s_J, z_I_s_A, z_I_s_B, e_st_, e_wt, e_wo_, e_lo_]) (by simp (disch := omega) only [y_I_s_I, x_I_s_I, z_I_s_J, z_I_s_A, z_I_s_B, e_st_, e_wt, e_wo_, e_lo_]) ⟨by omega, by omega⟩ ⟨by omega, by omega⟩ (by omega)
  ·
    refine v_aload_n hX dX13_sayStatement_9 (i := 0) rfl rfl ?_
    refine v_iload_n hX dX13_sayStatement_10 (i := 1) rfl rfl ?_
    refine v_iconst hX (v := iI 0) dX13_sayStatement_11 rfl ?_
    refine v_callV hX (n := 2) (k_valueAt (S := S) (x := x) (sx := sx) (k := 0) (st_ := st_) (wt := wt) h (by simp (disch := omega) only [y_I_s_I, x_I_s_I, z_I_s_J, z_I_s_A, z_I_s_B, e_st_, e_wt, e_wo_, e_lo_]) ⟨by omega, by omega⟩ (by simp (disch := omega) only [y_I_s_I, x_I_s_I, z_I_s_J, z_I_s_A, z_I_s_B, e_st_, e_wt, e_wo_, e_lo_]) ⟨by omega, by omega⟩ ⟨by omega, by omega⟩ ⟨by omega, by omega⟩ so eo (by omega)) (ms_kx h) bc_11 (by decide) w_7_182 w_7_184 (bw_p (q := (yX13_valueAt, 72)) (List.mem_of_getElem? (i := 86) rfl) rfl) w_1_16 w_7_185 (by decide +kernel) rfl ⟨by decide, by decide⟩ ⟨by omega, by omega⟩ (Nat.le_of_ble_eq_true rfl) rfl dX13_sayStatement_12 (fun _ _ _ q => q) ?_
    rintro r71_ S71_ z71_ ⟨rfl, f71_, v72_, v73_, rfl, b_v72_, e_v73_, b_v73_, q71_⟩
    have e71_1128 : m_I S71_ 1128 x = iI st_ := (f71_.2.2.2.1 1128 (by decide)).trans (by simp (disch := omega) only [y_I_s_I, x_I_s_I, z_I_s_J, z_I_s_A, z_I_s_B, e_st_, e_wt, e_wo_, e_lo_])
    have e71_1163 : m_I S71_ 1163 x = iI wt := (f71_.2.2.2.1 1163 (by decide)).trans (by simp (disch := omega) only [y_I_s_I, x_I_s_I, z_I_s_J, z_I_s_A, z_I_s_B, e_st_, e_wt, e_wo_, e_lo_])
    have e71_1157 : m_I S71_ 1157 x = iI wo_ := (f71_.2.2.2.1 1157 (by decide)).trans (by simp (disch := omega) only [y_I_s_I, x_I_s_I, z_I_s_J, z_I_s_A, z_I_s_B, e_st_, e_wt, e_wo_, e_lo_])
    have e71_1159 : m_I S71_ 1159 x = iI lo_ := (f71_.2.2.2.1 1159 (by decide)).trans (by simp (disch := omega) only [y_I_s_I, x_I_s_I, z_I_s_J, z_I_s_A, z_I_s_B, e_st_, e_wt, e_wo_, e_lo_])
    have h71_ : mS S71_ x := f71_.keep h
    have hc71_35 : ∀ i, rAt S71_ (x + 35) i = rAt S (x + 35) i := fun i => ((f71_.1 (x + 35) (by omega) (fun j hj => absurd hj List.not_mem_nil)).rA i).trans rfl
    have hc71_34 : ∀ i, rAt S71_ (x + 34) i = rAt S (x + 34) i := fun i => ((f71_.1 (x + 34) (by omega) (fun j hj => absurd hj List.not_mem_nil)).rA i).trans rfl
    have hc71_26 : ∀ i, rAt S71_ (x + 26) i = rAt S (x + 26) i := fun i => ((f71_.1 (x + 26) (by omega) (fun j hj => absurd hj List.not_mem_nil)).rA i).trans rfl
    have hc71_22 : ∀ i, rAt S71_ (x + 22) i = rAt S (x + 22) i := fun i => ((f71_.1 (x + 22) (by omega) (fun j hj => absurd hj List.not_mem_nil)).rA i).trans rfl
    have hc71_27 : ∀ i, rAt S71_ (x + 27) i = rAt S (x + 27) i := fun i => ((f71_.1 (x + 27) (by omega) (fun j hj => absurd hj List.not_mem_nil)).rA i).trans rfl
    have hc71_28 : ∀ i, rAt S71_ (x + 28) i = rAt S (x + 28) i := fun i => ((f71_.1 (x + 28) (by omega) (fun j hj => absurd hj List.not_mem_nil)).rA i).trans rfl
    have hc71_29 : ∀ i, rAt S71_ (x + 29) i = rAt S (x + 29) i := fun i => ((f71_.1 (x + 29) (by omega) (fun j hj => absurd hj List.not_mem_nil)).rA i).trans rfl
    have hc71_18 : ∀ i, rAt S71_ (x + 18) i = rAt S (x + 18) i := fun i => ((f71_.1 (x + 18) (by omega) (fun j hj => absurd hj List.not_mem_nil)).rA i).trans rfl
    have hc71_25 : ∀ i, rAt S71_ (x + 25) i = rAt S (x + 25) i := fun i => ((f71_.1 (x + 25) (by omega) (fun j hj => absurd hj List.not_mem_nil)).rA i).trans rfl
    have hc71_19 : ∀ i, rAt S71_ (x + 19) i = rAt S (x + 19) i := fun i => ((f71_.1 (x + 19) (by omega) (fun j hj => absurd hj List.not_mem_nil)).rA i).trans rfl
    have hc71_21 : ∀ i, rAt S71_ (x + 21) i = rAt S (x + 21) i := fun i => ((f71_.1 (x + 21) (by omega) (fun j hj => absurd hj List.not_mem_nil)).rA i).trans rfl
    have hc71_23 : ∀ i, rAt S71_ (x + 23) i = rAt S (x + 23) i := fun i => ((f71_.1 (x + 23) (by omega) (fun j hj => absurd hj List.not_mem_nil)).rA i).trans rfl
    have hc71_20 : ∀ i, rAt S71_ (x + 20) i = rAt S (x + 20) i := fun i => ((f71_.1 (x + 20) (by omega) (fun j hj => absurd hj List.not_mem_nil)).rA i).trans rfl
    refine v_goto hX (tgt := 19) dX13_sayStatement_15 (by decide) ?_
    exact L19 _ wo_ lo_ v72_ ((mFr.rf _ _).tr (f71_.mono (by decide) (by decide) (by decide))) (by simp (disch := omega) only [y_I_s_I, x_I_s_I, z_I_s_J, z_I_s_A, z_I_s_B, e71_1128, e71_1163, e71_1157, e71_1159, e_v73_]) (by simp (disch := omega) only [y_I_s_I, x_I_s_I, z_I_s_J, z_I_s_A, z_I_s_B, e71_1128, e71_1163, e71_1157, e71_1159, e_v73_]) ⟨by omega, by omega⟩ ⟨by omega, by omega⟩ (by omega)
