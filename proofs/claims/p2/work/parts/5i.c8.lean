set_option maxRecDepth 100000 in
set_option maxHeartbeats 4000000 in
theorem t_L_put {kn : Nat → Nat} {B : Nat} {S : b_M} {z x w : Nat} {c : Int} {to_ : Int} {md Lmd : Nat} (h : cS S x) (e_to_ : m_I S 307 (x + 425) = iI to_) (b_to_ : -2147483648 ≤ to_ ∧ to_ < 2147483648) (e_md : m_P S 304 (x + 425) = some md) (k_md : m_K S md = 12) (l_md : m_L S md = Lmd) (c_md : (Lmd : Int) ≤ 2097152) (b_c : -2147483648 ≤ c ∧ c < 2147483648) (fp_md : inW x w md) (p : 0 ≤ to_ ∧ to_ < 2147483000) : b_C kn B yX4_put cX4_put 2 none 0 0 0 0 [.ref (x + 425), .int (iI c)] S z (fun r S' z' => z = z' ∧ cFr [307] [] [] w S S' x ∧ ∃ t1 : Int, r = none ∧ m_I S' 307 (x + 425) = iI t1 ∧ (-2147483648 ≤ t1 ∧ t1 < 2147483648) ∧ (t1 = to_ + 1)) (fun _ _ _ => False) := by
  refine b_enter (by decide) (Nat.le_of_ble_eq_true rfl) ?_
  intro X hX hE hnL hkn hB hI_
  subst hkn; subst hB
  clear hI_
  change b_V X S z 0 0 0 [(0, .ref (x + 425)), (1, .int (iI c))] []
  refine v_aload_n hX dX4_put_0 (i := 0) rfl rfl ?_
  refine v_get hX (ci := 3) (k := 7) (cs_k_425 h) bc_3 (by decide) (by decide) in_3 w_2_86 dX4_put_1 (mvF (f := 307) (v := iI to_) rfl rfl (by simp (disch := omega) only [y_I_s_I, x_I_s_I, z_I_s_J, z_I_s_A, z_I_s_B, z_I_s_P, e_to_])) ?_
  refine v_aload_n hX dX4_put_4 (i := 0) rfl rfl ?_
  refine v_get hX (ci := 3) (k := 4) (cs_k_425 h) bc_3 (by decide) (by decide) in_3 w_2_80 dX4_put_5 (mvP (f := 304) (q := md) rfl rfl (by simp (disch := omega) only [y_P_s_P, x_P_s_P, z_P_s_I, z_P_s_J, z_P_s_A, z_P_s_B, e_md])) ?_
  refine u_alen hX (L := Lmd) (t0 := 0) (ty := .byte) k_md ⟨by decide, by decide⟩ (fun _ => rfl) l_md dX4_put_8 ?_
  refine u_icmp_ge hX (tgt := 22) dX4_put_9 (by decide) ⟨by omega, by omega⟩ ⟨by omega, by omega⟩ (fun h1_ => ?_) (fun h1_ => ?_)
  ·
    refine v_aload_n hX dX4_put_22 (i := 0) rfl rfl ?_
    refine v_dup hX dX4_put_23 rfl ?_
    refine v_get hX (ci := 3) (k := 7) (cs_k_425 h) bc_3 (by decide) (by decide) in_3 w_2_86 dX4_put_24 (mvF (f := 307) (v := iI to_) rfl rfl (by simp (disch := omega) only [y_I_s_I, x_I_s_I, z_I_s_J, z_I_s_A, z_I_s_B, z_I_s_P, e_to_])) ?_
    refine v_iconst hX (v := iI 1) dX4_put_27 rfl ?_
    refine u_iadd hX dX4_put_28 ?_
    refine v_putI hX (ci := 3) (k := 7) (f := 307) (cs_k_425 h) bc_3 (by decide) (by decide) in_3 tyX4_ok nmX4 w_2_86 (Or.inl rfl) rfl rfl dX4_put_29 rfl rfl ?_
    exact v_return hX hE dX4_put_32 (by omega) (by omega) ⟨rfl, ((cFr.rf _ _).sI (by decide) ⟨by omega, by omega⟩), (to_ + 1), rfl, (by simp (disch := omega) only [y_I_s_I, x_I_s_I, z_I_s_J, z_I_s_A, z_I_s_B, z_I_s_P, e_to_]), ⟨by omega, by omega⟩, (by omega)⟩
  ·
    refine v_aload_n hX dX4_put_12 (i := 0) rfl rfl ?_
    refine v_get hX (ci := 3) (k := 4) (cs_k_425 h) bc_3 (by decide) (by decide) in_3 w_2_80 dX4_put_13 (mvP (f := 304) (q := md) rfl rfl (by simp (disch := omega) only [y_P_s_P, x_P_s_P, z_P_s_I, z_P_s_J, z_P_s_A, z_P_s_B, e_md])) ?_
    refine v_aload_n hX dX4_put_16 (i := 0) rfl rfl ?_
    refine v_get hX (ci := 3) (k := 7) (cs_k_425 h) bc_3 (by decide) (by decide) in_3 w_2_86 dX4_put_17 (mvF (f := 307) (v := iI to_) rfl rfl (by simp (disch := omega) only [y_I_s_I, x_I_s_I, z_I_s_J, z_I_s_A, z_I_s_B, z_I_s_P, e_to_])) ?_
    refine v_iload_n hX dX4_put_20 (i := 1) rfl rfl ?_
    refine u_bast hX (L := Lmd) k_md l_md ⟨by omega, by omega⟩ (by omega) dX4_put_21 ?_
    refine v_aload_n hX dX4_put_22 (i := 0) rfl rfl ?_
    refine v_dup hX dX4_put_23 rfl ?_
    refine v_get hX (ci := 3) (k := 7) (cs_k_425 (cS.sA h)) bc_3 (by decide) (by decide) in_3 w_2_86 dX4_put_24 (mvF (f := 307) (v := iI to_) rfl rfl (by simp (disch := omega) only [y_I_s_I, x_I_s_I, z_I_s_J, z_I_s_A, z_I_s_B, z_I_s_P, e_to_])) ?_
    refine v_iconst hX (v := iI 1) dX4_put_27 rfl ?_
    refine u_iadd hX dX4_put_28 ?_
    refine v_putI hX (ci := 3) (k := 7) (f := 307) (cs_k_425 (cS.sA h)) bc_3 (by decide) (by decide) in_3 tyX4_ok nmX4 w_2_86 (Or.inl rfl) rfl rfl dX4_put_29 rfl rfl ?_
    exact v_return hX hE dX4_put_32 (by omega) (by omega) ⟨rfl, (((cFr.rf _ _).sAd fp_md k_md (f_byte _)).sI (by decide) ⟨by omega, by omega⟩), (to_ + 1), rfl, (by simp (disch := omega) only [y_I_s_I, x_I_s_I, z_I_s_J, z_I_s_A, z_I_s_B, z_I_s_P, e_to_]), ⟨by omega, by omega⟩, (by omega)⟩
set_option maxRecDepth 100000 in
set_option maxHeartbeats 4000000 in
theorem t_L_putNumber {kn : Nat → Nat} {B : Nat} {S : b_M} {z x w : Nat} {dg : Int} {to_ : Int} {md Lmd : Nat} (h : cS S x) (e_to_ : m_I S 307 (x + 425) = iI to_) (b_to_ : -2147483648 ≤ to_ ∧ to_ < 2147483648) (e_md : m_P S 304 (x + 425) = some md) (k_md : m_K S md = 12) (l_md : m_L S md = Lmd) (c_md : (Lmd : Int) ≤ 2097152) (b_dg : -2147483648 ≤ dg ∧ dg < 2147483648) (fp_md : inW x w md) (p : 0 ≤ to_ ∧ to_ < 2147000000) : b_C kn B yX4_putNumber cX4_putNumber 3 none 1 21 0 0 [.ref (x + 425), .int (iI dg)] S z (fun r S' z' => z = z' ∧ cFr [307] [] [] w S S' x ∧ ∃ t1 : Int, r = none ∧ m_I S' 307 (x + 425) = iI t1 ∧ (-2147483648 ≤ t1 ∧ t1 < 2147483648) ∧ (to_ ≤ t1 ∧ t1 ≤ to_ + 3)) (fun _ _ _ => False) := by
  refine b_enter (by decide) (Nat.le_of_ble_eq_true rfl) ?_
  intro X hX hE hnL hkn hB hI_
  subst hkn; subst hB
  clear hI_
  change b_V X S z 0 0 0 [(0, .ref (x + 425)), (1, .int (iI dg))] []
  have L3 : ∀ (n3 : Nat) (S3c : b_M) (t0 : Int) (u : Int), cFr [307] [] [] w S S3c x → m_I S3c 307 (x + 425) = iI t0 → (-2147483648 ≤ t0 ∧ t0 < 2147483648) → (to_ ≤ t0 ∧ ((u = 100 ∧ t0 ≤ to_) ∨ (u = 10 ∧ t0 ≤ to_ + 1) ∨ (u = 1 ∧ t0 ≤ to_ + 2) ∨ (u = 0 ∧ t0 ≤ to_ + 3))) → (u).toNat = n3 → b_V X S3c z 0 0 3 [(2, .int (iI u)), (0, .ref (x + 425)), (1, .int (iI dg))] [] := by
    intro n3
    induction n3 using Nat.strongRecOn with
    | _ n3 ih3 =>
    intro S3c t0 u fr3 e_t0 b_t0 p3_0 hm3
    have h3c : cS S3c x := fr3.keep (by decide) h
    have k3_md : m_K S3c md = 12 := (fr3.2.2.2.2 _ (by rw [k_md]; decide)).1.trans k_md
    have l3_md : m_L S3c md = Lmd := (fr3.2.2.2.2 _ (by rw [k_md]; decide)).2.1.trans l_md
    have e3_md : m_P S3c 304 (x + 425) = some md := (fr3.2.2.1 304 (by decide) _).trans e_md
    refine v_iload_n hX dX4_putNumber_3 (i := 2) rfl rfl ?_
    refine u_if_le hX (tgt := 34) dX4_putNumber_4 (by decide) ⟨by omega, by omega⟩ (fun h1_ => ?_) (fun h1_ => ?_)
    ·
      exact v_return hX hE dX4_putNumber_34 (by omega) (by omega) ⟨rfl, fr3, t0, rfl, (by simp (disch := omega) only [y_I_s_I, x_I_s_I, z_I_s_J, z_I_s_A, z_I_s_B, z_I_s_P, e_t0]), ⟨by omega, by omega⟩, (by omega)⟩
    ·
      refine v_iload_n hX dX4_putNumber_7 (i := 1) rfl rfl ?_
      refine v_iload_n hX dX4_putNumber_8 (i := 2) rfl rfl ?_
      refine u_icmp_lt hX (tgt := 26) dX4_putNumber_9 (by decide) ⟨by omega, by omega⟩ ⟨by omega, by omega⟩ (fun h2_ => ?_) (fun h2_ => ?_)
      ·
        refine v_iload_n hX dX4_putNumber_26 (i := 2) rfl rfl ?_
        refine v_bipush hX (v := iI 10) dX4_putNumber_27 (by decide) ?_
        refine u_idiv hX dX4_putNumber_29 ⟨by omega, by omega⟩ (by omega) ⟨by omega, by omega⟩ (by omega) ?_
        refine v_istore_n hX (lv' := [(2, .int (iI (u / 10))), (0, .ref (x + 425)), (1, .int (iI dg))]) dX4_putNumber_30 (i := 2) rfl (by rw [hnL]; decide) rfl ?_
        refine v_goto hX (tgt := 3) dX4_putNumber_31 (by decide) ?_
        exact ih3 _ (by omega) _ t0 (u / 10) fr3 (by simp (disch := omega) only [y_I_s_I, x_I_s_I, z_I_s_J, z_I_s_A, z_I_s_B, z_I_s_P, e_t0]) ⟨by omega, by omega⟩ (by omega) rfl
      ·
        refine v_aload_n hX dX4_putNumber_12 (i := 0) rfl rfl ?_
        refine v_bipush hX (v := iI 48) dX4_putNumber_13 (by decide) ?_
        refine v_iload_n hX dX4_putNumber_15 (i := 1) rfl rfl ?_
        refine v_iload_n hX dX4_putNumber_16 (i := 2) rfl rfl ?_
        refine u_idiv hX dX4_putNumber_17 ⟨by omega, by omega⟩ (by omega) ⟨by omega, by omega⟩ (by omega) ?_
        have dv1_ : 0 ≤ dg / u := Int.ediv_nonneg (by omega) (by omega)
        have dv2_ : dg / u ≤ dg := Int.ediv_le_self _ (by omega)
        refine v_bipush hX (v := iI 10) dX4_putNumber_18 (by decide) ?_
        refine u_irem hX dX4_putNumber_20 ⟨by omega, by omega⟩ (by omega) ⟨by omega, by omega⟩ (by omega) ?_
        refine u_iadd hX dX4_putNumber_21 ?_
        refine u_i2b hX dX4_putNumber_22 (fun v3_ b_v3_ => ?_)
        refine v_callV hX (n := 1) (t_L_put (S := S3c) (x := x) (w := w) (c := v3_) (to_ := t0) (md := md) (Lmd := Lmd) h3c (by simp (disch := omega) only [y_I_s_I, x_I_s_I, z_I_s_J, z_I_s_A, z_I_s_B, z_I_s_P, e_t0]) ⟨by omega, by omega⟩ (by simp (disch := omega) only [y_P_s_P, x_P_s_P, z_P_s_I, z_P_s_J, z_P_s_A, z_P_s_B, e3_md]) k3_md l3_md (by omega) ⟨by omega, by omega⟩ fp_md (by omega)) (cs_k_425 h3c) bc_3 (by decide) w_3_133 w_3_135 (bw_p (q := (yX4_put, 11)) (List.mem_of_getElem? (i := 7) rfl) rfl) w_1_13 w_3_136 (by decide +kernel) rfl ⟨by decide, by decide⟩ ⟨by omega, by omega⟩ (Nat.le_of_ble_eq_true rfl) rfl dX4_putNumber_23 (fun _ _ _ q => q) ?_
        rintro r4_ S4_ z4_ ⟨rfl, f4_, v5_, rfl, e_v5_, b_v5_, q4_⟩
        have y6_ : m_P S4_ 304 (x + 425) = some md := (f4_.2.2.1 304 (by decide) _).trans (by simp (disch := omega) only [y_P_s_P, x_P_s_P, z_P_s_I, z_P_s_J, z_P_s_A, z_P_s_B, e3_md])
        have k7_ : m_K S4_ md = 12 := (f4_.2.2.2.2 _ (by rw [show m_K S3c md = 12 from k3_md]; decide)).1.trans k3_md
        have l8_ : m_L S4_ md = Lmd := (f4_.2.2.2.2 _ (by rw [show m_K S3c md = 12 from k3_md]; decide)).2.1.trans l3_md
        have h4_ : cS S4_ x := f4_.keep (by decide) h3c
        refine v_iload_n hX dX4_putNumber_26 (i := 2) rfl rfl ?_
        refine v_bipush hX (v := iI 10) dX4_putNumber_27 (by decide) ?_
        refine u_idiv hX dX4_putNumber_29 ⟨by omega, by omega⟩ (by omega) ⟨by omega, by omega⟩ (by omega) ?_
        refine v_istore_n hX (lv' := [(2, .int (iI (u / 10))), (0, .ref (x + 425)), (1, .int (iI dg))]) dX4_putNumber_30 (i := 2) rfl (by rw [hnL]; decide) rfl ?_
        refine v_goto hX (tgt := 3) dX4_putNumber_31 (by decide) ?_
        exact ih3 _ (by omega) _ v5_ (u / 10) (fr3.tr (f4_.mono (by decide) (by decide) (by decide))) (by simp (disch := omega) only [y_I_s_I, x_I_s_I, z_I_s_J, z_I_s_A, z_I_s_B, z_I_s_P, e_v5_]) ⟨by omega, by omega⟩ (by omega) rfl
  refine v_bipush hX (v := iI 100) dX4_putNumber_0 (by decide) ?_
  refine v_istore_n hX (lv' := [(2, .int (iI 100)), (0, .ref (x + 425)), (1, .int (iI dg))]) dX4_putNumber_2 (i := 2) rfl (by rw [hnL]; decide) rfl ?_
  exact L3 _ _ to_ 100 (cFr.rf _ _) (by simp (disch := omega) only [y_I_s_I, x_I_s_I, z_I_s_J, z_I_s_A, z_I_s_B, z_I_s_P, e_to_]) ⟨by omega, by omega⟩ (by omega) rfl
set_option maxRecDepth 100000 in
set_option maxHeartbeats 4000000 in
theorem t_L_putOperand {kn : Nat → Nat} {B : Nat} {S : b_M} {z x w : Nat} {kk : Int} {call : Nat} {to_ : Int} {md Lmd : Nat} {sr Lsr : Nat} {M : Int} (h : cS S x) (e_to_ : m_I S 307 (x + 425) = iI to_) (b_to_ : -2147483648 ≤ to_ ∧ to_ < 2147483648) (e_md : m_P S 304 (x + 425) = some md) (k_md : m_K S md = 12) (l_md : m_L S md = Lmd) (c_md : (Lmd : Int) ≤ 2097152) (e_sr : m_P S 1 call = some sr) (k_sr : m_K S sr = 12) (l_sr : m_L S sr = Lsr) (c_sr : (Lsr : Int) ≤ 2097152) (hs_call : isC x call) (b_kk : -2147483648 ≤ kk ∧ kk < 2147483648) (fp_md : inW x w md) (g_opM : opM S x call (Lsr : Int) M) (p : (0 ≤ kk ∧ kk < 4) ∧ 0 ≤ to_ ∧ 0 ≤ M ∧ M ≤ 5000 ∧ to_ < 2147000000) : b_C kn B yX4_putOperand cX4_putOperand 5 none 1 23 0 0 [.ref (x + 425), .ref call, .int (iI kk)] S z (fun r S' z' => z = z' ∧ cFr [307] [] [] w S S' x ∧ ∃ t1 : Int, r = none ∧ m_I S' 307 (x + 425) = iI t1 ∧ (-2147483648 ≤ t1 ∧ t1 < 2147483648) ∧ (to_ ≤ t1 ∧ t1 ≤ to_ + M)) (fun _ _ _ => False) := by
  refine b_enter (by decide) (Nat.le_of_ble_eq_true rfl) ?_
  intro X hX hE hnL hkn hB hI_
  subst hkn; subst hB
  clear hI_
  change b_V X S z 0 0 0 [(0, .ref (x + 425)), (1, .ref call), (2, .int (iI kk))] []
  have L23 : ∀ (n23 : Nat) (S23c : b_M) (t0 : Int) (i : Int) (sp : Int), cFr [307] [] [] w S S23c x → m_I S23c 307 (x + 425) = iI t0 → (-2147483648 ≤ t0 ∧ t0 < 2147483648) → (0 ≤ i ∧ sp ≤ (Lsr : Int) ∧ sp ≤ rAt S (call + 3) kk ∧ t0 - to_ = i - rAt S (call + 2) kk ∧ 0 ≤ rAt S (call + 2) kk ∧ (i ≤ sp ∨ i = rAt S (call + 2) kk) ∧ rAt S (call + 2) kk ≤ i ∧ i < 2147483648 ∧ -2147483648 ≤ sp ∧ (rAt S (call + 3) kk - rAt S (call + 2) kk ≤ M ∨ (Lsr : Int) ≤ M) ∧ to_ ≤ t0) → opM S23c x call (Lsr : Int) M → (sp - i).toNat = n23 → b_V X S23c z 0 0 23 [(4, .int (iI i)), (3, .int (iI sp)), (0, .ref (x + 425)), (1, .ref call), (2, .int (iI kk))] [] := by
    intro n23
    induction n23 using Nat.strongRecOn with
    | _ n23 ih23 =>
    intro S23c t0 i sp fr23 e_t0 b_t0 p23_0 g23_opM hm23
    have h23c : cS S23c x := fr23.keep (by decide) h
    have k23_md : m_K S23c md = 12 := (fr23.2.2.2.2 _ (by rw [k_md]; decide)).1.trans k_md
    have l23_md : m_L S23c md = Lmd := (fr23.2.2.2.2 _ (by rw [k_md]; decide)).2.1.trans l_md
    have k23_sr : m_K S23c sr = 12 := (fr23.2.2.2.2 _ (by rw [k_sr]; decide)).1.trans k_sr
    have l23_sr : m_L S23c sr = Lsr := (fr23.2.2.2.2 _ (by rw [k_sr]; decide)).2.1.trans l_sr
    have e23_md : m_P S23c 304 (x + 425) = some md := (fr23.2.2.1 304 (by decide) _).trans e_md
    have e23_sr : m_P S23c 1 call = some sr := (fr23.2.2.1 1 (by decide) _).trans e_sr
    refine v_iload hX dX4_putOperand_23 rfl ?_
    refine v_iload_n hX dX4_putOperand_25 (i := 3) rfl rfl ?_
    refine u_icmp_ge hX (tgt := 46) dX4_putOperand_26 (by decide) ⟨by omega, by omega⟩ ⟨by omega, by omega⟩ (fun h1_ => ?_) (fun h1_ => ?_)
    ·
      exact v_return hX hE dX4_putOperand_46 (by omega) (by omega) ⟨rfl, fr23, t0, rfl, (by simp (disch := omega) only [y_I_s_I, x_I_s_I, z_I_s_J, z_I_s_A, z_I_s_B, z_I_s_P, e_t0]), ⟨by omega, by omega⟩, (by omega)⟩
    ·
      refine v_aload_n hX dX4_putOperand_29 (i := 0) rfl rfl ?_
      refine v_aload_n hX dX4_putOperand_30 (i := 1) rfl rfl ?_
      refine v_get hX (ci := 0) (k := 1) (isC_k h23c hs_call) bc_0 (by decide) (by decide) in_0 w_2_50 dX4_putOperand_31 (mvP (f := 1) (q := sr) rfl rfl (by simp (disch := omega) only [y_P_s_P, x_P_s_P, z_P_s_I, z_P_s_J, z_P_s_A, z_P_s_B, e23_md, e23_sr])) ?_
      refine v_iload hX dX4_putOperand_34 rfl ?_
      refine u_bald hX (L := Lsr) k23_sr l23_sr ⟨by omega, by omega⟩ (by omega) dX4_putOperand_36 (fun v2_ e_v2_ b_v2_ => ?_)
      try simp (disch := omega) only [zr_I, zr_J, zr_B, rA_A, zl_I, zl_J, zl_A, lA_B, zr_P] at e_v2_
      refine v_callV hX (n := 1) (t_L_put (S := S23c) (x := x) (w := w) (c := v2_) (to_ := t0) (md := md) (Lmd := Lmd) h23c (by simp (disch := omega) only [y_I_s_I, x_I_s_I, z_I_s_J, z_I_s_A, z_I_s_B, z_I_s_P, e_t0]) ⟨by omega, by omega⟩ (by simp (disch := omega) only [y_P_s_P, x_P_s_P, z_P_s_I, z_P_s_J, z_P_s_A, z_P_s_B, e23_md, e23_sr]) k23_md l23_md (by omega) ⟨by omega, by omega⟩ fp_md (by omega)) (cs_k_425 h23c) bc_3 (by decide) w_3_133 w_3_135 (bw_p (q := (yX4_put, 11)) (List.mem_of_getElem? (i := 7) rfl) rfl) w_1_13 w_3_136 (by decide +kernel) rfl ⟨by decide, by decide⟩ ⟨by omega, by omega⟩ (Nat.le_of_ble_eq_true rfl) rfl dX4_putOperand_37 (fun _ _ _ q => q) ?_
      rintro r3_ S3_ z3_ ⟨rfl, f3_, v4_, rfl, e_v4_, b_v4_, q3_⟩
      have y5_ : m_P S3_ 304 (x + 425) = some md := (f3_.2.2.1 304 (by decide) _).trans (by simp (disch := omega) only [y_P_s_P, x_P_s_P, z_P_s_I, z_P_s_J, z_P_s_A, z_P_s_B, e23_md, e23_sr])
      have y6_ : m_P S3_ 1 call = some sr := (f3_.2.2.1 1 (by decide) _).trans (by simp (disch := omega) only [y_P_s_P, x_P_s_P, z_P_s_I, z_P_s_J, z_P_s_A, z_P_s_B, e23_md, e23_sr])
      have k7_ : m_K S3_ md = 12 := (f3_.2.2.2.2 _ (by rw [show m_K S23c md = 12 from k23_md]; decide)).1.trans k23_md
      have l8_ : m_L S3_ md = Lmd := (f3_.2.2.2.2 _ (by rw [show m_K S23c md = 12 from k23_md]; decide)).2.1.trans l23_md
      have k9_ : m_K S3_ sr = 12 := (f3_.2.2.2.2 _ (by rw [show m_K S23c sr = 12 from k23_sr]; decide)).1.trans k23_sr
      have l10_ : m_L S3_ sr = Lsr := (f3_.2.2.2.2 _ (by rw [show m_K S23c sr = 12 from k23_sr]; decide)).2.1.trans l23_sr
      have h3_ : cS S3_ x := f3_.keep (by decide) h23c
      have g3_opM : opM S3_ x call (Lsr : Int) M := opM.fr g23_opM h23c f3_ (by decide)
      refine v_iinc hX (v := iI (i + 1)) (lv' := [(4, .int (iI (i + 1))), (3, .int (iI sp)), (0, .ref (x + 425)), (1, .ref call), (2, .int (iI kk))]) dX4_putOperand_40 rfl (iI_add _ _) (by rw [hnL]; decide) rfl ?_
      refine v_goto hX (tgt := 23) dX4_putOperand_43 (by decide) ?_
      exact ih23 _ (by omega) _ v4_ (i + 1) sp (fr23.tr (f3_.mono (by decide) (by decide) (by decide))) (by simp (disch := omega) only [y_I_s_I, x_I_s_I, z_I_s_J, z_I_s_A, z_I_s_B, z_I_s_P, e_v4_]) ⟨by omega, by omega⟩ (by omega) g3_opM rfl
  have op_ := g_opM.2 kk (by omega) (by omega)
  refine v_aload_n hX dX4_putOperand_0 (i := 1) rfl rfl ?_
  refine v_get hX (ci := 0) (k := 3) (isC_k h hs_call) bc_0 (by decide) (by decide) in_0 w_2_54 dX4_putOperand_1 (mvP (f := 3) (q := (call + 3)) rfl rfl (isC_p3 h hs_call)) ?_
  refine v_iload_n hX dX4_putOperand_4 (i := 2) rfl rfl ?_
  refine u_iald hX (L := 4) (isC_kt h hs_call).1 (isC_kt h hs_call).2 ⟨by omega, by omega⟩ (by decide) dX4_putOperand_5 (fun v11_ e_v11_ b_v11_ => ?_)
  refine v_aload_n hX dX4_putOperand_6 (i := 1) rfl rfl ?_
  refine v_get hX (ci := 0) (k := 1) (isC_k h hs_call) bc_0 (by decide) (by decide) in_0 w_2_50 dX4_putOperand_7 (mvP (f := 1) (q := sr) rfl rfl (by simp (disch := omega) only [y_P_s_P, x_P_s_P, z_P_s_I, z_P_s_J, z_P_s_A, z_P_s_B, e_md, e_sr])) ?_
  refine u_alen hX (L := Lsr) (t0 := 0) (ty := .byte) k_sr ⟨by decide, by decide⟩ (fun _ => rfl) l_sr dX4_putOperand_10 ?_
  refine u_mmin hX w_3_107 w_2_122 w_1_15 w_2_123 (by decide) (Nat.le_of_ble_eq_true rfl) (by omega) (by omega) ⟨by omega, by omega⟩ ⟨by omega, by omega⟩ dX4_putOperand_11 (fun v12_ q_v12_ b_v12_ => ?_)
  refine v_istore_n hX (lv' := [(3, .int (iI v12_)), (0, .ref (x + 425)), (1, .ref call), (2, .int (iI kk))]) dX4_putOperand_14 (i := 3) rfl (by rw [hnL]; decide) rfl ?_
  refine v_aload_n hX dX4_putOperand_15 (i := 1) rfl rfl ?_
  refine v_get hX (ci := 0) (k := 2) (isC_k h hs_call) bc_0 (by decide) (by decide) in_0 w_2_52 dX4_putOperand_16 (mvP (f := 2) (q := (call + 2)) rfl rfl (isC_p2 h hs_call)) ?_
  refine v_iload_n hX dX4_putOperand_19 (i := 2) rfl rfl ?_
  refine u_iald hX (L := 4) (isC_kf h hs_call).1 (isC_kf h hs_call).2 ⟨by omega, by omega⟩ (by decide) dX4_putOperand_20 (fun v13_ e_v13_ b_v13_ => ?_)
  refine v_istore hX (lv' := [(4, .int (iI v13_)), (3, .int (iI v12_)), (0, .ref (x + 425)), (1, .ref call), (2, .int (iI kk))]) dX4_putOperand_21 (by rw [hnL]; decide) rfl ?_
  exact L23 _ _ to_ v13_ v12_ (cFr.rf _ _) (by simp (disch := omega) only [y_I_s_I, x_I_s_I, z_I_s_J, z_I_s_A, z_I_s_B, z_I_s_P, e_to_]) ⟨by omega, by omega⟩ (by omega) g_opM rfl
set_option maxRecDepth 100000 in
set_option maxHeartbeats 4000000 in
theorem t_L_lineEnd {kn : Nat → Nat} {B : Nat} {S : b_M} {z x w : Nat} {s_ : Int} {l_ : Int} {tx Ltx : Nat} (h : cS S x) (e_tx : m_P S 302 (x + 425) = some tx) (k_tx : m_K S tx = 12) (l_tx : m_L S tx = Ltx) (c_tx : (Ltx : Int) ≤ 2097152) (b_s_ : -2147483648 ≤ s_ ∧ s_ < 2147483648) (b_l_ : -2147483648 ≤ l_ ∧ l_ < 2147483648) (p : 0 ≤ s_ ∧ s_ ≤ 5000 ∧ l_ ≤ 5000) : b_C kn B yX4_lineEnd cX4_lineEnd 4 (some .int) 0 0 0 0 [.ref (x + 425), .int (iI s_), .int (iI l_)] S z (fun r S' z' => z = z' ∧ S = S' ∧ ∃ q : Int, r = some (.int (iI q)) ∧ (-2147483648 ≤ q ∧ q < 2147483648) ∧ (s_ ≤ q ∧ (q ≤ l_ ∨ q = s_) ∧ (q ≤ (Ltx : Int) ∨ q = s_))) (fun _ _ _ => False) := by
  refine b_enter (by decide) (Nat.le_of_ble_eq_true rfl) ?_
  intro X hX hE hnL hkn hB hI_
  subst hkn; subst hB
  clear hI_
  change b_V X S z 0 0 0 [(0, .ref (x + 425)), (1, .int (iI s_)), (2, .int (iI l_))] []
  have L2 : ∀ (n2 : Nat) (i : Int), (s_ ≤ i ∧ i ≤ 5000 ∧ (i ≤ l_ ∨ i = s_) ∧ (i ≤ (Ltx : Int) ∨ i = s_)) → (5000 - i).toNat = n2 → b_V X S z 0 0 2 [(3, .int (iI i)), (0, .ref (x + 425)), (1, .int (iI s_)), (2, .int (iI l_))] [] := by
    intro n2
    induction n2 using Nat.strongRecOn with
    | _ n2 ih2 =>
    intro i p2_0 hm2
    refine v_iload_n hX dX4_lineEnd_2 (i := 3) rfl rfl ?_
    refine v_iload_n hX dX4_lineEnd_3 (i := 2) rfl rfl ?_
    refine u_icmp_ge hX (tgt := 33) dX4_lineEnd_4 (by decide) ⟨by omega, by omega⟩ ⟨by omega, by omega⟩ (fun h1_ => ?_) (fun h1_ => ?_)
    ·
      refine v_iload_n hX dX4_lineEnd_33 (i := 3) rfl rfl ?_
      exact v_ireturn hX hE dX4_lineEnd_34 (by omega) (by omega) ⟨rfl, rfl, i, rfl, ⟨by omega, by omega⟩, (by omega)⟩
    ·
      refine v_iload_n hX dX4_lineEnd_7 (i := 3) rfl rfl ?_
      refine v_aload_n hX dX4_lineEnd_8 (i := 0) rfl rfl ?_
      refine v_get hX (ci := 3) (k := 2) (cs_k_425 h) bc_3 (by decide) (by decide) in_3 w_2_78 dX4_lineEnd_9 (mvP (f := 302) (q := tx) rfl rfl (by simp (disch := omega) only [y_P_s_P, x_P_s_P, z_P_s_I, z_P_s_J, z_P_s_A, z_P_s_B, e_tx])) ?_
      refine u_alen hX (L := Ltx) (t0 := 0) (ty := .byte) k_tx ⟨by decide, by decide⟩ (fun _ => rfl) l_tx dX4_lineEnd_12 ?_
      refine u_icmp_ge hX (tgt := 33) dX4_lineEnd_13 (by decide) ⟨by omega, by omega⟩ ⟨by omega, by omega⟩ (fun h2_ => ?_) (fun h2_ => ?_)
      ·
        refine v_iload_n hX dX4_lineEnd_33 (i := 3) rfl rfl ?_
        exact v_ireturn hX hE dX4_lineEnd_34 (by omega) (by omega) ⟨rfl, rfl, i, rfl, ⟨by omega, by omega⟩, (by omega)⟩
      ·
        refine v_aload_n hX dX4_lineEnd_16 (i := 0) rfl rfl ?_
        refine v_get hX (ci := 3) (k := 2) (cs_k_425 h) bc_3 (by decide) (by decide) in_3 w_2_78 dX4_lineEnd_17 (mvP (f := 302) (q := tx) rfl rfl (by simp (disch := omega) only [y_P_s_P, x_P_s_P, z_P_s_I, z_P_s_J, z_P_s_A, z_P_s_B, e_tx])) ?_
        refine v_iload_n hX dX4_lineEnd_20 (i := 3) rfl rfl ?_
        refine u_bald hX (L := Ltx) k_tx l_tx ⟨by omega, by omega⟩ (by omega) dX4_lineEnd_21 (fun v3_ e_v3_ b_v3_ => ?_)
        refine v_bipush hX (v := iI 10) dX4_lineEnd_22 (by decide) ?_
        refine u_icmp_eq hX (tgt := 33) dX4_lineEnd_24 (by decide) ⟨by omega, by omega⟩ ⟨by omega, by omega⟩ (fun h4_ => ?_) (fun h4_ => ?_)
        ·
          refine v_iload_n hX dX4_lineEnd_33 (i := 3) rfl rfl ?_
          exact v_ireturn hX hE dX4_lineEnd_34 (by omega) (by omega) ⟨rfl, rfl, i, rfl, ⟨by omega, by omega⟩, (by omega)⟩
        ·
          refine v_iinc hX (v := iI (i + 1)) (lv' := [(3, .int (iI (i + 1))), (0, .ref (x + 425)), (1, .int (iI s_)), (2, .int (iI l_))]) dX4_lineEnd_27 rfl (iI_add _ _) (by rw [hnL]; decide) rfl ?_
          refine v_goto hX (tgt := 2) dX4_lineEnd_30 (by decide) ?_
          exact ih2 _ (by omega) (i + 1) (by omega) rfl
  refine v_iload_n hX dX4_lineEnd_0 (i := 1) rfl rfl ?_
  refine v_istore_n hX (lv' := [(3, .int (iI s_)), (0, .ref (x + 425)), (1, .int (iI s_)), (2, .int (iI l_))]) dX4_lineEnd_1 (i := 3) rfl (by rw [hnL]; decide) rfl ?_
  exact L2 _ s_ (by omega) rfl
set_option maxRecDepth 100000 in
set_option maxHeartbeats 4000000 in
theorem t_L_roomFor {kn : Nat → Nat} {B : Nat} {S : b_M} {z x w : Nat} {wt : Int} {md Lmd : Nat} (h : cS S x) (e_md : m_P S 304 (x + 425) = some md) (k_md : m_K S md = 12) (l_md : m_L S md = Lmd) (c_md : (Lmd : Int) ≤ 2097152) (b_wt : -2147483648 ≤ wt ∧ wt < 2147483648) (ip_ : isP (Lmd : Int)) (p : wt ≤ 2097152) : b_C kn B yX4_roomFor cX4_roomFor 3 (some .int) 0 0 0 0 [.ref (x + 425), .int (iI wt)] S z (fun r S' z' => z = z' ∧ S = S' ∧ ∃ q : Int, r = some (.int (iI q)) ∧ (-2147483648 ≤ q ∧ q < 2147483648) ∧ ((Lmd : Int) ≤ q ∧ wt ≤ q ∧ q ≤ 2097152 ∧ ((Lmd : Int) < wt → 2 * (Lmd : Int) ≤ q)) ∧ (isP q)) (fun _ _ _ => False) := by
  refine b_enter (by decide) (Nat.le_of_ble_eq_true rfl) ?_
  intro X hX hE hnL hkn hB hI_
  subst hkn; subst hB
  clear hI_
  change b_V X S z 0 0 0 [(0, .ref (x + 425)), (1, .int (iI wt))] []
  have L6 : ∀ (n6 : Nat) (rm : Int), ((Lmd : Int) ≤ rm ∧ 256 ≤ rm ∧ rm ≤ 2097152 ∧ (rm = (Lmd : Int) ∨ 2 * (Lmd : Int) ≤ rm)) → (isP rm) → (2097152 - rm).toNat = n6 → b_V X S z 0 0 6 [(2, .int (iI rm)), (0, .ref (x + 425)), (1, .int (iI wt))] [] := by
    intro n6
    induction n6 using Nat.strongRecOn with
    | _ n6 ih6 =>
    intro rm p6_0 p6_1 hm6
    refine v_iload_n hX dX4_roomFor_6 (i := 2) rfl rfl ?_
    refine v_iload_n hX dX4_roomFor_7 (i := 1) rfl rfl ?_
    refine u_icmp_ge hX (tgt := 24) dX4_roomFor_8 (by decide) ⟨by omega, by omega⟩ ⟨by omega, by omega⟩ (fun h1_ => ?_) (fun h1_ => ?_)
    ·
      refine v_iload_n hX dX4_roomFor_24 (i := 2) rfl rfl ?_
      exact v_ireturn hX hE dX4_roomFor_25 (by omega) (by omega) ⟨rfl, rfl, rm, rfl, ⟨by omega, by omega⟩, (by omega), p6_1⟩
    ·
      refine v_iload_n hX dX4_roomFor_11 (i := 2) rfl rfl ?_
      refine v_ldc hX (v := iI 2097152) dX4_roomFor_12 (show Cond.constant _ _ (iI 2097152) ∈ b_Ws from w_3_145) ?_
      refine u_icmp_ge hX (tgt := 24) dX4_roomFor_14 (by decide) ⟨by omega, by omega⟩ ⟨by omega, by omega⟩ (fun h2_ => ?_) (fun h2_ => ?_)
      ·
        refine v_iload_n hX dX4_roomFor_24 (i := 2) rfl rfl ?_
        exact v_ireturn hX hE dX4_roomFor_25 (by omega) (by omega) ⟨rfl, rfl, rm, rfl, ⟨by omega, by omega⟩, (by omega), p6_1⟩
      ·
        refine v_iload_n hX dX4_roomFor_17 (i := 2) rfl rfl ?_
        refine v_iconst hX (v := iI 2) dX4_roomFor_18 rfl ?_
        refine u_imul hX dX4_roomFor_19 ?_
        have ipb_ := isP_b (isP_2 p6_1 (by omega))
        refine v_istore_n hX (lv' := [(2, .int (iI (rm * 2))), (0, .ref (x + 425)), (1, .int (iI wt))]) dX4_roomFor_20 (i := 2) rfl (by rw [hnL]; decide) rfl ?_
        refine v_goto hX (tgt := 6) dX4_roomFor_21 (by decide) ?_
        exact ih6 _ (by omega) (rm * 2) (by omega) (isP_2 p6_1 (by omega)) rfl
  have ipb_ := isP_b ip_
  refine v_aload_n hX dX4_roomFor_0 (i := 0) rfl rfl ?_
  refine v_get hX (ci := 3) (k := 4) (cs_k_425 h) bc_3 (by decide) (by decide) in_3 w_2_80 dX4_roomFor_1 (mvP (f := 304) (q := md) rfl rfl (by simp (disch := omega) only [y_P_s_P, x_P_s_P, z_P_s_I, z_P_s_J, z_P_s_A, z_P_s_B, e_md])) ?_
  refine u_alen hX (L := Lmd) (t0 := 0) (ty := .byte) k_md ⟨by decide, by decide⟩ (fun _ => rfl) l_md dX4_roomFor_4 ?_
  refine v_istore_n hX (lv' := [(2, .int (iI (Lmd : Int))), (0, .ref (x + 425)), (1, .int (iI wt))]) dX4_roomFor_5 (i := 2) rfl (by rw [hnL]; decide) rfl ?_
  exact L6 _ (Lmd : Int) (by omega) ip_ rfl
set_option maxRecDepth 100000 in
set_option maxHeartbeats 4000000 in
theorem t_L_putLine {kn : Nat → Nat} {B : Nat} {S : b_M} {z x w : Nat} {sp : Int} {call : Nat} {nx : Int} {md Lmd : Nat} {tx Ltx : Nat} {sr Lsr : Nat} {M : Int} (h : cS S x) (e_nx : m_I S 5 call = iI nx) (b_nx : -2147483648 ≤ nx ∧ nx < 2147483648) (e_md : m_P S 304 (x + 425) = some md) (k_md : m_K S md = 12) (l_md : m_L S md = Lmd) (c_md : (Lmd : Int) ≤ 2097152) (e_tx : m_P S 302 (x + 425) = some tx) (k_tx : m_K S tx = 12) (l_tx : m_L S tx = Ltx) (c_tx : (Ltx : Int) ≤ 2097152) (e_sr : m_P S 1 call = some sr) (k_sr : m_K S sr = 12) (l_sr : m_L S sr = Lsr) (c_sr : (Lsr : Int) ≤ 2097152) (hs_call : isC x call) (b_sp : -2147483648 ≤ sp ∧ sp < 2147483648) (fp_md : inW x w md) (g_opM : opM S x call (Lsr : Int) M) (p : 0 ≤ nx ∧ nx ≤ sp ∧ (sp ≤ (Ltx : Int) ∨ sp = nx) ∧ sp ≤ 5000 ∧ 3 ≤ M ∧ M ≤ 5000) : b_C kn B yX4_putLine cX4_putLine 7 none 2 47 0 0 [.ref (x + 425), .ref call, .int (iI sp)] S z (fun r S' z' => z = z' ∧ cFr [306, 307] [] [] w S S' x ∧ ∃ f1 t1 : Int, r = none ∧ m_I S' 306 (x + 425) = iI f1 ∧ (-2147483648 ≤ f1 ∧ f1 < 2147483648) ∧ m_I S' 307 (x + 425) = iI t1 ∧ (-2147483648 ≤ t1 ∧ t1 < 2147483648) ∧ (f1 = 0 ∧ 0 ≤ t1 ∧ t1 ≤ 25000000) ∧ (2 * t1 ≤ M * (sp - nx))) (fun _ _ _ => False) := by
  refine b_enter (by decide) (Nat.le_of_ble_eq_true rfl) ?_
  intro X hX hE hnL hkn hB hI_
  subst hkn; subst hB
  clear hI_
  change b_V X S z 0 0 0 [(0, .ref (x + 425)), (1, .ref call), (2, .int (iI sp))] []
  have L15 : ∀ (n15 : Nat) (S15c : b_M) (t15 : Int) (f15 : Int) (i : Int), cFr [306, 307] [] [] w S S15c x → m_I S15c 307 (x + 425) = iI t15 → m_I S15c 306 (x + 425) = iI f15 → (-2147483648 ≤ t15 ∧ t15 < 2147483648) → (-2147483648 ≤ f15 ∧ f15 < 2147483648) → (nx ≤ i ∧ i ≤ sp ∧ f15 = 0 ∧ 0 ≤ t15 ∧ t15 ≤ 5000 * (i - nx)) → (2 * t15 ≤ M * (i - nx)) → opM S15c x call (Lsr : Int) M → (sp - i).toNat = n15 → b_V X S15c z 0 0 15 [(3, .int (iI i)), (0, .ref (x + 425)), (1, .ref call), (2, .int (iI sp))] [] := by
    intro n15
    induction n15 using Nat.strongRecOn with
    | _ n15 ih15 =>
    intro S15c t15 f15 i fr15 e_t15 e_f15 b_t15 b_f15 p15_0 p15_1 g15_opM hm15
    have h15c : cS S15c x := fr15.keep (by decide) h
    have e15_nx : m_I S15c 5 call = iI nx := (fr15.2.1 5 (by decide) _).trans e_nx
    have k15_md : m_K S15c md = 12 := (fr15.2.2.2.2 _ (by rw [k_md]; decide)).1.trans k_md
    have l15_md : m_L S15c md = Lmd := (fr15.2.2.2.2 _ (by rw [k_md]; decide)).2.1.trans l_md
    have k15_tx : m_K S15c tx = 12 := (fr15.2.2.2.2 _ (by rw [k_tx]; decide)).1.trans k_tx
    have l15_tx : m_L S15c tx = Ltx := (fr15.2.2.2.2 _ (by rw [k_tx]; decide)).2.1.trans l_tx
    have k15_sr : m_K S15c sr = 12 := (fr15.2.2.2.2 _ (by rw [k_sr]; decide)).1.trans k_sr
    have l15_sr : m_L S15c sr = Lsr := (fr15.2.2.2.2 _ (by rw [k_sr]; decide)).2.1.trans l_sr
    have e15_md : m_P S15c 304 (x + 425) = some md := (fr15.2.2.1 304 (by decide) _).trans e_md
    have e15_tx : m_P S15c 302 (x + 425) = some tx := (fr15.2.2.1 302 (by decide) _).trans e_tx
    have e15_sr : m_P S15c 1 call = some sr := (fr15.2.2.1 1 (by decide) _).trans e_sr
    have L142 : ∀ (S142c : b_M) (t142 : Int) (f142 : Int) (op : Int) (nm : Int), cFr [306, 307] [] [] w S S142c x → m_I S142c 307 (x + 425) = iI t142 → m_I S142c 306 (x + 425) = iI f142 → (-2147483648 ≤ t142 ∧ t142 < 2147483648) → (-2147483648 ≤ f142 ∧ f142 < 2147483648) → (f142 = 0 ∧ t15 ≤ t142 ∧ i < sp ∧ (op = 0 ∨ op = 1) ∧ (nm = 0 ∨ nm = 1) ∧ (((op = 1 ∨ nm = 1) ∧ i + 1 < sp ∧ t142 ≤ t15 + M) ∨ (op = 0 ∧ nm = 0 ∧ t142 ≤ t15 + 1))) → opM S142c x call (Lsr : Int) M → b_V X S142c z 0 0 142 [(6, .int (iI nm)), (5, .int (iI op)), (3, .int (iI i)), (0, .ref (x + 425)), (1, .ref call), (2, .int (iI sp))] [] := by
      intro S142c t142 f142 op nm fr142 e_t142 e_f142 b_t142 b_f142 p142_0 g142_opM
      have h142c : cS S142c x := fr142.keep (by decide) h
      have e142_nx : m_I S142c 5 call = iI nx := (fr142.2.1 5 (by decide) _).trans e_nx
      have k142_md : m_K S142c md = 12 := (fr142.2.2.2.2 _ (by rw [k_md]; decide)).1.trans k_md
      have l142_md : m_L S142c md = Lmd := (fr142.2.2.2.2 _ (by rw [k_md]; decide)).2.1.trans l_md
      have k142_tx : m_K S142c tx = 12 := (fr142.2.2.2.2 _ (by rw [k_tx]; decide)).1.trans k_tx
      have l142_tx : m_L S142c tx = Ltx := (fr142.2.2.2.2 _ (by rw [k_tx]; decide)).2.1.trans l_tx
      have k142_sr : m_K S142c sr = 12 := (fr142.2.2.2.2 _ (by rw [k_sr]; decide)).1.trans k_sr
      have l142_sr : m_L S142c sr = Lsr := (fr142.2.2.2.2 _ (by rw [k_sr]; decide)).2.1.trans l_sr
      have e142_md : m_P S142c 304 (x + 425) = some md := (fr142.2.2.1 304 (by decide) _).trans e_md
      have e142_tx : m_P S142c 302 (x + 425) = some tx := (fr142.2.2.1 302 (by decide) _).trans e_tx
      have e142_sr : m_P S142c 1 call = some sr := (fr142.2.2.1 1 (by decide) _).trans e_sr
      refine v_iload_n hX dX4_putLine_142 (i := 3) rfl rfl ?_
      refine v_iload hX dX4_putLine_143 rfl ?_
      refine u_if_ne hX (tgt := 153) dX4_putLine_145 (by decide) ⟨by omega, by omega⟩ (fun h1_ => ?_) (fun h1_ => ?_)
      ·
        refine v_iconst hX (v := iI 2) dX4_putLine_153 rfl ?_
        refine v_goto hX (tgt := 158) dX4_putLine_154 (by decide) ?_
        refine u_iadd hX dX4_putLine_158 ?_
        refine v_istore_n hX (lv' := [(3, .int (iI (i + 2))), (6, .int (iI nm)), (5, .int (iI op)), (0, .ref (x + 425)), (1, .ref call), (2, .int (iI sp))]) dX4_putLine_159 (i := 3) rfl (by rw [hnL]; decide) rfl ?_
        refine v_goto hX (tgt := 15) dX4_putLine_160 (by decide) ?_
        refine v_locals (lv' := [(3, .int (iI (i + 2))), (0, .ref (x + 425)), (1, .ref call), (2, .int (iI sp))]) (by simp) ?_
        exact ih15 _ (by omega) _ t142 f142 (i + 2) fr142 (by simp (disch := omega) only [y_I_s_I, x_I_s_I, z_I_s_J, z_I_s_A, z_I_s_B, z_I_s_P, e142_nx, e_t142, e_f142]) (by simp (disch := omega) only [y_I_s_I, x_I_s_I, z_I_s_J, z_I_s_A, z_I_s_B, z_I_s_P, e142_nx, e_t142, e_f142]) ⟨by omega, by omega⟩ ⟨by omega, by omega⟩ (by omega) (by have e9 : M * (i + 2 - nx) = M * (i - nx) + M * 2 := (by rw [show i + 2 - nx = (i - nx) + 2 by omega, Int.mul_add]); omega) g142_opM rfl
      ·
        refine v_iload hX dX4_putLine_148 rfl ?_
        refine u_if_eq hX (tgt := 157) dX4_putLine_150 (by decide) ⟨by omega, by omega⟩ (fun h2_ => ?_) (fun h2_ => ?_)
        ·
          refine v_iconst hX (v := iI 1) dX4_putLine_157 rfl ?_
          refine u_iadd hX dX4_putLine_158 ?_
          refine v_istore_n hX (lv' := [(3, .int (iI (i + 1))), (6, .int (iI nm)), (5, .int (iI op)), (0, .ref (x + 425)), (1, .ref call), (2, .int (iI sp))]) dX4_putLine_159 (i := 3) rfl (by rw [hnL]; decide) rfl ?_
          refine v_goto hX (tgt := 15) dX4_putLine_160 (by decide) ?_
          refine v_locals (lv' := [(3, .int (iI (i + 1))), (0, .ref (x + 425)), (1, .ref call), (2, .int (iI sp))]) (by simp) ?_
          exact ih15 _ (by omega) _ t142 f142 (i + 1) fr142 (by simp (disch := omega) only [y_I_s_I, x_I_s_I, z_I_s_J, z_I_s_A, z_I_s_B, z_I_s_P, e142_nx, e_t142, e_f142]) (by simp (disch := omega) only [y_I_s_I, x_I_s_I, z_I_s_J, z_I_s_A, z_I_s_B, z_I_s_P, e142_nx, e_t142, e_f142]) ⟨by omega, by omega⟩ ⟨by omega, by omega⟩ (by omega) (by have e9 : M * (i + 1 - nx) = M * (i - nx) + M * 1 := (by rw [show i + 1 - nx = (i - nx) + 1 by omega, Int.mul_add]); omega) g142_opM rfl
        ·
          refine v_iconst hX (v := iI 2) dX4_putLine_153 rfl ?_
          refine v_goto hX (tgt := 158) dX4_putLine_154 (by decide) ?_
          refine u_iadd hX dX4_putLine_158 ?_
          refine v_istore_n hX (lv' := [(3, .int (iI (i + 2))), (6, .int (iI nm)), (5, .int (iI op)), (0, .ref (x + 425)), (1, .ref call), (2, .int (iI sp))]) dX4_putLine_159 (i := 3) rfl (by rw [hnL]; decide) rfl ?_
          refine v_goto hX (tgt := 15) dX4_putLine_160 (by decide) ?_
          refine v_locals (lv' := [(3, .int (iI (i + 2))), (0, .ref (x + 425)), (1, .ref call), (2, .int (iI sp))]) (by simp) ?_
          exact ih15 _ (by omega) _ t142 f142 (i + 2) fr142 (by simp (disch := omega) only [y_I_s_I, x_I_s_I, z_I_s_J, z_I_s_A, z_I_s_B, z_I_s_P, e142_nx, e_t142, e_f142]) (by simp (disch := omega) only [y_I_s_I, x_I_s_I, z_I_s_J, z_I_s_A, z_I_s_B, z_I_s_P, e142_nx, e_t142, e_f142]) ⟨by omega, by omega⟩ ⟨by omega, by omega⟩ (by omega) (by have e9 : M * (i + 2 - nx) = M * (i - nx) + M * 2 := (by rw [show i + 2 - nx = (i - nx) + 2 by omega, Int.mul_add]); omega) g142_opM rfl
    have L96 : ∀ (S96c : b_M) (t96 : Int) (f96 : Int) (bh : Int) (op : Int) (nm : Int), cFr [306, 307] [] [] w S S96c x → m_I S96c 307 (x + 425) = iI t96 → m_I S96c 306 (x + 425) = iI f96 → (-2147483648 ≤ t96 ∧ t96 < 2147483648) → (-2147483648 ≤ f96 ∧ f96 < 2147483648) → (t96 = t15 ∧ f96 = 0 ∧ i < sp ∧ (bh = -1 ∨ i + 1 < sp) ∧ (op = 0 ∨ (op = 1 ∧ 48 ≤ bh ∧ bh ≤ 51)) ∧ (nm = 0 ∨ (nm = 1 ∧ bh = 110)) ∧ (-2147483648 ≤ bh ∧ bh < 2147483648)) → opM S96c x call (Lsr : Int) M → b_V X S96c z 0 0 96 [(5, .int (iI op)), (4, .int (iI bh)), (3, .int (iI i)), (0, .ref (x + 425)), (1, .ref call), (2, .int (iI sp))] [.int (iI nm)] := by
      intro S96c t96 f96 bh op nm fr96 e_t96 e_f96 b_t96 b_f96 p96_0 g96_opM
      have h96c : cS S96c x := fr96.keep (by decide) h
      have e96_nx : m_I S96c 5 call = iI nx := (fr96.2.1 5 (by decide) _).trans e_nx
      have k96_md : m_K S96c md = 12 := (fr96.2.2.2.2 _ (by rw [k_md]; decide)).1.trans k_md
      have l96_md : m_L S96c md = Lmd := (fr96.2.2.2.2 _ (by rw [k_md]; decide)).2.1.trans l_md
      have k96_tx : m_K S96c tx = 12 := (fr96.2.2.2.2 _ (by rw [k_tx]; decide)).1.trans k_tx
      have l96_tx : m_L S96c tx = Ltx := (fr96.2.2.2.2 _ (by rw [k_tx]; decide)).2.1.trans l_tx
      have k96_sr : m_K S96c sr = 12 := (fr96.2.2.2.2 _ (by rw [k_sr]; decide)).1.trans k_sr
      have l96_sr : m_L S96c sr = Lsr := (fr96.2.2.2.2 _ (by rw [k_sr]; decide)).2.1.trans l_sr
      have e96_md : m_P S96c 304 (x + 425) = some md := (fr96.2.2.1 304 (by decide) _).trans e_md
      have e96_tx : m_P S96c 302 (x + 425) = some tx := (fr96.2.2.1 302 (by decide) _).trans e_tx
      have e96_sr : m_P S96c 1 call = some sr := (fr96.2.2.1 1 (by decide) _).trans e_sr
      refine v_istore hX (lv' := [(6, .int (iI nm)), (5, .int (iI op)), (4, .int (iI bh)), (3, .int (iI i)), (0, .ref (x + 425)), (1, .ref call), (2, .int (iI sp))]) dX4_putLine_96 (by rw [hnL]; decide) rfl ?_
      refine v_iload hX dX4_putLine_98 rfl ?_
      refine u_if_eq hX (tgt := 116) dX4_putLine_100 (by decide) ⟨by omega, by omega⟩ (fun h3_ => ?_) (fun h3_ => ?_)
      ·
        refine v_iload hX dX4_putLine_116 rfl ?_
        refine u_if_eq hX (tgt := 132) dX4_putLine_118 (by decide) ⟨by omega, by omega⟩ (fun h4_ => ?_) (fun h4_ => ?_)
        ·
          refine v_aload_n hX dX4_putLine_132 (i := 0) rfl rfl ?_
          refine v_aload_n hX dX4_putLine_133 (i := 0) rfl rfl ?_
          refine v_get hX (ci := 3) (k := 2) (cs_k_425 h96c) bc_3 (by decide) (by decide) in_3 w_2_78 dX4_putLine_134 (mvP (f := 302) (q := tx) rfl rfl (by simp (disch := omega) only [y_P_s_P, x_P_s_P, z_P_s_I, z_P_s_J, z_P_s_A, z_P_s_B, e96_md, e96_tx, e96_sr])) ?_
          refine v_iload_n hX dX4_putLine_137 (i := 3) rfl rfl ?_
          refine u_bald hX (L := Ltx) k96_tx l96_tx ⟨by omega, by omega⟩ (by omega) dX4_putLine_138 (fun v5_ e_v5_ b_v5_ => ?_)
          try simp (disch := omega) only [zr_I, zr_J, zr_B, rA_A, zl_I, zl_J, zl_A, lA_B, zr_P] at e_v5_
          refine v_callV hX (n := 1) (t_L_put (S := S96c) (x := x) (w := w) (c := v5_) (to_ := t96) (md := md) (Lmd := Lmd) h96c (by simp (disch := omega) only [y_I_s_I, x_I_s_I, z_I_s_J, z_I_s_A, z_I_s_B, z_I_s_P, e96_nx, e_t96, e_f96]) ⟨by omega, by omega⟩ (by simp (disch := omega) only [y_P_s_P, x_P_s_P, z_P_s_I, z_P_s_J, z_P_s_A, z_P_s_B, e96_md, e96_tx, e96_sr]) k96_md l96_md (by omega) ⟨by omega, by omega⟩ fp_md (by omega)) (cs_k_425 h96c) bc_3 (by decide) w_3_133 w_3_135 (bw_p (q := (yX4_put, 11)) (List.mem_of_getElem? (i := 7) rfl) rfl) w_1_13 w_3_136 (by decide +kernel) rfl ⟨by decide, by decide⟩ ⟨by omega, by omega⟩ (Nat.le_of_ble_eq_true rfl) rfl dX4_putLine_139 (fun _ _ _ q => q) ?_
          rintro r6_ S6_ z6_ ⟨rfl, f6_, v7_, rfl, e_v7_, b_v7_, q6_⟩
          have y8_ : m_I S6_ 5 call = iI nx := (f6_.2.1 5 (by decide) _).trans (by simp (disch := omega) only [y_I_s_I, x_I_s_I, z_I_s_J, z_I_s_A, z_I_s_B, z_I_s_P, e96_nx, e_t96, e_f96])
          have y9_ : m_I S6_ 306 (x + 425) = iI f96 := (f6_.2.1 306 (by decide) _).trans (by simp (disch := omega) only [y_I_s_I, x_I_s_I, z_I_s_J, z_I_s_A, z_I_s_B, z_I_s_P, e96_nx, e_t96, e_f96])
          have y10_ : m_P S6_ 304 (x + 425) = some md := (f6_.2.2.1 304 (by decide) _).trans (by simp (disch := omega) only [y_P_s_P, x_P_s_P, z_P_s_I, z_P_s_J, z_P_s_A, z_P_s_B, e96_md, e96_tx, e96_sr])
          have y11_ : m_P S6_ 302 (x + 425) = some tx := (f6_.2.2.1 302 (by decide) _).trans (by simp (disch := omega) only [y_P_s_P, x_P_s_P, z_P_s_I, z_P_s_J, z_P_s_A, z_P_s_B, e96_md, e96_tx, e96_sr])
          have y12_ : m_P S6_ 1 call = some sr := (f6_.2.2.1 1 (by decide) _).trans (by simp (disch := omega) only [y_P_s_P, x_P_s_P, z_P_s_I, z_P_s_J, z_P_s_A, z_P_s_B, e96_md, e96_tx, e96_sr])
          have k13_ : m_K S6_ md = 12 := (f6_.2.2.2.2 _ (by rw [show m_K S96c md = 12 from k96_md]; decide)).1.trans k96_md
          have l14_ : m_L S6_ md = Lmd := (f6_.2.2.2.2 _ (by rw [show m_K S96c md = 12 from k96_md]; decide)).2.1.trans l96_md
          have k15_ : m_K S6_ tx = 12 := (f6_.2.2.2.2 _ (by rw [show m_K S96c tx = 12 from k96_tx]; decide)).1.trans k96_tx
          have l16_ : m_L S6_ tx = Ltx := (f6_.2.2.2.2 _ (by rw [show m_K S96c tx = 12 from k96_tx]; decide)).2.1.trans l96_tx
          have k17_ : m_K S6_ sr = 12 := (f6_.2.2.2.2 _ (by rw [show m_K S96c sr = 12 from k96_sr]; decide)).1.trans k96_sr
          have l18_ : m_L S6_ sr = Lsr := (f6_.2.2.2.2 _ (by rw [show m_K S96c sr = 12 from k96_sr]; decide)).2.1.trans l96_sr
          have h6_ : cS S6_ x := f6_.keep (by decide) h96c
          have g6_opM : opM S6_ x call (Lsr : Int) M := opM.fr g96_opM h96c f6_ (by decide)
          refine v_locals (lv' := [(6, .int (iI nm)), (5, .int (iI op)), (3, .int (iI i)), (0, .ref (x + 425)), (1, .ref call), (2, .int (iI sp))]) (by simp) ?_
          exact L142 _ v7_ f96 op nm (fr96.tr (f6_.mono (by decide) (by decide) (by decide))) (by simp (disch := omega) only [y_I_s_I, x_I_s_I, z_I_s_J, z_I_s_A, z_I_s_B, z_I_s_P, y8_, y9_, e_v7_]) (by simp (disch := omega) only [y_I_s_I, x_I_s_I, z_I_s_J, z_I_s_A, z_I_s_B, z_I_s_P, y8_, y9_, e_v7_]) ⟨by omega, by omega⟩ ⟨by omega, by omega⟩ (by omega) g6_opM
        ·
          refine v_aload_n hX dX4_putLine_121 (i := 0) rfl rfl ?_
          refine v_aload_n hX dX4_putLine_122 (i := 1) rfl rfl ?_
          obtain ⟨v19_, e_v19_, b_v19_⟩ := i_ex (m_I S96c 4 call)
          refine v_get hX (ci := 0) (k := 4) (isC_k h96c hs_call) bc_0 (by decide) (by decide) in_0 w_2_56 dX4_putLine_123 (mvF (f := 4) (v := iI v19_) rfl rfl (by simp (disch := omega) only [y_I_s_I, x_I_s_I, z_I_s_J, z_I_s_A, z_I_s_B, z_I_s_P, e96_nx, e_t96, e_f96, e_v19_])) ?_
          refine v_callV hX (n := 1) (t_L_putNumber (S := S96c) (x := x) (w := w) (dg := v19_) (to_ := t96) (md := md) (Lmd := Lmd) h96c (by simp (disch := omega) only [y_I_s_I, x_I_s_I, z_I_s_J, z_I_s_A, z_I_s_B, z_I_s_P, e96_nx, e_t96, e_f96, e_v19_]) ⟨by omega, by omega⟩ (by simp (disch := omega) only [y_P_s_P, x_P_s_P, z_P_s_I, z_P_s_J, z_P_s_A, z_P_s_B, e96_md, e96_tx, e96_sr]) k96_md l96_md (by omega) ⟨by omega, by omega⟩ fp_md (by omega)) (cs_k_425 h96c) bc_3 (by decide) w_3_137 w_3_139 (bw_p (q := (yX4_putNumber, 11)) (List.mem_of_getElem? (i := 8) rfl) rfl) w_1_13 w_3_140 (by decide +kernel) rfl ⟨by decide, by decide⟩ ⟨by omega, by omega⟩ (Nat.le_of_ble_eq_true rfl) rfl dX4_putLine_126 (fun _ _ _ q => q) ?_
          rintro r20_ S20_ z20_ ⟨rfl, f20_, v21_, rfl, e_v21_, b_v21_, q20_⟩
          have y22_ : m_I S20_ 5 call = iI nx := (f20_.2.1 5 (by decide) _).trans (by simp (disch := omega) only [y_I_s_I, x_I_s_I, z_I_s_J, z_I_s_A, z_I_s_B, z_I_s_P, e96_nx, e_t96, e_f96, e_v19_])
          have y23_ : m_I S20_ 306 (x + 425) = iI f96 := (f20_.2.1 306 (by decide) _).trans (by simp (disch := omega) only [y_I_s_I, x_I_s_I, z_I_s_J, z_I_s_A, z_I_s_B, z_I_s_P, e96_nx, e_t96, e_f96, e_v19_])
          have y24_ : m_I S20_ 4 call = iI v19_ := (f20_.2.1 4 (by decide) _).trans (by simp (disch := omega) only [y_I_s_I, x_I_s_I, z_I_s_J, z_I_s_A, z_I_s_B, z_I_s_P, e96_nx, e_t96, e_f96, e_v19_])
          have y25_ : m_P S20_ 304 (x + 425) = some md := (f20_.2.2.1 304 (by decide) _).trans (by simp (disch := omega) only [y_P_s_P, x_P_s_P, z_P_s_I, z_P_s_J, z_P_s_A, z_P_s_B, e96_md, e96_tx, e96_sr])
          have y26_ : m_P S20_ 302 (x + 425) = some tx := (f20_.2.2.1 302 (by decide) _).trans (by simp (disch := omega) only [y_P_s_P, x_P_s_P, z_P_s_I, z_P_s_J, z_P_s_A, z_P_s_B, e96_md, e96_tx, e96_sr])
          have y27_ : m_P S20_ 1 call = some sr := (f20_.2.2.1 1 (by decide) _).trans (by simp (disch := omega) only [y_P_s_P, x_P_s_P, z_P_s_I, z_P_s_J, z_P_s_A, z_P_s_B, e96_md, e96_tx, e96_sr])
          have k28_ : m_K S20_ md = 12 := (f20_.2.2.2.2 _ (by rw [show m_K S96c md = 12 from k96_md]; decide)).1.trans k96_md
          have l29_ : m_L S20_ md = Lmd := (f20_.2.2.2.2 _ (by rw [show m_K S96c md = 12 from k96_md]; decide)).2.1.trans l96_md
          have k30_ : m_K S20_ tx = 12 := (f20_.2.2.2.2 _ (by rw [show m_K S96c tx = 12 from k96_tx]; decide)).1.trans k96_tx
          have l31_ : m_L S20_ tx = Ltx := (f20_.2.2.2.2 _ (by rw [show m_K S96c tx = 12 from k96_tx]; decide)).2.1.trans l96_tx
          have k32_ : m_K S20_ sr = 12 := (f20_.2.2.2.2 _ (by rw [show m_K S96c sr = 12 from k96_sr]; decide)).1.trans k96_sr
          have l33_ : m_L S20_ sr = Lsr := (f20_.2.2.2.2 _ (by rw [show m_K S96c sr = 12 from k96_sr]; decide)).2.1.trans l96_sr
          have h20_ : cS S20_ x := f20_.keep (by decide) h96c
          have g20_opM : opM S20_ x call (Lsr : Int) M := opM.fr g96_opM h96c f20_ (by decide)
          refine v_goto hX (tgt := 142) dX4_putLine_129 (by decide) ?_
          refine v_locals (lv' := [(6, .int (iI nm)), (5, .int (iI op)), (3, .int (iI i)), (0, .ref (x + 425)), (1, .ref call), (2, .int (iI sp))]) (by simp) ?_
          exact L142 _ v21_ f96 op nm (fr96.tr (f20_.mono (by decide) (by decide) (by decide))) (by simp (disch := omega) only [y_I_s_I, x_I_s_I, z_I_s_J, z_I_s_A, z_I_s_B, z_I_s_P, y22_, y23_, y24_, e_v21_]) (by simp (disch := omega) only [y_I_s_I, x_I_s_I, z_I_s_J, z_I_s_A, z_I_s_B, z_I_s_P, y22_, y23_, y24_, e_v21_]) ⟨by omega, by omega⟩ ⟨by omega, by omega⟩ (by omega) g20_opM
      ·
        refine v_aload_n hX dX4_putLine_103 (i := 0) rfl rfl ?_
        refine v_aload_n hX dX4_putLine_104 (i := 1) rfl rfl ?_
        refine v_iload hX dX4_putLine_105 rfl ?_
        refine v_bipush hX (v := iI 48) dX4_putLine_107 (by decide) ?_
        refine u_isub hX dX4_putLine_109 ?_
        refine v_callV hX (n := 2) (t_L_putOperand (S := S96c) (x := x) (w := w) (call := call) (kk := (bh - 48)) (to_ := t96) (md := md) (Lmd := Lmd) (sr := sr) (Lsr := Lsr) h96c (by simp (disch := omega) only [y_I_s_I, x_I_s_I, z_I_s_J, z_I_s_A, z_I_s_B, z_I_s_P, e96_nx, e_t96, e_f96]) ⟨by omega, by omega⟩ (by simp (disch := omega) only [y_P_s_P, x_P_s_P, z_P_s_I, z_P_s_J, z_P_s_A, z_P_s_B, e96_md, e96_tx, e96_sr]) k96_md l96_md (by omega) (by simp (disch := omega) only [y_P_s_P, x_P_s_P, z_P_s_I, z_P_s_J, z_P_s_A, z_P_s_B, e96_md, e96_tx, e96_sr]) k96_sr l96_sr (by omega) hs_call ⟨by omega, by omega⟩ fp_md g96_opM (by omega)) (cs_k_425 h96c) bc_3 (by decide) w_3_129 w_3_131 (bw_p (q := (yX4_putOperand, 11)) (List.mem_of_getElem? (i := 6) rfl) rfl) w_1_13 w_3_132 (by decide +kernel) rfl ⟨by decide, by decide⟩ ⟨by omega, by omega⟩ (Nat.le_of_ble_eq_true rfl) rfl dX4_putLine_110 (fun _ _ _ q => q) ?_
        rintro r34_ S34_ z34_ ⟨rfl, f34_, v35_, rfl, e_v35_, b_v35_, q34_⟩
        have y36_ : m_I S34_ 5 call = iI nx := (f34_.2.1 5 (by decide) _).trans (by simp (disch := omega) only [y_I_s_I, x_I_s_I, z_I_s_J, z_I_s_A, z_I_s_B, z_I_s_P, e96_nx, e_t96, e_f96])
        have y37_ : m_I S34_ 306 (x + 425) = iI f96 := (f34_.2.1 306 (by decide) _).trans (by simp (disch := omega) only [y_I_s_I, x_I_s_I, z_I_s_J, z_I_s_A, z_I_s_B, z_I_s_P, e96_nx, e_t96, e_f96])
        have y38_ : m_P S34_ 304 (x + 425) = some md := (f34_.2.2.1 304 (by decide) _).trans (by simp (disch := omega) only [y_P_s_P, x_P_s_P, z_P_s_I, z_P_s_J, z_P_s_A, z_P_s_B, e96_md, e96_tx, e96_sr])
        have y39_ : m_P S34_ 302 (x + 425) = some tx := (f34_.2.2.1 302 (by decide) _).trans (by simp (disch := omega) only [y_P_s_P, x_P_s_P, z_P_s_I, z_P_s_J, z_P_s_A, z_P_s_B, e96_md, e96_tx, e96_sr])
        have y40_ : m_P S34_ 1 call = some sr := (f34_.2.2.1 1 (by decide) _).trans (by simp (disch := omega) only [y_P_s_P, x_P_s_P, z_P_s_I, z_P_s_J, z_P_s_A, z_P_s_B, e96_md, e96_tx, e96_sr])
        have k41_ : m_K S34_ md = 12 := (f34_.2.2.2.2 _ (by rw [show m_K S96c md = 12 from k96_md]; decide)).1.trans k96_md
        have l42_ : m_L S34_ md = Lmd := (f34_.2.2.2.2 _ (by rw [show m_K S96c md = 12 from k96_md]; decide)).2.1.trans l96_md
        have k43_ : m_K S34_ tx = 12 := (f34_.2.2.2.2 _ (by rw [show m_K S96c tx = 12 from k96_tx]; decide)).1.trans k96_tx
        have l44_ : m_L S34_ tx = Ltx := (f34_.2.2.2.2 _ (by rw [show m_K S96c tx = 12 from k96_tx]; decide)).2.1.trans l96_tx
        have k45_ : m_K S34_ sr = 12 := (f34_.2.2.2.2 _ (by rw [show m_K S96c sr = 12 from k96_sr]; decide)).1.trans k96_sr
        have l46_ : m_L S34_ sr = Lsr := (f34_.2.2.2.2 _ (by rw [show m_K S96c sr = 12 from k96_sr]; decide)).2.1.trans l96_sr
        have h34_ : cS S34_ x := f34_.keep (by decide) h96c
        have g34_opM : opM S34_ x call (Lsr : Int) M := opM.fr g96_opM h96c f34_ (by decide)
        refine v_goto hX (tgt := 142) dX4_putLine_113 (by decide) ?_
        refine v_locals (lv' := [(6, .int (iI nm)), (5, .int (iI op)), (3, .int (iI i)), (0, .ref (x + 425)), (1, .ref call), (2, .int (iI sp))]) (by simp) ?_
        exact L142 _ v35_ f96 op nm (fr96.tr (f34_.mono (by decide) (by decide) (by decide))) (by simp (disch := omega) only [y_I_s_I, x_I_s_I, z_I_s_J, z_I_s_A, z_I_s_B, z_I_s_P, y36_, y37_, e_v35_]) (by simp (disch := omega) only [y_I_s_I, x_I_s_I, z_I_s_J, z_I_s_A, z_I_s_B, z_I_s_P, y36_, y37_, e_v35_]) ⟨by omega, by omega⟩ ⟨by omega, by omega⟩ (by omega) g34_opM
    have L71 : ∀ (S71c : b_M) (t71 : Int) (f71 : Int) (bh : Int) (op : Int), cFr [306, 307] [] [] w S S71c x → m_I S71c 307 (x + 425) = iI t71 → m_I S71c 306 (x + 425) = iI f71 → (-2147483648 ≤ t71 ∧ t71 < 2147483648) → (-2147483648 ≤ f71 ∧ f71 < 2147483648) → (t71 = t15 ∧ f71 = 0 ∧ i < sp ∧ (bh = -1 ∨ i + 1 < sp) ∧ (op = 0 ∨ (op = 1 ∧ 48 ≤ bh ∧ bh ≤ 51)) ∧ (-2147483648 ≤ bh ∧ bh < 2147483648)) → opM S71c x call (Lsr : Int) M → b_V X S71c z 0 0 71 [(4, .int (iI bh)), (3, .int (iI i)), (0, .ref (x + 425)), (1, .ref call), (2, .int (iI sp))] [.int (iI op)] := by
      intro S71c t71 f71 bh op fr71 e_t71 e_f71 b_t71 b_f71 p71_0 g71_opM
      have h71c : cS S71c x := fr71.keep (by decide) h
      have e71_nx : m_I S71c 5 call = iI nx := (fr71.2.1 5 (by decide) _).trans e_nx
      have k71_md : m_K S71c md = 12 := (fr71.2.2.2.2 _ (by rw [k_md]; decide)).1.trans k_md
      have l71_md : m_L S71c md = Lmd := (fr71.2.2.2.2 _ (by rw [k_md]; decide)).2.1.trans l_md
      have k71_tx : m_K S71c tx = 12 := (fr71.2.2.2.2 _ (by rw [k_tx]; decide)).1.trans k_tx
      have l71_tx : m_L S71c tx = Ltx := (fr71.2.2.2.2 _ (by rw [k_tx]; decide)).2.1.trans l_tx
      have k71_sr : m_K S71c sr = 12 := (fr71.2.2.2.2 _ (by rw [k_sr]; decide)).1.trans k_sr
      have l71_sr : m_L S71c sr = Lsr := (fr71.2.2.2.2 _ (by rw [k_sr]; decide)).2.1.trans l_sr
      have e71_md : m_P S71c 304 (x + 425) = some md := (fr71.2.2.1 304 (by decide) _).trans e_md
      have e71_tx : m_P S71c 302 (x + 425) = some tx := (fr71.2.2.1 302 (by decide) _).trans e_tx
      have e71_sr : m_P S71c 1 call = some sr := (fr71.2.2.1 1 (by decide) _).trans e_sr
      refine v_istore hX (lv' := [(5, .int (iI op)), (4, .int (iI bh)), (3, .int (iI i)), (0, .ref (x + 425)), (1, .ref call), (2, .int (iI sp))]) dX4_putLine_71 (by rw [hnL]; decide) rfl ?_
      refine v_aload_n hX dX4_putLine_73 (i := 0) rfl rfl ?_
      refine v_get hX (ci := 3) (k := 2) (cs_k_425 h71c) bc_3 (by decide) (by decide) in_3 w_2_78 dX4_putLine_74 (mvP (f := 302) (q := tx) rfl rfl (by simp (disch := omega) only [y_P_s_P, x_P_s_P, z_P_s_I, z_P_s_J, z_P_s_A, z_P_s_B, e71_md, e71_tx, e71_sr])) ?_
      refine v_iload_n hX dX4_putLine_77 (i := 3) rfl rfl ?_
      refine u_bald hX (L := Ltx) k71_tx l71_tx ⟨by omega, by omega⟩ (by omega) dX4_putLine_78 (fun v47_ e_v47_ b_v47_ => ?_)
      try simp (disch := omega) only [zr_I, zr_J, zr_B, rA_A, zl_I, zl_J, zl_A, lA_B, zr_P] at e_v47_
      refine v_bipush hX (v := iI 38) dX4_putLine_79 (by decide) ?_
      refine u_icmp_ne hX (tgt := 95) dX4_putLine_81 (by decide) ⟨by omega, by omega⟩ ⟨by omega, by omega⟩ (fun h48_ => ?_) (fun h48_ => ?_)
      ·
        refine v_iconst hX (v := iI 0) dX4_putLine_95 rfl ?_
        exact L96 _ t71 f71 bh op 0 fr71 (by simp (disch := omega) only [y_I_s_I, x_I_s_I, z_I_s_J, z_I_s_A, z_I_s_B, z_I_s_P, e71_nx, e_t71, e_f71]) (by simp (disch := omega) only [y_I_s_I, x_I_s_I, z_I_s_J, z_I_s_A, z_I_s_B, z_I_s_P, e71_nx, e_t71, e_f71]) ⟨by omega, by omega⟩ ⟨by omega, by omega⟩ (by omega) g71_opM
      ·
        refine v_iload hX dX4_putLine_84 rfl ?_
        refine v_bipush hX (v := iI 110) dX4_putLine_86 (by decide) ?_
        refine u_icmp_ne hX (tgt := 95) dX4_putLine_88 (by decide) ⟨by omega, by omega⟩ ⟨by omega, by omega⟩ (fun h49_ => ?_) (fun h49_ => ?_)
        ·
          refine v_iconst hX (v := iI 0) dX4_putLine_95 rfl ?_
          exact L96 _ t71 f71 bh op 0 fr71 (by simp (disch := omega) only [y_I_s_I, x_I_s_I, z_I_s_J, z_I_s_A, z_I_s_B, z_I_s_P, e71_nx, e_t71, e_f71]) (by simp (disch := omega) only [y_I_s_I, x_I_s_I, z_I_s_J, z_I_s_A, z_I_s_B, z_I_s_P, e71_nx, e_t71, e_f71]) ⟨by omega, by omega⟩ ⟨by omega, by omega⟩ (by omega) g71_opM
        ·
          refine v_iconst hX (v := iI 1) dX4_putLine_91 rfl ?_
          refine v_goto hX (tgt := 96) dX4_putLine_92 (by decide) ?_
          exact L96 _ t71 f71 bh op 1 fr71 (by simp (disch := omega) only [y_I_s_I, x_I_s_I, z_I_s_J, z_I_s_A, z_I_s_B, z_I_s_P, e71_nx, e_t71, e_f71]) (by simp (disch := omega) only [y_I_s_I, x_I_s_I, z_I_s_J, z_I_s_A, z_I_s_B, z_I_s_P, e71_nx, e_t71, e_f71]) ⟨by omega, by omega⟩ ⟨by omega, by omega⟩ (by omega) g71_opM
    have L39 : ∀ (S39c : b_M) (t39 : Int) (f39 : Int) (bh : Int), cFr [306, 307] [] [] w S S39c x → m_I S39c 307 (x + 425) = iI t39 → m_I S39c 306 (x + 425) = iI f39 → (-2147483648 ≤ t39 ∧ t39 < 2147483648) → (-2147483648 ≤ f39 ∧ f39 < 2147483648) → (t39 = t15 ∧ f39 = 0 ∧ i < sp ∧ (bh = -1 ∨ i + 1 < sp) ∧ (-2147483648 ≤ bh ∧ bh < 2147483648)) → opM S39c x call (Lsr : Int) M → b_V X S39c z 0 0 39 [(3, .int (iI i)), (0, .ref (x + 425)), (1, .ref call), (2, .int (iI sp))] [.int (iI bh)] := by
      intro S39c t39 f39 bh fr39 e_t39 e_f39 b_t39 b_f39 p39_0 g39_opM
      have h39c : cS S39c x := fr39.keep (by decide) h
      have e39_nx : m_I S39c 5 call = iI nx := (fr39.2.1 5 (by decide) _).trans e_nx
      have k39_md : m_K S39c md = 12 := (fr39.2.2.2.2 _ (by rw [k_md]; decide)).1.trans k_md
      have l39_md : m_L S39c md = Lmd := (fr39.2.2.2.2 _ (by rw [k_md]; decide)).2.1.trans l_md
      have k39_tx : m_K S39c tx = 12 := (fr39.2.2.2.2 _ (by rw [k_tx]; decide)).1.trans k_tx
      have l39_tx : m_L S39c tx = Ltx := (fr39.2.2.2.2 _ (by rw [k_tx]; decide)).2.1.trans l_tx
      have k39_sr : m_K S39c sr = 12 := (fr39.2.2.2.2 _ (by rw [k_sr]; decide)).1.trans k_sr
      have l39_sr : m_L S39c sr = Lsr := (fr39.2.2.2.2 _ (by rw [k_sr]; decide)).2.1.trans l_sr
      have e39_md : m_P S39c 304 (x + 425) = some md := (fr39.2.2.1 304 (by decide) _).trans e_md
      have e39_tx : m_P S39c 302 (x + 425) = some tx := (fr39.2.2.1 302 (by decide) _).trans e_tx
      have e39_sr : m_P S39c 1 call = some sr := (fr39.2.2.1 1 (by decide) _).trans e_sr
      refine v_istore hX (lv' := [(4, .int (iI bh)), (3, .int (iI i)), (0, .ref (x + 425)), (1, .ref call), (2, .int (iI sp))]) dX4_putLine_39 (by rw [hnL]; decide) rfl ?_
      refine v_aload_n hX dX4_putLine_41 (i := 0) rfl rfl ?_
      refine v_get hX (ci := 3) (k := 2) (cs_k_425 h39c) bc_3 (by decide) (by decide) in_3 w_2_78 dX4_putLine_42 (mvP (f := 302) (q := tx) rfl rfl (by simp (disch := omega) only [y_P_s_P, x_P_s_P, z_P_s_I, z_P_s_J, z_P_s_A, z_P_s_B, e39_md, e39_tx, e39_sr])) ?_
      refine v_iload_n hX dX4_putLine_45 (i := 3) rfl rfl ?_
      refine u_bald hX (L := Ltx) k39_tx l39_tx ⟨by omega, by omega⟩ (by omega) dX4_putLine_46 (fun v50_ e_v50_ b_v50_ => ?_)
      try simp (disch := omega) only [zr_I, zr_J, zr_B, rA_A, zl_I, zl_J, zl_A, lA_B, zr_P] at e_v50_
      refine v_bipush hX (v := iI 38) dX4_putLine_47 (by decide) ?_
      refine u_icmp_ne hX (tgt := 70) dX4_putLine_49 (by decide) ⟨by omega, by omega⟩ ⟨by omega, by omega⟩ (fun h51_ => ?_) (fun h51_ => ?_)
      ·
        refine v_iconst hX (v := iI 0) dX4_putLine_70 rfl ?_
        exact L71 _ t39 f39 bh 0 fr39 (by simp (disch := omega) only [y_I_s_I, x_I_s_I, z_I_s_J, z_I_s_A, z_I_s_B, z_I_s_P, e39_nx, e_t39, e_f39]) (by simp (disch := omega) only [y_I_s_I, x_I_s_I, z_I_s_J, z_I_s_A, z_I_s_B, z_I_s_P, e39_nx, e_t39, e_f39]) ⟨by omega, by omega⟩ ⟨by omega, by omega⟩ (by omega) g39_opM
      ·
        refine v_iload hX dX4_putLine_52 rfl ?_
        refine v_bipush hX (v := iI 48) dX4_putLine_54 (by decide) ?_
        refine u_icmp_lt hX (tgt := 70) dX4_putLine_56 (by decide) ⟨by omega, by omega⟩ ⟨by omega, by omega⟩ (fun h52_ => ?_) (fun h52_ => ?_)
        ·
          refine v_iconst hX (v := iI 0) dX4_putLine_70 rfl ?_
          exact L71 _ t39 f39 bh 0 fr39 (by simp (disch := omega) only [y_I_s_I, x_I_s_I, z_I_s_J, z_I_s_A, z_I_s_B, z_I_s_P, e39_nx, e_t39, e_f39]) (by simp (disch := omega) only [y_I_s_I, x_I_s_I, z_I_s_J, z_I_s_A, z_I_s_B, z_I_s_P, e39_nx, e_t39, e_f39]) ⟨by omega, by omega⟩ ⟨by omega, by omega⟩ (by omega) g39_opM
        ·
          refine v_iload hX dX4_putLine_59 rfl ?_
          refine v_bipush hX (v := iI 51) dX4_putLine_61 (by decide) ?_
          refine u_icmp_gt hX (tgt := 70) dX4_putLine_63 (by decide) ⟨by omega, by omega⟩ ⟨by omega, by omega⟩ (fun h53_ => ?_) (fun h53_ => ?_)
          ·
            refine v_iconst hX (v := iI 0) dX4_putLine_70 rfl ?_
            exact L71 _ t39 f39 bh 0 fr39 (by simp (disch := omega) only [y_I_s_I, x_I_s_I, z_I_s_J, z_I_s_A, z_I_s_B, z_I_s_P, e39_nx, e_t39, e_f39]) (by simp (disch := omega) only [y_I_s_I, x_I_s_I, z_I_s_J, z_I_s_A, z_I_s_B, z_I_s_P, e39_nx, e_t39, e_f39]) ⟨by omega, by omega⟩ ⟨by omega, by omega⟩ (by omega) g39_opM
          ·
            refine v_iconst hX (v := iI 1) dX4_putLine_66 rfl ?_
            refine v_goto hX (tgt := 71) dX4_putLine_67 (by decide) ?_
            exact L71 _ t39 f39 bh 1 fr39 (by simp (disch := omega) only [y_I_s_I, x_I_s_I, z_I_s_J, z_I_s_A, z_I_s_B, z_I_s_P, e39_nx, e_t39, e_f39]) (by simp (disch := omega) only [y_I_s_I, x_I_s_I, z_I_s_J, z_I_s_A, z_I_s_B, z_I_s_P, e39_nx, e_t39, e_f39]) ⟨by omega, by omega⟩ ⟨by omega, by omega⟩ (by omega) g39_opM
    refine v_iload_n hX dX4_putLine_15 (i := 3) rfl rfl ?_
    refine v_iload_n hX dX4_putLine_16 (i := 2) rfl rfl ?_
    refine u_icmp_ge hX (tgt := 163) dX4_putLine_17 (by decide) ⟨by omega, by omega⟩ ⟨by omega, by omega⟩ (fun h54_ => ?_) (fun h54_ => ?_)
    ·
      exact v_return hX hE dX4_putLine_163 (by omega) (by omega) ⟨rfl, fr15, f15, t15, rfl, (by simp (disch := omega) only [y_I_s_I, x_I_s_I, z_I_s_J, z_I_s_A, z_I_s_B, z_I_s_P, e15_nx, e_t15, e_f15]), ⟨by omega, by omega⟩, (by simp (disch := omega) only [y_I_s_I, x_I_s_I, z_I_s_J, z_I_s_A, z_I_s_B, z_I_s_P, e15_nx, e_t15, e_f15]), ⟨by omega, by omega⟩, (by omega), (by rw [show sp = i by omega]; omega)⟩
    ·
      refine v_iload_n hX dX4_putLine_20 (i := 3) rfl rfl ?_
      refine v_iconst hX (v := iI 1) dX4_putLine_21 rfl ?_
      refine u_iadd hX dX4_putLine_22 ?_
      refine v_iload_n hX dX4_putLine_23 (i := 2) rfl rfl ?_
      refine u_icmp_ge hX (tgt := 38) dX4_putLine_24 (by decide) ⟨by omega, by omega⟩ ⟨by omega, by omega⟩ (fun h55_ => ?_) (fun h55_ => ?_)
      ·
        refine v_iconst hX (v := iI (-1)) dX4_putLine_38 rfl ?_
        exact L39 _ t15 f15 (-1) fr15 (by simp (disch := omega) only [y_I_s_I, x_I_s_I, z_I_s_J, z_I_s_A, z_I_s_B, z_I_s_P, e15_nx, e_t15, e_f15]) (by simp (disch := omega) only [y_I_s_I, x_I_s_I, z_I_s_J, z_I_s_A, z_I_s_B, z_I_s_P, e15_nx, e_t15, e_f15]) ⟨by omega, by omega⟩ ⟨by omega, by omega⟩ (by omega) g15_opM
      ·
        refine v_aload_n hX dX4_putLine_27 (i := 0) rfl rfl ?_
        refine v_get hX (ci := 3) (k := 2) (cs_k_425 h15c) bc_3 (by decide) (by decide) in_3 w_2_78 dX4_putLine_28 (mvP (f := 302) (q := tx) rfl rfl (by simp (disch := omega) only [y_P_s_P, x_P_s_P, z_P_s_I, z_P_s_J, z_P_s_A, z_P_s_B, e15_md, e15_tx, e15_sr])) ?_
        refine v_iload_n hX dX4_putLine_31 (i := 3) rfl rfl ?_
        refine v_iconst hX (v := iI 1) dX4_putLine_32 rfl ?_
        refine u_iadd hX dX4_putLine_33 ?_
        refine u_bald hX (L := Ltx) k15_tx l15_tx ⟨by omega, by omega⟩ (by omega) dX4_putLine_34 (fun v56_ e_v56_ b_v56_ => ?_)
        try simp (disch := omega) only [zr_I, zr_J, zr_B, rA_A, zl_I, zl_J, zl_A, lA_B, zr_P] at e_v56_
        refine v_goto hX (tgt := 39) dX4_putLine_35 (by decide) ?_
        exact L39 _ t15 f15 v56_ fr15 (by simp (disch := omega) only [y_I_s_I, x_I_s_I, z_I_s_J, z_I_s_A, z_I_s_B, z_I_s_P, e15_nx, e_t15, e_f15]) (by simp (disch := omega) only [y_I_s_I, x_I_s_I, z_I_s_J, z_I_s_A, z_I_s_B, z_I_s_P, e15_nx, e_t15, e_f15]) ⟨by omega, by omega⟩ ⟨by omega, by omega⟩ (by omega) g15_opM
  refine v_aload_n hX dX4_putLine_0 (i := 0) rfl rfl ?_
  refine v_iconst hX (v := iI 0) dX4_putLine_1 rfl ?_
  refine v_putI hX (ci := 3) (k := 6) (f := 306) (cs_k_425 h) bc_3 (by decide) (by decide) in_3 tyX4_ok nmX4 w_2_84 (Or.inl rfl) rfl rfl dX4_putLine_2 rfl rfl ?_
  refine v_aload_n hX dX4_putLine_5 (i := 0) rfl rfl ?_
  refine v_iconst hX (v := iI 0) dX4_putLine_6 rfl ?_
  refine v_putI hX (ci := 3) (k := 7) (f := 307) (cs_k_425 (cS.sI h)) bc_3 (by decide) (by decide) in_3 tyX4_ok nmX4 w_2_86 (Or.inl rfl) rfl rfl dX4_putLine_7 rfl rfl ?_
  refine v_aload_n hX dX4_putLine_10 (i := 1) rfl rfl ?_
  refine v_get hX (ci := 0) (k := 5) (isC_k (cS.sI (cS.sI h)) hs_call) bc_0 (by decide) (by decide) in_0 w_2_58 dX4_putLine_11 (mvF (f := 5) (v := iI nx) rfl rfl (by simp (disch := omega) only [y_I_s_I, x_I_s_I, z_I_s_J, z_I_s_A, z_I_s_B, z_I_s_P, e_nx])) ?_
  refine v_istore_n hX (lv' := [(3, .int (iI nx)), (0, .ref (x + 425)), (1, .ref call), (2, .int (iI sp))]) dX4_putLine_14 (i := 3) rfl (by rw [hnL]; decide) rfl ?_
  exact L15 _ _ 0 0 nx (((cFr.rf _ _).sI (by decide) ⟨by omega, by omega⟩).sI (by decide) ⟨by omega, by omega⟩) (by simp (disch := omega) only [y_I_s_I, x_I_s_I, z_I_s_J, z_I_s_A, z_I_s_B, z_I_s_P, e_nx]) (by simp (disch := omega) only [y_I_s_I, x_I_s_I, z_I_s_J, z_I_s_A, z_I_s_B, z_I_s_P, e_nx]) ⟨by omega, by omega⟩ ⟨by omega, by omega⟩ (by omega) (by rw [Int.sub_self, Int.mul_zero]; omega) (opM.fr g_opM h (show cFr [306, 307] [] [] w S (s_I (s_I S 306 (x + 425) (iI 0)) 307 (x + 425) (iI 0)) x from (((cFr.rf _ _).sI (by decide) ⟨by omega, by omega⟩).sI (by decide) ⟨by omega, by omega⟩)) (by decide)) rfl
set_option maxRecDepth 100000 in
set_option maxHeartbeats 4000000 in
theorem t_L_putTogether {kn : Nat → Nat} {B : Nat} {S : b_M} {z x w : Nat} {call : Nat} {nx : Int} {un : Int} {md Lmd : Nat} {tx Ltx : Nat} {sr Lsr : Nat} {M : Int} {mc ms : Nat} (h : cS S x) (e_nx : m_I S 5 call = iI nx) (b_nx : -2147483648 ≤ nx ∧ nx < 2147483648) (e_un : m_I S 6 call = iI un) (b_un : -2147483648 ≤ un ∧ un < 2147483648) (e_md : m_P S 304 (x + 425) = some md) (k_md : m_K S md = 12) (l_md : m_L S md = Lmd) (c_md : (Lmd : Int) ≤ 2097152) (e_tx : m_P S 302 (x + 425) = some tx) (k_tx : m_K S tx = 12) (l_tx : m_L S tx = Ltx) (c_tx : (Ltx : Int) ≤ 2097152) (e_sr : m_P S 1 call = some sr) (k_sr : m_K S sr = 12) (l_sr : m_L S sr = Lsr) (c_sr : (Lsr : Int) ≤ 2097152) (hs_call : isC x call) (mb_ : ∀ s : Int, nx ≤ s → s ≤ un → s ≤ 4096 → M * (s - nx) ≤ 4194304) (g_eI : eI S x w) (g_hM : hM S x w) (g_opM : opM S x call (Lsr : Int) M) (rm_ : 2 * (2162688 - lA S x) ≤ (ms : Int) ∧ 2 * (2162688 - lA S x) ≤ 256 * (mc : Int)) (zw : x + 457 ≤ w ∧ w ≤ z) (p : 0 ≤ nx ∧ nx ≤ 4096 ∧ nx < un ∧ un ≤ 4097 ∧ (Ltx : Int) ≤ 4096 ∧ 3 ≤ M ∧ M ≤ 5000) : a_C kn B yX4_putTogether cX4_putTogether 3 none 3 73 mc ms [.ref (x + 425), .ref call] S z (fun r S' z' uc us => z ≤ z' ∧ cFr [306, 307, 5] [304, 305] [] w S S' x ∧ ∃ f1 t1 n1 : Int, ∃ b1 Lb1 : Nat, r = none ∧ m_I S' 306 (x + 425) = iI f1 ∧ (-2147483648 ≤ f1 ∧ f1 < 2147483648) ∧ m_I S' 307 (x + 425) = iI t1 ∧ (-2147483648 ≤ t1 ∧ t1 < 2147483648) ∧ m_I S' 5 call = iI n1 ∧ (-2147483648 ≤ n1 ∧ n1 < 2147483648) ∧ m_P S' 305 (x + 425) = some b1 ∧ m_K S' b1 = 12 ∧ m_L S' b1 = Lb1 ∧ (Lb1 : Int) ≤ 2097152 ∧ ((us : Int) ≤ 2 * (lA S' x - lA S x) ∧ 256 * (uc : Int) ≤ (us : Int)) ∧ (f1 = 0 ∧ 0 ≤ t1 ∧ t1 ≤ (Lb1 : Int) ∧ 0 ≤ n1 ∧ n1 ≤ 4098) ∧ (∀ b, b ≠ call → m_I S' 5 b = m_I S 5 b) ∧ (eI S' x w) ∧ (hM S' x w)) (fun _ _ _ _ _ => False) := by
  refine a_enter (by decide) (Nat.le_of_ble_eq_true rfl) ?_
  intro X hX hE hnL hkn hB hI_
  subst hkn; subst hB
  clear hI_
  change b_V X S z 0 0 0 [(0, .ref (x + 425)), (1, .ref call)] []
  have ab_ : lA S x ≤ 2162688 := lA_le g_eI g_hM
  obtain ⟨ipm_, md9_, emd9_, kmd9_, fpm9_⟩ := id g_hM
  have mdq_ : md9_ = md := Option.some.inj (emd9_.symm.trans e_md)
  have fp_md : inW x w md := mdq_ ▸ fpm9_
  have lm_ : lM S x = (Lmd : Int) := by rw [lM_at e_md, l_md]
  have ipb_ := isP_b ipm_
  have lA0_ : lA S x = lT S x + lM S x := rfl
  have ltb_ := g_eI.2.1
  refine v_aload_n hX dX4_putTogether_0 (i := 0) rfl rfl ?_
  refine v_aload_n hX dX4_putTogether_1 (i := 1) rfl rfl ?_
  refine v_get hX (ci := 0) (k := 5) (isC_k h hs_call) bc_0 (by decide) (by decide) in_0 w_2_58 dX4_putTogether_2 (mvF (f := 5) (v := iI nx) rfl rfl (by simp (disch := omega) only [y_I_s_I, x_I_s_I, z_I_s_J, z_I_s_A, z_I_s_B, z_I_s_P, e_nx, e_un])) ?_
  refine v_aload_n hX dX4_putTogether_5 (i := 1) rfl rfl ?_
  refine v_get hX (ci := 0) (k := 6) (isC_k h hs_call) bc_0 (by decide) (by decide) in_0 w_2_60 dX4_putTogether_6 (mvF (f := 6) (v := iI un) rfl rfl (by simp (disch := omega) only [y_I_s_I, x_I_s_I, z_I_s_J, z_I_s_A, z_I_s_B, z_I_s_P, e_nx, e_un])) ?_
  refine v_callV hX (n := 2) (t_L_lineEnd (S := S) (x := x) (w := w) (s_ := nx) (l_ := un) (tx := tx) (Ltx := Ltx) h (by simp (disch := omega) only [y_P_s_P, x_P_s_P, z_P_s_I, z_P_s_J, z_P_s_A, z_P_s_B, e_md, e_tx, e_sr]) k_tx l_tx (by omega) ⟨by omega, by omega⟩ ⟨by omega, by omega⟩ (by omega)) (cs_k_425 h) bc_3 (by decide) w_3_121 w_3_123 (bw_p (q := (yX4_lineEnd, 11)) (List.mem_of_getElem? (i := 4) rfl) rfl) w_1_13 w_3_124 (by decide +kernel) rfl ⟨by decide, by decide⟩ ⟨by omega, by omega⟩ (Nat.le_of_ble_eq_true rfl) rfl dX4_putTogether_9 (fun _ _ _ q => q) ?_
  rintro r1_ S1_ z1_ ⟨rfl, rfl, v2_, rfl, b_v2_, q1_⟩
  refine v_istore_n hX (lv' := [(2, .int (iI v2_)), (0, .ref (x + 425)), (1, .ref call)]) dX4_putTogether_12 (i := 2) rfl (by rw [hnL]; decide) rfl ?_
  refine v_aload_n hX dX4_putTogether_13 (i := 0) rfl rfl ?_
  refine v_aload_n hX dX4_putTogether_14 (i := 1) rfl rfl ?_
  refine v_iload_n hX dX4_putTogether_15 (i := 2) rfl rfl ?_
  refine v_callV hX (n := 2) (t_L_putLine (S := S) (x := x) (w := w) (call := call) (sp := v2_) (nx := nx) (md := md) (Lmd := Lmd) (tx := tx) (Ltx := Ltx) (sr := sr) (Lsr := Lsr) h (by simp (disch := omega) only [y_I_s_I, x_I_s_I, z_I_s_J, z_I_s_A, z_I_s_B, z_I_s_P, e_nx, e_un]) ⟨by omega, by omega⟩ (by simp (disch := omega) only [y_P_s_P, x_P_s_P, z_P_s_I, z_P_s_J, z_P_s_A, z_P_s_B, e_md, e_tx, e_sr]) k_md l_md (by omega) (by simp (disch := omega) only [y_P_s_P, x_P_s_P, z_P_s_I, z_P_s_J, z_P_s_A, z_P_s_B, e_md, e_tx, e_sr]) k_tx l_tx (by omega) (by simp (disch := omega) only [y_P_s_P, x_P_s_P, z_P_s_I, z_P_s_J, z_P_s_A, z_P_s_B, e_md, e_tx, e_sr]) k_sr l_sr (by omega) hs_call ⟨by omega, by omega⟩ fp_md g_opM (by omega)) (cs_k_425 h) bc_3 (by decide) w_3_125 w_3_127 (bw_p (q := (yX4_putLine, 11)) (List.mem_of_getElem? (i := 5) rfl) rfl) w_1_13 w_3_128 (by decide +kernel) rfl ⟨by decide, by decide⟩ ⟨by omega, by omega⟩ (Nat.le_of_ble_eq_true rfl) rfl dX4_putTogether_16 (fun _ _ _ q => q) ?_
  rintro r3_ S3_ z3_ ⟨rfl, f3_, v4_, v5_, rfl, e_v4_, b_v4_, e_v5_, b_v5_, q3_, q3_0⟩
  have y6_ : m_I S3_ 5 call = iI nx := (f3_.2.1 5 (by decide) _).trans (by simp (disch := omega) only [y_I_s_I, x_I_s_I, z_I_s_J, z_I_s_A, z_I_s_B, z_I_s_P, e_nx, e_un])
  have y7_ : m_I S3_ 6 call = iI un := (f3_.2.1 6 (by decide) _).trans (by simp (disch := omega) only [y_I_s_I, x_I_s_I, z_I_s_J, z_I_s_A, z_I_s_B, z_I_s_P, e_nx, e_un])
  have y8_ : m_P S3_ 304 (x + 425) = some md := (f3_.2.2.1 304 (by decide) _).trans (by simp (disch := omega) only [y_P_s_P, x_P_s_P, z_P_s_I, z_P_s_J, z_P_s_A, z_P_s_B, e_md, e_tx, e_sr])
  have y9_ : m_P S3_ 302 (x + 425) = some tx := (f3_.2.2.1 302 (by decide) _).trans (by simp (disch := omega) only [y_P_s_P, x_P_s_P, z_P_s_I, z_P_s_J, z_P_s_A, z_P_s_B, e_md, e_tx, e_sr])
  have y10_ : m_P S3_ 1 call = some sr := (f3_.2.2.1 1 (by decide) _).trans (by simp (disch := omega) only [y_P_s_P, x_P_s_P, z_P_s_I, z_P_s_J, z_P_s_A, z_P_s_B, e_md, e_tx, e_sr])
  have k11_ : m_K S3_ md = 12 := (f3_.2.2.2.2 _ (by rw [show m_K S md = 12 from k_md]; decide)).1.trans k_md
  have l12_ : m_L S3_ md = Lmd := (f3_.2.2.2.2 _ (by rw [show m_K S md = 12 from k_md]; decide)).2.1.trans l_md
  have k13_ : m_K S3_ tx = 12 := (f3_.2.2.2.2 _ (by rw [show m_K S tx = 12 from k_tx]; decide)).1.trans k_tx
  have l14_ : m_L S3_ tx = Ltx := (f3_.2.2.2.2 _ (by rw [show m_K S tx = 12 from k_tx]; decide)).2.1.trans l_tx
  have k15_ : m_K S3_ sr = 12 := (f3_.2.2.2.2 _ (by rw [show m_K S sr = 12 from k_sr]; decide)).1.trans k_sr
  have l16_ : m_L S3_ sr = Lsr := (f3_.2.2.2.2 _ (by rw [show m_K S sr = 12 from k_sr]; decide)).2.1.trans l_sr
  have h3_ : cS S3_ x := f3_.keep (by decide) h
  have g3_eI : eI S3_ x w := eI.fr g_eI h f3_ (by decide)
  have g3_hM : hM S3_ x w := hM.fr g_hM h f3_ (by decide)
  have g3_opM : opM S3_ x call (Lsr : Int) M := opM.fr g_opM h f3_ (by decide)
  have aa3_ : lA S3_ x = lA S x := lA.fr g_eI g_hM f3_ (by decide)
  have ab3_ : lA S3_ x ≤ 2162688 := lA_le g3_eI g3_hM
  have tb3_ : M * (v2_ - nx) ≤ 4194304 := by rcases (show (v2_ ≤ un ∧ v2_ ≤ 4096) ∨ v2_ = nx by omega) with g9 | g9; exact mb_ _ (by omega) g9.1 g9.2; (rw [g9, Int.sub_self, Int.mul_zero]; omega)
  refine v_aload_n hX dX4_putTogether_19 (i := 0) rfl rfl ?_
  refine v_get hX (ci := 3) (k := 7) (cs_k_425 h3_) bc_3 (by decide) (by decide) in_3 w_2_86 dX4_putTogether_20 (mvF (f := 307) (v := iI v5_) rfl rfl (by simp (disch := omega) only [y_I_s_I, x_I_s_I, z_I_s_J, z_I_s_A, z_I_s_B, z_I_s_P, y6_, y7_, e_v4_, e_v5_])) ?_
  refine v_aload_n hX dX4_putTogether_23 (i := 0) rfl rfl ?_
  refine v_get hX (ci := 3) (k := 4) (cs_k_425 h3_) bc_3 (by decide) (by decide) in_3 w_2_80 dX4_putTogether_24 (mvP (f := 304) (q := md) rfl rfl (by simp (disch := omega) only [y_P_s_P, x_P_s_P, z_P_s_I, z_P_s_J, z_P_s_A, z_P_s_B, y8_, y9_, y10_])) ?_
  refine u_alen hX (L := Lmd) (t0 := 0) (ty := .byte) k11_ ⟨by decide, by decide⟩ (fun _ => rfl) l12_ dX4_putTogether_27 ?_
  refine u_icmp_le hX (tgt := 51) dX4_putTogether_28 (by decide) ⟨by omega, by omega⟩ ⟨by omega, by omega⟩ (fun h17_ => ?_) (fun h17_ => ?_)
  ·
    have tb23_ := q3_0
    refine v_aload_n hX dX4_putTogether_51 (i := 0) rfl rfl ?_
    refine v_aload_n hX dX4_putTogether_52 (i := 0) rfl rfl ?_
    refine v_get hX (ci := 3) (k := 7) (cs_k_425 h3_) bc_3 (by decide) (by decide) in_3 w_2_86 dX4_putTogether_53 (mvF (f := 307) (v := iI v5_) rfl rfl (by simp (disch := omega) only [y_I_s_I, x_I_s_I, z_I_s_J, z_I_s_A, z_I_s_B, z_I_s_P, y6_, y7_, e_v4_, e_v5_])) ?_
    refine v_aload_n hX dX4_putTogether_56 (i := 0) rfl rfl ?_
    refine v_get hX (ci := 3) (k := 4) (cs_k_425 h3_) bc_3 (by decide) (by decide) in_3 w_2_80 dX4_putTogether_57 (mvP (f := 304) (q := md) rfl rfl (by simp (disch := omega) only [y_P_s_P, x_P_s_P, z_P_s_I, z_P_s_J, z_P_s_A, z_P_s_B, y8_, y9_, y10_])) ?_
    refine u_alen hX (L := Lmd) (t0 := 0) (ty := .byte) k11_ ⟨by decide, by decide⟩ (fun _ => rfl) l12_ dX4_putTogether_60 ?_
    refine u_mmin hX w_3_107 w_2_122 w_1_15 w_2_123 (by decide) (Nat.le_of_ble_eq_true rfl) (by omega) (by omega) ⟨by omega, by omega⟩ ⟨by omega, by omega⟩ dX4_putTogether_61 (fun v18_ q_v18_ b_v18_ => ?_)
    refine v_putI hX (ci := 3) (k := 7) (f := 307) (cs_k_425 h3_) bc_3 (by decide) (by decide) in_3 tyX4_ok nmX4 w_2_86 (Or.inl rfl) rfl rfl dX4_putTogether_64 rfl rfl ?_
    refine v_aload_n hX dX4_putTogether_67 (i := 1) rfl rfl ?_
    refine v_iload_n hX dX4_putTogether_68 (i := 2) rfl rfl ?_
    refine v_iconst hX (v := iI 1) dX4_putTogether_69 rfl ?_
    refine u_iadd hX dX4_putTogether_70 ?_
    refine v_putI hX (ci := 0) (k := 5) (f := 5) (isC_k (cS.sI h3_) hs_call) bc_0 (by decide) (by decide) in_0 tyX1_ok nmX1 w_2_58 (Or.inl rfl) rfl rfl dX4_putTogether_71 rfl rfl ?_
    refine v_aload_n hX dX4_putTogether_74 (i := 0) rfl rfl ?_
    refine v_aload_n hX dX4_putTogether_75 (i := 0) rfl rfl ?_
    refine v_get hX (ci := 3) (k := 4) (cs_k_425 (cS.sI (cS.sI h3_))) bc_3 (by decide) (by decide) in_3 w_2_80 dX4_putTogether_76 (mvP (f := 304) (q := md) rfl rfl (by simp (disch := omega) only [y_P_s_P, x_P_s_P, z_P_s_I, z_P_s_J, z_P_s_A, z_P_s_B, y8_, y9_, y10_])) ?_
    refine v_putP hX (ci := 3) (k := 5) (f := 305) (cs_k_425 (cS.sI (cS.sI h3_))) bc_3 (by decide) (by decide) in_3 tyX4_ok nmX4 w_2_81 (Or.inl rfl) rfl rfl dX4_putTogether_79 rfl rfl ?_
    have a19_ : lA (s_P (s_I (s_I S3_ 307 (x + 425) (iI v18_)) 5 call (iI (v2_ + 1))) 305 (x + 425) (some md)) x = lA S3_ x := lA.fr g3_eI g3_hM (show cFr [5, 307] [305] [] w S3_ (s_P (s_I (s_I S3_ 307 (x + 425) (iI v18_)) 5 call (iI (v2_ + 1))) 305 (x + 425) (some md)) x from ((((cFr.rf _ _).sI (by decide) ⟨by omega, by omega⟩).sI (by decide) ⟨(isC_in2 hs_call).1, (isC_in2 hs_call).2⟩).sP (by decide) ⟨by omega, by omega⟩)) (by decide)
    have n3_ : ∀ b, m_I S3_ 5 b = m_I S 5 b := f3_.2.1 5 (by decide)
    exact w_return hX hE dX4_putTogether_82 ⟨(by omega), (((((cFr.rf _ _).tr (f3_.mono (by decide) (by decide) (by decide))).sI (by decide) ⟨by omega, by omega⟩).sI (by decide) ⟨(isC_in2 hs_call).1, (isC_in2 hs_call).2⟩).sP (by decide) ⟨by omega, by omega⟩), v4_, v18_, (v2_ + 1), md, Lmd, rfl, (by simp (disch := omega) only [y_I_s_I, x_I_s_I, z_I_s_J, z_I_s_A, z_I_s_B, z_I_s_P, y6_, y7_, e_v4_, e_v5_]), ⟨by omega, by omega⟩, (by simp (disch := omega) only [y_I_s_I, x_I_s_I, z_I_s_J, z_I_s_A, z_I_s_B, z_I_s_P, y6_, y7_, e_v4_, e_v5_]), ⟨by omega, by omega⟩, (by simp (disch := omega) only [y_I_s_I, x_I_s_I, z_I_s_J, z_I_s_A, z_I_s_B, z_I_s_P, y6_, y7_, e_v4_, e_v5_]), ⟨by omega, by omega⟩, (by simp (disch := omega) only [y_P_s_P, x_P_s_P, z_P_s_I, z_P_s_J, z_P_s_A, z_P_s_B, y8_, y9_, y10_]), k11_, l12_, (by omega), ⟨by omega, by omega⟩, (by omega), (fun b hb => by simp (disch := omega) only [x_I_s_I, z_I_s_P, z_I_s_J, z_I_s_A, z_I_s_B, n3_]), (eI.fr g3_eI h3_ (show cFr [5, 307] [305] [] w S3_ (s_P (s_I (s_I S3_ 307 (x + 425) (iI v18_)) 5 call (iI (v2_ + 1))) 305 (x + 425) (some md)) x from ((((cFr.rf _ _).sI (by decide) ⟨by omega, by omega⟩).sI (by decide) ⟨(isC_in2 hs_call).1, (isC_in2 hs_call).2⟩).sP (by decide) ⟨by omega, by omega⟩)) (by decide)), (hM.fr g3_hM h3_ (show cFr [5, 307] [305] [] w S3_ (s_P (s_I (s_I S3_ 307 (x + 425) (iI v18_)) 5 call (iI (v2_ + 1))) 305 (x + 425) (some md)) x from ((((cFr.rf _ _).sI (by decide) ⟨by omega, by omega⟩).sI (by decide) ⟨(isC_in2 hs_call).1, (isC_in2 hs_call).2⟩).sP (by decide) ⟨by omega, by omega⟩)) (by decide))⟩
  ·
    refine v_aload_n hX dX4_putTogether_31 (i := 0) rfl rfl ?_
    refine v_aload_n hX dX4_putTogether_32 (i := 0) rfl rfl ?_
    refine v_aload_n hX dX4_putTogether_33 (i := 0) rfl rfl ?_
    refine v_get hX (ci := 3) (k := 7) (cs_k_425 h3_) bc_3 (by decide) (by decide) in_3 w_2_86 dX4_putTogether_34 (mvF (f := 307) (v := iI v5_) rfl rfl (by simp (disch := omega) only [y_I_s_I, x_I_s_I, z_I_s_J, z_I_s_A, z_I_s_B, z_I_s_P, y6_, y7_, e_v4_, e_v5_])) ?_
    refine v_callV hX (n := 1) (t_L_roomFor (S := S3_) (x := x) (w := w) (wt := v5_) (md := md) (Lmd := Lmd) h3_ (by simp (disch := omega) only [y_P_s_P, x_P_s_P, z_P_s_I, z_P_s_J, z_P_s_A, z_P_s_B, y8_, y9_, y10_]) k11_ l12_ (by omega) ⟨by omega, by omega⟩ (by rw [← lm_]; exact ipm_) (by omega)) (cs_k_425 h3_) bc_3 (by decide) w_3_141 w_3_143 (bw_p (q := (yX4_roomFor, 11)) (List.mem_of_getElem? (i := 9) rfl) rfl) w_1_13 w_3_144 (by decide +kernel) rfl ⟨by decide, by decide⟩ ⟨by omega, by omega⟩ (Nat.le_of_ble_eq_true rfl) rfl dX4_putTogether_37 (fun _ _ _ q => q) ?_
    rintro r20_ S20_ z20_ ⟨rfl, rfl, v21_, rfl, b_v21_, q20_, q20_0⟩
    refine v_fresh (fun hf_ => ?_)
    refine v_newa_b hX (N := v21_.toNat) w_1_56 dX4_putTogether_40 (fun q => by have h8 := Int32.lt_iff_toInt_lt.mp q; rw [iI_to ⟨by omega, by omega⟩, show (0 : Int32).toInt = 0 from by decide] at h8; omega) (iI_clamp ⟨by omega, by omega⟩) (by show v21_.toNat * 1 ≤ _; omega) (by omega) (by omega) ?_
    refine v_putP hX (ci := 3) (k := 4) (f := 304) ((x_K_n_A _ _ _ _ _ (by omega)).trans (cs_k_425 h3_)) bc_3 (by decide) (by decide) in_3 tyX4_ok nmX4 w_2_80 (Or.inl rfl) rfl rfl dX4_putTogether_42 rfl rfl ?_
    have f9_ : cFr [] [304] [] w S3_ (s_P (n_A S3_ z 12 v21_.toNat) 304 (x + 425) (some z)) x := ((cFr.rf _ _).nA zw.2 (by omega) hf_).sP (by decide) ⟨by omega, by omega⟩
    have e9_ : m_P (s_P (n_A S3_ z 12 v21_.toNat) 304 (x + 425) (some z)) 304 (x + 425) = some z := y_P_s_P _ _ _ _
    have k9_ : m_K (s_P (n_A S3_ z 12 v21_.toNat) 304 (x + 425) (some z)) z = 12 := by show m_K (n_A S3_ z 12 v21_.toNat) z = 12; rw [q_K_n_A, if_pos rfl]
    have l9_ : m_L (s_P (n_A S3_ z 12 v21_.toNat) 304 (x + 425) (some z)) z = v21_.toNat := by show m_L (n_A S3_ z 12 v21_.toNat) z = _; rw [q_L_n_A, if_pos rfl]
    have n9_ : ∀ b, m_I (s_P (n_A S3_ z 12 v21_.toNat) 304 (x + 425) (some z)) 5 b = m_I S3_ 5 b := fun _ => rfl
    generalize (s_P (n_A S3_ z 12 v21_.toNat) 304 (x + 425) (some z)) = S9_ at f9_ e9_ k9_ l9_ n9_ ⊢
    have lt8_ : lT S3_ x = lT S x := lT.fr g_eI (show cFr [306, 307, 5] [304, 305] [] w S S3_ x from ((cFr.rf _ _).tr (f3_.mono (by decide) (by decide) (by decide)))) (by decide)
    have y22_ : m_I S9_ 5 call = iI nx := (f9_.2.1 5 (by decide) _).trans (by simp (disch := omega) only [y_I_s_I, x_I_s_I, z_I_s_J, z_I_s_A, z_I_s_B, z_I_s_P, y6_, y7_, e_v4_, e_v5_])
    have y23_ : m_I S9_ 6 call = iI un := (f9_.2.1 6 (by decide) _).trans (by simp (disch := omega) only [y_I_s_I, x_I_s_I, z_I_s_J, z_I_s_A, z_I_s_B, z_I_s_P, y6_, y7_, e_v4_, e_v5_])
    have y24_ : m_I S9_ 306 (x + 425) = iI v4_ := (f9_.2.1 306 (by decide) _).trans (by simp (disch := omega) only [y_I_s_I, x_I_s_I, z_I_s_J, z_I_s_A, z_I_s_B, z_I_s_P, y6_, y7_, e_v4_, e_v5_])
    have y25_ : m_I S9_ 307 (x + 425) = iI v5_ := (f9_.2.1 307 (by decide) _).trans (by simp (disch := omega) only [y_I_s_I, x_I_s_I, z_I_s_J, z_I_s_A, z_I_s_B, z_I_s_P, y6_, y7_, e_v4_, e_v5_])
    have y26_ : m_P S9_ 302 (x + 425) = some tx := (f9_.2.2.1 302 (by decide) _).trans (by simp (disch := omega) only [y_P_s_P, x_P_s_P, z_P_s_I, z_P_s_J, z_P_s_A, z_P_s_B, y8_, y9_, y10_])
    have y27_ : m_P S9_ 1 call = some sr := (f9_.2.2.1 1 (by decide) _).trans (by simp (disch := omega) only [y_P_s_P, x_P_s_P, z_P_s_I, z_P_s_J, z_P_s_A, z_P_s_B, y8_, y9_, y10_])
    have k28_ : m_K S9_ md = 12 := (f9_.2.2.2.2 _ (by rw [show m_K S3_ md = 12 from k11_]; decide)).1.trans k11_
    have l29_ : m_L S9_ md = Lmd := (f9_.2.2.2.2 _ (by rw [show m_K S3_ md = 12 from k11_]; decide)).2.1.trans l12_
    have k30_ : m_K S9_ tx = 12 := (f9_.2.2.2.2 _ (by rw [show m_K S3_ tx = 12 from k13_]; decide)).1.trans k13_
    have l31_ : m_L S9_ tx = Ltx := (f9_.2.2.2.2 _ (by rw [show m_K S3_ tx = 12 from k13_]; decide)).2.1.trans l14_
    have k32_ : m_K S9_ sr = 12 := (f9_.2.2.2.2 _ (by rw [show m_K S3_ sr = 12 from k15_]; decide)).1.trans k15_
    have l33_ : m_L S9_ sr = Lsr := (f9_.2.2.2.2 _ (by rw [show m_K S3_ sr = 12 from k15_]; decide)).2.1.trans l16_
    have h9_ : cS S9_ x := f9_.keep (by decide) h3_
    have g9_eI : eI S9_ x w := eI.fr g3_eI h3_ f9_ (by decide)
    have g9_opM : opM S9_ x call (Lsr : Int) M := opM.fr g3_opM h3_ f9_ (by decide)
    have lt9_ : lT S9_ x = lT S3_ x := lT.fr g3_eI f9_ (by decide)
    have lm9_ : lM S9_ x = v21_ := by rw [lM_at e9_, l9_]; omega
    have g9_hM : hM S9_ x w := ⟨by rw [lm9_]; exact q20_0, z, e9_, k9_, Or.inr zw.2⟩
    have la9_ : lA S9_ x = lT S9_ x + lM S9_ x := rfl
    have la8_ : lA S3_ x = lT S3_ x + lM S3_ x := rfl
    have ab9_ : lA S9_ x ≤ 2162688 := lA_le g9_eI g9_hM
    have fp_z : inW x w z := Or.inr zw.2
    refine v_aload_n hX dX4_putTogether_45 (i := 0) rfl rfl ?_
    refine v_aload_n hX dX4_putTogether_46 (i := 1) rfl rfl ?_
    refine v_iload_n hX dX4_putTogether_47 (i := 2) rfl rfl ?_
    refine v_callV hX (n := 2) (t_L_putLine (S := S9_) (x := x) (w := w) (call := call) (sp := v2_) (nx := nx) (md := z) (Lmd := v21_.toNat) (tx := tx) (Ltx := Ltx) (sr := sr) (Lsr := Lsr) h9_ (by simp (disch := omega) only [y_I_s_I, x_I_s_I, z_I_s_J, z_I_s_A, z_I_s_B, z_I_s_P, y22_, y23_, y24_, y25_]) ⟨by omega, by omega⟩ (by simp (disch := omega) only [y_P_s_P, x_P_s_P, z_P_s_I, z_P_s_J, z_P_s_A, z_P_s_B, y26_, y27_, e9_]) k9_ l9_ (by omega) (by simp (disch := omega) only [y_P_s_P, x_P_s_P, z_P_s_I, z_P_s_J, z_P_s_A, z_P_s_B, y26_, y27_, e9_]) k30_ l31_ (by omega) (by simp (disch := omega) only [y_P_s_P, x_P_s_P, z_P_s_I, z_P_s_J, z_P_s_A, z_P_s_B, y26_, y27_, e9_]) k32_ l33_ (by omega) hs_call ⟨by omega, by omega⟩ fp_z g9_opM (by omega)) (cs_k_425 h9_) bc_3 (by decide) w_3_125 w_3_127 (bw_p (q := (yX4_putLine, 11)) (List.mem_of_getElem? (i := 5) rfl) rfl) w_1_13 w_3_128 (by decide +kernel) rfl ⟨by decide, by decide⟩ ⟨by omega, by omega⟩ (Nat.le_of_ble_eq_true rfl) rfl dX4_putTogether_48 (fun _ _ _ q => q) ?_
    rintro r34_ S34_ z34_ ⟨rfl, f34_, v35_, v36_, rfl, e_v35_, b_v35_, e_v36_, b_v36_, q34_, q34_0⟩
    have y37_ : m_I S34_ 5 call = iI nx := (f34_.2.1 5 (by decide) _).trans (by simp (disch := omega) only [y_I_s_I, x_I_s_I, z_I_s_J, z_I_s_A, z_I_s_B, z_I_s_P, y22_, y23_, y24_, y25_])
    have y38_ : m_I S34_ 6 call = iI un := (f34_.2.1 6 (by decide) _).trans (by simp (disch := omega) only [y_I_s_I, x_I_s_I, z_I_s_J, z_I_s_A, z_I_s_B, z_I_s_P, y22_, y23_, y24_, y25_])
    have y39_ : m_P S34_ 302 (x + 425) = some tx := (f34_.2.2.1 302 (by decide) _).trans (by simp (disch := omega) only [y_P_s_P, x_P_s_P, z_P_s_I, z_P_s_J, z_P_s_A, z_P_s_B, y26_, y27_, e9_])
    have y40_ : m_P S34_ 1 call = some sr := (f34_.2.2.1 1 (by decide) _).trans (by simp (disch := omega) only [y_P_s_P, x_P_s_P, z_P_s_I, z_P_s_J, z_P_s_A, z_P_s_B, y26_, y27_, e9_])
    have y41_ : m_P S34_ 304 (x + 425) = some z := (f34_.2.2.1 304 (by decide) _).trans (by simp (disch := omega) only [y_P_s_P, x_P_s_P, z_P_s_I, z_P_s_J, z_P_s_A, z_P_s_B, y26_, y27_, e9_])
    have k42_ : m_K S34_ md = 12 := (f34_.2.2.2.2 _ (by rw [show m_K S9_ md = 12 from k28_]; decide)).1.trans k28_
    have l43_ : m_L S34_ md = Lmd := (f34_.2.2.2.2 _ (by rw [show m_K S9_ md = 12 from k28_]; decide)).2.1.trans l29_
    have k44_ : m_K S34_ tx = 12 := (f34_.2.2.2.2 _ (by rw [show m_K S9_ tx = 12 from k30_]; decide)).1.trans k30_
    have l45_ : m_L S34_ tx = Ltx := (f34_.2.2.2.2 _ (by rw [show m_K S9_ tx = 12 from k30_]; decide)).2.1.trans l31_
    have k46_ : m_K S34_ sr = 12 := (f34_.2.2.2.2 _ (by rw [show m_K S9_ sr = 12 from k32_]; decide)).1.trans k32_
    have l47_ : m_L S34_ sr = Lsr := (f34_.2.2.2.2 _ (by rw [show m_K S9_ sr = 12 from k32_]; decide)).2.1.trans l33_
    have k48_ : m_K S34_ z = 12 := (f34_.2.2.2.2 _ (by rw [show m_K S9_ z = 12 from k9_]; decide)).1.trans k9_
    have l49_ : m_L S34_ z = v21_.toNat := (f34_.2.2.2.2 _ (by rw [show m_K S9_ z = 12 from k9_]; decide)).2.1.trans l9_
    have h34_ : cS S34_ x := f34_.keep (by decide) h9_
    have g34_eI : eI S34_ x w := eI.fr g9_eI h9_ f34_ (by decide)
    have g34_opM : opM S34_ x call (Lsr : Int) M := opM.fr g9_opM h9_ f34_ (by decide)
    have g34_hM : hM S34_ x w := hM.fr g9_hM h9_ f34_ (by decide)
    have aa34_ : lA S34_ x = lA S9_ x := lA.fr g9_eI g9_hM f34_ (by decide)
    have ab34_ : lA S34_ x ≤ 2162688 := lA_le g34_eI g34_hM
    have tb234_ := q34_0
    refine v_aload_n hX dX4_putTogether_51 (i := 0) rfl rfl ?_
    refine v_aload_n hX dX4_putTogether_52 (i := 0) rfl rfl ?_
    refine v_get hX (ci := 3) (k := 7) (cs_k_425 h34_) bc_3 (by decide) (by decide) in_3 w_2_86 dX4_putTogether_53 (mvF (f := 307) (v := iI v36_) rfl rfl (by simp (disch := omega) only [y_I_s_I, x_I_s_I, z_I_s_J, z_I_s_A, z_I_s_B, z_I_s_P, y37_, y38_, e_v35_, e_v36_])) ?_
    refine v_aload_n hX dX4_putTogether_56 (i := 0) rfl rfl ?_
    refine v_get hX (ci := 3) (k := 4) (cs_k_425 h34_) bc_3 (by decide) (by decide) in_3 w_2_80 dX4_putTogether_57 (mvP (f := 304) (q := z) rfl rfl (by simp (disch := omega) only [y_P_s_P, x_P_s_P, z_P_s_I, z_P_s_J, z_P_s_A, z_P_s_B, y39_, y40_, y41_])) ?_
    refine u_alen hX (L := v21_.toNat) (t0 := 0) (ty := .byte) k48_ ⟨by decide, by decide⟩ (fun _ => rfl) l49_ dX4_putTogether_60 ?_
    refine u_mmin hX w_3_107 w_2_122 w_1_15 w_2_123 (by decide) (Nat.le_of_ble_eq_true rfl) (by omega) (by omega) ⟨by omega, by omega⟩ ⟨by omega, by omega⟩ dX4_putTogether_61 (fun v50_ q_v50_ b_v50_ => ?_)
    refine v_putI hX (ci := 3) (k := 7) (f := 307) (cs_k_425 h34_) bc_3 (by decide) (by decide) in_3 tyX4_ok nmX4 w_2_86 (Or.inl rfl) rfl rfl dX4_putTogether_64 rfl rfl ?_
    refine v_aload_n hX dX4_putTogether_67 (i := 1) rfl rfl ?_
    refine v_iload_n hX dX4_putTogether_68 (i := 2) rfl rfl ?_
    refine v_iconst hX (v := iI 1) dX4_putTogether_69 rfl ?_
    refine u_iadd hX dX4_putTogether_70 ?_
    refine v_putI hX (ci := 0) (k := 5) (f := 5) (isC_k (cS.sI h34_) hs_call) bc_0 (by decide) (by decide) in_0 tyX1_ok nmX1 w_2_58 (Or.inl rfl) rfl rfl dX4_putTogether_71 rfl rfl ?_
    refine v_aload_n hX dX4_putTogether_74 (i := 0) rfl rfl ?_
    refine v_aload_n hX dX4_putTogether_75 (i := 0) rfl rfl ?_
    refine v_get hX (ci := 3) (k := 4) (cs_k_425 (cS.sI (cS.sI h34_))) bc_3 (by decide) (by decide) in_3 w_2_80 dX4_putTogether_76 (mvP (f := 304) (q := z) rfl rfl (by simp (disch := omega) only [y_P_s_P, x_P_s_P, z_P_s_I, z_P_s_J, z_P_s_A, z_P_s_B, y39_, y40_, y41_])) ?_
    refine v_putP hX (ci := 3) (k := 5) (f := 305) (cs_k_425 (cS.sI (cS.sI h34_))) bc_3 (by decide) (by decide) in_3 tyX4_ok nmX4 w_2_81 (Or.inl rfl) rfl rfl dX4_putTogether_79 rfl rfl ?_
    have a51_ : lA (s_P (s_I (s_I S34_ 307 (x + 425) (iI v50_)) 5 call (iI (v2_ + 1))) 305 (x + 425) (some z)) x = lA S34_ x := lA.fr g34_eI g34_hM (show cFr [5, 307] [305] [] w S34_ (s_P (s_I (s_I S34_ 307 (x + 425) (iI v50_)) 5 call (iI (v2_ + 1))) 305 (x + 425) (some z)) x from ((((cFr.rf _ _).sI (by decide) ⟨by omega, by omega⟩).sI (by decide) ⟨(isC_in2 hs_call).1, (isC_in2 hs_call).2⟩).sP (by decide) ⟨by omega, by omega⟩)) (by decide)
    have n3_ : ∀ b, m_I S3_ 5 b = m_I S 5 b := f3_.2.1 5 (by decide)
    have n9_ : ∀ b, m_I S9_ 5 b = m_I S3_ 5 b := f9_.2.1 5 (by decide)
    have n34_ : ∀ b, m_I S34_ 5 b = m_I S9_ 5 b := f34_.2.1 5 (by decide)
    exact w_return hX hE dX4_putTogether_82 ⟨(by omega), (((((((cFr.rf _ _).tr (f3_.mono (by decide) (by decide) (by decide))).tr (f9_.mono (by decide) (by decide) (by decide))).tr (f34_.mono (by decide) (by decide) (by decide))).sI (by decide) ⟨by omega, by omega⟩).sI (by decide) ⟨(isC_in2 hs_call).1, (isC_in2 hs_call).2⟩).sP (by decide) ⟨by omega, by omega⟩), v35_, v50_, (v2_ + 1), z, v21_.toNat, rfl, (by simp (disch := omega) only [y_I_s_I, x_I_s_I, z_I_s_J, z_I_s_A, z_I_s_B, z_I_s_P, y37_, y38_, e_v35_, e_v36_]), ⟨by omega, by omega⟩, (by simp (disch := omega) only [y_I_s_I, x_I_s_I, z_I_s_J, z_I_s_A, z_I_s_B, z_I_s_P, y37_, y38_, e_v35_, e_v36_]), ⟨by omega, by omega⟩, (by simp (disch := omega) only [y_I_s_I, x_I_s_I, z_I_s_J, z_I_s_A, z_I_s_B, z_I_s_P, y37_, y38_, e_v35_, e_v36_]), ⟨by omega, by omega⟩, (by simp (disch := omega) only [y_P_s_P, x_P_s_P, z_P_s_I, z_P_s_J, z_P_s_A, z_P_s_B, y39_, y40_, y41_]), k48_, l49_, (by omega), ⟨by omega, by omega⟩, (by omega), (fun b hb => by simp (disch := omega) only [x_I_s_I, z_I_s_P, z_I_s_J, z_I_s_A, z_I_s_B, n3_, n9_, n34_]), (eI.fr g34_eI h34_ (show cFr [5, 307] [305] [] w S34_ (s_P (s_I (s_I S34_ 307 (x + 425) (iI v50_)) 5 call (iI (v2_ + 1))) 305 (x + 425) (some z)) x from ((((cFr.rf _ _).sI (by decide) ⟨by omega, by omega⟩).sI (by decide) ⟨(isC_in2 hs_call).1, (isC_in2 hs_call).2⟩).sP (by decide) ⟨by omega, by omega⟩)) (by decide)), (hM.fr g34_hM h34_ (show cFr [5, 307] [305] [] w S34_ (s_P (s_I (s_I S34_ 307 (x + 425) (iI v50_)) 5 call (iI (v2_ + 1))) 305 (x + 425) (some z)) x from ((((cFr.rf _ _).sI (by decide) ⟨by omega, by omega⟩).sI (by decide) ⟨(isC_in2 hs_call).1, (isC_in2 hs_call).2⟩).sP (by decide) ⟨by omega, by omega⟩)) (by decide))⟩
