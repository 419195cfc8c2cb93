set_option maxRecDepth 100000 in
set_option maxHeartbeats 4000000 in
theorem t_packedDigit {kn : Nat → Nat} {B : Nat} {S : b_M} {z x w : Nat} {c : Int} {bh : Int} (h : cS S x) (b_c : -2147483648 ≤ c ∧ c < 2147483648) (b_bh : -2147483648 ≤ bh ∧ bh < 2147483648) : b_C kn B yX9_packedDigit cX9_packedDigit 2 (some .int) 0 0 0 0 [.int (iI c), .int (iI bh)] S z (fun r S' z' => z = z' ∧ S = S' ∧ ∃ q : Int, r = some (.int (iI q)) ∧ (-2147483648 ≤ q ∧ q < 2147483648) ∧ (0 ≤ q ∧ q ≤ 37)) (fun _ _ _ => False) := by
  refine b_enter (by decide) (Nat.le_of_ble_eq_true rfl) ?_
  intro X hX hE hnL hkn hB hI_
  subst hkn; subst hB
  clear hI_
  change b_V X S z 0 0 0 [(0, .int (iI c)), (1, .int (iI bh))] []
  refine v_iload_n hX dX9_packedDigit_0 (i := 0) rfl rfl ?_
  refine v_bipush hX (v := iI 97) dX9_packedDigit_1 (by decide) ?_
  refine u_icmp_lt hX (tgt := 19) dX9_packedDigit_3 (by decide) ⟨by omega, by omega⟩ ⟨by omega, by omega⟩ (fun h1_ => ?_) (fun h1_ => ?_)
  ·
    refine v_iload_n hX dX9_packedDigit_19 (i := 0) rfl rfl ?_
    refine v_bipush hX (v := iI 95) dX9_packedDigit_20 (by decide) ?_
    refine u_icmp_ne hX (tgt := 28) dX9_packedDigit_22 (by decide) ⟨by omega, by omega⟩ ⟨by omega, by omega⟩ (fun h2_ => ?_) (fun h2_ => ?_)
    ·
      refine v_iload_n hX dX9_packedDigit_28 (i := 1) rfl rfl ?_
      refine u_if_eq hX (tgt := 54) dX9_packedDigit_29 (by decide) ⟨by omega, by omega⟩ (fun h3_ => ?_) (fun h3_ => ?_)
      ·
        refine v_iconst hX (v := iI 0) dX9_packedDigit_54 rfl ?_
        exact v_ireturn hX hE dX9_packedDigit_55 (by omega) (by omega) ⟨rfl, rfl, 0, rfl, ⟨by omega, by omega⟩, (by omega)⟩
      ·
        refine v_iload_n hX dX9_packedDigit_32 (i := 0) rfl rfl ?_
        refine v_bipush hX (v := iI 48) dX9_packedDigit_33 (by decide) ?_
        refine u_icmp_lt hX (tgt := 54) dX9_packedDigit_35 (by decide) ⟨by omega, by omega⟩ ⟨by omega, by omega⟩ (fun h4_ => ?_) (fun h4_ => ?_)
        ·
          refine v_iconst hX (v := iI 0) dX9_packedDigit_54 rfl ?_
          exact v_ireturn hX hE dX9_packedDigit_55 (by omega) (by omega) ⟨rfl, rfl, 0, rfl, ⟨by omega, by omega⟩, (by omega)⟩
        ·
          refine v_iload_n hX dX9_packedDigit_38 (i := 0) rfl rfl ?_
          refine v_bipush hX (v := iI 57) dX9_packedDigit_39 (by decide) ?_
          refine u_icmp_gt hX (tgt := 54) dX9_packedDigit_41 (by decide) ⟨by omega, by omega⟩ ⟨by omega, by omega⟩ (fun h5_ => ?_) (fun h5_ => ?_)
          ·
            refine v_iconst hX (v := iI 0) dX9_packedDigit_54 rfl ?_
            exact v_ireturn hX hE dX9_packedDigit_55 (by omega) (by omega) ⟨rfl, rfl, 0, rfl, ⟨by omega, by omega⟩, (by omega)⟩
          ·
            refine v_iload_n hX dX9_packedDigit_44 (i := 0) rfl rfl ?_
            refine v_bipush hX (v := iI 48) dX9_packedDigit_45 (by decide) ?_
            refine u_isub hX dX9_packedDigit_47 ?_
            refine v_bipush hX (v := iI 27) dX9_packedDigit_48 (by decide) ?_
            refine u_iadd hX dX9_packedDigit_50 ?_
            refine v_goto hX (tgt := 55) dX9_packedDigit_51 (by decide) ?_
            exact v_ireturn hX hE dX9_packedDigit_55 (by omega) (by omega) ⟨rfl, rfl, ((c - 48) + 27), rfl, ⟨by omega, by omega⟩, (by omega)⟩
    ·
      refine v_bipush hX (v := iI 37) dX9_packedDigit_25 (by decide) ?_
      exact v_ireturn hX hE dX9_packedDigit_27 (by omega) (by omega) ⟨rfl, rfl, 37, rfl, ⟨by omega, by omega⟩, (by omega)⟩
  ·
    refine v_iload_n hX dX9_packedDigit_6 (i := 0) rfl rfl ?_
    refine v_bipush hX (v := iI 122) dX9_packedDigit_7 (by decide) ?_
    refine u_icmp_gt hX (tgt := 19) dX9_packedDigit_9 (by decide) ⟨by omega, by omega⟩ ⟨by omega, by omega⟩ (fun h6_ => ?_) (fun h6_ => ?_)
    ·
      refine v_iload_n hX dX9_packedDigit_19 (i := 0) rfl rfl ?_
      refine v_bipush hX (v := iI 95) dX9_packedDigit_20 (by decide) ?_
      refine u_icmp_ne hX (tgt := 28) dX9_packedDigit_22 (by decide) ⟨by omega, by omega⟩ ⟨by omega, by omega⟩ (fun h7_ => ?_) (fun h7_ => ?_)
      ·
        refine v_iload_n hX dX9_packedDigit_28 (i := 1) rfl rfl ?_
        refine u_if_eq hX (tgt := 54) dX9_packedDigit_29 (by decide) ⟨by omega, by omega⟩ (fun h8_ => ?_) (fun h8_ => ?_)
        ·
          refine v_iconst hX (v := iI 0) dX9_packedDigit_54 rfl ?_
          exact v_ireturn hX hE dX9_packedDigit_55 (by omega) (by omega) ⟨rfl, rfl, 0, rfl, ⟨by omega, by omega⟩, (by omega)⟩
        ·
          refine v_iload_n hX dX9_packedDigit_32 (i := 0) rfl rfl ?_
          refine v_bipush hX (v := iI 48) dX9_packedDigit_33 (by decide) ?_
          refine u_icmp_lt hX (tgt := 54) dX9_packedDigit_35 (by decide) ⟨by omega, by omega⟩ ⟨by omega, by omega⟩ (fun h9_ => ?_) (fun h9_ => ?_)
          ·
            refine v_iconst hX (v := iI 0) dX9_packedDigit_54 rfl ?_
            exact v_ireturn hX hE dX9_packedDigit_55 (by omega) (by omega) ⟨rfl, rfl, 0, rfl, ⟨by omega, by omega⟩, (by omega)⟩
          ·
            refine v_iload_n hX dX9_packedDigit_38 (i := 0) rfl rfl ?_
            refine v_bipush hX (v := iI 57) dX9_packedDigit_39 (by decide) ?_
            refine u_icmp_gt hX (tgt := 54) dX9_packedDigit_41 (by decide) ⟨by omega, by omega⟩ ⟨by omega, by omega⟩ (fun h10_ => ?_) (fun h10_ => ?_)
            ·
              refine v_iconst hX (v := iI 0) dX9_packedDigit_54 rfl ?_
              exact v_ireturn hX hE dX9_packedDigit_55 (by omega) (by omega) ⟨rfl, rfl, 0, rfl, ⟨by omega, by omega⟩, (by omega)⟩
            ·
              refine v_iload_n hX dX9_packedDigit_44 (i := 0) rfl rfl ?_
              refine v_bipush hX (v := iI 48) dX9_packedDigit_45 (by decide) ?_
              refine u_isub hX dX9_packedDigit_47 ?_
              refine v_bipush hX (v := iI 27) dX9_packedDigit_48 (by decide) ?_
              refine u_iadd hX dX9_packedDigit_50 ?_
              refine v_goto hX (tgt := 55) dX9_packedDigit_51 (by decide) ?_
              exact v_ireturn hX hE dX9_packedDigit_55 (by omega) (by omega) ⟨rfl, rfl, ((c - 48) + 27), rfl, ⟨by omega, by omega⟩, (by omega)⟩
      ·
        refine v_bipush hX (v := iI 37) dX9_packedDigit_25 (by decide) ?_
        exact v_ireturn hX hE dX9_packedDigit_27 (by omega) (by omega) ⟨rfl, rfl, 37, rfl, ⟨by omega, by omega⟩, (by omega)⟩
    ·
      refine v_iload_n hX dX9_packedDigit_12 (i := 0) rfl rfl ?_
      refine v_bipush hX (v := iI 97) dX9_packedDigit_13 (by decide) ?_
      refine u_isub hX dX9_packedDigit_15 ?_
      refine v_iconst hX (v := iI 1) dX9_packedDigit_16 rfl ?_
      refine u_iadd hX dX9_packedDigit_17 ?_
      exact v_ireturn hX hE dX9_packedDigit_18 (by omega) (by omega) ⟨rfl, rfl, ((c - 97) + 1), rfl, ⟨by omega, by omega⟩, (by omega)⟩
set_option maxRecDepth 100000 in
set_option maxHeartbeats 4000000 in
theorem t_registerOf {kn : Nat → Nat} {B : Nat} {S : b_M} {z x w : Nat} {v : Int} (h : cS S x) (b_v : -9223372036854775808 ≤ v ∧ v < 9223372036854775808) : b_C kn B yX9_registerOf cX9_registerOf 2 (some .int) 0 0 0 0 [.long (jJ v)] S z (fun r S' z' => z = z' ∧ S = S' ∧ ∃ q : Int, r = some (.int (iI q)) ∧ (-2147483648 ≤ q ∧ q < 2147483648) ∧ (-1 ≤ q ∧ q ≤ 7)) (fun _ _ _ => False) := by
  refine b_enter (by decide) (Nat.le_of_ble_eq_true rfl) ?_
  intro X hX hE hnL hkn hB hI_
  subst hkn; subst hB
  clear hI_
  change b_V X S z 0 0 0 [(0, .long (jJ v))] []
  refine v_lload_n hX dX9_registerOf_0 (i := 0) rfl rfl ?_
  refine v_ldc2 hX (v := jJ 711) dX9_registerOf_1 (show Cond.constantLong _ _ (jJ 711) ∈ b_Ws from w_4_28) ?_
  refine u_lcmp hX dX9_registerOf_4 ⟨by omega, by omega⟩ ⟨by omega, by omega⟩ (fun v1_ b_v1_ c_v1_ => ?_)
  refine u_if_lt hX (tgt := 25) dX9_registerOf_5 (by decide) ⟨by omega, by omega⟩ (fun h2_ => ?_) (fun h2_ => ?_)
  ·
    refine v_iconst hX (v := iI (-1)) dX9_registerOf_25 rfl ?_
    exact v_ireturn hX hE dX9_registerOf_26 (by omega) (by omega) ⟨rfl, rfl, (-1), rfl, ⟨by omega, by omega⟩, (by omega)⟩
  ·
    refine v_lload_n hX dX9_registerOf_8 (i := 0) rfl rfl ?_
    refine v_ldc2 hX (v := jJ 719) dX9_registerOf_9 (show Cond.constantLong _ _ (jJ 719) ∈ b_Ws from w_4_29) ?_
    refine u_lcmp hX dX9_registerOf_12 ⟨by omega, by omega⟩ ⟨by omega, by omega⟩ (fun v3_ b_v3_ c_v3_ => ?_)
    refine u_if_ge hX (tgt := 25) dX9_registerOf_13 (by decide) ⟨by omega, by omega⟩ (fun h4_ => ?_) (fun h4_ => ?_)
    ·
      refine v_iconst hX (v := iI (-1)) dX9_registerOf_25 rfl ?_
      exact v_ireturn hX hE dX9_registerOf_26 (by omega) (by omega) ⟨rfl, rfl, (-1), rfl, ⟨by omega, by omega⟩, (by omega)⟩
    ·
      refine v_lload_n hX dX9_registerOf_16 (i := 0) rfl rfl ?_
      refine v_ldc2 hX (v := jJ 711) dX9_registerOf_17 (show Cond.constantLong _ _ (jJ 711) ∈ b_Ws from w_4_28) ?_
      refine u_lsub hX dX9_registerOf_20 ?_
      refine u_l2i hX dX9_registerOf_21 ?_
      refine v_goto hX (tgt := 26) dX9_registerOf_22 (by decide) ?_
      exact v_ireturn hX hE dX9_registerOf_26 (by omega) (by omega) ⟨rfl, rfl, (v - 711), rfl, ⟨by omega, by omega⟩, (by omega)⟩
set_option maxRecDepth 100000 in
set_option maxHeartbeats 4000000 in
theorem t_digitOf {kn : Nat → Nat} {B : Nat} {S : b_M} {z x w : Nat} {c : Int} (h : cS S x) (b_c : -2147483648 ≤ c ∧ c < 2147483648) : b_C kn B yX9_digitOf cX9_digitOf 1 (some .int) 0 0 0 0 [.int (iI c)] S z (fun r S' z' => z = z' ∧ S = S' ∧ ∃ q : Int, r = some (.int (iI q)) ∧ (-2147483648 ≤ q ∧ q < 2147483648) ∧ (-1 ≤ q ∧ q ≤ 15)) (fun _ _ _ => False) := by
  refine b_enter (by decide) (Nat.le_of_ble_eq_true rfl) ?_
  intro X hX hE hnL hkn hB hI_
  subst hkn; subst hB
  clear hI_
  change b_V X S z 0 0 0 [(0, .int (iI c))] []
  refine v_iload_n hX dX9_digitOf_0 (i := 0) rfl rfl ?_
  refine v_bipush hX (v := iI 48) dX9_digitOf_1 (by decide) ?_
  refine u_icmp_lt hX (tgt := 17) dX9_digitOf_3 (by decide) ⟨by omega, by omega⟩ ⟨by omega, by omega⟩ (fun h1_ => ?_) (fun h1_ => ?_)
  ·
    refine v_iload_n hX dX9_digitOf_17 (i := 0) rfl rfl ?_
    refine v_bipush hX (v := iI 97) dX9_digitOf_18 (by decide) ?_
    refine u_icmp_lt hX (tgt := 39) dX9_digitOf_20 (by decide) ⟨by omega, by omega⟩ ⟨by omega, by omega⟩ (fun h2_ => ?_) (fun h2_ => ?_)
    ·
      refine v_iconst hX (v := iI (-1)) dX9_digitOf_39 rfl ?_
      exact v_ireturn hX hE dX9_digitOf_40 (by omega) (by omega) ⟨rfl, rfl, (-1), rfl, ⟨by omega, by omega⟩, (by omega)⟩
    ·
      refine v_iload_n hX dX9_digitOf_23 (i := 0) rfl rfl ?_
      refine v_bipush hX (v := iI 102) dX9_digitOf_24 (by decide) ?_
      refine u_icmp_gt hX (tgt := 39) dX9_digitOf_26 (by decide) ⟨by omega, by omega⟩ ⟨by omega, by omega⟩ (fun h3_ => ?_) (fun h3_ => ?_)
      ·
        refine v_iconst hX (v := iI (-1)) dX9_digitOf_39 rfl ?_
        exact v_ireturn hX hE dX9_digitOf_40 (by omega) (by omega) ⟨rfl, rfl, (-1), rfl, ⟨by omega, by omega⟩, (by omega)⟩
      ·
        refine v_iload_n hX dX9_digitOf_29 (i := 0) rfl rfl ?_
        refine v_bipush hX (v := iI 97) dX9_digitOf_30 (by decide) ?_
        refine u_isub hX dX9_digitOf_32 ?_
        refine v_bipush hX (v := iI 10) dX9_digitOf_33 (by decide) ?_
        refine u_iadd hX dX9_digitOf_35 ?_
        refine v_goto hX (tgt := 40) dX9_digitOf_36 (by decide) ?_
        exact v_ireturn hX hE dX9_digitOf_40 (by omega) (by omega) ⟨rfl, rfl, ((c - 97) + 10), rfl, ⟨by omega, by omega⟩, (by omega)⟩
  ·
    refine v_iload_n hX dX9_digitOf_6 (i := 0) rfl rfl ?_
    refine v_bipush hX (v := iI 57) dX9_digitOf_7 (by decide) ?_
    refine u_icmp_gt hX (tgt := 17) dX9_digitOf_9 (by decide) ⟨by omega, by omega⟩ ⟨by omega, by omega⟩ (fun h4_ => ?_) (fun h4_ => ?_)
    ·
      refine v_iload_n hX dX9_digitOf_17 (i := 0) rfl rfl ?_
      refine v_bipush hX (v := iI 97) dX9_digitOf_18 (by decide) ?_
      refine u_icmp_lt hX (tgt := 39) dX9_digitOf_20 (by decide) ⟨by omega, by omega⟩ ⟨by omega, by omega⟩ (fun h5_ => ?_) (fun h5_ => ?_)
      ·
        refine v_iconst hX (v := iI (-1)) dX9_digitOf_39 rfl ?_
        exact v_ireturn hX hE dX9_digitOf_40 (by omega) (by omega) ⟨rfl, rfl, (-1), rfl, ⟨by omega, by omega⟩, (by omega)⟩
      ·
        refine v_iload_n hX dX9_digitOf_23 (i := 0) rfl rfl ?_
        refine v_bipush hX (v := iI 102) dX9_digitOf_24 (by decide) ?_
        refine u_icmp_gt hX (tgt := 39) dX9_digitOf_26 (by decide) ⟨by omega, by omega⟩ ⟨by omega, by omega⟩ (fun h6_ => ?_) (fun h6_ => ?_)
        ·
          refine v_iconst hX (v := iI (-1)) dX9_digitOf_39 rfl ?_
          exact v_ireturn hX hE dX9_digitOf_40 (by omega) (by omega) ⟨rfl, rfl, (-1), rfl, ⟨by omega, by omega⟩, (by omega)⟩
        ·
          refine v_iload_n hX dX9_digitOf_29 (i := 0) rfl rfl ?_
          refine v_bipush hX (v := iI 97) dX9_digitOf_30 (by decide) ?_
          refine u_isub hX dX9_digitOf_32 ?_
          refine v_bipush hX (v := iI 10) dX9_digitOf_33 (by decide) ?_
          refine u_iadd hX dX9_digitOf_35 ?_
          refine v_goto hX (tgt := 40) dX9_digitOf_36 (by decide) ?_
          exact v_ireturn hX hE dX9_digitOf_40 (by omega) (by omega) ⟨rfl, rfl, ((c - 97) + 10), rfl, ⟨by omega, by omega⟩, (by omega)⟩
    ·
      refine v_iload_n hX dX9_digitOf_12 (i := 0) rfl rfl ?_
      refine v_bipush hX (v := iI 48) dX9_digitOf_13 (by decide) ?_
      refine u_isub hX dX9_digitOf_15 ?_
      exact v_ireturn hX hE dX9_digitOf_16 (by omega) (by omega) ⟨rfl, rfl, (c - 48), rfl, ⟨by omega, by omega⟩, (by omega)⟩
set_option maxRecDepth 100000 in
set_option maxHeartbeats 4000000 in
theorem t_isPlain {kn : Nat → Nat} {B : Nat} {S : b_M} {z x w : Nat} {at_ : Int} {to_ : Int} {bv Lbv : Nat} (h : cS S x) (e_at_ : m_I S 701 (x + 419) = iI at_) (b_at_ : -2147483648 ≤ at_ ∧ at_ < 2147483648) (e_to_ : m_I S 702 (x + 419) = iI to_) (b_to_ : -2147483648 ≤ to_ ∧ to_ < 2147483648) (e_bv : m_P S 700 (x + 419) = some bv) (k_bv : m_K S bv = 12) (l_bv : m_L S bv = Lbv) (c_bv : (Lbv : Int) ≤ 2097152) (p : 0 ≤ at_ ∧ at_ ≤ to_ ∧ to_ ≤ (Lbv : Int)) : b_C kn B yX9_isPlain cX9_isPlain 2 (some .boolean) 0 0 0 0 [.ref (x + 419)] S z (fun r S' z' => z = z' ∧ S = S' ∧ ∃ q : Int, r = some (.int (iI q)) ∧ (q = 0 ∨ q = 1) ∧ (True)) (fun _ _ _ => False) := by
  refine b_enter (by decide) (Nat.le_of_ble_eq_true rfl) ?_
  intro X hX hE hnL hkn hB hI_
  subst hkn; subst hB
  clear hI_
  have L5 : ∀ (n5 : Nat) (i : Int), (at_ ≤ i ∧ i ≤ to_) → (to_ - i).toNat = n5 → b_V X S z 0 0 5 [(1, .int (iI i)), (0, .ref (x + 419))] [] := by
    intro n5
    induction n5 using Nat.strongRecOn with
    | _ n5 ih5 =>
    intro i p5_0 hm5
    refine v_iload_n hX dX9_isPlain_5 (i := 1) rfl rfl ?_
    refine v_aload_n hX dX9_isPlain_6 (i := 0) rfl rfl ?_
    refine v_get hX (ci := 7) (k := 2) (cs_k_419 h) bc_7 (by decide) (by decide) in_7 w_1_235 dX9_isPlain_7 (mvF (f := 702) (v := iI to_) rfl rfl (by simp (disch := omega) only [y_I_s_I, x_I_s_I, z_I_s_J, z_I_s_A, z_I_s_B, z_I_s_P, e_at_, e_to_])) ?_
    refine u_icmp_ge hX (tgt := 43) dX9_isPlain_10 (by decide) ⟨by omega, by omega⟩ ⟨by omega, by omega⟩ (fun h1_ => ?_) (fun h1_ => ?_)
    ·
      refine v_iconst hX (v := iI 1) dX9_isPlain_43 rfl ?_
      exact v_zreturn hX (nar_b (by omega)) hE dX9_isPlain_44 (by omega) (by omega) ⟨rfl, rfl, 1, rfl, (by omega), trivial⟩
    ·
      refine v_aload_n hX dX9_isPlain_13 (i := 0) rfl rfl ?_
      refine v_get hX (ci := 7) (k := 0) (cs_k_419 h) bc_7 (by decide) (by decide) in_7 w_1_233 dX9_isPlain_14 (mvP (f := 700) (q := bv) rfl rfl (by simp (disch := omega) only [y_P_s_P, x_P_s_P, z_P_s_I, z_P_s_J, z_P_s_A, z_P_s_B, e_bv])) ?_
      refine v_iload_n hX dX9_isPlain_17 (i := 1) rfl rfl ?_
      refine u_bald hX (L := Lbv) k_bv l_bv ⟨by omega, by omega⟩ (by omega) dX9_isPlain_18 (fun v2_ e_v2_ b_v2_ => ?_)
      refine v_bipush hX (v := iI 32) dX9_isPlain_19 (by decide) ?_
      refine u_icmp_lt hX (tgt := 35) dX9_isPlain_21 (by decide) ⟨by omega, by omega⟩ ⟨by omega, by omega⟩ (fun h3_ => ?_) (fun h3_ => ?_)
      ·
        refine v_iconst hX (v := iI 0) dX9_isPlain_35 rfl ?_
        exact v_zreturn hX (nar_b (by omega)) hE dX9_isPlain_36 (by omega) (by omega) ⟨rfl, rfl, 0, rfl, (by omega), trivial⟩
      ·
        refine v_aload_n hX dX9_isPlain_24 (i := 0) rfl rfl ?_
        refine v_get hX (ci := 7) (k := 0) (cs_k_419 h) bc_7 (by decide) (by decide) in_7 w_1_233 dX9_isPlain_25 (mvP (f := 700) (q := bv) rfl rfl (by simp (disch := omega) only [y_P_s_P, x_P_s_P, z_P_s_I, z_P_s_J, z_P_s_A, z_P_s_B, e_bv])) ?_
        refine v_iload_n hX dX9_isPlain_28 (i := 1) rfl rfl ?_
        refine u_bald hX (L := Lbv) k_bv l_bv ⟨by omega, by omega⟩ (by omega) dX9_isPlain_29 (fun v4_ e_v4_ b_v4_ => ?_)
        refine v_bipush hX (v := iI 126) dX9_isPlain_30 (by decide) ?_
        refine u_icmp_le hX (tgt := 37) dX9_isPlain_32 (by decide) ⟨by omega, by omega⟩ ⟨by omega, by omega⟩ (fun h5_ => ?_) (fun h5_ => ?_)
        ·
          refine v_iinc hX (v := iI (i + 1)) (lv' := [(1, .int (iI (i + 1))), (0, .ref (x + 419))]) dX9_isPlain_37 rfl (iI_add _ _) (by rw [hnL]; decide) rfl ?_
          refine v_goto hX (tgt := 5) dX9_isPlain_40 (by decide) ?_
          exact ih5 _ (by omega) (i + 1) (by omega) rfl
        ·
          refine v_iconst hX (v := iI 0) dX9_isPlain_35 rfl ?_
          exact v_zreturn hX (nar_b (by omega)) hE dX9_isPlain_36 (by omega) (by omega) ⟨rfl, rfl, 0, rfl, (by omega), trivial⟩
  change b_V X S z 0 0 0 [(0, .ref (x + 419))] []
  refine v_aload_n hX dX9_isPlain_0 (i := 0) rfl rfl ?_
  refine v_get hX (ci := 7) (k := 1) (cs_k_419 h) bc_7 (by decide) (by decide) in_7 w_1_234 dX9_isPlain_1 (mvF (f := 701) (v := iI at_) rfl rfl (by simp (disch := omega) only [y_I_s_I, x_I_s_I, z_I_s_J, z_I_s_A, z_I_s_B, z_I_s_P, e_at_, e_to_])) ?_
  refine v_istore_n hX (lv' := [(1, .int (iI at_)), (0, .ref (x + 419))]) dX9_isPlain_4 (i := 1) rfl (by rw [hnL]; decide) rfl ?_
  exact L5 _ at_ (by omega) rfl
set_option maxRecDepth 100000 in
set_option maxHeartbeats 4000000 in
theorem t_left {kn : Nat → Nat} {B : Nat} {S : b_M} {z x w : Nat} {at_ : Int} {to_ : Int} (h : cS S x) (e_at_ : m_I S 701 (x + 419) = iI at_) (b_at_ : -2147483648 ≤ at_ ∧ at_ < 2147483648) (e_to_ : m_I S 702 (x + 419) = iI to_) (b_to_ : -2147483648 ≤ to_ ∧ to_ < 2147483648) (p : 0 ≤ at_ ∧ at_ ≤ to_) : b_C kn B yX9_left cX9_left 1 (some .int) 0 0 0 0 [.ref (x + 419)] S z (fun r S' z' => z = z' ∧ S = S' ∧ ∃ q : Int, r = some (.int (iI q)) ∧ (-2147483648 ≤ q ∧ q < 2147483648) ∧ (q = to_ - at_)) (fun _ _ _ => False) := by
  refine b_enter (by decide) (Nat.le_of_ble_eq_true rfl) ?_
  intro X hX hE hnL hkn hB hI_
  subst hkn; subst hB
  clear hI_
  change b_V X S z 0 0 0 [(0, .ref (x + 419))] []
  refine v_aload_n hX dX9_left_0 (i := 0) rfl rfl ?_
  refine v_get hX (ci := 7) (k := 2) (cs_k_419 h) bc_7 (by decide) (by decide) in_7 w_1_235 dX9_left_1 (mvF (f := 702) (v := iI to_) rfl rfl (by simp (disch := omega) only [y_I_s_I, x_I_s_I, z_I_s_J, z_I_s_A, z_I_s_B, z_I_s_P, e_at_, e_to_])) ?_
  refine v_aload_n hX dX9_left_4 (i := 0) rfl rfl ?_
  refine v_get hX (ci := 7) (k := 1) (cs_k_419 h) bc_7 (by decide) (by decide) in_7 w_1_234 dX9_left_5 (mvF (f := 701) (v := iI at_) rfl rfl (by simp (disch := omega) only [y_I_s_I, x_I_s_I, z_I_s_J, z_I_s_A, z_I_s_B, z_I_s_P, e_at_, e_to_])) ?_
  refine u_isub hX dX9_left_8 ?_
  exact v_ireturn hX hE dX9_left_9 (by omega) (by omega) ⟨rfl, rfl, (to_ - at_), rfl, ⟨by omega, by omega⟩, (by omega)⟩
set_option maxRecDepth 100000 in
set_option maxHeartbeats 4000000 in
theorem t_passBlanks {kn : Nat → Nat} {B : Nat} {S : b_M} {z x w : Nat} {at_ : Int} {to_ : Int} {bv Lbv : Nat} (h : cS S x) (e_at_ : m_I S 701 (x + 419) = iI at_) (b_at_ : -2147483648 ≤ at_ ∧ at_ < 2147483648) (e_to_ : m_I S 702 (x + 419) = iI to_) (b_to_ : -2147483648 ≤ to_ ∧ to_ < 2147483648) (e_bv : m_P S 700 (x + 419) = some bv) (k_bv : m_K S bv = 12) (l_bv : m_L S bv = Lbv) (c_bv : (Lbv : Int) ≤ 2097152) (p : 0 ≤ at_ ∧ at_ ≤ to_ ∧ to_ ≤ (Lbv : Int)) : b_C kn B yX9_passBlanks cX9_passBlanks 1 none 0 0 0 0 [.ref (x + 419)] S z (fun r S' z' => z = z' ∧ cFr [701] [] [] w S S' x ∧ ∃ a1 : Int, r = none ∧ m_I S' 701 (x + 419) = iI a1 ∧ (-2147483648 ≤ a1 ∧ a1 < 2147483648) ∧ (at_ ≤ a1 ∧ a1 ≤ to_)) (fun _ _ _ => False) := by
  refine b_enter (by decide) (Nat.le_of_ble_eq_true rfl) ?_
  intro X hX hE hnL hkn hB hI_
  subst hkn; subst hB
  clear hI_
  have L0 : ∀ (n0 : Nat) (S0c : b_M) (a0 : Int), cFr [701] [] [] w S S0c x → m_I S0c 701 (x + 419) = iI a0 → (-2147483648 ≤ a0 ∧ a0 < 2147483648) → (at_ ≤ a0 ∧ a0 ≤ to_) → (to_ - a0).toNat = n0 → b_V X S0c z 0 0 0 [(0, .ref (x + 419))] [] := by
    intro n0
    induction n0 using Nat.strongRecOn with
    | _ n0 ih0 =>
    intro S0c a0 fr0 e_a0 b_a0 p0_0 hm0
    have h0c : cS S0c x := fr0.keep (by decide) h
    have e0_to_ : m_I S0c 702 (x + 419) = iI to_ := (fr0.2.1 702 (by decide) _).trans e_to_
    have k0_bv : m_K S0c bv = 12 := (fr0.2.2.2.2 _ (by rw [k_bv]; decide)).1.trans k_bv
    have l0_bv : m_L S0c bv = Lbv := (fr0.2.2.2.2 _ (by rw [k_bv]; decide)).2.1.trans l_bv
    have e0_bv : m_P S0c 700 (x + 419) = some bv := (fr0.2.2.1 700 (by decide) _).trans e_bv
    refine v_aload_n hX dX9_passBlanks_0 (i := 0) rfl rfl ?_
    refine v_get hX (ci := 7) (k := 1) (cs_k_419 h0c) bc_7 (by decide) (by decide) in_7 w_1_234 dX9_passBlanks_1 (mvF (f := 701) (v := iI a0) rfl rfl (by simp (disch := omega) only [y_I_s_I, x_I_s_I, z_I_s_J, z_I_s_A, z_I_s_B, z_I_s_P, e0_to_, e_a0])) ?_
    refine v_aload_n hX dX9_passBlanks_4 (i := 0) rfl rfl ?_
    refine v_get hX (ci := 7) (k := 2) (cs_k_419 h0c) bc_7 (by decide) (by decide) in_7 w_1_235 dX9_passBlanks_5 (mvF (f := 702) (v := iI to_) rfl rfl (by simp (disch := omega) only [y_I_s_I, x_I_s_I, z_I_s_J, z_I_s_A, z_I_s_B, z_I_s_P, e0_to_, e_a0])) ?_
    refine u_icmp_ge hX (tgt := 38) dX9_passBlanks_8 (by decide) ⟨by omega, by omega⟩ ⟨by omega, by omega⟩ (fun h1_ => ?_) (fun h1_ => ?_)
    ·
      exact v_return hX hE dX9_passBlanks_38 (by omega) (by omega) ⟨rfl, fr0, a0, rfl, (by simp (disch := omega) only [y_I_s_I, x_I_s_I, z_I_s_J, z_I_s_A, z_I_s_B, z_I_s_P, e0_to_, e_a0]), ⟨by omega, by omega⟩, (by omega)⟩
    ·
      refine v_aload_n hX dX9_passBlanks_11 (i := 0) rfl rfl ?_
      refine v_get hX (ci := 7) (k := 0) (cs_k_419 h0c) bc_7 (by decide) (by decide) in_7 w_1_233 dX9_passBlanks_12 (mvP (f := 700) (q := bv) rfl rfl (by simp (disch := omega) only [y_P_s_P, x_P_s_P, z_P_s_I, z_P_s_J, z_P_s_A, z_P_s_B, e0_bv])) ?_
      refine v_aload_n hX dX9_passBlanks_15 (i := 0) rfl rfl ?_
      refine v_get hX (ci := 7) (k := 1) (cs_k_419 h0c) bc_7 (by decide) (by decide) in_7 w_1_234 dX9_passBlanks_16 (mvF (f := 701) (v := iI a0) rfl rfl (by simp (disch := omega) only [y_I_s_I, x_I_s_I, z_I_s_J, z_I_s_A, z_I_s_B, z_I_s_P, e0_to_, e_a0])) ?_
      refine u_bald hX (L := Lbv) k0_bv l0_bv ⟨by omega, by omega⟩ (by omega) dX9_passBlanks_19 (fun v2_ e_v2_ b_v2_ => ?_)
      try simp (disch := omega) only [zr_I, zr_J, zr_B, rA_A, zl_I, zl_J, zl_A, lA_B, zr_P] at e_v2_
      refine v_bipush hX (v := iI 32) dX9_passBlanks_20 (by decide) ?_
      refine u_icmp_ne hX (tgt := 38) dX9_passBlanks_22 (by decide) ⟨by omega, by omega⟩ ⟨by omega, by omega⟩ (fun h3_ => ?_) (fun h3_ => ?_)
      ·
        exact v_return hX hE dX9_passBlanks_38 (by omega) (by omega) ⟨rfl, fr0, a0, rfl, (by simp (disch := omega) only [y_I_s_I, x_I_s_I, z_I_s_J, z_I_s_A, z_I_s_B, z_I_s_P, e0_to_, e_a0]), ⟨by omega, by omega⟩, (by omega)⟩
      ·
        refine v_aload_n hX dX9_passBlanks_25 (i := 0) rfl rfl ?_
        refine v_dup hX dX9_passBlanks_26 rfl ?_
        refine v_get hX (ci := 7) (k := 1) (cs_k_419 h0c) bc_7 (by decide) (by decide) in_7 w_1_234 dX9_passBlanks_27 (mvF (f := 701) (v := iI a0) rfl rfl (by simp (disch := omega) only [y_I_s_I, x_I_s_I, z_I_s_J, z_I_s_A, z_I_s_B, z_I_s_P, e0_to_, e_a0])) ?_
        refine v_iconst hX (v := iI 1) dX9_passBlanks_30 rfl ?_
        refine u_iadd hX dX9_passBlanks_31 ?_
        refine v_putI hX (ci := 7) (k := 1) (f := 701) (cs_k_419 h0c) bc_7 (by decide) (by decide) in_7 tyX9_ok nmX9 w_1_234 (Or.inl rfl) rfl rfl dX9_passBlanks_32 rfl rfl ?_
        refine v_goto hX (tgt := 0) dX9_passBlanks_35 (by decide) ?_
        exact ih0 _ (by omega) _ (a0 + 1) (fr0.sI (by decide) ⟨by omega, by omega⟩) (by simp (disch := omega) only [y_I_s_I, x_I_s_I, z_I_s_J, z_I_s_A, z_I_s_B, z_I_s_P, e0_to_, e_a0]) ⟨by omega, by omega⟩ (by omega) rfl
  change b_V X S z 0 0 0 [(0, .ref (x + 419))] []
  exact L0 _ _ at_ (cFr.rf _ _) (by simp (disch := omega) only [y_I_s_I, x_I_s_I, z_I_s_J, z_I_s_A, z_I_s_B, z_I_s_P, e_at_, e_to_]) ⟨by omega, by omega⟩ (by omega) rfl
set_option maxRecDepth 100000 in
set_option maxHeartbeats 4000000 in
theorem t_isAtEnd {kn : Nat → Nat} {B : Nat} {S : b_M} {z x w : Nat} {at_ : Int} {to_ : Int} {bv Lbv : Nat} (h : cS S x) (e_at_ : m_I S 701 (x + 419) = iI at_) (b_at_ : -2147483648 ≤ at_ ∧ at_ < 2147483648) (e_to_ : m_I S 702 (x + 419) = iI to_) (b_to_ : -2147483648 ≤ to_ ∧ to_ < 2147483648) (e_bv : m_P S 700 (x + 419) = some bv) (k_bv : m_K S bv = 12) (l_bv : m_L S bv = Lbv) (c_bv : (Lbv : Int) ≤ 2097152) (p : 0 ≤ at_ ∧ at_ ≤ to_ ∧ to_ ≤ (Lbv : Int)) : b_C kn B yX9_isAtEnd cX9_isAtEnd 1 (some .boolean) 1 20 0 0 [.ref (x + 419)] S z (fun r S' z' => z = z' ∧ cFr [701] [] [] w S S' x ∧ ∃ q a1 : Int, r = some (.int (iI q)) ∧ (q = 0 ∨ q = 1) ∧ m_I S' 701 (x + 419) = iI a1 ∧ (-2147483648 ≤ a1 ∧ a1 < 2147483648) ∧ (at_ ≤ a1 ∧ a1 ≤ to_)) (fun _ _ _ => False) := by
  refine b_enter (by decide) (Nat.le_of_ble_eq_true rfl) ?_
  intro X hX hE hnL hkn hB hI_
  subst hkn; subst hB
  clear hI_
  change b_V X S z 0 0 0 [(0, .ref (x + 419))] []
  refine v_aload_n hX dX9_isAtEnd_0 (i := 0) rfl rfl ?_
  refine v_callV hX (n := 0) (t_passBlanks (S := S) (x := x) (w := w) (at_ := at_) (to_ := to_) (bv := bv) (Lbv := Lbv) h (by simp (disch := omega) only [y_I_s_I, x_I_s_I, z_I_s_J, z_I_s_A, z_I_s_B, z_I_s_P, e_at_, e_to_]) ⟨by omega, by omega⟩ (by simp (disch := omega) only [y_I_s_I, x_I_s_I, z_I_s_J, z_I_s_A, z_I_s_B, z_I_s_P, e_at_, e_to_]) ⟨by omega, by omega⟩ (by simp (disch := omega) only [y_P_s_P, x_P_s_P, z_P_s_I, z_P_s_J, z_P_s_A, z_P_s_B, e_bv]) k_bv l_bv (by omega) (by omega)) (cs_k_419 h) bc_7 (by decide) w_3_162 w_3_163 w_3_164 w_1_11 w_3_165 (by decide +kernel) rfl ⟨by decide, by decide⟩ ⟨by omega, by omega⟩ (Nat.le_of_ble_eq_true rfl) rfl dX9_isAtEnd_1 (fun _ _ _ q => q) ?_
  rintro r1_ S1_ z1_ ⟨rfl, f1_, v2_, rfl, e_v2_, b_v2_, q1_⟩
  have y3_ : m_I S1_ 702 (x + 419) = iI to_ := (f1_.2.1 702 (by decide) _).trans (by simp (disch := omega) only [y_I_s_I, x_I_s_I, z_I_s_J, z_I_s_A, z_I_s_B, z_I_s_P, e_at_, e_to_])
  have y4_ : m_P S1_ 700 (x + 419) = some bv := (f1_.2.2.1 700 (by decide) _).trans (by simp (disch := omega) only [y_P_s_P, x_P_s_P, z_P_s_I, z_P_s_J, z_P_s_A, z_P_s_B, e_bv])
  have k5_ : m_K S1_ bv = 12 := (f1_.2.2.2.2 _ (by rw [show m_K S bv = 12 from k_bv]; decide)).1.trans k_bv
  have l6_ : m_L S1_ bv = Lbv := (f1_.2.2.2.2 _ (by rw [show m_K S bv = 12 from k_bv]; decide)).2.1.trans l_bv
  have h1_ : cS S1_ x := f1_.keep (by decide) h
  refine v_aload_n hX dX9_isAtEnd_4 (i := 0) rfl rfl ?_
  refine v_get hX (ci := 7) (k := 1) (cs_k_419 h1_) bc_7 (by decide) (by decide) in_7 w_1_234 dX9_isAtEnd_5 (mvF (f := 701) (v := iI v2_) rfl rfl (by simp (disch := omega) only [y_I_s_I, x_I_s_I, z_I_s_J, z_I_s_A, z_I_s_B, z_I_s_P, y3_, e_v2_])) ?_
  refine v_aload_n hX dX9_isAtEnd_8 (i := 0) rfl rfl ?_
  refine v_get hX (ci := 7) (k := 2) (cs_k_419 h1_) bc_7 (by decide) (by decide) in_7 w_1_235 dX9_isAtEnd_9 (mvF (f := 702) (v := iI to_) rfl rfl (by simp (disch := omega) only [y_I_s_I, x_I_s_I, z_I_s_J, z_I_s_A, z_I_s_B, z_I_s_P, y3_, e_v2_])) ?_
  refine u_icmp_lt hX (tgt := 19) dX9_isAtEnd_12 (by decide) ⟨by omega, by omega⟩ ⟨by omega, by omega⟩ (fun h7_ => ?_) (fun h7_ => ?_)
  ·
    refine v_iconst hX (v := iI 0) dX9_isAtEnd_19 rfl ?_
    exact v_zreturn hX (nar_b (by omega)) hE dX9_isAtEnd_20 (by omega) (by omega) ⟨rfl, ((cFr.rf _ _).tr (f1_.mono (by decide) (by decide) (by decide))), 0, v2_, rfl, (by omega), (by simp (disch := omega) only [y_I_s_I, x_I_s_I, z_I_s_J, z_I_s_A, z_I_s_B, z_I_s_P, y3_, e_v2_]), ⟨by omega, by omega⟩, (by omega)⟩
  ·
    refine v_iconst hX (v := iI 1) dX9_isAtEnd_15 rfl ?_
    refine v_goto hX (tgt := 20) dX9_isAtEnd_16 (by decide) ?_
    exact v_zreturn hX (nar_b (by omega)) hE dX9_isAtEnd_20 (by omega) (by omega) ⟨rfl, ((cFr.rf _ _).tr (f1_.mono (by decide) (by decide) (by decide))), 1, v2_, rfl, (by omega), (by simp (disch := omega) only [y_I_s_I, x_I_s_I, z_I_s_J, z_I_s_A, z_I_s_B, z_I_s_P, y3_, e_v2_]), ⟨by omega, by omega⟩, (by omega)⟩
set_option maxRecDepth 100000 in
set_option maxHeartbeats 4000000 in
theorem t_takes {kn : Nat → Nat} {B : Nat} {S : b_M} {z x w : Nat} {c : Int} {at_ : Int} {to_ : Int} {bv Lbv : Nat} (h : cS S x) (e_at_ : m_I S 701 (x + 419) = iI at_) (b_at_ : -2147483648 ≤ at_ ∧ at_ < 2147483648) (e_to_ : m_I S 702 (x + 419) = iI to_) (b_to_ : -2147483648 ≤ to_ ∧ to_ < 2147483648) (e_bv : m_P S 700 (x + 419) = some bv) (k_bv : m_K S bv = 12) (l_bv : m_L S bv = Lbv) (c_bv : (Lbv : Int) ≤ 2097152) (b_c : -2147483648 ≤ c ∧ c < 2147483648) (p : 0 ≤ at_ ∧ at_ ≤ to_ ∧ to_ ≤ (Lbv : Int)) : b_C kn B yX9_takes cX9_takes 2 (some .boolean) 1 20 0 0 [.ref (x + 419), .int (iI c)] S z (fun r S' z' => z = z' ∧ cFr [701] [] [] w S S' x ∧ ∃ q a1 : Int, r = some (.int (iI q)) ∧ (q = 0 ∨ q = 1) ∧ m_I S' 701 (x + 419) = iI a1 ∧ (-2147483648 ≤ a1 ∧ a1 < 2147483648) ∧ (at_ ≤ a1 ∧ a1 ≤ to_)) (fun _ _ _ => False) := by
  refine b_enter (by decide) (Nat.le_of_ble_eq_true rfl) ?_
  intro X hX hE hnL hkn hB hI_
  subst hkn; subst hB
  clear hI_
  change b_V X S z 0 0 0 [(0, .ref (x + 419)), (1, .int (iI c))] []
  refine v_aload_n hX dX9_takes_0 (i := 0) rfl rfl ?_
  refine v_callV hX (n := 0) (t_passBlanks (S := S) (x := x) (w := w) (at_ := at_) (to_ := to_) (bv := bv) (Lbv := Lbv) h (by simp (disch := omega) only [y_I_s_I, x_I_s_I, z_I_s_J, z_I_s_A, z_I_s_B, z_I_s_P, e_at_, e_to_]) ⟨by omega, by omega⟩ (by simp (disch := omega) only [y_I_s_I, x_I_s_I, z_I_s_J, z_I_s_A, z_I_s_B, z_I_s_P, e_at_, e_to_]) ⟨by omega, by omega⟩ (by simp (disch := omega) only [y_P_s_P, x_P_s_P, z_P_s_I, z_P_s_J, z_P_s_A, z_P_s_B, e_bv]) k_bv l_bv (by omega) (by omega)) (cs_k_419 h) bc_7 (by decide) w_3_162 w_3_163 w_3_164 w_1_11 w_3_165 (by decide +kernel) rfl ⟨by decide, by decide⟩ ⟨by omega, by omega⟩ (Nat.le_of_ble_eq_true rfl) rfl dX9_takes_1 (fun _ _ _ q => q) ?_
  rintro r1_ S1_ z1_ ⟨rfl, f1_, v2_, rfl, e_v2_, b_v2_, q1_⟩
  have y3_ : m_I S1_ 702 (x + 419) = iI to_ := (f1_.2.1 702 (by decide) _).trans (by simp (disch := omega) only [y_I_s_I, x_I_s_I, z_I_s_J, z_I_s_A, z_I_s_B, z_I_s_P, e_at_, e_to_])
  have y4_ : m_P S1_ 700 (x + 419) = some bv := (f1_.2.2.1 700 (by decide) _).trans (by simp (disch := omega) only [y_P_s_P, x_P_s_P, z_P_s_I, z_P_s_J, z_P_s_A, z_P_s_B, e_bv])
  have k5_ : m_K S1_ bv = 12 := (f1_.2.2.2.2 _ (by rw [show m_K S bv = 12 from k_bv]; decide)).1.trans k_bv
  have l6_ : m_L S1_ bv = Lbv := (f1_.2.2.2.2 _ (by rw [show m_K S bv = 12 from k_bv]; decide)).2.1.trans l_bv
  have h1_ : cS S1_ x := f1_.keep (by decide) h
  refine v_aload_n hX dX9_takes_4 (i := 0) rfl rfl ?_
  refine v_get hX (ci := 7) (k := 1) (cs_k_419 h1_) bc_7 (by decide) (by decide) in_7 w_1_234 dX9_takes_5 (mvF (f := 701) (v := iI v2_) rfl rfl (by simp (disch := omega) only [y_I_s_I, x_I_s_I, z_I_s_J, z_I_s_A, z_I_s_B, z_I_s_P, y3_, e_v2_])) ?_
  refine v_aload_n hX dX9_takes_8 (i := 0) rfl rfl ?_
  refine v_get hX (ci := 7) (k := 2) (cs_k_419 h1_) bc_7 (by decide) (by decide) in_7 w_1_235 dX9_takes_9 (mvF (f := 702) (v := iI to_) rfl rfl (by simp (disch := omega) only [y_I_s_I, x_I_s_I, z_I_s_J, z_I_s_A, z_I_s_B, z_I_s_P, y3_, e_v2_])) ?_
  refine u_icmp_ge hX (tgt := 28) dX9_takes_12 (by decide) ⟨by omega, by omega⟩ ⟨by omega, by omega⟩ (fun h7_ => ?_) (fun h7_ => ?_)
  ·
    refine v_iconst hX (v := iI 0) dX9_takes_28 rfl ?_
    exact v_zreturn hX (nar_b (by omega)) hE dX9_takes_29 (by omega) (by omega) ⟨rfl, ((cFr.rf _ _).tr (f1_.mono (by decide) (by decide) (by decide))), 0, v2_, rfl, (by omega), (by simp (disch := omega) only [y_I_s_I, x_I_s_I, z_I_s_J, z_I_s_A, z_I_s_B, z_I_s_P, y3_, e_v2_]), ⟨by omega, by omega⟩, (by omega)⟩
  ·
    refine v_aload_n hX dX9_takes_15 (i := 0) rfl rfl ?_
    refine v_get hX (ci := 7) (k := 0) (cs_k_419 h1_) bc_7 (by decide) (by decide) in_7 w_1_233 dX9_takes_16 (mvP (f := 700) (q := bv) rfl rfl (by simp (disch := omega) only [y_P_s_P, x_P_s_P, z_P_s_I, z_P_s_J, z_P_s_A, z_P_s_B, y4_])) ?_
    refine v_aload_n hX dX9_takes_19 (i := 0) rfl rfl ?_
    refine v_get hX (ci := 7) (k := 1) (cs_k_419 h1_) bc_7 (by decide) (by decide) in_7 w_1_234 dX9_takes_20 (mvF (f := 701) (v := iI v2_) rfl rfl (by simp (disch := omega) only [y_I_s_I, x_I_s_I, z_I_s_J, z_I_s_A, z_I_s_B, z_I_s_P, y3_, e_v2_])) ?_
    refine u_bald hX (L := Lbv) k5_ l6_ ⟨by omega, by omega⟩ (by omega) dX9_takes_23 (fun v8_ e_v8_ b_v8_ => ?_)
    try simp (disch := omega) only [zr_I, zr_J, zr_B, rA_A, zl_I, zl_J, zl_A, lA_B, zr_P] at e_v8_
    refine v_iload_n hX dX9_takes_24 (i := 1) rfl rfl ?_
    refine u_icmp_eq hX (tgt := 30) dX9_takes_25 (by decide) ⟨by omega, by omega⟩ ⟨by omega, by omega⟩ (fun h9_ => ?_) (fun h9_ => ?_)
    ·
      refine v_aload_n hX dX9_takes_30 (i := 0) rfl rfl ?_
      refine v_dup hX dX9_takes_31 rfl ?_
      refine v_get hX (ci := 7) (k := 1) (cs_k_419 h1_) bc_7 (by decide) (by decide) in_7 w_1_234 dX9_takes_32 (mvF (f := 701) (v := iI v2_) rfl rfl (by simp (disch := omega) only [y_I_s_I, x_I_s_I, z_I_s_J, z_I_s_A, z_I_s_B, z_I_s_P, y3_, e_v2_])) ?_
      refine v_iconst hX (v := iI 1) dX9_takes_35 rfl ?_
      refine u_iadd hX dX9_takes_36 ?_
      refine v_putI hX (ci := 7) (k := 1) (f := 701) (cs_k_419 h1_) bc_7 (by decide) (by decide) in_7 tyX9_ok nmX9 w_1_234 (Or.inl rfl) rfl rfl dX9_takes_37 rfl rfl ?_
      refine v_iconst hX (v := iI 1) dX9_takes_40 rfl ?_
      exact v_zreturn hX (nar_b (by omega)) hE dX9_takes_41 (by omega) (by omega) ⟨rfl, (((cFr.rf _ _).tr (f1_.mono (by decide) (by decide) (by decide))).sI (by decide) ⟨by omega, by omega⟩), 1, (v2_ + 1), rfl, (by omega), (by simp (disch := omega) only [y_I_s_I, x_I_s_I, z_I_s_J, z_I_s_A, z_I_s_B, z_I_s_P, y3_, e_v2_]), ⟨by omega, by omega⟩, (by omega)⟩
    ·
      refine v_iconst hX (v := iI 0) dX9_takes_28 rfl ?_
      exact v_zreturn hX (nar_b (by omega)) hE dX9_takes_29 (by omega) (by omega) ⟨rfl, ((cFr.rf _ _).tr (f1_.mono (by decide) (by decide) (by decide))), 0, v2_, rfl, (by omega), (by simp (disch := omega) only [y_I_s_I, x_I_s_I, z_I_s_J, z_I_s_A, z_I_s_B, z_I_s_P, y3_, e_v2_]), ⟨by omega, by omega⟩, (by omega)⟩
set_option maxRecDepth 100000 in
set_option maxHeartbeats 4000000 in
theorem t_readSign {kn : Nat → Nat} {B : Nat} {S : b_M} {z x w : Nat} {at_ : Int} {to_ : Int} {bv Lbv : Nat} (h : cS S x) (e_at_ : m_I S 701 (x + 419) = iI at_) (b_at_ : -2147483648 ≤ at_ ∧ at_ < 2147483648) (e_to_ : m_I S 702 (x + 419) = iI to_) (b_to_ : -2147483648 ≤ to_ ∧ to_ < 2147483648) (e_bv : m_P S 700 (x + 419) = some bv) (k_bv : m_K S bv = 12) (l_bv : m_L S bv = Lbv) (c_bv : (Lbv : Int) ≤ 2097152) (p : 0 ≤ at_ ∧ at_ ≤ to_ ∧ to_ ≤ (Lbv : Int)) : b_C kn B yX9_readSign cX9_readSign 1 (some .int) 2 41 0 0 [.ref (x + 419)] S z (fun r S' z' => z = z' ∧ cFr [701] [] [] w S S' x ∧ ∃ q a1 : Int, r = some (.int (iI q)) ∧ (-2147483648 ≤ q ∧ q < 2147483648) ∧ m_I S' 701 (x + 419) = iI a1 ∧ (-2147483648 ≤ a1 ∧ a1 < 2147483648) ∧ (at_ ≤ a1 ∧ a1 ≤ to_ ∧ -1 ≤ q ∧ q ≤ 1)) (fun _ _ _ => False) := by
  refine b_enter (by decide) (Nat.le_of_ble_eq_true rfl) ?_
  intro X hX hE hnL hkn hB hI_
  subst hkn; subst hB
  clear hI_
  change b_V X S z 0 0 0 [(0, .ref (x + 419))] []
  refine v_aload_n hX dX9_readSign_0 (i := 0) rfl rfl ?_
  refine v_bipush hX (v := iI 43) dX9_readSign_1 (by decide) ?_
  refine v_callV hX (n := 1) (t_takes (S := S) (x := x) (w := w) (c := 43) (at_ := at_) (to_ := to_) (bv := bv) (Lbv := Lbv) h (by simp (disch := omega) only [y_I_s_I, x_I_s_I, z_I_s_J, z_I_s_A, z_I_s_B, z_I_s_P, e_at_, e_to_]) ⟨by omega, by omega⟩ (by simp (disch := omega) only [y_I_s_I, x_I_s_I, z_I_s_J, z_I_s_A, z_I_s_B, z_I_s_P, e_at_, e_to_]) ⟨by omega, by omega⟩ (by simp (disch := omega) only [y_P_s_P, x_P_s_P, z_P_s_I, z_P_s_J, z_P_s_A, z_P_s_B, e_bv]) k_bv l_bv (by omega) ⟨by omega, by omega⟩ (by omega)) (cs_k_419 h) bc_7 (by decide) w_4_102 w_4_60 w_4_61 w_1_11 w_4_62 (by decide +kernel) rfl ⟨by decide, by decide⟩ ⟨by omega, by omega⟩ (Nat.le_of_ble_eq_true rfl) rfl dX9_readSign_3 (fun _ _ _ q => q) ?_
  rintro r1_ S1_ z1_ ⟨rfl, f1_, v2_, v3_, rfl, b_v2_, e_v3_, b_v3_, q1_⟩
  have y4_ : m_I S1_ 702 (x + 419) = iI to_ := (f1_.2.1 702 (by decide) _).trans (by simp (disch := omega) only [y_I_s_I, x_I_s_I, z_I_s_J, z_I_s_A, z_I_s_B, z_I_s_P, e_at_, e_to_])
  have y5_ : m_P S1_ 700 (x + 419) = some bv := (f1_.2.2.1 700 (by decide) _).trans (by simp (disch := omega) only [y_P_s_P, x_P_s_P, z_P_s_I, z_P_s_J, z_P_s_A, z_P_s_B, e_bv])
  have k6_ : m_K S1_ bv = 12 := (f1_.2.2.2.2 _ (by rw [show m_K S bv = 12 from k_bv]; decide)).1.trans k_bv
  have l7_ : m_L S1_ bv = Lbv := (f1_.2.2.2.2 _ (by rw [show m_K S bv = 12 from k_bv]; decide)).2.1.trans l_bv
  have h1_ : cS S1_ x := f1_.keep (by decide) h
  refine u_if_eq hX (tgt := 11) dX9_readSign_6 (by decide) ⟨by omega, by omega⟩ (fun h8_ => ?_) (fun h8_ => ?_)
  ·
    refine v_aload_n hX dX9_readSign_11 (i := 0) rfl rfl ?_
    refine v_bipush hX (v := iI 45) dX9_readSign_12 (by decide) ?_
    refine v_callV hX (n := 1) (t_takes (S := S1_) (x := x) (w := w) (c := 45) (at_ := v3_) (to_ := to_) (bv := bv) (Lbv := Lbv) h1_ (by simp (disch := omega) only [y_I_s_I, x_I_s_I, z_I_s_J, z_I_s_A, z_I_s_B, z_I_s_P, y4_, e_v3_]) ⟨by omega, by omega⟩ (by simp (disch := omega) only [y_I_s_I, x_I_s_I, z_I_s_J, z_I_s_A, z_I_s_B, z_I_s_P, y4_, e_v3_]) ⟨by omega, by omega⟩ (by simp (disch := omega) only [y_P_s_P, x_P_s_P, z_P_s_I, z_P_s_J, z_P_s_A, z_P_s_B, y5_]) k6_ l7_ (by omega) ⟨by omega, by omega⟩ (by omega)) (cs_k_419 h1_) bc_7 (by decide) w_4_102 w_4_60 w_4_61 w_1_11 w_4_62 (by decide +kernel) rfl ⟨by decide, by decide⟩ ⟨by omega, by omega⟩ (Nat.le_of_ble_eq_true rfl) rfl dX9_readSign_14 (fun _ _ _ q => q) ?_
    rintro r9_ S9_ z9_ ⟨rfl, f9_, v10_, v11_, rfl, b_v10_, e_v11_, b_v11_, q9_⟩
    have y12_ : m_I S9_ 702 (x + 419) = iI to_ := (f9_.2.1 702 (by decide) _).trans (by simp (disch := omega) only [y_I_s_I, x_I_s_I, z_I_s_J, z_I_s_A, z_I_s_B, z_I_s_P, y4_, e_v3_])
    have y13_ : m_P S9_ 700 (x + 419) = some bv := (f9_.2.2.1 700 (by decide) _).trans (by simp (disch := omega) only [y_P_s_P, x_P_s_P, z_P_s_I, z_P_s_J, z_P_s_A, z_P_s_B, y5_])
    have k14_ : m_K S9_ bv = 12 := (f9_.2.2.2.2 _ (by rw [show m_K S1_ bv = 12 from k6_]; decide)).1.trans k6_
    have l15_ : m_L S9_ bv = Lbv := (f9_.2.2.2.2 _ (by rw [show m_K S1_ bv = 12 from k6_]; decide)).2.1.trans l7_
    have h9_ : cS S9_ x := f9_.keep (by decide) h1_
    refine u_if_eq hX (tgt := 24) dX9_readSign_17 (by decide) ⟨by omega, by omega⟩ (fun h16_ => ?_) (fun h16_ => ?_)
    ·
      refine v_iconst hX (v := iI 0) dX9_readSign_24 rfl ?_
      exact v_ireturn hX hE dX9_readSign_25 (by omega) (by omega) ⟨rfl, (((cFr.rf _ _).tr (f1_.mono (by decide) (by decide) (by decide))).tr (f9_.mono (by decide) (by decide) (by decide))), 0, v11_, rfl, ⟨by omega, by omega⟩, (by simp (disch := omega) only [y_I_s_I, x_I_s_I, z_I_s_J, z_I_s_A, z_I_s_B, z_I_s_P, y12_, e_v11_]), ⟨by omega, by omega⟩, (by omega)⟩
    ·
      refine v_iconst hX (v := iI (-1)) dX9_readSign_20 rfl ?_
      refine v_goto hX (tgt := 25) dX9_readSign_21 (by decide) ?_
      exact v_ireturn hX hE dX9_readSign_25 (by omega) (by omega) ⟨rfl, (((cFr.rf _ _).tr (f1_.mono (by decide) (by decide) (by decide))).tr (f9_.mono (by decide) (by decide) (by decide))), (-1), v11_, rfl, ⟨by omega, by omega⟩, (by simp (disch := omega) only [y_I_s_I, x_I_s_I, z_I_s_J, z_I_s_A, z_I_s_B, z_I_s_P, y12_, e_v11_]), ⟨by omega, by omega⟩, (by omega)⟩
  ·
    refine v_iconst hX (v := iI 1) dX9_readSign_9 rfl ?_
    exact v_ireturn hX hE dX9_readSign_10 (by omega) (by omega) ⟨rfl, ((cFr.rf _ _).tr (f1_.mono (by decide) (by decide) (by decide))), 1, v3_, rfl, ⟨by omega, by omega⟩, (by simp (disch := omega) only [y_I_s_I, x_I_s_I, z_I_s_J, z_I_s_A, z_I_s_B, z_I_s_P, y4_, e_v3_]), ⟨by omega, by omega⟩, (by omega)⟩
set_option maxRecDepth 100000 in
set_option maxHeartbeats 4000000 in
theorem t_readName {kn : Nat → Nat} {B : Nat} {S : b_M} {z x w : Nat} {at_ : Int} {to_ : Int} {bv Lbv : Nat} (h : cS S x) (e_at_ : m_I S 701 (x + 419) = iI at_) (b_at_ : -2147483648 ≤ at_ ∧ at_ < 2147483648) (e_to_ : m_I S 702 (x + 419) = iI to_) (b_to_ : -2147483648 ≤ to_ ∧ to_ < 2147483648) (e_bv : m_P S 700 (x + 419) = some bv) (k_bv : m_K S bv = 12) (l_bv : m_L S bv = Lbv) (c_bv : (Lbv : Int) ≤ 2097152) (p : 0 ≤ at_ ∧ at_ ≤ to_ ∧ to_ ≤ (Lbv : Int)) : b_C kn B yX9_readName cX9_readName 4 (some .long) 1 21 0 0 [.ref (x + 419)] S z (fun r S' z' => z = z' ∧ cFr [701, 703, 704] [] [] w S S' x ∧ ∃ w1 a1 f1 t1 : Int, r = some (.long (jJ w1)) ∧ (-9223372036854775808 ≤ w1 ∧ w1 < 9223372036854775808) ∧ m_I S' 701 (x + 419) = iI a1 ∧ (-2147483648 ≤ a1 ∧ a1 < 2147483648) ∧ m_I S' 703 (x + 419) = iI f1 ∧ (-2147483648 ≤ f1 ∧ f1 < 2147483648) ∧ m_I S' 704 (x + 419) = iI t1 ∧ (-2147483648 ≤ t1 ∧ t1 < 2147483648) ∧ (at_ ≤ a1 ∧ a1 ≤ to_ ∧ at_ ≤ f1 ∧ f1 ≤ t1 ∧ t1 ≤ to_)) (fun _ _ _ => False) := by
  refine b_enter (by decide) (Nat.le_of_ble_eq_true rfl) ?_
  intro X hX hE hnL hkn hB hI_
  subst hkn; subst hB
  clear hI_
  have L79 : ∀ (S79c : b_M) (a0 : Int) (f0 : Int) (wv : Int), cFr [701, 703, 704] [] [] w S S79c x → m_I S79c 701 (x + 419) = iI a0 → m_I S79c 703 (x + 419) = iI f0 → (-2147483648 ≤ a0 ∧ a0 < 2147483648) → (-2147483648 ≤ f0 ∧ f0 < 2147483648) → (at_ ≤ a0 ∧ a0 ≤ to_ ∧ f0 = at_ ∧ (-9223372036854775808 ≤ wv ∧ wv < 9223372036854775808)) → b_V X S79c z 0 0 79 [(1, .long (jJ wv)), (0, .ref (x + 419))] [] := by
    intro S79c a0 f0 wv fr79 e_a0 e_f0 b_a0 b_f0 p79_0
    have h79c : cS S79c x := fr79.keep (by decide) h
    have e79_to_ : m_I S79c 702 (x + 419) = iI to_ := (fr79.2.1 702 (by decide) _).trans e_to_
    have k79_bv : m_K S79c bv = 12 := (fr79.2.2.2.2 _ (by rw [k_bv]; decide)).1.trans k_bv
    have l79_bv : m_L S79c bv = Lbv := (fr79.2.2.2.2 _ (by rw [k_bv]; decide)).2.1.trans l_bv
    have e79_bv : m_P S79c 700 (x + 419) = some bv := (fr79.2.2.1 700 (by decide) _).trans e_bv
    refine v_aload_n hX dX9_readName_79 (i := 0) rfl rfl ?_
    refine v_aload_n hX dX9_readName_80 (i := 0) rfl rfl ?_
    refine v_get hX (ci := 7) (k := 1) (cs_k_419 h79c) bc_7 (by decide) (by decide) in_7 w_1_234 dX9_readName_81 (mvF (f := 701) (v := iI a0) rfl rfl (by simp (disch := omega) only [y_I_s_I, x_I_s_I, z_I_s_J, z_I_s_A, z_I_s_B, z_I_s_P, e79_to_, e_a0, e_f0])) ?_
    refine v_putI hX (ci := 7) (k := 4) (f := 704) (cs_k_419 h79c) bc_7 (by decide) (by decide) in_7 tyX9_ok nmX9 w_1_239 (Or.inl rfl) rfl rfl dX9_readName_84 rfl rfl ?_
    refine v_aload_n hX dX9_readName_87 (i := 0) rfl rfl ?_
    refine v_aload_n hX dX9_readName_88 (i := 0) rfl rfl ?_
    refine v_get hX (ci := 7) (k := 4) (cs_k_419 (cS.sI h79c)) bc_7 (by decide) (by decide) in_7 w_1_239 dX9_readName_89 (mvF (f := 704) (v := iI a0) rfl rfl (by simp (disch := omega) only [y_I_s_I, x_I_s_I, z_I_s_J, z_I_s_A, z_I_s_B, z_I_s_P, e79_to_, e_a0, e_f0])) ?_
    refine v_aload_n hX dX9_readName_92 (i := 0) rfl rfl ?_
    refine v_get hX (ci := 7) (k := 3) (cs_k_419 (cS.sI h79c)) bc_7 (by decide) (by decide) in_7 w_1_237 dX9_readName_93 (mvF (f := 703) (v := iI f0) rfl rfl (by simp (disch := omega) only [y_I_s_I, x_I_s_I, z_I_s_J, z_I_s_A, z_I_s_B, z_I_s_P, e79_to_, e_a0, e_f0])) ?_
    refine u_isub hX dX9_readName_96 ?_
    refine v_bipush hX (v := iI 10) dX9_readName_97 (by decide) ?_
    refine u_icmp_gt hX (tgt := 106) dX9_readName_99 (by decide) ⟨by omega, by omega⟩ ⟨by omega, by omega⟩ (fun h1_ => ?_) (fun h1_ => ?_)
    ·
      refine v_lconst hX (v := jJ 0) dX9_readName_106 rfl ?_
      refine v_putJ hX (ci := 7) (k := 5) (f := 705) (cs_k_419 (cS.sI h79c)) bc_7 (by decide) (by decide) in_7 tyX9_ok nmX9 w_2_1 (Or.inl rfl) rfl rfl dX9_readName_107 rfl rfl ?_
      refine v_aload_n hX dX9_readName_110 (i := 0) rfl rfl ?_
      obtain ⟨v2_, e_v2_, b_v2_⟩ := j_ex (m_J (s_J (s_I S79c 704 (x + 419) (iI a0)) 705 (x + 419) (jJ 0)) 705 (x + 419))
      refine v_get hX (ci := 7) (k := 5) (cs_k_419 (cS.sJ (cS.sI h79c))) bc_7 (by decide) (by decide) in_7 w_2_1 dX9_readName_111 (mvG (f := 705) (v := jJ v2_) rfl rfl e_v2_) ?_
      exact v_lreturn hX hE dX9_readName_114 (by omega) (by omega) ⟨rfl, ((fr79.sI (by decide) ⟨by omega, by omega⟩).sJ ⟨by omega, by omega⟩), v2_, a0, f0, a0, rfl, ⟨by omega, by omega⟩, (by simp (disch := omega) only [y_I_s_I, x_I_s_I, z_I_s_J, z_I_s_A, z_I_s_B, z_I_s_P, e79_to_, e_a0, e_f0]), ⟨by omega, by omega⟩, (by simp (disch := omega) only [y_I_s_I, x_I_s_I, z_I_s_J, z_I_s_A, z_I_s_B, z_I_s_P, e79_to_, e_a0, e_f0]), ⟨by omega, by omega⟩, (by simp (disch := omega) only [y_I_s_I, x_I_s_I, z_I_s_J, z_I_s_A, z_I_s_B, z_I_s_P, e79_to_, e_a0, e_f0]), ⟨by omega, by omega⟩, (by omega)⟩
    ·
      refine v_lload_n hX dX9_readName_102 (i := 1) rfl rfl ?_
      refine v_goto hX (tgt := 107) dX9_readName_103 (by decide) ?_
      refine v_putJ hX (ci := 7) (k := 5) (f := 705) (cs_k_419 (cS.sI h79c)) bc_7 (by decide) (by decide) in_7 tyX9_ok nmX9 w_2_1 (Or.inl rfl) rfl rfl dX9_readName_107 rfl rfl ?_
      refine v_aload_n hX dX9_readName_110 (i := 0) rfl rfl ?_
      obtain ⟨v3_, e_v3_, b_v3_⟩ := j_ex (m_J (s_J (s_I S79c 704 (x + 419) (iI a0)) 705 (x + 419) (jJ wv)) 705 (x + 419))
      refine v_get hX (ci := 7) (k := 5) (cs_k_419 (cS.sJ (cS.sI h79c))) bc_7 (by decide) (by decide) in_7 w_2_1 dX9_readName_111 (mvG (f := 705) (v := jJ v3_) rfl rfl e_v3_) ?_
      exact v_lreturn hX hE dX9_readName_114 (by omega) (by omega) ⟨rfl, ((fr79.sI (by decide) ⟨by omega, by omega⟩).sJ ⟨by omega, by omega⟩), v3_, a0, f0, a0, rfl, ⟨by omega, by omega⟩, (by simp (disch := omega) only [y_I_s_I, x_I_s_I, z_I_s_J, z_I_s_A, z_I_s_B, z_I_s_P, e79_to_, e_a0, e_f0]), ⟨by omega, by omega⟩, (by simp (disch := omega) only [y_I_s_I, x_I_s_I, z_I_s_J, z_I_s_A, z_I_s_B, z_I_s_P, e79_to_, e_a0, e_f0]), ⟨by omega, by omega⟩, (by simp (disch := omega) only [y_I_s_I, x_I_s_I, z_I_s_J, z_I_s_A, z_I_s_B, z_I_s_P, e79_to_, e_a0, e_f0]), ⟨by omega, by omega⟩, (by omega)⟩
  have L10 : ∀ (n10 : Nat) (S10c : b_M) (a0 : Int) (f0 : Int) (wv : Int), cFr [701, 703, 704] [] [] w S S10c x → m_I S10c 701 (x + 419) = iI a0 → m_I S10c 703 (x + 419) = iI f0 → (-2147483648 ≤ a0 ∧ a0 < 2147483648) → (-2147483648 ≤ f0 ∧ f0 < 2147483648) → (at_ ≤ a0 ∧ a0 ≤ to_ ∧ f0 = at_ ∧ (-9223372036854775808 ≤ wv ∧ wv < 9223372036854775808)) → (to_ - a0).toNat = n10 → b_V X S10c z 0 0 10 [(1, .long (jJ wv)), (0, .ref (x + 419))] [] := by
    intro n10
    induction n10 using Nat.strongRecOn with
    | _ n10 ih10 =>
    intro S10c a0 f0 wv fr10 e_a0 e_f0 b_a0 b_f0 p10_0 hm10
    have h10c : cS S10c x := fr10.keep (by decide) h
    have e10_to_ : m_I S10c 702 (x + 419) = iI to_ := (fr10.2.1 702 (by decide) _).trans e_to_
    have k10_bv : m_K S10c bv = 12 := (fr10.2.2.2.2 _ (by rw [k_bv]; decide)).1.trans k_bv
    have l10_bv : m_L S10c bv = Lbv := (fr10.2.2.2.2 _ (by rw [k_bv]; decide)).2.1.trans l_bv
    have e10_bv : m_P S10c 700 (x + 419) = some bv := (fr10.2.2.1 700 (by decide) _).trans e_bv
    refine v_aload_n hX dX9_readName_10 (i := 0) rfl rfl ?_
    refine v_get hX (ci := 7) (k := 1) (cs_k_419 h10c) bc_7 (by decide) (by decide) in_7 w_1_234 dX9_readName_11 (mvF (f := 701) (v := iI a0) rfl rfl (by simp (disch := omega) only [y_I_s_I, x_I_s_I, z_I_s_J, z_I_s_A, z_I_s_B, z_I_s_P, e10_to_, e_a0, e_f0])) ?_
    refine v_aload_n hX dX9_readName_14 (i := 0) rfl rfl ?_
    refine v_get hX (ci := 7) (k := 2) (cs_k_419 h10c) bc_7 (by decide) (by decide) in_7 w_1_235 dX9_readName_15 (mvF (f := 702) (v := iI to_) rfl rfl (by simp (disch := omega) only [y_I_s_I, x_I_s_I, z_I_s_J, z_I_s_A, z_I_s_B, z_I_s_P, e10_to_, e_a0, e_f0])) ?_
    refine u_icmp_ge hX (tgt := 79) dX9_readName_18 (by decide) ⟨by omega, by omega⟩ ⟨by omega, by omega⟩ (fun h4_ => ?_) (fun h4_ => ?_)
    ·
      exact L79 _ a0 f0 wv fr10 (by simp (disch := omega) only [y_I_s_I, x_I_s_I, z_I_s_J, z_I_s_A, z_I_s_B, z_I_s_P, e10_to_, e_a0, e_f0]) (by simp (disch := omega) only [y_I_s_I, x_I_s_I, z_I_s_J, z_I_s_A, z_I_s_B, z_I_s_P, e10_to_, e_a0, e_f0]) ⟨by omega, by omega⟩ ⟨by omega, by omega⟩ (by omega)
    ·
      refine v_aload_n hX dX9_readName_21 (i := 0) rfl rfl ?_
      refine v_get hX (ci := 7) (k := 0) (cs_k_419 h10c) bc_7 (by decide) (by decide) in_7 w_1_233 dX9_readName_22 (mvP (f := 700) (q := bv) rfl rfl (by simp (disch := omega) only [y_P_s_P, x_P_s_P, z_P_s_I, z_P_s_J, z_P_s_A, z_P_s_B, e10_bv])) ?_
      refine v_aload_n hX dX9_readName_25 (i := 0) rfl rfl ?_
      refine v_get hX (ci := 7) (k := 1) (cs_k_419 h10c) bc_7 (by decide) (by decide) in_7 w_1_234 dX9_readName_26 (mvF (f := 701) (v := iI a0) rfl rfl (by simp (disch := omega) only [y_I_s_I, x_I_s_I, z_I_s_J, z_I_s_A, z_I_s_B, z_I_s_P, e10_to_, e_a0, e_f0])) ?_
      refine u_bald hX (L := Lbv) k10_bv l10_bv ⟨by omega, by omega⟩ (by omega) dX9_readName_29 (fun v5_ e_v5_ b_v5_ => ?_)
      try simp (disch := omega) only [zr_I, zr_J, zr_B, rA_A, zl_I, zl_J, zl_A, lA_B, zr_P] at e_v5_
      refine v_aload_n hX dX9_readName_30 (i := 0) rfl rfl ?_
      refine v_get hX (ci := 7) (k := 1) (cs_k_419 h10c) bc_7 (by decide) (by decide) in_7 w_1_234 dX9_readName_31 (mvF (f := 701) (v := iI a0) rfl rfl (by simp (disch := omega) only [y_I_s_I, x_I_s_I, z_I_s_J, z_I_s_A, z_I_s_B, z_I_s_P, e10_to_, e_a0, e_f0])) ?_
      refine v_aload_n hX dX9_readName_34 (i := 0) rfl rfl ?_
      refine v_get hX (ci := 7) (k := 3) (cs_k_419 h10c) bc_7 (by decide) (by decide) in_7 w_1_237 dX9_readName_35 (mvF (f := 703) (v := iI f0) rfl rfl (by simp (disch := omega) only [y_I_s_I, x_I_s_I, z_I_s_J, z_I_s_A, z_I_s_B, z_I_s_P, e10_to_, e_a0, e_f0])) ?_
      refine u_icmp_le hX (tgt := 45) dX9_readName_38 (by decide) ⟨by omega, by omega⟩ ⟨by omega, by omega⟩ (fun h6_ => ?_) (fun h6_ => ?_)
      ·
        refine v_iconst hX (v := iI 0) dX9_readName_45 rfl ?_
        refine v_callS hX (n := 2) (t_packedDigit (S := S10c) (x := x) (w := w) (c := v5_) (bh := 0) h10c ⟨by omega, by omega⟩ ⟨by omega, by omega⟩) w_3_170 w_3_171 w_1_11 w_3_172 (by decide +kernel) rfl ⟨by decide, by decide⟩ ⟨by omega, by omega⟩ (Nat.le_of_ble_eq_true rfl) rfl dX9_readName_46 (fun _ _ _ q => q) ?_
        rintro r7_ S7_ z7_ ⟨rfl, rfl, v8_, rfl, b_v8_, q7_⟩
        refine v_istore_n hX (lv' := [(3, .int (iI v8_)), (1, .long (jJ wv)), (0, .ref (x + 419))]) dX9_readName_49 (i := 3) rfl (by rw [hnL]; decide) rfl ?_
        refine v_iload_n hX dX9_readName_50 (i := 3) rfl rfl ?_
        refine u_if_ne hX (tgt := 57) dX9_readName_51 (by decide) ⟨by omega, by omega⟩ (fun h9_ => ?_) (fun h9_ => ?_)
        ·
          refine v_lload_n hX dX9_readName_57 (i := 1) rfl rfl ?_
          refine v_ldc2 hX (v := jJ 38) dX9_readName_58 (show Cond.constantLong _ _ (jJ 38) ∈ b_Ws from w_3_173) ?_
          refine u_lmul hX dX9_readName_61 ?_
          refine v_iload_n hX dX9_readName_62 (i := 3) rfl rfl ?_
          refine u_i2l hX dX9_readName_63 ⟨by omega, by omega⟩ ?_
          refine u_ladd hX dX9_readName_64 ?_
          obtain ⟨v10_, e_v10_, b_v10_⟩ := j_ex (jJ ((wv * 38) + v8_))
          rw [e_v10_]
          refine v_lstore_n hX (lv' := [(1, .long (jJ v10_)), (3, .int (iI v8_)), (0, .ref (x + 419))]) dX9_readName_65 (i := 1) rfl (by rw [hnL]; decide) rfl ?_
          refine v_aload_n hX dX9_readName_66 (i := 0) rfl rfl ?_
          refine v_dup hX dX9_readName_67 rfl ?_
          refine v_get hX (ci := 7) (k := 1) (cs_k_419 h10c) bc_7 (by decide) (by decide) in_7 w_1_234 dX9_readName_68 (mvF (f := 701) (v := iI a0) rfl rfl (by simp (disch := omega) only [y_I_s_I, x_I_s_I, z_I_s_J, z_I_s_A, z_I_s_B, z_I_s_P, e10_to_, e_a0, e_f0])) ?_
          refine v_iconst hX (v := iI 1) dX9_readName_71 rfl ?_
          refine u_iadd hX dX9_readName_72 ?_
          refine v_putI hX (ci := 7) (k := 1) (f := 701) (cs_k_419 h10c) bc_7 (by decide) (by decide) in_7 tyX9_ok nmX9 w_1_234 (Or.inl rfl) rfl rfl dX9_readName_73 rfl rfl ?_
          refine v_goto hX (tgt := 10) dX9_readName_76 (by decide) ?_
          refine v_locals (lv' := [(1, .long (jJ v10_)), (0, .ref (x + 419))]) (by simp) ?_
          exact ih10 _ (by omega) _ (a0 + 1) f0 v10_ (fr10.sI (by decide) ⟨by omega, by omega⟩) (by simp (disch := omega) only [y_I_s_I, x_I_s_I, z_I_s_J, z_I_s_A, z_I_s_B, z_I_s_P, e10_to_, e_a0, e_f0]) (by simp (disch := omega) only [y_I_s_I, x_I_s_I, z_I_s_J, z_I_s_A, z_I_s_B, z_I_s_P, e10_to_, e_a0, e_f0]) ⟨by omega, by omega⟩ ⟨by omega, by omega⟩ (by omega) rfl
        ·
          refine v_goto hX (tgt := 79) dX9_readName_54 (by decide) ?_
          refine v_locals (lv' := [(1, .long (jJ wv)), (0, .ref (x + 419))]) (by simp) ?_
          exact L79 _ a0 f0 wv fr10 (by simp (disch := omega) only [y_I_s_I, x_I_s_I, z_I_s_J, z_I_s_A, z_I_s_B, z_I_s_P, e10_to_, e_a0, e_f0]) (by simp (disch := omega) only [y_I_s_I, x_I_s_I, z_I_s_J, z_I_s_A, z_I_s_B, z_I_s_P, e10_to_, e_a0, e_f0]) ⟨by omega, by omega⟩ ⟨by omega, by omega⟩ (by omega)
      ·
        refine v_iconst hX (v := iI 1) dX9_readName_41 rfl ?_
        refine v_goto hX (tgt := 46) dX9_readName_42 (by decide) ?_
        refine v_callS hX (n := 2) (t_packedDigit (S := S10c) (x := x) (w := w) (c := v5_) (bh := 1) h10c ⟨by omega, by omega⟩ ⟨by omega, by omega⟩) w_3_170 w_3_171 w_1_11 w_3_172 (by decide +kernel) rfl ⟨by decide, by decide⟩ ⟨by omega, by omega⟩ (Nat.le_of_ble_eq_true rfl) rfl dX9_readName_46 (fun _ _ _ q => q) ?_
        rintro r11_ S11_ z11_ ⟨rfl, rfl, v12_, rfl, b_v12_, q11_⟩
        refine v_istore_n hX (lv' := [(3, .int (iI v12_)), (1, .long (jJ wv)), (0, .ref (x + 419))]) dX9_readName_49 (i := 3) rfl (by rw [hnL]; decide) rfl ?_
        refine v_iload_n hX dX9_readName_50 (i := 3) rfl rfl ?_
        refine u_if_ne hX (tgt := 57) dX9_readName_51 (by decide) ⟨by omega, by omega⟩ (fun h13_ => ?_) (fun h13_ => ?_)
        ·
          refine v_lload_n hX dX9_readName_57 (i := 1) rfl rfl ?_
          refine v_ldc2 hX (v := jJ 38) dX9_readName_58 (show Cond.constantLong _ _ (jJ 38) ∈ b_Ws from w_3_173) ?_
          refine u_lmul hX dX9_readName_61 ?_
          refine v_iload_n hX dX9_readName_62 (i := 3) rfl rfl ?_
          refine u_i2l hX dX9_readName_63 ⟨by omega, by omega⟩ ?_
          refine u_ladd hX dX9_readName_64 ?_
          obtain ⟨v14_, e_v14_, b_v14_⟩ := j_ex (jJ ((wv * 38) + v12_))
          rw [e_v14_]
          refine v_lstore_n hX (lv' := [(1, .long (jJ v14_)), (3, .int (iI v12_)), (0, .ref (x + 419))]) dX9_readName_65 (i := 1) rfl (by rw [hnL]; decide) rfl ?_
          refine v_aload_n hX dX9_readName_66 (i := 0) rfl rfl ?_
          refine v_dup hX dX9_readName_67 rfl ?_
          refine v_get hX (ci := 7) (k := 1) (cs_k_419 h10c) bc_7 (by decide) (by decide) in_7 w_1_234 dX9_readName_68 (mvF (f := 701) (v := iI a0) rfl rfl (by simp (disch := omega) only [y_I_s_I, x_I_s_I, z_I_s_J, z_I_s_A, z_I_s_B, z_I_s_P, e10_to_, e_a0, e_f0])) ?_
          refine v_iconst hX (v := iI 1) dX9_readName_71 rfl ?_
          refine u_iadd hX dX9_readName_72 ?_
          refine v_putI hX (ci := 7) (k := 1) (f := 701) (cs_k_419 h10c) bc_7 (by decide) (by decide) in_7 tyX9_ok nmX9 w_1_234 (Or.inl rfl) rfl rfl dX9_readName_73 rfl rfl ?_
          refine v_goto hX (tgt := 10) dX9_readName_76 (by decide) ?_
          refine v_locals (lv' := [(1, .long (jJ v14_)), (0, .ref (x + 419))]) (by simp) ?_
          exact ih10 _ (by omega) _ (a0 + 1) f0 v14_ (fr10.sI (by decide) ⟨by omega, by omega⟩) (by simp (disch := omega) only [y_I_s_I, x_I_s_I, z_I_s_J, z_I_s_A, z_I_s_B, z_I_s_P, e10_to_, e_a0, e_f0]) (by simp (disch := omega) only [y_I_s_I, x_I_s_I, z_I_s_J, z_I_s_A, z_I_s_B, z_I_s_P, e10_to_, e_a0, e_f0]) ⟨by omega, by omega⟩ ⟨by omega, by omega⟩ (by omega) rfl
        ·
          refine v_goto hX (tgt := 79) dX9_readName_54 (by decide) ?_
          refine v_locals (lv' := [(1, .long (jJ wv)), (0, .ref (x + 419))]) (by simp) ?_
          exact L79 _ a0 f0 wv fr10 (by simp (disch := omega) only [y_I_s_I, x_I_s_I, z_I_s_J, z_I_s_A, z_I_s_B, z_I_s_P, e10_to_, e_a0, e_f0]) (by simp (disch := omega) only [y_I_s_I, x_I_s_I, z_I_s_J, z_I_s_A, z_I_s_B, z_I_s_P, e10_to_, e_a0, e_f0]) ⟨by omega, by omega⟩ ⟨by omega, by omega⟩ (by omega)
  change b_V X S z 0 0 0 [(0, .ref (x + 419))] []
  refine v_aload_n hX dX9_readName_0 (i := 0) rfl rfl ?_
  refine v_aload_n hX dX9_readName_1 (i := 0) rfl rfl ?_
  refine v_get hX (ci := 7) (k := 1) (cs_k_419 h) bc_7 (by decide) (by decide) in_7 w_1_234 dX9_readName_2 (mvF (f := 701) (v := iI at_) rfl rfl (by simp (disch := omega) only [y_I_s_I, x_I_s_I, z_I_s_J, z_I_s_A, z_I_s_B, z_I_s_P, e_at_, e_to_])) ?_
  refine v_putI hX (ci := 7) (k := 3) (f := 703) (cs_k_419 h) bc_7 (by decide) (by decide) in_7 tyX9_ok nmX9 w_1_237 (Or.inl rfl) rfl rfl dX9_readName_5 rfl rfl ?_
  refine v_lconst hX (v := jJ 0) dX9_readName_8 rfl ?_
  refine v_lstore_n hX (lv' := [(1, .long (jJ 0)), (0, .ref (x + 419))]) dX9_readName_9 (i := 1) rfl (by rw [hnL]; decide) rfl ?_
  exact L10 _ _ at_ at_ 0 ((cFr.rf _ _).sI (by decide) ⟨by omega, by omega⟩) (by simp (disch := omega) only [y_I_s_I, x_I_s_I, z_I_s_J, z_I_s_A, z_I_s_B, z_I_s_P, e_at_, e_to_]) (by simp (disch := omega) only [y_I_s_I, x_I_s_I, z_I_s_J, z_I_s_A, z_I_s_B, z_I_s_P, e_at_, e_to_]) ⟨by omega, by omega⟩ ⟨by omega, by omega⟩ (by omega) rfl
set_option maxRecDepth 100000 in
set_option maxHeartbeats 4000000 in
theorem t_readLabel {kn : Nat → Nat} {B : Nat} {S : b_M} {z x w : Nat} {at_ : Int} {to_ : Int} {bv Lbv : Nat} (h : cS S x) (e_at_ : m_I S 701 (x + 419) = iI at_) (b_at_ : -2147483648 ≤ at_ ∧ at_ < 2147483648) (e_to_ : m_I S 702 (x + 419) = iI to_) (b_to_ : -2147483648 ≤ to_ ∧ to_ < 2147483648) (e_bv : m_P S 700 (x + 419) = some bv) (k_bv : m_K S bv = 12) (l_bv : m_L S bv = Lbv) (c_bv : (Lbv : Int) ≤ 2097152) (p : 0 ≤ at_ ∧ at_ ≤ to_ ∧ to_ ≤ (Lbv : Int)) : b_C kn B yX9_readLabel cX9_readLabel 4 (some .long) 2 44 0 0 [.ref (x + 419)] S z (fun r S' z' => z = z' ∧ cFr [701, 703, 704] [] [] w S S' x ∧ ∃ w1 a1 f1 t1 : Int, r = some (.long (jJ w1)) ∧ (-9223372036854775808 ≤ w1 ∧ w1 < 9223372036854775808) ∧ m_I S' 701 (x + 419) = iI a1 ∧ (-2147483648 ≤ a1 ∧ a1 < 2147483648) ∧ m_I S' 703 (x + 419) = iI f1 ∧ (-2147483648 ≤ f1 ∧ f1 < 2147483648) ∧ m_I S' 704 (x + 419) = iI t1 ∧ (-2147483648 ≤ t1 ∧ t1 < 2147483648) ∧ (at_ ≤ a1 ∧ a1 ≤ to_ ∧ at_ ≤ f1 ∧ f1 ≤ t1 ∧ t1 ≤ to_)) (fun _ _ _ => False) := by
  refine b_enter (by decide) (Nat.le_of_ble_eq_true rfl) ?_
  intro X hX hE hnL hkn hB hI_
  subst hkn; subst hB
  clear hI_
  change b_V X S z 0 0 0 [(0, .ref (x + 419))] []
  refine v_aload_n hX dX9_readLabel_0 (i := 0) rfl rfl ?_
  refine v_callV hX (n := 0) (t_passBlanks (S := S) (x := x) (w := w) (at_ := at_) (to_ := to_) (bv := bv) (Lbv := Lbv) h (by simp (disch := omega) only [y_I_s_I, x_I_s_I, z_I_s_J, z_I_s_A, z_I_s_B, z_I_s_P, e_at_, e_to_]) ⟨by omega, by omega⟩ (by simp (disch := omega) only [y_I_s_I, x_I_s_I, z_I_s_J, z_I_s_A, z_I_s_B, z_I_s_P, e_at_, e_to_]) ⟨by omega, by omega⟩ (by simp (disch := omega) only [y_P_s_P, x_P_s_P, z_P_s_I, z_P_s_J, z_P_s_A, z_P_s_B, e_bv]) k_bv l_bv (by omega) (by omega)) (cs_k_419 h) bc_7 (by decide) w_3_162 w_3_163 w_3_164 w_1_11 w_3_165 (by decide +kernel) rfl ⟨by decide, by decide⟩ ⟨by omega, by omega⟩ (Nat.le_of_ble_eq_true rfl) rfl dX9_readLabel_1 (fun _ _ _ q => q) ?_
  rintro r1_ S1_ z1_ ⟨rfl, f1_, v2_, rfl, e_v2_, b_v2_, q1_⟩
  have y3_ : m_I S1_ 702 (x + 419) = iI to_ := (f1_.2.1 702 (by decide) _).trans (by simp (disch := omega) only [y_I_s_I, x_I_s_I, z_I_s_J, z_I_s_A, z_I_s_B, z_I_s_P, e_at_, e_to_])
  have y4_ : m_P S1_ 700 (x + 419) = some bv := (f1_.2.2.1 700 (by decide) _).trans (by simp (disch := omega) only [y_P_s_P, x_P_s_P, z_P_s_I, z_P_s_J, z_P_s_A, z_P_s_B, e_bv])
  have k5_ : m_K S1_ bv = 12 := (f1_.2.2.2.2 _ (by rw [show m_K S bv = 12 from k_bv]; decide)).1.trans k_bv
  have l6_ : m_L S1_ bv = Lbv := (f1_.2.2.2.2 _ (by rw [show m_K S bv = 12 from k_bv]; decide)).2.1.trans l_bv
  have h1_ : cS S1_ x := f1_.keep (by decide) h
  refine v_aload_n hX dX9_readLabel_4 (i := 0) rfl rfl ?_
  refine v_get hX (ci := 7) (k := 1) (cs_k_419 h1_) bc_7 (by decide) (by decide) in_7 w_1_234 dX9_readLabel_5 (mvF (f := 701) (v := iI v2_) rfl rfl (by simp (disch := omega) only [y_I_s_I, x_I_s_I, z_I_s_J, z_I_s_A, z_I_s_B, z_I_s_P, y3_, e_v2_])) ?_
  refine v_istore_n hX (lv' := [(1, .int (iI v2_)), (0, .ref (x + 419))]) dX9_readLabel_8 (i := 1) rfl (by rw [hnL]; decide) rfl ?_
  refine v_aload_n hX dX9_readLabel_9 (i := 0) rfl rfl ?_
  refine v_callV hX (n := 0) (t_readName (S := S1_) (x := x) (w := w) (at_ := v2_) (to_ := to_) (bv := bv) (Lbv := Lbv) h1_ (by simp (disch := omega) only [y_I_s_I, x_I_s_I, z_I_s_J, z_I_s_A, z_I_s_B, z_I_s_P, y3_, e_v2_]) ⟨by omega, by omega⟩ (by simp (disch := omega) only [y_I_s_I, x_I_s_I, z_I_s_J, z_I_s_A, z_I_s_B, z_I_s_P, y3_, e_v2_]) ⟨by omega, by omega⟩ (by simp (disch := omega) only [y_P_s_P, x_P_s_P, z_P_s_I, z_P_s_J, z_P_s_A, z_P_s_B, y4_]) k5_ l6_ (by omega) (by omega)) (cs_k_419 h1_) bc_7 (by decide) w_3_166 w_3_167 w_3_168 w_1_11 w_3_169 (by decide +kernel) rfl ⟨by decide, by decide⟩ ⟨by omega, by omega⟩ (Nat.le_of_ble_eq_true rfl) rfl dX9_readLabel_10 (fun _ _ _ q => q) ?_
  rintro r7_ S7_ z7_ ⟨rfl, f7_, v8_, v9_, v10_, v11_, rfl, b_v8_, e_v9_, b_v9_, e_v10_, b_v10_, e_v11_, b_v11_, q7_⟩
  have y12_ : m_I S7_ 702 (x + 419) = iI to_ := (f7_.2.1 702 (by decide) _).trans (by simp (disch := omega) only [y_I_s_I, x_I_s_I, z_I_s_J, z_I_s_A, z_I_s_B, z_I_s_P, y3_, e_v2_])
  have y13_ : m_P S7_ 700 (x + 419) = some bv := (f7_.2.2.1 700 (by decide) _).trans (by simp (disch := omega) only [y_P_s_P, x_P_s_P, z_P_s_I, z_P_s_J, z_P_s_A, z_P_s_B, y4_])
  have k14_ : m_K S7_ bv = 12 := (f7_.2.2.2.2 _ (by rw [show m_K S1_ bv = 12 from k5_]; decide)).1.trans k5_
  have l15_ : m_L S7_ bv = Lbv := (f7_.2.2.2.2 _ (by rw [show m_K S1_ bv = 12 from k5_]; decide)).2.1.trans l6_
  have h7_ : cS S7_ x := f7_.keep (by decide) h1_
  refine v_lstore_n hX (lv' := [(2, .long (jJ v8_)), (1, .int (iI v2_)), (0, .ref (x + 419))]) dX9_readLabel_13 (i := 2) rfl (by rw [hnL]; decide) rfl ?_
  refine v_aload_n hX dX9_readLabel_14 (i := 0) rfl rfl ?_
  refine v_get hX (ci := 7) (k := 1) (cs_k_419 h7_) bc_7 (by decide) (by decide) in_7 w_1_234 dX9_readLabel_15 (mvF (f := 701) (v := iI v9_) rfl rfl (by simp (disch := omega) only [y_I_s_I, x_I_s_I, z_I_s_J, z_I_s_A, z_I_s_B, z_I_s_P, y12_, e_v9_, e_v10_, e_v11_])) ?_
  refine v_aload_n hX dX9_readLabel_18 (i := 0) rfl rfl ?_
  refine v_get hX (ci := 7) (k := 2) (cs_k_419 h7_) bc_7 (by decide) (by decide) in_7 w_1_235 dX9_readLabel_19 (mvF (f := 702) (v := iI to_) rfl rfl (by simp (disch := omega) only [y_I_s_I, x_I_s_I, z_I_s_J, z_I_s_A, z_I_s_B, z_I_s_P, y12_, e_v9_, e_v10_, e_v11_])) ?_
  refine u_icmp_ge hX (tgt := 39) dX9_readLabel_22 (by decide) ⟨by omega, by omega⟩ ⟨by omega, by omega⟩ (fun h16_ => ?_) (fun h16_ => ?_)
  ·
    refine v_aload_n hX dX9_readLabel_39 (i := 0) rfl rfl ?_
    refine v_iload_n hX dX9_readLabel_40 (i := 1) rfl rfl ?_
    refine v_putI hX (ci := 7) (k := 1) (f := 701) (cs_k_419 h7_) bc_7 (by decide) (by decide) in_7 tyX9_ok nmX9 w_1_234 (Or.inl rfl) rfl rfl dX9_readLabel_41 rfl rfl ?_
    refine v_lconst hX (v := jJ 0) dX9_readLabel_44 rfl ?_
    exact v_lreturn hX hE dX9_readLabel_45 (by omega) (by omega) ⟨rfl, ((((cFr.rf _ _).tr (f1_.mono (by decide) (by decide) (by decide))).tr (f7_.mono (by decide) (by decide) (by decide))).sI (by decide) ⟨by omega, by omega⟩), 0, v2_, v10_, v11_, rfl, ⟨by omega, by omega⟩, (by simp (disch := omega) only [y_I_s_I, x_I_s_I, z_I_s_J, z_I_s_A, z_I_s_B, z_I_s_P, y12_, e_v9_, e_v10_, e_v11_]), ⟨by omega, by omega⟩, (by simp (disch := omega) only [y_I_s_I, x_I_s_I, z_I_s_J, z_I_s_A, z_I_s_B, z_I_s_P, y12_, e_v9_, e_v10_, e_v11_]), ⟨by omega, by omega⟩, (by simp (disch := omega) only [y_I_s_I, x_I_s_I, z_I_s_J, z_I_s_A, z_I_s_B, z_I_s_P, y12_, e_v9_, e_v10_, e_v11_]), ⟨by omega, by omega⟩, (by omega)⟩
  ·
    refine v_aload_n hX dX9_readLabel_25 (i := 0) rfl rfl ?_
    refine v_get hX (ci := 7) (k := 0) (cs_k_419 h7_) bc_7 (by decide) (by decide) in_7 w_1_233 dX9_readLabel_26 (mvP (f := 700) (q := bv) rfl rfl (by simp (disch := omega) only [y_P_s_P, x_P_s_P, z_P_s_I, z_P_s_J, z_P_s_A, z_P_s_B, y13_])) ?_
    refine v_aload_n hX dX9_readLabel_29 (i := 0) rfl rfl ?_
    refine v_get hX (ci := 7) (k := 1) (cs_k_419 h7_) bc_7 (by decide) (by decide) in_7 w_1_234 dX9_readLabel_30 (mvF (f := 701) (v := iI v9_) rfl rfl (by simp (disch := omega) only [y_I_s_I, x_I_s_I, z_I_s_J, z_I_s_A, z_I_s_B, z_I_s_P, y12_, e_v9_, e_v10_, e_v11_])) ?_
    refine u_bald hX (L := Lbv) k14_ l15_ ⟨by omega, by omega⟩ (by omega) dX9_readLabel_33 (fun v17_ e_v17_ b_v17_ => ?_)
    try simp (disch := omega) only [zr_I, zr_J, zr_B, rA_A, zl_I, zl_J, zl_A, lA_B, zr_P] at e_v17_
    refine v_bipush hX (v := iI 58) dX9_readLabel_34 (by decide) ?_
    refine u_icmp_eq hX (tgt := 46) dX9_readLabel_36 (by decide) ⟨by omega, by omega⟩ ⟨by omega, by omega⟩ (fun h18_ => ?_) (fun h18_ => ?_)
    ·
      refine v_aload_n hX dX9_readLabel_46 (i := 0) rfl rfl ?_
      refine v_dup hX dX9_readLabel_47 rfl ?_
      refine v_get hX (ci := 7) (k := 1) (cs_k_419 h7_) bc_7 (by decide) (by decide) in_7 w_1_234 dX9_readLabel_48 (mvF (f := 701) (v := iI v9_) rfl rfl (by simp (disch := omega) only [y_I_s_I, x_I_s_I, z_I_s_J, z_I_s_A, z_I_s_B, z_I_s_P, y12_, e_v9_, e_v10_, e_v11_])) ?_
      refine v_iconst hX (v := iI 1) dX9_readLabel_51 rfl ?_
      refine u_iadd hX dX9_readLabel_52 ?_
      refine v_putI hX (ci := 7) (k := 1) (f := 701) (cs_k_419 h7_) bc_7 (by decide) (by decide) in_7 tyX9_ok nmX9 w_1_234 (Or.inl rfl) rfl rfl dX9_readLabel_53 rfl rfl ?_
      refine v_lload_n hX dX9_readLabel_56 (i := 2) rfl rfl ?_
      refine v_lconst hX (v := jJ 0) dX9_readLabel_57 rfl ?_
      refine u_lcmp hX dX9_readLabel_58 ⟨by omega, by omega⟩ ⟨by omega, by omega⟩ (fun v19_ b_v19_ c_v19_ => ?_)
      refine u_if_ne hX (tgt := 68) dX9_readLabel_59 (by decide) ⟨by omega, by omega⟩ (fun h20_ => ?_) (fun h20_ => ?_)
      ·
        refine v_lload_n hX dX9_readLabel_68 (i := 2) rfl rfl ?_
        exact v_lreturn hX hE dX9_readLabel_69 (by omega) (by omega) ⟨rfl, ((((cFr.rf _ _).tr (f1_.mono (by decide) (by decide) (by decide))).tr (f7_.mono (by decide) (by decide) (by decide))).sI (by decide) ⟨by omega, by omega⟩), v8_, (v9_ + 1), v10_, v11_, rfl, ⟨by omega, by omega⟩, (by simp (disch := omega) only [y_I_s_I, x_I_s_I, z_I_s_J, z_I_s_A, z_I_s_B, z_I_s_P, y12_, e_v9_, e_v10_, e_v11_]), ⟨by omega, by omega⟩, (by simp (disch := omega) only [y_I_s_I, x_I_s_I, z_I_s_J, z_I_s_A, z_I_s_B, z_I_s_P, y12_, e_v9_, e_v10_, e_v11_]), ⟨by omega, by omega⟩, (by simp (disch := omega) only [y_I_s_I, x_I_s_I, z_I_s_J, z_I_s_A, z_I_s_B, z_I_s_P, y12_, e_v9_, e_v10_, e_v11_]), ⟨by omega, by omega⟩, (by omega)⟩
      ·
        refine v_ldc2 hX (v := jJ (-1)) dX9_readLabel_62 (show Cond.constantLong _ _ (jJ (-1)) ∈ b_Ws from w_3_174) ?_
        refine v_goto hX (tgt := 69) dX9_readLabel_65 (by decide) ?_
        exact v_lreturn hX hE dX9_readLabel_69 (by omega) (by omega) ⟨rfl, ((((cFr.rf _ _).tr (f1_.mono (by decide) (by decide) (by decide))).tr (f7_.mono (by decide) (by decide) (by decide))).sI (by decide) ⟨by omega, by omega⟩), (-1), (v9_ + 1), v10_, v11_, rfl, ⟨by omega, by omega⟩, (by simp (disch := omega) only [y_I_s_I, x_I_s_I, z_I_s_J, z_I_s_A, z_I_s_B, z_I_s_P, y12_, e_v9_, e_v10_, e_v11_]), ⟨by omega, by omega⟩, (by simp (disch := omega) only [y_I_s_I, x_I_s_I, z_I_s_J, z_I_s_A, z_I_s_B, z_I_s_P, y12_, e_v9_, e_v10_, e_v11_]), ⟨by omega, by omega⟩, (by simp (disch := omega) only [y_I_s_I, x_I_s_I, z_I_s_J, z_I_s_A, z_I_s_B, z_I_s_P, y12_, e_v9_, e_v10_, e_v11_]), ⟨by omega, by omega⟩, (by omega)⟩
    ·
      refine v_aload_n hX dX9_readLabel_39 (i := 0) rfl rfl ?_
      refine v_iload_n hX dX9_readLabel_40 (i := 1) rfl rfl ?_
      refine v_putI hX (ci := 7) (k := 1) (f := 701) (cs_k_419 h7_) bc_7 (by decide) (by decide) in_7 tyX9_ok nmX9 w_1_234 (Or.inl rfl) rfl rfl dX9_readLabel_41 rfl rfl ?_
      refine v_lconst hX (v := jJ 0) dX9_readLabel_44 rfl ?_
      exact v_lreturn hX hE dX9_readLabel_45 (by omega) (by omega) ⟨rfl, ((((cFr.rf _ _).tr (f1_.mono (by decide) (by decide) (by decide))).tr (f7_.mono (by decide) (by decide) (by decide))).sI (by decide) ⟨by omega, by omega⟩), 0, v2_, v10_, v11_, rfl, ⟨by omega, by omega⟩, (by simp (disch := omega) only [y_I_s_I, x_I_s_I, z_I_s_J, z_I_s_A, z_I_s_B, z_I_s_P, y12_, e_v9_, e_v10_, e_v11_]), ⟨by omega, by omega⟩, (by simp (disch := omega) only [y_I_s_I, x_I_s_I, z_I_s_J, z_I_s_A, z_I_s_B, z_I_s_P, y12_, e_v9_, e_v10_, e_v11_]), ⟨by omega, by omega⟩, (by simp (disch := omega) only [y_I_s_I, x_I_s_I, z_I_s_J, z_I_s_A, z_I_s_B, z_I_s_P, y12_, e_v9_, e_v10_, e_v11_]), ⟨by omega, by omega⟩, (by omega)⟩
set_option maxRecDepth 100000 in
set_option maxHeartbeats 4000000 in
theorem t_readDotted {kn : Nat → Nat} {B : Nat} {S : b_M} {z x w : Nat} {at_ : Int} {to_ : Int} {bv Lbv : Nat} (h : cS S x) (e_at_ : m_I S 701 (x + 419) = iI at_) (b_at_ : -2147483648 ≤ at_ ∧ at_ < 2147483648) (e_to_ : m_I S 702 (x + 419) = iI to_) (b_to_ : -2147483648 ≤ to_ ∧ to_ < 2147483648) (e_bv : m_P S 700 (x + 419) = some bv) (k_bv : m_K S bv = 12) (l_bv : m_L S bv = Lbv) (c_bv : (Lbv : Int) ≤ 2097152) (p : 0 ≤ at_ ∧ at_ ≤ to_ ∧ to_ ≤ (Lbv : Int) ∧ at_ < to_) : b_C kn B yX9_readDotted cX9_readDotted 1 (some .boolean) 0 0 0 0 [.ref (x + 419)] S z (fun r S' z' => z = z' ∧ cFr [701, 703, 704] [] [] w S S' x ∧ ∃ q a1 f1 t1 : Int, r = some (.int (iI q)) ∧ (q = 0 ∨ q = 1) ∧ m_I S' 701 (x + 419) = iI a1 ∧ (-2147483648 ≤ a1 ∧ a1 < 2147483648) ∧ m_I S' 703 (x + 419) = iI f1 ∧ (-2147483648 ≤ f1 ∧ f1 < 2147483648) ∧ m_I S' 704 (x + 419) = iI t1 ∧ (-2147483648 ≤ t1 ∧ t1 < 2147483648) ∧ (at_ ≤ a1 ∧ a1 ≤ to_ ∧ at_ ≤ f1 ∧ f1 ≤ t1 ∧ t1 ≤ to_)) (fun _ _ _ => False) := by
  refine b_enter (by decide) (Nat.le_of_ble_eq_true rfl) ?_
  intro X hX hE hnL hkn hB hI_
  subst hkn; subst hB
  clear hI_
  have L70 : ∀ (S70c : b_M) (a0 : Int) (f0 : Int), cFr [701, 703, 704] [] [] w S S70c x → m_I S70c 701 (x + 419) = iI a0 → m_I S70c 703 (x + 419) = iI f0 → (-2147483648 ≤ a0 ∧ a0 < 2147483648) → (-2147483648 ≤ f0 ∧ f0 < 2147483648) → (at_ ≤ a0 ∧ a0 ≤ to_ ∧ f0 = at_) → b_V X S70c z 0 0 70 [(0, .ref (x + 419))] [] := by
    intro S70c a0 f0 fr70 e_a0 e_f0 b_a0 b_f0 p70_0
    have h70c : cS S70c x := fr70.keep (by decide) h
    have e70_to_ : m_I S70c 702 (x + 419) = iI to_ := (fr70.2.1 702 (by decide) _).trans e_to_
    have k70_bv : m_K S70c bv = 12 := (fr70.2.2.2.2 _ (by rw [k_bv]; decide)).1.trans k_bv
    have l70_bv : m_L S70c bv = Lbv := (fr70.2.2.2.2 _ (by rw [k_bv]; decide)).2.1.trans l_bv
    have e70_bv : m_P S70c 700 (x + 419) = some bv := (fr70.2.2.1 700 (by decide) _).trans e_bv
    refine v_aload_n hX dX9_readDotted_70 (i := 0) rfl rfl ?_
    refine v_aload_n hX dX9_readDotted_71 (i := 0) rfl rfl ?_
    refine v_get hX (ci := 7) (k := 1) (cs_k_419 h70c) bc_7 (by decide) (by decide) in_7 w_1_234 dX9_readDotted_72 (mvF (f := 701) (v := iI a0) rfl rfl (by simp (disch := omega) only [y_I_s_I, x_I_s_I, z_I_s_J, z_I_s_A, z_I_s_B, z_I_s_P, e70_to_, e_a0, e_f0])) ?_
    refine v_putI hX (ci := 7) (k := 4) (f := 704) (cs_k_419 h70c) bc_7 (by decide) (by decide) in_7 tyX9_ok nmX9 w_1_239 (Or.inl rfl) rfl rfl dX9_readDotted_75 rfl rfl ?_
    refine v_aload_n hX dX9_readDotted_78 (i := 0) rfl rfl ?_
    refine v_lconst hX (v := jJ 0) dX9_readDotted_79 rfl ?_
    refine v_putJ hX (ci := 7) (k := 5) (f := 705) (cs_k_419 (cS.sI h70c)) bc_7 (by decide) (by decide) in_7 tyX9_ok nmX9 w_2_1 (Or.inl rfl) rfl rfl dX9_readDotted_80 rfl rfl ?_
    refine v_aload_n hX dX9_readDotted_83 (i := 0) rfl rfl ?_
    refine v_get hX (ci := 7) (k := 4) (cs_k_419 (cS.sJ (cS.sI h70c))) bc_7 (by decide) (by decide) in_7 w_1_239 dX9_readDotted_84 (mvF (f := 704) (v := iI a0) rfl rfl (by simp (disch := omega) only [y_I_s_I, x_I_s_I, z_I_s_J, z_I_s_A, z_I_s_B, z_I_s_P, e70_to_, e_a0, e_f0])) ?_
    refine v_aload_n hX dX9_readDotted_87 (i := 0) rfl rfl ?_
    refine v_get hX (ci := 7) (k := 3) (cs_k_419 (cS.sJ (cS.sI h70c))) bc_7 (by decide) (by decide) in_7 w_1_237 dX9_readDotted_88 (mvF (f := 703) (v := iI f0) rfl rfl (by simp (disch := omega) only [y_I_s_I, x_I_s_I, z_I_s_J, z_I_s_A, z_I_s_B, z_I_s_P, e70_to_, e_a0, e_f0])) ?_
    refine u_isub hX dX9_readDotted_91 ?_
    refine v_iconst hX (v := iI 1) dX9_readDotted_92 rfl ?_
    refine u_icmp_le hX (tgt := 100) dX9_readDotted_93 (by decide) ⟨by omega, by omega⟩ ⟨by omega, by omega⟩ (fun h1_ => ?_) (fun h1_ => ?_)
    ·
      refine v_iconst hX (v := iI 0) dX9_readDotted_100 rfl ?_
      exact v_zreturn hX (nar_b (by omega)) hE dX9_readDotted_101 (by omega) (by omega) ⟨rfl, ((fr70.sI (by decide) ⟨by omega, by omega⟩).sJ ⟨by omega, by omega⟩), 0, a0, f0, a0, rfl, (by omega), (by simp (disch := omega) only [y_I_s_I, x_I_s_I, z_I_s_J, z_I_s_A, z_I_s_B, z_I_s_P, e70_to_, e_a0, e_f0]), ⟨by omega, by omega⟩, (by simp (disch := omega) only [y_I_s_I, x_I_s_I, z_I_s_J, z_I_s_A, z_I_s_B, z_I_s_P, e70_to_, e_a0, e_f0]), ⟨by omega, by omega⟩, (by simp (disch := omega) only [y_I_s_I, x_I_s_I, z_I_s_J, z_I_s_A, z_I_s_B, z_I_s_P, e70_to_, e_a0, e_f0]), ⟨by omega, by omega⟩, (by omega)⟩
    ·
      refine v_iconst hX (v := iI 1) dX9_readDotted_96 rfl ?_
      refine v_goto hX (tgt := 101) dX9_readDotted_97 (by decide) ?_
      exact v_zreturn hX (nar_b (by omega)) hE dX9_readDotted_101 (by omega) (by omega) ⟨rfl, ((fr70.sI (by decide) ⟨by omega, by omega⟩).sJ ⟨by omega, by omega⟩), 1, a0, f0, a0, rfl, (by omega), (by simp (disch := omega) only [y_I_s_I, x_I_s_I, z_I_s_J, z_I_s_A, z_I_s_B, z_I_s_P, e70_to_, e_a0, e_f0]), ⟨by omega, by omega⟩, (by simp (disch := omega) only [y_I_s_I, x_I_s_I, z_I_s_J, z_I_s_A, z_I_s_B, z_I_s_P, e70_to_, e_a0, e_f0]), ⟨by omega, by omega⟩, (by simp (disch := omega) only [y_I_s_I, x_I_s_I, z_I_s_J, z_I_s_A, z_I_s_B, z_I_s_P, e70_to_, e_a0, e_f0]), ⟨by omega, by omega⟩, (by omega)⟩
  have L18 : ∀ (n18 : Nat) (S18c : b_M) (a0 : Int) (f0 : Int), cFr [701, 703, 704] [] [] w S S18c x → m_I S18c 701 (x + 419) = iI a0 → m_I S18c 703 (x + 419) = iI f0 → (-2147483648 ≤ a0 ∧ a0 < 2147483648) → (-2147483648 ≤ f0 ∧ f0 < 2147483648) → (at_ ≤ a0 ∧ a0 ≤ to_ ∧ f0 = at_) → (to_ - a0).toNat = n18 → b_V X S18c z 0 0 18 [(0, .ref (x + 419))] [] := by
    intro n18
    induction n18 using Nat.strongRecOn with
    | _ n18 ih18 =>
    intro S18c a0 f0 fr18 e_a0 e_f0 b_a0 b_f0 p18_0 hm18
    have h18c : cS S18c x := fr18.keep (by decide) h
    have e18_to_ : m_I S18c 702 (x + 419) = iI to_ := (fr18.2.1 702 (by decide) _).trans e_to_
    have k18_bv : m_K S18c bv = 12 := (fr18.2.2.2.2 _ (by rw [k_bv]; decide)).1.trans k_bv
    have l18_bv : m_L S18c bv = Lbv := (fr18.2.2.2.2 _ (by rw [k_bv]; decide)).2.1.trans l_bv
    have e18_bv : m_P S18c 700 (x + 419) = some bv := (fr18.2.2.1 700 (by decide) _).trans e_bv
    refine v_aload_n hX dX9_readDotted_18 (i := 0) rfl rfl ?_
    refine v_get hX (ci := 7) (k := 1) (cs_k_419 h18c) bc_7 (by decide) (by decide) in_7 w_1_234 dX9_readDotted_19 (mvF (f := 701) (v := iI a0) rfl rfl (by simp (disch := omega) only [y_I_s_I, x_I_s_I, z_I_s_J, z_I_s_A, z_I_s_B, z_I_s_P, e18_to_, e_a0, e_f0])) ?_
    refine v_aload_n hX dX9_readDotted_22 (i := 0) rfl rfl ?_
    refine v_get hX (ci := 7) (k := 2) (cs_k_419 h18c) bc_7 (by decide) (by decide) in_7 w_1_235 dX9_readDotted_23 (mvF (f := 702) (v := iI to_) rfl rfl (by simp (disch := omega) only [y_I_s_I, x_I_s_I, z_I_s_J, z_I_s_A, z_I_s_B, z_I_s_P, e18_to_, e_a0, e_f0])) ?_
    refine u_icmp_ge hX (tgt := 70) dX9_readDotted_26 (by decide) ⟨by omega, by omega⟩ ⟨by omega, by omega⟩ (fun h2_ => ?_) (fun h2_ => ?_)
    ·
      exact L70 _ a0 f0 fr18 (by simp (disch := omega) only [y_I_s_I, x_I_s_I, z_I_s_J, z_I_s_A, z_I_s_B, z_I_s_P, e18_to_, e_a0, e_f0]) (by simp (disch := omega) only [y_I_s_I, x_I_s_I, z_I_s_J, z_I_s_A, z_I_s_B, z_I_s_P, e18_to_, e_a0, e_f0]) ⟨by omega, by omega⟩ ⟨by omega, by omega⟩ (by omega)
    ·
      refine v_aload_n hX dX9_readDotted_29 (i := 0) rfl rfl ?_
      refine v_get hX (ci := 7) (k := 0) (cs_k_419 h18c) bc_7 (by decide) (by decide) in_7 w_1_233 dX9_readDotted_30 (mvP (f := 700) (q := bv) rfl rfl (by simp (disch := omega) only [y_P_s_P, x_P_s_P, z_P_s_I, z_P_s_J, z_P_s_A, z_P_s_B, e18_bv])) ?_
      refine v_aload_n hX dX9_readDotted_33 (i := 0) rfl rfl ?_
      refine v_get hX (ci := 7) (k := 1) (cs_k_419 h18c) bc_7 (by decide) (by decide) in_7 w_1_234 dX9_readDotted_34 (mvF (f := 701) (v := iI a0) rfl rfl (by simp (disch := omega) only [y_I_s_I, x_I_s_I, z_I_s_J, z_I_s_A, z_I_s_B, z_I_s_P, e18_to_, e_a0, e_f0])) ?_
      refine u_bald hX (L := Lbv) k18_bv l18_bv ⟨by omega, by omega⟩ (by omega) dX9_readDotted_37 (fun v3_ e_v3_ b_v3_ => ?_)
      try simp (disch := omega) only [zr_I, zr_J, zr_B, rA_A, zl_I, zl_J, zl_A, lA_B, zr_P] at e_v3_
      refine v_bipush hX (v := iI 97) dX9_readDotted_38 (by decide) ?_
      refine u_icmp_lt hX (tgt := 70) dX9_readDotted_40 (by decide) ⟨by omega, by omega⟩ ⟨by omega, by omega⟩ (fun h4_ => ?_) (fun h4_ => ?_)
      ·
        exact L70 _ a0 f0 fr18 (by simp (disch := omega) only [y_I_s_I, x_I_s_I, z_I_s_J, z_I_s_A, z_I_s_B, z_I_s_P, e18_to_, e_a0, e_f0]) (by simp (disch := omega) only [y_I_s_I, x_I_s_I, z_I_s_J, z_I_s_A, z_I_s_B, z_I_s_P, e18_to_, e_a0, e_f0]) ⟨by omega, by omega⟩ ⟨by omega, by omega⟩ (by omega)
      ·
        refine v_aload_n hX dX9_readDotted_43 (i := 0) rfl rfl ?_
        refine v_get hX (ci := 7) (k := 0) (cs_k_419 h18c) bc_7 (by decide) (by decide) in_7 w_1_233 dX9_readDotted_44 (mvP (f := 700) (q := bv) rfl rfl (by simp (disch := omega) only [y_P_s_P, x_P_s_P, z_P_s_I, z_P_s_J, z_P_s_A, z_P_s_B, e18_bv])) ?_
        refine v_aload_n hX dX9_readDotted_47 (i := 0) rfl rfl ?_
        refine v_get hX (ci := 7) (k := 1) (cs_k_419 h18c) bc_7 (by decide) (by decide) in_7 w_1_234 dX9_readDotted_48 (mvF (f := 701) (v := iI a0) rfl rfl (by simp (disch := omega) only [y_I_s_I, x_I_s_I, z_I_s_J, z_I_s_A, z_I_s_B, z_I_s_P, e18_to_, e_a0, e_f0])) ?_
        refine u_bald hX (L := Lbv) k18_bv l18_bv ⟨by omega, by omega⟩ (by omega) dX9_readDotted_51 (fun v5_ e_v5_ b_v5_ => ?_)
        try simp (disch := omega) only [zr_I, zr_J, zr_B, rA_A, zl_I, zl_J, zl_A, lA_B, zr_P] at e_v5_
        refine v_bipush hX (v := iI 122) dX9_readDotted_52 (by decide) ?_
        refine u_icmp_gt hX (tgt := 70) dX9_readDotted_54 (by decide) ⟨by omega, by omega⟩ ⟨by omega, by omega⟩ (fun h6_ => ?_) (fun h6_ => ?_)
        ·
          exact L70 _ a0 f0 fr18 (by simp (disch := omega) only [y_I_s_I, x_I_s_I, z_I_s_J, z_I_s_A, z_I_s_B, z_I_s_P, e18_to_, e_a0, e_f0]) (by simp (disch := omega) only [y_I_s_I, x_I_s_I, z_I_s_J, z_I_s_A, z_I_s_B, z_I_s_P, e18_to_, e_a0, e_f0]) ⟨by omega, by omega⟩ ⟨by omega, by omega⟩ (by omega)
        ·
          refine v_aload_n hX dX9_readDotted_57 (i := 0) rfl rfl ?_
          refine v_dup hX dX9_readDotted_58 rfl ?_
          refine v_get hX (ci := 7) (k := 1) (cs_k_419 h18c) bc_7 (by decide) (by decide) in_7 w_1_234 dX9_readDotted_59 (mvF (f := 701) (v := iI a0) rfl rfl (by simp (disch := omega) only [y_I_s_I, x_I_s_I, z_I_s_J, z_I_s_A, z_I_s_B, z_I_s_P, e18_to_, e_a0, e_f0])) ?_
          refine v_iconst hX (v := iI 1) dX9_readDotted_62 rfl ?_
          refine u_iadd hX dX9_readDotted_63 ?_
          refine v_putI hX (ci := 7) (k := 1) (f := 701) (cs_k_419 h18c) bc_7 (by decide) (by decide) in_7 tyX9_ok nmX9 w_1_234 (Or.inl rfl) rfl rfl dX9_readDotted_64 rfl rfl ?_
          refine v_goto hX (tgt := 18) dX9_readDotted_67 (by decide) ?_
          exact ih18 _ (by omega) _ (a0 + 1) f0 (fr18.sI (by decide) ⟨by omega, by omega⟩) (by simp (disch := omega) only [y_I_s_I, x_I_s_I, z_I_s_J, z_I_s_A, z_I_s_B, z_I_s_P, e18_to_, e_a0, e_f0]) (by simp (disch := omega) only [y_I_s_I, x_I_s_I, z_I_s_J, z_I_s_A, z_I_s_B, z_I_s_P, e18_to_, e_a0, e_f0]) ⟨by omega, by omega⟩ ⟨by omega, by omega⟩ (by omega) rfl
  change b_V X S z 0 0 0 [(0, .ref (x + 419))] []
  refine v_aload_n hX dX9_readDotted_0 (i := 0) rfl rfl ?_
  refine v_aload_n hX dX9_readDotted_1 (i := 0) rfl rfl ?_
  refine v_get hX (ci := 7) (k := 1) (cs_k_419 h) bc_7 (by decide) (by decide) in_7 w_1_234 dX9_readDotted_2 (mvF (f := 701) (v := iI at_) rfl rfl (by simp (disch := omega) only [y_I_s_I, x_I_s_I, z_I_s_J, z_I_s_A, z_I_s_B, z_I_s_P, e_at_, e_to_])) ?_
  refine v_putI hX (ci := 7) (k := 3) (f := 703) (cs_k_419 h) bc_7 (by decide) (by decide) in_7 tyX9_ok nmX9 w_1_237 (Or.inl rfl) rfl rfl dX9_readDotted_5 rfl rfl ?_
  refine v_aload_n hX dX9_readDotted_8 (i := 0) rfl rfl ?_
  refine v_dup hX dX9_readDotted_9 rfl ?_
  refine v_get hX (ci := 7) (k := 1) (cs_k_419 (cS.sI h)) bc_7 (by decide) (by decide) in_7 w_1_234 dX9_readDotted_10 (mvF (f := 701) (v := iI at_) rfl rfl (by simp (disch := omega) only [y_I_s_I, x_I_s_I, z_I_s_J, z_I_s_A, z_I_s_B, z_I_s_P, e_at_, e_to_])) ?_
  refine v_iconst hX (v := iI 1) dX9_readDotted_13 rfl ?_
  refine u_iadd hX dX9_readDotted_14 ?_
  refine v_putI hX (ci := 7) (k := 1) (f := 701) (cs_k_419 (cS.sI h)) bc_7 (by decide) (by decide) in_7 tyX9_ok nmX9 w_1_234 (Or.inl rfl) rfl rfl dX9_readDotted_15 rfl rfl ?_
  exact L18 _ _ (at_ + 1) at_ (((cFr.rf _ _).sI (by decide) ⟨by omega, by omega⟩).sI (by decide) ⟨by omega, by omega⟩) (by simp (disch := omega) only [y_I_s_I, x_I_s_I, z_I_s_J, z_I_s_A, z_I_s_B, z_I_s_P, e_at_, e_to_]) (by simp (disch := omega) only [y_I_s_I, x_I_s_I, z_I_s_J, z_I_s_A, z_I_s_B, z_I_s_P, e_at_, e_to_]) ⟨by omega, by omega⟩ ⟨by omega, by omega⟩ (by omega) rfl
set_option maxRecDepth 100000 in
set_option maxHeartbeats 4000000 in
theorem t_readOperation {kn : Nat → Nat} {B : Nat} {S : b_M} {z x w : Nat} {at_ : Int} {to_ : Int} {bv Lbv : Nat} (h : cS S x) (e_at_ : m_I S 701 (x + 419) = iI at_) (b_at_ : -2147483648 ≤ at_ ∧ at_ < 2147483648) (e_to_ : m_I S 702 (x + 419) = iI to_) (b_to_ : -2147483648 ≤ to_ ∧ to_ < 2147483648) (e_bv : m_P S 700 (x + 419) = some bv) (k_bv : m_K S bv = 12) (l_bv : m_L S bv = Lbv) (c_bv : (Lbv : Int) ≤ 2097152) (p : 0 ≤ at_ ∧ at_ ≤ to_ ∧ to_ ≤ (Lbv : Int)) : b_C kn B yX9_readOperation cX9_readOperation 2 (some .boolean) 2 44 0 0 [.ref (x + 419)] S z (fun r S' z' => z = z' ∧ cFr [701, 703, 704] [] [] w S S' x ∧ ∃ q a1 f1 t1 : Int, r = some (.int (iI q)) ∧ (q = 0 ∨ q = 1) ∧ m_I S' 701 (x + 419) = iI a1 ∧ (-2147483648 ≤ a1 ∧ a1 < 2147483648) ∧ m_I S' 703 (x + 419) = iI f1 ∧ (-2147483648 ≤ f1 ∧ f1 < 2147483648) ∧ m_I S' 704 (x + 419) = iI t1 ∧ (-2147483648 ≤ t1 ∧ t1 < 2147483648) ∧ (at_ ≤ a1 ∧ a1 ≤ to_ ∧ at_ ≤ f1 ∧ f1 ≤ t1 ∧ t1 ≤ to_)) (fun _ _ _ => False) := by
  refine b_enter (by decide) (Nat.le_of_ble_eq_true rfl) ?_
  intro X hX hE hnL hkn hB hI_
  subst hkn; subst hB
  clear hI_
  have L50 : ∀ (S50c : b_M) (a1 : Int) (f1 : Int) (t1 : Int) (bb : Int), cFr [701, 703, 704] [] [] w S S50c x → m_I S50c 701 (x + 419) = iI a1 → m_I S50c 703 (x + 419) = iI f1 → m_I S50c 704 (x + 419) = iI t1 → (-2147483648 ≤ a1 ∧ a1 < 2147483648) → (-2147483648 ≤ f1 ∧ f1 < 2147483648) → (-2147483648 ≤ t1 ∧ t1 < 2147483648) → (at_ ≤ a1 ∧ a1 ≤ to_ ∧ at_ ≤ f1 ∧ f1 ≤ t1 ∧ t1 ≤ to_ ∧ (bb = 0 ∨ bb = 1)) → b_V X S50c z 0 0 50 [(0, .ref (x + 419))] [.int (iI bb)] := by
    intro S50c a1 f1 t1 bb fr50 e_a1 e_f1 e_t1 b_a1 b_f1 b_t1 p50_0
    have h50c : cS S50c x := fr50.keep (by decide) h
    have e50_to_ : m_I S50c 702 (x + 419) = iI to_ := (fr50.2.1 702 (by decide) _).trans e_to_
    have k50_bv : m_K S50c bv = 12 := (fr50.2.2.2.2 _ (by rw [k_bv]; decide)).1.trans k_bv
    have l50_bv : m_L S50c bv = Lbv := (fr50.2.2.2.2 _ (by rw [k_bv]; decide)).2.1.trans l_bv
    have e50_bv : m_P S50c 700 (x + 419) = some bv := (fr50.2.2.1 700 (by decide) _).trans e_bv
    refine v_istore_n hX (lv' := [(1, .int (iI bb)), (0, .ref (x + 419))]) dX9_readOperation_50 (i := 1) rfl (by rw [hnL]; decide) rfl ?_
    refine v_iload_n hX dX9_readOperation_51 (i := 1) rfl rfl ?_
    refine u_if_eq hX (tgt := 84) dX9_readOperation_52 (by decide) ⟨by omega, by omega⟩ (fun h1_ => ?_) (fun h1_ => ?_)
    ·
      refine v_iconst hX (v := iI 0) dX9_readOperation_84 rfl ?_
      exact v_zreturn hX (nar_b (by omega)) hE dX9_readOperation_85 (by omega) (by omega) ⟨rfl, fr50, 0, a1, f1, t1, rfl, (by omega), (by simp (disch := omega) only [y_I_s_I, x_I_s_I, z_I_s_J, z_I_s_A, z_I_s_B, z_I_s_P, e50_to_, e_a1, e_f1, e_t1]), ⟨by omega, by omega⟩, (by simp (disch := omega) only [y_I_s_I, x_I_s_I, z_I_s_J, z_I_s_A, z_I_s_B, z_I_s_P, e50_to_, e_a1, e_f1, e_t1]), ⟨by omega, by omega⟩, (by simp (disch := omega) only [y_I_s_I, x_I_s_I, z_I_s_J, z_I_s_A, z_I_s_B, z_I_s_P, e50_to_, e_a1, e_f1, e_t1]), ⟨by omega, by omega⟩, (by omega)⟩
    ·
      refine v_aload_n hX dX9_readOperation_55 (i := 0) rfl rfl ?_
      refine v_get hX (ci := 7) (k := 1) (cs_k_419 h50c) bc_7 (by decide) (by decide) in_7 w_1_234 dX9_readOperation_56 (mvF (f := 701) (v := iI a1) rfl rfl (by simp (disch := omega) only [y_I_s_I, x_I_s_I, z_I_s_J, z_I_s_A, z_I_s_B, z_I_s_P, e50_to_, e_a1, e_f1, e_t1])) ?_
      refine v_aload_n hX dX9_readOperation_59 (i := 0) rfl rfl ?_
      refine v_get hX (ci := 7) (k := 2) (cs_k_419 h50c) bc_7 (by decide) (by decide) in_7 w_1_235 dX9_readOperation_60 (mvF (f := 702) (v := iI to_) rfl rfl (by simp (disch := omega) only [y_I_s_I, x_I_s_I, z_I_s_J, z_I_s_A, z_I_s_B, z_I_s_P, e50_to_, e_a1, e_f1, e_t1])) ?_
      refine u_icmp_ge hX (tgt := 80) dX9_readOperation_63 (by decide) ⟨by omega, by omega⟩ ⟨by omega, by omega⟩ (fun h2_ => ?_) (fun h2_ => ?_)
      ·
        refine v_iconst hX (v := iI 1) dX9_readOperation_80 rfl ?_
        refine v_goto hX (tgt := 85) dX9_readOperation_81 (by decide) ?_
        exact v_zreturn hX (nar_b (by omega)) hE dX9_readOperation_85 (by omega) (by omega) ⟨rfl, fr50, 1, a1, f1, t1, rfl, (by omega), (by simp (disch := omega) only [y_I_s_I, x_I_s_I, z_I_s_J, z_I_s_A, z_I_s_B, z_I_s_P, e50_to_, e_a1, e_f1, e_t1]), ⟨by omega, by omega⟩, (by simp (disch := omega) only [y_I_s_I, x_I_s_I, z_I_s_J, z_I_s_A, z_I_s_B, z_I_s_P, e50_to_, e_a1, e_f1, e_t1]), ⟨by omega, by omega⟩, (by simp (disch := omega) only [y_I_s_I, x_I_s_I, z_I_s_J, z_I_s_A, z_I_s_B, z_I_s_P, e50_to_, e_a1, e_f1, e_t1]), ⟨by omega, by omega⟩, (by omega)⟩
      ·
        refine v_aload_n hX dX9_readOperation_66 (i := 0) rfl rfl ?_
        refine v_get hX (ci := 7) (k := 0) (cs_k_419 h50c) bc_7 (by decide) (by decide) in_7 w_1_233 dX9_readOperation_67 (mvP (f := 700) (q := bv) rfl rfl (by simp (disch := omega) only [y_P_s_P, x_P_s_P, z_P_s_I, z_P_s_J, z_P_s_A, z_P_s_B, e50_bv])) ?_
        refine v_aload_n hX dX9_readOperation_70 (i := 0) rfl rfl ?_
        refine v_get hX (ci := 7) (k := 1) (cs_k_419 h50c) bc_7 (by decide) (by decide) in_7 w_1_234 dX9_readOperation_71 (mvF (f := 701) (v := iI a1) rfl rfl (by simp (disch := omega) only [y_I_s_I, x_I_s_I, z_I_s_J, z_I_s_A, z_I_s_B, z_I_s_P, e50_to_, e_a1, e_f1, e_t1])) ?_
        refine u_bald hX (L := Lbv) k50_bv l50_bv ⟨by omega, by omega⟩ (by omega) dX9_readOperation_74 (fun v3_ e_v3_ b_v3_ => ?_)
        try simp (disch := omega) only [zr_I, zr_J, zr_B, rA_A, zl_I, zl_J, zl_A, lA_B, zr_P] at e_v3_
        refine v_bipush hX (v := iI 32) dX9_readOperation_75 (by decide) ?_
        refine u_icmp_ne hX (tgt := 84) dX9_readOperation_77 (by decide) ⟨by omega, by omega⟩ ⟨by omega, by omega⟩ (fun h4_ => ?_) (fun h4_ => ?_)
        ·
          refine v_iconst hX (v := iI 0) dX9_readOperation_84 rfl ?_
          exact v_zreturn hX (nar_b (by omega)) hE dX9_readOperation_85 (by omega) (by omega) ⟨rfl, fr50, 0, a1, f1, t1, rfl, (by omega), (by simp (disch := omega) only [y_I_s_I, x_I_s_I, z_I_s_J, z_I_s_A, z_I_s_B, z_I_s_P, e50_to_, e_a1, e_f1, e_t1]), ⟨by omega, by omega⟩, (by simp (disch := omega) only [y_I_s_I, x_I_s_I, z_I_s_J, z_I_s_A, z_I_s_B, z_I_s_P, e50_to_, e_a1, e_f1, e_t1]), ⟨by omega, by omega⟩, (by simp (disch := omega) only [y_I_s_I, x_I_s_I, z_I_s_J, z_I_s_A, z_I_s_B, z_I_s_P, e50_to_, e_a1, e_f1, e_t1]), ⟨by omega, by omega⟩, (by omega)⟩
        ·
          refine v_iconst hX (v := iI 1) dX9_readOperation_80 rfl ?_
          refine v_goto hX (tgt := 85) dX9_readOperation_81 (by decide) ?_
          exact v_zreturn hX (nar_b (by omega)) hE dX9_readOperation_85 (by omega) (by omega) ⟨rfl, fr50, 1, a1, f1, t1, rfl, (by omega), (by simp (disch := omega) only [y_I_s_I, x_I_s_I, z_I_s_J, z_I_s_A, z_I_s_B, z_I_s_P, e50_to_, e_a1, e_f1, e_t1]), ⟨by omega, by omega⟩, (by simp (disch := omega) only [y_I_s_I, x_I_s_I, z_I_s_J, z_I_s_A, z_I_s_B, z_I_s_P, e50_to_, e_a1, e_f1, e_t1]), ⟨by omega, by omega⟩, (by simp (disch := omega) only [y_I_s_I, x_I_s_I, z_I_s_J, z_I_s_A, z_I_s_B, z_I_s_P, e50_to_, e_a1, e_f1, e_t1]), ⟨by omega, by omega⟩, (by omega)⟩
  change b_V X S z 0 0 0 [(0, .ref (x + 419))] []
  refine v_aload_n hX dX9_readOperation_0 (i := 0) rfl rfl ?_
  refine v_callV hX (n := 0) (t_passBlanks (S := S) (x := x) (w := w) (at_ := at_) (to_ := to_) (bv := bv) (Lbv := Lbv) h (by simp (disch := omega) only [y_I_s_I, x_I_s_I, z_I_s_J, z_I_s_A, z_I_s_B, z_I_s_P, e_at_, e_to_]) ⟨by omega, by omega⟩ (by simp (disch := omega) only [y_I_s_I, x_I_s_I, z_I_s_J, z_I_s_A, z_I_s_B, z_I_s_P, e_at_, e_to_]) ⟨by omega, by omega⟩ (by simp (disch := omega) only [y_P_s_P, x_P_s_P, z_P_s_I, z_P_s_J, z_P_s_A, z_P_s_B, e_bv]) k_bv l_bv (by omega) (by omega)) (cs_k_419 h) bc_7 (by decide) w_3_162 w_3_163 w_3_164 w_1_11 w_3_165 (by decide +kernel) rfl ⟨by decide, by decide⟩ ⟨by omega, by omega⟩ (Nat.le_of_ble_eq_true rfl) rfl dX9_readOperation_1 (fun _ _ _ q => q) ?_
  rintro r5_ S5_ z5_ ⟨rfl, f5_, v6_, rfl, e_v6_, b_v6_, q5_⟩
  have y7_ : m_I S5_ 702 (x + 419) = iI to_ := (f5_.2.1 702 (by decide) _).trans (by simp (disch := omega) only [y_I_s_I, x_I_s_I, z_I_s_J, z_I_s_A, z_I_s_B, z_I_s_P, e_at_, e_to_])
  have y8_ : m_P S5_ 700 (x + 419) = some bv := (f5_.2.2.1 700 (by decide) _).trans (by simp (disch := omega) only [y_P_s_P, x_P_s_P, z_P_s_I, z_P_s_J, z_P_s_A, z_P_s_B, e_bv])
  have k9_ : m_K S5_ bv = 12 := (f5_.2.2.2.2 _ (by rw [show m_K S bv = 12 from k_bv]; decide)).1.trans k_bv
  have l10_ : m_L S5_ bv = Lbv := (f5_.2.2.2.2 _ (by rw [show m_K S bv = 12 from k_bv]; decide)).2.1.trans l_bv
  have h5_ : cS S5_ x := f5_.keep (by decide) h
  refine v_aload_n hX dX9_readOperation_4 (i := 0) rfl rfl ?_
  refine v_get hX (ci := 7) (k := 1) (cs_k_419 h5_) bc_7 (by decide) (by decide) in_7 w_1_234 dX9_readOperation_5 (mvF (f := 701) (v := iI v6_) rfl rfl (by simp (disch := omega) only [y_I_s_I, x_I_s_I, z_I_s_J, z_I_s_A, z_I_s_B, z_I_s_P, y7_, e_v6_])) ?_
  refine v_aload_n hX dX9_readOperation_8 (i := 0) rfl rfl ?_
  refine v_get hX (ci := 7) (k := 2) (cs_k_419 h5_) bc_7 (by decide) (by decide) in_7 w_1_235 dX9_readOperation_9 (mvF (f := 702) (v := iI to_) rfl rfl (by simp (disch := omega) only [y_I_s_I, x_I_s_I, z_I_s_J, z_I_s_A, z_I_s_B, z_I_s_P, y7_, e_v6_])) ?_
  refine u_icmp_ge hX (tgt := 36) dX9_readOperation_12 (by decide) ⟨by omega, by omega⟩ ⟨by omega, by omega⟩ (fun h11_ => ?_) (fun h11_ => ?_)
  ·
    refine v_aload_n hX dX9_readOperation_36 (i := 0) rfl rfl ?_
    refine v_callV hX (n := 0) (t_readName (S := S5_) (x := x) (w := w) (at_ := v6_) (to_ := to_) (bv := bv) (Lbv := Lbv) h5_ (by simp (disch := omega) only [y_I_s_I, x_I_s_I, z_I_s_J, z_I_s_A, z_I_s_B, z_I_s_P, y7_, e_v6_]) ⟨by omega, by omega⟩ (by simp (disch := omega) only [y_I_s_I, x_I_s_I, z_I_s_J, z_I_s_A, z_I_s_B, z_I_s_P, y7_, e_v6_]) ⟨by omega, by omega⟩ (by simp (disch := omega) only [y_P_s_P, x_P_s_P, z_P_s_I, z_P_s_J, z_P_s_A, z_P_s_B, y8_]) k9_ l10_ (by omega) (by omega)) (cs_k_419 h5_) bc_7 (by decide) w_3_166 w_3_167 w_3_168 w_1_11 w_3_169 (by decide +kernel) rfl ⟨by decide, by decide⟩ ⟨by omega, by omega⟩ (Nat.le_of_ble_eq_true rfl) rfl dX9_readOperation_37 (fun _ _ _ q => q) ?_
    rintro r12_ S12_ z12_ ⟨rfl, f12_, v13_, v14_, v15_, v16_, rfl, b_v13_, e_v14_, b_v14_, e_v15_, b_v15_, e_v16_, b_v16_, q12_⟩
    have y17_ : m_I S12_ 702 (x + 419) = iI to_ := (f12_.2.1 702 (by decide) _).trans (by simp (disch := omega) only [y_I_s_I, x_I_s_I, z_I_s_J, z_I_s_A, z_I_s_B, z_I_s_P, y7_, e_v6_])
    have y18_ : m_P S12_ 700 (x + 419) = some bv := (f12_.2.2.1 700 (by decide) _).trans (by simp (disch := omega) only [y_P_s_P, x_P_s_P, z_P_s_I, z_P_s_J, z_P_s_A, z_P_s_B, y8_])
    have k19_ : m_K S12_ bv = 12 := (f12_.2.2.2.2 _ (by rw [show m_K S5_ bv = 12 from k9_]; decide)).1.trans k9_
    have l20_ : m_L S12_ bv = Lbv := (f12_.2.2.2.2 _ (by rw [show m_K S5_ bv = 12 from k9_]; decide)).2.1.trans l10_
    have h12_ : cS S12_ x := f12_.keep (by decide) h5_
    refine v_lconst hX (v := jJ 0) dX9_readOperation_40 rfl ?_
    refine u_lcmp hX dX9_readOperation_41 ⟨by omega, by omega⟩ ⟨by omega, by omega⟩ (fun v21_ b_v21_ c_v21_ => ?_)
    refine u_if_eq hX (tgt := 49) dX9_readOperation_42 (by decide) ⟨by omega, by omega⟩ (fun h22_ => ?_) (fun h22_ => ?_)
    ·
      refine v_iconst hX (v := iI 0) dX9_readOperation_49 rfl ?_
      exact L50 _ v14_ v15_ v16_ 0 (((cFr.rf _ _).tr (f5_.mono (by decide) (by decide) (by decide))).tr (f12_.mono (by decide) (by decide) (by decide))) (by simp (disch := omega) only [y_I_s_I, x_I_s_I, z_I_s_J, z_I_s_A, z_I_s_B, z_I_s_P, y17_, e_v14_, e_v15_, e_v16_]) (by simp (disch := omega) only [y_I_s_I, x_I_s_I, z_I_s_J, z_I_s_A, z_I_s_B, z_I_s_P, y17_, e_v14_, e_v15_, e_v16_]) (by simp (disch := omega) only [y_I_s_I, x_I_s_I, z_I_s_J, z_I_s_A, z_I_s_B, z_I_s_P, y17_, e_v14_, e_v15_, e_v16_]) ⟨by omega, by omega⟩ ⟨by omega, by omega⟩ ⟨by omega, by omega⟩ (by omega)
    ·
      refine v_iconst hX (v := iI 1) dX9_readOperation_45 rfl ?_
      refine v_goto hX (tgt := 50) dX9_readOperation_46 (by decide) ?_
      exact L50 _ v14_ v15_ v16_ 1 (((cFr.rf _ _).tr (f5_.mono (by decide) (by decide) (by decide))).tr (f12_.mono (by decide) (by decide) (by decide))) (by simp (disch := omega) only [y_I_s_I, x_I_s_I, z_I_s_J, z_I_s_A, z_I_s_B, z_I_s_P, y17_, e_v14_, e_v15_, e_v16_]) (by simp (disch := omega) only [y_I_s_I, x_I_s_I, z_I_s_J, z_I_s_A, z_I_s_B, z_I_s_P, y17_, e_v14_, e_v15_, e_v16_]) (by simp (disch := omega) only [y_I_s_I, x_I_s_I, z_I_s_J, z_I_s_A, z_I_s_B, z_I_s_P, y17_, e_v14_, e_v15_, e_v16_]) ⟨by omega, by omega⟩ ⟨by omega, by omega⟩ ⟨by omega, by omega⟩ (by omega)
  ·
    refine v_aload_n hX dX9_readOperation_15 (i := 0) rfl rfl ?_
    refine v_get hX (ci := 7) (k := 0) (cs_k_419 h5_) bc_7 (by decide) (by decide) in_7 w_1_233 dX9_readOperation_16 (mvP (f := 700) (q := bv) rfl rfl (by simp (disch := omega) only [y_P_s_P, x_P_s_P, z_P_s_I, z_P_s_J, z_P_s_A, z_P_s_B, y8_])) ?_
    refine v_aload_n hX dX9_readOperation_19 (i := 0) rfl rfl ?_
    refine v_get hX (ci := 7) (k := 1) (cs_k_419 h5_) bc_7 (by decide) (by decide) in_7 w_1_234 dX9_readOperation_20 (mvF (f := 701) (v := iI v6_) rfl rfl (by simp (disch := omega) only [y_I_s_I, x_I_s_I, z_I_s_J, z_I_s_A, z_I_s_B, z_I_s_P, y7_, e_v6_])) ?_
    refine u_bald hX (L := Lbv) k9_ l10_ ⟨by omega, by omega⟩ (by omega) dX9_readOperation_23 (fun v23_ e_v23_ b_v23_ => ?_)
    try simp (disch := omega) only [zr_I, zr_J, zr_B, rA_A, zl_I, zl_J, zl_A, lA_B, zr_P] at e_v23_
    refine v_bipush hX (v := iI 46) dX9_readOperation_24 (by decide) ?_
    refine u_icmp_ne hX (tgt := 36) dX9_readOperation_26 (by decide) ⟨by omega, by omega⟩ ⟨by omega, by omega⟩ (fun h24_ => ?_) (fun h24_ => ?_)
    ·
      refine v_aload_n hX dX9_readOperation_36 (i := 0) rfl rfl ?_
      refine v_callV hX (n := 0) (t_readName (S := S5_) (x := x) (w := w) (at_ := v6_) (to_ := to_) (bv := bv) (Lbv := Lbv) h5_ (by simp (disch := omega) only [y_I_s_I, x_I_s_I, z_I_s_J, z_I_s_A, z_I_s_B, z_I_s_P, y7_, e_v6_]) ⟨by omega, by omega⟩ (by simp (disch := omega) only [y_I_s_I, x_I_s_I, z_I_s_J, z_I_s_A, z_I_s_B, z_I_s_P, y7_, e_v6_]) ⟨by omega, by omega⟩ (by simp (disch := omega) only [y_P_s_P, x_P_s_P, z_P_s_I, z_P_s_J, z_P_s_A, z_P_s_B, y8_]) k9_ l10_ (by omega) (by omega)) (cs_k_419 h5_) bc_7 (by decide) w_3_166 w_3_167 w_3_168 w_1_11 w_3_169 (by decide +kernel) rfl ⟨by decide, by decide⟩ ⟨by omega, by omega⟩ (Nat.le_of_ble_eq_true rfl) rfl dX9_readOperation_37 (fun _ _ _ q => q) ?_
      rintro r25_ S25_ z25_ ⟨rfl, f25_, v26_, v27_, v28_, v29_, rfl, b_v26_, e_v27_, b_v27_, e_v28_, b_v28_, e_v29_, b_v29_, q25_⟩
      have y30_ : m_I S25_ 702 (x + 419) = iI to_ := (f25_.2.1 702 (by decide) _).trans (by simp (disch := omega) only [y_I_s_I, x_I_s_I, z_I_s_J, z_I_s_A, z_I_s_B, z_I_s_P, y7_, e_v6_])
      have y31_ : m_P S25_ 700 (x + 419) = some bv := (f25_.2.2.1 700 (by decide) _).trans (by simp (disch := omega) only [y_P_s_P, x_P_s_P, z_P_s_I, z_P_s_J, z_P_s_A, z_P_s_B, y8_])
      have k32_ : m_K S25_ bv = 12 := (f25_.2.2.2.2 _ (by rw [show m_K S5_ bv = 12 from k9_]; decide)).1.trans k9_
      have l33_ : m_L S25_ bv = Lbv := (f25_.2.2.2.2 _ (by rw [show m_K S5_ bv = 12 from k9_]; decide)).2.1.trans l10_
      have h25_ : cS S25_ x := f25_.keep (by decide) h5_
      refine v_lconst hX (v := jJ 0) dX9_readOperation_40 rfl ?_
      refine u_lcmp hX dX9_readOperation_41 ⟨by omega, by omega⟩ ⟨by omega, by omega⟩ (fun v34_ b_v34_ c_v34_ => ?_)
      refine u_if_eq hX (tgt := 49) dX9_readOperation_42 (by decide) ⟨by omega, by omega⟩ (fun h35_ => ?_) (fun h35_ => ?_)
      ·
        refine v_iconst hX (v := iI 0) dX9_readOperation_49 rfl ?_
        exact L50 _ v27_ v28_ v29_ 0 (((cFr.rf _ _).tr (f5_.mono (by decide) (by decide) (by decide))).tr (f25_.mono (by decide) (by decide) (by decide))) (by simp (disch := omega) only [y_I_s_I, x_I_s_I, z_I_s_J, z_I_s_A, z_I_s_B, z_I_s_P, y30_, e_v27_, e_v28_, e_v29_]) (by simp (disch := omega) only [y_I_s_I, x_I_s_I, z_I_s_J, z_I_s_A, z_I_s_B, z_I_s_P, y30_, e_v27_, e_v28_, e_v29_]) (by simp (disch := omega) only [y_I_s_I, x_I_s_I, z_I_s_J, z_I_s_A, z_I_s_B, z_I_s_P, y30_, e_v27_, e_v28_, e_v29_]) ⟨by omega, by omega⟩ ⟨by omega, by omega⟩ ⟨by omega, by omega⟩ (by omega)
      ·
        refine v_iconst hX (v := iI 1) dX9_readOperation_45 rfl ?_
        refine v_goto hX (tgt := 50) dX9_readOperation_46 (by decide) ?_
        exact L50 _ v27_ v28_ v29_ 1 (((cFr.rf _ _).tr (f5_.mono (by decide) (by decide) (by decide))).tr (f25_.mono (by decide) (by decide) (by decide))) (by simp (disch := omega) only [y_I_s_I, x_I_s_I, z_I_s_J, z_I_s_A, z_I_s_B, z_I_s_P, y30_, e_v27_, e_v28_, e_v29_]) (by simp (disch := omega) only [y_I_s_I, x_I_s_I, z_I_s_J, z_I_s_A, z_I_s_B, z_I_s_P, y30_, e_v27_, e_v28_, e_v29_]) (by simp (disch := omega) only [y_I_s_I, x_I_s_I, z_I_s_J, z_I_s_A, z_I_s_B, z_I_s_P, y30_, e_v27_, e_v28_, e_v29_]) ⟨by omega, by omega⟩ ⟨by omega, by omega⟩ ⟨by omega, by omega⟩ (by omega)
    ·
      refine v_aload_n hX dX9_readOperation_29 (i := 0) rfl rfl ?_
      refine v_callV hX (n := 0) (t_readDotted (S := S5_) (x := x) (w := w) (at_ := v6_) (to_ := to_) (bv := bv) (Lbv := Lbv) h5_ (by simp (disch := omega) only [y_I_s_I, x_I_s_I, z_I_s_J, z_I_s_A, z_I_s_B, z_I_s_P, y7_, e_v6_]) ⟨by omega, by omega⟩ (by simp (disch := omega) only [y_I_s_I, x_I_s_I, z_I_s_J, z_I_s_A, z_I_s_B, z_I_s_P, y7_, e_v6_]) ⟨by omega, by omega⟩ (by simp (disch := omega) only [y_P_s_P, x_P_s_P, z_P_s_I, z_P_s_J, z_P_s_A, z_P_s_B, y8_]) k9_ l10_ (by omega) (by omega)) (cs_k_419 h5_) bc_7 (by decide) w_3_180 w_3_182 (bw_p (q := (yX9_readDotted, 6)) (List.mem_of_getElem? (i := 11) rfl) rfl) w_1_11 w_3_183 (by decide +kernel) rfl ⟨by decide, by decide⟩ ⟨by omega, by omega⟩ (Nat.le_of_ble_eq_true rfl) rfl dX9_readOperation_30 (fun _ _ _ q => q) ?_
      rintro r36_ S36_ z36_ ⟨rfl, f36_, v37_, v38_, v39_, v40_, rfl, b_v37_, e_v38_, b_v38_, e_v39_, b_v39_, e_v40_, b_v40_, q36_⟩
      have y41_ : m_I S36_ 702 (x + 419) = iI to_ := (f36_.2.1 702 (by decide) _).trans (by simp (disch := omega) only [y_I_s_I, x_I_s_I, z_I_s_J, z_I_s_A, z_I_s_B, z_I_s_P, y7_, e_v6_])
      have y42_ : m_P S36_ 700 (x + 419) = some bv := (f36_.2.2.1 700 (by decide) _).trans (by simp (disch := omega) only [y_P_s_P, x_P_s_P, z_P_s_I, z_P_s_J, z_P_s_A, z_P_s_B, y8_])
      have k43_ : m_K S36_ bv = 12 := (f36_.2.2.2.2 _ (by rw [show m_K S5_ bv = 12 from k9_]; decide)).1.trans k9_
      have l44_ : m_L S36_ bv = Lbv := (f36_.2.2.2.2 _ (by rw [show m_K S5_ bv = 12 from k9_]; decide)).2.1.trans l10_
      have h36_ : cS S36_ x := f36_.keep (by decide) h5_
      refine v_goto hX (tgt := 50) dX9_readOperation_33 (by decide) ?_
      exact L50 _ v38_ v39_ v40_ v37_ (((cFr.rf _ _).tr (f5_.mono (by decide) (by decide) (by decide))).tr (f36_.mono (by decide) (by decide) (by decide))) (by simp (disch := omega) only [y_I_s_I, x_I_s_I, z_I_s_J, z_I_s_A, z_I_s_B, z_I_s_P, y41_, e_v38_, e_v39_, e_v40_]) (by simp (disch := omega) only [y_I_s_I, x_I_s_I, z_I_s_J, z_I_s_A, z_I_s_B, z_I_s_P, y41_, e_v38_, e_v39_, e_v40_]) (by simp (disch := omega) only [y_I_s_I, x_I_s_I, z_I_s_J, z_I_s_A, z_I_s_B, z_I_s_P, y41_, e_v38_, e_v39_, e_v40_]) ⟨by omega, by omega⟩ ⟨by omega, by omega⟩ ⟨by omega, by omega⟩ (by omega)
set_option maxRecDepth 100000 in
set_option maxHeartbeats 4000000 in
theorem t_readOperand {kn : Nat → Nat} {B : Nat} {S : b_M} {z x w : Nat} {at_ : Int} {to_ : Int} {bv Lbv : Nat} (h : cS S x) (e_at_ : m_I S 701 (x + 419) = iI at_) (b_at_ : -2147483648 ≤ at_ ∧ at_ < 2147483648) (e_to_ : m_I S 702 (x + 419) = iI to_) (b_to_ : -2147483648 ≤ to_ ∧ to_ < 2147483648) (e_bv : m_P S 700 (x + 419) = some bv) (k_bv : m_K S bv = 12) (l_bv : m_L S bv = Lbv) (c_bv : (Lbv : Int) ≤ 2097152) (p : 0 ≤ at_ ∧ at_ ≤ to_ ∧ to_ ≤ (Lbv : Int)) : b_C kn B yX9_readOperand cX9_readOperand 1 none 1 20 0 0 [.ref (x + 419)] S z (fun r S' z' => z = z' ∧ cFr [701, 703, 704] [] [] w S S' x ∧ ∃ a1 f1 t1 : Int, r = none ∧ m_I S' 701 (x + 419) = iI a1 ∧ (-2147483648 ≤ a1 ∧ a1 < 2147483648) ∧ m_I S' 703 (x + 419) = iI f1 ∧ (-2147483648 ≤ f1 ∧ f1 < 2147483648) ∧ m_I S' 704 (x + 419) = iI t1 ∧ (-2147483648 ≤ t1 ∧ t1 < 2147483648) ∧ (at_ ≤ a1 ∧ a1 ≤ to_ ∧ at_ ≤ f1 ∧ f1 ≤ t1 ∧ t1 ≤ to_)) (fun _ _ _ => False) := by
  refine b_enter (by decide) (Nat.le_of_ble_eq_true rfl) ?_
  intro X hX hE hnL hkn hB hI_
  subst hkn; subst hB
  clear hI_
  have L20 : ∀ (n20 : Nat) (S20c : b_M) (a0 : Int) (f0 : Int) (t0 : Int), cFr [701, 703, 704] [] [] w S S20c x → m_I S20c 701 (x + 419) = iI a0 → m_I S20c 703 (x + 419) = iI f0 → m_I S20c 704 (x + 419) = iI t0 → (-2147483648 ≤ a0 ∧ a0 < 2147483648) → (-2147483648 ≤ f0 ∧ f0 < 2147483648) → (-2147483648 ≤ t0 ∧ t0 < 2147483648) → (at_ ≤ a0 ∧ a0 ≤ to_ ∧ at_ ≤ f0 ∧ f0 ≤ t0 ∧ t0 ≤ a0) → (to_ - a0).toNat = n20 → b_V X S20c z 0 0 20 [(0, .ref (x + 419))] [] := by
    intro n20
    induction n20 using Nat.strongRecOn with
    | _ n20 ih20 =>
    intro S20c a0 f0 t0 fr20 e_a0 e_f0 e_t0 b_a0 b_f0 b_t0 p20_0 hm20
    have h20c : cS S20c x := fr20.keep (by decide) h
    have e20_to_ : m_I S20c 702 (x + 419) = iI to_ := (fr20.2.1 702 (by decide) _).trans e_to_
    have k20_bv : m_K S20c bv = 12 := (fr20.2.2.2.2 _ (by rw [k_bv]; decide)).1.trans k_bv
    have l20_bv : m_L S20c bv = Lbv := (fr20.2.2.2.2 _ (by rw [k_bv]; decide)).2.1.trans l_bv
    have e20_bv : m_P S20c 700 (x + 419) = some bv := (fr20.2.2.1 700 (by decide) _).trans e_bv
    refine v_aload_n hX dX9_readOperand_20 (i := 0) rfl rfl ?_
    refine v_get hX (ci := 7) (k := 1) (cs_k_419 h20c) bc_7 (by decide) (by decide) in_7 w_1_234 dX9_readOperand_21 (mvF (f := 701) (v := iI a0) rfl rfl (by simp (disch := omega) only [y_I_s_I, x_I_s_I, z_I_s_J, z_I_s_A, z_I_s_B, z_I_s_P, e20_to_, e_a0, e_f0, e_t0])) ?_
    refine v_aload_n hX dX9_readOperand_24 (i := 0) rfl rfl ?_
    refine v_get hX (ci := 7) (k := 2) (cs_k_419 h20c) bc_7 (by decide) (by decide) in_7 w_1_235 dX9_readOperand_25 (mvF (f := 702) (v := iI to_) rfl rfl (by simp (disch := omega) only [y_I_s_I, x_I_s_I, z_I_s_J, z_I_s_A, z_I_s_B, z_I_s_P, e20_to_, e_a0, e_f0, e_t0])) ?_
    refine u_icmp_ge hX (tgt := 82) dX9_readOperand_28 (by decide) ⟨by omega, by omega⟩ ⟨by omega, by omega⟩ (fun h1_ => ?_) (fun h1_ => ?_)
    ·
      exact v_return hX hE dX9_readOperand_82 (by omega) (by omega) ⟨rfl, fr20, a0, f0, t0, rfl, (by simp (disch := omega) only [y_I_s_I, x_I_s_I, z_I_s_J, z_I_s_A, z_I_s_B, z_I_s_P, e20_to_, e_a0, e_f0, e_t0]), ⟨by omega, by omega⟩, (by simp (disch := omega) only [y_I_s_I, x_I_s_I, z_I_s_J, z_I_s_A, z_I_s_B, z_I_s_P, e20_to_, e_a0, e_f0, e_t0]), ⟨by omega, by omega⟩, (by simp (disch := omega) only [y_I_s_I, x_I_s_I, z_I_s_J, z_I_s_A, z_I_s_B, z_I_s_P, e20_to_, e_a0, e_f0, e_t0]), ⟨by omega, by omega⟩, (by omega)⟩
    ·
      refine v_aload_n hX dX9_readOperand_31 (i := 0) rfl rfl ?_
      refine v_get hX (ci := 7) (k := 0) (cs_k_419 h20c) bc_7 (by decide) (by decide) in_7 w_1_233 dX9_readOperand_32 (mvP (f := 700) (q := bv) rfl rfl (by simp (disch := omega) only [y_P_s_P, x_P_s_P, z_P_s_I, z_P_s_J, z_P_s_A, z_P_s_B, e20_bv])) ?_
      refine v_aload_n hX dX9_readOperand_35 (i := 0) rfl rfl ?_
      refine v_get hX (ci := 7) (k := 1) (cs_k_419 h20c) bc_7 (by decide) (by decide) in_7 w_1_234 dX9_readOperand_36 (mvF (f := 701) (v := iI a0) rfl rfl (by simp (disch := omega) only [y_I_s_I, x_I_s_I, z_I_s_J, z_I_s_A, z_I_s_B, z_I_s_P, e20_to_, e_a0, e_f0, e_t0])) ?_
      refine u_bald hX (L := Lbv) k20_bv l20_bv ⟨by omega, by omega⟩ (by omega) dX9_readOperand_39 (fun v2_ e_v2_ b_v2_ => ?_)
      try simp (disch := omega) only [zr_I, zr_J, zr_B, rA_A, zl_I, zl_J, zl_A, lA_B, zr_P] at e_v2_
      refine v_bipush hX (v := iI 44) dX9_readOperand_40 (by decide) ?_
      refine u_icmp_eq hX (tgt := 82) dX9_readOperand_42 (by decide) ⟨by omega, by omega⟩ ⟨by omega, by omega⟩ (fun h3_ => ?_) (fun h3_ => ?_)
      ·
        exact v_return hX hE dX9_readOperand_82 (by omega) (by omega) ⟨rfl, fr20, a0, f0, t0, rfl, (by simp (disch := omega) only [y_I_s_I, x_I_s_I, z_I_s_J, z_I_s_A, z_I_s_B, z_I_s_P, e20_to_, e_a0, e_f0, e_t0]), ⟨by omega, by omega⟩, (by simp (disch := omega) only [y_I_s_I, x_I_s_I, z_I_s_J, z_I_s_A, z_I_s_B, z_I_s_P, e20_to_, e_a0, e_f0, e_t0]), ⟨by omega, by omega⟩, (by simp (disch := omega) only [y_I_s_I, x_I_s_I, z_I_s_J, z_I_s_A, z_I_s_B, z_I_s_P, e20_to_, e_a0, e_f0, e_t0]), ⟨by omega, by omega⟩, (by omega)⟩
      ·
        refine v_aload_n hX dX9_readOperand_45 (i := 0) rfl rfl ?_
        refine v_dup hX dX9_readOperand_46 rfl ?_
        refine v_get hX (ci := 7) (k := 1) (cs_k_419 h20c) bc_7 (by decide) (by decide) in_7 w_1_234 dX9_readOperand_47 (mvF (f := 701) (v := iI a0) rfl rfl (by simp (disch := omega) only [y_I_s_I, x_I_s_I, z_I_s_J, z_I_s_A, z_I_s_B, z_I_s_P, e20_to_, e_a0, e_f0, e_t0])) ?_
        refine v_iconst hX (v := iI 1) dX9_readOperand_50 rfl ?_
        refine u_iadd hX dX9_readOperand_51 ?_
        refine v_putI hX (ci := 7) (k := 1) (f := 701) (cs_k_419 h20c) bc_7 (by decide) (by decide) in_7 tyX9_ok nmX9 w_1_234 (Or.inl rfl) rfl rfl dX9_readOperand_52 rfl rfl ?_
        refine v_aload_n hX dX9_readOperand_55 (i := 0) rfl rfl ?_
        refine v_get hX (ci := 7) (k := 0) (cs_k_419 (cS.sI h20c)) bc_7 (by decide) (by decide) in_7 w_1_233 dX9_readOperand_56 (mvP (f := 700) (q := bv) rfl rfl (by simp (disch := omega) only [y_P_s_P, x_P_s_P, z_P_s_I, z_P_s_J, z_P_s_A, z_P_s_B, e20_bv])) ?_
        refine v_aload_n hX dX9_readOperand_59 (i := 0) rfl rfl ?_
        refine v_get hX (ci := 7) (k := 1) (cs_k_419 (cS.sI h20c)) bc_7 (by decide) (by decide) in_7 w_1_234 dX9_readOperand_60 (mvF (f := 701) (v := iI (a0 + 1)) rfl rfl (by simp (disch := omega) only [y_I_s_I, x_I_s_I, z_I_s_J, z_I_s_A, z_I_s_B, z_I_s_P, e20_to_, e_a0, e_f0, e_t0])) ?_
        refine v_iconst hX (v := iI 1) dX9_readOperand_63 rfl ?_
        refine u_isub hX dX9_readOperand_64 ?_
        refine u_bald hX (L := Lbv) k20_bv l20_bv ⟨by omega, by omega⟩ (by omega) dX9_readOperand_65 (fun v4_ e_v4_ b_v4_ => ?_)
        try simp (disch := omega) only [zr_I, zr_J, zr_B, rA_A, zl_I, zl_J, zl_A, lA_B, zr_P] at e_v4_
        refine v_bipush hX (v := iI 32) dX9_readOperand_66 (by decide) ?_
        refine u_icmp_eq hX (tgt := 20) dX9_readOperand_68 (by decide) ⟨by omega, by omega⟩ ⟨by omega, by omega⟩ (fun h5_ => ?_) (fun h5_ => ?_)
        ·
          exact ih20 _ (by omega) _ (a0 + 1) f0 t0 (fr20.sI (by decide) ⟨by omega, by omega⟩) (by simp (disch := omega) only [y_I_s_I, x_I_s_I, z_I_s_J, z_I_s_A, z_I_s_B, z_I_s_P, e20_to_, e_a0, e_f0, e_t0]) (by simp (disch := omega) only [y_I_s_I, x_I_s_I, z_I_s_J, z_I_s_A, z_I_s_B, z_I_s_P, e20_to_, e_a0, e_f0, e_t0]) (by simp (disch := omega) only [y_I_s_I, x_I_s_I, z_I_s_J, z_I_s_A, z_I_s_B, z_I_s_P, e20_to_, e_a0, e_f0, e_t0]) ⟨by omega, by omega⟩ ⟨by omega, by omega⟩ ⟨by omega, by omega⟩ (by omega) rfl
        ·
          refine v_aload_n hX dX9_readOperand_71 (i := 0) rfl rfl ?_
          refine v_aload_n hX dX9_readOperand_72 (i := 0) rfl rfl ?_
          refine v_get hX (ci := 7) (k := 1) (cs_k_419 (cS.sI h20c)) bc_7 (by decide) (by decide) in_7 w_1_234 dX9_readOperand_73 (mvF (f := 701) (v := iI (a0 + 1)) rfl rfl (by simp (disch := omega) only [y_I_s_I, x_I_s_I, z_I_s_J, z_I_s_A, z_I_s_B, z_I_s_P, e20_to_, e_a0, e_f0, e_t0])) ?_
          refine v_putI hX (ci := 7) (k := 4) (f := 704) (cs_k_419 (cS.sI h20c)) bc_7 (by decide) (by decide) in_7 tyX9_ok nmX9 w_1_239 (Or.inl rfl) rfl rfl dX9_readOperand_76 rfl rfl ?_
          refine v_goto hX (tgt := 20) dX9_readOperand_79 (by decide) ?_
          exact ih20 _ (by omega) _ (a0 + 1) f0 (a0 + 1) ((fr20.sI (by decide) ⟨by omega, by omega⟩).sI (by decide) ⟨by omega, by omega⟩) (by simp (disch := omega) only [y_I_s_I, x_I_s_I, z_I_s_J, z_I_s_A, z_I_s_B, z_I_s_P, e20_to_, e_a0, e_f0, e_t0]) (by simp (disch := omega) only [y_I_s_I, x_I_s_I, z_I_s_J, z_I_s_A, z_I_s_B, z_I_s_P, e20_to_, e_a0, e_f0, e_t0]) (by simp (disch := omega) only [y_I_s_I, x_I_s_I, z_I_s_J, z_I_s_A, z_I_s_B, z_I_s_P, e20_to_, e_a0, e_f0, e_t0]) ⟨by omega, by omega⟩ ⟨by omega, by omega⟩ ⟨by omega, by omega⟩ (by omega) rfl
  change b_V X S z 0 0 0 [(0, .ref (x + 419))] []
  refine v_aload_n hX dX9_readOperand_0 (i := 0) rfl rfl ?_
  refine v_callV hX (n := 0) (t_passBlanks (S := S) (x := x) (w := w) (at_ := at_) (to_ := to_) (bv := bv) (Lbv := Lbv) h (by simp (disch := omega) only [y_I_s_I, x_I_s_I, z_I_s_J, z_I_s_A, z_I_s_B, z_I_s_P, e_at_, e_to_]) ⟨by omega, by omega⟩ (by simp (disch := omega) only [y_I_s_I, x_I_s_I, z_I_s_J, z_I_s_A, z_I_s_B, z_I_s_P, e_at_, e_to_]) ⟨by omega, by omega⟩ (by simp (disch := omega) only [y_P_s_P, x_P_s_P, z_P_s_I, z_P_s_J, z_P_s_A, z_P_s_B, e_bv]) k_bv l_bv (by omega) (by omega)) (cs_k_419 h) bc_7 (by decide) w_3_162 w_3_163 w_3_164 w_1_11 w_3_165 (by decide +kernel) rfl ⟨by decide, by decide⟩ ⟨by omega, by omega⟩ (Nat.le_of_ble_eq_true rfl) rfl dX9_readOperand_1 (fun _ _ _ q => q) ?_
  rintro r6_ S6_ z6_ ⟨rfl, f6_, v7_, rfl, e_v7_, b_v7_, q6_⟩
  have y8_ : m_I S6_ 702 (x + 419) = iI to_ := (f6_.2.1 702 (by decide) _).trans (by simp (disch := omega) only [y_I_s_I, x_I_s_I, z_I_s_J, z_I_s_A, z_I_s_B, z_I_s_P, e_at_, e_to_])
  have y9_ : m_P S6_ 700 (x + 419) = some bv := (f6_.2.2.1 700 (by decide) _).trans (by simp (disch := omega) only [y_P_s_P, x_P_s_P, z_P_s_I, z_P_s_J, z_P_s_A, z_P_s_B, e_bv])
  have k10_ : m_K S6_ bv = 12 := (f6_.2.2.2.2 _ (by rw [show m_K S bv = 12 from k_bv]; decide)).1.trans k_bv
  have l11_ : m_L S6_ bv = Lbv := (f6_.2.2.2.2 _ (by rw [show m_K S bv = 12 from k_bv]; decide)).2.1.trans l_bv
  have h6_ : cS S6_ x := f6_.keep (by decide) h
  refine v_aload_n hX dX9_readOperand_4 (i := 0) rfl rfl ?_
  refine v_aload_n hX dX9_readOperand_5 (i := 0) rfl rfl ?_
  refine v_get hX (ci := 7) (k := 1) (cs_k_419 h6_) bc_7 (by decide) (by decide) in_7 w_1_234 dX9_readOperand_6 (mvF (f := 701) (v := iI v7_) rfl rfl (by simp (disch := omega) only [y_I_s_I, x_I_s_I, z_I_s_J, z_I_s_A, z_I_s_B, z_I_s_P, y8_, e_v7_])) ?_
  refine v_putI hX (ci := 7) (k := 3) (f := 703) (cs_k_419 h6_) bc_7 (by decide) (by decide) in_7 tyX9_ok nmX9 w_1_237 (Or.inl rfl) rfl rfl dX9_readOperand_9 rfl rfl ?_
  refine v_aload_n hX dX9_readOperand_12 (i := 0) rfl rfl ?_
  refine v_aload_n hX dX9_readOperand_13 (i := 0) rfl rfl ?_
  refine v_get hX (ci := 7) (k := 1) (cs_k_419 (cS.sI h6_)) bc_7 (by decide) (by decide) in_7 w_1_234 dX9_readOperand_14 (mvF (f := 701) (v := iI v7_) rfl rfl (by simp (disch := omega) only [y_I_s_I, x_I_s_I, z_I_s_J, z_I_s_A, z_I_s_B, z_I_s_P, y8_, e_v7_])) ?_
  refine v_putI hX (ci := 7) (k := 4) (f := 704) (cs_k_419 (cS.sI h6_)) bc_7 (by decide) (by decide) in_7 tyX9_ok nmX9 w_1_239 (Or.inl rfl) rfl rfl dX9_readOperand_17 rfl rfl ?_
  exact L20 _ _ v7_ v7_ v7_ ((((cFr.rf _ _).tr (f6_.mono (by decide) (by decide) (by decide))).sI (by decide) ⟨by omega, by omega⟩).sI (by decide) ⟨by omega, by omega⟩) (by simp (disch := omega) only [y_I_s_I, x_I_s_I, z_I_s_J, z_I_s_A, z_I_s_B, z_I_s_P, y8_, e_v7_]) (by simp (disch := omega) only [y_I_s_I, x_I_s_I, z_I_s_J, z_I_s_A, z_I_s_B, z_I_s_P, y8_, e_v7_]) (by simp (disch := omega) only [y_I_s_I, x_I_s_I, z_I_s_J, z_I_s_A, z_I_s_B, z_I_s_P, y8_, e_v7_]) ⟨by omega, by omega⟩ ⟨by omega, by omega⟩ ⟨by omega, by omega⟩ (by omega) rfl
set_option maxRecDepth 100000 in
set_option maxHeartbeats 4000000 in
theorem t_readNumber {kn : Nat → Nat} {B : Nat} {S : b_M} {z x w : Nat} {at_ : Int} {to_ : Int} {bv Lbv : Nat} (h : cS S x) (e_at_ : m_I S 701 (x + 419) = iI at_) (b_at_ : -2147483648 ≤ at_ ∧ at_ < 2147483648) (e_to_ : m_I S 702 (x + 419) = iI to_) (b_to_ : -2147483648 ≤ to_ ∧ to_ < 2147483648) (e_bv : m_P S 700 (x + 419) = some bv) (k_bv : m_K S bv = 12) (l_bv : m_L S bv = Lbv) (c_bv : (Lbv : Int) ≤ 2097152) (p : 0 ≤ at_ ∧ at_ ≤ to_ ∧ to_ ≤ (Lbv : Int) ∧ to_ ≤ 2097152) : b_C kn B yX9_readNumber cX9_readNumber 7 (some .long) 1 20 0 0 [.ref (x + 419)] S z (fun r S' z' => z = z' ∧ cFr [701] [] [] w S S' x ∧ ∃ w1 a1 : Int, r = some (.long (jJ w1)) ∧ (-9223372036854775808 ≤ w1 ∧ w1 < 9223372036854775808) ∧ m_I S' 701 (x + 419) = iI a1 ∧ (-2147483648 ≤ a1 ∧ a1 < 2147483648) ∧ (at_ ≤ a1 ∧ a1 ≤ to_)) (fun _ _ _ => False) := by
  refine b_enter (by decide) (Nat.le_of_ble_eq_true rfl) ?_
  intro X hX hE hnL hkn hB hI_
  subst hkn; subst hB
  clear hI_
  have L146 : ∀ (S146c : b_M) (a0 : Int) (wv : Int) (fr_ : Int) (bs : Int) (hx : Int), cFr [701] [] [] w S S146c x → m_I S146c 701 (x + 419) = iI a0 → (-2147483648 ≤ a0 ∧ a0 < 2147483648) → (at_ ≤ fr_ ∧ fr_ ≤ a0 ∧ a0 ≤ to_ ∧ (hx = 0 ∨ hx = 1) ∧ (-9223372036854775808 ≤ wv ∧ wv < 9223372036854775808)) → b_V X S146c z 0 0 146 [(4, .long (jJ wv)), (3, .int (iI fr_)), (2, .int (iI bs)), (1, .int (iI hx)), (0, .ref (x + 419))] [] := by
    intro S146c a0 wv fr_ bs hx fr146 e_a0 b_a0 p146_0
    have h146c : cS S146c x := fr146.keep (by decide) h
    have e146_to_ : m_I S146c 702 (x + 419) = iI to_ := (fr146.2.1 702 (by decide) _).trans e_to_
    have k146_bv : m_K S146c bv = 12 := (fr146.2.2.2.2 _ (by rw [k_bv]; decide)).1.trans k_bv
    have l146_bv : m_L S146c bv = Lbv := (fr146.2.2.2.2 _ (by rw [k_bv]; decide)).2.1.trans l_bv
    have e146_bv : m_P S146c 700 (x + 419) = some bv := (fr146.2.2.1 700 (by decide) _).trans e_bv
    refine v_aload_n hX dX9_readNumber_146 (i := 0) rfl rfl ?_
    refine v_get hX (ci := 7) (k := 1) (cs_k_419 h146c) bc_7 (by decide) (by decide) in_7 w_1_234 dX9_readNumber_147 (mvF (f := 701) (v := iI a0) rfl rfl (by simp (disch := omega) only [y_I_s_I, x_I_s_I, z_I_s_J, z_I_s_A, z_I_s_B, z_I_s_P, e146_to_, e_a0])) ?_
    refine v_iload_n hX dX9_readNumber_150 (i := 3) rfl rfl ?_
    refine u_isub hX dX9_readNumber_151 ?_
    refine v_istore hX (lv' := [(6, .int (iI (a0 - fr_))), (4, .long (jJ wv)), (3, .int (iI fr_)), (2, .int (iI bs)), (1, .int (iI hx)), (0, .ref (x + 419))]) dX9_readNumber_152 (by rw [hnL]; decide) rfl ?_
    refine v_iload hX dX9_readNumber_154 rfl ?_
    refine u_if_eq hX (tgt := 175) dX9_readNumber_156 (by decide) ⟨by omega, by omega⟩ (fun h1_ => ?_) (fun h1_ => ?_)
    ·
      refine v_ldc2 hX (v := jJ (-1)) dX9_readNumber_175 (show Cond.constantLong _ _ (jJ (-1)) ∈ b_Ws from w_3_174) ?_
      refine v_goto hX (tgt := 183) dX9_readNumber_178 (by decide) ?_
      exact v_lreturn hX hE dX9_readNumber_183 (by omega) (by omega) ⟨rfl, fr146, (-1), a0, rfl, ⟨by omega, by omega⟩, (by simp (disch := omega) only [y_I_s_I, x_I_s_I, z_I_s_J, z_I_s_A, z_I_s_B, z_I_s_P, e146_to_, e_a0]), ⟨by omega, by omega⟩, (by omega)⟩
    ·
      refine v_iload hX dX9_readNumber_159 rfl ?_
      refine v_iload_n hX dX9_readNumber_161 (i := 1) rfl rfl ?_
      refine u_if_eq hX (tgt := 170) dX9_readNumber_162 (by decide) ⟨by omega, by omega⟩ (fun h2_ => ?_) (fun h2_ => ?_)
      ·
        refine v_bipush hX (v := iI 9) dX9_readNumber_170 (by decide) ?_
        refine u_icmp_le hX (tgt := 181) dX9_readNumber_172 (by decide) ⟨by omega, by omega⟩ ⟨by omega, by omega⟩ (fun h3_ => ?_) (fun h3_ => ?_)
        ·
          refine v_lload hX dX9_readNumber_181 rfl ?_
          exact v_lreturn hX hE dX9_readNumber_183 (by omega) (by omega) ⟨rfl, fr146, wv, a0, rfl, ⟨by omega, by omega⟩, (by simp (disch := omega) only [y_I_s_I, x_I_s_I, z_I_s_J, z_I_s_A, z_I_s_B, z_I_s_P, e146_to_, e_a0]), ⟨by omega, by omega⟩, (by omega)⟩
        ·
          refine v_ldc2 hX (v := jJ (-1)) dX9_readNumber_175 (show Cond.constantLong _ _ (jJ (-1)) ∈ b_Ws from w_3_174) ?_
          refine v_goto hX (tgt := 183) dX9_readNumber_178 (by decide) ?_
          exact v_lreturn hX hE dX9_readNumber_183 (by omega) (by omega) ⟨rfl, fr146, (-1), a0, rfl, ⟨by omega, by omega⟩, (by simp (disch := omega) only [y_I_s_I, x_I_s_I, z_I_s_J, z_I_s_A, z_I_s_B, z_I_s_P, e146_to_, e_a0]), ⟨by omega, by omega⟩, (by omega)⟩
      ·
        refine v_bipush hX (v := iI 8) dX9_readNumber_165 (by decide) ?_
        refine v_goto hX (tgt := 172) dX9_readNumber_167 (by decide) ?_
        refine u_icmp_le hX (tgt := 181) dX9_readNumber_172 (by decide) ⟨by omega, by omega⟩ ⟨by omega, by omega⟩ (fun h4_ => ?_) (fun h4_ => ?_)
        ·
          refine v_lload hX dX9_readNumber_181 rfl ?_
          exact v_lreturn hX hE dX9_readNumber_183 (by omega) (by omega) ⟨rfl, fr146, wv, a0, rfl, ⟨by omega, by omega⟩, (by simp (disch := omega) only [y_I_s_I, x_I_s_I, z_I_s_J, z_I_s_A, z_I_s_B, z_I_s_P, e146_to_, e_a0]), ⟨by omega, by omega⟩, (by omega)⟩
        ·
          refine v_ldc2 hX (v := jJ (-1)) dX9_readNumber_175 (show Cond.constantLong _ _ (jJ (-1)) ∈ b_Ws from w_3_174) ?_
          refine v_goto hX (tgt := 183) dX9_readNumber_178 (by decide) ?_
          exact v_lreturn hX hE dX9_readNumber_183 (by omega) (by omega) ⟨rfl, fr146, (-1), a0, rfl, ⟨by omega, by omega⟩, (by simp (disch := omega) only [y_I_s_I, x_I_s_I, z_I_s_J, z_I_s_A, z_I_s_B, z_I_s_P, e146_to_, e_a0]), ⟨by omega, by omega⟩, (by omega)⟩
  have L83 : ∀ (n83 : Nat) (S83c : b_M) (a0 : Int) (wv : Int) (fr_ : Int) (bs : Int) (hx : Int), cFr [701] [] [] w S S83c x → m_I S83c 701 (x + 419) = iI a0 → (-2147483648 ≤ a0 ∧ a0 < 2147483648) → (at_ ≤ fr_ ∧ fr_ ≤ a0 ∧ a0 ≤ to_ ∧ (hx = 0 ∨ hx = 1) ∧ 10 ≤ bs ∧ bs ≤ 16 ∧ (-9223372036854775808 ≤ wv ∧ wv < 9223372036854775808)) → (to_ - a0).toNat = n83 → b_V X S83c z 0 0 83 [(4, .long (jJ wv)), (3, .int (iI fr_)), (2, .int (iI bs)), (1, .int (iI hx)), (0, .ref (x + 419))] [] := by
    intro n83
    induction n83 using Nat.strongRecOn with
    | _ n83 ih83 =>
    intro S83c a0 wv fr_ bs hx fr83 e_a0 b_a0 p83_0 hm83
    have h83c : cS S83c x := fr83.keep (by decide) h
    have e83_to_ : m_I S83c 702 (x + 419) = iI to_ := (fr83.2.1 702 (by decide) _).trans e_to_
    have k83_bv : m_K S83c bv = 12 := (fr83.2.2.2.2 _ (by rw [k_bv]; decide)).1.trans k_bv
    have l83_bv : m_L S83c bv = Lbv := (fr83.2.2.2.2 _ (by rw [k_bv]; decide)).2.1.trans l_bv
    have e83_bv : m_P S83c 700 (x + 419) = some bv := (fr83.2.2.1 700 (by decide) _).trans e_bv
    refine v_aload_n hX dX9_readNumber_83 (i := 0) rfl rfl ?_
    refine v_get hX (ci := 7) (k := 1) (cs_k_419 h83c) bc_7 (by decide) (by decide) in_7 w_1_234 dX9_readNumber_84 (mvF (f := 701) (v := iI a0) rfl rfl (by simp (disch := omega) only [y_I_s_I, x_I_s_I, z_I_s_J, z_I_s_A, z_I_s_B, z_I_s_P, e83_to_, e_a0])) ?_
    refine v_aload_n hX dX9_readNumber_87 (i := 0) rfl rfl ?_
    refine v_get hX (ci := 7) (k := 2) (cs_k_419 h83c) bc_7 (by decide) (by decide) in_7 w_1_235 dX9_readNumber_88 (mvF (f := 702) (v := iI to_) rfl rfl (by simp (disch := omega) only [y_I_s_I, x_I_s_I, z_I_s_J, z_I_s_A, z_I_s_B, z_I_s_P, e83_to_, e_a0])) ?_
    refine u_icmp_ge hX (tgt := 146) dX9_readNumber_91 (by decide) ⟨by omega, by omega⟩ ⟨by omega, by omega⟩ (fun h5_ => ?_) (fun h5_ => ?_)
    ·
      exact L146 _ a0 wv fr_ bs hx fr83 (by simp (disch := omega) only [y_I_s_I, x_I_s_I, z_I_s_J, z_I_s_A, z_I_s_B, z_I_s_P, e83_to_, e_a0]) ⟨by omega, by omega⟩ (by omega)
    ·
      refine v_aload_n hX dX9_readNumber_94 (i := 0) rfl rfl ?_
      refine v_get hX (ci := 7) (k := 0) (cs_k_419 h83c) bc_7 (by decide) (by decide) in_7 w_1_233 dX9_readNumber_95 (mvP (f := 700) (q := bv) rfl rfl (by simp (disch := omega) only [y_P_s_P, x_P_s_P, z_P_s_I, z_P_s_J, z_P_s_A, z_P_s_B, e83_bv])) ?_
      refine v_aload_n hX dX9_readNumber_98 (i := 0) rfl rfl ?_
      refine v_get hX (ci := 7) (k := 1) (cs_k_419 h83c) bc_7 (by decide) (by decide) in_7 w_1_234 dX9_readNumber_99 (mvF (f := 701) (v := iI a0) rfl rfl (by simp (disch := omega) only [y_I_s_I, x_I_s_I, z_I_s_J, z_I_s_A, z_I_s_B, z_I_s_P, e83_to_, e_a0])) ?_
      refine u_bald hX (L := Lbv) k83_bv l83_bv ⟨by omega, by omega⟩ (by omega) dX9_readNumber_102 (fun v6_ e_v6_ b_v6_ => ?_)
      try simp (disch := omega) only [zr_I, zr_J, zr_B, rA_A, zl_I, zl_J, zl_A, lA_B, zr_P] at e_v6_
      refine v_callS hX (n := 1) (t_digitOf (S := S83c) (x := x) (w := w) (c := v6_) h83c ⟨by omega, by omega⟩) w_4_145 w_4_146 w_1_11 w_4_147 (by decide +kernel) rfl ⟨by decide, by decide⟩ ⟨by omega, by omega⟩ (Nat.le_of_ble_eq_true rfl) rfl dX9_readNumber_103 (fun _ _ _ q => q) ?_
      rintro r7_ S7_ z7_ ⟨rfl, rfl, v8_, rfl, b_v8_, q7_⟩
      refine v_istore hX (lv' := [(6, .int (iI v8_)), (4, .long (jJ wv)), (3, .int (iI fr_)), (2, .int (iI bs)), (1, .int (iI hx)), (0, .ref (x + 419))]) dX9_readNumber_106 (by rw [hnL]; decide) rfl ?_
      refine v_iload hX dX9_readNumber_108 rfl ?_
      refine u_if_lt hX (tgt := 146) dX9_readNumber_110 (by decide) ⟨by omega, by omega⟩ (fun h9_ => ?_) (fun h9_ => ?_)
      ·
        refine v_locals (lv' := [(4, .long (jJ wv)), (3, .int (iI fr_)), (2, .int (iI bs)), (1, .int (iI hx)), (0, .ref (x + 419))]) (by simp) ?_
        exact L146 _ a0 wv fr_ bs hx fr83 (by simp (disch := omega) only [y_I_s_I, x_I_s_I, z_I_s_J, z_I_s_A, z_I_s_B, z_I_s_P, e83_to_, e_a0]) ⟨by omega, by omega⟩ (by omega)
      ·
        refine v_iload hX dX9_readNumber_113 rfl ?_
        refine v_iload_n hX dX9_readNumber_115 (i := 2) rfl rfl ?_
        refine u_icmp_lt hX (tgt := 122) dX9_readNumber_116 (by decide) ⟨by omega, by omega⟩ ⟨by omega, by omega⟩ (fun h10_ => ?_) (fun h10_ => ?_)
        ·
          refine v_lload hX dX9_readNumber_122 rfl ?_
          refine v_iload_n hX dX9_readNumber_124 (i := 2) rfl rfl ?_
          refine u_i2l hX dX9_readNumber_125 ⟨by omega, by omega⟩ ?_
          refine u_lmul hX dX9_readNumber_126 ?_
          refine v_iload hX dX9_readNumber_127 rfl ?_
          refine u_i2l hX dX9_readNumber_129 ⟨by omega, by omega⟩ ?_
          refine u_ladd hX dX9_readNumber_130 ?_
          obtain ⟨v11_, e_v11_, b_v11_⟩ := j_ex (jJ ((wv * bs) + v8_))
          rw [e_v11_]
          refine v_lstore hX (lv' := [(4, .long (jJ v11_)), (6, .int (iI v8_)), (3, .int (iI fr_)), (2, .int (iI bs)), (1, .int (iI hx)), (0, .ref (x + 419))]) dX9_readNumber_131 (by rw [hnL]; decide) rfl ?_
          refine v_aload_n hX dX9_readNumber_133 (i := 0) rfl rfl ?_
          refine v_dup hX dX9_readNumber_134 rfl ?_
          refine v_get hX (ci := 7) (k := 1) (cs_k_419 h83c) bc_7 (by decide) (by decide) in_7 w_1_234 dX9_readNumber_135 (mvF (f := 701) (v := iI a0) rfl rfl (by simp (disch := omega) only [y_I_s_I, x_I_s_I, z_I_s_J, z_I_s_A, z_I_s_B, z_I_s_P, e83_to_, e_a0])) ?_
          refine v_iconst hX (v := iI 1) dX9_readNumber_138 rfl ?_
          refine u_iadd hX dX9_readNumber_139 ?_
          refine v_putI hX (ci := 7) (k := 1) (f := 701) (cs_k_419 h83c) bc_7 (by decide) (by decide) in_7 tyX9_ok nmX9 w_1_234 (Or.inl rfl) rfl rfl dX9_readNumber_140 rfl rfl ?_
          refine v_goto hX (tgt := 83) dX9_readNumber_143 (by decide) ?_
          refine v_locals (lv' := [(4, .long (jJ v11_)), (3, .int (iI fr_)), (2, .int (iI bs)), (1, .int (iI hx)), (0, .ref (x + 419))]) (by simp) ?_
          exact ih83 _ (by omega) _ (a0 + 1) v11_ fr_ bs hx (fr83.sI (by decide) ⟨by omega, by omega⟩) (by simp (disch := omega) only [y_I_s_I, x_I_s_I, z_I_s_J, z_I_s_A, z_I_s_B, z_I_s_P, e83_to_, e_a0]) ⟨by omega, by omega⟩ (by omega) rfl
        ·
          refine v_goto hX (tgt := 146) dX9_readNumber_119 (by decide) ?_
          refine v_locals (lv' := [(4, .long (jJ wv)), (3, .int (iI fr_)), (2, .int (iI bs)), (1, .int (iI hx)), (0, .ref (x + 419))]) (by simp) ?_
          exact L146 _ a0 wv fr_ bs hx fr83 (by simp (disch := omega) only [y_I_s_I, x_I_s_I, z_I_s_J, z_I_s_A, z_I_s_B, z_I_s_P, e83_to_, e_a0]) ⟨by omega, by omega⟩ (by omega)
  have L75 : ∀ (S75c : b_M) (a0 : Int) (bs : Int) (hx : Int), cFr [701] [] [] w S S75c x → m_I S75c 701 (x + 419) = iI a0 → (-2147483648 ≤ a0 ∧ a0 < 2147483648) → (at_ ≤ a0 ∧ a0 ≤ to_ ∧ (hx = 0 ∨ hx = 1) ∧ 10 ≤ bs ∧ bs ≤ 16) → b_V X S75c z 0 0 75 [(2, .int (iI bs)), (1, .int (iI hx)), (0, .ref (x + 419))] [] := by
    intro S75c a0 bs hx fr75 e_a0 b_a0 p75_0
    have h75c : cS S75c x := fr75.keep (by decide) h
    have e75_to_ : m_I S75c 702 (x + 419) = iI to_ := (fr75.2.1 702 (by decide) _).trans e_to_
    have k75_bv : m_K S75c bv = 12 := (fr75.2.2.2.2 _ (by rw [k_bv]; decide)).1.trans k_bv
    have l75_bv : m_L S75c bv = Lbv := (fr75.2.2.2.2 _ (by rw [k_bv]; decide)).2.1.trans l_bv
    have e75_bv : m_P S75c 700 (x + 419) = some bv := (fr75.2.2.1 700 (by decide) _).trans e_bv
    refine v_aload_n hX dX9_readNumber_75 (i := 0) rfl rfl ?_
    refine v_get hX (ci := 7) (k := 1) (cs_k_419 h75c) bc_7 (by decide) (by decide) in_7 w_1_234 dX9_readNumber_76 (mvF (f := 701) (v := iI a0) rfl rfl (by simp (disch := omega) only [y_I_s_I, x_I_s_I, z_I_s_J, z_I_s_A, z_I_s_B, z_I_s_P, e75_to_, e_a0])) ?_
    refine v_istore_n hX (lv' := [(3, .int (iI a0)), (2, .int (iI bs)), (1, .int (iI hx)), (0, .ref (x + 419))]) dX9_readNumber_79 (i := 3) rfl (by rw [hnL]; decide) rfl ?_
    refine v_lconst hX (v := jJ 0) dX9_readNumber_80 rfl ?_
    refine v_lstore hX (lv' := [(4, .long (jJ 0)), (3, .int (iI a0)), (2, .int (iI bs)), (1, .int (iI hx)), (0, .ref (x + 419))]) dX9_readNumber_81 (by rw [hnL]; decide) rfl ?_
    exact L83 _ _ a0 0 a0 bs hx fr75 (by simp (disch := omega) only [y_I_s_I, x_I_s_I, z_I_s_J, z_I_s_A, z_I_s_B, z_I_s_P, e75_to_, e_a0]) ⟨by omega, by omega⟩ (by omega) rfl
  have L48 : ∀ (S48c : b_M) (a0 : Int) (hx : Int), cFr [701] [] [] w S S48c x → m_I S48c 701 (x + 419) = iI a0 → (-2147483648 ≤ a0 ∧ a0 < 2147483648) → (a0 = at_ ∧ (hx = 0 ∨ (hx = 1 ∧ at_ + 1 < to_))) → b_V X S48c z 0 0 48 [(0, .ref (x + 419))] [.int (iI hx)] := by
    intro S48c a0 hx fr48 e_a0 b_a0 p48_0
    have h48c : cS S48c x := fr48.keep (by decide) h
    have e48_to_ : m_I S48c 702 (x + 419) = iI to_ := (fr48.2.1 702 (by decide) _).trans e_to_
    have k48_bv : m_K S48c bv = 12 := (fr48.2.2.2.2 _ (by rw [k_bv]; decide)).1.trans k_bv
    have l48_bv : m_L S48c bv = Lbv := (fr48.2.2.2.2 _ (by rw [k_bv]; decide)).2.1.trans l_bv
    have e48_bv : m_P S48c 700 (x + 419) = some bv := (fr48.2.2.1 700 (by decide) _).trans e_bv
    refine v_istore_n hX (lv' := [(1, .int (iI hx)), (0, .ref (x + 419))]) dX9_readNumber_48 (i := 1) rfl (by rw [hnL]; decide) rfl ?_
    refine v_iload_n hX dX9_readNumber_49 (i := 1) rfl rfl ?_
    refine u_if_eq hX (tgt := 58) dX9_readNumber_50 (by decide) ⟨by omega, by omega⟩ (fun h12_ => ?_) (fun h12_ => ?_)
    ·
      refine v_bipush hX (v := iI 10) dX9_readNumber_58 (by decide) ?_
      refine v_istore_n hX (lv' := [(2, .int (iI 10)), (1, .int (iI hx)), (0, .ref (x + 419))]) dX9_readNumber_60 (i := 2) rfl (by rw [hnL]; decide) rfl ?_
      refine v_iload_n hX dX9_readNumber_61 (i := 1) rfl rfl ?_
      refine u_if_eq hX (tgt := 75) dX9_readNumber_62 (by decide) ⟨by omega, by omega⟩ (fun _ => ?_) (fun q => absurd q (by omega))
      exact L75 _ a0 10 hx fr48 (by simp (disch := omega) only [y_I_s_I, x_I_s_I, z_I_s_J, z_I_s_A, z_I_s_B, z_I_s_P, e48_to_, e_a0]) ⟨by omega, by omega⟩ (by omega)
    ·
      refine v_bipush hX (v := iI 16) dX9_readNumber_53 (by decide) ?_
      refine v_goto hX (tgt := 60) dX9_readNumber_55 (by decide) ?_
      refine v_istore_n hX (lv' := [(2, .int (iI 16)), (1, .int (iI hx)), (0, .ref (x + 419))]) dX9_readNumber_60 (i := 2) rfl (by rw [hnL]; decide) rfl ?_
      refine v_iload_n hX dX9_readNumber_61 (i := 1) rfl rfl ?_
      refine u_if_eq hX (tgt := 75) dX9_readNumber_62 (by decide) ⟨by omega, by omega⟩ (fun q => absurd q (by omega)) (fun _ => ?_)
      refine v_aload_n hX dX9_readNumber_65 (i := 0) rfl rfl ?_
      refine v_dup hX dX9_readNumber_66 rfl ?_
      refine v_get hX (ci := 7) (k := 1) (cs_k_419 h48c) bc_7 (by decide) (by decide) in_7 w_1_234 dX9_readNumber_67 (mvF (f := 701) (v := iI a0) rfl rfl (by simp (disch := omega) only [y_I_s_I, x_I_s_I, z_I_s_J, z_I_s_A, z_I_s_B, z_I_s_P, e48_to_, e_a0])) ?_
      refine v_iconst hX (v := iI 2) dX9_readNumber_70 rfl ?_
      refine u_iadd hX dX9_readNumber_71 ?_
      refine v_putI hX (ci := 7) (k := 1) (f := 701) (cs_k_419 h48c) bc_7 (by decide) (by decide) in_7 tyX9_ok nmX9 w_1_234 (Or.inl rfl) rfl rfl dX9_readNumber_72 rfl rfl ?_
      exact L75 _ (a0 + 2) 16 hx (fr48.sI (by decide) ⟨by omega, by omega⟩) (by simp (disch := omega) only [y_I_s_I, x_I_s_I, z_I_s_J, z_I_s_A, z_I_s_B, z_I_s_P, e48_to_, e_a0]) ⟨by omega, by omega⟩ (by omega)
  change b_V X S z 0 0 0 [(0, .ref (x + 419))] []
  refine v_aload_n hX dX9_readNumber_0 (i := 0) rfl rfl ?_
  refine v_get hX (ci := 7) (k := 1) (cs_k_419 h) bc_7 (by decide) (by decide) in_7 w_1_234 dX9_readNumber_1 (mvF (f := 701) (v := iI at_) rfl rfl (by simp (disch := omega) only [y_I_s_I, x_I_s_I, z_I_s_J, z_I_s_A, z_I_s_B, z_I_s_P, e_at_, e_to_])) ?_
  refine v_iconst hX (v := iI 1) dX9_readNumber_4 rfl ?_
  refine u_iadd hX dX9_readNumber_5 ?_
  refine v_aload_n hX dX9_readNumber_6 (i := 0) rfl rfl ?_
  refine v_get hX (ci := 7) (k := 2) (cs_k_419 h) bc_7 (by decide) (by decide) in_7 w_1_235 dX9_readNumber_7 (mvF (f := 702) (v := iI to_) rfl rfl (by simp (disch := omega) only [y_I_s_I, x_I_s_I, z_I_s_J, z_I_s_A, z_I_s_B, z_I_s_P, e_at_, e_to_])) ?_
  refine u_icmp_ge hX (tgt := 47) dX9_readNumber_10 (by decide) ⟨by omega, by omega⟩ ⟨by omega, by omega⟩ (fun h15_ => ?_) (fun h15_ => ?_)
  ·
    refine v_iconst hX (v := iI 0) dX9_readNumber_47 rfl ?_
    exact L48 _ at_ 0 (cFr.rf _ _) (by simp (disch := omega) only [y_I_s_I, x_I_s_I, z_I_s_J, z_I_s_A, z_I_s_B, z_I_s_P, e_at_, e_to_]) ⟨by omega, by omega⟩ (by omega)
  ·
    refine v_aload_n hX dX9_readNumber_13 (i := 0) rfl rfl ?_
    refine v_get hX (ci := 7) (k := 0) (cs_k_419 h) bc_7 (by decide) (by decide) in_7 w_1_233 dX9_readNumber_14 (mvP (f := 700) (q := bv) rfl rfl (by simp (disch := omega) only [y_P_s_P, x_P_s_P, z_P_s_I, z_P_s_J, z_P_s_A, z_P_s_B, e_bv])) ?_
    refine v_aload_n hX dX9_readNumber_17 (i := 0) rfl rfl ?_
    refine v_get hX (ci := 7) (k := 1) (cs_k_419 h) bc_7 (by decide) (by decide) in_7 w_1_234 dX9_readNumber_18 (mvF (f := 701) (v := iI at_) rfl rfl (by simp (disch := omega) only [y_I_s_I, x_I_s_I, z_I_s_J, z_I_s_A, z_I_s_B, z_I_s_P, e_at_, e_to_])) ?_
    refine u_bald hX (L := Lbv) k_bv l_bv ⟨by omega, by omega⟩ (by omega) dX9_readNumber_21 (fun v16_ e_v16_ b_v16_ => ?_)
    refine v_bipush hX (v := iI 48) dX9_readNumber_22 (by decide) ?_
    refine u_icmp_ne hX (tgt := 47) dX9_readNumber_24 (by decide) ⟨by omega, by omega⟩ ⟨by omega, by omega⟩ (fun h17_ => ?_) (fun h17_ => ?_)
    ·
      refine v_iconst hX (v := iI 0) dX9_readNumber_47 rfl ?_
      exact L48 _ at_ 0 (cFr.rf _ _) (by simp (disch := omega) only [y_I_s_I, x_I_s_I, z_I_s_J, z_I_s_A, z_I_s_B, z_I_s_P, e_at_, e_to_]) ⟨by omega, by omega⟩ (by omega)
    ·
      refine v_aload_n hX dX9_readNumber_27 (i := 0) rfl rfl ?_
      refine v_get hX (ci := 7) (k := 0) (cs_k_419 h) bc_7 (by decide) (by decide) in_7 w_1_233 dX9_readNumber_28 (mvP (f := 700) (q := bv) rfl rfl (by simp (disch := omega) only [y_P_s_P, x_P_s_P, z_P_s_I, z_P_s_J, z_P_s_A, z_P_s_B, e_bv])) ?_
      refine v_aload_n hX dX9_readNumber_31 (i := 0) rfl rfl ?_
      refine v_get hX (ci := 7) (k := 1) (cs_k_419 h) bc_7 (by decide) (by decide) in_7 w_1_234 dX9_readNumber_32 (mvF (f := 701) (v := iI at_) rfl rfl (by simp (disch := omega) only [y_I_s_I, x_I_s_I, z_I_s_J, z_I_s_A, z_I_s_B, z_I_s_P, e_at_, e_to_])) ?_
      refine v_iconst hX (v := iI 1) dX9_readNumber_35 rfl ?_
      refine u_iadd hX dX9_readNumber_36 ?_
      refine u_bald hX (L := Lbv) k_bv l_bv ⟨by omega, by omega⟩ (by omega) dX9_readNumber_37 (fun v18_ e_v18_ b_v18_ => ?_)
      refine v_bipush hX (v := iI 120) dX9_readNumber_38 (by decide) ?_
      refine u_icmp_ne hX (tgt := 47) dX9_readNumber_40 (by decide) ⟨by omega, by omega⟩ ⟨by omega, by omega⟩ (fun h19_ => ?_) (fun h19_ => ?_)
      ·
        refine v_iconst hX (v := iI 0) dX9_readNumber_47 rfl ?_
        exact L48 _ at_ 0 (cFr.rf _ _) (by simp (disch := omega) only [y_I_s_I, x_I_s_I, z_I_s_J, z_I_s_A, z_I_s_B, z_I_s_P, e_at_, e_to_]) ⟨by omega, by omega⟩ (by omega)
      ·
        refine v_iconst hX (v := iI 1) dX9_readNumber_43 rfl ?_
        refine v_goto hX (tgt := 48) dX9_readNumber_44 (by decide) ?_
        exact L48 _ at_ 1 (cFr.rf _ _) (by simp (disch := omega) only [y_I_s_I, x_I_s_I, z_I_s_J, z_I_s_A, z_I_s_B, z_I_s_P, e_at_, e_to_]) ⟨by omega, by omega⟩ (by omega)
set_option maxRecDepth 100000 in
set_option maxHeartbeats 4000000 in
theorem t_start {kn : Nat → Nat} {B : Nat} {S : b_M} {z x w : Nat} {f_ : Int} {l_ : Int} {src : Nat} {Ls : Nat} (h : cS S x) (b_f_ : -2147483648 ≤ f_ ∧ f_ < 2147483648) (b_l_ : -2147483648 ≤ l_ ∧ l_ < 2147483648) (k_src : m_K S src = 12) (l_src : m_L S src = Ls) (c_src : (Ls : Int) ≤ 2097152) (p : 0 ≤ f_ ∧ f_ ≤ l_ ∧ l_ ≤ (Ls : Int)) : b_C kn B yX9_start cX9_start 4 none 0 0 0 0 [.ref (x + 419), .ref src, .int (iI f_), .int (iI l_)] S z (fun r S' z' => z = z' ∧ cFr [701, 702] [700] [] w S S' x ∧ ∃ a1 t1 : Int, ∃ bv1 Lbv1 : Nat, r = none ∧ m_I S' 701 (x + 419) = iI a1 ∧ (-2147483648 ≤ a1 ∧ a1 < 2147483648) ∧ m_I S' 702 (x + 419) = iI t1 ∧ (-2147483648 ≤ t1 ∧ t1 < 2147483648) ∧ m_P S' 700 (x + 419) = some bv1 ∧ m_K S' bv1 = 12 ∧ m_L S' bv1 = Lbv1 ∧ (Lbv1 : Int) ≤ 2097152 ∧ (bv1 = src ∧ Lbv1 = Ls ∧ a1 = f_ ∧ f_ ≤ t1 ∧ t1 ≤ l_)) (fun _ _ _ => False) := by
  refine b_enter (by decide) (Nat.le_of_ble_eq_true rfl) ?_
  intro X hX hE hnL hkn hB hI_
  subst hkn; subst hB
  clear hI_
  have L15 : ∀ (n15 : Nat) (S15c : b_M) (a0 : Int) (t0 : Int), cFr [701, 702] [700] [] w S S15c x → m_I S15c 701 (x + 419) = iI a0 → m_I S15c 702 (x + 419) = iI t0 → (-2147483648 ≤ a0 ∧ a0 < 2147483648) → (-2147483648 ≤ t0 ∧ t0 < 2147483648) → (a0 = f_ ∧ f_ ≤ t0 ∧ t0 ≤ l_) → (m_P S15c 700 (x + 419) = some src) → (l_ - t0).toNat = n15 → b_V X S15c z 0 0 15 [(0, .ref (x + 419)), (1, .ref src), (2, .int (iI f_)), (3, .int (iI l_))] [] := by
    intro n15
    induction n15 using Nat.strongRecOn with
    | _ n15 ih15 =>
    intro S15c a0 t0 fr15 e_a0 e_t0 b_a0 b_t0 p15_0 p15_1 hm15
    have h15c : cS S15c x := fr15.keep (by decide) h
    have k15_src : m_K S15c src = 12 := (fr15.2.2.2.2 _ (by rw [k_src]; decide)).1.trans k_src
    have l15_src : m_L S15c src = Ls := (fr15.2.2.2.2 _ (by rw [k_src]; decide)).2.1.trans l_src
    refine v_aload_n hX dX9_start_15 (i := 0) rfl rfl ?_
    refine v_get hX (ci := 7) (k := 2) (cs_k_419 h15c) bc_7 (by decide) (by decide) in_7 w_1_235 dX9_start_16 (mvF (f := 702) (v := iI t0) rfl rfl (by simp (disch := omega) only [y_I_s_I, x_I_s_I, z_I_s_J, z_I_s_A, z_I_s_B, z_I_s_P, e_a0, e_t0])) ?_
    refine v_iload_n hX dX9_start_19 (i := 3) rfl rfl ?_
    refine u_icmp_ge hX (tgt := 56) dX9_start_20 (by decide) ⟨by omega, by omega⟩ ⟨by omega, by omega⟩ (fun h1_ => ?_) (fun h1_ => ?_)
    ·
      exact v_return hX hE dX9_start_56 (by omega) (by omega) ⟨rfl, fr15, a0, t0, src, Ls, rfl, (by simp (disch := omega) only [y_I_s_I, x_I_s_I, z_I_s_J, z_I_s_A, z_I_s_B, z_I_s_P, e_a0, e_t0]), ⟨by omega, by omega⟩, (by simp (disch := omega) only [y_I_s_I, x_I_s_I, z_I_s_J, z_I_s_A, z_I_s_B, z_I_s_P, e_a0, e_t0]), ⟨by omega, by omega⟩, (by simp (disch := omega) only [y_P_s_P, x_P_s_P, z_P_s_I, z_P_s_J, z_P_s_A, z_P_s_B, p15_1]), k15_src, l15_src, (by omega), (by omega)⟩
    ·
      refine v_aload_n hX dX9_start_23 (i := 0) rfl rfl ?_
      refine v_get hX (ci := 7) (k := 2) (cs_k_419 h15c) bc_7 (by decide) (by decide) in_7 w_1_235 dX9_start_24 (mvF (f := 702) (v := iI t0) rfl rfl (by simp (disch := omega) only [y_I_s_I, x_I_s_I, z_I_s_J, z_I_s_A, z_I_s_B, z_I_s_P, e_a0, e_t0])) ?_
      refine v_aload_n hX dX9_start_27 (i := 1) rfl rfl ?_
      refine u_alen hX (L := Ls) (t0 := 0) (ty := .byte) k15_src ⟨by decide, by decide⟩ (fun _ => rfl) l15_src dX9_start_28 ?_
      refine u_icmp_ge hX (tgt := 56) dX9_start_29 (by decide) ⟨by omega, by omega⟩ ⟨by omega, by omega⟩ (fun h2_ => ?_) (fun h2_ => ?_)
      ·
        exact v_return hX hE dX9_start_56 (by omega) (by omega) ⟨rfl, fr15, a0, t0, src, Ls, rfl, (by simp (disch := omega) only [y_I_s_I, x_I_s_I, z_I_s_J, z_I_s_A, z_I_s_B, z_I_s_P, e_a0, e_t0]), ⟨by omega, by omega⟩, (by simp (disch := omega) only [y_I_s_I, x_I_s_I, z_I_s_J, z_I_s_A, z_I_s_B, z_I_s_P, e_a0, e_t0]), ⟨by omega, by omega⟩, (by simp (disch := omega) only [y_P_s_P, x_P_s_P, z_P_s_I, z_P_s_J, z_P_s_A, z_P_s_B, p15_1]), k15_src, l15_src, (by omega), (by omega)⟩
      ·
        refine v_aload_n hX dX9_start_32 (i := 1) rfl rfl ?_
        refine v_aload_n hX dX9_start_33 (i := 0) rfl rfl ?_
        refine v_get hX (ci := 7) (k := 2) (cs_k_419 h15c) bc_7 (by decide) (by decide) in_7 w_1_235 dX9_start_34 (mvF (f := 702) (v := iI t0) rfl rfl (by simp (disch := omega) only [y_I_s_I, x_I_s_I, z_I_s_J, z_I_s_A, z_I_s_B, z_I_s_P, e_a0, e_t0])) ?_
        refine u_bald hX (L := Ls) k15_src l15_src ⟨by omega, by omega⟩ (by omega) dX9_start_37 (fun v3_ e_v3_ b_v3_ => ?_)
        try simp (disch := omega) only [zr_I, zr_J, zr_B, rA_A, zl_I, zl_J, zl_A, lA_B, zr_P] at e_v3_
        refine v_bipush hX (v := iI 59) dX9_start_38 (by decide) ?_
        refine u_icmp_eq hX (tgt := 56) dX9_start_40 (by decide) ⟨by omega, by omega⟩ ⟨by omega, by omega⟩ (fun h4_ => ?_) (fun h4_ => ?_)
        ·
          exact v_return hX hE dX9_start_56 (by omega) (by omega) ⟨rfl, fr15, a0, t0, src, Ls, rfl, (by simp (disch := omega) only [y_I_s_I, x_I_s_I, z_I_s_J, z_I_s_A, z_I_s_B, z_I_s_P, e_a0, e_t0]), ⟨by omega, by omega⟩, (by simp (disch := omega) only [y_I_s_I, x_I_s_I, z_I_s_J, z_I_s_A, z_I_s_B, z_I_s_P, e_a0, e_t0]), ⟨by omega, by omega⟩, (by simp (disch := omega) only [y_P_s_P, x_P_s_P, z_P_s_I, z_P_s_J, z_P_s_A, z_P_s_B, p15_1]), k15_src, l15_src, (by omega), (by omega)⟩
        ·
          refine v_aload_n hX dX9_start_43 (i := 0) rfl rfl ?_
          refine v_dup hX dX9_start_44 rfl ?_
          refine v_get hX (ci := 7) (k := 2) (cs_k_419 h15c) bc_7 (by decide) (by decide) in_7 w_1_235 dX9_start_45 (mvF (f := 702) (v := iI t0) rfl rfl (by simp (disch := omega) only [y_I_s_I, x_I_s_I, z_I_s_J, z_I_s_A, z_I_s_B, z_I_s_P, e_a0, e_t0])) ?_
          refine v_iconst hX (v := iI 1) dX9_start_48 rfl ?_
          refine u_iadd hX dX9_start_49 ?_
          refine v_putI hX (ci := 7) (k := 2) (f := 702) (cs_k_419 h15c) bc_7 (by decide) (by decide) in_7 tyX9_ok nmX9 w_1_235 (Or.inl rfl) rfl rfl dX9_start_50 rfl rfl ?_
          refine v_goto hX (tgt := 15) dX9_start_53 (by decide) ?_
          exact ih15 _ (by omega) _ a0 (t0 + 1) (fr15.sI (by decide) ⟨by omega, by omega⟩) (by simp (disch := omega) only [y_I_s_I, x_I_s_I, z_I_s_J, z_I_s_A, z_I_s_B, z_I_s_P, e_a0, e_t0]) (by simp (disch := omega) only [y_I_s_I, x_I_s_I, z_I_s_J, z_I_s_A, z_I_s_B, z_I_s_P, e_a0, e_t0]) ⟨by omega, by omega⟩ ⟨by omega, by omega⟩ (by omega) (by simp (disch := omega) only [y_P_s_P, x_P_s_P, z_P_s_I, z_P_s_J, z_P_s_A, z_P_s_B, p15_1]) rfl
  change b_V X S z 0 0 0 [(0, .ref (x + 419)), (1, .ref src), (2, .int (iI f_)), (3, .int (iI l_))] []
  refine v_aload_n hX dX9_start_0 (i := 0) rfl rfl ?_
  refine v_aload_n hX dX9_start_1 (i := 1) rfl rfl ?_
  refine v_putP hX (ci := 7) (k := 0) (f := 700) (cs_k_419 h) bc_7 (by decide) (by decide) in_7 tyX9_ok nmX9 w_1_233 (Or.inl rfl) rfl rfl dX9_start_2 rfl rfl ?_
  refine v_aload_n hX dX9_start_5 (i := 0) rfl rfl ?_
  refine v_iload_n hX dX9_start_6 (i := 2) rfl rfl ?_
  refine v_putI hX (ci := 7) (k := 1) (f := 701) (cs_k_419 (cS.sP h (by decide) ⟨by omega, by omega⟩)) bc_7 (by decide) (by decide) in_7 tyX9_ok nmX9 w_1_234 (Or.inl rfl) rfl rfl dX9_start_7 rfl rfl ?_
  refine v_aload_n hX dX9_start_10 (i := 0) rfl rfl ?_
  refine v_iload_n hX dX9_start_11 (i := 2) rfl rfl ?_
  refine v_putI hX (ci := 7) (k := 2) (f := 702) (cs_k_419 (cS.sI (cS.sP h (by decide) ⟨by omega, by omega⟩))) bc_7 (by decide) (by decide) in_7 tyX9_ok nmX9 w_1_235 (Or.inl rfl) rfl rfl dX9_start_12 rfl rfl ?_
  exact L15 _ _ f_ f_ ((((cFr.rf _ _).sP (by decide) ⟨by omega, by omega⟩).sI (by decide) ⟨by omega, by omega⟩).sI (by decide) ⟨by omega, by omega⟩) (by simp (disch := omega) only [y_I_s_I, x_I_s_I, z_I_s_J, z_I_s_A, z_I_s_B, z_I_s_P]) (by simp (disch := omega) only [y_I_s_I, x_I_s_I, z_I_s_J, z_I_s_A, z_I_s_B, z_I_s_P]) ⟨by omega, by omega⟩ ⟨by omega, by omega⟩ (by omega) (by simp (disch := omega) only [y_P_s_P, x_P_s_P, z_P_s_I, z_P_s_J, z_P_s_A, z_P_s_B]) rfl
