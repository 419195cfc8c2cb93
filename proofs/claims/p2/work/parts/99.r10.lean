/-- the literals that stand before the first n statements' end, back to a pool -/
def lcnt (S : b_M) (x : Nat) : Nat → Int
  | 0 => 0
  | n + 1 => if rAt S (x + 18) (n : Int) = 10 then 0 else lcnt S x n + (if rAt S (x + 18) (n : Int) = 7 then 1 else 0)
def lc (S : b_M) (x : Nat) (i : Int) : Int := lcnt S x i.toNat
theorem lc_z {S : b_M} {x : Nat} {i : Int} (h : i ≤ 0) : lc S x i = 0 := by
  unfold lc
  rw [show i.toNat = 0 by omega]
  rfl
theorem lc_any (S : b_M) (x : Nat) (k : Int) (h : 0 ≤ k) : (rAt S (x + 18) k = 10 ∧ lc S x (k + 1) = 0) ∨ (rAt S (x + 18) k = 7 ∧ lc S x (k + 1) = lc S x k + 1) ∨ (rAt S (x + 18) k ≠ 10 ∧ rAt S (x + 18) k ≠ 7 ∧ lc S x (k + 1) = lc S x k) := by
  have e : lc S x (k + 1) = if rAt S (x + 18) k = 10 then 0 else lc S x k + (if rAt S (x + 18) k = 7 then 1 else 0) := by
    unfold lc
    rw [show (k + 1).toNat = k.toNat + 1 by omega]
    show (if rAt S (x + 18) ((k.toNat : Nat) : Int) = 10 then 0 else lcnt S x k.toNat + (if rAt S (x + 18) ((k.toNat : Nat) : Int) = 7 then 1 else 0)) = _
    rw [show ((k.toNat : Nat) : Int) = k by omega]
  by_cases h1 : rAt S (x + 18) k = 10
  · exact Or.inl ⟨h1, by rw [e, if_pos h1]⟩
  · by_cases h2 : rAt S (x + 18) k = 7
    · exact Or.inr (Or.inl ⟨h2, by rw [e, if_neg h1, if_pos h2]⟩)
    · exact Or.inr (Or.inr ⟨h1, h2, by rw [e, if_neg h1, if_neg h2]; omega⟩)
theorem lc_b (S : b_M) (x : Nat) : ∀ n : Nat, 0 ≤ lc S x n ∧ lc S x n ≤ n := by
  intro n
  induction n with
  | zero => rw [lc_z (by omega)]; omega
  | succ n ih =>
    have h := lc_any S x n (by omega)
    rw [show ((n + 1 : Nat) : Int) = (n : Int) + 1 by omega]
    omega
theorem lc_bd (S : b_M) (x : Nat) {i : Int} (h : 0 ≤ i) : 0 ≤ lc S x i ∧ lc S x i ≤ i := by
  have := lc_b S x i.toNat
  rw [show ((i.toNat : Nat) : Int) = i by omega] at this
  exact this
theorem lc_le {S : b_M} {x : Nat} {k : Int} (hk : 0 ≤ k) : ∀ n : Nat, (∀ j : Int, k ≤ j → j < k + n → rAt S (x + 18) j ≠ 10) → lc S x k ≤ lc S x (k + n) := by
  intro n
  induction n with
  | zero => intro _; rw [show k + ((0 : Nat) : Int) = k by omega]; exact Int.le_refl _
  | succ n ih =>
    intro h
    have h1 := ih (fun j a b => h j a (by omega))
    have h2 := lc_any S x (k + n) (by omega)
    have h3 := h (k + n) (by omega) (by omega)
    rw [show k + ((n + 1 : Nat) : Int) = k + (n : Int) + 1 by omega]
    omega
theorem lc_lt {S : b_M} {x : Nat} {k s : Int} (hk : 0 ≤ k) (hs : k ≤ s) (h : ∀ j : Int, k ≤ j → j < s → rAt S (x + 18) j ≠ 10) : lc S x k ≤ lc S x s := by
  have := lc_le (S := S) (x := x) hk (s - k).toNat (fun j a b => h j a (by omega))
  rw [show k + (((s - k).toNat : Nat) : Int) = s by omega] at this
  exact this
theorem lc_c {S S1 : b_M} {x : Nat} (h : ∀ i, rAt S1 (x + 18) i = rAt S (x + 18) i) (i : Int) : lc S1 x i = lc S x i := by
  have g : ∀ n, lcnt S1 x n = lcnt S x n := by
    intro n
    induction n with
    | zero => rfl
    | succ n ih => simp only [lcnt, h, ih]
  exact g _
set_option maxRecDepth 100000 in
set_option maxHeartbeats 4000000 in
theorem k_literalsBefore2 {kn : Nat → Nat} {B : Nat} {S : b_M} {z x : Nat} {sx : Int} (h : mS S x) (b_sx : -2147483648 ≤ sx ∧ sx < 2147483648) (p : 0 ≤ sx ∧ sx ≤ 400) : b_C kn B yX13_literalsBefore cX13_literalsBefore 4 (some .int) 0 0 0 0 [.ref x, .int (iI sx)] S z (fun r S' z' => z = z' ∧ S = S' ∧ ∃ q : Int, r = some (.int (iI q)) ∧ (-2147483648 ≤ q ∧ q < 2147483648) ∧ (q = lc S x sx ∧ 0 ≤ q ∧ q ≤ sx)) (fun _ _ _ => False) := by
  refine b_enter (by decide) (Nat.le_of_ble_eq_true rfl) ?_
  intro X hX hE hnL hkn hB hI_
  subst hkn; subst hB
  clear hI_
  have L6 : ∀ (n6 : Nat) (k : Int) (n : Int), (-1 ≤ k ∧ k < sx ∧ 0 ≤ n ∧ n ≤ sx - 1 - k) → (n + lc S x (k + 1) = lc S x sx) → (k + 1).toNat = n6 → b_V X S z 0 0 6 [(3, .int (iI k)), (2, .int (iI n)), (0, .ref x), (1, .int (iI sx))] [] := by
    intro n6
    induction n6 using Nat.strongRecOn with
    | _ n6 ih6 =>
    intro k n p6_0 p6_1 hm6
    refine v_iload_n hX dX13_literalsBefore_6 (i := 3) rfl rfl ?_
    refine u_if_lt hX (tgt := 46) dX13_literalsBefore_7 (by decide) ⟨by omega, by omega⟩ (fun h1_ => ?_) (fun h1_ => ?_)
    ·
      have g46_ : k < 0 → lc S x (k + 1) = 0 := fun g => lc_z (by omega)
      refine v_iload_n hX dX13_literalsBefore_46 (i := 2) rfl rfl ?_
      exact v_ireturn hX hE dX13_literalsBefore_47 (by omega) (by omega) ⟨rfl, rfl, n, rfl, ⟨by omega, by omega⟩, (by omega)⟩
    ·
      have g10_ := lc_any S x k (by omega)
      have g11_ : lc S x (k + (-1) + 1) = lc S x k := by rw [show k + (-1) + 1 = k by omega]
      refine v_aload_n hX dX13_literalsBefore_10 (i := 0) rfl rfl ?_
      refine v_get hX (ci := 11) (k := 30) (ms_kx h) bc_11 (by decide) (by decide) in_11 w_6_6 dX13_literalsBefore_11 (mvP (f := 1130) (q := (x + 18)) rfl rfl (ms_p_1130 h)) ?_
      refine v_iload_n hX dX13_literalsBefore_14 (i := 3) rfl rfl ?_
      refine u_iald hX (L := 400) (ms_k_1130 h) (ms_l_1130 h) ⟨by omega, by omega⟩ (by decide) dX13_literalsBefore_15 (fun v2_ e_v2_ b_v2_ => ?_)
      refine v_bipush hX (v := iI 10) dX13_literalsBefore_16 (by decide) ?_
      refine u_icmp_eq hX (tgt := 46) dX13_literalsBefore_18 (by decide) ⟨by omega, by omega⟩ ⟨by omega, by omega⟩ (fun h3_ => ?_) (fun h3_ => ?_)
      ·
        have g46_ : k < 0 → lc S x (k + 1) = 0 := fun g => lc_z (by omega)
        refine v_iload_n hX dX13_literalsBefore_46 (i := 2) rfl rfl ?_
        exact v_ireturn hX hE dX13_literalsBefore_47 (by omega) (by omega) ⟨rfl, rfl, n, rfl, ⟨by omega, by omega⟩, (by omega)⟩
      ·
        refine v_iload_n hX dX13_literalsBefore_21 (i := 2) rfl rfl ?_
        refine v_aload_n hX dX13_literalsBefore_22 (i := 0) rfl rfl ?_
        refine v_get hX (ci := 11) (k := 30) (ms_kx h) bc_11 (by decide) (by decide) in_11 w_6_6 dX13_literalsBefore_23 (mvP (f := 1130) (q := (x + 18)) rfl rfl (ms_p_1130 h)) ?_
        refine v_iload_n hX dX13_literalsBefore_26 (i := 3) rfl rfl ?_
        refine u_iald hX (L := 400) (ms_k_1130 h) (ms_l_1130 h) ⟨by omega, by omega⟩ (by decide) dX13_literalsBefore_27 (fun v4_ e_v4_ b_v4_ => ?_)
        refine v_bipush hX (v := iI 7) dX13_literalsBefore_28 (by decide) ?_
        refine u_icmp_ne hX (tgt := 37) dX13_literalsBefore_30 (by decide) ⟨by omega, by omega⟩ ⟨by omega, by omega⟩ (fun h5_ => ?_) (fun h5_ => ?_)
        ·
          refine v_iconst hX (v := iI 0) dX13_literalsBefore_37 rfl ?_
          refine u_iadd hX dX13_literalsBefore_38 ?_
          refine v_istore_n hX (lv' := [(2, .int (iI (n + 0))), (3, .int (iI k)), (0, .ref x), (1, .int (iI sx))]) dX13_literalsBefore_39 (i := 2) rfl (by rw [hnL]; decide) rfl ?_
          refine v_iinc hX (v := iI (k + (-1))) (lv' := [(3, .int (iI (k + (-1)))), (2, .int (iI (n + 0))), (0, .ref x), (1, .int (iI sx))]) dX13_literalsBefore_40 rfl (iI_add _ _) (by rw [hnL]; decide) rfl ?_
          refine v_goto hX (tgt := 6) dX13_literalsBefore_43 (by decide) ?_
          exact ih6 _ (by omega) (k + (-1)) (n + 0) (by omega) (by omega) rfl
        ·
          refine v_iconst hX (v := iI 1) dX13_literalsBefore_33 rfl ?_
          refine v_goto hX (tgt := 38) dX13_literalsBefore_34 (by decide) ?_
          refine u_iadd hX dX13_literalsBefore_38 ?_
          refine v_istore_n hX (lv' := [(2, .int (iI (n + 1))), (3, .int (iI k)), (0, .ref x), (1, .int (iI sx))]) dX13_literalsBefore_39 (i := 2) rfl (by rw [hnL]; decide) rfl ?_
          refine v_iinc hX (v := iI (k + (-1))) (lv' := [(3, .int (iI (k + (-1)))), (2, .int (iI (n + 1))), (0, .ref x), (1, .int (iI sx))]) dX13_literalsBefore_40 rfl (iI_add _ _) (by rw [hnL]; decide) rfl ?_
          refine v_goto hX (tgt := 6) dX13_literalsBefore_43 (by decide) ?_
          exact ih6 _ (by omega) (k + (-1)) (n + 1) (by omega) (by omega) rfl
  change b_V X S z 0 0 0 [(0, .ref x), (1, .int (iI sx))] []
  refine v_iconst hX (v := iI 0) dX13_literalsBefore_0 rfl ?_
  refine v_istore_n hX (lv' := [(2, .int (iI 0)), (0, .ref x), (1, .int (iI sx))]) dX13_literalsBefore_1 (i := 2) rfl (by rw [hnL]; decide) rfl ?_
  refine v_iload_n hX dX13_literalsBefore_2 (i := 1) rfl rfl ?_
  refine v_iconst hX (v := iI 1) dX13_literalsBefore_3 rfl ?_
  refine u_isub hX dX13_literalsBefore_4 ?_
  refine v_istore_n hX (lv' := [(3, .int (iI (sx - 1))), (2, .int (iI 0)), (0, .ref x), (1, .int (iI sx))]) dX13_literalsBefore_5 (i := 3) rfl (by rw [hnL]; decide) rfl ?_
  exact L6 _ (sx - 1) 0 (by omega) (by rw [show sx - 1 + 1 = sx by omega]; omega) rfl
set_option maxRecDepth 100000 in
set_option maxHeartbeats 4000000 in
theorem k_sayPool {kn : Nat → Nat} {B : Nat} {S : b_M} {z x : Nat} {sx : Int} {st_ : Int} {wt : Int} {wo_ : Int} {se : Int} {ex : Int} {ps : Int} (h : mS S x) (e_st_ : m_I S 1128 x = iI st_) (b_st_ : -2147483648 ≤ st_ ∧ st_ < 2147483648) (e_wt : m_I S 1163 x = iI wt) (b_wt : -2147483648 ≤ wt ∧ wt < 2147483648) (e_wo_ : m_I S 1157 x = iI wo_) (b_wo_ : -2147483648 ≤ wo_ ∧ wo_ < 2147483648) (b_sx : -2147483648 ≤ sx ∧ sx < 2147483648) (so : sOk S x se) (eo : eOk S x ex ps) (lw : (∀ j : Int, 0 ≤ j → j < sx → rAt S (x + 18) j = 7 → 0 ≤ rAt S (x + 22) j ∧ rAt S (x + 22) j < ex)) (p : 0 ≤ st_ ∧ st_ ≤ 400 ∧ 0 ≤ sx ∧ sx ≤ 400 ∧ (wt = 0 ∨ wt = 1) ∧ 0 ≤ wo_ ∧ wo_ + lc S x sx ≤ 65536) : b_C kn B yX13_sayPool cX13_sayPool 4 none 6 133 0 0 [.ref x, .int (iI sx)] S z (fun r S' z' => z = z' ∧ mFr [1164, 1162, 1157] [] [38] S S' x ∧ ∃ w1 : Int, r = none ∧ m_I S' 1157 x = iI w1 ∧ (-2147483648 ≤ w1 ∧ w1 < 2147483648) ∧ (w1 = wo_ + lc S x sx)) (fun _ _ _ => False) := by
  refine b_enter (by decide) (Nat.le_of_ble_eq_true rfl) ?_
  intro X hX hE hnL hkn hB hI_
  subst hkn; subst hB
  clear hI_
  have L29 : ∀ (n29 : Nat) (S29c : b_M) (w0 : Int) (k : Int) (f : Int), mFr [1164, 1162, 1157] [] [38] S S29c x → m_I S29c 1157 x = iI w0 → (-2147483648 ≤ w0 ∧ w0 < 2147483648) → (-1 ≤ f ∧ f < k ∧ k ≤ sx ∧ w0 = wo_ + lc S x k) → (∀ j : Int, f < j → j < sx → rAt S (x + 18) j ≠ 10) → (sx - k).toNat = n29 → b_V X S29c z 0 0 29 [(3, .int (iI k)), (2, .int (iI f)), (0, .ref x), (1, .int (iI sx))] [] := by
    intro n29
    induction n29 using Nat.strongRecOn with
    | _ n29 ih29 =>
    intro S29c w0 k f fr29 e_w0 b_w0 p29_0 p29_1 hm29
    have h29c : mS S29c x := fr29.keep h
    have hc29_35 : ∀ i, rAt S29c (x + 35) i = rAt S (x + 35) i := fun i => (fr29.1 (x + 35) (by omega) (by intro j hj; simp only [List.mem_cons, List.not_mem_nil, or_false] at hj; omega)).rA i
    have hc29_34 : ∀ i, rAt S29c (x + 34) i = rAt S (x + 34) i := fun i => (fr29.1 (x + 34) (by omega) (by intro j hj; simp only [List.mem_cons, List.not_mem_nil, or_false] at hj; omega)).rA i
    have hc29_26 : ∀ i, rAt S29c (x + 26) i = rAt S (x + 26) i := fun i => (fr29.1 (x + 26) (by omega) (by intro j hj; simp only [List.mem_cons, List.not_mem_nil, or_false] at hj; omega)).rA i
    have hc29_22 : ∀ i, rAt S29c (x + 22) i = rAt S (x + 22) i := fun i => (fr29.1 (x + 22) (by omega) (by intro j hj; simp only [List.mem_cons, List.not_mem_nil, or_false] at hj; omega)).rA i
    have hc29_27 : ∀ i, rAt S29c (x + 27) i = rAt S (x + 27) i := fun i => (fr29.1 (x + 27) (by omega) (by intro j hj; simp only [List.mem_cons, List.not_mem_nil, or_false] at hj; omega)).rA i
    have hc29_28 : ∀ i, rAt S29c (x + 28) i = rAt S (x + 28) i := fun i => (fr29.1 (x + 28) (by omega) (by intro j hj; simp only [List.mem_cons, List.not_mem_nil, or_false] at hj; omega)).rA i
    have hc29_29 : ∀ i, rAt S29c (x + 29) i = rAt S (x + 29) i := fun i => (fr29.1 (x + 29) (by omega) (by intro j hj; simp only [List.mem_cons, List.not_mem_nil, or_false] at hj; omega)).rA i
    have hc29_18 : ∀ i, rAt S29c (x + 18) i = rAt S (x + 18) i := fun i => (fr29.1 (x + 18) (by omega) (by intro j hj; simp only [List.mem_cons, List.not_mem_nil, or_false] at hj; omega)).rA i
    have hc29_25 : ∀ i, rAt S29c (x + 25) i = rAt S (x + 25) i := fun i => (fr29.1 (x + 25) (by omega) (by intro j hj; simp only [List.mem_cons, List.not_mem_nil, or_false] at hj; omega)).rA i
    have hc29_19 : ∀ i, rAt S29c (x + 19) i = rAt S (x + 19) i := fun i => (fr29.1 (x + 19) (by omega) (by intro j hj; simp only [List.mem_cons, List.not_mem_nil, or_false] at hj; omega)).rA i
    have e29_st_ : m_I S29c 1128 x = iI st_ := (fr29.2.2.2.1 1128 (by decide)).trans e_st_
    have e29_wt : m_I S29c 1163 x = iI wt := (fr29.2.2.2.1 1163 (by decide)).trans e_wt
    refine v_iload_n hX dX13_sayPool_29 (i := 3) rfl rfl ?_
    refine v_iload_n hX dX13_sayPool_30 (i := 1) rfl rfl ?_
    refine u_icmp_ge hX (tgt := 61) dX13_sayPool_31 (by decide) ⟨by omega, by omega⟩ ⟨by omega, by omega⟩ (fun h1_ => ?_) (fun h1_ => ?_)
    ·
      have g61_ : lc S x k = lc S x sx := by rw [show k = sx by omega]
      exact v_return hX hE dX13_sayPool_61 (by omega) (by omega) ⟨rfl, fr29, w0, rfl, (by simp (disch := omega) only [y_I_s_I, x_I_s_I, z_I_s_J, z_I_s_A, z_I_s_B, e29_st_, e29_wt, e_w0]), ⟨by omega, by omega⟩, (by omega)⟩
    ·
      have g34_ := lc_any S x k (by omega)
      have g35_ := p29_1 k (by omega) (by omega)
      have g37_ := lc_bd S x (i := k) (by omega)
      have g36_ := lc_lt (S := S) (x := x) (k := k + 1) (s := sx) (by omega) (by omega) (fun j a b => p29_1 j (by omega) b)
      refine v_aload_n hX dX13_sayPool_34 (i := 0) rfl rfl ?_
      refine v_get hX (ci := 11) (k := 30) (ms_kx h29c) bc_11 (by decide) (by decide) in_11 w_6_6 dX13_sayPool_35 (mvP (f := 1130) (q := (x + 18)) rfl rfl (ms_p_1130 h29c)) ?_
      refine v_iload_n hX dX13_sayPool_38 (i := 3) rfl rfl ?_
      refine u_iald hX (L := 400) (ms_k_1130 h29c) (ms_l_1130 h29c) ⟨by omega, by omega⟩ (by decide) dX13_sayPool_39 (fun v2_ e_v2_ b_v2_ => ?_)
      try simp (disch := omega) only [zr_I, zr_J, zr_B, rA_A, zl_I, zl_J, zl_A, lA_B, hc29_35, hc29_34, hc29_26, hc29_22, hc29_27, hc29_28, hc29_29, hc29_18, hc29_25, hc29_19] at e_v2_
      refine v_bipush hX (v := iI 7) dX13_sayPool_40 (by decide) ?_
      refine u_icmp_ne hX (tgt := 55) dX13_sayPool_42 (by decide) ⟨by omega, by omega⟩ ⟨by omega, by omega⟩ (fun h3_ => ?_) (fun h3_ => ?_)
      ·
        refine v_iinc hX (v := iI (k + 1)) (lv' := [(3, .int (iI (k + 1))), (2, .int (iI f)), (0, .ref x), (1, .int (iI sx))]) dX13_sayPool_55 rfl (iI_add _ _) (by rw [hnL]; decide) rfl ?_
        refine v_goto hX (tgt := 29) dX13_sayPool_58 (by decide) ?_
        exact ih29 _ (by omega) _ w0 (k + 1) f fr29 (by simp (disch := omega) only [y_I_s_I, x_I_s_I, z_I_s_J, z_I_s_A, z_I_s_B, e29_st_, e29_wt, e_w0]) ⟨by omega, by omega⟩ (by omega) p29_1 rfl
      ·
        have g45_ := lw k (by omega) (by omega) (by omega)
        refine v_aload_n hX dX13_sayPool_45 (i := 0) rfl rfl ?_
        refine v_aload_n hX dX13_sayPool_46 (i := 0) rfl rfl ?_
        refine v_iload_n hX dX13_sayPool_47 (i := 3) rfl rfl ?_
        refine v_iconst hX (v := iI 0) dX13_sayPool_48 rfl ?_
        refine v_callV hX (n := 2) (k_valueAt (S := S29c) (x := x) (sx := k) (k := 0) (st_ := st_) (wt := wt) h29c (by simp (disch := omega) only [y_I_s_I, x_I_s_I, z_I_s_J, z_I_s_A, z_I_s_B, e29_st_, e29_wt, e_w0]) ⟨by omega, by omega⟩ (by simp (disch := omega) only [y_I_s_I, x_I_s_I, z_I_s_J, z_I_s_A, z_I_s_B, e29_st_, e29_wt, e_w0]) ⟨by omega, by omega⟩ ⟨by omega, by omega⟩ ⟨by omega, by omega⟩ (so.c (fun i => hc29_35 i) (fun i => hc29_34 i)) (eo.c (fun i => (hc29_27 i)) (fun i => (hc29_28 i)) (fun i => (hc29_29 i))) (by (try simp (disch := omega) only [zr_I, zr_J, zr_B, rA_A, zl_I, zl_J, zl_A, lA_B, hc29_35, hc29_34, hc29_26, hc29_22, hc29_27, hc29_28, hc29_29, hc29_18, hc29_25, hc29_19]); omega)) (ms_kx h29c) bc_11 (by decide) w_7_182 w_7_184 (bw_p (q := (yX13_valueAt, 72)) (List.mem_of_getElem? (i := 86) rfl) rfl) w_1_16 w_7_185 (by decide +kernel) rfl ⟨by decide, by decide⟩ ⟨by omega, by omega⟩ (Nat.le_of_ble_eq_true rfl) rfl dX13_sayPool_49 (fun _ _ _ q => q) ?_
        rintro r4_ S4_ z4_ ⟨rfl, f4_, v5_, v6_, rfl, b_v5_, e_v6_, b_v6_, q4_⟩
        have e4_1128 : m_I S4_ 1128 x = iI st_ := (f4_.2.2.2.1 1128 (by decide)).trans (by simp (disch := omega) only [y_I_s_I, x_I_s_I, z_I_s_J, z_I_s_A, z_I_s_B, e29_st_, e29_wt, e_w0])
        have e4_1163 : m_I S4_ 1163 x = iI wt := (f4_.2.2.2.1 1163 (by decide)).trans (by simp (disch := omega) only [y_I_s_I, x_I_s_I, z_I_s_J, z_I_s_A, z_I_s_B, e29_st_, e29_wt, e_w0])
        have e4_1157 : m_I S4_ 1157 x = iI w0 := (f4_.2.2.2.1 1157 (by decide)).trans (by simp (disch := omega) only [y_I_s_I, x_I_s_I, z_I_s_J, z_I_s_A, z_I_s_B, e29_st_, e29_wt, e_w0])
        have h4_ : mS S4_ x := f4_.keep h29c
        have hc4_35 : ∀ i, rAt S4_ (x + 35) i = rAt S (x + 35) i := fun i => ((f4_.1 (x + 35) (by omega) (fun j hj => absurd hj List.not_mem_nil)).rA i).trans (hc29_35 i)
        have hc4_34 : ∀ i, rAt S4_ (x + 34) i = rAt S (x + 34) i := fun i => ((f4_.1 (x + 34) (by omega) (fun j hj => absurd hj List.not_mem_nil)).rA i).trans (hc29_34 i)
        have hc4_26 : ∀ i, rAt S4_ (x + 26) i = rAt S (x + 26) i := fun i => ((f4_.1 (x + 26) (by omega) (fun j hj => absurd hj List.not_mem_nil)).rA i).trans (hc29_26 i)
        have hc4_22 : ∀ i, rAt S4_ (x + 22) i = rAt S (x + 22) i := fun i => ((f4_.1 (x + 22) (by omega) (fun j hj => absurd hj List.not_mem_nil)).rA i).trans (hc29_22 i)
        have hc4_27 : ∀ i, rAt S4_ (x + 27) i = rAt S (x + 27) i := fun i => ((f4_.1 (x + 27) (by omega) (fun j hj => absurd hj List.not_mem_nil)).rA i).trans (hc29_27 i)
        have hc4_28 : ∀ i, rAt S4_ (x + 28) i = rAt S (x + 28) i := fun i => ((f4_.1 (x + 28) (by omega) (fun j hj => absurd hj List.not_mem_nil)).rA i).trans (hc29_28 i)
        have hc4_29 : ∀ i, rAt S4_ (x + 29) i = rAt S (x + 29) i := fun i => ((f4_.1 (x + 29) (by omega) (fun j hj => absurd hj List.not_mem_nil)).rA i).trans (hc29_29 i)
        have hc4_18 : ∀ i, rAt S4_ (x + 18) i = rAt S (x + 18) i := fun i => ((f4_.1 (x + 18) (by omega) (fun j hj => absurd hj List.not_mem_nil)).rA i).trans (hc29_18 i)
        have hc4_25 : ∀ i, rAt S4_ (x + 25) i = rAt S (x + 25) i := fun i => ((f4_.1 (x + 25) (by omega) (fun j hj => absurd hj List.not_mem_nil)).rA i).trans (hc29_25 i)
        have hc4_19 : ∀ i, rAt S4_ (x + 19) i = rAt S (x + 19) i := fun i => ((f4_.1 (x + 19) (by omega) (fun j hj => absurd hj List.not_mem_nil)).rA i).trans (hc29_19 i)
        refine v_callV hX (n := 1) (k_say (S := S4_) (x := x) (v := v5_) (wo_ := w0) h4_ (by simp (disch := omega) only [y_I_s_I, x_I_s_I, z_I_s_J, z_I_s_A, z_I_s_B, e4_1128, e4_1163, e4_1157, e_v6_]) ⟨by omega, by omega⟩ ⟨by omega, by omega⟩ (by omega)) (ms_kx h4_) bc_11 (by decide) w_7_203 w_7_205 (bw_p (q := (yX13_say, 72)) (List.mem_of_getElem? (i := 91) rfl) rfl) w_1_16 w_7_206 (by decide +kernel) rfl ⟨by decide, by decide⟩ ⟨by omega, by omega⟩ (Nat.le_of_ble_eq_true rfl) rfl dX13_sayPool_52 (fun _ _ _ q => q) ?_
        rintro r7_ S7_ z7_ ⟨rfl, f7_, v8_, rfl, e_v8_, b_v8_, q7_⟩
        have e7_1128 : m_I S7_ 1128 x = iI st_ := (f7_.2.2.2.1 1128 (by decide)).trans (by simp (disch := omega) only [y_I_s_I, x_I_s_I, z_I_s_J, z_I_s_A, z_I_s_B, e4_1128, e4_1163, e4_1157, e_v6_])
        have e7_1163 : m_I S7_ 1163 x = iI wt := (f7_.2.2.2.1 1163 (by decide)).trans (by simp (disch := omega) only [y_I_s_I, x_I_s_I, z_I_s_J, z_I_s_A, z_I_s_B, e4_1128, e4_1163, e4_1157, e_v6_])
        have e7_1162 : m_I S7_ 1162 x = iI v6_ := (f7_.2.2.2.1 1162 (by decide)).trans (by simp (disch := omega) only [y_I_s_I, x_I_s_I, z_I_s_J, z_I_s_A, z_I_s_B, e4_1128, e4_1163, e4_1157, e_v6_])
        have h7_ : mS S7_ x := f7_.keep h4_
        have hc7_35 : ∀ i, rAt S7_ (x + 35) i = rAt S (x + 35) i := fun i => ((f7_.1 (x + 35) (by omega) (by intro j hj; simp only [List.mem_cons, List.not_mem_nil, or_false] at hj; omega)).rA i).trans (hc4_35 i)
        have hc7_34 : ∀ i, rAt S7_ (x + 34) i = rAt S (x + 34) i := fun i => ((f7_.1 (x + 34) (by omega) (by intro j hj; simp only [List.mem_cons, List.not_mem_nil, or_false] at hj; omega)).rA i).trans (hc4_34 i)
        have hc7_26 : ∀ i, rAt S7_ (x + 26) i = rAt S (x + 26) i := fun i => ((f7_.1 (x + 26) (by omega) (by intro j hj; simp only [List.mem_cons, List.not_mem_nil, or_false] at hj; omega)).rA i).trans (hc4_26 i)
        have hc7_22 : ∀ i, rAt S7_ (x + 22) i = rAt S (x + 22) i := fun i => ((f7_.1 (x + 22) (by omega) (by intro j hj; simp only [List.mem_cons, List.not_mem_nil, or_false] at hj; omega)).rA i).trans (hc4_22 i)
        have hc7_27 : ∀ i, rAt S7_ (x + 27) i = rAt S (x + 27) i := fun i => ((f7_.1 (x + 27) (by omega) (by intro j hj; simp only [List.mem_cons, List.not_mem_nil, or_false] at hj; omega)).rA i).trans (hc4_27 i)
        have hc7_28 : ∀ i, rAt S7_ (x + 28) i = rAt S (x + 28) i := fun i => ((f7_.1 (x + 28) (by omega) (by intro j hj; simp only [List.mem_cons, List.not_mem_nil, or_false] at hj; omega)).rA i).trans (hc4_28 i)
        have hc7_29 : ∀ i, rAt S7_ (x + 29) i = rAt S (x + 29) i := fun i => ((f7_.1 (x + 29) (by omega) (by intro j hj; simp only [List.mem_cons, List.not_mem_nil, or_false] at hj; omega)).rA i).trans (hc4_29 i)
        have hc7_18 : ∀ i, rAt S7_ (x + 18) i = rAt S (x + 18) i := fun i => ((f7_.1 (x + 18) (by omega) (by intro j hj; simp only [List.mem_cons, List.not_mem_nil, or_false] at hj; omega)).rA i).trans (hc4_18 i)
        have hc7_25 : ∀ i, rAt S7_ (x + 25) i = rAt S (x + 25) i := fun i => ((f7_.1 (x + 25) (by omega) (by intro j hj; simp only [List.mem_cons, List.not_mem_nil, or_false] at hj; omega)).rA i).trans (hc4_25 i)
        have hc7_19 : ∀ i, rAt S7_ (x + 19) i = rAt S (x + 19) i := fun i => ((f7_.1 (x + 19) (by omega) (by intro j hj; simp only [List.mem_cons, List.not_mem_nil, or_false] at hj; omega)).rA i).trans (hc4_19 i)
        refine v_iinc hX (v := iI (k + 1)) (lv' := [(3, .int (iI (k + 1))), (2, .int (iI f)), (0, .ref x), (1, .int (iI sx))]) dX13_sayPool_55 rfl (iI_add _ _) (by rw [hnL]; decide) rfl ?_
        refine v_goto hX (tgt := 29) dX13_sayPool_58 (by decide) ?_
        exact ih29 _ (by omega) _ v8_ (k + 1) f ((fr29.tr (f4_.mono (by decide) (by decide) (by decide))).tr (f7_.mono (by decide) (by decide) (by decide))) (by simp (disch := omega) only [y_I_s_I, x_I_s_I, z_I_s_J, z_I_s_A, z_I_s_B, e7_1128, e7_1163, e7_1162, e_v8_]) ⟨by omega, by omega⟩ (by omega) p29_1 rfl
  have L4 : ∀ (n4 : Nat) (S4c : b_M) (w0 : Int) (f : Int), mFr [1164, 1162, 1157] [] [38] S S4c x → m_I S4c 1157 x = iI w0 → (-2147483648 ≤ w0 ∧ w0 < 2147483648) → (-1 ≤ f ∧ f < sx ∧ w0 = wo_) → (∀ j : Int, f < j → j < sx → rAt S (x + 18) j ≠ 10) → (f + 1).toNat = n4 → b_V X S4c z 0 0 4 [(2, .int (iI f)), (0, .ref x), (1, .int (iI sx))] [] := by
    intro n4
    induction n4 using Nat.strongRecOn with
    | _ n4 ih4 =>
    intro S4c w0 f fr4 e_w0 b_w0 p4_0 p4_1 hm4
    have h4c : mS S4c x := fr4.keep h
    have hc4_35 : ∀ i, rAt S4c (x + 35) i = rAt S (x + 35) i := fun i => (fr4.1 (x + 35) (by omega) (by intro j hj; simp only [List.mem_cons, List.not_mem_nil, or_false] at hj; omega)).rA i
    have hc4_34 : ∀ i, rAt S4c (x + 34) i = rAt S (x + 34) i := fun i => (fr4.1 (x + 34) (by omega) (by intro j hj; simp only [List.mem_cons, List.not_mem_nil, or_false] at hj; omega)).rA i
    have hc4_26 : ∀ i, rAt S4c (x + 26) i = rAt S (x + 26) i := fun i => (fr4.1 (x + 26) (by omega) (by intro j hj; simp only [List.mem_cons, List.not_mem_nil, or_false] at hj; omega)).rA i
    have hc4_22 : ∀ i, rAt S4c (x + 22) i = rAt S (x + 22) i := fun i => (fr4.1 (x + 22) (by omega) (by intro j hj; simp only [List.mem_cons, List.not_mem_nil, or_false] at hj; omega)).rA i
    have hc4_27 : ∀ i, rAt S4c (x + 27) i = rAt S (x + 27) i := fun i => (fr4.1 (x + 27) (by omega) (by intro j hj; simp only [List.mem_cons, List.not_mem_nil, or_false] at hj; omega)).rA i
    have hc4_28 : ∀ i, rAt S4c (x + 28) i = rAt S (x + 28) i := fun i => (fr4.1 (x + 28) (by omega) (by intro j hj; simp only [List.mem_cons, List.not_mem_nil, or_false] at hj; omega)).rA i
    have hc4_29 : ∀ i, rAt S4c (x + 29) i = rAt S (x + 29) i := fun i => (fr4.1 (x + 29) (by omega) (by intro j hj; simp only [List.mem_cons, List.not_mem_nil, or_false] at hj; omega)).rA i
    have hc4_18 : ∀ i, rAt S4c (x + 18) i = rAt S (x + 18) i := fun i => (fr4.1 (x + 18) (by omega) (by intro j hj; simp only [List.mem_cons, List.not_mem_nil, or_false] at hj; omega)).rA i
    have hc4_25 : ∀ i, rAt S4c (x + 25) i = rAt S (x + 25) i := fun i => (fr4.1 (x + 25) (by omega) (by intro j hj; simp only [List.mem_cons, List.not_mem_nil, or_false] at hj; omega)).rA i
    have hc4_19 : ∀ i, rAt S4c (x + 19) i = rAt S (x + 19) i := fun i => (fr4.1 (x + 19) (by omega) (by intro j hj; simp only [List.mem_cons, List.not_mem_nil, or_false] at hj; omega)).rA i
    have e4_st_ : m_I S4c 1128 x = iI st_ := (fr4.2.2.2.1 1128 (by decide)).trans e_st_
    have e4_wt : m_I S4c 1163 x = iI wt := (fr4.2.2.2.1 1163 (by decide)).trans e_wt
    refine v_iload_n hX dX13_sayPool_4 (i := 2) rfl rfl ?_
    refine u_if_lt hX (tgt := 25) dX13_sayPool_5 (by decide) ⟨by omega, by omega⟩ (fun h9_ => ?_) (fun h9_ => ?_)
    ·
      have g25_ : f < 0 → lc S x (f + 1) = 0 := fun g => lc_z (by omega)
      have g26_ : 0 ≤ f → (rAt S (x + 18) f = 10 ∧ lc S x (f + 1) = 0) ∨ rAt S (x + 18) f ≠ 10 := fun g => by have := lc_any S x f g; omega
      refine v_iload_n hX dX13_sayPool_25 (i := 2) rfl rfl ?_
      refine v_iconst hX (v := iI 1) dX13_sayPool_26 rfl ?_
      refine u_iadd hX dX13_sayPool_27 ?_
      refine v_istore_n hX (lv' := [(3, .int (iI (f + 1))), (2, .int (iI f)), (0, .ref x), (1, .int (iI sx))]) dX13_sayPool_28 (i := 3) rfl (by rw [hnL]; decide) rfl ?_
      exact L29 _ _ w0 (f + 1) f fr4 (by simp (disch := omega) only [y_I_s_I, x_I_s_I, z_I_s_J, z_I_s_A, z_I_s_B, e4_st_, e4_wt, e_w0]) ⟨by omega, by omega⟩ (by omega) p4_1 rfl
    ·
      refine v_aload_n hX dX13_sayPool_8 (i := 0) rfl rfl ?_
      refine v_get hX (ci := 11) (k := 30) (ms_kx h4c) bc_11 (by decide) (by decide) in_11 w_6_6 dX13_sayPool_9 (mvP (f := 1130) (q := (x + 18)) rfl rfl (ms_p_1130 h4c)) ?_
      refine v_iload_n hX dX13_sayPool_12 (i := 2) rfl rfl ?_
      refine u_iald hX (L := 400) (ms_k_1130 h4c) (ms_l_1130 h4c) ⟨by omega, by omega⟩ (by decide) dX13_sayPool_13 (fun v10_ e_v10_ b_v10_ => ?_)
      try simp (disch := omega) only [zr_I, zr_J, zr_B, rA_A, zl_I, zl_J, zl_A, lA_B, hc4_35, hc4_34, hc4_26, hc4_22, hc4_27, hc4_28, hc4_29, hc4_18, hc4_25, hc4_19] at e_v10_
      refine v_bipush hX (v := iI 10) dX13_sayPool_14 (by decide) ?_
      refine u_icmp_eq hX (tgt := 25) dX13_sayPool_16 (by decide) ⟨by omega, by omega⟩ ⟨by omega, by omega⟩ (fun h11_ => ?_) (fun h11_ => ?_)
      ·
        have g25_ : f < 0 → lc S x (f + 1) = 0 := fun g => lc_z (by omega)
        have g26_ : 0 ≤ f → (rAt S (x + 18) f = 10 ∧ lc S x (f + 1) = 0) ∨ rAt S (x + 18) f ≠ 10 := fun g => by have := lc_any S x f g; omega
        refine v_iload_n hX dX13_sayPool_25 (i := 2) rfl rfl ?_
        refine v_iconst hX (v := iI 1) dX13_sayPool_26 rfl ?_
        refine u_iadd hX dX13_sayPool_27 ?_
        refine v_istore_n hX (lv' := [(3, .int (iI (f + 1))), (2, .int (iI f)), (0, .ref x), (1, .int (iI sx))]) dX13_sayPool_28 (i := 3) rfl (by rw [hnL]; decide) rfl ?_
        exact L29 _ _ w0 (f + 1) f fr4 (by simp (disch := omega) only [y_I_s_I, x_I_s_I, z_I_s_J, z_I_s_A, z_I_s_B, e4_st_, e4_wt, e_w0]) ⟨by omega, by omega⟩ (by omega) p4_1 rfl
      ·
        refine v_iinc hX (v := iI (f + (-1))) (lv' := [(2, .int (iI (f + (-1)))), (0, .ref x), (1, .int (iI sx))]) dX13_sayPool_19 rfl (iI_add _ _) (by rw [hnL]; decide) rfl ?_
        refine v_goto hX (tgt := 4) dX13_sayPool_22 (by decide) ?_
        exact ih4 _ (by omega) _ w0 (f + (-1)) fr4 (by simp (disch := omega) only [y_I_s_I, x_I_s_I, z_I_s_J, z_I_s_A, z_I_s_B, e4_st_, e4_wt, e_w0]) ⟨by omega, by omega⟩ (by omega) (fun j a b => by rcases (show f < j ∨ j = f by omega) with g | g; exact p4_1 j g b; rw [g]; omega) rfl
  change b_V X S z 0 0 0 [(0, .ref x), (1, .int (iI sx))] []
  refine v_iload_n hX dX13_sayPool_0 (i := 1) rfl rfl ?_
  refine v_iconst hX (v := iI 1) dX13_sayPool_1 rfl ?_
  refine u_isub hX dX13_sayPool_2 ?_
  refine v_istore_n hX (lv' := [(2, .int (iI (sx - 1))), (0, .ref x), (1, .int (iI sx))]) dX13_sayPool_3 (i := 2) rfl (by rw [hnL]; decide) rfl ?_
  exact L4 _ _ wo_ (sx - 1) (mFr.rf _ _) (by simp (disch := omega) only [y_I_s_I, x_I_s_I, z_I_s_J, z_I_s_A, z_I_s_B, e_st_, e_wt, e_wo_]) ⟨by omega, by omega⟩ (by omega) (fun j a b => absurd b (by omega)) rfl
