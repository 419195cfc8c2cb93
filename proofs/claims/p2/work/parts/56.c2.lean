/-- the chains of names -/
def nOk (S : b_M) (x : Nat) : Prop := (∀ i : Int, 0 ≤ i → i < 1021 → -1 ≤ rAt S (x + 7) i ∧ rAt S (x + 7) i < 800) ∧ ∀ i : Int, 0 ≤ i → i < 800 → -1 ≤ rAt S (x + 8) i ∧ rAt S (x + 8) i < 800
theorem nOk.fr {Fs Ps As : List Nat} {w : Nat} {S S1 : b_M} {x : Nat} (h : nOk S x) (g : cS S x) (f : cFr Fs Ps As w S S1 x) (hd : 7 ∉ As ∧ 8 ∉ As) : nOk S1 x := ⟨fun i a b => by rw [f.row (cs_k_7 g) (by decide) hd.1]; exact h.1 i a b, fun i a b => by rw [f.row (cs_k_8 g) (by decide) hd.2]; exact h.2 i a b⟩
/-- where the terms of expressions begin -/
def eF (S : b_M) (x : Nat) (L : Int) : Prop := ∀ i : Int, 0 ≤ i → i < 3209 → 0 ≤ rAt S (x + 14) i ∧ rAt S (x + 14) i ≤ L
theorem eF.fr {Fs Ps As : List Nat} {w : Nat} {S S1 : b_M} {x : Nat} {L : Int} (h : eF S x L) (g : cS S x) (f : cFr Fs Ps As w S S1 x) (hd : 14 ∉ As) : eF S1 x L := fun i a b => by rw [f.row (cs_k_14 g) (by decide) hd]; exact h i a b
/-- Arrays.fill over a row of the object -/
theorem t_fill {kn : Nat → Nat} {B : Nat} {S : b_M} {z x w o L : Nat} {v : Int} (hk : m_K S (x + o) = 13) (hL : m_L S (x + o) = L) (hl : (L : Int) < 2147483648) (ho : o < 457) (b_v : -2147483648 ≤ v ∧ v < 2147483648) : b_C kn B yJ7_fill_53178 cJ7_fill_53178 4 none 0 0 0 0 [.ref (x + o), .int (iI v)] S z (fun r S' z' => z = z' ∧ cFr [] [] [o] w S S' x ∧ r = none ∧ True ∧ ∀ i : Int, 0 ≤ i → i < (L : Int) → rAt S' (x + o) i = v) (fun _ _ _ => False) := by
  refine (c_fill (q := x + o) (v := iI v) hk (by omega)).mono ?_ (fun _ _ _ h => h)
  rintro r S1 z1 ⟨rfl, rfl, rfl⟩
  refine ⟨rfl, ⟨⟨fun b h1 h2 => e_r_A _ _ _ (by omega), fun q b j hb => by
    by_cases e : b = x + o
    · rw [e] at hb; have hb' : m_K S (x + o) = 12 := hb; omega
    · rw [x_A_r_A _ _ _ _ _ e]; exact q b j hb⟩, fun _ _ _ => rfl, fun _ _ _ => rfl, fun p a c d i => ?_, fun b hb => ⟨rfl, rfl, fun _ => rfl⟩⟩, rfl, trivial, fun i a b => ?_⟩
  · rw [x_A_r_A _ _ _ _ _ (fun q => d (by rw [show p = o by omega]; exact List.mem_singleton.mpr rfl))]
  · unfold rAt
    rw [q_A_r_A, if_pos rfl, if_pos (by rw [hL]; omega), iI_to b_v]
set_option maxRecDepth 100000 in
set_option maxHeartbeats 4000000 in
theorem t_E_forget {kn : Nat → Nat} {B : Nat} {S : b_M} {z x w : Nat} (h : cS S x) : b_C kn B yX2_forget cX2_forget 1 none 0 0 0 0 [.ref (x + 2)] S z (fun r S' z' => z = z' ∧ cFr [102] [] [] w S S' x ∧ ∃ t1 : Int, r = none ∧ m_I S' 102 (x + 2) = iI t1 ∧ (-2147483648 ≤ t1 ∧ t1 < 2147483648) ∧ (t1 = 0)) (fun _ _ _ => False) := by
  refine b_enter (by decide) (Nat.le_of_ble_eq_true rfl) ?_
  intro X hX hE hnL hkn hB hI_
  subst hkn; subst hB
  clear hI_
  change b_V X S z 0 0 0 [(0, .ref (x + 2))] []
  refine v_aload_n hX dX2_forget_0 (i := 0) rfl rfl ?_
  refine v_iconst hX (v := iI 0) dX2_forget_1 rfl ?_
  refine v_putI hX (ci := 1) (k := 2) (f := 102) (cs_k_2 h) bc_1 (by decide) (by decide) in_1 tyX2_ok nmX2 w_1_47 (Or.inl rfl) rfl rfl dX2_forget_2 rfl rfl ?_
  exact v_return hX hE dX2_forget_5 (by omega) (by omega) ⟨rfl, ((cFr.rf _ _).sI (by decide) ⟨by omega, by omega⟩), 0, rfl, (by simp (disch := omega) only [y_I_s_I, x_I_s_I, z_I_s_J, z_I_s_A, z_I_s_B, z_I_s_P]), ⟨by omega, by omega⟩, (by omega)⟩
set_option maxRecDepth 100000 in
set_option maxHeartbeats 4000000 in
theorem t_E_tell {kn : Nat → Nat} {B : Nat} {S : b_M} {z x w : Nat} {n : Int} {l : Int} {t_ : Int} (h : cS S x) (e_t_ : m_I S 102 (x + 2) = iI t_) (b_t_ : -2147483648 ≤ t_ ∧ t_ < 2147483648) (b_n : -2147483648 ≤ n ∧ n < 2147483648) (b_l : -2147483648 ≤ l ∧ l < 2147483648) (p : 0 ≤ t_ ∧ t_ ≤ 50) : b_C kn B yX2_tell cX2_tell 3 none 0 0 0 0 [.ref (x + 2), .int (iI n), .int (iI l)] S z (fun r S' z' => z = z' ∧ cFr [102] [] [3, 4] w S S' x ∧ ∃ t1 : Int, r = none ∧ m_I S' 102 (x + 2) = iI t1 ∧ (-2147483648 ≤ t1 ∧ t1 < 2147483648) ∧ (t_ ≤ t1 ∧ 0 < t1 ∧ t1 ≤ 50)) (fun _ _ _ => False) := by
  refine b_enter (by decide) (Nat.le_of_ble_eq_true rfl) ?_
  intro X hX hE hnL hkn hB hI_
  subst hkn; subst hB
  clear hI_
  change b_V X S z 0 0 0 [(0, .ref (x + 2)), (1, .int (iI n)), (2, .int (iI l))] []
  refine v_aload_n hX dX2_tell_0 (i := 0) rfl rfl ?_
  refine v_get hX (ci := 1) (k := 2) (cs_k_2 h) bc_1 (by decide) (by decide) in_1 w_1_47 dX2_tell_1 (mvF (f := 102) (v := iI t_) rfl rfl (by simp (disch := omega) only [y_I_s_I, x_I_s_I, z_I_s_J, z_I_s_A, z_I_s_B, z_I_s_P, e_t_])) ?_
  refine v_bipush hX (v := iI 50) dX2_tell_4 (by decide) ?_
  refine u_icmp_ge hX (tgt := 39) dX2_tell_6 (by decide) ⟨by omega, by omega⟩ ⟨by omega, by omega⟩ (fun h1_ => ?_) (fun h1_ => ?_)
  ·
    exact v_return hX hE dX2_tell_39 (by omega) (by omega) ⟨rfl, (cFr.rf _ _), t_, rfl, (by simp (disch := omega) only [y_I_s_I, x_I_s_I, z_I_s_J, z_I_s_A, z_I_s_B, z_I_s_P, e_t_]), ⟨by omega, by omega⟩, (by omega)⟩
  ·
    refine v_aload_n hX dX2_tell_9 (i := 0) rfl rfl ?_
    refine v_get hX (ci := 1) (k := 0) (cs_k_2 h) bc_1 (by decide) (by decide) in_1 w_1_43 dX2_tell_10 (mvP (f := 100) (q := (x + 3)) rfl rfl (cs_p_100 h)) ?_
    refine v_aload_n hX dX2_tell_13 (i := 0) rfl rfl ?_
    refine v_get hX (ci := 1) (k := 2) (cs_k_2 h) bc_1 (by decide) (by decide) in_1 w_1_47 dX2_tell_14 (mvF (f := 102) (v := iI t_) rfl rfl (by simp (disch := omega) only [y_I_s_I, x_I_s_I, z_I_s_J, z_I_s_A, z_I_s_B, z_I_s_P, e_t_])) ?_
    refine v_iload_n hX dX2_tell_17 (i := 1) rfl rfl ?_
    refine u_iast hX (L := 50) (cs_k_3 h) (cs_l_3 h) ⟨by omega, by omega⟩ (by decide) dX2_tell_18 ?_
    refine v_aload_n hX dX2_tell_19 (i := 0) rfl rfl ?_
    refine v_get hX (ci := 1) (k := 1) (cs_k_2 (cS.sA h)) bc_1 (by decide) (by decide) in_1 w_1_45 dX2_tell_20 (mvP (f := 101) (q := (x + 4)) rfl rfl (cs_p_101 (cS.sA h))) ?_
    refine v_aload_n hX dX2_tell_23 (i := 0) rfl rfl ?_
    refine v_get hX (ci := 1) (k := 2) (cs_k_2 (cS.sA h)) bc_1 (by decide) (by decide) in_1 w_1_47 dX2_tell_24 (mvF (f := 102) (v := iI t_) rfl rfl (by simp (disch := omega) only [y_I_s_I, x_I_s_I, z_I_s_J, z_I_s_A, z_I_s_B, z_I_s_P, e_t_])) ?_
    refine v_iload_n hX dX2_tell_27 (i := 2) rfl rfl ?_
    refine u_iast hX (L := 50) (cs_k_4 (cS.sA h)) (cs_l_4 (cS.sA h)) ⟨by omega, by omega⟩ (by decide) dX2_tell_28 ?_
    refine v_aload_n hX dX2_tell_29 (i := 0) rfl rfl ?_
    refine v_dup hX dX2_tell_30 rfl ?_
    refine v_get hX (ci := 1) (k := 2) (cs_k_2 (cS.sA (cS.sA h))) bc_1 (by decide) (by decide) in_1 w_1_47 dX2_tell_31 (mvF (f := 102) (v := iI t_) rfl rfl (by simp (disch := omega) only [y_I_s_I, x_I_s_I, z_I_s_J, z_I_s_A, z_I_s_B, z_I_s_P, e_t_])) ?_
    refine v_iconst hX (v := iI 1) dX2_tell_34 rfl ?_
    refine u_iadd hX dX2_tell_35 ?_
    refine v_putI hX (ci := 1) (k := 2) (f := 102) (cs_k_2 (cS.sA (cS.sA h))) bc_1 (by decide) (by decide) in_1 tyX2_ok nmX2 w_1_47 (Or.inl rfl) rfl rfl dX2_tell_36 rfl rfl ?_
    exact v_return hX hE dX2_tell_39 (by omega) (by omega) ⟨rfl, ((((cFr.rf _ _).sA (by decide) (by decide) (cs_k_3 h)).sA (by decide) (by decide) (cs_k_4 (cS.sA h))).sI (by decide) ⟨by omega, by omega⟩), (t_ + 1), rfl, (by simp (disch := omega) only [y_I_s_I, x_I_s_I, z_I_s_J, z_I_s_A, z_I_s_B, z_I_s_P, e_t_]), ⟨by omega, by omega⟩, (by omega)⟩
set_option maxRecDepth 100000 in
set_option maxHeartbeats 4000000 in
theorem t_M_forget {kn : Nat → Nat} {B : Nat} {S : b_M} {z x w : Nat} (h : cS S x) : b_C kn B yX5_forget cX5_forget 1 none 0 0 0 0 [.ref (x + 421)] S z (fun r S' z' => z = z' ∧ cFr [403] [] [] w S S' x ∧ ∃ t1 : Int, r = none ∧ m_I S' 403 (x + 421) = iI t1 ∧ (-2147483648 ≤ t1 ∧ t1 < 2147483648) ∧ (t1 = 0)) (fun _ _ _ => False) := by
  refine b_enter (by decide) (Nat.le_of_ble_eq_true rfl) ?_
  intro X hX hE hnL hkn hB hI_
  subst hkn; subst hB
  clear hI_
  change b_V X S z 0 0 0 [(0, .ref (x + 421))] []
  refine v_aload_n hX dX5_forget_0 (i := 0) rfl rfl ?_
  refine v_iconst hX (v := iI 0) dX5_forget_1 rfl ?_
  refine v_putI hX (ci := 4) (k := 3) (f := 403) (cs_k_421 h) bc_4 (by decide) (by decide) in_4 tyX5_ok nmX5 w_2_24 (Or.inl rfl) rfl rfl dX5_forget_2 rfl rfl ?_
  exact v_return hX hE dX5_forget_5 (by omega) (by omega) ⟨rfl, ((cFr.rf _ _).sI (by decide) ⟨by omega, by omega⟩), 0, rfl, (by simp (disch := omega) only [y_I_s_I, x_I_s_I, z_I_s_J, z_I_s_A, z_I_s_B, z_I_s_P]), ⟨by omega, by omega⟩, (by omega)⟩
set_option maxRecDepth 100000 in
set_option maxHeartbeats 4000000 in
theorem t_M_isFull {kn : Nat → Nat} {B : Nat} {S : b_M} {z x w : Nat} {t_ : Int} (h : cS S x) (e_t_ : m_I S 403 (x + 421) = iI t_) (b_t_ : -2147483648 ≤ t_ ∧ t_ < 2147483648) : b_C kn B yX5_isFull cX5_isFull 1 (some .boolean) 0 0 0 0 [.ref (x + 421)] S z (fun r S' z' => z = z' ∧ S = S' ∧ ∃ q : Int, r = some (.int (iI q)) ∧ (q = 0 ∨ q = 1) ∧ (True)) (fun _ _ _ => False) := by
  refine b_enter (by decide) (Nat.le_of_ble_eq_true rfl) ?_
  intro X hX hE hnL hkn hB hI_
  subst hkn; subst hB
  clear hI_
  change b_V X S z 0 0 0 [(0, .ref (x + 421))] []
  refine v_aload_n hX dX5_isFull_0 (i := 0) rfl rfl ?_
  refine v_get hX (ci := 4) (k := 3) (cs_k_421 h) bc_4 (by decide) (by decide) in_4 w_2_24 dX5_isFull_1 (mvF (f := 403) (v := iI t_) rfl rfl (by simp (disch := omega) only [y_I_s_I, x_I_s_I, z_I_s_J, z_I_s_A, z_I_s_B, z_I_s_P, e_t_])) ?_
  refine v_bipush hX (v := iI 12) dX5_isFull_4 (by decide) ?_
  refine u_icmp_lt hX (tgt := 13) dX5_isFull_6 (by decide) ⟨by omega, by omega⟩ ⟨by omega, by omega⟩ (fun h1_ => ?_) (fun h1_ => ?_)
  ·
    refine v_iconst hX (v := iI 0) dX5_isFull_13 rfl ?_
    exact v_zreturn hX (nar_b (by omega)) hE dX5_isFull_14 (by omega) (by omega) ⟨rfl, rfl, 0, rfl, (by omega), trivial⟩
  ·
    refine v_iconst hX (v := iI 1) dX5_isFull_9 rfl ?_
    refine v_goto hX (tgt := 14) dX5_isFull_10 (by decide) ?_
    exact v_zreturn hX (nar_b (by omega)) hE dX5_isFull_14 (by omega) (by omega) ⟨rfl, rfl, 1, rfl, (by omega), trivial⟩
set_option maxRecDepth 100000 in
set_option maxHeartbeats 4000000 in
theorem t_M_find {kn : Nat → Nat} {B : Nat} {S : b_M} {z x w : Nat} {v : Int} {t_ : Int} (h : cS S x) (e_t_ : m_I S 403 (x + 421) = iI t_) (b_t_ : -2147483648 ≤ t_ ∧ t_ < 2147483648) (b_v : -9223372036854775808 ≤ v ∧ v < 9223372036854775808) (p : 0 ≤ t_ ∧ t_ ≤ 12) : b_C kn B yX5_find cX5_find 4 (some .int) 0 0 0 0 [.ref (x + 421), .long (jJ v)] S z (fun r S' z' => z = z' ∧ S = S' ∧ ∃ q : Int, r = some (.int (iI q)) ∧ (-2147483648 ≤ q ∧ q < 2147483648) ∧ (-1 ≤ q ∧ q < t_ ∨ q = -1)) (fun _ _ _ => False) := by
  refine b_enter (by decide) (Nat.le_of_ble_eq_true rfl) ?_
  intro X hX hE hnL hkn hB hI_
  subst hkn; subst hB
  clear hI_
  have L2 : ∀ (n2 : Nat) (i : Int), (0 ≤ i ∧ i ≤ t_) → (t_ - i).toNat = n2 → b_V X S z 0 0 2 [(3, .int (iI i)), (0, .ref (x + 421)), (1, .long (jJ v))] [] := by
    intro n2
    induction n2 using Nat.strongRecOn with
    | _ n2 ih2 =>
    intro i p2_0 hm2
    refine v_iload_n hX dX5_find_2 (i := 3) rfl rfl ?_
    refine v_aload_n hX dX5_find_3 (i := 0) rfl rfl ?_
    refine v_get hX (ci := 4) (k := 3) (cs_k_421 h) bc_4 (by decide) (by decide) in_4 w_2_24 dX5_find_4 (mvF (f := 403) (v := iI t_) rfl rfl (by simp (disch := omega) only [y_I_s_I, x_I_s_I, z_I_s_J, z_I_s_A, z_I_s_B, z_I_s_P, e_t_])) ?_
    refine u_icmp_ge hX (tgt := 29) dX5_find_7 (by decide) ⟨by omega, by omega⟩ ⟨by omega, by omega⟩ (fun h1_ => ?_) (fun h1_ => ?_)
    ·
      refine v_iconst hX (v := iI (-1)) dX5_find_29 rfl ?_
      exact v_ireturn hX hE dX5_find_30 (by omega) (by omega) ⟨rfl, rfl, (-1), rfl, ⟨by omega, by omega⟩, (by omega)⟩
    ·
      refine v_aload_n hX dX5_find_10 (i := 0) rfl rfl ?_
      refine v_get hX (ci := 4) (k := 0) (cs_k_421 h) bc_4 (by decide) (by decide) in_4 w_2_21 dX5_find_11 (mvP (f := 400) (q := (x + 422)) rfl rfl (cs_p_400 h)) ?_
      refine v_iload_n hX dX5_find_14 (i := 3) rfl rfl ?_
      refine u_lald hX (L := 12) (cs_k_422 h) (cs_l_422 h) ⟨by omega, by omega⟩ (by decide) dX5_find_15 (fun v2_ e_v2_ b_v2_ => ?_)
      refine v_lload_n hX dX5_find_16 (i := 1) rfl rfl ?_
      refine u_lcmp hX dX5_find_17 ⟨by omega, by omega⟩ ⟨by omega, by omega⟩ (fun v3_ b_v3_ c_v3_ => ?_)
      refine u_if_ne hX (tgt := 23) dX5_find_18 (by decide) ⟨by omega, by omega⟩ (fun h4_ => ?_) (fun h4_ => ?_)
      ·
        refine v_iinc hX (v := iI (i + 1)) (lv' := [(3, .int (iI (i + 1))), (0, .ref (x + 421)), (1, .long (jJ v))]) dX5_find_23 rfl (iI_add _ _) (by rw [hnL]; decide) rfl ?_
        refine v_goto hX (tgt := 2) dX5_find_26 (by decide) ?_
        exact ih2 _ (by omega) (i + 1) (by omega) rfl
      ·
        refine v_iload_n hX dX5_find_21 (i := 3) rfl rfl ?_
        exact v_ireturn hX hE dX5_find_22 (by omega) (by omega) ⟨rfl, rfl, i, rfl, ⟨by omega, by omega⟩, (by omega)⟩
  change b_V X S z 0 0 0 [(0, .ref (x + 421)), (1, .long (jJ v))] []
  refine v_iconst hX (v := iI 0) dX5_find_0 rfl ?_
  refine v_istore_n hX (lv' := [(3, .int (iI 0)), (0, .ref (x + 421)), (1, .long (jJ v))]) dX5_find_1 (i := 3) rfl (by rw [hnL]; decide) rfl ?_
  exact L2 _ 0 (by omega) rfl
set_option maxRecDepth 100000 in
set_option maxHeartbeats 4000000 in
theorem t_M_open {kn : Nat → Nat} {B : Nat} {S : b_M} {z x w : Nat} {v : Int} {f_ : Int} {t_ : Int} (h : cS S x) (e_t_ : m_I S 403 (x + 421) = iI t_) (b_t_ : -2147483648 ≤ t_ ∧ t_ < 2147483648) (b_v : -9223372036854775808 ≤ v ∧ v < 9223372036854775808) (b_f_ : -2147483648 ≤ f_ ∧ f_ < 2147483648) (p : 0 ≤ t_ ∧ t_ ≤ 12) : b_C kn B yX5_open cX5_open 4 none 0 0 0 0 [.ref (x + 421), .long (jJ v), .int (iI f_)] S z (fun r S' z' => z = z' ∧ cFr [403] [] [423, 424] w S S' x ∧ ∃ t1 : Int, r = none ∧ m_I S' 403 (x + 421) = iI t1 ∧ (-2147483648 ≤ t1 ∧ t1 < 2147483648) ∧ ((t_ = 12 ∧ t1 = 12) ∨ (t_ < 12 ∧ t1 = t_ + 1)) ∧ ((∀ i : Int, 0 ≤ i → i ≠ t_ → rAt S' (x + 423) i = rAt S (x + 423) i) ∧ (t_ < 12 → rAt S' (x + 423) t_ = f_)) ∧ ((∀ i : Int, 0 ≤ i → i ≠ t_ → rAt S' (x + 424) i = rAt S (x + 424) i) ∧ (t_ < 12 → rAt S' (x + 424) t_ = f_))) (fun _ _ _ => False) := by
  refine b_enter (by decide) (Nat.le_of_ble_eq_true rfl) ?_
  intro X hX hE hnL hkn hB hI_
  subst hkn; subst hB
  clear hI_
  change b_V X S z 0 0 0 [(0, .ref (x + 421)), (1, .long (jJ v)), (3, .int (iI f_))] []
  refine v_aload_n hX dX5_open_0 (i := 0) rfl rfl ?_
  refine v_get hX (ci := 4) (k := 3) (cs_k_421 h) bc_4 (by decide) (by decide) in_4 w_2_24 dX5_open_1 (mvF (f := 403) (v := iI t_) rfl rfl (by simp (disch := omega) only [y_I_s_I, x_I_s_I, z_I_s_J, z_I_s_A, z_I_s_B, z_I_s_P, e_t_])) ?_
  refine v_bipush hX (v := iI 12) dX5_open_4 (by decide) ?_
  refine u_icmp_ge hX (tgt := 49) dX5_open_6 (by decide) ⟨by omega, by omega⟩ ⟨by omega, by omega⟩ (fun h1_ => ?_) (fun h1_ => ?_)
  ·
    exact v_return hX hE dX5_open_49 (by omega) (by omega) ⟨rfl, (cFr.rf _ _), t_, rfl, (by simp (disch := omega) only [y_I_s_I, x_I_s_I, z_I_s_J, z_I_s_A, z_I_s_B, z_I_s_P, e_t_]), ⟨by omega, by omega⟩, (by omega), ⟨fun i g1 g2 => rfl, fun g => by omega⟩, ⟨fun i g1 g2 => rfl, fun g => by omega⟩⟩
  ·
    refine v_aload_n hX dX5_open_9 (i := 0) rfl rfl ?_
    refine v_get hX (ci := 4) (k := 0) (cs_k_421 h) bc_4 (by decide) (by decide) in_4 w_2_21 dX5_open_10 (mvP (f := 400) (q := (x + 422)) rfl rfl (cs_p_400 h)) ?_
    refine v_aload_n hX dX5_open_13 (i := 0) rfl rfl ?_
    refine v_get hX (ci := 4) (k := 3) (cs_k_421 h) bc_4 (by decide) (by decide) in_4 w_2_24 dX5_open_14 (mvF (f := 403) (v := iI t_) rfl rfl (by simp (disch := omega) only [y_I_s_I, x_I_s_I, z_I_s_J, z_I_s_A, z_I_s_B, z_I_s_P, e_t_])) ?_
    refine v_lload_n hX dX5_open_17 (i := 1) rfl rfl ?_
    refine u_last hX (L := 12) (cs_k_422 h) (cs_l_422 h) ⟨by omega, by omega⟩ (by decide) dX5_open_18 ?_
    refine v_aload_n hX dX5_open_19 (i := 0) rfl rfl ?_
    refine v_get hX (ci := 4) (k := 1) (cs_k_421 (cS.sB h)) bc_4 (by decide) (by decide) in_4 w_2_22 dX5_open_20 (mvP (f := 401) (q := (x + 423)) rfl rfl (cs_p_401 (cS.sB h))) ?_
    refine v_aload_n hX dX5_open_23 (i := 0) rfl rfl ?_
    refine v_get hX (ci := 4) (k := 3) (cs_k_421 (cS.sB h)) bc_4 (by decide) (by decide) in_4 w_2_24 dX5_open_24 (mvF (f := 403) (v := iI t_) rfl rfl (by simp (disch := omega) only [y_I_s_I, x_I_s_I, z_I_s_J, z_I_s_A, z_I_s_B, z_I_s_P, e_t_])) ?_
    refine v_iload_n hX dX5_open_27 (i := 3) rfl rfl ?_
    refine u_iast hX (L := 12) (cs_k_423 (cS.sB h)) (cs_l_423 (cS.sB h)) ⟨by omega, by omega⟩ (by decide) dX5_open_28 ?_
    refine v_aload_n hX dX5_open_29 (i := 0) rfl rfl ?_
    refine v_get hX (ci := 4) (k := 2) (cs_k_421 (cS.sA (cS.sB h))) bc_4 (by decide) (by decide) in_4 w_2_23 dX5_open_30 (mvP (f := 402) (q := (x + 424)) rfl rfl (cs_p_402 (cS.sA (cS.sB h)))) ?_
    refine v_aload_n hX dX5_open_33 (i := 0) rfl rfl ?_
    refine v_get hX (ci := 4) (k := 3) (cs_k_421 (cS.sA (cS.sB h))) bc_4 (by decide) (by decide) in_4 w_2_24 dX5_open_34 (mvF (f := 403) (v := iI t_) rfl rfl (by simp (disch := omega) only [y_I_s_I, x_I_s_I, z_I_s_J, z_I_s_A, z_I_s_B, z_I_s_P, e_t_])) ?_
    refine v_iload_n hX dX5_open_37 (i := 3) rfl rfl ?_
    refine u_iast hX (L := 12) (cs_k_424 (cS.sA (cS.sB h))) (cs_l_424 (cS.sA (cS.sB h))) ⟨by omega, by omega⟩ (by decide) dX5_open_38 ?_
    refine v_aload_n hX dX5_open_39 (i := 0) rfl rfl ?_
    refine v_dup hX dX5_open_40 rfl ?_
    refine v_get hX (ci := 4) (k := 3) (cs_k_421 (cS.sA (cS.sA (cS.sB h)))) bc_4 (by decide) (by decide) in_4 w_2_24 dX5_open_41 (mvF (f := 403) (v := iI t_) rfl rfl (by simp (disch := omega) only [y_I_s_I, x_I_s_I, z_I_s_J, z_I_s_A, z_I_s_B, z_I_s_P, e_t_])) ?_
    refine v_iconst hX (v := iI 1) dX5_open_44 rfl ?_
    refine u_iadd hX dX5_open_45 ?_
    refine v_putI hX (ci := 4) (k := 3) (f := 403) (cs_k_421 (cS.sA (cS.sA (cS.sB h)))) bc_4 (by decide) (by decide) in_4 tyX5_ok nmX5 w_2_24 (Or.inl rfl) rfl rfl dX5_open_46 rfl rfl ?_
    exact v_return hX hE dX5_open_49 (by omega) (by omega) ⟨rfl, (((((cFr.rf _ _).sB (Or.inl ⟨by omega, by omega⟩)).sA (by decide) (by decide) (cs_k_423 (cS.sB h))).sA (by decide) (by decide) (cs_k_424 (cS.sA (cS.sB h)))).sI (by decide) ⟨by omega, by omega⟩), (t_ + 1), rfl, (by simp (disch := omega) only [y_I_s_I, x_I_s_I, z_I_s_J, z_I_s_A, z_I_s_B, z_I_s_P, e_t_]), ⟨by omega, by omega⟩, (by omega), ⟨fun i g1 g2 => by simp (disch := omega) only [zr_I, zr_J, zr_B, rA_A, zl_I, zl_J, zl_A, lA_B, zr_P, rA_x], fun g => by first | omega | simp (disch := omega) only [zr_I, zr_J, zr_B, rA_A, zl_I, zl_J, zl_A, lA_B, zr_P, rA_y]⟩, ⟨fun i g1 g2 => by simp (disch := omega) only [zr_I, zr_J, zr_B, rA_A, zl_I, zl_J, zl_A, lA_B, zr_P, rA_x], fun g => by first | omega | simp (disch := omega) only [zr_I, zr_J, zr_B, rA_A, zl_I, zl_J, zl_A, lA_B, zr_P, rA_y]⟩⟩
set_option maxRecDepth 100000 in
set_option maxHeartbeats 4000000 in
theorem t_M_close {kn : Nat → Nat} {B : Nat} {S : b_M} {z x w : Nat} {to_ : Int} {t_ : Int} (h : cS S x) (e_t_ : m_I S 403 (x + 421) = iI t_) (b_t_ : -2147483648 ≤ t_ ∧ t_ < 2147483648) (b_to_ : -2147483648 ≤ to_ ∧ to_ < 2147483648) (p : 0 ≤ t_ ∧ t_ ≤ 12) : b_C kn B yX5_close cX5_close 2 none 0 0 0 0 [.ref (x + 421), .int (iI to_)] S z (fun r S' z' => z = z' ∧ cFr [] [] [424] w S S' x ∧ r = none ∧ (True) ∧ ((∀ i : Int, 0 ≤ i → i ≠ (t_ - 1) → rAt S' (x + 424) i = rAt S (x + 424) i) ∧ (0 < t_ → rAt S' (x + 424) (t_ - 1) = to_))) (fun _ _ _ => False) := by
  refine b_enter (by decide) (Nat.le_of_ble_eq_true rfl) ?_
  intro X hX hE hnL hkn hB hI_
  subst hkn; subst hB
  clear hI_
  change b_V X S z 0 0 0 [(0, .ref (x + 421)), (1, .int (iI to_))] []
  refine v_aload_n hX dX5_close_0 (i := 0) rfl rfl ?_
  refine v_get hX (ci := 4) (k := 3) (cs_k_421 h) bc_4 (by decide) (by decide) in_4 w_2_24 dX5_close_1 (mvF (f := 403) (v := iI t_) rfl rfl (by simp (disch := omega) only [y_I_s_I, x_I_s_I, z_I_s_J, z_I_s_A, z_I_s_B, z_I_s_P, e_t_])) ?_
  refine u_if_le hX (tgt := 19) dX5_close_4 (by decide) ⟨by omega, by omega⟩ (fun h1_ => ?_) (fun h1_ => ?_)
  ·
    exact v_return hX hE dX5_close_19 (by omega) (by omega) ⟨rfl, (cFr.rf _ _), rfl, trivial, ⟨fun i g1 g2 => rfl, fun g => by omega⟩⟩
  ·
    refine v_aload_n hX dX5_close_7 (i := 0) rfl rfl ?_
    refine v_get hX (ci := 4) (k := 2) (cs_k_421 h) bc_4 (by decide) (by decide) in_4 w_2_23 dX5_close_8 (mvP (f := 402) (q := (x + 424)) rfl rfl (cs_p_402 h)) ?_
    refine v_aload_n hX dX5_close_11 (i := 0) rfl rfl ?_
    refine v_get hX (ci := 4) (k := 3) (cs_k_421 h) bc_4 (by decide) (by decide) in_4 w_2_24 dX5_close_12 (mvF (f := 403) (v := iI t_) rfl rfl (by simp (disch := omega) only [y_I_s_I, x_I_s_I, z_I_s_J, z_I_s_A, z_I_s_B, z_I_s_P, e_t_])) ?_
    refine v_iconst hX (v := iI 1) dX5_close_15 rfl ?_
    refine u_isub hX dX5_close_16 ?_
    refine v_iload_n hX dX5_close_17 (i := 1) rfl rfl ?_
    refine u_iast hX (L := 12) (cs_k_424 h) (cs_l_424 h) ⟨by omega, by omega⟩ (by decide) dX5_close_18 ?_
    exact v_return hX hE dX5_close_19 (by omega) (by omega) ⟨rfl, ((cFr.rf _ _).sA (by decide) (by decide) (cs_k_424 h)), rfl, trivial, ⟨fun i g1 g2 => by simp (disch := omega) only [zr_I, zr_J, zr_B, rA_A, zl_I, zl_J, zl_A, lA_B, zr_P, rA_x], fun g => by first | omega | simp (disch := omega) only [zr_I, zr_J, zr_B, rA_A, zl_I, zl_J, zl_A, lA_B, zr_P, rA_y]⟩⟩
set_option maxRecDepth 100000 in
set_option maxHeartbeats 4000000 in
theorem t_M_from {kn : Nat → Nat} {B : Nat} {S : b_M} {z x w : Nat} {k : Int} {t_ : Int} (h : cS S x) (e_t_ : m_I S 403 (x + 421) = iI t_) (b_t_ : -2147483648 ≤ t_ ∧ t_ < 2147483648) (b_k : -2147483648 ≤ k ∧ k < 2147483648) (p : 0 ≤ t_ ∧ t_ ≤ 12) : b_C kn B yX5_from cX5_from 2 (some .int) 0 0 0 0 [.ref (x + 421), .int (iI k)] S z (fun r S' z' => z = z' ∧ S = S' ∧ ∃ q : Int, r = some (.int (iI q)) ∧ (-2147483648 ≤ q ∧ q < 2147483648) ∧ ((0 ≤ k ∧ k < t_ ∧ q = rAt S (x + 423) k) ∨ (¬ (0 ≤ k ∧ k < t_) ∧ q = 0))) (fun _ _ _ => False) := by
  refine b_enter (by decide) (Nat.le_of_ble_eq_true rfl) ?_
  intro X hX hE hnL hkn hB hI_
  subst hkn; subst hB
  clear hI_
  change b_V X S z 0 0 0 [(0, .ref (x + 421)), (1, .int (iI k))] []
  refine v_iload_n hX dX5_from_0 (i := 1) rfl rfl ?_
  refine u_if_lt hX (tgt := 21) dX5_from_1 (by decide) ⟨by omega, by omega⟩ (fun h1_ => ?_) (fun h1_ => ?_)
  ·
    refine v_iconst hX (v := iI 0) dX5_from_21 rfl ?_
    exact v_ireturn hX hE dX5_from_22 (by omega) (by omega) ⟨rfl, rfl, 0, rfl, ⟨by omega, by omega⟩, (by omega)⟩
  ·
    refine v_iload_n hX dX5_from_4 (i := 1) rfl rfl ?_
    refine v_aload_n hX dX5_from_5 (i := 0) rfl rfl ?_
    refine v_get hX (ci := 4) (k := 3) (cs_k_421 h) bc_4 (by decide) (by decide) in_4 w_2_24 dX5_from_6 (mvF (f := 403) (v := iI t_) rfl rfl (by simp (disch := omega) only [y_I_s_I, x_I_s_I, z_I_s_J, z_I_s_A, z_I_s_B, z_I_s_P, e_t_])) ?_
    refine u_icmp_ge hX (tgt := 21) dX5_from_9 (by decide) ⟨by omega, by omega⟩ ⟨by omega, by omega⟩ (fun h2_ => ?_) (fun h2_ => ?_)
    ·
      refine v_iconst hX (v := iI 0) dX5_from_21 rfl ?_
      exact v_ireturn hX hE dX5_from_22 (by omega) (by omega) ⟨rfl, rfl, 0, rfl, ⟨by omega, by omega⟩, (by omega)⟩
    ·
      refine v_aload_n hX dX5_from_12 (i := 0) rfl rfl ?_
      refine v_get hX (ci := 4) (k := 1) (cs_k_421 h) bc_4 (by decide) (by decide) in_4 w_2_22 dX5_from_13 (mvP (f := 401) (q := (x + 423)) rfl rfl (cs_p_401 h)) ?_
      refine v_iload_n hX dX5_from_16 (i := 1) rfl rfl ?_
      refine u_iald hX (L := 12) (cs_k_423 h) (cs_l_423 h) ⟨by omega, by omega⟩ (by decide) dX5_from_17 (fun v3_ e_v3_ b_v3_ => ?_)
      refine v_goto hX (tgt := 22) dX5_from_18 (by decide) ?_
      exact v_ireturn hX hE dX5_from_22 (by omega) (by omega) ⟨rfl, rfl, v3_, rfl, ⟨by omega, by omega⟩, (by omega)⟩
set_option maxRecDepth 100000 in
set_option maxHeartbeats 4000000 in
theorem t_M_to {kn : Nat → Nat} {B : Nat} {S : b_M} {z x w : Nat} {k : Int} {t_ : Int} (h : cS S x) (e_t_ : m_I S 403 (x + 421) = iI t_) (b_t_ : -2147483648 ≤ t_ ∧ t_ < 2147483648) (b_k : -2147483648 ≤ k ∧ k < 2147483648) (p : 0 ≤ t_ ∧ t_ ≤ 12) : b_C kn B yX5_to cX5_to 2 (some .int) 0 0 0 0 [.ref (x + 421), .int (iI k)] S z (fun r S' z' => z = z' ∧ S = S' ∧ ∃ q : Int, r = some (.int (iI q)) ∧ (-2147483648 ≤ q ∧ q < 2147483648) ∧ ((0 ≤ k ∧ k < t_ ∧ q = rAt S (x + 424) k) ∨ (¬ (0 ≤ k ∧ k < t_) ∧ q = 0))) (fun _ _ _ => False) := by
  refine b_enter (by decide) (Nat.le_of_ble_eq_true rfl) ?_
  intro X hX hE hnL hkn hB hI_
  subst hkn; subst hB
  clear hI_
  change b_V X S z 0 0 0 [(0, .ref (x + 421)), (1, .int (iI k))] []
  refine v_iload_n hX dX5_to_0 (i := 1) rfl rfl ?_
  refine u_if_lt hX (tgt := 21) dX5_to_1 (by decide) ⟨by omega, by omega⟩ (fun h1_ => ?_) (fun h1_ => ?_)
  ·
    refine v_iconst hX (v := iI 0) dX5_to_21 rfl ?_
    exact v_ireturn hX hE dX5_to_22 (by omega) (by omega) ⟨rfl, rfl, 0, rfl, ⟨by omega, by omega⟩, (by omega)⟩
  ·
    refine v_iload_n hX dX5_to_4 (i := 1) rfl rfl ?_
    refine v_aload_n hX dX5_to_5 (i := 0) rfl rfl ?_
    refine v_get hX (ci := 4) (k := 3) (cs_k_421 h) bc_4 (by decide) (by decide) in_4 w_2_24 dX5_to_6 (mvF (f := 403) (v := iI t_) rfl rfl (by simp (disch := omega) only [y_I_s_I, x_I_s_I, z_I_s_J, z_I_s_A, z_I_s_B, z_I_s_P, e_t_])) ?_
    refine u_icmp_ge hX (tgt := 21) dX5_to_9 (by decide) ⟨by omega, by omega⟩ ⟨by omega, by omega⟩ (fun h2_ => ?_) (fun h2_ => ?_)
    ·
      refine v_iconst hX (v := iI 0) dX5_to_21 rfl ?_
      exact v_ireturn hX hE dX5_to_22 (by omega) (by omega) ⟨rfl, rfl, 0, rfl, ⟨by omega, by omega⟩, (by omega)⟩
    ·
      refine v_aload_n hX dX5_to_12 (i := 0) rfl rfl ?_
      refine v_get hX (ci := 4) (k := 2) (cs_k_421 h) bc_4 (by decide) (by decide) in_4 w_2_23 dX5_to_13 (mvP (f := 402) (q := (x + 424)) rfl rfl (cs_p_402 h)) ?_
      refine v_iload_n hX dX5_to_16 (i := 1) rfl rfl ?_
      refine u_iald hX (L := 12) (cs_k_424 h) (cs_l_424 h) ⟨by omega, by omega⟩ (by decide) dX5_to_17 (fun v3_ e_v3_ b_v3_ => ?_)
      refine v_goto hX (tgt := 22) dX5_to_18 (by decide) ?_
      exact v_ireturn hX hE dX5_to_22 (by omega) (by omega) ⟨rfl, rfl, v3_, rfl, ⟨by omega, by omega⟩, (by omega)⟩
set_option maxRecDepth 100000 in
set_option maxHeartbeats 4000000 in
theorem t_N_isSet {kn : Nat → Nat} {B : Nat} {S : b_M} {z x w : Nat} {id : Int} (h : cS S x) (b_id : -2147483648 ≤ id ∧ id < 2147483648) : b_C kn B yX6_isSet cX6_isSet 2 (some .boolean) 0 0 0 0 [.ref (x + 6), .int (iI id)] S z (fun r S' z' => z = z' ∧ S = S' ∧ ∃ q : Int, r = some (.int (iI q)) ∧ (q = 0 ∨ q = 1) ∧ (True)) (fun _ _ _ => False) := by
  refine b_enter (by decide) (Nat.le_of_ble_eq_true rfl) ?_
  intro X hX hE hnL hkn hB hI_
  subst hkn; subst hB
  clear hI_
  change b_V X S z 0 0 0 [(0, .ref (x + 6)), (1, .int (iI id))] []
  refine v_iload_n hX dX6_isSet_0 (i := 1) rfl rfl ?_
  refine v_sipush hX (v := iI 400) dX6_isSet_1 (by decide) ?_
  refine u_icmp_lt hX (tgt := 11) dX6_isSet_4 (by decide) ⟨by omega, by omega⟩ ⟨by omega, by omega⟩ (fun h1_ => ?_) (fun h1_ => ?_)
  ·
    refine v_iconst hX (v := iI 0) dX6_isSet_11 rfl ?_
    exact v_zreturn hX (nar_b (by omega)) hE dX6_isSet_12 (by omega) (by omega) ⟨rfl, rfl, 0, rfl, (by omega), trivial⟩
  ·
    refine v_iconst hX (v := iI 1) dX6_isSet_7 rfl ?_
    refine v_goto hX (tgt := 12) dX6_isSet_8 (by decide) ?_
    exact v_zreturn hX (nar_b (by omega)) hE dX6_isSet_12 (by omega) (by omega) ⟨rfl, rfl, 1, rfl, (by omega), trivial⟩
set_option maxRecDepth 100000 in
set_option maxHeartbeats 4000000 in
theorem t_N_isFull {kn : Nat → Nat} {B : Nat} {S : b_M} {z x w : Nat} {se : Int} (h : cS S x) (e_se : m_I S 505 (x + 6) = iI se) (b_se : -2147483648 ≤ se ∧ se < 2147483648) : b_C kn B yX6_isFull cX6_isFull 1 (some .boolean) 0 0 0 0 [.ref (x + 6)] S z (fun r S' z' => z = z' ∧ S = S' ∧ ∃ q : Int, r = some (.int (iI q)) ∧ (q = 0 ∨ q = 1) ∧ ((q = 0 ∧ se < 400) ∨ (q = 1 ∧ 400 ≤ se))) (fun _ _ _ => False) := by
  refine b_enter (by decide) (Nat.le_of_ble_eq_true rfl) ?_
  intro X hX hE hnL hkn hB hI_
  subst hkn; subst hB
  clear hI_
  change b_V X S z 0 0 0 [(0, .ref (x + 6))] []
  refine v_aload_n hX dX6_isFull_0 (i := 0) rfl rfl ?_
  refine v_get hX (ci := 5) (k := 5) (cs_k_6 h) bc_5 (by decide) (by decide) in_5 w_1_83 dX6_isFull_1 (mvF (f := 505) (v := iI se) rfl rfl (by simp (disch := omega) only [y_I_s_I, x_I_s_I, z_I_s_J, z_I_s_A, z_I_s_B, z_I_s_P, e_se])) ?_
  refine v_sipush hX (v := iI 400) dX6_isFull_4 (by decide) ?_
  refine u_icmp_lt hX (tgt := 14) dX6_isFull_7 (by decide) ⟨by omega, by omega⟩ ⟨by omega, by omega⟩ (fun h1_ => ?_) (fun h1_ => ?_)
  ·
    refine v_iconst hX (v := iI 0) dX6_isFull_14 rfl ?_
    exact v_zreturn hX (nar_b (by omega)) hE dX6_isFull_15 (by omega) (by omega) ⟨rfl, rfl, 0, rfl, (by omega), (by omega)⟩
  ·
    refine v_iconst hX (v := iI 1) dX6_isFull_10 rfl ?_
    refine v_goto hX (tgt := 15) dX6_isFull_11 (by decide) ?_
    exact v_zreturn hX (nar_b (by omega)) hE dX6_isFull_15 (by omega) (by omega) ⟨rfl, rfl, 1, rfl, (by omega), (by omega)⟩
set_option maxRecDepth 100000 in
set_option maxHeartbeats 4000000 in
theorem t_N_value {kn : Nat → Nat} {B : Nat} {S : b_M} {z x w : Nat} {id : Int} (h : cS S x) (b_id : -2147483648 ≤ id ∧ id < 2147483648) : b_C kn B yX6_value cX6_value 2 (some .int) 0 0 0 0 [.ref (x + 6), .int (iI id)] S z (fun r S' z' => z = z' ∧ S = S' ∧ ∃ q : Int, r = some (.int (iI q)) ∧ (-2147483648 ≤ q ∧ q < 2147483648) ∧ (True)) (fun _ _ _ => False) := by
  refine b_enter (by decide) (Nat.le_of_ble_eq_true rfl) ?_
  intro X hX hE hnL hkn hB hI_
  subst hkn; subst hB
  clear hI_
  change b_V X S z 0 0 0 [(0, .ref (x + 6)), (1, .int (iI id))] []
  refine v_iload_n hX dX6_value_0 (i := 1) rfl rfl ?_
  refine u_if_lt hX (tgt := 20) dX6_value_1 (by decide) ⟨by omega, by omega⟩ (fun h1_ => ?_) (fun h1_ => ?_)
  ·
    refine v_iconst hX (v := iI 0) dX6_value_20 rfl ?_
    exact v_ireturn hX hE dX6_value_21 (by omega) (by omega) ⟨rfl, rfl, 0, rfl, ⟨by omega, by omega⟩, trivial⟩
  ·
    refine v_iload_n hX dX6_value_4 (i := 1) rfl rfl ?_
    refine v_sipush hX (v := iI 800) dX6_value_5 (by decide) ?_
    refine u_icmp_ge hX (tgt := 20) dX6_value_8 (by decide) ⟨by omega, by omega⟩ ⟨by omega, by omega⟩ (fun h2_ => ?_) (fun h2_ => ?_)
    ·
      refine v_iconst hX (v := iI 0) dX6_value_20 rfl ?_
      exact v_ireturn hX hE dX6_value_21 (by omega) (by omega) ⟨rfl, rfl, 0, rfl, ⟨by omega, by omega⟩, trivial⟩
    ·
      refine v_aload_n hX dX6_value_11 (i := 0) rfl rfl ?_
      refine v_get hX (ci := 5) (k := 3) (cs_k_6 h) bc_5 (by decide) (by decide) in_5 w_1_80 dX6_value_12 (mvP (f := 503) (q := (x + 10)) rfl rfl (cs_p_503 h)) ?_
      refine v_iload_n hX dX6_value_15 (i := 1) rfl rfl ?_
      refine u_iald hX (L := 800) (cs_k_10 h) (cs_l_10 h) ⟨by omega, by omega⟩ (by decide) dX6_value_16 (fun v3_ e_v3_ b_v3_ => ?_)
      refine v_goto hX (tgt := 21) dX6_value_17 (by decide) ?_
      exact v_ireturn hX hE dX6_value_21 (by omega) (by omega) ⟨rfl, rfl, v3_, rfl, ⟨by omega, by omega⟩, trivial⟩
set_option maxRecDepth 100000 in
set_option maxHeartbeats 4000000 in
theorem t_N_labelValue {kn : Nat → Nat} {B : Nat} {S : b_M} {z x w : Nat} {k : Int} (h : cS S x) (b_k : -2147483648 ≤ k ∧ k < 2147483648) : b_C kn B yX6_labelValue cX6_labelValue 2 (some .int) 1 21 0 0 [.ref (x + 6), .int (iI k)] S z (fun r S' z' => z = z' ∧ S = S' ∧ ∃ q : Int, r = some (.int (iI q)) ∧ (-2147483648 ≤ q ∧ q < 2147483648) ∧ (True)) (fun _ _ _ => False) := by
  refine b_enter (by decide) (Nat.le_of_ble_eq_true rfl) ?_
  intro X hX hE hnL hkn hB hI_
  subst hkn; subst hB
  clear hI_
  change b_V X S z 0 0 0 [(0, .ref (x + 6)), (1, .int (iI k))] []
  refine v_aload_n hX dX6_labelValue_0 (i := 0) rfl rfl ?_
  refine v_iload_n hX dX6_labelValue_1 (i := 1) rfl rfl ?_
  refine v_callV hX (n := 1) (t_N_value (S := S) (x := x) (w := w) (id := k) h ⟨by omega, by omega⟩) (cs_k_6 h) bc_5 (by decide) w_5_190 w_4_123 w_4_124 w_1_4 w_4_125 (by decide +kernel) rfl ⟨by decide, by decide⟩ ⟨by omega, by omega⟩ (Nat.le_of_ble_eq_true rfl) rfl dX6_labelValue_2 (fun _ _ _ q => q) ?_
  rintro r1_ S1_ z1_ ⟨rfl, rfl, v2_, rfl, b_v2_, q1_⟩
  exact v_ireturn hX hE dX6_labelValue_5 (by omega) (by omega) ⟨rfl, rfl, v2_, rfl, ⟨by omega, by omega⟩, trivial⟩
set_option maxRecDepth 100000 in
set_option maxHeartbeats 4000000 in
theorem t_N_setValue {kn : Nat → Nat} {B : Nat} {S : b_M} {z x w : Nat} {k : Int} (h : cS S x) (b_k : -2147483648 ≤ k ∧ k < 2147483648) : b_C kn B yX6_setValue cX6_setValue 2 (some .int) 1 21 0 0 [.ref (x + 6), .int (iI k)] S z (fun r S' z' => z = z' ∧ S = S' ∧ ∃ q : Int, r = some (.int (iI q)) ∧ (-2147483648 ≤ q ∧ q < 2147483648) ∧ (True)) (fun _ _ _ => False) := by
  refine b_enter (by decide) (Nat.le_of_ble_eq_true rfl) ?_
  intro X hX hE hnL hkn hB hI_
  subst hkn; subst hB
  clear hI_
  change b_V X S z 0 0 0 [(0, .ref (x + 6)), (1, .int (iI k))] []
  refine v_aload_n hX dX6_setValue_0 (i := 0) rfl rfl ?_
  refine v_sipush hX (v := iI 400) dX6_setValue_1 (by decide) ?_
  refine v_iload_n hX dX6_setValue_4 (i := 1) rfl rfl ?_
  refine u_iadd hX dX6_setValue_5 ?_
  obtain ⟨v1_, e_v1_, b_v1_⟩ := i_ex (iI (400 + k))
  rw [e_v1_]
  refine v_callV hX (n := 1) (t_N_value (S := S) (x := x) (w := w) (id := v1_) h ⟨by omega, by omega⟩) (cs_k_6 h) bc_5 (by decide) w_5_190 w_4_123 w_4_124 w_1_4 w_4_125 (by decide +kernel) rfl ⟨by decide, by decide⟩ ⟨by omega, by omega⟩ (Nat.le_of_ble_eq_true rfl) rfl dX6_setValue_6 (fun _ _ _ q => q) ?_
  rintro r2_ S2_ z2_ ⟨rfl, rfl, v3_, rfl, b_v3_, q2_⟩
  exact v_ireturn hX hE dX6_setValue_9 (by omega) (by omega) ⟨rfl, rfl, v3_, rfl, ⟨by omega, by omega⟩, trivial⟩
set_option maxRecDepth 100000 in
set_option maxHeartbeats 4000000 in
theorem t_N_place {kn : Nat → Nat} {B : Nat} {S : b_M} {z x w : Nat} {lb : Int} {v : Int} {la : Int} (h : cS S x) (e_la : m_I S 504 (x + 6) = iI la) (b_la : -2147483648 ≤ la ∧ la < 2147483648) (b_lb : -2147483648 ≤ lb ∧ lb < 2147483648) (b_v : -2147483648 ≤ v ∧ v < 2147483648) (p : la ≤ 400) : b_C kn B yX6_place cX6_place 3 none 0 0 0 0 [.ref (x + 6), .int (iI lb), .int (iI v)] S z (fun r S' z' => z = z' ∧ cFr [] [] [10] w S S' x ∧ r = none ∧ (True)) (fun _ _ _ => False) := by
  refine b_enter (by decide) (Nat.le_of_ble_eq_true rfl) ?_
  intro X hX hE hnL hkn hB hI_
  subst hkn; subst hB
  clear hI_
  change b_V X S z 0 0 0 [(0, .ref (x + 6)), (1, .int (iI lb)), (2, .int (iI v))] []
  refine v_iload_n hX dX6_place_0 (i := 1) rfl rfl ?_
  refine u_if_lt hX (tgt := 19) dX6_place_1 (by decide) ⟨by omega, by omega⟩ (fun h1_ => ?_) (fun h1_ => ?_)
  ·
    exact v_return hX hE dX6_place_19 (by omega) (by omega) ⟨rfl, (cFr.rf _ _), rfl, trivial⟩
  ·
    refine v_iload_n hX dX6_place_4 (i := 1) rfl rfl ?_
    refine v_aload_n hX dX6_place_5 (i := 0) rfl rfl ?_
    refine v_get hX (ci := 5) (k := 4) (cs_k_6 h) bc_5 (by decide) (by decide) in_5 w_1_81 dX6_place_6 (mvF (f := 504) (v := iI la) rfl rfl (by simp (disch := omega) only [y_I_s_I, x_I_s_I, z_I_s_J, z_I_s_A, z_I_s_B, z_I_s_P, e_la])) ?_
    refine u_icmp_ge hX (tgt := 19) dX6_place_9 (by decide) ⟨by omega, by omega⟩ ⟨by omega, by omega⟩ (fun h2_ => ?_) (fun h2_ => ?_)
    ·
      exact v_return hX hE dX6_place_19 (by omega) (by omega) ⟨rfl, (cFr.rf _ _), rfl, trivial⟩
    ·
      refine v_aload_n hX dX6_place_12 (i := 0) rfl rfl ?_
      refine v_get hX (ci := 5) (k := 3) (cs_k_6 h) bc_5 (by decide) (by decide) in_5 w_1_80 dX6_place_13 (mvP (f := 503) (q := (x + 10)) rfl rfl (cs_p_503 h)) ?_
      refine v_iload_n hX dX6_place_16 (i := 1) rfl rfl ?_
      refine v_iload_n hX dX6_place_17 (i := 2) rfl rfl ?_
      refine u_iast hX (L := 800) (cs_k_10 h) (cs_l_10 h) ⟨by omega, by omega⟩ (by decide) dX6_place_18 ?_
      exact v_return hX hE dX6_place_19 (by omega) (by omega) ⟨rfl, ((cFr.rf _ _).sA (by decide) (by decide) (cs_k_10 h)), rfl, trivial⟩
set_option maxRecDepth 100000 in
set_option maxHeartbeats 4000000 in
theorem t_N_find {kn : Nat → Nat} {B : Nat} {S : b_M} {z x w : Nat} {v : Int} (h : cS S x) (b_v : -9223372036854775808 ≤ v ∧ v < 9223372036854775808) (nk : nOk S x) : b_C kn B yX6_find cX6_find 5 (some .int) 0 0 0 0 [.ref (x + 6), .long (jJ v)] S z (fun r S' z' => z = z' ∧ S = S' ∧ ∃ q : Int, r = some (.int (iI q)) ∧ (-2147483648 ≤ q ∧ q < 2147483648) ∧ (-1 ≤ q ∧ q < 800)) (fun _ _ _ => False) := by
  refine b_enter (by decide) (Nat.le_of_ble_eq_true rfl) ?_
  intro X hX hE hnL hkn hB hI_
  subst hkn; subst hB
  clear hI_
  have L25 : ∀ (n25 : Nat) (k : Int) (id : Int), (0 ≤ k ∧ k ≤ 800 ∧ -1 ≤ id ∧ id < 800) → (800 - k).toNat = n25 → b_V X S z 0 0 25 [(4, .int (iI k)), (3, .int (iI id)), (0, .ref (x + 6)), (1, .long (jJ v))] [] := by
    intro n25
    induction n25 using Nat.strongRecOn with
    | _ n25 ih25 =>
    intro k id p25_0 hm25
    refine v_iload_n hX dX6_find_25 (i := 3) rfl rfl ?_
    refine u_if_lt hX (tgt := 63) dX6_find_26 (by decide) ⟨by omega, by omega⟩ (fun h1_ => ?_) (fun h1_ => ?_)
    ·
      refine v_iconst hX (v := iI (-1)) dX6_find_63 rfl ?_
      exact v_ireturn hX hE dX6_find_64 (by omega) (by omega) ⟨rfl, rfl, (-1), rfl, ⟨by omega, by omega⟩, (by omega)⟩
    ·
      refine v_iload hX dX6_find_29 rfl ?_
      refine v_sipush hX (v := iI 800) dX6_find_31 (by decide) ?_
      refine u_icmp_ge hX (tgt := 63) dX6_find_34 (by decide) ⟨by omega, by omega⟩ ⟨by omega, by omega⟩ (fun h2_ => ?_) (fun h2_ => ?_)
      ·
        refine v_iconst hX (v := iI (-1)) dX6_find_63 rfl ?_
        exact v_ireturn hX hE dX6_find_64 (by omega) (by omega) ⟨rfl, rfl, (-1), rfl, ⟨by omega, by omega⟩, (by omega)⟩
      ·
        refine v_aload_n hX dX6_find_37 (i := 0) rfl rfl ?_
        refine v_get hX (ci := 5) (k := 2) (cs_k_6 h) bc_5 (by decide) (by decide) in_5 w_1_79 dX6_find_38 (mvP (f := 502) (q := (x + 9)) rfl rfl (cs_p_502 h)) ?_
        refine v_iload_n hX dX6_find_41 (i := 3) rfl rfl ?_
        refine u_lald hX (L := 800) (cs_k_9 h) (cs_l_9 h) ⟨by omega, by omega⟩ (by decide) dX6_find_42 (fun v3_ e_v3_ b_v3_ => ?_)
        refine v_lload_n hX dX6_find_43 (i := 1) rfl rfl ?_
        refine u_lcmp hX dX6_find_44 ⟨by omega, by omega⟩ ⟨by omega, by omega⟩ (fun v4_ b_v4_ c_v4_ => ?_)
        refine u_if_ne hX (tgt := 50) dX6_find_45 (by decide) ⟨by omega, by omega⟩ (fun h5_ => ?_) (fun h5_ => ?_)
        ·
          refine v_aload_n hX dX6_find_50 (i := 0) rfl rfl ?_
          refine v_get hX (ci := 5) (k := 1) (cs_k_6 h) bc_5 (by decide) (by decide) in_5 w_1_78 dX6_find_51 (mvP (f := 501) (q := (x + 8)) rfl rfl (cs_p_501 h)) ?_
          refine v_iload_n hX dX6_find_54 (i := 3) rfl rfl ?_
          refine u_iald hX (L := 800) (cs_k_8 h) (cs_l_8 h) ⟨by omega, by omega⟩ (by decide) dX6_find_55 (fun v6_ e_v6_ b_v6_ => ?_)
          have g56_ := nk.2 id (by omega) (by omega)
          refine v_istore_n hX (lv' := [(3, .int (iI v6_)), (4, .int (iI k)), (0, .ref (x + 6)), (1, .long (jJ v))]) dX6_find_56 (i := 3) rfl (by rw [hnL]; decide) rfl ?_
          refine v_iinc hX (v := iI (k + 1)) (lv' := [(4, .int (iI (k + 1))), (3, .int (iI v6_)), (0, .ref (x + 6)), (1, .long (jJ v))]) dX6_find_57 rfl (iI_add _ _) (by rw [hnL]; decide) rfl ?_
          refine v_goto hX (tgt := 25) dX6_find_60 (by decide) ?_
          exact ih25 _ (by omega) (k + 1) v6_ (by omega) rfl
        ·
          refine v_iload_n hX dX6_find_48 (i := 3) rfl rfl ?_
          exact v_ireturn hX hE dX6_find_49 (by omega) (by omega) ⟨rfl, rfl, id, rfl, ⟨by omega, by omega⟩, (by omega)⟩
  change b_V X S z 0 0 0 [(0, .ref (x + 6)), (1, .long (jJ v))] []
  refine v_lload_n hX dX6_find_0 (i := 1) rfl rfl ?_
  refine v_lconst hX (v := jJ 0) dX6_find_1 rfl ?_
  refine u_lcmp hX dX6_find_2 ⟨by omega, by omega⟩ ⟨by omega, by omega⟩ (fun v7_ b_v7_ c_v7_ => ?_)
  refine u_if_le hX (tgt := 20) dX6_find_3 (by decide) ⟨by omega, by omega⟩ (fun h8_ => ?_) (fun h8_ => ?_)
  ·
    refine v_iconst hX (v := iI (-1)) dX6_find_20 rfl ?_
    refine v_istore_n hX (lv' := [(3, .int (iI (-1))), (0, .ref (x + 6)), (1, .long (jJ v))]) dX6_find_21 (i := 3) rfl (by rw [hnL]; decide) rfl ?_
    refine v_iconst hX (v := iI 0) dX6_find_22 rfl ?_
    refine v_istore hX (lv' := [(4, .int (iI 0)), (3, .int (iI (-1))), (0, .ref (x + 6)), (1, .long (jJ v))]) dX6_find_23 (by rw [hnL]; decide) rfl ?_
    exact L25 _ 0 (-1) (by omega) rfl
  ·
    refine v_aload_n hX dX6_find_6 (i := 0) rfl rfl ?_
    refine v_get hX (ci := 5) (k := 0) (cs_k_6 h) bc_5 (by decide) (by decide) in_5 w_1_77 dX6_find_7 (mvP (f := 500) (q := (x + 7)) rfl rfl (cs_p_500 h)) ?_
    refine v_lload_n hX dX6_find_10 (i := 1) rfl rfl ?_
    refine v_ldc2 hX (v := jJ 1021) dX6_find_11 (show Cond.constantLong _ _ (jJ 1021) ∈ b_Ws from w_4_117) ?_
    refine u_lrem hX dX6_find_14 ⟨by omega, by omega⟩ (by omega) ⟨by omega, by omega⟩ (by omega) ?_
    refine u_l2i hX dX6_find_15 ?_
    refine u_iald hX (L := 1021) (cs_k_7 h) (cs_l_7 h) ⟨by omega, by omega⟩ (by decide) dX6_find_16 (fun v9_ e_v9_ b_v9_ => ?_)
    have g17_ := nk.1 (v % 1021) (by omega) (by omega)
    refine v_goto hX (tgt := 21) dX6_find_17 (by decide) ?_
    refine v_istore_n hX (lv' := [(3, .int (iI v9_)), (0, .ref (x + 6)), (1, .long (jJ v))]) dX6_find_21 (i := 3) rfl (by rw [hnL]; decide) rfl ?_
    refine v_iconst hX (v := iI 0) dX6_find_22 rfl ?_
    refine v_istore hX (lv' := [(4, .int (iI 0)), (3, .int (iI v9_)), (0, .ref (x + 6)), (1, .long (jJ v))]) dX6_find_23 (by rw [hnL]; decide) rfl ?_
    exact L25 _ 0 v9_ (by omega) rfl
set_option maxRecDepth 100000 in
set_option maxHeartbeats 4000000 in
theorem t_N_join {kn : Nat → Nat} {B : Nat} {S : b_M} {z x w : Nat} {id : Int} {v : Int} (h : cS S x) (b_id : -2147483648 ≤ id ∧ id < 2147483648) (b_v : -9223372036854775808 ≤ v ∧ v < 9223372036854775808) (nk : nOk S x) (p : 0 ≤ id ∧ id < 800) : b_C kn B yX6_join cX6_join 5 none 1 23 0 0 [.ref (x + 6), .int (iI id), .long (jJ v)] S z (fun r S' z' => z = z' ∧ cFr [] [] [7, 8, 10] w S S' x ∧ r = none ∧ (True) ∧ (nOk S' x)) (fun _ _ _ => False) := by
  refine b_enter (by decide) (Nat.le_of_ble_eq_true rfl) ?_
  intro X hX hE hnL hkn hB hI_
  subst hkn; subst hB
  clear hI_
  change b_V X S z 0 0 0 [(0, .ref (x + 6)), (1, .int (iI id)), (2, .long (jJ v))] []
  refine v_lload_n hX dX6_join_0 (i := 2) rfl rfl ?_
  refine v_lconst hX (v := jJ 0) dX6_join_1 rfl ?_
  refine u_mmaxL hX w_4_215 w_4_216 w_1_15 w_4_217 (by decide) (Nat.le_of_ble_eq_true rfl) (by omega) (by omega) ⟨by omega, by omega⟩ ⟨by omega, by omega⟩ dX6_join_2 (fun v1_ q_v1_ b_v1_ => ?_)
  refine v_ldc2 hX (v := jJ 1021) dX6_join_5 (show Cond.constantLong _ _ (jJ 1021) ∈ b_Ws from w_4_117) ?_
  refine u_lrem hX dX6_join_8 ⟨by omega, by omega⟩ (by omega) ⟨by omega, by omega⟩ (by omega) ?_
  refine u_l2i hX dX6_join_9 ?_
  refine v_istore hX (lv' := [(4, .int (iI (v1_ % 1021))), (0, .ref (x + 6)), (1, .int (iI id)), (2, .long (jJ v))]) dX6_join_10 (by rw [hnL]; decide) rfl ?_
  refine v_aload_n hX dX6_join_12 (i := 0) rfl rfl ?_
  refine v_get hX (ci := 5) (k := 2) (cs_k_6 h) bc_5 (by decide) (by decide) in_5 w_1_79 dX6_join_13 (mvP (f := 502) (q := (x + 9)) rfl rfl (cs_p_502 h)) ?_
  refine v_iload_n hX dX6_join_16 (i := 1) rfl rfl ?_
  refine v_lload_n hX dX6_join_17 (i := 2) rfl rfl ?_
  refine u_last hX (L := 800) (cs_k_9 h) (cs_l_9 h) ⟨by omega, by omega⟩ (by decide) dX6_join_18 ?_
  refine v_aload_n hX dX6_join_19 (i := 0) rfl rfl ?_
  refine v_get hX (ci := 5) (k := 3) (cs_k_6 (cS.sB h)) bc_5 (by decide) (by decide) in_5 w_1_80 dX6_join_20 (mvP (f := 503) (q := (x + 10)) rfl rfl (cs_p_503 (cS.sB h))) ?_
  refine v_iload_n hX dX6_join_23 (i := 1) rfl rfl ?_
  refine v_iconst hX (v := iI 0) dX6_join_24 rfl ?_
  refine u_iast hX (L := 800) (cs_k_10 (cS.sB h)) (cs_l_10 (cS.sB h)) ⟨by omega, by omega⟩ (by decide) dX6_join_25 ?_
  refine v_aload_n hX dX6_join_26 (i := 0) rfl rfl ?_
  refine v_get hX (ci := 5) (k := 1) (cs_k_6 (cS.sA (cS.sB h))) bc_5 (by decide) (by decide) in_5 w_1_78 dX6_join_27 (mvP (f := 501) (q := (x + 8)) rfl rfl (cs_p_501 (cS.sA (cS.sB h)))) ?_
  refine v_iload_n hX dX6_join_30 (i := 1) rfl rfl ?_
  refine v_aload_n hX dX6_join_31 (i := 0) rfl rfl ?_
  refine v_get hX (ci := 5) (k := 0) (cs_k_6 (cS.sA (cS.sB h))) bc_5 (by decide) (by decide) in_5 w_1_77 dX6_join_32 (mvP (f := 500) (q := (x + 7)) rfl rfl (cs_p_500 (cS.sA (cS.sB h)))) ?_
  refine v_iload hX dX6_join_35 rfl ?_
  refine u_iald hX (L := 1021) (cs_k_7 (cS.sA (cS.sB h))) (cs_l_7 (cS.sA (cS.sB h))) ⟨by omega, by omega⟩ (by decide) dX6_join_37 (fun v2_ e_v2_ b_v2_ => ?_)
  try simp (disch := omega) only [zr_I, zr_J, zr_B, rA_A, zl_I, zl_J, zl_A, lA_B, zr_P] at e_v2_
  have g38_ := nk.1 (v1_ % 1021) (by omega) (by omega)
  refine u_iast hX (L := 800) (cs_k_8 (cS.sA (cS.sB h))) (cs_l_8 (cS.sA (cS.sB h))) ⟨by omega, by omega⟩ (by decide) dX6_join_38 ?_
  refine v_aload_n hX dX6_join_39 (i := 0) rfl rfl ?_
  refine v_get hX (ci := 5) (k := 0) (cs_k_6 (cS.sA (cS.sA (cS.sB h)))) bc_5 (by decide) (by decide) in_5 w_1_77 dX6_join_40 (mvP (f := 500) (q := (x + 7)) rfl rfl (cs_p_500 (cS.sA (cS.sA (cS.sB h))))) ?_
  refine v_iload hX dX6_join_43 rfl ?_
  refine v_iload_n hX dX6_join_45 (i := 1) rfl rfl ?_
  refine u_iast hX (L := 1021) (cs_k_7 (cS.sA (cS.sA (cS.sB h)))) (cs_l_7 (cS.sA (cS.sA (cS.sB h)))) ⟨by omega, by omega⟩ (by decide) dX6_join_46 ?_
  have nk9 : nOk (s_A (s_A (s_A (s_B S (x + 9) id.toNat (jJ v)) (x + 10) id.toNat (iI 0)) (x + 8) id.toNat (iI v2_)) (x + 7) (v1_ % 1021).toNat (iI id)) x := by
    refine ⟨fun i a b => ?_, fun i a b => ?_⟩
    · by_cases g : i = (v1_ % 1021)
      · simp (disch := omega) only [zr_I, zr_J, zr_B, rA_A, zl_I, zl_J, zl_A, lA_B, zr_P, rA_y]; omega
      · simp (disch := omega) only [zr_I, zr_J, zr_B, rA_A, zl_I, zl_J, zl_A, lA_B, zr_P, rA_x]; exact nk.1 i a b
    · by_cases g : i = id
      · simp (disch := omega) only [zr_I, zr_J, zr_B, rA_A, zl_I, zl_J, zl_A, lA_B, zr_P, rA_y]; omega
      · simp (disch := omega) only [zr_I, zr_J, zr_B, rA_A, zl_I, zl_J, zl_A, lA_B, zr_P, rA_x]; exact nk.2 i a b
  exact v_return hX hE dX6_join_47 (by omega) (by omega) ⟨rfl, (((((cFr.rf _ _).sB (Or.inl ⟨by omega, by omega⟩)).sA (by decide) (by decide) (cs_k_10 (cS.sB h))).sA (by decide) (by decide) (cs_k_8 (cS.sA (cS.sB h)))).sA (by decide) (by decide) (cs_k_7 (cS.sA (cS.sA (cS.sB h))))), rfl, trivial, nk9⟩
set_option maxRecDepth 100000 in
set_option maxHeartbeats 4000000 in
theorem t_N_addLabel {kn : Nat → Nat} {B : Nat} {S : b_M} {z x w : Nat} {v : Int} {la : Int} (h : cS S x) (e_la : m_I S 504 (x + 6) = iI la) (b_la : -2147483648 ≤ la ∧ la < 2147483648) (b_v : -9223372036854775808 ≤ v ∧ v < 9223372036854775808) (nk : nOk S x) (p : 0 ≤ la ∧ la ≤ 400) : b_C kn B yX6_addLabel cX6_addLabel 3 (some .int) 2 47 0 0 [.ref (x + 6), .long (jJ v)] S z (fun r S' z' => z = z' ∧ cFr [504] [] [7, 8, 10] w S S' x ∧ ∃ q l1 : Int, r = some (.int (iI q)) ∧ (-2147483648 ≤ q ∧ q < 2147483648) ∧ m_I S' 504 (x + 6) = iI l1 ∧ (-2147483648 ≤ l1 ∧ l1 < 2147483648) ∧ (0 ≤ l1 ∧ l1 ≤ 400 ∧ -1 ≤ q ∧ q < 400) ∧ (nOk S' x)) (fun _ _ _ => False) := by
  refine b_enter (by decide) (Nat.le_of_ble_eq_true rfl) ?_
  intro X hX hE hnL hkn hB hI_
  subst hkn; subst hB
  clear hI_
  change b_V X S z 0 0 0 [(0, .ref (x + 6)), (1, .long (jJ v))] []
  refine v_aload_n hX dX6_addLabel_0 (i := 0) rfl rfl ?_
  refine v_get hX (ci := 5) (k := 4) (cs_k_6 h) bc_5 (by decide) (by decide) in_5 w_1_81 dX6_addLabel_1 (mvF (f := 504) (v := iI la) rfl rfl (by simp (disch := omega) only [y_I_s_I, x_I_s_I, z_I_s_J, z_I_s_A, z_I_s_B, z_I_s_P, e_la])) ?_
  refine v_sipush hX (v := iI 400) dX6_addLabel_4 (by decide) ?_
  refine u_icmp_lt hX (tgt := 12) dX6_addLabel_7 (by decide) ⟨by omega, by omega⟩ ⟨by omega, by omega⟩ (fun h1_ => ?_) (fun h1_ => ?_)
  ·
    refine v_aload_n hX dX6_addLabel_12 (i := 0) rfl rfl ?_
    refine v_dup hX dX6_addLabel_13 rfl ?_
    refine v_get hX (ci := 5) (k := 4) (cs_k_6 h) bc_5 (by decide) (by decide) in_5 w_1_81 dX6_addLabel_14 (mvF (f := 504) (v := iI la) rfl rfl (by simp (disch := omega) only [y_I_s_I, x_I_s_I, z_I_s_J, z_I_s_A, z_I_s_B, z_I_s_P, e_la])) ?_
    refine v_iconst hX (v := iI 1) dX6_addLabel_17 rfl ?_
    refine u_iadd hX dX6_addLabel_18 ?_
    refine v_putI hX (ci := 5) (k := 4) (f := 504) (cs_k_6 h) bc_5 (by decide) (by decide) in_5 tyX6_ok nmX6 w_1_81 (Or.inl rfl) rfl rfl dX6_addLabel_19 rfl rfl ?_
    refine v_aload_n hX dX6_addLabel_22 (i := 0) rfl rfl ?_
    refine v_aload_n hX dX6_addLabel_23 (i := 0) rfl rfl ?_
    refine v_get hX (ci := 5) (k := 4) (cs_k_6 (cS.sI h)) bc_5 (by decide) (by decide) in_5 w_1_81 dX6_addLabel_24 (mvF (f := 504) (v := iI (la + 1)) rfl rfl (by simp (disch := omega) only [y_I_s_I, x_I_s_I, z_I_s_J, z_I_s_A, z_I_s_B, z_I_s_P, e_la])) ?_
    refine v_iconst hX (v := iI 1) dX6_addLabel_27 rfl ?_
    refine u_isub hX dX6_addLabel_28 ?_
    refine v_lload_n hX dX6_addLabel_29 (i := 1) rfl rfl ?_
    refine v_callV hX (n := 2) (t_N_join (S := (s_I S 504 (x + 6) (iI (la + 1)))) (x := x) (w := w) (id := ((la + 1) - 1)) (v := v) (cS.sI h) ⟨by omega, by omega⟩ ⟨by omega, by omega⟩ (nk) (by omega)) (cs_k_6 (cS.sI h)) bc_5 (by decide) w_4_211 w_4_213 (bw_p (q := (yX6_join, 6)) (List.mem_of_getElem? (i := 26) rfl) rfl) w_1_4 w_4_214 (by decide +kernel) rfl ⟨by decide, by decide⟩ ⟨by omega, by omega⟩ (Nat.le_of_ble_eq_true rfl) rfl dX6_addLabel_30 (fun _ _ _ q => q) ?_
    rintro r2_ S2_ z2_ ⟨rfl, f2_, rfl, q2_, q2_0⟩
    have y3_ : m_I S2_ 504 (x + 6) = iI (la + 1) := (f2_.2.1 504 (by decide) _).trans (by simp (disch := omega) only [y_I_s_I, x_I_s_I, z_I_s_J, z_I_s_A, z_I_s_B, z_I_s_P, e_la])
    have h2_ : cS S2_ x := f2_.keep (by decide) (cS.sI h)
    refine v_aload_n hX dX6_addLabel_33 (i := 0) rfl rfl ?_
    refine v_get hX (ci := 5) (k := 4) (cs_k_6 h2_) bc_5 (by decide) (by decide) in_5 w_1_81 dX6_addLabel_34 (mvF (f := 504) (v := iI (la + 1)) rfl rfl (by simp (disch := omega) only [y_I_s_I, x_I_s_I, z_I_s_J, z_I_s_A, z_I_s_B, z_I_s_P, y3_])) ?_
    refine v_iconst hX (v := iI 1) dX6_addLabel_37 rfl ?_
    refine u_isub hX dX6_addLabel_38 ?_
    exact v_ireturn hX hE dX6_addLabel_39 (by omega) (by omega) ⟨rfl, (((cFr.rf _ _).sI (by decide) ⟨by omega, by omega⟩).tr (f2_.mono (by decide) (by decide) (by decide))), ((la + 1) - 1), (la + 1), rfl, ⟨by omega, by omega⟩, (by simp (disch := omega) only [y_I_s_I, x_I_s_I, z_I_s_J, z_I_s_A, z_I_s_B, z_I_s_P, y3_]), ⟨by omega, by omega⟩, (by omega), q2_0⟩
  ·
    refine v_iconst hX (v := iI (-1)) dX6_addLabel_10 rfl ?_
    exact v_ireturn hX hE dX6_addLabel_11 (by omega) (by omega) ⟨rfl, (cFr.rf _ _), (-1), la, rfl, ⟨by omega, by omega⟩, (by simp (disch := omega) only [y_I_s_I, x_I_s_I, z_I_s_J, z_I_s_A, z_I_s_B, z_I_s_P, e_la]), ⟨by omega, by omega⟩, (by omega), nk⟩
set_option maxRecDepth 100000 in
set_option maxHeartbeats 4000000 in
theorem t_N_addSet {kn : Nat → Nat} {B : Nat} {S : b_M} {z x w : Nat} {v : Int} {val : Int} {se : Int} (h : cS S x) (e_se : m_I S 505 (x + 6) = iI se) (b_se : -2147483648 ≤ se ∧ se < 2147483648) (b_v : -9223372036854775808 ≤ v ∧ v < 9223372036854775808) (b_val : -2147483648 ≤ val ∧ val < 2147483648) (nk : nOk S x) (p : 0 ≤ se ∧ se ≤ 400) : b_C kn B yX6_addSet cX6_addSet 4 none 2 47 0 0 [.ref (x + 6), .long (jJ v), .int (iI val)] S z (fun r S' z' => z = z' ∧ cFr [505] [] [7, 8, 10] w S S' x ∧ ∃ s1 : Int, r = none ∧ m_I S' 505 (x + 6) = iI s1 ∧ (-2147483648 ≤ s1 ∧ s1 < 2147483648) ∧ (0 ≤ s1 ∧ s1 ≤ 400) ∧ (nOk S' x)) (fun _ _ _ => False) := by
  refine b_enter (by decide) (Nat.le_of_ble_eq_true rfl) ?_
  intro X hX hE hnL hkn hB hI_
  subst hkn; subst hB
  clear hI_
  change b_V X S z 0 0 0 [(0, .ref (x + 6)), (1, .long (jJ v)), (3, .int (iI val))] []
  refine v_aload_n hX dX6_addSet_0 (i := 0) rfl rfl ?_
  refine v_get hX (ci := 5) (k := 5) (cs_k_6 h) bc_5 (by decide) (by decide) in_5 w_1_83 dX6_addSet_1 (mvF (f := 505) (v := iI se) rfl rfl (by simp (disch := omega) only [y_I_s_I, x_I_s_I, z_I_s_J, z_I_s_A, z_I_s_B, z_I_s_P, e_se])) ?_
  refine v_sipush hX (v := iI 400) dX6_addSet_4 (by decide) ?_
  refine u_icmp_ge hX (tgt := 47) dX6_addSet_7 (by decide) ⟨by omega, by omega⟩ ⟨by omega, by omega⟩ (fun h1_ => ?_) (fun h1_ => ?_)
  ·
    exact v_return hX hE dX6_addSet_47 (by omega) (by omega) ⟨rfl, (cFr.rf _ _), se, rfl, (by simp (disch := omega) only [y_I_s_I, x_I_s_I, z_I_s_J, z_I_s_A, z_I_s_B, z_I_s_P, e_se]), ⟨by omega, by omega⟩, (by omega), nk⟩
  ·
    refine v_aload_n hX dX6_addSet_10 (i := 0) rfl rfl ?_
    refine v_sipush hX (v := iI 400) dX6_addSet_11 (by decide) ?_
    refine v_aload_n hX dX6_addSet_14 (i := 0) rfl rfl ?_
    refine v_get hX (ci := 5) (k := 5) (cs_k_6 h) bc_5 (by decide) (by decide) in_5 w_1_83 dX6_addSet_15 (mvF (f := 505) (v := iI se) rfl rfl (by simp (disch := omega) only [y_I_s_I, x_I_s_I, z_I_s_J, z_I_s_A, z_I_s_B, z_I_s_P, e_se])) ?_
    refine u_iadd hX dX6_addSet_18 ?_
    refine v_lload_n hX dX6_addSet_19 (i := 1) rfl rfl ?_
    refine v_callV hX (n := 2) (t_N_join (S := S) (x := x) (w := w) (id := (400 + se)) (v := v) h ⟨by omega, by omega⟩ ⟨by omega, by omega⟩ (nk) (by omega)) (cs_k_6 h) bc_5 (by decide) w_4_211 w_4_213 (bw_p (q := (yX6_join, 6)) (List.mem_of_getElem? (i := 26) rfl) rfl) w_1_4 w_4_214 (by decide +kernel) rfl ⟨by decide, by decide⟩ ⟨by omega, by omega⟩ (Nat.le_of_ble_eq_true rfl) rfl dX6_addSet_20 (fun _ _ _ q => q) ?_
    rintro r2_ S2_ z2_ ⟨rfl, f2_, rfl, q2_, q2_0⟩
    have y3_ : m_I S2_ 505 (x + 6) = iI se := (f2_.2.1 505 (by decide) _).trans (by simp (disch := omega) only [y_I_s_I, x_I_s_I, z_I_s_J, z_I_s_A, z_I_s_B, z_I_s_P, e_se])
    have h2_ : cS S2_ x := f2_.keep (by decide) h
    refine v_aload_n hX dX6_addSet_23 (i := 0) rfl rfl ?_
    refine v_get hX (ci := 5) (k := 3) (cs_k_6 h2_) bc_5 (by decide) (by decide) in_5 w_1_80 dX6_addSet_24 (mvP (f := 503) (q := (x + 10)) rfl rfl (cs_p_503 h2_)) ?_
    refine v_sipush hX (v := iI 400) dX6_addSet_27 (by decide) ?_
    refine v_aload_n hX dX6_addSet_30 (i := 0) rfl rfl ?_
    refine v_get hX (ci := 5) (k := 5) (cs_k_6 h2_) bc_5 (by decide) (by decide) in_5 w_1_83 dX6_addSet_31 (mvF (f := 505) (v := iI se) rfl rfl (by simp (disch := omega) only [y_I_s_I, x_I_s_I, z_I_s_J, z_I_s_A, z_I_s_B, z_I_s_P, y3_])) ?_
    refine u_iadd hX dX6_addSet_34 ?_
    refine v_iload_n hX dX6_addSet_35 (i := 3) rfl rfl ?_
    refine u_iast hX (L := 800) (cs_k_10 h2_) (cs_l_10 h2_) ⟨by omega, by omega⟩ (by decide) dX6_addSet_36 ?_
    refine v_aload_n hX dX6_addSet_37 (i := 0) rfl rfl ?_
    refine v_dup hX dX6_addSet_38 rfl ?_
    refine v_get hX (ci := 5) (k := 5) (cs_k_6 (cS.sA h2_)) bc_5 (by decide) (by decide) in_5 w_1_83 dX6_addSet_39 (mvF (f := 505) (v := iI se) rfl rfl (by simp (disch := omega) only [y_I_s_I, x_I_s_I, z_I_s_J, z_I_s_A, z_I_s_B, z_I_s_P, y3_])) ?_
    refine v_iconst hX (v := iI 1) dX6_addSet_42 rfl ?_
    refine u_iadd hX dX6_addSet_43 ?_
    refine v_putI hX (ci := 5) (k := 5) (f := 505) (cs_k_6 (cS.sA h2_)) bc_5 (by decide) (by decide) in_5 tyX6_ok nmX6 w_1_83 (Or.inl rfl) rfl rfl dX6_addSet_44 rfl rfl ?_
    exact v_return hX hE dX6_addSet_47 (by omega) (by omega) ⟨rfl, ((((cFr.rf _ _).tr (f2_.mono (by decide) (by decide) (by decide))).sA (by decide) (by decide) (cs_k_10 h2_)).sI (by decide) ⟨by omega, by omega⟩), (se + 1), rfl, (by simp (disch := omega) only [y_I_s_I, x_I_s_I, z_I_s_J, z_I_s_A, z_I_s_B, z_I_s_P, y3_]), ⟨by omega, by omega⟩, (by omega), (⟨fun i a b => by simp (disch := omega) only [zr_I, zr_J, zr_B, rA_A, zl_I, zl_J, zl_A, lA_B, zr_P]; exact q2_0.1 i a b, fun i a b => by simp (disch := omega) only [zr_I, zr_J, zr_B, rA_A, zl_I, zl_J, zl_A, lA_B, zr_P]; exact q2_0.2 i a b⟩)⟩
