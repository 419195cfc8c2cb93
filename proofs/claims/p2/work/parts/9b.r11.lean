/-- the words of statement s -/
def wd (S : b_M) (x : Nat) (s : Int) : Int := if rAt S (x + 18) s = 0 then 0 else if rAt S (x + 18) s = 8 then rAt S (x + 21) s else if rAt S (x + 18) s = 9 then rAt S (x + 23) s else if rAt S (x + 18) s = 10 then lc S x s else if rAt S (x + 25) s = 0 then 1 else 2
theorem wd_any (S : b_M) (x : Nat) (s : Int) : (rAt S (x + 18) s = 0 ∧ wd S x s = 0) ∨ (rAt S (x + 18) s = 8 ∧ wd S x s = rAt S (x + 21) s) ∨ (rAt S (x + 18) s = 9 ∧ wd S x s = rAt S (x + 23) s) ∨ (rAt S (x + 18) s = 10 ∧ wd S x s = lc S x s) ∨ (rAt S (x + 18) s ≠ 0 ∧ rAt S (x + 18) s ≠ 8 ∧ rAt S (x + 18) s ≠ 9 ∧ rAt S (x + 18) s ≠ 10 ∧ ((rAt S (x + 25) s = 0 ∧ wd S x s = 1) ∨ (rAt S (x + 25) s ≠ 0 ∧ wd S x s = 2))) := by
  unfold wd
  by_cases h1 : rAt S (x + 18) s = 0
  · exact Or.inl ⟨h1, by rw [if_pos h1]⟩
  · by_cases h2 : rAt S (x + 18) s = 8
    · exact Or.inr (Or.inl ⟨h2, by rw [if_neg h1, if_pos h2]⟩)
    · by_cases h3 : rAt S (x + 18) s = 9
      · exact Or.inr (Or.inr (Or.inl ⟨h3, by rw [if_neg h1, if_neg h2, if_pos h3]⟩))
      · by_cases h4 : rAt S (x + 18) s = 10
        · exact Or.inr (Or.inr (Or.inr (Or.inl ⟨h4, by rw [if_neg h1, if_neg h2, if_neg h3, if_pos h4]⟩)))
        · refine Or.inr (Or.inr (Or.inr (Or.inr ⟨h1, h2, h3, h4, ?_⟩)))
          rw [if_neg h1, if_neg h2, if_neg h3, if_neg h4]
          by_cases h5 : rAt S (x + 25) s = 0
          · exact Or.inl ⟨h5, by rw [if_pos h5]⟩
          · exact Or.inr ⟨h5, by rw [if_neg h5]⟩
theorem wd_c {S S1 : b_M} {x : Nat} (h1 : ∀ i, rAt S1 (x + 18) i = rAt S (x + 18) i) (h2 : ∀ i, rAt S1 (x + 21) i = rAt S (x + 21) i) (h3 : ∀ i, rAt S1 (x + 23) i = rAt S (x + 23) i) (h4 : ∀ i, rAt S1 (x + 25) i = rAt S (x + 25) i) (i : Int) : wd S1 x i = wd S x i := by
  unfold wd
  rw [h1, h2, h3, h4, lc_c h1]
/-- the words of the first n statements -/
def wsn (S : b_M) (x : Nat) : Nat → Int
  | 0 => 0
  | n + 1 => wsn S x n + wd S x (n : Int)
def ws (S : b_M) (x : Nat) (i : Int) : Int := wsn S x i.toNat
theorem ws_z {S : b_M} {x : Nat} {i : Int} (h : i ≤ 0) : ws S x i = 0 := by
  unfold ws
  rw [show i.toNat = 0 by omega]
  rfl
theorem ws_s {S : b_M} {x : Nat} {i : Int} (h : 0 ≤ i) : ws S x (i + 1) = ws S x i + wd S x i := by
  unfold ws
  rw [show (i + 1).toNat = i.toNat + 1 by omega]
  show wsn S x i.toNat + wd S x ((i.toNat : Nat) : Int) = _
  rw [show ((i.toNat : Nat) : Int) = i by omega]
set_option maxRecDepth 100000 in
set_option maxHeartbeats 4000000 in
theorem k_wordsOf2 {kn : Nat → Nat} {B : Nat} {S : b_M} {z x : Nat} {sx : Int} (h : mS S x) (b_sx : -2147483648 ≤ sx ∧ sx < 2147483648) (p : 0 ≤ sx ∧ sx < 400 ∧ 0 ≤ rAt S (x + 21) sx ∧ rAt S (x + 21) sx ≤ 8 ∧ 0 ≤ rAt S (x + 23) sx ∧ rAt S (x + 23) sx ≤ 1000) : b_C kn B yX13_wordsOf cX13_wordsOf 3 (some .int) 1 23 0 0 [.ref x, .int (iI sx)] S z (fun r S' z' => z = z' ∧ S = S' ∧ ∃ q : Int, r = some (.int (iI q)) ∧ (-2147483648 ≤ q ∧ q < 2147483648) ∧ (q = wd S x sx ∧ 0 ≤ q ∧ q ≤ 1000)) (fun _ _ _ => False) := by
  refine b_enter (by decide) (Nat.le_of_ble_eq_true rfl) ?_
  intro X hX hE hnL hkn hB hI_
  subst hkn; subst hB
  clear hI_
  change b_V X S z 0 0 0 [(0, .ref x), (1, .int (iI sx))] []
  have gw_ := wd_any S x sx
  refine v_aload_n hX dX13_wordsOf_0 (i := 0) rfl rfl ?_
  refine v_get hX (ci := 11) (k := 30) (ms_kx h) bc_11 (by decide) (by decide) in_11 w_6_6 dX13_wordsOf_1 (mvP (f := 1130) (q := (x + 18)) rfl rfl (ms_p_1130 h)) ?_
  refine v_iload_n hX dX13_wordsOf_4 (i := 1) rfl rfl ?_
  refine u_iald hX (L := 400) (ms_k_1130 h) (ms_l_1130 h) ⟨by omega, by omega⟩ (by decide) dX13_wordsOf_5 (fun v1_ e_v1_ b_v1_ => ?_)
  refine v_istore_n hX (lv' := [(2, .int (iI v1_)), (0, .ref x), (1, .int (iI sx))]) dX13_wordsOf_6 (i := 2) rfl (by rw [hnL]; decide) rfl ?_
  refine v_iload_n hX dX13_wordsOf_7 (i := 2) rfl rfl ?_
  refine u_if_ne hX (tgt := 15) dX13_wordsOf_8 (by decide) ⟨by omega, by omega⟩ (fun h2_ => ?_) (fun h2_ => ?_)
  ·
    refine v_iload_n hX dX13_wordsOf_15 (i := 2) rfl rfl ?_
    refine v_bipush hX (v := iI 8) dX13_wordsOf_16 (by decide) ?_
    refine u_icmp_ne hX (tgt := 30) dX13_wordsOf_18 (by decide) ⟨by omega, by omega⟩ ⟨by omega, by omega⟩ (fun h3_ => ?_) (fun h3_ => ?_)
    ·
      refine v_iload_n hX dX13_wordsOf_30 (i := 2) rfl rfl ?_
      refine v_bipush hX (v := iI 9) dX13_wordsOf_31 (by decide) ?_
      refine u_icmp_ne hX (tgt := 45) dX13_wordsOf_33 (by decide) ⟨by omega, by omega⟩ ⟨by omega, by omega⟩ (fun h4_ => ?_) (fun h4_ => ?_)
      ·
        refine v_iload_n hX dX13_wordsOf_45 (i := 2) rfl rfl ?_
        refine v_bipush hX (v := iI 10) dX13_wordsOf_46 (by decide) ?_
        refine u_icmp_ne hX (tgt := 59) dX13_wordsOf_48 (by decide) ⟨by omega, by omega⟩ ⟨by omega, by omega⟩ (fun h5_ => ?_) (fun h5_ => ?_)
        ·
          refine v_aload_n hX dX13_wordsOf_59 (i := 0) rfl rfl ?_
          refine v_get hX (ci := 11) (k := 37) (ms_kx h) bc_11 (by decide) (by decide) in_11 w_6_13 dX13_wordsOf_60 (mvP (f := 1137) (q := (x + 25)) rfl rfl (ms_p_1137 h)) ?_
          refine v_iload_n hX dX13_wordsOf_63 (i := 1) rfl rfl ?_
          refine u_zald hX (L := 400) (ms_k_1137 h) (ms_l_1137 h) ⟨by omega, by omega⟩ (by decide) dX13_wordsOf_64 (fun v6_ e_v6_ b_v6_ => ?_)
          refine u_if_eq hX (tgt := 72) dX13_wordsOf_65 (by decide) ⟨by omega, by omega⟩ (fun h7_ => ?_) (fun h7_ => ?_)
          ·
            refine v_iconst hX (v := iI 1) dX13_wordsOf_72 rfl ?_
            exact v_ireturn hX hE dX13_wordsOf_73 (by omega) (by omega) ⟨rfl, rfl, 1, rfl, ⟨by omega, by omega⟩, (by omega)⟩
          ·
            refine v_iconst hX (v := iI 2) dX13_wordsOf_68 rfl ?_
            refine v_goto hX (tgt := 73) dX13_wordsOf_69 (by decide) ?_
            exact v_ireturn hX hE dX13_wordsOf_73 (by omega) (by omega) ⟨rfl, rfl, 2, rfl, ⟨by omega, by omega⟩, (by omega)⟩
        ·
          refine v_aload_n hX dX13_wordsOf_51 (i := 0) rfl rfl ?_
          refine v_iload_n hX dX13_wordsOf_52 (i := 1) rfl rfl ?_
          refine v_callV hX (n := 1) (k_literalsBefore2 (S := S) (x := x) (sx := sx) h ⟨by omega, by omega⟩ (by omega)) (ms_kx h) bc_11 (by decide) w_7_170 w_7_172 (bw_p (q := (yX13_literalsBefore, 72)) (List.mem_of_getElem? (i := 83) rfl) rfl) w_1_16 w_7_173 (by decide +kernel) rfl ⟨by decide, by decide⟩ ⟨by omega, by omega⟩ (Nat.le_of_ble_eq_true rfl) rfl dX13_wordsOf_53 (fun _ _ _ q => q) ?_
          rintro r8_ S8_ z8_ ⟨rfl, rfl, v9_, rfl, b_v9_, q8_⟩
          refine v_goto hX (tgt := 73) dX13_wordsOf_56 (by decide) ?_
          exact v_ireturn hX hE dX13_wordsOf_73 (by omega) (by omega) ⟨rfl, rfl, v9_, rfl, ⟨by omega, by omega⟩, (by omega)⟩
      ·
        refine v_aload_n hX dX13_wordsOf_36 (i := 0) rfl rfl ?_
        refine v_get hX (ci := 11) (k := 35) (ms_kx h) bc_11 (by decide) (by decide) in_11 w_6_11 dX13_wordsOf_37 (mvP (f := 1135) (q := (x + 23)) rfl rfl (ms_p_1135 h)) ?_
        refine v_iload_n hX dX13_wordsOf_40 (i := 1) rfl rfl ?_
        refine u_iald hX (L := 400) (ms_k_1135 h) (ms_l_1135 h) ⟨by omega, by omega⟩ (by decide) dX13_wordsOf_41 (fun v10_ e_v10_ b_v10_ => ?_)
        refine v_goto hX (tgt := 73) dX13_wordsOf_42 (by decide) ?_
        exact v_ireturn hX hE dX13_wordsOf_73 (by omega) (by omega) ⟨rfl, rfl, v10_, rfl, ⟨by omega, by omega⟩, (by omega)⟩
    ·
      refine v_aload_n hX dX13_wordsOf_21 (i := 0) rfl rfl ?_
      refine v_get hX (ci := 11) (k := 33) (ms_kx h) bc_11 (by decide) (by decide) in_11 w_6_9 dX13_wordsOf_22 (mvP (f := 1133) (q := (x + 21)) rfl rfl (ms_p_1133 h)) ?_
      refine v_iload_n hX dX13_wordsOf_25 (i := 1) rfl rfl ?_
      refine u_iald hX (L := 400) (ms_k_1133 h) (ms_l_1133 h) ⟨by omega, by omega⟩ (by decide) dX13_wordsOf_26 (fun v11_ e_v11_ b_v11_ => ?_)
      refine v_goto hX (tgt := 73) dX13_wordsOf_27 (by decide) ?_
      exact v_ireturn hX hE dX13_wordsOf_73 (by omega) (by omega) ⟨rfl, rfl, v11_, rfl, ⟨by omega, by omega⟩, (by omega)⟩
  ·
    refine v_iconst hX (v := iI 0) dX13_wordsOf_11 rfl ?_
    refine v_goto hX (tgt := 73) dX13_wordsOf_12 (by decide) ?_
    exact v_ireturn hX hE dX13_wordsOf_73 (by omega) (by omega) ⟨rfl, rfl, 0, rfl, ⟨by omega, by omega⟩, (by omega)⟩
set_option maxRecDepth 100000 in
set_option maxHeartbeats 4000000 in
theorem k_findPlaces {kn : Nat → Nat} {B : Nat} {S : b_M} {z x : Nat} {st_ : Int} (h : mS S x) (e_st_ : m_I S 1128 x = iI st_) (b_st_ : -2147483648 ≤ st_ ∧ st_ < 2147483648) (mo : ∀ j : Int, 0 ≤ j → j < st_ → 0 ≤ rAt S (x + 21) j ∧ rAt S (x + 21) j ≤ 8 ∧ 0 ≤ rAt S (x + 23) j ∧ rAt S (x + 23) j ≤ 1000) (p : 0 ≤ st_ ∧ st_ ≤ 400) : b_C kn B yX13_findPlaces cX13_findPlaces 3 none 2 45 0 0 [.ref x] S z (fun r S' z' => z = z' ∧ mFr [1160] [] [26] S S' x ∧ ∃ e1 : Int, r = none ∧ m_I S' 1160 x = iI e1 ∧ (-2147483648 ≤ e1 ∧ e1 < 2147483648) ∧ (e1 = ws S x st_ + lc S x st_) ∧ (∀ j : Int, 0 ≤ j → j < st_ → rAt S' (x + 26) j = ws S x j)) (fun _ _ _ => False) := by
  refine b_enter (by decide) (Nat.le_of_ble_eq_true rfl) ?_
  intro X hX hE hnL hkn hB hI_
  subst hkn; subst hB
  clear hI_
  have L4 : ∀ (n4 : Nat) (S4c : b_M) (i : Int) (p0 : Int), mFr [1160] [] [26] S S4c x → (0 ≤ i ∧ i ≤ st_ ∧ p0 = ws S x i ∧ 0 ≤ p0 ∧ p0 ≤ 1000 * i) → (∀ j : Int, 0 ≤ j → j < i → rAt S4c (x + 26) j = ws S x j) → (st_ - i).toNat = n4 → b_V X S4c z 0 0 4 [(2, .int (iI i)), (1, .int (iI p0)), (0, .ref x)] [] := by
    intro n4
    induction n4 using Nat.strongRecOn with
    | _ n4 ih4 =>
    intro S4c i p0 fr4 p4_0 p4_1 hm4
    have h4c : mS S4c x := fr4.keep h
    have hc4_18 : ∀ i, rAt S4c (x + 18) i = rAt S (x + 18) i := fun i => (fr4.1 (x + 18) (by omega) (by intro j hj; simp only [List.mem_cons, List.not_mem_nil, or_false] at hj; omega)).rA i
    have hc4_21 : ∀ i, rAt S4c (x + 21) i = rAt S (x + 21) i := fun i => (fr4.1 (x + 21) (by omega) (by intro j hj; simp only [List.mem_cons, List.not_mem_nil, or_false] at hj; omega)).rA i
    have hc4_23 : ∀ i, rAt S4c (x + 23) i = rAt S (x + 23) i := fun i => (fr4.1 (x + 23) (by omega) (by intro j hj; simp only [List.mem_cons, List.not_mem_nil, or_false] at hj; omega)).rA i
    have hc4_25 : ∀ i, rAt S4c (x + 25) i = rAt S (x + 25) i := fun i => (fr4.1 (x + 25) (by omega) (by intro j hj; simp only [List.mem_cons, List.not_mem_nil, or_false] at hj; omega)).rA i
    have e4_st_ : m_I S4c 1128 x = iI st_ := (fr4.2.2.2.1 1128 (by decide)).trans e_st_
    refine v_iload_n hX dX13_findPlaces_4 (i := 2) rfl rfl ?_
    refine v_aload_n hX dX13_findPlaces_5 (i := 0) rfl rfl ?_
    refine v_get hX (ci := 11) (k := 28) (ms_kx h4c) bc_11 (by decide) (by decide) in_11 w_6_4 dX13_findPlaces_6 (mvF (f := 1128) (v := iI st_) rfl rfl (by simp (disch := omega) only [y_I_s_I, x_I_s_I, z_I_s_J, z_I_s_A, z_I_s_B, e4_st_])) ?_
    refine u_icmp_ge hX (tgt := 33) dX13_findPlaces_9 (by decide) ⟨by omega, by omega⟩ ⟨by omega, by omega⟩ (fun h1_ => ?_) (fun h1_ => ?_)
    ·
      have g33_ : ws S x i = ws S x st_ := by rw [show i = st_ by omega]
      refine v_aload_n hX dX13_findPlaces_33 (i := 0) rfl rfl ?_
      refine v_iload_n hX dX13_findPlaces_34 (i := 1) rfl rfl ?_
      refine v_aload_n hX dX13_findPlaces_35 (i := 0) rfl rfl ?_
      refine v_aload_n hX dX13_findPlaces_36 (i := 0) rfl rfl ?_
      refine v_get hX (ci := 11) (k := 28) (ms_kx h4c) bc_11 (by decide) (by decide) in_11 w_6_4 dX13_findPlaces_37 (mvF (f := 1128) (v := iI st_) rfl rfl (by simp (disch := omega) only [y_I_s_I, x_I_s_I, z_I_s_J, z_I_s_A, z_I_s_B, e4_st_])) ?_
      refine v_callV hX (n := 1) (k_literalsBefore2 (S := S4c) (x := x) (sx := st_) h4c ⟨by omega, by omega⟩ (by omega)) (ms_kx h4c) bc_11 (by decide) w_7_170 w_7_172 (bw_p (q := (yX13_literalsBefore, 72)) (List.mem_of_getElem? (i := 83) rfl) rfl) w_1_16 w_7_173 (by decide +kernel) rfl ⟨by decide, by decide⟩ ⟨by omega, by omega⟩ (Nat.le_of_ble_eq_true rfl) rfl dX13_findPlaces_40 (fun _ _ _ q => q) ?_
      rintro r2_ S2_ z2_ ⟨rfl, rfl, v3_, rfl, b_v3_, q2_⟩
      rw [lc_c (S := S) (fun i => by simp (disch := omega) only [zr_I, zr_J, zr_B, rA_A, zl_I, zl_J, zl_A, lA_B, hc4_18])] at q2_
      refine u_iadd hX dX13_findPlaces_43 ?_
      refine v_putI hX (ci := 11) (k := 60) (f := 1160) (ms_kx h4c) bc_11 (by decide) (by decide) in_11 tyX13_ok nmX13 w_6_36 (Or.inl rfl) rfl rfl dX13_findPlaces_44 rfl rfl ?_
      exact v_return hX hE dX13_findPlaces_47 (by omega) (by omega) ⟨rfl, (fr4.sI (by decide)), (p0 + v3_), rfl, (by simp (disch := omega) only [y_I_s_I, x_I_s_I, z_I_s_J, z_I_s_A, z_I_s_B, e4_st_]), ⟨by omega, by omega⟩, (by omega), (fun j a b => by simp (disch := omega) only [zr_I, zr_J, zr_B, rA_A, zl_I, zl_J, zl_A, lA_B]; exact p4_1 j a (by omega))⟩
    ·
      have g27_ := mo i (by omega) (by omega)
      have g28_ := ws_s (S := S) (x := x) (i := i) (by omega)
      refine v_aload_n hX dX13_findPlaces_12 (i := 0) rfl rfl ?_
      refine v_get hX (ci := 11) (k := 38) (ms_kx h4c) bc_11 (by decide) (by decide) in_11 w_6_14 dX13_findPlaces_13 (mvP (f := 1138) (q := (x + 26)) rfl rfl (ms_p_1138 h4c)) ?_
      refine v_iload_n hX dX13_findPlaces_16 (i := 2) rfl rfl ?_
      refine v_iload_n hX dX13_findPlaces_17 (i := 1) rfl rfl ?_
      refine u_iast hX (L := 400) (ms_k_1138 h4c) (ms_l_1138 h4c) ⟨by omega, by omega⟩ (by decide) dX13_findPlaces_18 ?_
      refine v_iload_n hX dX13_findPlaces_19 (i := 1) rfl rfl ?_
      refine v_aload_n hX dX13_findPlaces_20 (i := 0) rfl rfl ?_
      refine v_iload_n hX dX13_findPlaces_21 (i := 2) rfl rfl ?_
      refine v_callV hX (n := 1) (k_wordsOf2 (S := (s_A S4c (x + 26) i.toNat (iI p0))) (x := x) (sx := i) (mS.sA h4c) ⟨by omega, by omega⟩ (by (try simp (disch := omega) only [zr_I, zr_J, zr_B, rA_A, zl_I, zl_J, zl_A, lA_B, hc4_18, hc4_21, hc4_23, hc4_25]); omega)) (ms_kx (mS.sA h4c)) bc_11 (by decide) w_7_166 w_7_168 (bw_p (q := (yX13_wordsOf, 72)) (List.mem_of_getElem? (i := 82) rfl) rfl) w_1_16 w_7_169 (by decide +kernel) rfl ⟨by decide, by decide⟩ ⟨by omega, by omega⟩ (Nat.le_of_ble_eq_true rfl) rfl dX13_findPlaces_22 (fun _ _ _ q => q) ?_
      rintro r4_ S4_ z4_ ⟨rfl, rfl, v5_, rfl, b_v5_, q4_⟩
      rw [wd_c (S := S) (fun i => by simp (disch := omega) only [zr_I, zr_J, zr_B, rA_A, zl_I, zl_J, zl_A, lA_B, hc4_18]) (fun i => by simp (disch := omega) only [zr_I, zr_J, zr_B, rA_A, zl_I, zl_J, zl_A, lA_B, hc4_21]) (fun i => by simp (disch := omega) only [zr_I, zr_J, zr_B, rA_A, zl_I, zl_J, zl_A, lA_B, hc4_23]) (fun i => by simp (disch := omega) only [zr_I, zr_J, zr_B, rA_A, zl_I, zl_J, zl_A, lA_B, hc4_25])] at q4_
      refine u_iadd hX dX13_findPlaces_25 ?_
      refine v_istore_n hX (lv' := [(1, .int (iI (p0 + v5_))), (2, .int (iI i)), (0, .ref x)]) dX13_findPlaces_26 (i := 1) rfl (by rw [hnL]; decide) rfl ?_
      refine v_iinc hX (v := iI (i + 1)) (lv' := [(2, .int (iI (i + 1))), (1, .int (iI (p0 + v5_))), (0, .ref x)]) dX13_findPlaces_27 rfl (iI_add _ _) (by rw [hnL]; decide) rfl ?_
      refine v_goto hX (tgt := 4) dX13_findPlaces_30 (by decide) ?_
      exact ih4 _ (by omega) _ (i + 1) (p0 + v5_) (fr4.sA (by decide)) (by omega) (fun j a b => by rcases (show j < i ∨ j = i by omega) with g | g; (simp (disch := omega) only [zr_I, zr_J, zr_B, rA_A, zl_I, zl_J, zl_A, lA_B, rA_x]; exact p4_1 j a g); (subst g; simp (disch := omega) only [zr_I, zr_J, zr_B, rA_A, zl_I, zl_J, zl_A, lA_B, rA_y]; omega)) rfl
  change b_V X S z 0 0 0 [(0, .ref x)] []
  have g0_ := ws_z (S := S) (x := x) (i := 0) (by omega)
  refine v_iconst hX (v := iI 0) dX13_findPlaces_0 rfl ?_
  refine v_istore_n hX (lv' := [(1, .int (iI 0)), (0, .ref x)]) dX13_findPlaces_1 (i := 1) rfl (by rw [hnL]; decide) rfl ?_
  refine v_iconst hX (v := iI 0) dX13_findPlaces_2 rfl ?_
  refine v_istore_n hX (lv' := [(2, .int (iI 0)), (1, .int (iI 0)), (0, .ref x)]) dX13_findPlaces_3 (i := 2) rfl (by rw [hnL]; decide) rfl ?_
  exact L4 _ _ 0 0 (mFr.rf _ _) (by omega) (fun j a b => absurd b (by omega)) rfl
