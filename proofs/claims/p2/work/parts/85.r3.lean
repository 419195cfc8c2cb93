/-- the chains of set names: each points to one of the se names, each name to an earlier one -/
def sOk (S : b_M) (x : Nat) (se : Int) : Prop := (0 ≤ se ∧ se ≤ 400) ∧ (∀ i : Int, 0 ≤ i → i < 1021 → -1 ≤ rAt S (x + 35) i ∧ rAt S (x + 35) i < se) ∧ ∀ i : Int, 0 ≤ i → i < se → -1 ≤ rAt S (x + 34) i ∧ rAt S (x + 34) i < i
theorem sOk.c {S S1 : b_M} {x : Nat} {se : Int} (h : sOk S x se) (h1 : ∀ i, rAt S1 (x + 35) i = rAt S (x + 35) i) (h2 : ∀ i, rAt S1 (x + 34) i = rAt S (x + 34) i) : sOk S1 x se := ⟨h.1, fun i a b => by rw [h1]; exact h.2.1 i a b, fun i a b => by rw [h2]; exact h.2.2 i a b⟩
theorem wb_e {n m w : Int} (e : n = m) (h : wb n w) : wb m w := e ▸ h
theorem nr_lt {S : b_M} {a : Nat} {lo hi k i : Int} (h : nr S a lo hi) (h1 : lo ≤ k) (h2 : i < hi) (ha : ∀ j : Int, k ≤ j → j < i → prt (rAt S a j)) (hi' : prt (rAt S a i)) (hn : i - k ≤ 10) : i - k < 10 := by
  rcases (show i - k < 10 ∨ i = k + 10 by omega) with c | c
  · exact c
  · obtain ⟨j, q1, q2, q3⟩ := h k h1 (by omega)
    rcases (show j < i ∨ j = i by omega) with e | e
    · exact absurd (ha j q1 e) q3
    · subst e; exact absurd hi' q3
set_option maxRecDepth 100000 in
set_option maxHeartbeats 4000000 in
theorem k_findSet {kn : Nat → Nat} {B : Nat} {S : b_M} {z x : Nat} {v : Int} {se : Int} (h : mS S x) (b_v : -9223372036854775808 ≤ v ∧ v < 9223372036854775808) (so : sOk S x se) (p : 0 ≤ v) : b_C kn B yX13_findSet cX13_findSet 4 (some .int) 1 21 0 0 [.ref x, .long (jJ v)] S z (fun r S' z' => z = z' ∧ S = S' ∧ ∃ q : Int, r = some (.int (iI q)) ∧ (-2147483648 ≤ q ∧ q < 2147483648) ∧ (-1 ≤ q ∧ q < se)) (fun _ _ _ => False) := by
  refine b_enter (by decide) (Nat.le_of_ble_eq_true rfl) ?_
  intro X hX hE hnL hkn hB hI_
  subst hkn; subst hB
  clear hI_
  have L10 : ∀ (n10 : Nat) (k : Int), (-1 ≤ k ∧ k < se ∧ se ≤ 400) → (k + 1).toNat = n10 → b_V X S z 0 0 10 [(3, .int (iI k)), (0, .ref x), (1, .long (jJ v))] [] := by
    intro n10
    induction n10 using Nat.strongRecOn with
    | _ n10 ih10 =>
    intro k p10_0 hm10
    refine v_iload_n hX dX13_findSet_10 (i := 3) rfl rfl ?_
    refine u_if_lt hX (tgt := 35) dX13_findSet_11 (by decide) ⟨by omega, by omega⟩ (fun h1_ => ?_) (fun h1_ => ?_)
    ·
      refine v_iload_n hX dX13_findSet_35 (i := 3) rfl rfl ?_
      exact v_ireturn hX hE dX13_findSet_36 (by omega) (by omega) ⟨rfl, rfl, k, rfl, ⟨by omega, by omega⟩, (by omega)⟩
    ·
      refine v_aload_n hX dX13_findSet_14 (i := 0) rfl rfl ?_
      refine v_get hX (ci := 11) (k := 49) (ms_kx h) bc_11 (by decide) (by decide) in_11 w_6_25 dX13_findSet_15 (mvP (f := 1149) (q := (x + 32)) rfl rfl (ms_p_1149 h)) ?_
      refine v_iload_n hX dX13_findSet_18 (i := 3) rfl rfl ?_
      refine u_lald hX (L := 400) (ms_k_1149 h) (ms_l_1149 h) ⟨by omega, by omega⟩ (by decide) dX13_findSet_19 (fun v2_ e_v2_ b_v2_ => ?_)
      refine v_lload_n hX dX13_findSet_20 (i := 1) rfl rfl ?_
      refine u_lcmp hX dX13_findSet_21 ⟨by omega, by omega⟩ ⟨by omega, by omega⟩ (fun v3_ b_v3_ c_v3_ => ?_)
      refine u_if_eq hX (tgt := 35) dX13_findSet_22 (by decide) ⟨by omega, by omega⟩ (fun h4_ => ?_) (fun h4_ => ?_)
      ·
        refine v_iload_n hX dX13_findSet_35 (i := 3) rfl rfl ?_
        exact v_ireturn hX hE dX13_findSet_36 (by omega) (by omega) ⟨rfl, rfl, k, rfl, ⟨by omega, by omega⟩, (by omega)⟩
      ·
        refine v_aload_n hX dX13_findSet_25 (i := 0) rfl rfl ?_
        refine v_get hX (ci := 11) (k := 51) (ms_kx h) bc_11 (by decide) (by decide) in_11 w_6_27 dX13_findSet_26 (mvP (f := 1151) (q := (x + 34)) rfl rfl (ms_p_1151 h)) ?_
        refine v_iload_n hX dX13_findSet_29 (i := 3) rfl rfl ?_
        refine u_iald hX (L := 400) (ms_k_1151 h) (ms_l_1151 h) ⟨by omega, by omega⟩ (by decide) dX13_findSet_30 (fun v5_ e_v5_ b_v5_ => ?_)
        have g2_ := so.2.2 k (by omega) (by omega)
        refine v_istore_n hX (lv' := [(3, .int (iI v5_)), (0, .ref x), (1, .long (jJ v))]) dX13_findSet_31 (i := 3) rfl (by rw [hnL]; decide) rfl ?_
        refine v_goto hX (tgt := 10) dX13_findSet_32 (by decide) ?_
        exact ih10 _ (by omega) v5_ (by omega) rfl
  change b_V X S z 0 0 0 [(0, .ref x), (1, .long (jJ v))] []
  have so1 := so.1
  refine v_aload_n hX dX13_findSet_0 (i := 0) rfl rfl ?_
  refine v_get hX (ci := 11) (k := 52) (ms_kx h) bc_11 (by decide) (by decide) in_11 w_6_28 dX13_findSet_1 (mvP (f := 1152) (q := (x + 35)) rfl rfl (ms_p_1152 h)) ?_
  refine v_lload_n hX dX13_findSet_4 (i := 1) rfl rfl ?_
  refine v_callS hX (n := 1) (k_chainOf (S := S) (x := 0) (v := v) ⟨by omega, by omega⟩ (by omega)) w_7_94 w_7_95 w_1_16 w_7_96 (by decide +kernel) rfl ⟨by decide, by decide⟩ ⟨by omega, by omega⟩ (Nat.le_of_ble_eq_true rfl) rfl dX13_findSet_5 (fun _ _ _ q => q) ?_
  rintro r6_ S6_ z6_ ⟨rfl, rfl, v7_, rfl, b_v7_, q6_⟩
  refine u_iald hX (L := 1021) (ms_k_1152 h) (ms_l_1152 h) ⟨by omega, by omega⟩ (by decide) dX13_findSet_8 (fun v8_ e_v8_ b_v8_ => ?_)
  have g1_ := so.2.1 v7_ (by omega) (by omega)
  refine v_istore_n hX (lv' := [(3, .int (iI v8_)), (0, .ref x), (1, .long (jJ v))]) dX13_findSet_9 (i := 3) rfl (by rw [hnL]; decide) rfl ?_
  exact L10 _ v8_ (by omega) rfl
set_option maxRecDepth 100000 in
set_option maxHeartbeats 4000000 in
theorem k_isThere {kn : Nat → Nat} {B : Nat} {S : b_M} {z x : Nat} {v : Int} {st_ : Int} {se : Int} (h : mS S x) (e_st_ : m_I S 1128 x = iI st_) (b_st_ : -2147483648 ≤ st_ ∧ st_ < 2147483648) (b_v : -9223372036854775808 ≤ v ∧ v < 9223372036854775808) (so : sOk S x se) (p : 0 ≤ st_ ∧ st_ ≤ 400 ∧ 0 ≤ v) : b_C kn B yX13_isThere cX13_isThere 3 (some .boolean) 2 44 0 0 [.ref x, .long (jJ v)] S z (fun r S' z' => z = z' ∧ S = S' ∧ ∃ q : Int, r = some (.int (iI q)) ∧ (-2147483648 ≤ q ∧ q < 2147483648) ∧ (q = 0 ∨ q = 1)) (fun _ _ _ => False) := by
  refine b_enter (by decide) (Nat.le_of_ble_eq_true rfl) ?_
  intro X hX hE hnL hkn hB hI_
  subst hkn; subst hB
  clear hI_
  change b_V X S z 0 0 0 [(0, .ref x), (1, .long (jJ v))] []
  refine v_aload_n hX dX13_isThere_0 (i := 0) rfl rfl ?_
  refine v_lload_n hX dX13_isThere_1 (i := 1) rfl rfl ?_
  refine v_callV hX (n := 1) (k_findLabel (S := S) (x := x) (v := v) (st_ := st_) h (by simp (disch := omega) only [q_I_s_J, q_I_s_P, q_I_s_A, q_I_s_B, q_I_s_C, q_I_n_A, q_I_r_A, q_I_r_B, y_I_s_I, x_I_s_I, y_I_n_O, x_I_n_O, e_st_]) ⟨by omega, by omega⟩ ⟨by omega, by omega⟩ (by omega)) (ms_kx h) bc_11 (by decide) w_7_86 w_7_88 (bw_p (q := (yX13_findLabel, 72)) (List.mem_of_getElem? (i := 63) rfl) rfl) w_1_16 w_7_89 (by decide +kernel) rfl ⟨by decide, by decide⟩ ⟨by omega, by omega⟩ (Nat.le_of_ble_eq_true rfl) rfl dX13_isThere_2 (fun _ _ _ q => q) ?_
  rintro r1_ S1_ z1_ ⟨rfl, rfl, v2_, rfl, b_v2_, q1_⟩
  refine u_if_ge hX (tgt := 16) dX13_isThere_5 (by decide) ⟨by omega, by omega⟩ (fun h3_ => ?_) (fun h3_ => ?_)
  ·
    refine v_iconst hX (v := iI 1) dX13_isThere_16 rfl ?_
    refine v_goto hX (tgt := 21) dX13_isThere_17 (by decide) ?_
    exact v_zreturn hX (nar_b (by omega)) hE dX13_isThere_21 (by omega) (by omega) ⟨rfl, rfl, 1, rfl, ⟨by omega, by omega⟩, (by omega)⟩
  ·
    refine v_aload_n hX dX13_isThere_8 (i := 0) rfl rfl ?_
    refine v_lload_n hX dX13_isThere_9 (i := 1) rfl rfl ?_
    refine v_callV hX (n := 1) (k_findSet (S := S) (x := x) (v := v) h ⟨by omega, by omega⟩ so (by omega)) (ms_kx h) bc_11 (by decide) w_7_90 w_7_92 (bw_p (q := (yX13_findSet, 72)) (List.mem_of_getElem? (i := 64) rfl) rfl) w_1_16 w_7_93 (by decide +kernel) rfl ⟨by decide, by decide⟩ ⟨by omega, by omega⟩ (Nat.le_of_ble_eq_true rfl) rfl dX13_isThere_10 (fun _ _ _ q => q) ?_
    rintro r4_ S4_ z4_ ⟨rfl, rfl, v5_, rfl, b_v5_, q4_⟩
    refine u_if_lt hX (tgt := 20) dX13_isThere_13 (by decide) ⟨by omega, by omega⟩ (fun h6_ => ?_) (fun h6_ => ?_)
    ·
      refine v_iconst hX (v := iI 0) dX13_isThere_20 rfl ?_
      exact v_zreturn hX (nar_b (by omega)) hE dX13_isThere_21 (by omega) (by omega) ⟨rfl, rfl, 0, rfl, ⟨by omega, by omega⟩, (by omega)⟩
    ·
      refine v_iconst hX (v := iI 1) dX13_isThere_16 rfl ?_
      refine v_goto hX (tgt := 21) dX13_isThere_17 (by decide) ?_
      exact v_zreturn hX (nar_b (by omega)) hE dX13_isThere_21 (by omega) (by omega) ⟨rfl, rfl, 1, rfl, ⟨by omega, by omega⟩, (by omega)⟩
set_option maxRecDepth 100000 in
set_option maxHeartbeats 4000000 in
theorem k_valueOfName {kn : Nat → Nat} {B : Nat} {S : b_M} {z x : Nat} {v : Int} {st_ : Int} {un : Int} {se : Int} (h : mS S x) (e_st_ : m_I S 1128 x = iI st_) (b_st_ : -2147483648 ≤ st_ ∧ st_ < 2147483648) (e_un : m_I S 1162 x = iI un) (b_un : -2147483648 ≤ un ∧ un < 2147483648) (b_v : -9223372036854775808 ≤ v ∧ v < 9223372036854775808) (so : sOk S x se) (p : 0 ≤ st_ ∧ st_ ≤ 400 ∧ 0 ≤ v ∧ (un = 0 ∨ un = 1)) : b_C kn B yX13_valueOfName cX13_valueOfName 5 (some .int) 2 44 0 0 [.ref x, .long (jJ v)] S z (fun r S' z' => z = z' ∧ mFr [1162] [] [] S S' x ∧ ∃ q u1 : Int, r = some (.int (iI q)) ∧ (-2147483648 ≤ q ∧ q < 2147483648) ∧ m_I S' 1162 x = iI u1 ∧ (-2147483648 ≤ u1 ∧ u1 < 2147483648) ∧ (u1 = 0 ∨ u1 = 1)) (fun _ _ _ => False) := by
  refine b_enter (by decide) (Nat.le_of_ble_eq_true rfl) ?_
  intro X hX hE hnL hkn hB hI_
  subst hkn; subst hB
  clear hI_
  have L53 : ∀ (S53c : b_M) (k : Int) (s0 : Int) (bb : Int), mFr [1162] [] [] S S53c x → ((bb = 0 ∨ bb = 1) ∧ -1 ≤ s0 ∧ s0 < st_) → b_V X S53c z 0 0 53 [(4, .int (iI s0)), (3, .int (iI k)), (0, .ref x), (1, .long (jJ v))] [.int (iI bb), .ref x] := by
    intro S53c k s0 bb fr53 p53_0
    have h53c : mS S53c x := fr53.keep h
    have hc53_35 : ∀ i, rAt S53c (x + 35) i = rAt S (x + 35) i := fun i => (fr53.1 (x + 35) (by omega) (fun j hj => absurd hj List.not_mem_nil)).rA i
    have hc53_34 : ∀ i, rAt S53c (x + 34) i = rAt S (x + 34) i := fun i => (fr53.1 (x + 34) (by omega) (fun j hj => absurd hj List.not_mem_nil)).rA i
    have e53_st_ : m_I S53c 1128 x = iI st_ := (fr53.2.2.2.1 1128 (by decide)).trans e_st_
    refine v_putI hX (ci := 11) (k := 62) (f := 1162) (ms_kx h53c) bc_11 (by decide) (by decide) in_11 tyX13_ok nmX13 w_6_38 (Or.inl rfl) (nar_b (by omega)) (fit_b (by omega)) dX13_valueOfName_53 rfl rfl ?_
    refine v_iload hX dX13_valueOfName_56 rfl ?_
    refine u_if_ge hX (tgt := 65) dX13_valueOfName_58 (by decide) ⟨by omega, by omega⟩ (fun h1_ => ?_) (fun h1_ => ?_)
    ·
      refine v_aload_n hX dX13_valueOfName_65 (i := 0) rfl rfl ?_
      refine v_get hX (ci := 11) (k := 38) (ms_kx h53c) bc_11 (by decide) (by decide) in_11 w_6_14 dX13_valueOfName_66 (mvP (f := 1138) (q := (x + 26)) rfl rfl (ms_p_1138 h53c)) ?_
      refine v_iload hX dX13_valueOfName_69 rfl ?_
      refine u_iald hX (L := 400) (ms_k_1138 h53c) (ms_l_1138 h53c) ⟨by omega, by omega⟩ (by decide) dX13_valueOfName_71 (fun v2_ e_v2_ b_v2_ => ?_)
      try simp (disch := omega) only [rA_I, rA_J, rA_B, rA_A, lA_I, lA_J, lA_A, lA_B, hc53_35, hc53_34] at e_v2_
      exact v_ireturn hX hE dX13_valueOfName_72 (by omega) (by omega) ⟨rfl, (fr53.sI (by decide)), v2_, bb, rfl, ⟨by omega, by omega⟩, (by simp (disch := omega) only [q_I_s_J, q_I_s_P, q_I_s_A, q_I_s_B, q_I_s_C, q_I_n_A, q_I_r_A, q_I_r_B, y_I_s_I, x_I_s_I, y_I_n_O, x_I_n_O, e53_st_]), ⟨by omega, by omega⟩, (by omega)⟩
    ·
      refine v_iconst hX (v := iI 0) dX13_valueOfName_61 rfl ?_
      refine v_goto hX (tgt := 72) dX13_valueOfName_62 (by decide) ?_
      exact v_ireturn hX hE dX13_valueOfName_72 (by omega) (by omega) ⟨rfl, (fr53.sI (by decide)), 0, bb, rfl, ⟨by omega, by omega⟩, (by simp (disch := omega) only [q_I_s_J, q_I_s_P, q_I_s_A, q_I_s_B, q_I_s_C, q_I_n_A, q_I_r_A, q_I_r_B, y_I_s_I, x_I_s_I, y_I_n_O, x_I_n_O, e53_st_]), ⟨by omega, by omega⟩, (by omega)⟩
  have L33 : ∀ (S33c : b_M) (u0 : Int) (k : Int) (s0 : Int), mFr [1162] [] [] S S33c x → m_I S33c 1162 x = iI u0 → (-2147483648 ≤ u0 ∧ u0 < 2147483648) → ((u0 = 0 ∨ u0 = 1) ∧ -1 ≤ s0 ∧ s0 < st_) → b_V X S33c z 0 0 33 [(3, .int (iI k)), (0, .ref x), (1, .long (jJ v))] [.int (iI s0)] := by
    intro S33c u0 k s0 fr33 e_u0 b_u0 p33_0
    have h33c : mS S33c x := fr33.keep h
    have hc33_35 : ∀ i, rAt S33c (x + 35) i = rAt S (x + 35) i := fun i => (fr33.1 (x + 35) (by omega) (fun j hj => absurd hj List.not_mem_nil)).rA i
    have hc33_34 : ∀ i, rAt S33c (x + 34) i = rAt S (x + 34) i := fun i => (fr33.1 (x + 34) (by omega) (fun j hj => absurd hj List.not_mem_nil)).rA i
    have e33_st_ : m_I S33c 1128 x = iI st_ := (fr33.2.2.2.1 1128 (by decide)).trans e_st_
    refine v_istore hX (lv' := [(4, .int (iI s0)), (3, .int (iI k)), (0, .ref x), (1, .long (jJ v))]) dX13_valueOfName_33 (by rw [hnL]; decide) rfl ?_
    refine v_aload_n hX dX13_valueOfName_35 (i := 0) rfl rfl ?_
    refine v_aload_n hX dX13_valueOfName_36 (i := 0) rfl rfl ?_
    refine v_get hX (ci := 11) (k := 62) (ms_kx h33c) bc_11 (by decide) (by decide) in_11 w_6_38 dX13_valueOfName_37 (mvF (f := 1162) (v := iI u0) rfl rfl (by simp (disch := omega) only [q_I_s_J, q_I_s_P, q_I_s_A, q_I_s_B, q_I_s_C, q_I_n_A, q_I_r_A, q_I_r_B, y_I_s_I, x_I_s_I, y_I_n_O, x_I_n_O, e33_st_, e_u0])) ?_
    refine u_if_ne hX (tgt := 48) dX13_valueOfName_40 (by decide) ⟨by omega, by omega⟩ (fun h3_ => ?_) (fun h3_ => ?_)
    ·
      refine v_iconst hX (v := iI 1) dX13_valueOfName_48 rfl ?_
      refine v_goto hX (tgt := 53) dX13_valueOfName_49 (by decide) ?_
      exact L53 _ k s0 1 fr33 (by omega)
    ·
      refine v_iload hX dX13_valueOfName_43 rfl ?_
      refine u_if_ge hX (tgt := 52) dX13_valueOfName_45 (by decide) ⟨by omega, by omega⟩ (fun h4_ => ?_) (fun h4_ => ?_)
      ·
        refine v_iconst hX (v := iI 0) dX13_valueOfName_52 rfl ?_
        exact L53 _ k s0 0 fr33 (by omega)
      ·
        refine v_iconst hX (v := iI 1) dX13_valueOfName_48 rfl ?_
        refine v_goto hX (tgt := 53) dX13_valueOfName_49 (by decide) ?_
        exact L53 _ k s0 1 fr33 (by omega)
  change b_V X S z 0 0 0 [(0, .ref x), (1, .long (jJ v))] []
  have so1 := so.1
  refine v_aload_n hX dX13_valueOfName_0 (i := 0) rfl rfl ?_
  refine v_lload_n hX dX13_valueOfName_1 (i := 1) rfl rfl ?_
  refine v_callV hX (n := 1) (k_findSet (S := S) (x := x) (v := v) h ⟨by omega, by omega⟩ so (by omega)) (ms_kx h) bc_11 (by decide) w_7_90 w_7_92 (bw_p (q := (yX13_findSet, 72)) (List.mem_of_getElem? (i := 64) rfl) rfl) w_1_16 w_7_93 (by decide +kernel) rfl ⟨by decide, by decide⟩ ⟨by omega, by omega⟩ (Nat.le_of_ble_eq_true rfl) rfl dX13_valueOfName_2 (fun _ _ _ q => q) ?_
  rintro r5_ S5_ z5_ ⟨rfl, rfl, v6_, rfl, b_v6_, q5_⟩
  refine v_istore_n hX (lv' := [(3, .int (iI v6_)), (0, .ref x), (1, .long (jJ v))]) dX13_valueOfName_5 (i := 3) rfl (by rw [hnL]; decide) rfl ?_
  refine v_iload_n hX dX13_valueOfName_6 (i := 3) rfl rfl ?_
  refine u_if_lt hX (tgt := 17) dX13_valueOfName_7 (by decide) ⟨by omega, by omega⟩ (fun h7_ => ?_) (fun h7_ => ?_)
  ·
    refine v_aload_n hX dX13_valueOfName_17 (i := 0) rfl rfl ?_
    obtain ⟨v8_, e_v8_, b_v8_⟩ := i_ex (m_I S 1163 x)
    refine v_get hX (ci := 11) (k := 63) (ms_kx h) bc_11 (by decide) (by decide) in_11 w_6_39 dX13_valueOfName_18 (mvF (f := 1163) (v := iI v8_) rfl rfl (by simp (disch := omega) only [q_I_s_J, q_I_s_P, q_I_s_A, q_I_s_B, q_I_s_C, q_I_n_A, q_I_r_A, q_I_r_B, y_I_s_I, x_I_s_I, y_I_n_O, x_I_n_O, e_st_, e_un, e_v8_])) ?_
    refine u_if_eq hX (tgt := 28) dX13_valueOfName_21 (by decide) ⟨by omega, by omega⟩ (fun h9_ => ?_) (fun h9_ => ?_)
    ·
      refine v_aload_n hX dX13_valueOfName_28 (i := 0) rfl rfl ?_
      refine v_lload_n hX dX13_valueOfName_29 (i := 1) rfl rfl ?_
      refine v_callV hX (n := 1) (k_findLabel (S := S) (x := x) (v := v) (st_ := st_) h (by simp (disch := omega) only [q_I_s_J, q_I_s_P, q_I_s_A, q_I_s_B, q_I_s_C, q_I_n_A, q_I_r_A, q_I_r_B, y_I_s_I, x_I_s_I, y_I_n_O, x_I_n_O, e_st_, e_un, e_v8_]) ⟨by omega, by omega⟩ ⟨by omega, by omega⟩ (by omega)) (ms_kx h) bc_11 (by decide) w_7_86 w_7_88 (bw_p (q := (yX13_findLabel, 72)) (List.mem_of_getElem? (i := 63) rfl) rfl) w_1_16 w_7_89 (by decide +kernel) rfl ⟨by decide, by decide⟩ ⟨by omega, by omega⟩ (Nat.le_of_ble_eq_true rfl) rfl dX13_valueOfName_30 (fun _ _ _ q => q) ?_
      rintro r10_ S10_ z10_ ⟨rfl, rfl, v11_, rfl, b_v11_, q10_⟩
      exact L33 _ un v6_ v11_ (mFr.rf _ _) (by simp (disch := omega) only [q_I_s_J, q_I_s_P, q_I_s_A, q_I_s_B, q_I_s_C, q_I_n_A, q_I_r_A, q_I_r_B, y_I_s_I, x_I_s_I, y_I_n_O, x_I_n_O, e_st_, e_un, e_v8_]) ⟨by omega, by omega⟩ (by omega)
    ·
      refine v_iconst hX (v := iI (-1)) dX13_valueOfName_24 rfl ?_
      refine v_goto hX (tgt := 33) dX13_valueOfName_25 (by decide) ?_
      exact L33 _ un v6_ (-1) (mFr.rf _ _) (by simp (disch := omega) only [q_I_s_J, q_I_s_P, q_I_s_A, q_I_s_B, q_I_s_C, q_I_n_A, q_I_r_A, q_I_r_B, y_I_s_I, x_I_s_I, y_I_n_O, x_I_n_O, e_st_, e_un, e_v8_]) ⟨by omega, by omega⟩ (by omega)
  ·
    refine v_aload_n hX dX13_valueOfName_10 (i := 0) rfl rfl ?_
    refine v_get hX (ci := 11) (k := 50) (ms_kx h) bc_11 (by decide) (by decide) in_11 w_6_26 dX13_valueOfName_11 (mvP (f := 1150) (q := (x + 33)) rfl rfl (ms_p_1150 h)) ?_
    refine v_iload_n hX dX13_valueOfName_14 (i := 3) rfl rfl ?_
    refine u_iald hX (L := 400) (ms_k_1150 h) (ms_l_1150 h) ⟨by omega, by omega⟩ (by decide) dX13_valueOfName_15 (fun v12_ e_v12_ b_v12_ => ?_)
    exact v_ireturn hX hE dX13_valueOfName_16 (by omega) (by omega) ⟨rfl, (mFr.rf _ _), v12_, un, rfl, ⟨by omega, by omega⟩, (by simp (disch := omega) only [q_I_s_J, q_I_s_P, q_I_s_A, q_I_s_B, q_I_s_C, q_I_n_A, q_I_r_A, q_I_r_B, y_I_s_I, x_I_s_I, y_I_n_O, x_I_n_O, e_st_, e_un]), ⟨by omega, by omega⟩, (by omega)⟩
set_option maxRecDepth 100000 in
set_option maxHeartbeats 4000000 in
theorem k_valueOf {kn : Nat → Nat} {B : Nat} {S : b_M} {z x : Nat} {fr_ : Int} {to_ : Int} {row : Nat} {st_ : Int} {wo : Int} {he : Int} {se : Int} {Lr : Nat} (h : mS S x) (e_st_ : m_I S 1128 x = iI st_) (b_st_ : -2147483648 ≤ st_ ∧ st_ < 2147483648) (e_wo : m_I S 1163 x = iI wo) (b_wo : -2147483648 ≤ wo ∧ wo < 2147483648) (e_he : m_I S 1164 x = iI he) (b_he : -2147483648 ≤ he ∧ he < 2147483648) (b_fr_ : -2147483648 ≤ fr_ ∧ fr_ < 2147483648) (b_to_ : -2147483648 ≤ to_ ∧ to_ < 2147483648) (so : sOk S x se) (rowK : m_K S row = 13) (rowL : m_L S row = Lr) (rowB : (Lr : Int) < 2147483648) (rowx : row ≠ x) (nrr : nr S row fr_ to_) (p : 0 ≤ st_ ∧ st_ ≤ 400 ∧ 0 ≤ fr_ ∧ to_ ≤ Lr ∧ (wo = 0 ∨ wo = 1)) : b_C kn B yX13_valueOf cX13_valueOf 10 (some .int) 4 82 0 0 [.ref x, .ref row, .int (iI fr_), .int (iI to_)] S z (fun r S' z' => z = z' ∧ mFr [1162] [] [] S S' x ∧ ∃ q u1 : Int, r = some (.int (iI q)) ∧ (-2147483648 ≤ q ∧ q < 2147483648) ∧ m_I S' 1162 x = iI u1 ∧ (-2147483648 ≤ u1 ∧ u1 < 2147483648) ∧ (u1 = 0 ∨ u1 = 1)) (fun _ _ _ => False) := by
  refine b_enter (by decide) (Nat.le_of_ble_eq_true rfl) ?_
  intro X hX hE hnL hkn hB hI_
  subst hkn; subst hB
  clear hI_
  have L14 : ∀ (n14 : Nat) (S14c : b_M) (u0 : Int) (i1 : Int) (sg : Int) (sum : Int), mFr [1162] [] [] S S14c x → m_I S14c 1162 x = iI u0 → (-2147483648 ≤ u0 ∧ u0 < 2147483648) → (fr_ ≤ i1 ∧ (i1 = fr_ ∨ i1 ≤ to_) ∧ (u0 = 0 ∨ u0 = 1)) → (to_ - i1).toNat = n14 → b_V X S14c z 0 0 14 [(6, .int (iI i1)), (5, .int (iI sg)), (4, .int (iI sum)), (0, .ref x), (1, .ref row), (2, .int (iI fr_)), (3, .int (iI to_))] [] := by
    intro n14
    induction n14 using Nat.strongRecOn with
    | _ n14 ih14 =>
    intro S14c u0 i1 sg sum fr14 e_u0 b_u0 p14_0 hm14
    have h14c : mS S14c x := fr14.keep h
    have hc14_35 : ∀ i, rAt S14c (x + 35) i = rAt S (x + 35) i := fun i => (fr14.1 (x + 35) (by omega) (fun j hj => absurd hj List.not_mem_nil)).rA i
    have hc14_34 : ∀ i, rAt S14c (x + 34) i = rAt S (x + 34) i := fun i => (fr14.1 (x + 34) (by omega) (fun j hj => absurd hj List.not_mem_nil)).rA i
    have hc14_row : ∀ i, rAt S14c row i = rAt S row i := fun i => (fr14.1 row rowx (fun j hj => absurd hj List.not_mem_nil)).rA i
    have rowK14 : m_K S14c row = 13 := (fr14.2.2.2.2.2.1 row).trans rowK
    have rowL14 : m_L S14c row = Lr := (fr14.2.2.2.2.2.2 row).trans rowL
    have e14_st_ : m_I S14c 1128 x = iI st_ := (fr14.2.2.2.1 1128 (by decide)).trans e_st_
    have e14_wo : m_I S14c 1163 x = iI wo := (fr14.2.2.2.1 1163 (by decide)).trans e_wo
    have e14_he : m_I S14c 1164 x = iI he := (fr14.2.2.2.1 1164 (by decide)).trans e_he
    have L297 : ∀ (S297c : b_M) (i7 : Int) (sg7 : Int) (sum7 : Int) (bb7 : Int), mFr [1162] [] [] S S297c x → (i7 = i1 ∧ i7 < to_ ∧ (bb7 = 0 ∨ bb7 = 1)) → b_V X S297c z 0 0 297 [(6, .int (iI i7)), (5, .int (iI sg7)), (4, .int (iI sum7)), (0, .ref x), (1, .ref row), (2, .int (iI fr_)), (3, .int (iI to_))] [.int (iI bb7), .ref x] := by
      intro S297c i7 sg7 sum7 bb7 fr297 p297_0
      have h297c : mS S297c x := fr297.keep h
      have hc297_35 : ∀ i, rAt S297c (x + 35) i = rAt S (x + 35) i := fun i => (fr297.1 (x + 35) (by omega) (fun j hj => absurd hj List.not_mem_nil)).rA i
      have hc297_34 : ∀ i, rAt S297c (x + 34) i = rAt S (x + 34) i := fun i => (fr297.1 (x + 34) (by omega) (fun j hj => absurd hj List.not_mem_nil)).rA i
      have hc297_row : ∀ i, rAt S297c row i = rAt S row i := fun i => (fr297.1 row rowx (fun j hj => absurd hj List.not_mem_nil)).rA i
      have rowK297 : m_K S297c row = 13 := (fr297.2.2.2.2.2.1 row).trans rowK
      have rowL297 : m_L S297c row = Lr := (fr297.2.2.2.2.2.2 row).trans rowL
      have e297_st_ : m_I S297c 1128 x = iI st_ := (fr297.2.2.2.1 1128 (by decide)).trans e_st_
      have e297_wo : m_I S297c 1163 x = iI wo := (fr297.2.2.2.1 1163 (by decide)).trans e_wo
      have e297_he : m_I S297c 1164 x = iI he := (fr297.2.2.2.1 1164 (by decide)).trans e_he
      refine v_putI hX (ci := 11) (k := 62) (f := 1162) (ms_kx h297c) bc_11 (by decide) (by decide) in_11 tyX13_ok nmX13 w_6_38 (Or.inl rfl) (nar_b (by omega)) (fit_b (by omega)) dX13_valueOf_297 rfl rfl ?_
      refine v_iload hX dX13_valueOf_300 rfl ?_
      refine v_iload hX dX13_valueOf_302 rfl ?_
      refine v_aload_n hX dX13_valueOf_304 (i := 0) rfl rfl ?_
      refine v_get hX (ci := 11) (k := 64) (ms_kx h297c) bc_11 (by decide) (by decide) in_11 w_6_40 dX13_valueOf_305 (mvF (f := 1164) (v := iI he) rfl rfl (by simp (disch := omega) only [q_I_s_J, q_I_s_P, q_I_s_A, q_I_s_B, q_I_s_C, q_I_n_A, q_I_r_A, q_I_r_B, y_I_s_I, x_I_s_I, y_I_n_O, x_I_n_O, e297_st_, e297_wo, e297_he])) ?_
      refine u_imul hX dX13_valueOf_308 ?_
      refine u_iadd hX dX13_valueOf_309 ?_
      refine v_istore hX (lv' := [(4, .int (iI (sum7 + (sg7 * he)))), (6, .int (iI i7)), (5, .int (iI sg7)), (0, .ref x), (1, .ref row), (2, .int (iI fr_)), (3, .int (iI to_))]) dX13_valueOf_310 (by rw [hnL]; decide) rfl ?_
      refine v_iinc hX (v := iI (i7 + 1)) (lv' := [(6, .int (iI (i7 + 1))), (4, .int (iI (sum7 + (sg7 * he)))), (5, .int (iI sg7)), (0, .ref x), (1, .ref row), (2, .int (iI fr_)), (3, .int (iI to_))]) dX13_valueOf_312 rfl (iI_add _ _) (by rw [hnL]; decide) rfl ?_
      refine v_goto hX (tgt := 14) dX13_valueOf_315 (by decide) ?_
      refine v_locals (lv' := [(6, .int (iI (i7 + 1))), (5, .int (iI sg7)), (4, .int (iI (sum7 + (sg7 * he)))), (0, .ref x), (1, .ref row), (2, .int (iI fr_)), (3, .int (iI to_))]) (by simp) ?_
      exact ih14 _ (by omega) _ bb7 (i7 + 1) sg7 (sum7 + (sg7 * he)) (fr297.sI (by decide)) (by simp (disch := omega) only [q_I_s_J, q_I_s_P, q_I_s_A, q_I_s_B, q_I_s_C, q_I_n_A, q_I_r_A, q_I_r_B, y_I_s_I, x_I_s_I, y_I_n_O, x_I_n_O, e297_st_, e297_wo, e297_he]) ⟨by omega, by omega⟩ (by omega) rfl
    have L174 : ∀ (n174 : Nat) (S174c : b_M) (u4 : Int) (i4 : Int) (nm : Int) (hx : Int) (sg4 : Int) (sum4 : Int), mFr [1162] [] [] S S174c x → m_I S174c 1162 x = iI u4 → (-2147483648 ≤ u4 ∧ u4 < 2147483648) → (i1 ≤ i4 ∧ i4 ≤ to_ ∧ (hx = 0 ∨ hx = 1) ∧ (u4 = 0 ∨ u4 = 1) ∧ (i1 < i4 ∨ (48 ≤ rAt S row i4 ∧ rAt S row i4 ≤ 57)) ∧ i1 < to_) → (to_ - i4).toNat = n174 → b_V X S174c z 0 0 174 [(6, .int (iI i4)), (9, .int (iI nm)), (8, .int (iI hx)), (5, .int (iI sg4)), (4, .int (iI sum4)), (0, .ref x), (1, .ref row), (2, .int (iI fr_)), (3, .int (iI to_))] [] := by
      intro n174
      induction n174 using Nat.strongRecOn with
      | _ n174 ih174 =>
      intro S174c u4 i4 nm hx sg4 sum4 fr174 e_u4 b_u4 p174_0 hm174
      have h174c : mS S174c x := fr174.keep h
      have hc174_35 : ∀ i, rAt S174c (x + 35) i = rAt S (x + 35) i := fun i => (fr174.1 (x + 35) (by omega) (fun j hj => absurd hj List.not_mem_nil)).rA i
      have hc174_34 : ∀ i, rAt S174c (x + 34) i = rAt S (x + 34) i := fun i => (fr174.1 (x + 34) (by omega) (fun j hj => absurd hj List.not_mem_nil)).rA i
      have hc174_row : ∀ i, rAt S174c row i = rAt S row i := fun i => (fr174.1 row rowx (fun j hj => absurd hj List.not_mem_nil)).rA i
      have rowK174 : m_K S174c row = 13 := (fr174.2.2.2.2.2.1 row).trans rowK
      have rowL174 : m_L S174c row = Lr := (fr174.2.2.2.2.2.2 row).trans rowL
      have e174_st_ : m_I S174c 1128 x = iI st_ := (fr174.2.2.2.1 1128 (by decide)).trans e_st_
      have e174_wo : m_I S174c 1163 x = iI wo := (fr174.2.2.2.1 1163 (by decide)).trans e_wo
      have e174_he : m_I S174c 1164 x = iI he := (fr174.2.2.2.1 1164 (by decide)).trans e_he
      have L206 : ∀ (S206c : b_M) (u6 : Int) (i6 : Int) (nm6 : Int) (hx6 : Int) (sg6 : Int) (sum6 : Int), mFr [1162] [] [] S S206c x → m_I S206c 1162 x = iI u6 → (-2147483648 ≤ u6 ∧ u6 < 2147483648) → (i6 = i4 ∧ i1 ≤ i6 ∧ i6 < to_ ∧ (hx6 = 0 ∨ hx6 = 1) ∧ (u6 = 0 ∨ u6 = 1)) → b_V X S206c z 0 0 206 [(6, .int (iI i6)), (9, .int (iI nm6)), (8, .int (iI hx6)), (5, .int (iI sg6)), (4, .int (iI sum6)), (0, .ref x), (1, .ref row), (2, .int (iI fr_)), (3, .int (iI to_))] [] := by
        intro S206c u6 i6 nm6 hx6 sg6 sum6 fr206 e_u6 b_u6 p206_0
        have h206c : mS S206c x := fr206.keep h
        have hc206_35 : ∀ i, rAt S206c (x + 35) i = rAt S (x + 35) i := fun i => (fr206.1 (x + 35) (by omega) (fun j hj => absurd hj List.not_mem_nil)).rA i
        have hc206_34 : ∀ i, rAt S206c (x + 34) i = rAt S (x + 34) i := fun i => (fr206.1 (x + 34) (by omega) (fun j hj => absurd hj List.not_mem_nil)).rA i
        have hc206_row : ∀ i, rAt S206c row i = rAt S row i := fun i => (fr206.1 row rowx (fun j hj => absurd hj List.not_mem_nil)).rA i
        have rowK206 : m_K S206c row = 13 := (fr206.2.2.2.2.2.1 row).trans rowK
        have rowL206 : m_L S206c row = Lr := (fr206.2.2.2.2.2.2 row).trans rowL
        have e206_st_ : m_I S206c 1128 x = iI st_ := (fr206.2.2.2.1 1128 (by decide)).trans e_st_
        have e206_wo : m_I S206c 1163 x = iI wo := (fr206.2.2.2.1 1163 (by decide)).trans e_wo
        have e206_he : m_I S206c 1164 x = iI he := (fr206.2.2.2.1 1164 (by decide)).trans e_he
        refine v_iload hX dX13_valueOf_206 rfl ?_
        refine u_if_eq hX (tgt := 216) dX13_valueOf_208 (by decide) ⟨by omega, by omega⟩ (fun h1_ => ?_) (fun h1_ => ?_)
        ·
          refine v_bipush hX (v := iI 10) dX13_valueOf_216 (by decide) ?_
          refine v_iload hX dX13_valueOf_218 rfl ?_
          refine u_imul hX dX13_valueOf_220 ?_
          refine v_aload_n hX dX13_valueOf_221 (i := 1) rfl rfl ?_
          refine v_iload hX dX13_valueOf_222 rfl ?_
          refine u_iald hX (L := Lr) rowK206 rowL206 ⟨by omega, by omega⟩ rowB dX13_valueOf_224 (fun v2_ e_v2_ b_v2_ => ?_)
          try simp (disch := omega) only [rA_I, rA_J, rA_B, rA_A, lA_I, lA_J, lA_A, lA_B, hc206_35, hc206_34, hc206_row] at e_v2_
          refine v_callS hX (n := 1) (k_isDigit (S := S206c) (x := 0) (c := v2_) ⟨by omega, by omega⟩) w_7_2 w_7_3 w_1_16 w_7_4 (by decide +kernel) rfl ⟨by decide, by decide⟩ ⟨by omega, by omega⟩ (Nat.le_of_ble_eq_true rfl) rfl dX13_valueOf_225 (fun _ _ _ q => q) ?_
          rintro r3_ S3_ z3_ ⟨rfl, rfl, v4_, rfl, b_v4_, q3_⟩
          refine u_if_eq hX (tgt := 241) dX13_valueOf_228 (by decide) ⟨by omega, by omega⟩ (fun h5_ => ?_) (fun h5_ => ?_)
          ·
            refine v_aload_n hX dX13_valueOf_241 (i := 1) rfl rfl ?_
            refine v_iload hX dX13_valueOf_242 rfl ?_
            refine u_iald hX (L := Lr) rowK206 rowL206 ⟨by omega, by omega⟩ rowB dX13_valueOf_244 (fun v6_ e_v6_ b_v6_ => ?_)
            try simp (disch := omega) only [rA_I, rA_J, rA_B, rA_A, lA_I, lA_J, lA_A, lA_B, hc206_35, hc206_34, hc206_row] at e_v6_
            refine v_bipush hX (v := iI 87) dX13_valueOf_245 (by decide) ?_
            refine u_isub hX dX13_valueOf_247 ?_
            refine u_iadd hX dX13_valueOf_248 ?_
            refine v_istore hX (lv' := [(9, .int (iI ((10 * nm6) + (v6_ - 87)))), (6, .int (iI i6)), (8, .int (iI hx6)), (5, .int (iI sg6)), (4, .int (iI sum6)), (0, .ref x), (1, .ref row), (2, .int (iI fr_)), (3, .int (iI to_))]) dX13_valueOf_249 (by rw [hnL]; decide) rfl ?_
            refine v_iinc hX (v := iI (i6 + 1)) (lv' := [(6, .int (iI (i6 + 1))), (9, .int (iI ((10 * nm6) + (v6_ - 87)))), (8, .int (iI hx6)), (5, .int (iI sg6)), (4, .int (iI sum6)), (0, .ref x), (1, .ref row), (2, .int (iI fr_)), (3, .int (iI to_))]) dX13_valueOf_251 rfl (iI_add _ _) (by rw [hnL]; decide) rfl ?_
            refine v_goto hX (tgt := 174) dX13_valueOf_254 (by decide) ?_
            exact ih174 _ (by omega) _ u6 (i6 + 1) ((10 * nm6) + (v6_ - 87)) hx6 sg6 sum6 fr206 (by simp (disch := omega) only [q_I_s_J, q_I_s_P, q_I_s_A, q_I_s_B, q_I_s_C, q_I_n_A, q_I_r_A, q_I_r_B, y_I_s_I, x_I_s_I, y_I_n_O, x_I_n_O, e206_st_, e206_wo, e206_he, e_u6]) ⟨by omega, by omega⟩ (by omega) rfl
          ·
            refine v_aload_n hX dX13_valueOf_231 (i := 1) rfl rfl ?_
            refine v_iload hX dX13_valueOf_232 rfl ?_
            refine u_iald hX (L := Lr) rowK206 rowL206 ⟨by omega, by omega⟩ rowB dX13_valueOf_234 (fun v7_ e_v7_ b_v7_ => ?_)
            try simp (disch := omega) only [rA_I, rA_J, rA_B, rA_A, lA_I, lA_J, lA_A, lA_B, hc206_35, hc206_34, hc206_row] at e_v7_
            refine v_bipush hX (v := iI 48) dX13_valueOf_235 (by decide) ?_
            refine u_isub hX dX13_valueOf_237 ?_
            refine v_goto hX (tgt := 248) dX13_valueOf_238 (by decide) ?_
            refine u_iadd hX dX13_valueOf_248 ?_
            refine v_istore hX (lv' := [(9, .int (iI ((10 * nm6) + (v7_ - 48)))), (6, .int (iI i6)), (8, .int (iI hx6)), (5, .int (iI sg6)), (4, .int (iI sum6)), (0, .ref x), (1, .ref row), (2, .int (iI fr_)), (3, .int (iI to_))]) dX13_valueOf_249 (by rw [hnL]; decide) rfl ?_
            refine v_iinc hX (v := iI (i6 + 1)) (lv' := [(6, .int (iI (i6 + 1))), (9, .int (iI ((10 * nm6) + (v7_ - 48)))), (8, .int (iI hx6)), (5, .int (iI sg6)), (4, .int (iI sum6)), (0, .ref x), (1, .ref row), (2, .int (iI fr_)), (3, .int (iI to_))]) dX13_valueOf_251 rfl (iI_add _ _) (by rw [hnL]; decide) rfl ?_
            refine v_goto hX (tgt := 174) dX13_valueOf_254 (by decide) ?_
            exact ih174 _ (by omega) _ u6 (i6 + 1) ((10 * nm6) + (v7_ - 48)) hx6 sg6 sum6 fr206 (by simp (disch := omega) only [q_I_s_J, q_I_s_P, q_I_s_A, q_I_s_B, q_I_s_C, q_I_n_A, q_I_r_A, q_I_r_B, y_I_s_I, x_I_s_I, y_I_n_O, x_I_n_O, e206_st_, e206_wo, e206_he, e_u6]) ⟨by omega, by omega⟩ (by omega) rfl
        ·
          refine v_bipush hX (v := iI 16) dX13_valueOf_211 (by decide) ?_
          refine v_goto hX (tgt := 218) dX13_valueOf_213 (by decide) ?_
          refine v_iload hX dX13_valueOf_218 rfl ?_
          refine u_imul hX dX13_valueOf_220 ?_
          refine v_aload_n hX dX13_valueOf_221 (i := 1) rfl rfl ?_
          refine v_iload hX dX13_valueOf_222 rfl ?_
          refine u_iald hX (L := Lr) rowK206 rowL206 ⟨by omega, by omega⟩ rowB dX13_valueOf_224 (fun v8_ e_v8_ b_v8_ => ?_)
          try simp (disch := omega) only [rA_I, rA_J, rA_B, rA_A, lA_I, lA_J, lA_A, lA_B, hc206_35, hc206_34, hc206_row] at e_v8_
          refine v_callS hX (n := 1) (k_isDigit (S := S206c) (x := 0) (c := v8_) ⟨by omega, by omega⟩) w_7_2 w_7_3 w_1_16 w_7_4 (by decide +kernel) rfl ⟨by decide, by decide⟩ ⟨by omega, by omega⟩ (Nat.le_of_ble_eq_true rfl) rfl dX13_valueOf_225 (fun _ _ _ q => q) ?_
          rintro r9_ S9_ z9_ ⟨rfl, rfl, v10_, rfl, b_v10_, q9_⟩
          refine u_if_eq hX (tgt := 241) dX13_valueOf_228 (by decide) ⟨by omega, by omega⟩ (fun h11_ => ?_) (fun h11_ => ?_)
          ·
            refine v_aload_n hX dX13_valueOf_241 (i := 1) rfl rfl ?_
            refine v_iload hX dX13_valueOf_242 rfl ?_
            refine u_iald hX (L := Lr) rowK206 rowL206 ⟨by omega, by omega⟩ rowB dX13_valueOf_244 (fun v12_ e_v12_ b_v12_ => ?_)
            try simp (disch := omega) only [rA_I, rA_J, rA_B, rA_A, lA_I, lA_J, lA_A, lA_B, hc206_35, hc206_34, hc206_row] at e_v12_
            refine v_bipush hX (v := iI 87) dX13_valueOf_245 (by decide) ?_
            refine u_isub hX dX13_valueOf_247 ?_
            refine u_iadd hX dX13_valueOf_248 ?_
            refine v_istore hX (lv' := [(9, .int (iI ((16 * nm6) + (v12_ - 87)))), (6, .int (iI i6)), (8, .int (iI hx6)), (5, .int (iI sg6)), (4, .int (iI sum6)), (0, .ref x), (1, .ref row), (2, .int (iI fr_)), (3, .int (iI to_))]) dX13_valueOf_249 (by rw [hnL]; decide) rfl ?_
            refine v_iinc hX (v := iI (i6 + 1)) (lv' := [(6, .int (iI (i6 + 1))), (9, .int (iI ((16 * nm6) + (v12_ - 87)))), (8, .int (iI hx6)), (5, .int (iI sg6)), (4, .int (iI sum6)), (0, .ref x), (1, .ref row), (2, .int (iI fr_)), (3, .int (iI to_))]) dX13_valueOf_251 rfl (iI_add _ _) (by rw [hnL]; decide) rfl ?_
            refine v_goto hX (tgt := 174) dX13_valueOf_254 (by decide) ?_
            exact ih174 _ (by omega) _ u6 (i6 + 1) ((16 * nm6) + (v12_ - 87)) hx6 sg6 sum6 fr206 (by simp (disch := omega) only [q_I_s_J, q_I_s_P, q_I_s_A, q_I_s_B, q_I_s_C, q_I_n_A, q_I_r_A, q_I_r_B, y_I_s_I, x_I_s_I, y_I_n_O, x_I_n_O, e206_st_, e206_wo, e206_he, e_u6]) ⟨by omega, by omega⟩ (by omega) rfl
          ·
            refine v_aload_n hX dX13_valueOf_231 (i := 1) rfl rfl ?_
            refine v_iload hX dX13_valueOf_232 rfl ?_
            refine u_iald hX (L := Lr) rowK206 rowL206 ⟨by omega, by omega⟩ rowB dX13_valueOf_234 (fun v13_ e_v13_ b_v13_ => ?_)
            try simp (disch := omega) only [rA_I, rA_J, rA_B, rA_A, lA_I, lA_J, lA_A, lA_B, hc206_35, hc206_34, hc206_row] at e_v13_
            refine v_bipush hX (v := iI 48) dX13_valueOf_235 (by decide) ?_
            refine u_isub hX dX13_valueOf_237 ?_
            refine v_goto hX (tgt := 248) dX13_valueOf_238 (by decide) ?_
            refine u_iadd hX dX13_valueOf_248 ?_
            refine v_istore hX (lv' := [(9, .int (iI ((16 * nm6) + (v13_ - 48)))), (6, .int (iI i6)), (8, .int (iI hx6)), (5, .int (iI sg6)), (4, .int (iI sum6)), (0, .ref x), (1, .ref row), (2, .int (iI fr_)), (3, .int (iI to_))]) dX13_valueOf_249 (by rw [hnL]; decide) rfl ?_
            refine v_iinc hX (v := iI (i6 + 1)) (lv' := [(6, .int (iI (i6 + 1))), (9, .int (iI ((16 * nm6) + (v13_ - 48)))), (8, .int (iI hx6)), (5, .int (iI sg6)), (4, .int (iI sum6)), (0, .ref x), (1, .ref row), (2, .int (iI fr_)), (3, .int (iI to_))]) dX13_valueOf_251 rfl (iI_add _ _) (by rw [hnL]; decide) rfl ?_
            refine v_goto hX (tgt := 174) dX13_valueOf_254 (by decide) ?_
            exact ih174 _ (by omega) _ u6 (i6 + 1) ((16 * nm6) + (v13_ - 48)) hx6 sg6 sum6 fr206 (by simp (disch := omega) only [q_I_s_J, q_I_s_P, q_I_s_A, q_I_s_B, q_I_s_C, q_I_n_A, q_I_r_A, q_I_r_B, y_I_s_I, x_I_s_I, y_I_n_O, x_I_n_O, e206_st_, e206_wo, e206_he, e_u6]) ⟨by omega, by omega⟩ (by omega) rfl
      refine v_iload hX dX13_valueOf_174 rfl ?_
      refine v_iload_n hX dX13_valueOf_176 (i := 3) rfl rfl ?_
      refine u_icmp_ge hX (tgt := 257) dX13_valueOf_177 (by decide) ⟨by omega, by omega⟩ ⟨by omega, by omega⟩ (fun h14_ => ?_) (fun h14_ => ?_)
      ·
        refine v_iload hX dX13_valueOf_257 rfl ?_
        refine v_iload hX dX13_valueOf_259 rfl ?_
        refine v_iload hX dX13_valueOf_261 rfl ?_
        refine u_imul hX dX13_valueOf_263 ?_
        refine u_iadd hX dX13_valueOf_264 ?_
        refine v_istore hX (lv' := [(4, .int (iI (sum4 + (sg4 * nm)))), (6, .int (iI i4)), (9, .int (iI nm)), (8, .int (iI hx)), (5, .int (iI sg4)), (0, .ref x), (1, .ref row), (2, .int (iI fr_)), (3, .int (iI to_))]) dX13_valueOf_265 (by rw [hnL]; decide) rfl ?_
        refine v_goto hX (tgt := 315) dX13_valueOf_267 (by decide) ?_
        refine v_goto hX (tgt := 14) dX13_valueOf_315 (by decide) ?_
        refine v_locals (lv' := [(6, .int (iI i4)), (5, .int (iI sg4)), (4, .int (iI (sum4 + (sg4 * nm)))), (0, .ref x), (1, .ref row), (2, .int (iI fr_)), (3, .int (iI to_))]) (by simp) ?_
        exact ih14 _ (by omega) _ u4 i4 sg4 (sum4 + (sg4 * nm)) fr174 (by simp (disch := omega) only [q_I_s_J, q_I_s_P, q_I_s_A, q_I_s_B, q_I_s_C, q_I_n_A, q_I_r_A, q_I_r_B, y_I_s_I, x_I_s_I, y_I_n_O, x_I_n_O, e174_st_, e174_wo, e174_he, e_u4]) ⟨by omega, by omega⟩ (by omega) rfl
      ·
        refine v_aload_n hX dX13_valueOf_180 (i := 1) rfl rfl ?_
        refine v_iload hX dX13_valueOf_181 rfl ?_
        refine u_iald hX (L := Lr) rowK174 rowL174 ⟨by omega, by omega⟩ rowB dX13_valueOf_183 (fun v15_ e_v15_ b_v15_ => ?_)
        try simp (disch := omega) only [rA_I, rA_J, rA_B, rA_A, lA_I, lA_J, lA_A, lA_B, hc174_35, hc174_34, hc174_row] at e_v15_
        refine v_callS hX (n := 1) (k_isDigit (S := S174c) (x := 0) (c := v15_) ⟨by omega, by omega⟩) w_7_2 w_7_3 w_1_16 w_7_4 (by decide +kernel) rfl ⟨by decide, by decide⟩ ⟨by omega, by omega⟩ (Nat.le_of_ble_eq_true rfl) rfl dX13_valueOf_184 (fun _ _ _ q => q) ?_
        rintro r16_ S16_ z16_ ⟨rfl, rfl, v17_, rfl, b_v17_, q16_⟩
        refine u_if_ne hX (tgt := 206) dX13_valueOf_187 (by decide) ⟨by omega, by omega⟩ (fun h18_ => ?_) (fun h18_ => ?_)
        ·
          exact L206 _ u4 i4 nm hx sg4 sum4 fr174 (by simp (disch := omega) only [q_I_s_J, q_I_s_P, q_I_s_A, q_I_s_B, q_I_s_C, q_I_n_A, q_I_r_A, q_I_r_B, y_I_s_I, x_I_s_I, y_I_n_O, x_I_n_O, e174_st_, e174_wo, e174_he, e_u4]) ⟨by omega, by omega⟩ (by omega)
        ·
          refine v_iload hX dX13_valueOf_190 rfl ?_
          refine u_if_eq hX (tgt := 257) dX13_valueOf_192 (by decide) ⟨by omega, by omega⟩ (fun h19_ => ?_) (fun h19_ => ?_)
          ·
            refine v_iload hX dX13_valueOf_257 rfl ?_
            refine v_iload hX dX13_valueOf_259 rfl ?_
            refine v_iload hX dX13_valueOf_261 rfl ?_
            refine u_imul hX dX13_valueOf_263 ?_
            refine u_iadd hX dX13_valueOf_264 ?_
            refine v_istore hX (lv' := [(4, .int (iI (sum4 + (sg4 * nm)))), (6, .int (iI i4)), (9, .int (iI nm)), (8, .int (iI hx)), (5, .int (iI sg4)), (0, .ref x), (1, .ref row), (2, .int (iI fr_)), (3, .int (iI to_))]) dX13_valueOf_265 (by rw [hnL]; decide) rfl ?_
            refine v_goto hX (tgt := 315) dX13_valueOf_267 (by decide) ?_
            refine v_goto hX (tgt := 14) dX13_valueOf_315 (by decide) ?_
            refine v_locals (lv' := [(6, .int (iI i4)), (5, .int (iI sg4)), (4, .int (iI (sum4 + (sg4 * nm)))), (0, .ref x), (1, .ref row), (2, .int (iI fr_)), (3, .int (iI to_))]) (by simp) ?_
            exact ih14 _ (by omega) _ u4 i4 sg4 (sum4 + (sg4 * nm)) fr174 (by simp (disch := omega) only [q_I_s_J, q_I_s_P, q_I_s_A, q_I_s_B, q_I_s_C, q_I_n_A, q_I_r_A, q_I_r_B, y_I_s_I, x_I_s_I, y_I_n_O, x_I_n_O, e174_st_, e174_wo, e174_he, e_u4]) ⟨by omega, by omega⟩ (by omega) rfl
          ·
            refine v_aload_n hX dX13_valueOf_195 (i := 0) rfl rfl ?_
            refine v_aload_n hX dX13_valueOf_196 (i := 1) rfl rfl ?_
            refine v_iload hX dX13_valueOf_197 rfl ?_
            refine u_iald hX (L := Lr) rowK174 rowL174 ⟨by omega, by omega⟩ rowB dX13_valueOf_199 (fun v20_ e_v20_ b_v20_ => ?_)
            try simp (disch := omega) only [rA_I, rA_J, rA_B, rA_A, lA_I, lA_J, lA_A, lA_B, hc174_35, hc174_34, hc174_row] at e_v20_
            refine v_callV hX (n := 1) (k_isHex (S := S174c) (x := x) (c := v20_) h174c ⟨by omega, by omega⟩) (ms_kx h174c) bc_11 (by decide) w_7_130 w_7_132 (bw_p (q := (yX13_isHex, 72)) (List.mem_of_getElem? (i := 73) rfl) rfl) w_1_16 w_7_133 (by decide +kernel) rfl ⟨by decide, by decide⟩ ⟨by omega, by omega⟩ (Nat.le_of_ble_eq_true rfl) rfl dX13_valueOf_200 (fun _ _ _ q => q) ?_
            rintro r21_ S21_ z21_ ⟨rfl, rfl, v22_, rfl, b_v22_, q21_⟩
            refine u_if_eq hX (tgt := 257) dX13_valueOf_203 (by decide) ⟨by omega, by omega⟩ (fun h23_ => ?_) (fun h23_ => ?_)
            ·
              refine v_iload hX dX13_valueOf_257 rfl ?_
              refine v_iload hX dX13_valueOf_259 rfl ?_
              refine v_iload hX dX13_valueOf_261 rfl ?_
              refine u_imul hX dX13_valueOf_263 ?_
              refine u_iadd hX dX13_valueOf_264 ?_
              refine v_istore hX (lv' := [(4, .int (iI (sum4 + (sg4 * nm)))), (6, .int (iI i4)), (9, .int (iI nm)), (8, .int (iI hx)), (5, .int (iI sg4)), (0, .ref x), (1, .ref row), (2, .int (iI fr_)), (3, .int (iI to_))]) dX13_valueOf_265 (by rw [hnL]; decide) rfl ?_
              refine v_goto hX (tgt := 315) dX13_valueOf_267 (by decide) ?_
              refine v_goto hX (tgt := 14) dX13_valueOf_315 (by decide) ?_
              refine v_locals (lv' := [(6, .int (iI i4)), (5, .int (iI sg4)), (4, .int (iI (sum4 + (sg4 * nm)))), (0, .ref x), (1, .ref row), (2, .int (iI fr_)), (3, .int (iI to_))]) (by simp) ?_
              exact ih14 _ (by omega) _ u4 i4 sg4 (sum4 + (sg4 * nm)) fr174 (by simp (disch := omega) only [q_I_s_J, q_I_s_P, q_I_s_A, q_I_s_B, q_I_s_C, q_I_n_A, q_I_r_A, q_I_r_B, y_I_s_I, x_I_s_I, y_I_n_O, x_I_n_O, e174_st_, e174_wo, e174_he, e_u4]) ⟨by omega, by omega⟩ (by omega) rfl
            ·
              exact L206 _ u4 i4 nm hx sg4 sum4 fr174 (by simp (disch := omega) only [q_I_s_J, q_I_s_P, q_I_s_A, q_I_s_B, q_I_s_C, q_I_n_A, q_I_r_A, q_I_r_B, y_I_s_I, x_I_s_I, y_I_n_O, x_I_n_O, e174_st_, e174_wo, e174_he, e_u4]) ⟨by omega, by omega⟩ (by omega)
    have L153 : ∀ (S153c : b_M) (u5 : Int) (c5 : Int) (i5 : Int) (sg5 : Int) (sum5 : Int) (hx5 : Int), mFr [1162] [] [] S S153c x → m_I S153c 1162 x = iI u5 → (-2147483648 ≤ u5 ∧ u5 < 2147483648) → (i5 = i1 ∧ i5 < to_ ∧ (hx5 = 0 ∨ (hx5 = 1 ∧ i5 + 1 < to_)) ∧ (u5 = 0 ∨ u5 = 1) ∧ 48 ≤ rAt S row i5 ∧ rAt S row i5 ≤ 57) → b_V X S153c z 0 0 153 [(7, .int (iI c5)), (6, .int (iI i5)), (5, .int (iI sg5)), (4, .int (iI sum5)), (0, .ref x), (1, .ref row), (2, .int (iI fr_)), (3, .int (iI to_))] [.int (iI hx5)] := by
      intro S153c u5 c5 i5 sg5 sum5 hx5 fr153 e_u5 b_u5 p153_0
      have h153c : mS S153c x := fr153.keep h
      have hc153_35 : ∀ i, rAt S153c (x + 35) i = rAt S (x + 35) i := fun i => (fr153.1 (x + 35) (by omega) (fun j hj => absurd hj List.not_mem_nil)).rA i
      have hc153_34 : ∀ i, rAt S153c (x + 34) i = rAt S (x + 34) i := fun i => (fr153.1 (x + 34) (by omega) (fun j hj => absurd hj List.not_mem_nil)).rA i
      have hc153_row : ∀ i, rAt S153c row i = rAt S row i := fun i => (fr153.1 row rowx (fun j hj => absurd hj List.not_mem_nil)).rA i
      have rowK153 : m_K S153c row = 13 := (fr153.2.2.2.2.2.1 row).trans rowK
      have rowL153 : m_L S153c row = Lr := (fr153.2.2.2.2.2.2 row).trans rowL
      have e153_st_ : m_I S153c 1128 x = iI st_ := (fr153.2.2.2.1 1128 (by decide)).trans e_st_
      have e153_wo : m_I S153c 1163 x = iI wo := (fr153.2.2.2.1 1163 (by decide)).trans e_wo
      have e153_he : m_I S153c 1164 x = iI he := (fr153.2.2.2.1 1164 (by decide)).trans e_he
      refine v_istore hX (lv' := [(8, .int (iI hx5)), (7, .int (iI c5)), (6, .int (iI i5)), (5, .int (iI sg5)), (4, .int (iI sum5)), (0, .ref x), (1, .ref row), (2, .int (iI fr_)), (3, .int (iI to_))]) dX13_valueOf_153 (by rw [hnL]; decide) rfl ?_
      refine v_iconst hX (v := iI 0) dX13_valueOf_155 rfl ?_
      refine v_istore hX (lv' := [(9, .int (iI 0)), (8, .int (iI hx5)), (7, .int (iI c5)), (6, .int (iI i5)), (5, .int (iI sg5)), (4, .int (iI sum5)), (0, .ref x), (1, .ref row), (2, .int (iI fr_)), (3, .int (iI to_))]) dX13_valueOf_156 (by rw [hnL]; decide) rfl ?_
      refine v_iload hX dX13_valueOf_158 rfl ?_
      refine u_if_eq hX (tgt := 170) dX13_valueOf_160 (by decide) ⟨by omega, by omega⟩ (fun h24_ => ?_) (fun h24_ => ?_)
      ·
        refine v_iload hX dX13_valueOf_170 rfl ?_
        refine v_istore hX (lv' := [(6, .int (iI i5)), (9, .int (iI 0)), (8, .int (iI hx5)), (7, .int (iI c5)), (5, .int (iI sg5)), (4, .int (iI sum5)), (0, .ref x), (1, .ref row), (2, .int (iI fr_)), (3, .int (iI to_))]) dX13_valueOf_172 (by rw [hnL]; decide) rfl ?_
        refine v_locals (lv' := [(6, .int (iI i5)), (9, .int (iI 0)), (8, .int (iI hx5)), (5, .int (iI sg5)), (4, .int (iI sum5)), (0, .ref x), (1, .ref row), (2, .int (iI fr_)), (3, .int (iI to_))]) (by simp) ?_
        exact L174 _ _ u5 i5 0 hx5 sg5 sum5 fr153 (by simp (disch := omega) only [q_I_s_J, q_I_s_P, q_I_s_A, q_I_s_B, q_I_s_C, q_I_n_A, q_I_r_A, q_I_r_B, y_I_s_I, x_I_s_I, y_I_n_O, x_I_n_O, e153_st_, e153_wo, e153_he, e_u5]) ⟨by omega, by omega⟩ (by omega) rfl
      ·
        refine v_iload hX dX13_valueOf_163 rfl ?_
        refine v_iconst hX (v := iI 2) dX13_valueOf_165 rfl ?_
        refine u_iadd hX dX13_valueOf_166 ?_
        refine v_goto hX (tgt := 172) dX13_valueOf_167 (by decide) ?_
        refine v_istore hX (lv' := [(6, .int (iI (i5 + 2))), (9, .int (iI 0)), (8, .int (iI hx5)), (7, .int (iI c5)), (5, .int (iI sg5)), (4, .int (iI sum5)), (0, .ref x), (1, .ref row), (2, .int (iI fr_)), (3, .int (iI to_))]) dX13_valueOf_172 (by rw [hnL]; decide) rfl ?_
        refine v_locals (lv' := [(6, .int (iI (i5 + 2))), (9, .int (iI 0)), (8, .int (iI hx5)), (5, .int (iI sg5)), (4, .int (iI sum5)), (0, .ref x), (1, .ref row), (2, .int (iI fr_)), (3, .int (iI to_))]) (by simp) ?_
        exact L174 _ _ u5 (i5 + 2) 0 hx5 sg5 sum5 fr153 (by simp (disch := omega) only [q_I_s_J, q_I_s_P, q_I_s_A, q_I_s_B, q_I_s_C, q_I_n_A, q_I_r_A, q_I_r_B, y_I_s_I, x_I_s_I, y_I_n_O, x_I_n_O, e153_st_, e153_wo, e153_he, e_u5]) ⟨by omega, by omega⟩ (by omega) rfl
    have L65 : ∀ (n65 : Nat) (S65c : b_M) (u2 : Int) (w : Int) (i2 : Int) (sg2 : Int) (sum2 : Int) (k0 : Int), mFr [1162] [] [] S S65c x → m_I S65c 1162 x = iI u2 → (-2147483648 ≤ u2 ∧ u2 < 2147483648) → (i2 - k0 ≤ 10 ∧ i1 < to_ ∧ k0 = i1 ∧ fr_ ≤ k0 ∧ k0 ≤ i2 ∧ i2 ≤ to_ ∧ (u2 = 0 ∨ u2 = 1) ∧ (k0 < i2 ∨ ((97 ≤ rAt S row i2 ∧ rAt S row i2 ≤ 122) ∨ rAt S row i2 = 95))) → (wb (i2 - k0) w) → (∀ j : Int, k0 ≤ j → j < i2 → prt (rAt S row j)) → (to_ - i2).toNat = n65 → b_V X S65c z 0 0 65 [(8, .long (jJ w)), (6, .int (iI i2)), (5, .int (iI sg2)), (4, .int (iI sum2)), (0, .ref x), (1, .ref row), (2, .int (iI fr_)), (3, .int (iI to_))] [] := by
      intro n65
      induction n65 using Nat.strongRecOn with
      | _ n65 ih65 =>
      intro S65c u2 w i2 sg2 sum2 k0 fr65 e_u2 b_u2 p65_0 p65_1 p65_2 hm65
      have h65c : mS S65c x := fr65.keep h
      have hc65_35 : ∀ i, rAt S65c (x + 35) i = rAt S (x + 35) i := fun i => (fr65.1 (x + 35) (by omega) (fun j hj => absurd hj List.not_mem_nil)).rA i
      have hc65_34 : ∀ i, rAt S65c (x + 34) i = rAt S (x + 34) i := fun i => (fr65.1 (x + 34) (by omega) (fun j hj => absurd hj List.not_mem_nil)).rA i
      have hc65_row : ∀ i, rAt S65c row i = rAt S row i := fun i => (fr65.1 row rowx (fun j hj => absurd hj List.not_mem_nil)).rA i
      have rowK65 : m_K S65c row = 13 := (fr65.2.2.2.2.2.1 row).trans rowK
      have rowL65 : m_L S65c row = Lr := (fr65.2.2.2.2.2.2 row).trans rowL
      have e65_st_ : m_I S65c 1128 x = iI st_ := (fr65.2.2.2.1 1128 (by decide)).trans e_st_
      have e65_wo : m_I S65c 1163 x = iI wo := (fr65.2.2.2.1 1163 (by decide)).trans e_wo
      have e65_he : m_I S65c 1164 x = iI he := (fr65.2.2.2.1 1164 (by decide)).trans e_he
      refine v_iload hX dX13_valueOf_65 rfl ?_
      refine v_iload_n hX dX13_valueOf_67 (i := 3) rfl rfl ?_
      refine u_icmp_ge hX (tgt := 104) dX13_valueOf_68 (by decide) ⟨by omega, by omega⟩ ⟨by omega, by omega⟩ (fun h25_ => ?_) (fun h25_ => ?_)
      ·
        have wl_ := wb_lt p65_1
        refine v_iload hX dX13_valueOf_104 rfl ?_
        refine v_iload hX dX13_valueOf_106 rfl ?_
        refine v_aload_n hX dX13_valueOf_108 (i := 0) rfl rfl ?_
        refine v_lload hX dX13_valueOf_109 rfl ?_
        refine v_callV hX (n := 1) (k_valueOfName (S := S65c) (x := x) (v := w) (st_ := st_) (un := u2) h65c (by simp (disch := omega) only [q_I_s_J, q_I_s_P, q_I_s_A, q_I_s_B, q_I_s_C, q_I_n_A, q_I_r_A, q_I_r_B, y_I_s_I, x_I_s_I, y_I_n_O, x_I_n_O, e65_st_, e65_wo, e65_he, e_u2]) ⟨by omega, by omega⟩ (by simp (disch := omega) only [q_I_s_J, q_I_s_P, q_I_s_A, q_I_s_B, q_I_s_C, q_I_n_A, q_I_r_A, q_I_r_B, y_I_s_I, x_I_s_I, y_I_n_O, x_I_n_O, e65_st_, e65_wo, e65_he, e_u2]) ⟨by omega, by omega⟩ ⟨by omega, by omega⟩ (so.c (fun i => hc65_35 i) (fun i => hc65_34 i)) (by omega)) (ms_kx h65c) bc_11 (by decide) w_7_138 w_7_140 (bw_p (q := (yX13_valueOfName, 72)) (List.mem_of_getElem? (i := 75) rfl) rfl) w_1_16 w_7_141 (by decide +kernel) rfl ⟨by decide, by decide⟩ ⟨by omega, by omega⟩ (Nat.le_of_ble_eq_true rfl) rfl dX13_valueOf_111 (fun _ _ _ q => q) ?_
        rintro r26_ S26_ z26_ ⟨rfl, f26_, v27_, v28_, rfl, b_v27_, e_v28_, b_v28_, q26_⟩
        have e26_1128 : m_I S26_ 1128 x = iI st_ := (f26_.2.2.2.1 1128 (by decide)).trans (by simp (disch := omega) only [q_I_s_J, q_I_s_P, q_I_s_A, q_I_s_B, q_I_s_C, q_I_n_A, q_I_r_A, q_I_r_B, y_I_s_I, x_I_s_I, y_I_n_O, x_I_n_O, e65_st_, e65_wo, e65_he, e_u2])
        have e26_1163 : m_I S26_ 1163 x = iI wo := (f26_.2.2.2.1 1163 (by decide)).trans (by simp (disch := omega) only [q_I_s_J, q_I_s_P, q_I_s_A, q_I_s_B, q_I_s_C, q_I_n_A, q_I_r_A, q_I_r_B, y_I_s_I, x_I_s_I, y_I_n_O, x_I_n_O, e65_st_, e65_wo, e65_he, e_u2])
        have e26_1164 : m_I S26_ 1164 x = iI he := (f26_.2.2.2.1 1164 (by decide)).trans (by simp (disch := omega) only [q_I_s_J, q_I_s_P, q_I_s_A, q_I_s_B, q_I_s_C, q_I_n_A, q_I_r_A, q_I_r_B, y_I_s_I, x_I_s_I, y_I_n_O, x_I_n_O, e65_st_, e65_wo, e65_he, e_u2])
        have h26_ : mS S26_ x := f26_.keep h65c
        have hc26_35 : ∀ i, rAt S26_ (x + 35) i = rAt S (x + 35) i := fun i => ((f26_.1 (x + 35) (by omega) (fun j hj => absurd hj List.not_mem_nil)).rA i).trans (hc65_35 i)
        have hc26_34 : ∀ i, rAt S26_ (x + 34) i = rAt S (x + 34) i := fun i => ((f26_.1 (x + 34) (by omega) (fun j hj => absurd hj List.not_mem_nil)).rA i).trans (hc65_34 i)
        have hc26_row : ∀ i, rAt S26_ row i = rAt S row i := fun i => ((f26_.1 row rowx (fun j hj => absurd hj List.not_mem_nil)).rA i).trans (hc65_row i)
        have rowK26_ : m_K S26_ row = 13 := (f26_.2.2.2.2.2.1 row).trans rowK65
        have rowL26_ : m_L S26_ row = Lr := (f26_.2.2.2.2.2.2 row).trans rowL65
        refine u_imul hX dX13_valueOf_114 ?_
        refine u_iadd hX dX13_valueOf_115 ?_
        refine v_istore hX (lv' := [(4, .int (iI (sum2 + (sg2 * v27_)))), (8, .long (jJ w)), (6, .int (iI i2)), (5, .int (iI sg2)), (0, .ref x), (1, .ref row), (2, .int (iI fr_)), (3, .int (iI to_))]) dX13_valueOf_116 (by rw [hnL]; decide) rfl ?_
        refine v_goto hX (tgt := 315) dX13_valueOf_118 (by decide) ?_
        refine v_goto hX (tgt := 14) dX13_valueOf_315 (by decide) ?_
        refine v_locals (lv' := [(6, .int (iI i2)), (5, .int (iI sg2)), (4, .int (iI (sum2 + (sg2 * v27_)))), (0, .ref x), (1, .ref row), (2, .int (iI fr_)), (3, .int (iI to_))]) (by simp) ?_
        exact ih14 _ (by omega) _ v28_ i2 sg2 (sum2 + (sg2 * v27_)) (fr65.tr (f26_.mono (by decide) (by decide) (by decide))) (by simp (disch := omega) only [q_I_s_J, q_I_s_P, q_I_s_A, q_I_s_B, q_I_s_C, q_I_n_A, q_I_r_A, q_I_r_B, y_I_s_I, x_I_s_I, y_I_n_O, x_I_n_O, e26_1128, e26_1163, e26_1164, e_v28_]) ⟨by omega, by omega⟩ (by omega) rfl
      ·
        refine v_aload_n hX dX13_valueOf_71 (i := 1) rfl rfl ?_
        refine v_iload hX dX13_valueOf_72 rfl ?_
        refine u_iald hX (L := Lr) rowK65 rowL65 ⟨by omega, by omega⟩ rowB dX13_valueOf_74 (fun v29_ e_v29_ b_v29_ => ?_)
        try simp (disch := omega) only [rA_I, rA_J, rA_B, rA_A, lA_I, lA_J, lA_A, lA_B, hc65_35, hc65_34, hc65_row] at e_v29_
        refine v_callS hX (n := 1) (k_isPart (S := S65c) (x := 0) (c := v29_) ⟨by omega, by omega⟩) w_6_233 w_6_234 w_1_16 w_6_235 (by decide +kernel) rfl ⟨by decide, by decide⟩ ⟨by omega, by omega⟩ (Nat.le_of_ble_eq_true rfl) rfl dX13_valueOf_75 (fun _ _ _ q => q) ?_
        rintro r30_ S30_ z30_ ⟨rfl, rfl, v31_, rfl, b_v31_, q30_⟩
        refine u_if_eq hX (tgt := 104) dX13_valueOf_78 (by decide) ⟨by omega, by omega⟩ (fun h32_ => ?_) (fun h32_ => ?_)
        ·
          have wl_ := wb_lt p65_1
          refine v_iload hX dX13_valueOf_104 rfl ?_
          refine v_iload hX dX13_valueOf_106 rfl ?_
          refine v_aload_n hX dX13_valueOf_108 (i := 0) rfl rfl ?_
          refine v_lload hX dX13_valueOf_109 rfl ?_
          refine v_callV hX (n := 1) (k_valueOfName (S := S65c) (x := x) (v := w) (st_ := st_) (un := u2) h65c (by simp (disch := omega) only [q_I_s_J, q_I_s_P, q_I_s_A, q_I_s_B, q_I_s_C, q_I_n_A, q_I_r_A, q_I_r_B, y_I_s_I, x_I_s_I, y_I_n_O, x_I_n_O, e65_st_, e65_wo, e65_he, e_u2]) ⟨by omega, by omega⟩ (by simp (disch := omega) only [q_I_s_J, q_I_s_P, q_I_s_A, q_I_s_B, q_I_s_C, q_I_n_A, q_I_r_A, q_I_r_B, y_I_s_I, x_I_s_I, y_I_n_O, x_I_n_O, e65_st_, e65_wo, e65_he, e_u2]) ⟨by omega, by omega⟩ ⟨by omega, by omega⟩ (so.c (fun i => hc65_35 i) (fun i => hc65_34 i)) (by omega)) (ms_kx h65c) bc_11 (by decide) w_7_138 w_7_140 (bw_p (q := (yX13_valueOfName, 72)) (List.mem_of_getElem? (i := 75) rfl) rfl) w_1_16 w_7_141 (by decide +kernel) rfl ⟨by decide, by decide⟩ ⟨by omega, by omega⟩ (Nat.le_of_ble_eq_true rfl) rfl dX13_valueOf_111 (fun _ _ _ q => q) ?_
          rintro r33_ S33_ z33_ ⟨rfl, f33_, v34_, v35_, rfl, b_v34_, e_v35_, b_v35_, q33_⟩
          have e33_1128 : m_I S33_ 1128 x = iI st_ := (f33_.2.2.2.1 1128 (by decide)).trans (by simp (disch := omega) only [q_I_s_J, q_I_s_P, q_I_s_A, q_I_s_B, q_I_s_C, q_I_n_A, q_I_r_A, q_I_r_B, y_I_s_I, x_I_s_I, y_I_n_O, x_I_n_O, e65_st_, e65_wo, e65_he, e_u2])
          have e33_1163 : m_I S33_ 1163 x = iI wo := (f33_.2.2.2.1 1163 (by decide)).trans (by simp (disch := omega) only [q_I_s_J, q_I_s_P, q_I_s_A, q_I_s_B, q_I_s_C, q_I_n_A, q_I_r_A, q_I_r_B, y_I_s_I, x_I_s_I, y_I_n_O, x_I_n_O, e65_st_, e65_wo, e65_he, e_u2])
          have e33_1164 : m_I S33_ 1164 x = iI he := (f33_.2.2.2.1 1164 (by decide)).trans (by simp (disch := omega) only [q_I_s_J, q_I_s_P, q_I_s_A, q_I_s_B, q_I_s_C, q_I_n_A, q_I_r_A, q_I_r_B, y_I_s_I, x_I_s_I, y_I_n_O, x_I_n_O, e65_st_, e65_wo, e65_he, e_u2])
          have h33_ : mS S33_ x := f33_.keep h65c
          have hc33_35 : ∀ i, rAt S33_ (x + 35) i = rAt S (x + 35) i := fun i => ((f33_.1 (x + 35) (by omega) (fun j hj => absurd hj List.not_mem_nil)).rA i).trans (hc65_35 i)
          have hc33_34 : ∀ i, rAt S33_ (x + 34) i = rAt S (x + 34) i := fun i => ((f33_.1 (x + 34) (by omega) (fun j hj => absurd hj List.not_mem_nil)).rA i).trans (hc65_34 i)
          have hc33_row : ∀ i, rAt S33_ row i = rAt S row i := fun i => ((f33_.1 row rowx (fun j hj => absurd hj List.not_mem_nil)).rA i).trans (hc65_row i)
          have rowK33_ : m_K S33_ row = 13 := (f33_.2.2.2.2.2.1 row).trans rowK65
          have rowL33_ : m_L S33_ row = Lr := (f33_.2.2.2.2.2.2 row).trans rowL65
          refine u_imul hX dX13_valueOf_114 ?_
          refine u_iadd hX dX13_valueOf_115 ?_
          refine v_istore hX (lv' := [(4, .int (iI (sum2 + (sg2 * v34_)))), (8, .long (jJ w)), (6, .int (iI i2)), (5, .int (iI sg2)), (0, .ref x), (1, .ref row), (2, .int (iI fr_)), (3, .int (iI to_))]) dX13_valueOf_116 (by rw [hnL]; decide) rfl ?_
          refine v_goto hX (tgt := 315) dX13_valueOf_118 (by decide) ?_
          refine v_goto hX (tgt := 14) dX13_valueOf_315 (by decide) ?_
          refine v_locals (lv' := [(6, .int (iI i2)), (5, .int (iI sg2)), (4, .int (iI (sum2 + (sg2 * v34_)))), (0, .ref x), (1, .ref row), (2, .int (iI fr_)), (3, .int (iI to_))]) (by simp) ?_
          exact ih14 _ (by omega) _ v35_ i2 sg2 (sum2 + (sg2 * v34_)) (fr65.tr (f33_.mono (by decide) (by decide) (by decide))) (by simp (disch := omega) only [q_I_s_J, q_I_s_P, q_I_s_A, q_I_s_B, q_I_s_C, q_I_n_A, q_I_r_A, q_I_r_B, y_I_s_I, x_I_s_I, y_I_n_O, x_I_n_O, e33_1128, e33_1163, e33_1164, e_v35_]) ⟨by omega, by omega⟩ (by omega) rfl
        ·
          have n10 := nr_lt nrr (by omega) (by omega) p65_2 (by unfold prt; omega) (by omega)
          refine v_ldc2 hX (v := jJ 64) dX13_valueOf_81 (show Cond.constantLong _ _ (jJ 64) ∈ b_Ws from w_7_41) ?_
          refine v_lload hX dX13_valueOf_84 rfl ?_
          refine u_lmul hX dX13_valueOf_86 ?_
          refine v_aload_n hX dX13_valueOf_87 (i := 1) rfl rfl ?_
          refine v_iload hX dX13_valueOf_88 rfl ?_
          refine u_iald hX (L := Lr) rowK65 rowL65 ⟨by omega, by omega⟩ rowB dX13_valueOf_90 (fun v36_ e_v36_ b_v36_ => ?_)
          try simp (disch := omega) only [rA_I, rA_J, rA_B, rA_A, lA_I, lA_J, lA_A, lA_B, hc65_35, hc65_34, hc65_row] at e_v36_
          refine v_callS hX (n := 1) (k_codeOf (S := S65c) (x := 0) (c := v36_) ⟨by omega, by omega⟩ (by omega)) w_7_42 w_7_43 w_1_16 w_7_44 (by decide +kernel) rfl ⟨by decide, by decide⟩ ⟨by omega, by omega⟩ (Nat.le_of_ble_eq_true rfl) rfl dX13_valueOf_91 (fun _ _ _ q => q) ?_
          rintro r37_ S37_ z37_ ⟨rfl, rfl, v38_, rfl, b_v38_, q37_⟩
          refine u_i2l hX dX13_valueOf_94 ⟨by omega, by omega⟩ ?_
          refine u_ladd hX dX13_valueOf_95 ?_
          refine v_lstore hX (lv' := [(8, .long (jJ ((64 * w) + v38_))), (6, .int (iI i2)), (5, .int (iI sg2)), (4, .int (iI sum2)), (0, .ref x), (1, .ref row), (2, .int (iI fr_)), (3, .int (iI to_))]) dX13_valueOf_96 (by rw [hnL]; decide) rfl ?_
          refine v_iinc hX (v := iI (i2 + 1)) (lv' := [(6, .int (iI (i2 + 1))), (8, .long (jJ ((64 * w) + v38_))), (5, .int (iI sg2)), (4, .int (iI sum2)), (0, .ref x), (1, .ref row), (2, .int (iI fr_)), (3, .int (iI to_))]) dX13_valueOf_98 rfl (iI_add _ _) (by rw [hnL]; decide) rfl ?_
          refine v_goto hX (tgt := 65) dX13_valueOf_101 (by decide) ?_
          refine v_locals (lv' := [(8, .long (jJ ((64 * w) + v38_))), (6, .int (iI (i2 + 1))), (5, .int (iI sg2)), (4, .int (iI sum2)), (0, .ref x), (1, .ref row), (2, .int (iI fr_)), (3, .int (iI to_))]) (by simp) ?_
          exact ih65 _ (by omega) _ u2 ((64 * w) + v38_) (i2 + 1) sg2 sum2 k0 fr65 (by simp (disch := omega) only [q_I_s_J, q_I_s_P, q_I_s_A, q_I_s_B, q_I_s_C, q_I_n_A, q_I_r_A, q_I_r_B, y_I_s_I, x_I_s_I, y_I_n_O, x_I_n_O, e65_st_, e65_wo, e65_he, e_u2]) ⟨by omega, by omega⟩ (by omega) (wb_e (by omega) (wb_step p65_1 n10 (by omega))) (fun j g1 g2 => by rcases (show j < i2 ∨ j = i2 by omega) with g | g; exact p65_2 j g1 g; rw [g]; unfold prt; omega) rfl
    have L54 : ∀ (S54c : b_M) (u3 : Int) (c3 : Int) (i3 : Int) (sg3 : Int) (sum3 : Int), mFr [1162] [] [] S S54c x → m_I S54c 1162 x = iI u3 → (-2147483648 ≤ u3 ∧ u3 < 2147483648) → (i3 = i1 ∧ i3 < to_ ∧ c3 = rAt S row i3 ∧ (-2147483648 ≤ c3 ∧ c3 < 2147483648) ∧ (u3 = 0 ∨ u3 = 1)) → b_V X S54c z 0 0 54 [(7, .int (iI c3)), (6, .int (iI i3)), (5, .int (iI sg3)), (4, .int (iI sum3)), (0, .ref x), (1, .ref row), (2, .int (iI fr_)), (3, .int (iI to_))] [] := by
      intro S54c u3 c3 i3 sg3 sum3 fr54 e_u3 b_u3 p54_0
      have h54c : mS S54c x := fr54.keep h
      have hc54_35 : ∀ i, rAt S54c (x + 35) i = rAt S (x + 35) i := fun i => (fr54.1 (x + 35) (by omega) (fun j hj => absurd hj List.not_mem_nil)).rA i
      have hc54_34 : ∀ i, rAt S54c (x + 34) i = rAt S (x + 34) i := fun i => (fr54.1 (x + 34) (by omega) (fun j hj => absurd hj List.not_mem_nil)).rA i
      have hc54_row : ∀ i, rAt S54c row i = rAt S row i := fun i => (fr54.1 row rowx (fun j hj => absurd hj List.not_mem_nil)).rA i
      have rowK54 : m_K S54c row = 13 := (fr54.2.2.2.2.2.1 row).trans rowK
      have rowL54 : m_L S54c row = Lr := (fr54.2.2.2.2.2.2 row).trans rowL
      have e54_st_ : m_I S54c 1128 x = iI st_ := (fr54.2.2.2.1 1128 (by decide)).trans e_st_
      have e54_wo : m_I S54c 1163 x = iI wo := (fr54.2.2.2.1 1163 (by decide)).trans e_wo
      have e54_he : m_I S54c 1164 x = iI he := (fr54.2.2.2.1 1164 (by decide)).trans e_he
      refine v_iload hX dX13_valueOf_54 rfl ?_
      refine v_callS hX (n := 1) (k_isStart (S := S54c) (x := 0) (c := c3) ⟨by omega, by omega⟩) w_6_236 w_6_237 w_1_16 w_6_238 (by decide +kernel) rfl ⟨by decide, by decide⟩ ⟨by omega, by omega⟩ (Nat.le_of_ble_eq_true rfl) rfl dX13_valueOf_56 (fun _ _ _ q => q) ?_
      rintro r39_ S39_ z39_ ⟨rfl, rfl, v40_, rfl, b_v40_, q39_⟩
      refine u_if_eq hX (tgt := 121) dX13_valueOf_59 (by decide) ⟨by omega, by omega⟩ (fun h41_ => ?_) (fun h41_ => ?_)
      ·
        refine v_iload hX dX13_valueOf_121 rfl ?_
        refine v_callS hX (n := 1) (k_isDigit (S := S54c) (x := 0) (c := c3) ⟨by omega, by omega⟩) w_7_2 w_7_3 w_1_16 w_7_4 (by decide +kernel) rfl ⟨by decide, by decide⟩ ⟨by omega, by omega⟩ (Nat.le_of_ble_eq_true rfl) rfl dX13_valueOf_123 (fun _ _ _ q => q) ?_
        rintro r42_ S42_ z42_ ⟨rfl, rfl, v43_, rfl, b_v43_, q42_⟩
        refine u_if_eq hX (tgt := 270) dX13_valueOf_126 (by decide) ⟨by omega, by omega⟩ (fun h44_ => ?_) (fun h44_ => ?_)
        ·
          refine v_iload hX dX13_valueOf_270 rfl ?_
          refine v_bipush hX (v := iI 46) dX13_valueOf_272 (by decide) ?_
          refine u_icmp_ne hX (tgt := 312) dX13_valueOf_274 (by decide) ⟨by omega, by omega⟩ ⟨by omega, by omega⟩ (fun h45_ => ?_) (fun h45_ => ?_)
          ·
            refine v_iinc hX (v := iI (i3 + 1)) (lv' := [(6, .int (iI (i3 + 1))), (7, .int (iI c3)), (5, .int (iI sg3)), (4, .int (iI sum3)), (0, .ref x), (1, .ref row), (2, .int (iI fr_)), (3, .int (iI to_))]) dX13_valueOf_312 rfl (iI_add _ _) (by rw [hnL]; decide) rfl ?_
            refine v_goto hX (tgt := 14) dX13_valueOf_315 (by decide) ?_
            refine v_locals (lv' := [(6, .int (iI (i3 + 1))), (5, .int (iI sg3)), (4, .int (iI sum3)), (0, .ref x), (1, .ref row), (2, .int (iI fr_)), (3, .int (iI to_))]) (by simp) ?_
            exact ih14 _ (by omega) _ u3 (i3 + 1) sg3 sum3 fr54 (by simp (disch := omega) only [q_I_s_J, q_I_s_P, q_I_s_A, q_I_s_B, q_I_s_C, q_I_n_A, q_I_r_A, q_I_r_B, y_I_s_I, x_I_s_I, y_I_n_O, x_I_n_O, e54_st_, e54_wo, e54_he, e_u3]) ⟨by omega, by omega⟩ (by omega) rfl
          ·
            refine v_aload_n hX dX13_valueOf_277 (i := 0) rfl rfl ?_
            refine v_aload_n hX dX13_valueOf_278 (i := 0) rfl rfl ?_
            refine v_get hX (ci := 11) (k := 62) (ms_kx h54c) bc_11 (by decide) (by decide) in_11 w_6_38 dX13_valueOf_279 (mvF (f := 1162) (v := iI u3) rfl rfl (by simp (disch := omega) only [q_I_s_J, q_I_s_P, q_I_s_A, q_I_s_B, q_I_s_C, q_I_n_A, q_I_r_A, q_I_r_B, y_I_s_I, x_I_s_I, y_I_n_O, x_I_n_O, e54_st_, e54_wo, e54_he, e_u3])) ?_
            refine u_if_ne hX (tgt := 292) dX13_valueOf_282 (by decide) ⟨by omega, by omega⟩ (fun h46_ => ?_) (fun h46_ => ?_)
            ·
              refine v_iconst hX (v := iI 1) dX13_valueOf_292 rfl ?_
              refine v_goto hX (tgt := 297) dX13_valueOf_293 (by decide) ?_
              refine v_locals (lv' := [(6, .int (iI i3)), (5, .int (iI sg3)), (4, .int (iI sum3)), (0, .ref x), (1, .ref row), (2, .int (iI fr_)), (3, .int (iI to_))]) (by simp) ?_
              exact L297 _ i3 sg3 sum3 1 fr54 (by omega)
            ·
              refine v_aload_n hX dX13_valueOf_285 (i := 0) rfl rfl ?_
              refine v_get hX (ci := 11) (k := 63) (ms_kx h54c) bc_11 (by decide) (by decide) in_11 w_6_39 dX13_valueOf_286 (mvF (f := 1163) (v := iI wo) rfl rfl (by simp (disch := omega) only [q_I_s_J, q_I_s_P, q_I_s_A, q_I_s_B, q_I_s_C, q_I_n_A, q_I_r_A, q_I_r_B, y_I_s_I, x_I_s_I, y_I_n_O, x_I_n_O, e54_st_, e54_wo, e54_he, e_u3])) ?_
              refine u_if_eq hX (tgt := 296) dX13_valueOf_289 (by decide) ⟨by omega, by omega⟩ (fun h47_ => ?_) (fun h47_ => ?_)
              ·
                refine v_iconst hX (v := iI 0) dX13_valueOf_296 rfl ?_
                refine v_locals (lv' := [(6, .int (iI i3)), (5, .int (iI sg3)), (4, .int (iI sum3)), (0, .ref x), (1, .ref row), (2, .int (iI fr_)), (3, .int (iI to_))]) (by simp) ?_
                exact L297 _ i3 sg3 sum3 0 fr54 (by omega)
              ·
                refine v_iconst hX (v := iI 1) dX13_valueOf_292 rfl ?_
                refine v_goto hX (tgt := 297) dX13_valueOf_293 (by decide) ?_
                refine v_locals (lv' := [(6, .int (iI i3)), (5, .int (iI sg3)), (4, .int (iI sum3)), (0, .ref x), (1, .ref row), (2, .int (iI fr_)), (3, .int (iI to_))]) (by simp) ?_
                exact L297 _ i3 sg3 sum3 1 fr54 (by omega)
        ·
          refine v_iload hX dX13_valueOf_129 rfl ?_
          refine v_iconst hX (v := iI 1) dX13_valueOf_131 rfl ?_
          refine u_iadd hX dX13_valueOf_132 ?_
          refine v_iload_n hX dX13_valueOf_133 (i := 3) rfl rfl ?_
          refine u_icmp_ge hX (tgt := 152) dX13_valueOf_134 (by decide) ⟨by omega, by omega⟩ ⟨by omega, by omega⟩ (fun h48_ => ?_) (fun h48_ => ?_)
          ·
            refine v_iconst hX (v := iI 0) dX13_valueOf_152 rfl ?_
            exact L153 _ u3 c3 i3 sg3 sum3 0 fr54 (by simp (disch := omega) only [q_I_s_J, q_I_s_P, q_I_s_A, q_I_s_B, q_I_s_C, q_I_n_A, q_I_r_A, q_I_r_B, y_I_s_I, x_I_s_I, y_I_n_O, x_I_n_O, e54_st_, e54_wo, e54_he, e_u3]) ⟨by omega, by omega⟩ (by omega)
          ·
            refine v_aload_n hX dX13_valueOf_137 (i := 1) rfl rfl ?_
            refine v_iload hX dX13_valueOf_138 rfl ?_
            refine v_iconst hX (v := iI 1) dX13_valueOf_140 rfl ?_
            refine u_iadd hX dX13_valueOf_141 ?_
            refine u_iald hX (L := Lr) rowK54 rowL54 ⟨by omega, by omega⟩ rowB dX13_valueOf_142 (fun v49_ e_v49_ b_v49_ => ?_)
            try simp (disch := omega) only [rA_I, rA_J, rA_B, rA_A, lA_I, lA_J, lA_A, lA_B, hc54_35, hc54_34, hc54_row] at e_v49_
            refine v_bipush hX (v := iI 120) dX13_valueOf_143 (by decide) ?_
            refine u_icmp_ne hX (tgt := 152) dX13_valueOf_145 (by decide) ⟨by omega, by omega⟩ ⟨by omega, by omega⟩ (fun h50_ => ?_) (fun h50_ => ?_)
            ·
              refine v_iconst hX (v := iI 0) dX13_valueOf_152 rfl ?_
              exact L153 _ u3 c3 i3 sg3 sum3 0 fr54 (by simp (disch := omega) only [q_I_s_J, q_I_s_P, q_I_s_A, q_I_s_B, q_I_s_C, q_I_n_A, q_I_r_A, q_I_r_B, y_I_s_I, x_I_s_I, y_I_n_O, x_I_n_O, e54_st_, e54_wo, e54_he, e_u3]) ⟨by omega, by omega⟩ (by omega)
            ·
              refine v_iconst hX (v := iI 1) dX13_valueOf_148 rfl ?_
              refine v_goto hX (tgt := 153) dX13_valueOf_149 (by decide) ?_
              exact L153 _ u3 c3 i3 sg3 sum3 1 fr54 (by simp (disch := omega) only [q_I_s_J, q_I_s_P, q_I_s_A, q_I_s_B, q_I_s_C, q_I_n_A, q_I_r_A, q_I_r_B, y_I_s_I, x_I_s_I, y_I_n_O, x_I_n_O, e54_st_, e54_wo, e54_he, e_u3]) ⟨by omega, by omega⟩ (by omega)
      ·
        refine v_lconst hX (v := jJ 0) dX13_valueOf_62 rfl ?_
        refine v_lstore hX (lv' := [(8, .long (jJ 0)), (7, .int (iI c3)), (6, .int (iI i3)), (5, .int (iI sg3)), (4, .int (iI sum3)), (0, .ref x), (1, .ref row), (2, .int (iI fr_)), (3, .int (iI to_))]) dX13_valueOf_63 (by rw [hnL]; decide) rfl ?_
        refine v_locals (lv' := [(8, .long (jJ 0)), (6, .int (iI i3)), (5, .int (iI sg3)), (4, .int (iI sum3)), (0, .ref x), (1, .ref row), (2, .int (iI fr_)), (3, .int (iI to_))]) (by simp) ?_
        exact L65 _ _ u3 0 i3 sg3 sum3 i3 fr54 (by simp (disch := omega) only [q_I_s_J, q_I_s_P, q_I_s_A, q_I_s_B, q_I_s_C, q_I_n_A, q_I_r_A, q_I_r_B, y_I_s_I, x_I_s_I, y_I_n_O, x_I_n_O, e54_st_, e54_wo, e54_he, e_u3]) ⟨by omega, by omega⟩ (by omega) (wb_e (by omega) wb_0) (fun j g1 g2 => absurd g2 (by omega)) rfl
    refine v_iload hX dX13_valueOf_14 rfl ?_
    refine v_iload_n hX dX13_valueOf_16 (i := 3) rfl rfl ?_
    refine u_icmp_ge hX (tgt := 318) dX13_valueOf_17 (by decide) ⟨by omega, by omega⟩ ⟨by omega, by omega⟩ (fun h51_ => ?_) (fun h51_ => ?_)
    ·
      refine v_iload hX dX13_valueOf_318 rfl ?_
      obtain ⟨v52_, e_v52_, b_v52_⟩ := i_ex (iI sum)
      rw [e_v52_]
      exact v_ireturn hX hE dX13_valueOf_320 (by omega) (by omega) ⟨rfl, fr14, v52_, u0, rfl, ⟨by omega, by omega⟩, (by simp (disch := omega) only [q_I_s_J, q_I_s_P, q_I_s_A, q_I_s_B, q_I_s_C, q_I_n_A, q_I_r_A, q_I_r_B, y_I_s_I, x_I_s_I, y_I_n_O, x_I_n_O, e14_st_, e14_wo, e14_he, e_u0]), ⟨by omega, by omega⟩, (by omega)⟩
    ·
      refine v_aload_n hX dX13_valueOf_20 (i := 1) rfl rfl ?_
      refine v_iload hX dX13_valueOf_21 rfl ?_
      refine u_iald hX (L := Lr) rowK14 rowL14 ⟨by omega, by omega⟩ rowB dX13_valueOf_23 (fun v53_ e_v53_ b_v53_ => ?_)
      try simp (disch := omega) only [rA_I, rA_J, rA_B, rA_A, lA_I, lA_J, lA_A, lA_B, hc14_35, hc14_34, hc14_row] at e_v53_
      refine v_istore hX (lv' := [(7, .int (iI v53_)), (6, .int (iI i1)), (5, .int (iI sg)), (4, .int (iI sum)), (0, .ref x), (1, .ref row), (2, .int (iI fr_)), (3, .int (iI to_))]) dX13_valueOf_24 (by rw [hnL]; decide) rfl ?_
      refine v_iload hX dX13_valueOf_26 rfl ?_
      refine v_bipush hX (v := iI 43) dX13_valueOf_28 (by decide) ?_
      refine u_icmp_eq hX (tgt := 40) dX13_valueOf_30 (by decide) ⟨by omega, by omega⟩ ⟨by omega, by omega⟩ (fun h54_ => ?_) (fun h54_ => ?_)
      ·
        refine v_iload hX dX13_valueOf_40 rfl ?_
        refine v_bipush hX (v := iI 45) dX13_valueOf_42 (by decide) ?_
        refine u_icmp_ne hX (tgt := 51) dX13_valueOf_44 (by decide) ⟨by omega, by omega⟩ ⟨by omega, by omega⟩ (fun h55_ => ?_) (fun h55_ => ?_)
        ·
          refine v_iconst hX (v := iI 1) dX13_valueOf_51 rfl ?_
          refine v_istore hX (lv' := [(5, .int (iI 1)), (7, .int (iI v53_)), (6, .int (iI i1)), (4, .int (iI sum)), (0, .ref x), (1, .ref row), (2, .int (iI fr_)), (3, .int (iI to_))]) dX13_valueOf_52 (by rw [hnL]; decide) rfl ?_
          refine v_locals (lv' := [(7, .int (iI v53_)), (6, .int (iI i1)), (5, .int (iI 1)), (4, .int (iI sum)), (0, .ref x), (1, .ref row), (2, .int (iI fr_)), (3, .int (iI to_))]) (by simp) ?_
          exact L54 _ u0 v53_ i1 1 sum fr14 (by simp (disch := omega) only [q_I_s_J, q_I_s_P, q_I_s_A, q_I_s_B, q_I_s_C, q_I_n_A, q_I_r_A, q_I_r_B, y_I_s_I, x_I_s_I, y_I_n_O, x_I_n_O, e14_st_, e14_wo, e14_he, e_u0]) ⟨by omega, by omega⟩ (by omega)
        ·
          refine v_iconst hX (v := iI (-1)) dX13_valueOf_47 rfl ?_
          refine v_goto hX (tgt := 52) dX13_valueOf_48 (by decide) ?_
          refine v_istore hX (lv' := [(5, .int (iI (-1))), (7, .int (iI v53_)), (6, .int (iI i1)), (4, .int (iI sum)), (0, .ref x), (1, .ref row), (2, .int (iI fr_)), (3, .int (iI to_))]) dX13_valueOf_52 (by rw [hnL]; decide) rfl ?_
          refine v_locals (lv' := [(7, .int (iI v53_)), (6, .int (iI i1)), (5, .int (iI (-1))), (4, .int (iI sum)), (0, .ref x), (1, .ref row), (2, .int (iI fr_)), (3, .int (iI to_))]) (by simp) ?_
          exact L54 _ u0 v53_ i1 (-1) sum fr14 (by simp (disch := omega) only [q_I_s_J, q_I_s_P, q_I_s_A, q_I_s_B, q_I_s_C, q_I_n_A, q_I_r_A, q_I_r_B, y_I_s_I, x_I_s_I, y_I_n_O, x_I_n_O, e14_st_, e14_wo, e14_he, e_u0]) ⟨by omega, by omega⟩ (by omega)
      ·
        refine v_iload hX dX13_valueOf_33 rfl ?_
        refine v_bipush hX (v := iI 45) dX13_valueOf_35 (by decide) ?_
        refine u_icmp_ne hX (tgt := 54) dX13_valueOf_37 (by decide) ⟨by omega, by omega⟩ ⟨by omega, by omega⟩ (fun h56_ => ?_) (fun h56_ => ?_)
        ·
          exact L54 _ u0 v53_ i1 sg sum fr14 (by simp (disch := omega) only [q_I_s_J, q_I_s_P, q_I_s_A, q_I_s_B, q_I_s_C, q_I_n_A, q_I_r_A, q_I_r_B, y_I_s_I, x_I_s_I, y_I_n_O, x_I_n_O, e14_st_, e14_wo, e14_he, e_u0]) ⟨by omega, by omega⟩ (by omega)
        ·
          refine v_iload hX dX13_valueOf_40 rfl ?_
          refine v_bipush hX (v := iI 45) dX13_valueOf_42 (by decide) ?_
          refine u_icmp_ne hX (tgt := 51) dX13_valueOf_44 (by decide) ⟨by omega, by omega⟩ ⟨by omega, by omega⟩ (fun h57_ => ?_) (fun h57_ => ?_)
          ·
            refine v_iconst hX (v := iI 1) dX13_valueOf_51 rfl ?_
            refine v_istore hX (lv' := [(5, .int (iI 1)), (7, .int (iI v53_)), (6, .int (iI i1)), (4, .int (iI sum)), (0, .ref x), (1, .ref row), (2, .int (iI fr_)), (3, .int (iI to_))]) dX13_valueOf_52 (by rw [hnL]; decide) rfl ?_
            refine v_locals (lv' := [(7, .int (iI v53_)), (6, .int (iI i1)), (5, .int (iI 1)), (4, .int (iI sum)), (0, .ref x), (1, .ref row), (2, .int (iI fr_)), (3, .int (iI to_))]) (by simp) ?_
            exact L54 _ u0 v53_ i1 1 sum fr14 (by simp (disch := omega) only [q_I_s_J, q_I_s_P, q_I_s_A, q_I_s_B, q_I_s_C, q_I_n_A, q_I_r_A, q_I_r_B, y_I_s_I, x_I_s_I, y_I_n_O, x_I_n_O, e14_st_, e14_wo, e14_he, e_u0]) ⟨by omega, by omega⟩ (by omega)
          ·
            refine v_iconst hX (v := iI (-1)) dX13_valueOf_47 rfl ?_
            refine v_goto hX (tgt := 52) dX13_valueOf_48 (by decide) ?_
            refine v_istore hX (lv' := [(5, .int (iI (-1))), (7, .int (iI v53_)), (6, .int (iI i1)), (4, .int (iI sum)), (0, .ref x), (1, .ref row), (2, .int (iI fr_)), (3, .int (iI to_))]) dX13_valueOf_52 (by rw [hnL]; decide) rfl ?_
            refine v_locals (lv' := [(7, .int (iI v53_)), (6, .int (iI i1)), (5, .int (iI (-1))), (4, .int (iI sum)), (0, .ref x), (1, .ref row), (2, .int (iI fr_)), (3, .int (iI to_))]) (by simp) ?_
            exact L54 _ u0 v53_ i1 (-1) sum fr14 (by simp (disch := omega) only [q_I_s_J, q_I_s_P, q_I_s_A, q_I_s_B, q_I_s_C, q_I_n_A, q_I_r_A, q_I_r_B, y_I_s_I, x_I_s_I, y_I_n_O, x_I_n_O, e14_st_, e14_wo, e14_he, e_u0]) ⟨by omega, by omega⟩ (by omega)
  change b_V X S z 0 0 0 [(0, .ref x), (1, .ref row), (2, .int (iI fr_)), (3, .int (iI to_))] []
  refine v_iconst hX (v := iI 0) dX13_valueOf_0 rfl ?_
  refine v_istore hX (lv' := [(4, .int (iI 0)), (0, .ref x), (1, .ref row), (2, .int (iI fr_)), (3, .int (iI to_))]) dX13_valueOf_1 (by rw [hnL]; decide) rfl ?_
  refine v_iconst hX (v := iI 1) dX13_valueOf_3 rfl ?_
  refine v_istore hX (lv' := [(5, .int (iI 1)), (4, .int (iI 0)), (0, .ref x), (1, .ref row), (2, .int (iI fr_)), (3, .int (iI to_))]) dX13_valueOf_4 (by rw [hnL]; decide) rfl ?_
  refine v_iload_n hX dX13_valueOf_6 (i := 2) rfl rfl ?_
  refine v_istore hX (lv' := [(6, .int (iI fr_)), (5, .int (iI 1)), (4, .int (iI 0)), (0, .ref x), (1, .ref row), (2, .int (iI fr_)), (3, .int (iI to_))]) dX13_valueOf_7 (by rw [hnL]; decide) rfl ?_
  refine v_aload_n hX dX13_valueOf_9 (i := 0) rfl rfl ?_
  refine v_iconst hX (v := iI 0) dX13_valueOf_10 rfl ?_
  refine v_putI hX (ci := 11) (k := 62) (f := 1162) (ms_kx h) bc_11 (by decide) (by decide) in_11 tyX13_ok nmX13 w_6_38 (Or.inl rfl) (nar_b (by omega)) (fit_b (by omega)) dX13_valueOf_11 rfl rfl ?_
  exact L14 _ _ 0 fr_ 1 0 ((mFr.rf _ _).sI (by decide)) (by simp (disch := omega) only [q_I_s_J, q_I_s_P, q_I_s_A, q_I_s_B, q_I_s_C, q_I_n_A, q_I_r_A, q_I_r_B, y_I_s_I, x_I_s_I, y_I_n_O, x_I_n_O, e_st_, e_wo, e_he]) ⟨by omega, by omega⟩ (by omega) rfl
