set_option maxRecDepth 100000 in
set_option maxHeartbeats 4000000 in
theorem k_turnTwo {kn : Nat → Nat} {B : Nat} {S : b_M} {z x : Nat} {en : Int} {st_ : Int} {wt : Int} {er : Int} {he : Int} {se : Int} {ex : Int} {ps : Int} (h : mS S x) (e_en : m_I S 1160 x = iI en) (b_en : -2147483648 ≤ en ∧ en < 2147483648) (e_st_ : m_I S 1128 x = iI st_) (b_st_ : -2147483648 ≤ st_ ∧ st_ < 2147483648) (e_wt : m_I S 1163 x = iI wt) (b_wt : -2147483648 ≤ wt ∧ wt < 2147483648) (e_er : m_I S 1153 x = iI er) (b_er : -2147483648 ≤ er ∧ er < 2147483648) (e_he : m_I S 1154 x = iI he) (b_he : -2147483648 ≤ he ∧ he < 2147483648) (so : sOk S x se) (eo : eOk S x ex ps) (mo2 : ∀ j : Int, 0 ≤ j → j < st_ → 0 ≤ rAt S (x + 21) j ∧ rAt S (x + 21) j ≤ 8 ∧ (0 < rAt S (x + 21) j → 0 ≤ rAt S (x + 22) j ∧ rAt S (x + 22) j + rAt S (x + 21) j ≤ ex)) (p : 0 ≤ st_ ∧ st_ ≤ 400 ∧ (wt = 0 ∨ wt = 1) ∧ 0 ≤ er ∧ er ≤ 50 ∧ (he = 0 ∨ he = 1)) : b_C kn B yX13_turnTwo cX13_turnTwo 4 none 7 156 0 0 [.ref x] S z (fun r S' z' => z = z' ∧ mFr [1164, 1162, 1154, 1153] [] [36, 37] S S' x ∧ ∃ r1 h1 : Int, r = none ∧ m_I S' 1153 x = iI r1 ∧ (-2147483648 ≤ r1 ∧ r1 < 2147483648) ∧ m_I S' 1154 x = iI h1 ∧ (-2147483648 ≤ h1 ∧ h1 < 2147483648) ∧ (er ≤ r1 ∧ r1 ≤ 50 ∧ (h1 = 1 ∨ (h1 = he ∧ r1 = er)) ∧ (h1 = 0 → en ≤ 65535))) (fun _ _ _ => False) := by
  refine b_enter (by decide) (Nat.le_of_ble_eq_true rfl) ?_
  intro X hX hE hnL hkn hB hI_
  subst hkn; subst hB
  clear hI_
  have L19 : ∀ (n19 : Nat) (S19c : b_M) (r0 : Int) (h0 : Int) (s : Int), mFr [1164, 1162, 1154, 1153] [] [36, 37] S S19c x → m_I S19c 1153 x = iI r0 → m_I S19c 1154 x = iI h0 → (-2147483648 ≤ r0 ∧ r0 < 2147483648) → (-2147483648 ≤ h0 ∧ h0 < 2147483648) → (en ≤ 65535 ∧ 0 ≤ s ∧ s ≤ st_ ∧ er ≤ r0 ∧ r0 ≤ 50 ∧ (h0 = 1 ∨ (h0 = he ∧ r0 = er))) → (st_ - s).toNat = n19 → b_V X S19c z 0 0 19 [(1, .int (iI s)), (0, .ref x)] [] := by
    intro n19
    induction n19 using Nat.strongRecOn with
    | _ n19 ih19 =>
    intro S19c r0 h0 s fr19 e_r0 e_h0 b_r0 b_h0 p19_0 hm19
    have h19c : mS S19c x := fr19.keep h
    have hc19_35 : ∀ i, rAt S19c (x + 35) i = rAt S (x + 35) i := fun i => (fr19.1 (x + 35) (by omega) (by intro j hj; simp only [List.mem_cons, List.not_mem_nil, or_false] at hj; omega)).rA i
    have hc19_34 : ∀ i, rAt S19c (x + 34) i = rAt S (x + 34) i := fun i => (fr19.1 (x + 34) (by omega) (by intro j hj; simp only [List.mem_cons, List.not_mem_nil, or_false] at hj; omega)).rA i
    have hc19_26 : ∀ i, rAt S19c (x + 26) i = rAt S (x + 26) i := fun i => (fr19.1 (x + 26) (by omega) (by intro j hj; simp only [List.mem_cons, List.not_mem_nil, or_false] at hj; omega)).rA i
    have hc19_22 : ∀ i, rAt S19c (x + 22) i = rAt S (x + 22) i := fun i => (fr19.1 (x + 22) (by omega) (by intro j hj; simp only [List.mem_cons, List.not_mem_nil, or_false] at hj; omega)).rA i
    have hc19_27 : ∀ i, rAt S19c (x + 27) i = rAt S (x + 27) i := fun i => (fr19.1 (x + 27) (by omega) (by intro j hj; simp only [List.mem_cons, List.not_mem_nil, or_false] at hj; omega)).rA i
    have hc19_28 : ∀ i, rAt S19c (x + 28) i = rAt S (x + 28) i := fun i => (fr19.1 (x + 28) (by omega) (by intro j hj; simp only [List.mem_cons, List.not_mem_nil, or_false] at hj; omega)).rA i
    have hc19_29 : ∀ i, rAt S19c (x + 29) i = rAt S (x + 29) i := fun i => (fr19.1 (x + 29) (by omega) (by intro j hj; simp only [List.mem_cons, List.not_mem_nil, or_false] at hj; omega)).rA i
    have hc19_18 : ∀ i, rAt S19c (x + 18) i = rAt S (x + 18) i := fun i => (fr19.1 (x + 18) (by omega) (by intro j hj; simp only [List.mem_cons, List.not_mem_nil, or_false] at hj; omega)).rA i
    have hc19_25 : ∀ i, rAt S19c (x + 25) i = rAt S (x + 25) i := fun i => (fr19.1 (x + 25) (by omega) (by intro j hj; simp only [List.mem_cons, List.not_mem_nil, or_false] at hj; omega)).rA i
    have hc19_19 : ∀ i, rAt S19c (x + 19) i = rAt S (x + 19) i := fun i => (fr19.1 (x + 19) (by omega) (by intro j hj; simp only [List.mem_cons, List.not_mem_nil, or_false] at hj; omega)).rA i
    have hc19_21 : ∀ i, rAt S19c (x + 21) i = rAt S (x + 21) i := fun i => (fr19.1 (x + 21) (by omega) (by intro j hj; simp only [List.mem_cons, List.not_mem_nil, or_false] at hj; omega)).rA i
    have hc19_23 : ∀ i, rAt S19c (x + 23) i = rAt S (x + 23) i := fun i => (fr19.1 (x + 23) (by omega) (by intro j hj; simp only [List.mem_cons, List.not_mem_nil, or_false] at hj; omega)).rA i
    have hc19_20 : ∀ i, rAt S19c (x + 20) i = rAt S (x + 20) i := fun i => (fr19.1 (x + 20) (by omega) (by intro j hj; simp only [List.mem_cons, List.not_mem_nil, or_false] at hj; omega)).rA i
    have hc19_17 : ∀ i, rAt S19c (x + 17) i = rAt S (x + 17) i := fun i => (fr19.1 (x + 17) (by omega) (by intro j hj; simp only [List.mem_cons, List.not_mem_nil, or_false] at hj; omega)).rA i
    have e19_en : m_I S19c 1160 x = iI en := (fr19.2.2.2.1 1160 (by decide)).trans e_en
    have e19_st_ : m_I S19c 1128 x = iI st_ := (fr19.2.2.2.1 1128 (by decide)).trans e_st_
    have e19_wt : m_I S19c 1163 x = iI wt := (fr19.2.2.2.1 1163 (by decide)).trans e_wt
    have L29 : ∀ (n29 : Nat) (S29c : b_M) (r2 : Int) (h2 : Int) (k : Int), mFr [1164, 1162, 1154, 1153] [] [36, 37] S S29c x → m_I S29c 1153 x = iI r2 → m_I S29c 1154 x = iI h2 → (-2147483648 ≤ r2 ∧ r2 < 2147483648) → (-2147483648 ≤ h2 ∧ h2 < 2147483648) → (en ≤ 65535 ∧ 0 ≤ s ∧ s < st_ ∧ 0 ≤ k ∧ (k = 0 ∨ k ≤ rAt S (x + 21) s) ∧ er ≤ r2 ∧ r2 ≤ 50 ∧ (h2 = 1 ∨ (h2 = he ∧ r2 = er))) → (rAt S (x + 21) s - k).toNat = n29 → b_V X S29c z 0 0 29 [(2, .int (iI k)), (1, .int (iI s)), (0, .ref x)] [] := by
      intro n29
      induction n29 using Nat.strongRecOn with
      | _ n29 ih29 =>
      intro S29c r2 h2 k fr29 e_r2 e_h2 b_r2 b_h2 p29_0 hm29
      have h29c : mS S29c x := fr29.keep h
      have hc29_35 : ∀ i, rAt S29c (x + 35) i = rAt S (x + 35) i := fun i => (fr29.1 (x + 35) (by omega) (by intro j hj; simp only [List.mem_cons, List.not_mem_nil, or_false] at hj; omega)).rA i
      have hc29_34 : ∀ i, rAt S29c (x + 34) i = rAt S (x + 34) i := fun i => (fr29.1 (x + 34) (by omega) (by intro j hj; simp only [List.mem_cons, List.not_mem_nil, or_false] at hj; omega)).rA i
      have hc29_26 : ∀ i, rAt S29c (x + 26) i = rAt S (x + 26) i := fun i => (fr29.1 (x + 26) (by omega) (by intro j hj; simp only [List.mem_cons, List.not_mem_nil, or_false] at hj; omega)).rA i
      have hc29_22 : ∀ i, rAt S29c (x + 22) i = rAt S (x + 22) i := fun i => (fr29.1 (x + 22) (by omega) (by intro j hj; simp only [List.mem_cons, List.not_mem_nil, or_false] at hj; omega)).rA i
      have hc29_27 : ∀ i, rAt S29c (x + 27) i = rAt S (x + 27) i := fun i => (fr29.1 (x + 27) (by omega) (by intro j hj; simp only [List.mem_cons, List.not_mem_nil, or_false] at hj; omega)).rA i
      have hc29_28 : ∀ i, rAt S29c (x + 28) i = rAt S (x + 28) i := fun i => (fr29.1 (x + 28) (by omega) (by intro j hj; simp only [List.mem_cons, List.not_mem_nil, or_false] at hj; omega)).rA i
      have hc29_29 : ∀ i, rAt S29c (x + 29) i = rAt S (x + 29) i := fun i => (fr29.1 (x + 29) (by omega) (by intro j hj; simp only [List.mem_cons, List.not_mem_nil, or_false] at hj; omega)).rA i
      have hc29_18 : ∀ i, rAt S29c (x + 18) i = rAt S (x + 18) i := fun i => (fr29.1 (x + 18) (by omega) (by intro j hj; simp only [List.mem_cons, List.not_mem_nil, or_false] at hj; omega)).rA i
      have hc29_25 : ∀ i, rAt S29c (x + 25) i = rAt S (x + 25) i := fun i => (fr29.1 (x + 25) (by omega) (by intro j hj; simp only [List.mem_cons, List.not_mem_nil, or_false] at hj; omega)).rA i
      have hc29_19 : ∀ i, rAt S29c (x + 19) i = rAt S (x + 19) i := fun i => (fr29.1 (x + 19) (by omega) (by intro j hj; simp only [List.mem_cons, List.not_mem_nil, or_false] at hj; omega)).rA i
      have hc29_21 : ∀ i, rAt S29c (x + 21) i = rAt S (x + 21) i := fun i => (fr29.1 (x + 21) (by omega) (by intro j hj; simp only [List.mem_cons, List.not_mem_nil, or_false] at hj; omega)).rA i
      have hc29_23 : ∀ i, rAt S29c (x + 23) i = rAt S (x + 23) i := fun i => (fr29.1 (x + 23) (by omega) (by intro j hj; simp only [List.mem_cons, List.not_mem_nil, or_false] at hj; omega)).rA i
      have hc29_20 : ∀ i, rAt S29c (x + 20) i = rAt S (x + 20) i := fun i => (fr29.1 (x + 20) (by omega) (by intro j hj; simp only [List.mem_cons, List.not_mem_nil, or_false] at hj; omega)).rA i
      have hc29_17 : ∀ i, rAt S29c (x + 17) i = rAt S (x + 17) i := fun i => (fr29.1 (x + 17) (by omega) (by intro j hj; simp only [List.mem_cons, List.not_mem_nil, or_false] at hj; omega)).rA i
      have e29_en : m_I S29c 1160 x = iI en := (fr29.2.2.2.1 1160 (by decide)).trans e_en
      have e29_st_ : m_I S29c 1128 x = iI st_ := (fr29.2.2.2.1 1128 (by decide)).trans e_st_
      have e29_wt : m_I S29c 1163 x = iI wt := (fr29.2.2.2.1 1163 (by decide)).trans e_wt
      have L89 : ∀ (S89c : b_M) (r3 : Int) (h3 : Int), mFr [1164, 1162, 1154, 1153] [] [36, 37] S S89c x → m_I S89c 1153 x = iI r3 → m_I S89c 1154 x = iI h3 → (-2147483648 ≤ r3 ∧ r3 < 2147483648) → (-2147483648 ≤ h3 ∧ h3 < 2147483648) → (k < rAt S (x + 21) s ∧ er ≤ r3 ∧ r3 ≤ 50 ∧ (h3 = 1 ∨ (h3 = he ∧ r3 = er))) → b_V X S89c z 0 0 89 [(2, .int (iI k)), (1, .int (iI s)), (0, .ref x)] [] := by
        intro S89c r3 h3 fr89 e_r3 e_h3 b_r3 b_h3 p89_0
        have h89c : mS S89c x := fr89.keep h
        have hc89_35 : ∀ i, rAt S89c (x + 35) i = rAt S (x + 35) i := fun i => (fr89.1 (x + 35) (by omega) (by intro j hj; simp only [List.mem_cons, List.not_mem_nil, or_false] at hj; omega)).rA i
        have hc89_34 : ∀ i, rAt S89c (x + 34) i = rAt S (x + 34) i := fun i => (fr89.1 (x + 34) (by omega) (by intro j hj; simp only [List.mem_cons, List.not_mem_nil, or_false] at hj; omega)).rA i
        have hc89_26 : ∀ i, rAt S89c (x + 26) i = rAt S (x + 26) i := fun i => (fr89.1 (x + 26) (by omega) (by intro j hj; simp only [List.mem_cons, List.not_mem_nil, or_false] at hj; omega)).rA i
        have hc89_22 : ∀ i, rAt S89c (x + 22) i = rAt S (x + 22) i := fun i => (fr89.1 (x + 22) (by omega) (by intro j hj; simp only [List.mem_cons, List.not_mem_nil, or_false] at hj; omega)).rA i
        have hc89_27 : ∀ i, rAt S89c (x + 27) i = rAt S (x + 27) i := fun i => (fr89.1 (x + 27) (by omega) (by intro j hj; simp only [List.mem_cons, List.not_mem_nil, or_false] at hj; omega)).rA i
        have hc89_28 : ∀ i, rAt S89c (x + 28) i = rAt S (x + 28) i := fun i => (fr89.1 (x + 28) (by omega) (by intro j hj; simp only [List.mem_cons, List.not_mem_nil, or_false] at hj; omega)).rA i
        have hc89_29 : ∀ i, rAt S89c (x + 29) i = rAt S (x + 29) i := fun i => (fr89.1 (x + 29) (by omega) (by intro j hj; simp only [List.mem_cons, List.not_mem_nil, or_false] at hj; omega)).rA i
        have hc89_18 : ∀ i, rAt S89c (x + 18) i = rAt S (x + 18) i := fun i => (fr89.1 (x + 18) (by omega) (by intro j hj; simp only [List.mem_cons, List.not_mem_nil, or_false] at hj; omega)).rA i
        have hc89_25 : ∀ i, rAt S89c (x + 25) i = rAt S (x + 25) i := fun i => (fr89.1 (x + 25) (by omega) (by intro j hj; simp only [List.mem_cons, List.not_mem_nil, or_false] at hj; omega)).rA i
        have hc89_19 : ∀ i, rAt S89c (x + 19) i = rAt S (x + 19) i := fun i => (fr89.1 (x + 19) (by omega) (by intro j hj; simp only [List.mem_cons, List.not_mem_nil, or_false] at hj; omega)).rA i
        have hc89_21 : ∀ i, rAt S89c (x + 21) i = rAt S (x + 21) i := fun i => (fr89.1 (x + 21) (by omega) (by intro j hj; simp only [List.mem_cons, List.not_mem_nil, or_false] at hj; omega)).rA i
        have hc89_23 : ∀ i, rAt S89c (x + 23) i = rAt S (x + 23) i := fun i => (fr89.1 (x + 23) (by omega) (by intro j hj; simp only [List.mem_cons, List.not_mem_nil, or_false] at hj; omega)).rA i
        have hc89_20 : ∀ i, rAt S89c (x + 20) i = rAt S (x + 20) i := fun i => (fr89.1 (x + 20) (by omega) (by intro j hj; simp only [List.mem_cons, List.not_mem_nil, or_false] at hj; omega)).rA i
        have hc89_17 : ∀ i, rAt S89c (x + 17) i = rAt S (x + 17) i := fun i => (fr89.1 (x + 17) (by omega) (by intro j hj; simp only [List.mem_cons, List.not_mem_nil, or_false] at hj; omega)).rA i
        have e89_en : m_I S89c 1160 x = iI en := (fr89.2.2.2.1 1160 (by decide)).trans e_en
        have e89_st_ : m_I S89c 1128 x = iI st_ := (fr89.2.2.2.1 1128 (by decide)).trans e_st_
        have e89_wt : m_I S89c 1163 x = iI wt := (fr89.2.2.2.1 1163 (by decide)).trans e_wt
        refine v_iinc hX (v := iI (k + 1)) (lv' := [(2, .int (iI (k + 1))), (1, .int (iI s)), (0, .ref x)]) dX13_turnTwo_89 rfl (iI_add _ _) (by rw [hnL]; decide) rfl ?_
        refine v_goto hX (tgt := 29) dX13_turnTwo_92 (by decide) ?_
        exact ih29 _ (by omega) _ r3 h3 (k + 1) fr89 (by simp (disch := omega) only [y_I_s_I, x_I_s_I, z_I_s_J, z_I_s_A, z_I_s_B, e89_en, e89_st_, e89_wt, e_r3, e_h3]) (by simp (disch := omega) only [y_I_s_I, x_I_s_I, z_I_s_J, z_I_s_A, z_I_s_B, e89_en, e89_st_, e89_wt, e_r3, e_h3]) ⟨by omega, by omega⟩ ⟨by omega, by omega⟩ (by omega) rfl
      refine v_iload_n hX dX13_turnTwo_29 (i := 2) rfl rfl ?_
      refine v_aload_n hX dX13_turnTwo_30 (i := 0) rfl rfl ?_
      refine v_get hX (ci := 11) (k := 33) (ms_kx h29c) bc_11 (by decide) (by decide) in_11 w_6_9 dX13_turnTwo_31 (mvP (f := 1133) (q := (x + 21)) rfl rfl (ms_p_1133 h29c)) ?_
      refine v_iload_n hX dX13_turnTwo_34 (i := 1) rfl rfl ?_
      refine u_iald hX (L := 400) (ms_k_1133 h29c) (ms_l_1133 h29c) ⟨by omega, by omega⟩ (by decide) dX13_turnTwo_35 (fun v1_ e_v1_ b_v1_ => ?_)
      try simp (disch := omega) only [zr_I, zr_J, zr_B, rA_A, zl_I, zl_J, zl_A, lA_B, hc29_35, hc29_34, hc29_26, hc29_22, hc29_27, hc29_28, hc29_29, hc29_18, hc29_25, hc29_19, hc29_21, hc29_23, hc29_20, hc29_17] at e_v1_
      refine u_icmp_ge hX (tgt := 95) dX13_turnTwo_36 (by decide) ⟨by omega, by omega⟩ ⟨by omega, by omega⟩ (fun h2_ => ?_) (fun h2_ => ?_)
      ·
        refine v_iinc hX (v := iI (s + 1)) (lv' := [(1, .int (iI (s + 1))), (2, .int (iI k)), (0, .ref x)]) dX13_turnTwo_95 rfl (iI_add _ _) (by rw [hnL]; decide) rfl ?_
        refine v_goto hX (tgt := 19) dX13_turnTwo_98 (by decide) ?_
        refine v_locals (lv' := [(1, .int (iI (s + 1))), (0, .ref x)]) (by simp) ?_
        exact ih19 _ (by omega) _ r2 h2 (s + 1) fr29 (by simp (disch := omega) only [y_I_s_I, x_I_s_I, z_I_s_J, z_I_s_A, z_I_s_B, e29_en, e29_st_, e29_wt, e_r2, e_h2]) (by simp (disch := omega) only [y_I_s_I, x_I_s_I, z_I_s_J, z_I_s_A, z_I_s_B, e29_en, e29_st_, e29_wt, e_r2, e_h2]) ⟨by omega, by omega⟩ ⟨by omega, by omega⟩ (by omega) rfl
      ·
        have g39_ := mo2 s (by omega) (by omega)
        refine v_aload_n hX dX13_turnTwo_39 (i := 0) rfl rfl ?_
        refine v_iload_n hX dX13_turnTwo_40 (i := 1) rfl rfl ?_
        refine v_iload_n hX dX13_turnTwo_41 (i := 2) rfl rfl ?_
        refine v_callV hX (n := 2) (k_fits (S := S29c) (x := x) (sx := s) (k := k) (st_ := st_) (wt := wt) h29c (by simp (disch := omega) only [y_I_s_I, x_I_s_I, z_I_s_J, z_I_s_A, z_I_s_B, e29_en, e29_st_, e29_wt, e_r2, e_h2]) ⟨by omega, by omega⟩ (by simp (disch := omega) only [y_I_s_I, x_I_s_I, z_I_s_J, z_I_s_A, z_I_s_B, e29_en, e29_st_, e29_wt, e_r2, e_h2]) ⟨by omega, by omega⟩ ⟨by omega, by omega⟩ ⟨by omega, by omega⟩ (so.c (fun i => hc29_35 i) (fun i => hc29_34 i)) (eo.c (fun i => (hc29_27 i)) (fun i => (hc29_28 i)) (fun i => (hc29_29 i))) (by (try simp (disch := omega) only [zr_I, zr_J, zr_B, rA_A, zl_I, zl_J, zl_A, lA_B, hc29_35, hc29_34, hc29_26, hc29_22, hc29_27, hc29_28, hc29_29, hc29_18, hc29_25, hc29_19, hc29_21, hc29_23, hc29_20, hc29_17]); omega)) (ms_kx h29c) bc_11 (by decide) w_7_191 w_7_193 (bw_p (q := (yX13_fits, 72)) (List.mem_of_getElem? (i := 88) rfl) rfl) w_1_16 w_7_194 (by decide +kernel) rfl ⟨by decide, by decide⟩ ⟨by omega, by omega⟩ (Nat.le_of_ble_eq_true rfl) rfl dX13_turnTwo_42 (fun _ _ _ q => q) ?_
        rintro r3_ S3_ z3_ ⟨rfl, f3_, v4_, rfl, b_v4_, q3_⟩
        have e3_1160 : m_I S3_ 1160 x = iI en := (f3_.2.2.2.1 1160 (by decide)).trans (by simp (disch := omega) only [y_I_s_I, x_I_s_I, z_I_s_J, z_I_s_A, z_I_s_B, e29_en, e29_st_, e29_wt, e_r2, e_h2])
        have e3_1128 : m_I S3_ 1128 x = iI st_ := (f3_.2.2.2.1 1128 (by decide)).trans (by simp (disch := omega) only [y_I_s_I, x_I_s_I, z_I_s_J, z_I_s_A, z_I_s_B, e29_en, e29_st_, e29_wt, e_r2, e_h2])
        have e3_1163 : m_I S3_ 1163 x = iI wt := (f3_.2.2.2.1 1163 (by decide)).trans (by simp (disch := omega) only [y_I_s_I, x_I_s_I, z_I_s_J, z_I_s_A, z_I_s_B, e29_en, e29_st_, e29_wt, e_r2, e_h2])
        have e3_1153 : m_I S3_ 1153 x = iI r2 := (f3_.2.2.2.1 1153 (by decide)).trans (by simp (disch := omega) only [y_I_s_I, x_I_s_I, z_I_s_J, z_I_s_A, z_I_s_B, e29_en, e29_st_, e29_wt, e_r2, e_h2])
        have e3_1154 : m_I S3_ 1154 x = iI h2 := (f3_.2.2.2.1 1154 (by decide)).trans (by simp (disch := omega) only [y_I_s_I, x_I_s_I, z_I_s_J, z_I_s_A, z_I_s_B, e29_en, e29_st_, e29_wt, e_r2, e_h2])
        have h3_ : mS S3_ x := f3_.keep h29c
        have hc3_35 : ∀ i, rAt S3_ (x + 35) i = rAt S (x + 35) i := fun i => ((f3_.1 (x + 35) (by omega) (fun j hj => absurd hj List.not_mem_nil)).rA i).trans (hc29_35 i)
        have hc3_34 : ∀ i, rAt S3_ (x + 34) i = rAt S (x + 34) i := fun i => ((f3_.1 (x + 34) (by omega) (fun j hj => absurd hj List.not_mem_nil)).rA i).trans (hc29_34 i)
        have hc3_26 : ∀ i, rAt S3_ (x + 26) i = rAt S (x + 26) i := fun i => ((f3_.1 (x + 26) (by omega) (fun j hj => absurd hj List.not_mem_nil)).rA i).trans (hc29_26 i)
        have hc3_22 : ∀ i, rAt S3_ (x + 22) i = rAt S (x + 22) i := fun i => ((f3_.1 (x + 22) (by omega) (fun j hj => absurd hj List.not_mem_nil)).rA i).trans (hc29_22 i)
        have hc3_27 : ∀ i, rAt S3_ (x + 27) i = rAt S (x + 27) i := fun i => ((f3_.1 (x + 27) (by omega) (fun j hj => absurd hj List.not_mem_nil)).rA i).trans (hc29_27 i)
        have hc3_28 : ∀ i, rAt S3_ (x + 28) i = rAt S (x + 28) i := fun i => ((f3_.1 (x + 28) (by omega) (fun j hj => absurd hj List.not_mem_nil)).rA i).trans (hc29_28 i)
        have hc3_29 : ∀ i, rAt S3_ (x + 29) i = rAt S (x + 29) i := fun i => ((f3_.1 (x + 29) (by omega) (fun j hj => absurd hj List.not_mem_nil)).rA i).trans (hc29_29 i)
        have hc3_18 : ∀ i, rAt S3_ (x + 18) i = rAt S (x + 18) i := fun i => ((f3_.1 (x + 18) (by omega) (fun j hj => absurd hj List.not_mem_nil)).rA i).trans (hc29_18 i)
        have hc3_25 : ∀ i, rAt S3_ (x + 25) i = rAt S (x + 25) i := fun i => ((f3_.1 (x + 25) (by omega) (fun j hj => absurd hj List.not_mem_nil)).rA i).trans (hc29_25 i)
        have hc3_19 : ∀ i, rAt S3_ (x + 19) i = rAt S (x + 19) i := fun i => ((f3_.1 (x + 19) (by omega) (fun j hj => absurd hj List.not_mem_nil)).rA i).trans (hc29_19 i)
        have hc3_21 : ∀ i, rAt S3_ (x + 21) i = rAt S (x + 21) i := fun i => ((f3_.1 (x + 21) (by omega) (fun j hj => absurd hj List.not_mem_nil)).rA i).trans (hc29_21 i)
        have hc3_23 : ∀ i, rAt S3_ (x + 23) i = rAt S (x + 23) i := fun i => ((f3_.1 (x + 23) (by omega) (fun j hj => absurd hj List.not_mem_nil)).rA i).trans (hc29_23 i)
        have hc3_20 : ∀ i, rAt S3_ (x + 20) i = rAt S (x + 20) i := fun i => ((f3_.1 (x + 20) (by omega) (fun j hj => absurd hj List.not_mem_nil)).rA i).trans (hc29_20 i)
        have hc3_17 : ∀ i, rAt S3_ (x + 17) i = rAt S (x + 17) i := fun i => ((f3_.1 (x + 17) (by omega) (fun j hj => absurd hj List.not_mem_nil)).rA i).trans (hc29_17 i)
        refine v_istore_n hX (lv' := [(3, .int (iI v4_)), (2, .int (iI k)), (1, .int (iI s)), (0, .ref x)]) dX13_turnTwo_45 (i := 3) rfl (by rw [hnL]; decide) rfl ?_
        refine v_aload_n hX dX13_turnTwo_46 (i := 0) rfl rfl ?_
        refine v_iload_n hX dX13_turnTwo_47 (i := 1) rfl rfl ?_
        refine v_iload_n hX dX13_turnTwo_48 (i := 2) rfl rfl ?_
        refine v_callV hX (n := 2) (k_valueAt (S := S3_) (x := x) (sx := s) (k := k) (st_ := st_) (wt := wt) h3_ (by simp (disch := omega) only [y_I_s_I, x_I_s_I, z_I_s_J, z_I_s_A, z_I_s_B, e3_1160, e3_1128, e3_1163, e3_1153, e3_1154]) ⟨by omega, by omega⟩ (by simp (disch := omega) only [y_I_s_I, x_I_s_I, z_I_s_J, z_I_s_A, z_I_s_B, e3_1160, e3_1128, e3_1163, e3_1153, e3_1154]) ⟨by omega, by omega⟩ ⟨by omega, by omega⟩ ⟨by omega, by omega⟩ (so.c (fun i => hc3_35 i) (fun i => hc3_34 i)) (eo.c (fun i => (hc3_27 i)) (fun i => (hc3_28 i)) (fun i => (hc3_29 i))) (by (try simp (disch := omega) only [zr_I, zr_J, zr_B, rA_A, zl_I, zl_J, zl_A, lA_B, hc3_35, hc3_34, hc3_26, hc3_22, hc3_27, hc3_28, hc3_29, hc3_18, hc3_25, hc3_19, hc3_21, hc3_23, hc3_20, hc3_17]); omega)) (ms_kx h3_) bc_11 (by decide) w_7_182 w_7_184 (bw_p (q := (yX13_valueAt, 72)) (List.mem_of_getElem? (i := 86) rfl) rfl) w_1_16 w_7_185 (by decide +kernel) rfl ⟨by decide, by decide⟩ ⟨by omega, by omega⟩ (Nat.le_of_ble_eq_true rfl) rfl dX13_turnTwo_49 (fun _ _ _ q => q) ?_
        rintro r5_ S5_ z5_ ⟨rfl, f5_, v6_, v7_, rfl, b_v6_, e_v7_, b_v7_, q5_⟩
        have e5_1160 : m_I S5_ 1160 x = iI en := (f5_.2.2.2.1 1160 (by decide)).trans (by simp (disch := omega) only [y_I_s_I, x_I_s_I, z_I_s_J, z_I_s_A, z_I_s_B, e3_1160, e3_1128, e3_1163, e3_1153, e3_1154])
        have e5_1128 : m_I S5_ 1128 x = iI st_ := (f5_.2.2.2.1 1128 (by decide)).trans (by simp (disch := omega) only [y_I_s_I, x_I_s_I, z_I_s_J, z_I_s_A, z_I_s_B, e3_1160, e3_1128, e3_1163, e3_1153, e3_1154])
        have e5_1163 : m_I S5_ 1163 x = iI wt := (f5_.2.2.2.1 1163 (by decide)).trans (by simp (disch := omega) only [y_I_s_I, x_I_s_I, z_I_s_J, z_I_s_A, z_I_s_B, e3_1160, e3_1128, e3_1163, e3_1153, e3_1154])
        have e5_1153 : m_I S5_ 1153 x = iI r2 := (f5_.2.2.2.1 1153 (by decide)).trans (by simp (disch := omega) only [y_I_s_I, x_I_s_I, z_I_s_J, z_I_s_A, z_I_s_B, e3_1160, e3_1128, e3_1163, e3_1153, e3_1154])
        have e5_1154 : m_I S5_ 1154 x = iI h2 := (f5_.2.2.2.1 1154 (by decide)).trans (by simp (disch := omega) only [y_I_s_I, x_I_s_I, z_I_s_J, z_I_s_A, z_I_s_B, e3_1160, e3_1128, e3_1163, e3_1153, e3_1154])
        have h5_ : mS S5_ x := f5_.keep h3_
        have hc5_35 : ∀ i, rAt S5_ (x + 35) i = rAt S (x + 35) i := fun i => ((f5_.1 (x + 35) (by omega) (fun j hj => absurd hj List.not_mem_nil)).rA i).trans (hc3_35 i)
        have hc5_34 : ∀ i, rAt S5_ (x + 34) i = rAt S (x + 34) i := fun i => ((f5_.1 (x + 34) (by omega) (fun j hj => absurd hj List.not_mem_nil)).rA i).trans (hc3_34 i)
        have hc5_26 : ∀ i, rAt S5_ (x + 26) i = rAt S (x + 26) i := fun i => ((f5_.1 (x + 26) (by omega) (fun j hj => absurd hj List.not_mem_nil)).rA i).trans (hc3_26 i)
        have hc5_22 : ∀ i, rAt S5_ (x + 22) i = rAt S (x + 22) i := fun i => ((f5_.1 (x + 22) (by omega) (fun j hj => absurd hj List.not_mem_nil)).rA i).trans (hc3_22 i)
        have hc5_27 : ∀ i, rAt S5_ (x + 27) i = rAt S (x + 27) i := fun i => ((f5_.1 (x + 27) (by omega) (fun j hj => absurd hj List.not_mem_nil)).rA i).trans (hc3_27 i)
        have hc5_28 : ∀ i, rAt S5_ (x + 28) i = rAt S (x + 28) i := fun i => ((f5_.1 (x + 28) (by omega) (fun j hj => absurd hj List.not_mem_nil)).rA i).trans (hc3_28 i)
        have hc5_29 : ∀ i, rAt S5_ (x + 29) i = rAt S (x + 29) i := fun i => ((f5_.1 (x + 29) (by omega) (fun j hj => absurd hj List.not_mem_nil)).rA i).trans (hc3_29 i)
        have hc5_18 : ∀ i, rAt S5_ (x + 18) i = rAt S (x + 18) i := fun i => ((f5_.1 (x + 18) (by omega) (fun j hj => absurd hj List.not_mem_nil)).rA i).trans (hc3_18 i)
        have hc5_25 : ∀ i, rAt S5_ (x + 25) i = rAt S (x + 25) i := fun i => ((f5_.1 (x + 25) (by omega) (fun j hj => absurd hj List.not_mem_nil)).rA i).trans (hc3_25 i)
        have hc5_19 : ∀ i, rAt S5_ (x + 19) i = rAt S (x + 19) i := fun i => ((f5_.1 (x + 19) (by omega) (fun j hj => absurd hj List.not_mem_nil)).rA i).trans (hc3_19 i)
        have hc5_21 : ∀ i, rAt S5_ (x + 21) i = rAt S (x + 21) i := fun i => ((f5_.1 (x + 21) (by omega) (fun j hj => absurd hj List.not_mem_nil)).rA i).trans (hc3_21 i)
        have hc5_23 : ∀ i, rAt S5_ (x + 23) i = rAt S (x + 23) i := fun i => ((f5_.1 (x + 23) (by omega) (fun j hj => absurd hj List.not_mem_nil)).rA i).trans (hc3_23 i)
        have hc5_20 : ∀ i, rAt S5_ (x + 20) i = rAt S (x + 20) i := fun i => ((f5_.1 (x + 20) (by omega) (fun j hj => absurd hj List.not_mem_nil)).rA i).trans (hc3_20 i)
        have hc5_17 : ∀ i, rAt S5_ (x + 17) i = rAt S (x + 17) i := fun i => ((f5_.1 (x + 17) (by omega) (fun j hj => absurd hj List.not_mem_nil)).rA i).trans (hc3_17 i)
        refine v_pop hX dX13_turnTwo_52 rfl ?_
        refine v_aload_n hX dX13_turnTwo_53 (i := 0) rfl rfl ?_
        refine v_get hX (ci := 11) (k := 62) (ms_kx h5_) bc_11 (by decide) (by decide) in_11 w_6_38 dX13_turnTwo_54 (mvF (f := 1162) (v := iI v7_) rfl rfl (by simp (disch := omega) only [y_I_s_I, x_I_s_I, z_I_s_J, z_I_s_A, z_I_s_B, e5_1160, e5_1128, e5_1163, e5_1153, e5_1154, e_v7_])) ?_
        refine u_if_eq hX (tgt := 74) dX13_turnTwo_57 (by decide) ⟨by omega, by omega⟩ (fun h8_ => ?_) (fun h8_ => ?_)
        ·
          refine v_iload_n hX dX13_turnTwo_74 (i := 3) rfl rfl ?_
          refine u_if_ne hX (tgt := 89) dX13_turnTwo_75 (by decide) ⟨by omega, by omega⟩ (fun h9_ => ?_) (fun h9_ => ?_)
          ·
            refine v_locals (lv' := [(2, .int (iI k)), (1, .int (iI s)), (0, .ref x)]) (by simp) ?_
            exact L89 _ r2 h2 ((fr29.tr (f3_.mono (by decide) (by decide) (by decide))).tr (f5_.mono (by decide) (by decide) (by decide))) (by simp (disch := omega) only [y_I_s_I, x_I_s_I, z_I_s_J, z_I_s_A, z_I_s_B, e5_1160, e5_1128, e5_1163, e5_1153, e5_1154, e_v7_]) (by simp (disch := omega) only [y_I_s_I, x_I_s_I, z_I_s_J, z_I_s_A, z_I_s_B, e5_1160, e5_1128, e5_1163, e5_1153, e5_1154, e_v7_]) ⟨by omega, by omega⟩ ⟨by omega, by omega⟩ (by omega)
          ·
            refine v_aload_n hX dX13_turnTwo_78 (i := 0) rfl rfl ?_
            refine v_iconst hX (v := iI 5) dX13_turnTwo_79 rfl ?_
            refine v_aload_n hX dX13_turnTwo_80 (i := 0) rfl rfl ?_
            refine v_get hX (ci := 11) (k := 29) (ms_kx h5_) bc_11 (by decide) (by decide) in_11 w_6_5 dX13_turnTwo_81 (mvP (f := 1129) (q := (x + 17)) rfl rfl (ms_p_1129 h5_)) ?_
            refine v_iload_n hX dX13_turnTwo_84 (i := 1) rfl rfl ?_
            refine u_iald hX (L := 400) (ms_k_1129 h5_) (ms_l_1129 h5_) ⟨by omega, by omega⟩ (by decide) dX13_turnTwo_85 (fun v10_ e_v10_ b_v10_ => ?_)
            try simp (disch := omega) only [zr_I, zr_J, zr_B, rA_A, zl_I, zl_J, zl_A, lA_B, hc5_35, hc5_34, hc5_26, hc5_22, hc5_27, hc5_28, hc5_29, hc5_18, hc5_25, hc5_19, hc5_21, hc5_23, hc5_20, hc5_17] at e_v10_
            refine v_callV hX (n := 2) (k_wrong (S := S5_) (x := x) (what := 5) (where_ := v10_) (er := r2) h5_ (by simp (disch := omega) only [y_I_s_I, x_I_s_I, z_I_s_J, z_I_s_A, z_I_s_B, e5_1160, e5_1128, e5_1163, e5_1153, e5_1154, e_v7_]) ⟨by omega, by omega⟩ ⟨by omega, by omega⟩ ⟨by omega, by omega⟩ (by omega)) (ms_kx h5_) bc_11 (by decide) w_7_21 w_7_23 (bw_p (q := (yX13_wrong, 72)) (List.mem_of_getElem? (i := 49) rfl) rfl) w_1_16 w_7_24 (by decide +kernel) rfl ⟨by decide, by decide⟩ ⟨by omega, by omega⟩ (Nat.le_of_ble_eq_true rfl) rfl dX13_turnTwo_86 (fun _ _ _ q => q) ?_
            rintro r11_ S11_ z11_ ⟨rfl, f11_, v12_, v13_, rfl, e_v12_, b_v12_, e_v13_, b_v13_, q11_⟩
            have e11_1160 : m_I S11_ 1160 x = iI en := (f11_.2.2.2.1 1160 (by decide)).trans (by simp (disch := omega) only [y_I_s_I, x_I_s_I, z_I_s_J, z_I_s_A, z_I_s_B, e5_1160, e5_1128, e5_1163, e5_1153, e5_1154, e_v7_])
            have e11_1128 : m_I S11_ 1128 x = iI st_ := (f11_.2.2.2.1 1128 (by decide)).trans (by simp (disch := omega) only [y_I_s_I, x_I_s_I, z_I_s_J, z_I_s_A, z_I_s_B, e5_1160, e5_1128, e5_1163, e5_1153, e5_1154, e_v7_])
            have e11_1163 : m_I S11_ 1163 x = iI wt := (f11_.2.2.2.1 1163 (by decide)).trans (by simp (disch := omega) only [y_I_s_I, x_I_s_I, z_I_s_J, z_I_s_A, z_I_s_B, e5_1160, e5_1128, e5_1163, e5_1153, e5_1154, e_v7_])
            have e11_1162 : m_I S11_ 1162 x = iI v7_ := (f11_.2.2.2.1 1162 (by decide)).trans (by simp (disch := omega) only [y_I_s_I, x_I_s_I, z_I_s_J, z_I_s_A, z_I_s_B, e5_1160, e5_1128, e5_1163, e5_1153, e5_1154, e_v7_])
            have h11_ : mS S11_ x := f11_.keep h5_
            have hc11_35 : ∀ i, rAt S11_ (x + 35) i = rAt S (x + 35) i := fun i => ((f11_.1 (x + 35) (by omega) (by intro j hj; simp only [List.mem_cons, List.not_mem_nil, or_false] at hj; omega)).rA i).trans (hc5_35 i)
            have hc11_34 : ∀ i, rAt S11_ (x + 34) i = rAt S (x + 34) i := fun i => ((f11_.1 (x + 34) (by omega) (by intro j hj; simp only [List.mem_cons, List.not_mem_nil, or_false] at hj; omega)).rA i).trans (hc5_34 i)
            have hc11_26 : ∀ i, rAt S11_ (x + 26) i = rAt S (x + 26) i := fun i => ((f11_.1 (x + 26) (by omega) (by intro j hj; simp only [List.mem_cons, List.not_mem_nil, or_false] at hj; omega)).rA i).trans (hc5_26 i)
            have hc11_22 : ∀ i, rAt S11_ (x + 22) i = rAt S (x + 22) i := fun i => ((f11_.1 (x + 22) (by omega) (by intro j hj; simp only [List.mem_cons, List.not_mem_nil, or_false] at hj; omega)).rA i).trans (hc5_22 i)
            have hc11_27 : ∀ i, rAt S11_ (x + 27) i = rAt S (x + 27) i := fun i => ((f11_.1 (x + 27) (by omega) (by intro j hj; simp only [List.mem_cons, List.not_mem_nil, or_false] at hj; omega)).rA i).trans (hc5_27 i)
            have hc11_28 : ∀ i, rAt S11_ (x + 28) i = rAt S (x + 28) i := fun i => ((f11_.1 (x + 28) (by omega) (by intro j hj; simp only [List.mem_cons, List.not_mem_nil, or_false] at hj; omega)).rA i).trans (hc5_28 i)
            have hc11_29 : ∀ i, rAt S11_ (x + 29) i = rAt S (x + 29) i := fun i => ((f11_.1 (x + 29) (by omega) (by intro j hj; simp only [List.mem_cons, List.not_mem_nil, or_false] at hj; omega)).rA i).trans (hc5_29 i)
            have hc11_18 : ∀ i, rAt S11_ (x + 18) i = rAt S (x + 18) i := fun i => ((f11_.1 (x + 18) (by omega) (by intro j hj; simp only [List.mem_cons, List.not_mem_nil, or_false] at hj; omega)).rA i).trans (hc5_18 i)
            have hc11_25 : ∀ i, rAt S11_ (x + 25) i = rAt S (x + 25) i := fun i => ((f11_.1 (x + 25) (by omega) (by intro j hj; simp only [List.mem_cons, List.not_mem_nil, or_false] at hj; omega)).rA i).trans (hc5_25 i)
            have hc11_19 : ∀ i, rAt S11_ (x + 19) i = rAt S (x + 19) i := fun i => ((f11_.1 (x + 19) (by omega) (by intro j hj; simp only [List.mem_cons, List.not_mem_nil, or_false] at hj; omega)).rA i).trans (hc5_19 i)
            have hc11_21 : ∀ i, rAt S11_ (x + 21) i = rAt S (x + 21) i := fun i => ((f11_.1 (x + 21) (by omega) (by intro j hj; simp only [List.mem_cons, List.not_mem_nil, or_false] at hj; omega)).rA i).trans (hc5_21 i)
            have hc11_23 : ∀ i, rAt S11_ (x + 23) i = rAt S (x + 23) i := fun i => ((f11_.1 (x + 23) (by omega) (by intro j hj; simp only [List.mem_cons, List.not_mem_nil, or_false] at hj; omega)).rA i).trans (hc5_23 i)
            have hc11_20 : ∀ i, rAt S11_ (x + 20) i = rAt S (x + 20) i := fun i => ((f11_.1 (x + 20) (by omega) (by intro j hj; simp only [List.mem_cons, List.not_mem_nil, or_false] at hj; omega)).rA i).trans (hc5_20 i)
            have hc11_17 : ∀ i, rAt S11_ (x + 17) i = rAt S (x + 17) i := fun i => ((f11_.1 (x + 17) (by omega) (by intro j hj; simp only [List.mem_cons, List.not_mem_nil, or_false] at hj; omega)).rA i).trans (hc5_17 i)
            refine v_locals (lv' := [(2, .int (iI k)), (1, .int (iI s)), (0, .ref x)]) (by simp) ?_
            exact L89 _ v12_ v13_ (((fr29.tr (f3_.mono (by decide) (by decide) (by decide))).tr (f5_.mono (by decide) (by decide) (by decide))).tr (f11_.mono (by decide) (by decide) (by decide))) (by simp (disch := omega) only [y_I_s_I, x_I_s_I, z_I_s_J, z_I_s_A, z_I_s_B, e11_1160, e11_1128, e11_1163, e11_1162, e_v12_, e_v13_]) (by simp (disch := omega) only [y_I_s_I, x_I_s_I, z_I_s_J, z_I_s_A, z_I_s_B, e11_1160, e11_1128, e11_1163, e11_1162, e_v12_, e_v13_]) ⟨by omega, by omega⟩ ⟨by omega, by omega⟩ (by omega)
        ·
          refine v_aload_n hX dX13_turnTwo_60 (i := 0) rfl rfl ?_
          refine v_iconst hX (v := iI 4) dX13_turnTwo_61 rfl ?_
          refine v_aload_n hX dX13_turnTwo_62 (i := 0) rfl rfl ?_
          refine v_get hX (ci := 11) (k := 29) (ms_kx h5_) bc_11 (by decide) (by decide) in_11 w_6_5 dX13_turnTwo_63 (mvP (f := 1129) (q := (x + 17)) rfl rfl (ms_p_1129 h5_)) ?_
          refine v_iload_n hX dX13_turnTwo_66 (i := 1) rfl rfl ?_
          refine u_iald hX (L := 400) (ms_k_1129 h5_) (ms_l_1129 h5_) ⟨by omega, by omega⟩ (by decide) dX13_turnTwo_67 (fun v14_ e_v14_ b_v14_ => ?_)
          try simp (disch := omega) only [zr_I, zr_J, zr_B, rA_A, zl_I, zl_J, zl_A, lA_B, hc5_35, hc5_34, hc5_26, hc5_22, hc5_27, hc5_28, hc5_29, hc5_18, hc5_25, hc5_19, hc5_21, hc5_23, hc5_20, hc5_17] at e_v14_
          refine v_callV hX (n := 2) (k_wrong (S := S5_) (x := x) (what := 4) (where_ := v14_) (er := r2) h5_ (by simp (disch := omega) only [y_I_s_I, x_I_s_I, z_I_s_J, z_I_s_A, z_I_s_B, e5_1160, e5_1128, e5_1163, e5_1153, e5_1154, e_v7_]) ⟨by omega, by omega⟩ ⟨by omega, by omega⟩ ⟨by omega, by omega⟩ (by omega)) (ms_kx h5_) bc_11 (by decide) w_7_21 w_7_23 (bw_p (q := (yX13_wrong, 72)) (List.mem_of_getElem? (i := 49) rfl) rfl) w_1_16 w_7_24 (by decide +kernel) rfl ⟨by decide, by decide⟩ ⟨by omega, by omega⟩ (Nat.le_of_ble_eq_true rfl) rfl dX13_turnTwo_68 (fun _ _ _ q => q) ?_
          rintro r15_ S15_ z15_ ⟨rfl, f15_, v16_, v17_, rfl, e_v16_, b_v16_, e_v17_, b_v17_, q15_⟩
          have e15_1160 : m_I S15_ 1160 x = iI en := (f15_.2.2.2.1 1160 (by decide)).trans (by simp (disch := omega) only [y_I_s_I, x_I_s_I, z_I_s_J, z_I_s_A, z_I_s_B, e5_1160, e5_1128, e5_1163, e5_1153, e5_1154, e_v7_])
          have e15_1128 : m_I S15_ 1128 x = iI st_ := (f15_.2.2.2.1 1128 (by decide)).trans (by simp (disch := omega) only [y_I_s_I, x_I_s_I, z_I_s_J, z_I_s_A, z_I_s_B, e5_1160, e5_1128, e5_1163, e5_1153, e5_1154, e_v7_])
          have e15_1163 : m_I S15_ 1163 x = iI wt := (f15_.2.2.2.1 1163 (by decide)).trans (by simp (disch := omega) only [y_I_s_I, x_I_s_I, z_I_s_J, z_I_s_A, z_I_s_B, e5_1160, e5_1128, e5_1163, e5_1153, e5_1154, e_v7_])
          have e15_1162 : m_I S15_ 1162 x = iI v7_ := (f15_.2.2.2.1 1162 (by decide)).trans (by simp (disch := omega) only [y_I_s_I, x_I_s_I, z_I_s_J, z_I_s_A, z_I_s_B, e5_1160, e5_1128, e5_1163, e5_1153, e5_1154, e_v7_])
          have h15_ : mS S15_ x := f15_.keep h5_
          have hc15_35 : ∀ i, rAt S15_ (x + 35) i = rAt S (x + 35) i := fun i => ((f15_.1 (x + 35) (by omega) (by intro j hj; simp only [List.mem_cons, List.not_mem_nil, or_false] at hj; omega)).rA i).trans (hc5_35 i)
          have hc15_34 : ∀ i, rAt S15_ (x + 34) i = rAt S (x + 34) i := fun i => ((f15_.1 (x + 34) (by omega) (by intro j hj; simp only [List.mem_cons, List.not_mem_nil, or_false] at hj; omega)).rA i).trans (hc5_34 i)
          have hc15_26 : ∀ i, rAt S15_ (x + 26) i = rAt S (x + 26) i := fun i => ((f15_.1 (x + 26) (by omega) (by intro j hj; simp only [List.mem_cons, List.not_mem_nil, or_false] at hj; omega)).rA i).trans (hc5_26 i)
          have hc15_22 : ∀ i, rAt S15_ (x + 22) i = rAt S (x + 22) i := fun i => ((f15_.1 (x + 22) (by omega) (by intro j hj; simp only [List.mem_cons, List.not_mem_nil, or_false] at hj; omega)).rA i).trans (hc5_22 i)
          have hc15_27 : ∀ i, rAt S15_ (x + 27) i = rAt S (x + 27) i := fun i => ((f15_.1 (x + 27) (by omega) (by intro j hj; simp only [List.mem_cons, List.not_mem_nil, or_false] at hj; omega)).rA i).trans (hc5_27 i)
          have hc15_28 : ∀ i, rAt S15_ (x + 28) i = rAt S (x + 28) i := fun i => ((f15_.1 (x + 28) (by omega) (by intro j hj; simp only [List.mem_cons, List.not_mem_nil, or_false] at hj; omega)).rA i).trans (hc5_28 i)
          have hc15_29 : ∀ i, rAt S15_ (x + 29) i = rAt S (x + 29) i := fun i => ((f15_.1 (x + 29) (by omega) (by intro j hj; simp only [List.mem_cons, List.not_mem_nil, or_false] at hj; omega)).rA i).trans (hc5_29 i)
          have hc15_18 : ∀ i, rAt S15_ (x + 18) i = rAt S (x + 18) i := fun i => ((f15_.1 (x + 18) (by omega) (by intro j hj; simp only [List.mem_cons, List.not_mem_nil, or_false] at hj; omega)).rA i).trans (hc5_18 i)
          have hc15_25 : ∀ i, rAt S15_ (x + 25) i = rAt S (x + 25) i := fun i => ((f15_.1 (x + 25) (by omega) (by intro j hj; simp only [List.mem_cons, List.not_mem_nil, or_false] at hj; omega)).rA i).trans (hc5_25 i)
          have hc15_19 : ∀ i, rAt S15_ (x + 19) i = rAt S (x + 19) i := fun i => ((f15_.1 (x + 19) (by omega) (by intro j hj; simp only [List.mem_cons, List.not_mem_nil, or_false] at hj; omega)).rA i).trans (hc5_19 i)
          have hc15_21 : ∀ i, rAt S15_ (x + 21) i = rAt S (x + 21) i := fun i => ((f15_.1 (x + 21) (by omega) (by intro j hj; simp only [List.mem_cons, List.not_mem_nil, or_false] at hj; omega)).rA i).trans (hc5_21 i)
          have hc15_23 : ∀ i, rAt S15_ (x + 23) i = rAt S (x + 23) i := fun i => ((f15_.1 (x + 23) (by omega) (by intro j hj; simp only [List.mem_cons, List.not_mem_nil, or_false] at hj; omega)).rA i).trans (hc5_23 i)
          have hc15_20 : ∀ i, rAt S15_ (x + 20) i = rAt S (x + 20) i := fun i => ((f15_.1 (x + 20) (by omega) (by intro j hj; simp only [List.mem_cons, List.not_mem_nil, or_false] at hj; omega)).rA i).trans (hc5_20 i)
          have hc15_17 : ∀ i, rAt S15_ (x + 17) i = rAt S (x + 17) i := fun i => ((f15_.1 (x + 17) (by omega) (by intro j hj; simp only [List.mem_cons, List.not_mem_nil, or_false] at hj; omega)).rA i).trans (hc5_17 i)
          refine v_goto hX (tgt := 89) dX13_turnTwo_71 (by decide) ?_
          refine v_locals (lv' := [(2, .int (iI k)), (1, .int (iI s)), (0, .ref x)]) (by simp) ?_
          exact L89 _ v16_ v17_ (((fr29.tr (f3_.mono (by decide) (by decide) (by decide))).tr (f5_.mono (by decide) (by decide) (by decide))).tr (f15_.mono (by decide) (by decide) (by decide))) (by simp (disch := omega) only [y_I_s_I, x_I_s_I, z_I_s_J, z_I_s_A, z_I_s_B, e15_1160, e15_1128, e15_1163, e15_1162, e_v16_, e_v17_]) (by simp (disch := omega) only [y_I_s_I, x_I_s_I, z_I_s_J, z_I_s_A, z_I_s_B, e15_1160, e15_1128, e15_1163, e15_1162, e_v16_, e_v17_]) ⟨by omega, by omega⟩ ⟨by omega, by omega⟩ (by omega)
    refine v_iload_n hX dX13_turnTwo_19 (i := 1) rfl rfl ?_
    refine v_aload_n hX dX13_turnTwo_20 (i := 0) rfl rfl ?_
    refine v_get hX (ci := 11) (k := 28) (ms_kx h19c) bc_11 (by decide) (by decide) in_11 w_6_4 dX13_turnTwo_21 (mvF (f := 1128) (v := iI st_) rfl rfl (by simp (disch := omega) only [y_I_s_I, x_I_s_I, z_I_s_J, z_I_s_A, z_I_s_B, e19_en, e19_st_, e19_wt, e_r0, e_h0])) ?_
    refine u_icmp_ge hX (tgt := 101) dX13_turnTwo_24 (by decide) ⟨by omega, by omega⟩ ⟨by omega, by omega⟩ (fun h18_ => ?_) (fun h18_ => ?_)
    ·
      exact v_return hX hE dX13_turnTwo_101 (by omega) (by omega) ⟨rfl, fr19, r0, h0, rfl, (by simp (disch := omega) only [y_I_s_I, x_I_s_I, z_I_s_J, z_I_s_A, z_I_s_B, e19_en, e19_st_, e19_wt, e_r0, e_h0]), ⟨by omega, by omega⟩, (by simp (disch := omega) only [y_I_s_I, x_I_s_I, z_I_s_J, z_I_s_A, z_I_s_B, e19_en, e19_st_, e19_wt, e_r0, e_h0]), ⟨by omega, by omega⟩, (by omega)⟩
    ·
      refine v_iconst hX (v := iI 0) dX13_turnTwo_27 rfl ?_
      refine v_istore_n hX (lv' := [(2, .int (iI 0)), (1, .int (iI s)), (0, .ref x)]) dX13_turnTwo_28 (i := 2) rfl (by rw [hnL]; decide) rfl ?_
      exact L29 _ _ r0 h0 0 fr19 (by simp (disch := omega) only [y_I_s_I, x_I_s_I, z_I_s_J, z_I_s_A, z_I_s_B, e19_en, e19_st_, e19_wt, e_r0, e_h0]) (by simp (disch := omega) only [y_I_s_I, x_I_s_I, z_I_s_J, z_I_s_A, z_I_s_B, e19_en, e19_st_, e19_wt, e_r0, e_h0]) ⟨by omega, by omega⟩ ⟨by omega, by omega⟩ (by omega) rfl
  change b_V X S z 0 0 0 [(0, .ref x)] []
  refine v_aload_n hX dX13_turnTwo_0 (i := 0) rfl rfl ?_
  refine v_get hX (ci := 11) (k := 60) (ms_kx h) bc_11 (by decide) (by decide) in_11 w_6_36 dX13_turnTwo_1 (mvF (f := 1160) (v := iI en) rfl rfl (by simp (disch := omega) only [y_I_s_I, x_I_s_I, z_I_s_J, z_I_s_A, z_I_s_B, e_en, e_st_, e_wt, e_er, e_he])) ?_
  refine v_ldcw hX (v := iI 65535) dX13_turnTwo_4 (show Cond.constant _ _ (iI 65535) ∈ b_Ws from w_7_190) ?_
  refine u_icmp_le hX (tgt := 17) dX13_turnTwo_7 (by decide) ⟨by omega, by omega⟩ ⟨by omega, by omega⟩ (fun h19_ => ?_) (fun h19_ => ?_)
  ·
    refine v_iconst hX (v := iI 0) dX13_turnTwo_17 rfl ?_
    refine v_istore_n hX (lv' := [(1, .int (iI 0)), (0, .ref x)]) dX13_turnTwo_18 (i := 1) rfl (by rw [hnL]; decide) rfl ?_
    exact L19 _ _ er he 0 (mFr.rf _ _) (by simp (disch := omega) only [y_I_s_I, x_I_s_I, z_I_s_J, z_I_s_A, z_I_s_B, e_en, e_st_, e_wt, e_er, e_he]) (by simp (disch := omega) only [y_I_s_I, x_I_s_I, z_I_s_J, z_I_s_A, z_I_s_B, e_en, e_st_, e_wt, e_er, e_he]) ⟨by omega, by omega⟩ ⟨by omega, by omega⟩ (by omega) rfl
  ·
    refine v_aload_n hX dX13_turnTwo_10 (i := 0) rfl rfl ?_
    refine v_iconst hX (v := iI 5) dX13_turnTwo_11 rfl ?_
    refine v_iconst hX (v := iI 0) dX13_turnTwo_12 rfl ?_
    refine v_callV hX (n := 2) (k_wrong (S := S) (x := x) (what := 5) (where_ := 0) (er := er) h (by simp (disch := omega) only [y_I_s_I, x_I_s_I, z_I_s_J, z_I_s_A, z_I_s_B, e_en, e_st_, e_wt, e_er, e_he]) ⟨by omega, by omega⟩ ⟨by omega, by omega⟩ ⟨by omega, by omega⟩ (by omega)) (ms_kx h) bc_11 (by decide) w_7_21 w_7_23 (bw_p (q := (yX13_wrong, 72)) (List.mem_of_getElem? (i := 49) rfl) rfl) w_1_16 w_7_24 (by decide +kernel) rfl ⟨by decide, by decide⟩ ⟨by omega, by omega⟩ (Nat.le_of_ble_eq_true rfl) rfl dX13_turnTwo_13 (fun _ _ _ q => q) ?_
    rintro r20_ S20_ z20_ ⟨rfl, f20_, v21_, v22_, rfl, e_v21_, b_v21_, e_v22_, b_v22_, q20_⟩
    have e20_1160 : m_I S20_ 1160 x = iI en := (f20_.2.2.2.1 1160 (by decide)).trans (by simp (disch := omega) only [y_I_s_I, x_I_s_I, z_I_s_J, z_I_s_A, z_I_s_B, e_en, e_st_, e_wt, e_er, e_he])
    have e20_1128 : m_I S20_ 1128 x = iI st_ := (f20_.2.2.2.1 1128 (by decide)).trans (by simp (disch := omega) only [y_I_s_I, x_I_s_I, z_I_s_J, z_I_s_A, z_I_s_B, e_en, e_st_, e_wt, e_er, e_he])
    have e20_1163 : m_I S20_ 1163 x = iI wt := (f20_.2.2.2.1 1163 (by decide)).trans (by simp (disch := omega) only [y_I_s_I, x_I_s_I, z_I_s_J, z_I_s_A, z_I_s_B, e_en, e_st_, e_wt, e_er, e_he])
    have h20_ : mS S20_ x := f20_.keep h
    have hc20_35 : ∀ i, rAt S20_ (x + 35) i = rAt S (x + 35) i := fun i => ((f20_.1 (x + 35) (by omega) (by intro j hj; simp only [List.mem_cons, List.not_mem_nil, or_false] at hj; omega)).rA i).trans rfl
    have hc20_34 : ∀ i, rAt S20_ (x + 34) i = rAt S (x + 34) i := fun i => ((f20_.1 (x + 34) (by omega) (by intro j hj; simp only [List.mem_cons, List.not_mem_nil, or_false] at hj; omega)).rA i).trans rfl
    have hc20_26 : ∀ i, rAt S20_ (x + 26) i = rAt S (x + 26) i := fun i => ((f20_.1 (x + 26) (by omega) (by intro j hj; simp only [List.mem_cons, List.not_mem_nil, or_false] at hj; omega)).rA i).trans rfl
    have hc20_22 : ∀ i, rAt S20_ (x + 22) i = rAt S (x + 22) i := fun i => ((f20_.1 (x + 22) (by omega) (by intro j hj; simp only [List.mem_cons, List.not_mem_nil, or_false] at hj; omega)).rA i).trans rfl
    have hc20_27 : ∀ i, rAt S20_ (x + 27) i = rAt S (x + 27) i := fun i => ((f20_.1 (x + 27) (by omega) (by intro j hj; simp only [List.mem_cons, List.not_mem_nil, or_false] at hj; omega)).rA i).trans rfl
    have hc20_28 : ∀ i, rAt S20_ (x + 28) i = rAt S (x + 28) i := fun i => ((f20_.1 (x + 28) (by omega) (by intro j hj; simp only [List.mem_cons, List.not_mem_nil, or_false] at hj; omega)).rA i).trans rfl
    have hc20_29 : ∀ i, rAt S20_ (x + 29) i = rAt S (x + 29) i := fun i => ((f20_.1 (x + 29) (by omega) (by intro j hj; simp only [List.mem_cons, List.not_mem_nil, or_false] at hj; omega)).rA i).trans rfl
    have hc20_18 : ∀ i, rAt S20_ (x + 18) i = rAt S (x + 18) i := fun i => ((f20_.1 (x + 18) (by omega) (by intro j hj; simp only [List.mem_cons, List.not_mem_nil, or_false] at hj; omega)).rA i).trans rfl
    have hc20_25 : ∀ i, rAt S20_ (x + 25) i = rAt S (x + 25) i := fun i => ((f20_.1 (x + 25) (by omega) (by intro j hj; simp only [List.mem_cons, List.not_mem_nil, or_false] at hj; omega)).rA i).trans rfl
    have hc20_19 : ∀ i, rAt S20_ (x + 19) i = rAt S (x + 19) i := fun i => ((f20_.1 (x + 19) (by omega) (by intro j hj; simp only [List.mem_cons, List.not_mem_nil, or_false] at hj; omega)).rA i).trans rfl
    have hc20_21 : ∀ i, rAt S20_ (x + 21) i = rAt S (x + 21) i := fun i => ((f20_.1 (x + 21) (by omega) (by intro j hj; simp only [List.mem_cons, List.not_mem_nil, or_false] at hj; omega)).rA i).trans rfl
    have hc20_23 : ∀ i, rAt S20_ (x + 23) i = rAt S (x + 23) i := fun i => ((f20_.1 (x + 23) (by omega) (by intro j hj; simp only [List.mem_cons, List.not_mem_nil, or_false] at hj; omega)).rA i).trans rfl
    have hc20_20 : ∀ i, rAt S20_ (x + 20) i = rAt S (x + 20) i := fun i => ((f20_.1 (x + 20) (by omega) (by intro j hj; simp only [List.mem_cons, List.not_mem_nil, or_false] at hj; omega)).rA i).trans rfl
    have hc20_17 : ∀ i, rAt S20_ (x + 17) i = rAt S (x + 17) i := fun i => ((f20_.1 (x + 17) (by omega) (by intro j hj; simp only [List.mem_cons, List.not_mem_nil, or_false] at hj; omega)).rA i).trans rfl
    exact v_return hX hE dX13_turnTwo_16 (by omega) (by omega) ⟨rfl, ((mFr.rf _ _).tr (f20_.mono (by decide) (by decide) (by decide))), v21_, v22_, rfl, (by simp (disch := omega) only [y_I_s_I, x_I_s_I, z_I_s_J, z_I_s_A, z_I_s_B, e20_1160, e20_1128, e20_1163, e_v21_, e_v22_]), ⟨by omega, by omega⟩, (by simp (disch := omega) only [y_I_s_I, x_I_s_I, z_I_s_J, z_I_s_A, z_I_s_B, e20_1160, e20_1128, e20_1163, e_v21_, e_v22_]), ⟨by omega, by omega⟩, (by omega)⟩
