set_option maxRecDepth 100000 in
set_option maxHeartbeats 4000000 in
theorem k_takeArguments {kn : Nat → Nat} {B : Nat} {S : b_M} {z x : Nat} {at_ : Int} {ls : Int} {bd : Int} (h : mS S x) (e_at_ : m_I S 1108 x = iI at_) (b_at_ : -2147483648 ≤ at_ ∧ at_ < 2147483648) (e_ls : m_I S 1107 x = iI ls) (b_ls : -2147483648 ≤ ls ∧ ls < 2147483648) (e_bd : m_I S 1110 x = iI bd) (b_bd : -2147483648 ≤ bd ∧ bd < 2147483648) (p : 0 ≤ at_ ∧ ls ≤ 8400 ∧ (bd = 0 ∨ bd = 1) ∧ 0 ≤ ls ∧ ls ≤ 8390 ∧ at_ ≤ ls + 1) : b_C kn B yX13_takeArguments cX13_takeArguments 5 (some .int) 2 40 0 0 [.ref x] S z (fun r S' z' => z = z' ∧ mFr [1108, 1110] [] [30, 31] S S' x ∧ ∃ q a1 b1 : Int, r = some (.int (iI q)) ∧ (-2147483648 ≤ q ∧ q < 2147483648) ∧ m_I S' 1108 x = iI a1 ∧ (-2147483648 ≤ a1 ∧ a1 < 2147483648) ∧ m_I S' 1110 x = iI b1 ∧ (-2147483648 ≤ b1 ∧ b1 < 2147483648) ∧ (0 ≤ q ∧ q ≤ 8400 ∧ (b1 = 0 ∨ b1 = 1) ∧ (b1 = 0 → bd = 0 ∧ q ≤ 4)) ∧ (q ≤ 4 → fOk S' x q (ls + 1))) (fun _ _ _ => False) := by
  refine b_enter (by decide) (Nat.le_of_ble_eq_true rfl) ?_
  intro X hX hE hnL hkn hB hI_
  subst hkn; subst hB
  clear hI_
  have L175 : ∀ (S175c : b_M) (a9 : Int) (n9 : Int) (bb : Int) (m9 : Int), mFr [1108, 1110] [] [30, 31] S S175c x → m_I S175c 1108 x = iI a9 → (-2147483648 ≤ a9 ∧ a9 < 2147483648) → (0 ≤ n9 ∧ n9 ≤ 8400 ∧ ((n9 ≤ 4 ∧ m9 = n9) ∨ (4 < n9 ∧ m9 = 4)) ∧ (bb = 0 ∨ bb = 1) ∧ (bb = 0 → bd = 0 ∧ n9 ≤ 4)) → (fOk S175c x m9 (ls + 1)) → b_V X S175c z 0 0 175 [(1, .int (iI n9)), (0, .ref x)] [.int (iI bb), .ref x] := by
    intro S175c a9 n9 bb m9 fr175 e_a9 b_a9 p175_0 p175_1
    have h175c : mS S175c x := fr175.keep h
    have hc175_5 : ∀ i, rAt S175c (x + 5) i = rAt S (x + 5) i := fun i => (fr175.1 (x + 5) (by omega) (by intro j hj; simp only [List.mem_cons, List.not_mem_nil, or_false] at hj; omega)).rA i
    have e175_ls : m_I S175c 1107 x = iI ls := (fr175.2.2.2.1 1107 (by decide)).trans e_ls
    refine v_putI hX (ci := 11) (k := 10) (f := 1110) (ms_kx h175c) bc_11 (by decide) (by decide) in_11 tyX13_ok nmX13 w_5_226 (Or.inl rfl) (nar_b (by omega)) (fit_b (by omega)) dX13_takeArguments_175 rfl rfl ?_
    refine v_iload_n hX dX13_takeArguments_178 (i := 1) rfl rfl ?_
    exact v_ireturn hX hE dX13_takeArguments_179 (by omega) (by omega) ⟨rfl, (fr175.sI (by decide)), n9, a9, bb, rfl, ⟨by omega, by omega⟩, (by simp (disch := omega) only [y_I_s_I, x_I_s_I, z_I_s_J, z_I_s_A, z_I_s_B, e175_ls, e_a9]), ⟨by omega, by omega⟩, (by simp (disch := omega) only [y_I_s_I, x_I_s_I, z_I_s_J, z_I_s_A, z_I_s_B, e175_ls, e_a9]), ⟨by omega, by omega⟩, (by omega), (fun g => fOk.to p175_1 (by omega) (by omega) (fun i _ _ => by simp (disch := omega) only [zr_I, zr_J, zr_B, rA_A, zl_I, zl_J, zl_A, lA_B]) (fun i _ _ => by simp (disch := omega) only [zr_I, zr_J, zr_B, rA_A, zl_I, zl_J, zl_A, lA_B]))⟩
  have L21 : ∀ (n21 : Nat) (S21c : b_M) (a0 : Int) (b0 : Int) (mo : Int) (n : Int) (m4 : Int) (li : Int), mFr [1108, 1110] [] [30, 31] S S21c x → m_I S21c 1108 x = iI a0 → m_I S21c 1110 x = iI b0 → (-2147483648 ≤ a0 ∧ a0 < 2147483648) → (-2147483648 ≤ b0 ∧ b0 < 2147483648) → (b0 = bd ∧ 0 ≤ n ∧ n ≤ a0 - at_ ∧ at_ ≤ a0 ∧ a0 ≤ ls + 2 ∧ (mo = 0 ∨ mo = 1) ∧ (mo = 1 → a0 ≤ ls + 1) ∧ ((n ≤ 4 ∧ m4 = n) ∨ (4 < n ∧ m4 = 4)) ∧ 0 ≤ li ∧ li ≤ a0 ∧ li ≤ ls + 1) → (fOk S21c x m4 li) → (ls + 3 - a0).toNat = n21 → b_V X S21c z 0 0 21 [(2, .int (iI mo)), (1, .int (iI n)), (0, .ref x)] [] := by
    intro n21
    induction n21 using Nat.strongRecOn with
    | _ n21 ih21 =>
    intro S21c a0 b0 mo n m4 li fr21 e_a0 e_b0 b_a0 b_b0 p21_0 p21_1 hm21
    have h21c : mS S21c x := fr21.keep h
    have hc21_5 : ∀ i, rAt S21c (x + 5) i = rAt S (x + 5) i := fun i => (fr21.1 (x + 5) (by omega) (by intro j hj; simp only [List.mem_cons, List.not_mem_nil, or_false] at hj; omega)).rA i
    have e21_ls : m_I S21c 1107 x = iI ls := (fr21.2.2.2.1 1107 (by decide)).trans e_ls
    have L78 : ∀ (n78 : Nat) (S78c : b_M) (a4 : Int) (b4 : Int) (t4 : Int) (f3 : Int), mFr [1108, 1110] [] [30, 31] S S78c x → m_I S78c 1108 x = iI a4 → m_I S78c 1110 x = iI b4 → (-2147483648 ≤ a4 ∧ a4 < 2147483648) → (-2147483648 ≤ b4 ∧ b4 < 2147483648) → (b4 = bd ∧ mo = 1 ∧ a0 ≤ f3 ∧ f3 ≤ ls + 1 ∧ f3 ≤ a4 ∧ (a4 = f3 ∨ a4 ≤ ls) ∧ f3 ≤ t4 ∧ t4 ≤ a4) → (∀ i, rAt S78c (x + 30) i = rAt S21c (x + 30) i) → (∀ i, rAt S78c (x + 31) i = rAt S21c (x + 31) i) → (t4).toNat = n78 → b_V X S78c z 0 0 78 [(4, .int (iI t4)), (3, .int (iI f3)), (2, .int (iI mo)), (1, .int (iI n)), (0, .ref x)] [] := by
      intro n78
      induction n78 using Nat.strongRecOn with
      | _ n78 ih78 =>
      intro S78c a4 b4 t4 f3 fr78 e_a4 e_b4 b_a4 b_b4 p78_0 p78_1 p78_2 hm78
      have h78c : mS S78c x := fr78.keep h
      have hc78_5 : ∀ i, rAt S78c (x + 5) i = rAt S (x + 5) i := fun i => (fr78.1 (x + 5) (by omega) (by intro j hj; simp only [List.mem_cons, List.not_mem_nil, or_false] at hj; omega)).rA i
      have e78_ls : m_I S78c 1107 x = iI ls := (fr78.2.2.2.1 1107 (by decide)).trans e_ls
      refine v_iload hX dX13_takeArguments_78 rfl ?_
      refine v_iload_n hX dX13_takeArguments_80 (i := 3) rfl rfl ?_
      refine u_icmp_le hX (tgt := 104) dX13_takeArguments_81 (by decide) ⟨by omega, by omega⟩ ⟨by omega, by omega⟩ (fun h1_ => ?_) (fun h1_ => ?_)
      ·
        refine v_iload_n hX dX13_takeArguments_104 (i := 1) rfl rfl ?_
        refine v_iconst hX (v := iI 4) dX13_takeArguments_105 rfl ?_
        refine u_icmp_ge hX (tgt := 124) dX13_takeArguments_106 (by decide) ⟨by omega, by omega⟩ ⟨by omega, by omega⟩ (fun h2_ => ?_) (fun h2_ => ?_)
        ·
          refine v_iinc hX (v := iI (n + 1)) (lv' := [(1, .int (iI (n + 1))), (4, .int (iI t4)), (3, .int (iI f3)), (2, .int (iI mo)), (0, .ref x)]) dX13_takeArguments_124 rfl (iI_add _ _) (by rw [hnL]; decide) rfl ?_
          refine v_aload_n hX dX13_takeArguments_127 (i := 0) rfl rfl ?_
          refine v_get hX (ci := 11) (k := 8) (ms_kx h78c) bc_11 (by decide) (by decide) in_11 w_5_224 dX13_takeArguments_128 (mvF (f := 1108) (v := iI a4) rfl rfl (by simp (disch := omega) only [y_I_s_I, x_I_s_I, z_I_s_J, z_I_s_A, z_I_s_B, e78_ls, e_a4, e_b4])) ?_
          refine v_aload_n hX dX13_takeArguments_131 (i := 0) rfl rfl ?_
          refine v_get hX (ci := 11) (k := 7) (ms_kx h78c) bc_11 (by decide) (by decide) in_11 w_5_223 dX13_takeArguments_132 (mvF (f := 1107) (v := iI ls) rfl rfl (by simp (disch := omega) only [y_I_s_I, x_I_s_I, z_I_s_J, z_I_s_A, z_I_s_B, e78_ls, e_a4, e_b4])) ?_
          refine u_icmp_ge hX (tgt := 142) dX13_takeArguments_135 (by decide) ⟨by omega, by omega⟩ ⟨by omega, by omega⟩ (fun h3_ => ?_) (fun h3_ => ?_)
          ·
            refine v_iconst hX (v := iI 0) dX13_takeArguments_142 rfl ?_
            refine v_istore_n hX (lv' := [(2, .int (iI 0)), (1, .int (iI (n + 1))), (4, .int (iI t4)), (3, .int (iI f3)), (0, .ref x)]) dX13_takeArguments_143 (i := 2) rfl (by rw [hnL]; decide) rfl ?_
            refine v_aload_n hX dX13_takeArguments_144 (i := 0) rfl rfl ?_
            refine v_dup hX dX13_takeArguments_145 rfl ?_
            refine v_get hX (ci := 11) (k := 8) (ms_kx h78c) bc_11 (by decide) (by decide) in_11 w_5_224 dX13_takeArguments_146 (mvF (f := 1108) (v := iI a4) rfl rfl (by simp (disch := omega) only [y_I_s_I, x_I_s_I, z_I_s_J, z_I_s_A, z_I_s_B, e78_ls, e_a4, e_b4])) ?_
            refine v_iconst hX (v := iI 1) dX13_takeArguments_149 rfl ?_
            refine u_iadd hX dX13_takeArguments_150 ?_
            refine v_putI hX (ci := 11) (k := 8) (f := 1108) (ms_kx h78c) bc_11 (by decide) (by decide) in_11 tyX13_ok nmX13 w_5_224 (Or.inl rfl) rfl rfl dX13_takeArguments_151 rfl rfl ?_
            refine v_goto hX (tgt := 21) dX13_takeArguments_154 (by decide) ?_
            refine v_locals (lv' := [(2, .int (iI 0)), (1, .int (iI (n + 1))), (0, .ref x)]) (by simp) ?_
            exact ih21 _ (by omega) _ (a4 + 1) b4 0 (n + 1) m4 t4 (fr78.sI (by decide)) (by simp (disch := omega) only [y_I_s_I, x_I_s_I, z_I_s_J, z_I_s_A, z_I_s_B, e78_ls, e_a4, e_b4]) (by simp (disch := omega) only [y_I_s_I, x_I_s_I, z_I_s_J, z_I_s_A, z_I_s_B, e78_ls, e_a4, e_b4]) ⟨by omega, by omega⟩ ⟨by omega, by omega⟩ (by omega) (fOk.to p21_1 rfl (by omega) (fun i _ _ => by simp (disch := omega) only [zr_I, zr_J, zr_B, rA_A, zl_I, zl_J, zl_A, lA_B, p78_1]) (fun i _ _ => by simp (disch := omega) only [zr_I, zr_J, zr_B, rA_A, zl_I, zl_J, zl_A, lA_B, p78_2])) rfl
          ·
            refine v_iconst hX (v := iI 1) dX13_takeArguments_138 rfl ?_
            refine v_goto hX (tgt := 143) dX13_takeArguments_139 (by decide) ?_
            refine v_istore_n hX (lv' := [(2, .int (iI 1)), (1, .int (iI (n + 1))), (4, .int (iI t4)), (3, .int (iI f3)), (0, .ref x)]) dX13_takeArguments_143 (i := 2) rfl (by rw [hnL]; decide) rfl ?_
            refine v_aload_n hX dX13_takeArguments_144 (i := 0) rfl rfl ?_
            refine v_dup hX dX13_takeArguments_145 rfl ?_
            refine v_get hX (ci := 11) (k := 8) (ms_kx h78c) bc_11 (by decide) (by decide) in_11 w_5_224 dX13_takeArguments_146 (mvF (f := 1108) (v := iI a4) rfl rfl (by simp (disch := omega) only [y_I_s_I, x_I_s_I, z_I_s_J, z_I_s_A, z_I_s_B, e78_ls, e_a4, e_b4])) ?_
            refine v_iconst hX (v := iI 1) dX13_takeArguments_149 rfl ?_
            refine u_iadd hX dX13_takeArguments_150 ?_
            refine v_putI hX (ci := 11) (k := 8) (f := 1108) (ms_kx h78c) bc_11 (by decide) (by decide) in_11 tyX13_ok nmX13 w_5_224 (Or.inl rfl) rfl rfl dX13_takeArguments_151 rfl rfl ?_
            refine v_goto hX (tgt := 21) dX13_takeArguments_154 (by decide) ?_
            refine v_locals (lv' := [(2, .int (iI 1)), (1, .int (iI (n + 1))), (0, .ref x)]) (by simp) ?_
            exact ih21 _ (by omega) _ (a4 + 1) b4 1 (n + 1) m4 t4 (fr78.sI (by decide)) (by simp (disch := omega) only [y_I_s_I, x_I_s_I, z_I_s_J, z_I_s_A, z_I_s_B, e78_ls, e_a4, e_b4]) (by simp (disch := omega) only [y_I_s_I, x_I_s_I, z_I_s_J, z_I_s_A, z_I_s_B, e78_ls, e_a4, e_b4]) ⟨by omega, by omega⟩ ⟨by omega, by omega⟩ (by omega) (fOk.to p21_1 rfl (by omega) (fun i _ _ => by simp (disch := omega) only [zr_I, zr_J, zr_B, rA_A, zl_I, zl_J, zl_A, lA_B, p78_1]) (fun i _ _ => by simp (disch := omega) only [zr_I, zr_J, zr_B, rA_A, zl_I, zl_J, zl_A, lA_B, p78_2])) rfl
        ·
          refine v_aload_n hX dX13_takeArguments_109 (i := 0) rfl rfl ?_
          refine v_get hX (ci := 11) (k := 46) (ms_kx h78c) bc_11 (by decide) (by decide) in_11 w_6_22 dX13_takeArguments_110 (mvP (f := 1146) (q := (x + 30)) rfl rfl (ms_p_1146 h78c)) ?_
          refine v_iload_n hX dX13_takeArguments_113 (i := 1) rfl rfl ?_
          refine v_iload_n hX dX13_takeArguments_114 (i := 3) rfl rfl ?_
          refine u_iast hX (L := 9) (ms_k_1146 h78c) (ms_l_1146 h78c) ⟨by omega, by omega⟩ (by decide) dX13_takeArguments_115 ?_
          refine v_aload_n hX dX13_takeArguments_116 (i := 0) rfl rfl ?_
          refine v_get hX (ci := 11) (k := 47) (ms_kx (mS.sA h78c)) bc_11 (by decide) (by decide) in_11 w_6_23 dX13_takeArguments_117 (mvP (f := 1147) (q := (x + 31)) rfl rfl (ms_p_1147 (mS.sA h78c))) ?_
          refine v_iload_n hX dX13_takeArguments_120 (i := 1) rfl rfl ?_
          refine v_iload hX dX13_takeArguments_121 rfl ?_
          refine u_iast hX (L := 9) (ms_k_1147 (mS.sA h78c)) (ms_l_1147 (mS.sA h78c)) ⟨by omega, by omega⟩ (by decide) dX13_takeArguments_123 ?_
          refine v_iinc hX (v := iI (n + 1)) (lv' := [(1, .int (iI (n + 1))), (4, .int (iI t4)), (3, .int (iI f3)), (2, .int (iI mo)), (0, .ref x)]) dX13_takeArguments_124 rfl (iI_add _ _) (by rw [hnL]; decide) rfl ?_
          refine v_aload_n hX dX13_takeArguments_127 (i := 0) rfl rfl ?_
          refine v_get hX (ci := 11) (k := 8) (ms_kx (mS.sA (mS.sA h78c))) bc_11 (by decide) (by decide) in_11 w_5_224 dX13_takeArguments_128 (mvF (f := 1108) (v := iI a4) rfl rfl (by simp (disch := omega) only [y_I_s_I, x_I_s_I, z_I_s_J, z_I_s_A, z_I_s_B, e78_ls, e_a4, e_b4])) ?_
          refine v_aload_n hX dX13_takeArguments_131 (i := 0) rfl rfl ?_
          refine v_get hX (ci := 11) (k := 7) (ms_kx (mS.sA (mS.sA h78c))) bc_11 (by decide) (by decide) in_11 w_5_223 dX13_takeArguments_132 (mvF (f := 1107) (v := iI ls) rfl rfl (by simp (disch := omega) only [y_I_s_I, x_I_s_I, z_I_s_J, z_I_s_A, z_I_s_B, e78_ls, e_a4, e_b4])) ?_
          refine u_icmp_ge hX (tgt := 142) dX13_takeArguments_135 (by decide) ⟨by omega, by omega⟩ ⟨by omega, by omega⟩ (fun h4_ => ?_) (fun h4_ => ?_)
          ·
            refine v_iconst hX (v := iI 0) dX13_takeArguments_142 rfl ?_
            refine v_istore_n hX (lv' := [(2, .int (iI 0)), (1, .int (iI (n + 1))), (4, .int (iI t4)), (3, .int (iI f3)), (0, .ref x)]) dX13_takeArguments_143 (i := 2) rfl (by rw [hnL]; decide) rfl ?_
            refine v_aload_n hX dX13_takeArguments_144 (i := 0) rfl rfl ?_
            refine v_dup hX dX13_takeArguments_145 rfl ?_
            refine v_get hX (ci := 11) (k := 8) (ms_kx (mS.sA (mS.sA h78c))) bc_11 (by decide) (by decide) in_11 w_5_224 dX13_takeArguments_146 (mvF (f := 1108) (v := iI a4) rfl rfl (by simp (disch := omega) only [y_I_s_I, x_I_s_I, z_I_s_J, z_I_s_A, z_I_s_B, e78_ls, e_a4, e_b4])) ?_
            refine v_iconst hX (v := iI 1) dX13_takeArguments_149 rfl ?_
            refine u_iadd hX dX13_takeArguments_150 ?_
            refine v_putI hX (ci := 11) (k := 8) (f := 1108) (ms_kx (mS.sA (mS.sA h78c))) bc_11 (by decide) (by decide) in_11 tyX13_ok nmX13 w_5_224 (Or.inl rfl) rfl rfl dX13_takeArguments_151 rfl rfl ?_
            refine v_goto hX (tgt := 21) dX13_takeArguments_154 (by decide) ?_
            refine v_locals (lv' := [(2, .int (iI 0)), (1, .int (iI (n + 1))), (0, .ref x)]) (by simp) ?_
            exact ih21 _ (by omega) _ (a4 + 1) b4 0 (n + 1) (m4 + 1) t4 (((fr78.sA (by decide)).sA (by decide)).sI (by decide)) (by simp (disch := omega) only [y_I_s_I, x_I_s_I, z_I_s_J, z_I_s_A, z_I_s_B, e78_ls, e_a4, e_b4]) (by simp (disch := omega) only [y_I_s_I, x_I_s_I, z_I_s_J, z_I_s_A, z_I_s_B, e78_ls, e_a4, e_b4]) ⟨by omega, by omega⟩ ⟨by omega, by omega⟩ (by omega) (fOk.to (fOk.push (a := f3) (b := t4) p21_1 rfl (by omega) (by omega) (by omega) ⟨fun i g1 g2 => by simp (disch := omega) only [zr_I, zr_J, zr_B, rA_A, zl_I, zl_J, zl_A, lA_B, rA_x, p78_1], fun g => by simp (disch := omega) only [zr_I, zr_J, zr_B, rA_A, zl_I, zl_J, zl_A, lA_B, rA_y]⟩ ⟨fun i g1 g2 => by simp (disch := omega) only [zr_I, zr_J, zr_B, rA_A, zl_I, zl_J, zl_A, lA_B, rA_x, p78_2], fun g => by simp (disch := omega) only [zr_I, zr_J, zr_B, rA_A, zl_I, zl_J, zl_A, lA_B, rA_y]⟩ (by omega)) rfl (by omega) (fun i _ _ => rfl) (fun i _ _ => rfl)) rfl
          ·
            refine v_iconst hX (v := iI 1) dX13_takeArguments_138 rfl ?_
            refine v_goto hX (tgt := 143) dX13_takeArguments_139 (by decide) ?_
            refine v_istore_n hX (lv' := [(2, .int (iI 1)), (1, .int (iI (n + 1))), (4, .int (iI t4)), (3, .int (iI f3)), (0, .ref x)]) dX13_takeArguments_143 (i := 2) rfl (by rw [hnL]; decide) rfl ?_
            refine v_aload_n hX dX13_takeArguments_144 (i := 0) rfl rfl ?_
            refine v_dup hX dX13_takeArguments_145 rfl ?_
            refine v_get hX (ci := 11) (k := 8) (ms_kx (mS.sA (mS.sA h78c))) bc_11 (by decide) (by decide) in_11 w_5_224 dX13_takeArguments_146 (mvF (f := 1108) (v := iI a4) rfl rfl (by simp (disch := omega) only [y_I_s_I, x_I_s_I, z_I_s_J, z_I_s_A, z_I_s_B, e78_ls, e_a4, e_b4])) ?_
            refine v_iconst hX (v := iI 1) dX13_takeArguments_149 rfl ?_
            refine u_iadd hX dX13_takeArguments_150 ?_
            refine v_putI hX (ci := 11) (k := 8) (f := 1108) (ms_kx (mS.sA (mS.sA h78c))) bc_11 (by decide) (by decide) in_11 tyX13_ok nmX13 w_5_224 (Or.inl rfl) rfl rfl dX13_takeArguments_151 rfl rfl ?_
            refine v_goto hX (tgt := 21) dX13_takeArguments_154 (by decide) ?_
            refine v_locals (lv' := [(2, .int (iI 1)), (1, .int (iI (n + 1))), (0, .ref x)]) (by simp) ?_
            exact ih21 _ (by omega) _ (a4 + 1) b4 1 (n + 1) (m4 + 1) t4 (((fr78.sA (by decide)).sA (by decide)).sI (by decide)) (by simp (disch := omega) only [y_I_s_I, x_I_s_I, z_I_s_J, z_I_s_A, z_I_s_B, e78_ls, e_a4, e_b4]) (by simp (disch := omega) only [y_I_s_I, x_I_s_I, z_I_s_J, z_I_s_A, z_I_s_B, e78_ls, e_a4, e_b4]) ⟨by omega, by omega⟩ ⟨by omega, by omega⟩ (by omega) (fOk.to (fOk.push (a := f3) (b := t4) p21_1 rfl (by omega) (by omega) (by omega) ⟨fun i g1 g2 => by simp (disch := omega) only [zr_I, zr_J, zr_B, rA_A, zl_I, zl_J, zl_A, lA_B, rA_x, p78_1], fun g => by simp (disch := omega) only [zr_I, zr_J, zr_B, rA_A, zl_I, zl_J, zl_A, lA_B, rA_y]⟩ ⟨fun i g1 g2 => by simp (disch := omega) only [zr_I, zr_J, zr_B, rA_A, zl_I, zl_J, zl_A, lA_B, rA_x, p78_2], fun g => by simp (disch := omega) only [zr_I, zr_J, zr_B, rA_A, zl_I, zl_J, zl_A, lA_B, rA_y]⟩ (by omega)) rfl (by omega) (fun i _ _ => rfl) (fun i _ _ => rfl)) rfl
      ·
        refine v_aload_n hX dX13_takeArguments_84 (i := 0) rfl rfl ?_
        refine v_get hX (ci := 11) (k := 11) (ms_kx h78c) bc_11 (by decide) (by decide) in_11 w_5_227 dX13_takeArguments_85 (mvP (f := 1111) (q := (x + 5)) rfl rfl (ms_p_1111 h78c)) ?_
        refine v_iload hX dX13_takeArguments_88 rfl ?_
        refine v_iconst hX (v := iI 1) dX13_takeArguments_90 rfl ?_
        refine u_isub hX dX13_takeArguments_91 ?_
        refine u_iald hX (L := 8400) (ms_k_1111 h78c) (ms_l_1111 h78c) ⟨by omega, by omega⟩ (by decide) dX13_takeArguments_92 (fun v5_ e_v5_ b_v5_ => ?_)
        try simp (disch := omega) only [zr_I, zr_J, zr_B, rA_A, zl_I, zl_J, zl_A, lA_B, hc78_5] at e_v5_
        refine v_bipush hX (v := iI 32) dX13_takeArguments_93 (by decide) ?_
        refine u_icmp_ne hX (tgt := 104) dX13_takeArguments_95 (by decide) ⟨by omega, by omega⟩ ⟨by omega, by omega⟩ (fun h6_ => ?_) (fun h6_ => ?_)
        ·
          refine v_iload_n hX dX13_takeArguments_104 (i := 1) rfl rfl ?_
          refine v_iconst hX (v := iI 4) dX13_takeArguments_105 rfl ?_
          refine u_icmp_ge hX (tgt := 124) dX13_takeArguments_106 (by decide) ⟨by omega, by omega⟩ ⟨by omega, by omega⟩ (fun h7_ => ?_) (fun h7_ => ?_)
          ·
            refine v_iinc hX (v := iI (n + 1)) (lv' := [(1, .int (iI (n + 1))), (4, .int (iI t4)), (3, .int (iI f3)), (2, .int (iI mo)), (0, .ref x)]) dX13_takeArguments_124 rfl (iI_add _ _) (by rw [hnL]; decide) rfl ?_
            refine v_aload_n hX dX13_takeArguments_127 (i := 0) rfl rfl ?_
            refine v_get hX (ci := 11) (k := 8) (ms_kx h78c) bc_11 (by decide) (by decide) in_11 w_5_224 dX13_takeArguments_128 (mvF (f := 1108) (v := iI a4) rfl rfl (by simp (disch := omega) only [y_I_s_I, x_I_s_I, z_I_s_J, z_I_s_A, z_I_s_B, e78_ls, e_a4, e_b4])) ?_
            refine v_aload_n hX dX13_takeArguments_131 (i := 0) rfl rfl ?_
            refine v_get hX (ci := 11) (k := 7) (ms_kx h78c) bc_11 (by decide) (by decide) in_11 w_5_223 dX13_takeArguments_132 (mvF (f := 1107) (v := iI ls) rfl rfl (by simp (disch := omega) only [y_I_s_I, x_I_s_I, z_I_s_J, z_I_s_A, z_I_s_B, e78_ls, e_a4, e_b4])) ?_
            refine u_icmp_ge hX (tgt := 142) dX13_takeArguments_135 (by decide) ⟨by omega, by omega⟩ ⟨by omega, by omega⟩ (fun h8_ => ?_) (fun h8_ => ?_)
            ·
              refine v_iconst hX (v := iI 0) dX13_takeArguments_142 rfl ?_
              refine v_istore_n hX (lv' := [(2, .int (iI 0)), (1, .int (iI (n + 1))), (4, .int (iI t4)), (3, .int (iI f3)), (0, .ref x)]) dX13_takeArguments_143 (i := 2) rfl (by rw [hnL]; decide) rfl ?_
              refine v_aload_n hX dX13_takeArguments_144 (i := 0) rfl rfl ?_
              refine v_dup hX dX13_takeArguments_145 rfl ?_
              refine v_get hX (ci := 11) (k := 8) (ms_kx h78c) bc_11 (by decide) (by decide) in_11 w_5_224 dX13_takeArguments_146 (mvF (f := 1108) (v := iI a4) rfl rfl (by simp (disch := omega) only [y_I_s_I, x_I_s_I, z_I_s_J, z_I_s_A, z_I_s_B, e78_ls, e_a4, e_b4])) ?_
              refine v_iconst hX (v := iI 1) dX13_takeArguments_149 rfl ?_
              refine u_iadd hX dX13_takeArguments_150 ?_
              refine v_putI hX (ci := 11) (k := 8) (f := 1108) (ms_kx h78c) bc_11 (by decide) (by decide) in_11 tyX13_ok nmX13 w_5_224 (Or.inl rfl) rfl rfl dX13_takeArguments_151 rfl rfl ?_
              refine v_goto hX (tgt := 21) dX13_takeArguments_154 (by decide) ?_
              refine v_locals (lv' := [(2, .int (iI 0)), (1, .int (iI (n + 1))), (0, .ref x)]) (by simp) ?_
              exact ih21 _ (by omega) _ (a4 + 1) b4 0 (n + 1) m4 t4 (fr78.sI (by decide)) (by simp (disch := omega) only [y_I_s_I, x_I_s_I, z_I_s_J, z_I_s_A, z_I_s_B, e78_ls, e_a4, e_b4]) (by simp (disch := omega) only [y_I_s_I, x_I_s_I, z_I_s_J, z_I_s_A, z_I_s_B, e78_ls, e_a4, e_b4]) ⟨by omega, by omega⟩ ⟨by omega, by omega⟩ (by omega) (fOk.to p21_1 rfl (by omega) (fun i _ _ => by simp (disch := omega) only [zr_I, zr_J, zr_B, rA_A, zl_I, zl_J, zl_A, lA_B, p78_1]) (fun i _ _ => by simp (disch := omega) only [zr_I, zr_J, zr_B, rA_A, zl_I, zl_J, zl_A, lA_B, p78_2])) rfl
            ·
              refine v_iconst hX (v := iI 1) dX13_takeArguments_138 rfl ?_
              refine v_goto hX (tgt := 143) dX13_takeArguments_139 (by decide) ?_
              refine v_istore_n hX (lv' := [(2, .int (iI 1)), (1, .int (iI (n + 1))), (4, .int (iI t4)), (3, .int (iI f3)), (0, .ref x)]) dX13_takeArguments_143 (i := 2) rfl (by rw [hnL]; decide) rfl ?_
              refine v_aload_n hX dX13_takeArguments_144 (i := 0) rfl rfl ?_
              refine v_dup hX dX13_takeArguments_145 rfl ?_
              refine v_get hX (ci := 11) (k := 8) (ms_kx h78c) bc_11 (by decide) (by decide) in_11 w_5_224 dX13_takeArguments_146 (mvF (f := 1108) (v := iI a4) rfl rfl (by simp (disch := omega) only [y_I_s_I, x_I_s_I, z_I_s_J, z_I_s_A, z_I_s_B, e78_ls, e_a4, e_b4])) ?_
              refine v_iconst hX (v := iI 1) dX13_takeArguments_149 rfl ?_
              refine u_iadd hX dX13_takeArguments_150 ?_
              refine v_putI hX (ci := 11) (k := 8) (f := 1108) (ms_kx h78c) bc_11 (by decide) (by decide) in_11 tyX13_ok nmX13 w_5_224 (Or.inl rfl) rfl rfl dX13_takeArguments_151 rfl rfl ?_
              refine v_goto hX (tgt := 21) dX13_takeArguments_154 (by decide) ?_
              refine v_locals (lv' := [(2, .int (iI 1)), (1, .int (iI (n + 1))), (0, .ref x)]) (by simp) ?_
              exact ih21 _ (by omega) _ (a4 + 1) b4 1 (n + 1) m4 t4 (fr78.sI (by decide)) (by simp (disch := omega) only [y_I_s_I, x_I_s_I, z_I_s_J, z_I_s_A, z_I_s_B, e78_ls, e_a4, e_b4]) (by simp (disch := omega) only [y_I_s_I, x_I_s_I, z_I_s_J, z_I_s_A, z_I_s_B, e78_ls, e_a4, e_b4]) ⟨by omega, by omega⟩ ⟨by omega, by omega⟩ (by omega) (fOk.to p21_1 rfl (by omega) (fun i _ _ => by simp (disch := omega) only [zr_I, zr_J, zr_B, rA_A, zl_I, zl_J, zl_A, lA_B, p78_1]) (fun i _ _ => by simp (disch := omega) only [zr_I, zr_J, zr_B, rA_A, zl_I, zl_J, zl_A, lA_B, p78_2])) rfl
          ·
            refine v_aload_n hX dX13_takeArguments_109 (i := 0) rfl rfl ?_
            refine v_get hX (ci := 11) (k := 46) (ms_kx h78c) bc_11 (by decide) (by decide) in_11 w_6_22 dX13_takeArguments_110 (mvP (f := 1146) (q := (x + 30)) rfl rfl (ms_p_1146 h78c)) ?_
            refine v_iload_n hX dX13_takeArguments_113 (i := 1) rfl rfl ?_
            refine v_iload_n hX dX13_takeArguments_114 (i := 3) rfl rfl ?_
            refine u_iast hX (L := 9) (ms_k_1146 h78c) (ms_l_1146 h78c) ⟨by omega, by omega⟩ (by decide) dX13_takeArguments_115 ?_
            refine v_aload_n hX dX13_takeArguments_116 (i := 0) rfl rfl ?_
            refine v_get hX (ci := 11) (k := 47) (ms_kx (mS.sA h78c)) bc_11 (by decide) (by decide) in_11 w_6_23 dX13_takeArguments_117 (mvP (f := 1147) (q := (x + 31)) rfl rfl (ms_p_1147 (mS.sA h78c))) ?_
            refine v_iload_n hX dX13_takeArguments_120 (i := 1) rfl rfl ?_
            refine v_iload hX dX13_takeArguments_121 rfl ?_
            refine u_iast hX (L := 9) (ms_k_1147 (mS.sA h78c)) (ms_l_1147 (mS.sA h78c)) ⟨by omega, by omega⟩ (by decide) dX13_takeArguments_123 ?_
            refine v_iinc hX (v := iI (n + 1)) (lv' := [(1, .int (iI (n + 1))), (4, .int (iI t4)), (3, .int (iI f3)), (2, .int (iI mo)), (0, .ref x)]) dX13_takeArguments_124 rfl (iI_add _ _) (by rw [hnL]; decide) rfl ?_
            refine v_aload_n hX dX13_takeArguments_127 (i := 0) rfl rfl ?_
            refine v_get hX (ci := 11) (k := 8) (ms_kx (mS.sA (mS.sA h78c))) bc_11 (by decide) (by decide) in_11 w_5_224 dX13_takeArguments_128 (mvF (f := 1108) (v := iI a4) rfl rfl (by simp (disch := omega) only [y_I_s_I, x_I_s_I, z_I_s_J, z_I_s_A, z_I_s_B, e78_ls, e_a4, e_b4])) ?_
            refine v_aload_n hX dX13_takeArguments_131 (i := 0) rfl rfl ?_
            refine v_get hX (ci := 11) (k := 7) (ms_kx (mS.sA (mS.sA h78c))) bc_11 (by decide) (by decide) in_11 w_5_223 dX13_takeArguments_132 (mvF (f := 1107) (v := iI ls) rfl rfl (by simp (disch := omega) only [y_I_s_I, x_I_s_I, z_I_s_J, z_I_s_A, z_I_s_B, e78_ls, e_a4, e_b4])) ?_
            refine u_icmp_ge hX (tgt := 142) dX13_takeArguments_135 (by decide) ⟨by omega, by omega⟩ ⟨by omega, by omega⟩ (fun h9_ => ?_) (fun h9_ => ?_)
            ·
              refine v_iconst hX (v := iI 0) dX13_takeArguments_142 rfl ?_
              refine v_istore_n hX (lv' := [(2, .int (iI 0)), (1, .int (iI (n + 1))), (4, .int (iI t4)), (3, .int (iI f3)), (0, .ref x)]) dX13_takeArguments_143 (i := 2) rfl (by rw [hnL]; decide) rfl ?_
              refine v_aload_n hX dX13_takeArguments_144 (i := 0) rfl rfl ?_
              refine v_dup hX dX13_takeArguments_145 rfl ?_
              refine v_get hX (ci := 11) (k := 8) (ms_kx (mS.sA (mS.sA h78c))) bc_11 (by decide) (by decide) in_11 w_5_224 dX13_takeArguments_146 (mvF (f := 1108) (v := iI a4) rfl rfl (by simp (disch := omega) only [y_I_s_I, x_I_s_I, z_I_s_J, z_I_s_A, z_I_s_B, e78_ls, e_a4, e_b4])) ?_
              refine v_iconst hX (v := iI 1) dX13_takeArguments_149 rfl ?_
              refine u_iadd hX dX13_takeArguments_150 ?_
              refine v_putI hX (ci := 11) (k := 8) (f := 1108) (ms_kx (mS.sA (mS.sA h78c))) bc_11 (by decide) (by decide) in_11 tyX13_ok nmX13 w_5_224 (Or.inl rfl) rfl rfl dX13_takeArguments_151 rfl rfl ?_
              refine v_goto hX (tgt := 21) dX13_takeArguments_154 (by decide) ?_
              refine v_locals (lv' := [(2, .int (iI 0)), (1, .int (iI (n + 1))), (0, .ref x)]) (by simp) ?_
              exact ih21 _ (by omega) _ (a4 + 1) b4 0 (n + 1) (m4 + 1) t4 (((fr78.sA (by decide)).sA (by decide)).sI (by decide)) (by simp (disch := omega) only [y_I_s_I, x_I_s_I, z_I_s_J, z_I_s_A, z_I_s_B, e78_ls, e_a4, e_b4]) (by simp (disch := omega) only [y_I_s_I, x_I_s_I, z_I_s_J, z_I_s_A, z_I_s_B, e78_ls, e_a4, e_b4]) ⟨by omega, by omega⟩ ⟨by omega, by omega⟩ (by omega) (fOk.to (fOk.push (a := f3) (b := t4) p21_1 rfl (by omega) (by omega) (by omega) ⟨fun i g1 g2 => by simp (disch := omega) only [zr_I, zr_J, zr_B, rA_A, zl_I, zl_J, zl_A, lA_B, rA_x, p78_1], fun g => by simp (disch := omega) only [zr_I, zr_J, zr_B, rA_A, zl_I, zl_J, zl_A, lA_B, rA_y]⟩ ⟨fun i g1 g2 => by simp (disch := omega) only [zr_I, zr_J, zr_B, rA_A, zl_I, zl_J, zl_A, lA_B, rA_x, p78_2], fun g => by simp (disch := omega) only [zr_I, zr_J, zr_B, rA_A, zl_I, zl_J, zl_A, lA_B, rA_y]⟩ (by omega)) rfl (by omega) (fun i _ _ => rfl) (fun i _ _ => rfl)) rfl
            ·
              refine v_iconst hX (v := iI 1) dX13_takeArguments_138 rfl ?_
              refine v_goto hX (tgt := 143) dX13_takeArguments_139 (by decide) ?_
              refine v_istore_n hX (lv' := [(2, .int (iI 1)), (1, .int (iI (n + 1))), (4, .int (iI t4)), (3, .int (iI f3)), (0, .ref x)]) dX13_takeArguments_143 (i := 2) rfl (by rw [hnL]; decide) rfl ?_
              refine v_aload_n hX dX13_takeArguments_144 (i := 0) rfl rfl ?_
              refine v_dup hX dX13_takeArguments_145 rfl ?_
              refine v_get hX (ci := 11) (k := 8) (ms_kx (mS.sA (mS.sA h78c))) bc_11 (by decide) (by decide) in_11 w_5_224 dX13_takeArguments_146 (mvF (f := 1108) (v := iI a4) rfl rfl (by simp (disch := omega) only [y_I_s_I, x_I_s_I, z_I_s_J, z_I_s_A, z_I_s_B, e78_ls, e_a4, e_b4])) ?_
              refine v_iconst hX (v := iI 1) dX13_takeArguments_149 rfl ?_
              refine u_iadd hX dX13_takeArguments_150 ?_
              refine v_putI hX (ci := 11) (k := 8) (f := 1108) (ms_kx (mS.sA (mS.sA h78c))) bc_11 (by decide) (by decide) in_11 tyX13_ok nmX13 w_5_224 (Or.inl rfl) rfl rfl dX13_takeArguments_151 rfl rfl ?_
              refine v_goto hX (tgt := 21) dX13_takeArguments_154 (by decide) ?_
              refine v_locals (lv' := [(2, .int (iI 1)), (1, .int (iI (n + 1))), (0, .ref x)]) (by simp) ?_
              exact ih21 _ (by omega) _ (a4 + 1) b4 1 (n + 1) (m4 + 1) t4 (((fr78.sA (by decide)).sA (by decide)).sI (by decide)) (by simp (disch := omega) only [y_I_s_I, x_I_s_I, z_I_s_J, z_I_s_A, z_I_s_B, e78_ls, e_a4, e_b4]) (by simp (disch := omega) only [y_I_s_I, x_I_s_I, z_I_s_J, z_I_s_A, z_I_s_B, e78_ls, e_a4, e_b4]) ⟨by omega, by omega⟩ ⟨by omega, by omega⟩ (by omega) (fOk.to (fOk.push (a := f3) (b := t4) p21_1 rfl (by omega) (by omega) (by omega) ⟨fun i g1 g2 => by simp (disch := omega) only [zr_I, zr_J, zr_B, rA_A, zl_I, zl_J, zl_A, lA_B, rA_x, p78_1], fun g => by simp (disch := omega) only [zr_I, zr_J, zr_B, rA_A, zl_I, zl_J, zl_A, lA_B, rA_y]⟩ ⟨fun i g1 g2 => by simp (disch := omega) only [zr_I, zr_J, zr_B, rA_A, zl_I, zl_J, zl_A, lA_B, rA_x, p78_2], fun g => by simp (disch := omega) only [zr_I, zr_J, zr_B, rA_A, zl_I, zl_J, zl_A, lA_B, rA_y]⟩ (by omega)) rfl (by omega) (fun i _ _ => rfl) (fun i _ _ => rfl)) rfl
        ·
          refine v_iinc hX (v := iI (t4 + (-1))) (lv' := [(4, .int (iI (t4 + (-1)))), (3, .int (iI f3)), (2, .int (iI mo)), (1, .int (iI n)), (0, .ref x)]) dX13_takeArguments_98 rfl (iI_add _ _) (by rw [hnL]; decide) rfl ?_
          refine v_goto hX (tgt := 78) dX13_takeArguments_101 (by decide) ?_
          exact ih78 _ (by omega) _ a4 b4 (t4 + (-1)) f3 fr78 (by simp (disch := omega) only [y_I_s_I, x_I_s_I, z_I_s_J, z_I_s_A, z_I_s_B, e78_ls, e_a4, e_b4]) (by simp (disch := omega) only [y_I_s_I, x_I_s_I, z_I_s_J, z_I_s_A, z_I_s_B, e78_ls, e_a4, e_b4]) ⟨by omega, by omega⟩ ⟨by omega, by omega⟩ (by omega) (fun i => by simp (disch := omega) only [zr_I, zr_J, zr_B, rA_A, zl_I, zl_J, zl_A, lA_B, p78_1]) (fun i => by simp (disch := omega) only [zr_I, zr_J, zr_B, rA_A, zl_I, zl_J, zl_A, lA_B, p78_2]) rfl
    have L34 : ∀ (n34 : Nat) (S34c : b_M) (a3 : Int) (b3 : Int) (f3 : Int), mFr [1108, 1110] [] [30, 31] S S34c x → m_I S34c 1108 x = iI a3 → m_I S34c 1110 x = iI b3 → (-2147483648 ≤ a3 ∧ a3 < 2147483648) → (-2147483648 ≤ b3 ∧ b3 < 2147483648) → (b3 = bd ∧ mo = 1 ∧ a0 ≤ f3 ∧ f3 ≤ ls + 1 ∧ f3 ≤ a3 ∧ (a3 = f3 ∨ a3 ≤ ls)) → (∀ i, rAt S34c (x + 30) i = rAt S21c (x + 30) i) → (∀ i, rAt S34c (x + 31) i = rAt S21c (x + 31) i) → (ls - a3).toNat = n34 → b_V X S34c z 0 0 34 [(3, .int (iI f3)), (2, .int (iI mo)), (1, .int (iI n)), (0, .ref x)] [] := by
      intro n34
      induction n34 using Nat.strongRecOn with
      | _ n34 ih34 =>
      intro S34c a3 b3 f3 fr34 e_a3 e_b3 b_a3 b_b3 p34_0 p34_1 p34_2 hm34
      have h34c : mS S34c x := fr34.keep h
      have hc34_5 : ∀ i, rAt S34c (x + 5) i = rAt S (x + 5) i := fun i => (fr34.1 (x + 5) (by omega) (by intro j hj; simp only [List.mem_cons, List.not_mem_nil, or_false] at hj; omega)).rA i
      have e34_ls : m_I S34c 1107 x = iI ls := (fr34.2.2.2.1 1107 (by decide)).trans e_ls
      refine v_aload_n hX dX13_takeArguments_34 (i := 0) rfl rfl ?_
      refine v_get hX (ci := 11) (k := 8) (ms_kx h34c) bc_11 (by decide) (by decide) in_11 w_5_224 dX13_takeArguments_35 (mvF (f := 1108) (v := iI a3) rfl rfl (by simp (disch := omega) only [y_I_s_I, x_I_s_I, z_I_s_J, z_I_s_A, z_I_s_B, e34_ls, e_a3, e_b3])) ?_
      refine v_aload_n hX dX13_takeArguments_38 (i := 0) rfl rfl ?_
      refine v_get hX (ci := 11) (k := 7) (ms_kx h34c) bc_11 (by decide) (by decide) in_11 w_5_223 dX13_takeArguments_39 (mvF (f := 1107) (v := iI ls) rfl rfl (by simp (disch := omega) only [y_I_s_I, x_I_s_I, z_I_s_J, z_I_s_A, z_I_s_B, e34_ls, e_a3, e_b3])) ?_
      refine u_icmp_ge hX (tgt := 72) dX13_takeArguments_42 (by decide) ⟨by omega, by omega⟩ ⟨by omega, by omega⟩ (fun h10_ => ?_) (fun h10_ => ?_)
      ·
        refine v_aload_n hX dX13_takeArguments_72 (i := 0) rfl rfl ?_
        refine v_get hX (ci := 11) (k := 8) (ms_kx h34c) bc_11 (by decide) (by decide) in_11 w_5_224 dX13_takeArguments_73 (mvF (f := 1108) (v := iI a3) rfl rfl (by simp (disch := omega) only [y_I_s_I, x_I_s_I, z_I_s_J, z_I_s_A, z_I_s_B, e34_ls, e_a3, e_b3])) ?_
        refine v_istore hX (lv' := [(4, .int (iI a3)), (3, .int (iI f3)), (2, .int (iI mo)), (1, .int (iI n)), (0, .ref x)]) dX13_takeArguments_76 (by rw [hnL]; decide) rfl ?_
        exact L78 _ _ a3 b3 a3 f3 fr34 (by simp (disch := omega) only [y_I_s_I, x_I_s_I, z_I_s_J, z_I_s_A, z_I_s_B, e34_ls, e_a3, e_b3]) (by simp (disch := omega) only [y_I_s_I, x_I_s_I, z_I_s_J, z_I_s_A, z_I_s_B, e34_ls, e_a3, e_b3]) ⟨by omega, by omega⟩ ⟨by omega, by omega⟩ (by omega) (fun i => by simp (disch := omega) only [zr_I, zr_J, zr_B, rA_A, zl_I, zl_J, zl_A, lA_B, p34_1]) (fun i => by simp (disch := omega) only [zr_I, zr_J, zr_B, rA_A, zl_I, zl_J, zl_A, lA_B, p34_2]) rfl
      ·
        refine v_aload_n hX dX13_takeArguments_45 (i := 0) rfl rfl ?_
        refine v_get hX (ci := 11) (k := 11) (ms_kx h34c) bc_11 (by decide) (by decide) in_11 w_5_227 dX13_takeArguments_46 (mvP (f := 1111) (q := (x + 5)) rfl rfl (ms_p_1111 h34c)) ?_
        refine v_aload_n hX dX13_takeArguments_49 (i := 0) rfl rfl ?_
        refine v_get hX (ci := 11) (k := 8) (ms_kx h34c) bc_11 (by decide) (by decide) in_11 w_5_224 dX13_takeArguments_50 (mvF (f := 1108) (v := iI a3) rfl rfl (by simp (disch := omega) only [y_I_s_I, x_I_s_I, z_I_s_J, z_I_s_A, z_I_s_B, e34_ls, e_a3, e_b3])) ?_
        refine u_iald hX (L := 8400) (ms_k_1111 h34c) (ms_l_1111 h34c) ⟨by omega, by omega⟩ (by decide) dX13_takeArguments_53 (fun v11_ e_v11_ b_v11_ => ?_)
        try simp (disch := omega) only [zr_I, zr_J, zr_B, rA_A, zl_I, zl_J, zl_A, lA_B, hc34_5] at e_v11_
        refine v_bipush hX (v := iI 44) dX13_takeArguments_54 (by decide) ?_
        refine u_icmp_eq hX (tgt := 72) dX13_takeArguments_56 (by decide) ⟨by omega, by omega⟩ ⟨by omega, by omega⟩ (fun h12_ => ?_) (fun h12_ => ?_)
        ·
          refine v_aload_n hX dX13_takeArguments_72 (i := 0) rfl rfl ?_
          refine v_get hX (ci := 11) (k := 8) (ms_kx h34c) bc_11 (by decide) (by decide) in_11 w_5_224 dX13_takeArguments_73 (mvF (f := 1108) (v := iI a3) rfl rfl (by simp (disch := omega) only [y_I_s_I, x_I_s_I, z_I_s_J, z_I_s_A, z_I_s_B, e34_ls, e_a3, e_b3])) ?_
          refine v_istore hX (lv' := [(4, .int (iI a3)), (3, .int (iI f3)), (2, .int (iI mo)), (1, .int (iI n)), (0, .ref x)]) dX13_takeArguments_76 (by rw [hnL]; decide) rfl ?_
          exact L78 _ _ a3 b3 a3 f3 fr34 (by simp (disch := omega) only [y_I_s_I, x_I_s_I, z_I_s_J, z_I_s_A, z_I_s_B, e34_ls, e_a3, e_b3]) (by simp (disch := omega) only [y_I_s_I, x_I_s_I, z_I_s_J, z_I_s_A, z_I_s_B, e34_ls, e_a3, e_b3]) ⟨by omega, by omega⟩ ⟨by omega, by omega⟩ (by omega) (fun i => by simp (disch := omega) only [zr_I, zr_J, zr_B, rA_A, zl_I, zl_J, zl_A, lA_B, p34_1]) (fun i => by simp (disch := omega) only [zr_I, zr_J, zr_B, rA_A, zl_I, zl_J, zl_A, lA_B, p34_2]) rfl
        ·
          refine v_aload_n hX dX13_takeArguments_59 (i := 0) rfl rfl ?_
          refine v_dup hX dX13_takeArguments_60 rfl ?_
          refine v_get hX (ci := 11) (k := 8) (ms_kx h34c) bc_11 (by decide) (by decide) in_11 w_5_224 dX13_takeArguments_61 (mvF (f := 1108) (v := iI a3) rfl rfl (by simp (disch := omega) only [y_I_s_I, x_I_s_I, z_I_s_J, z_I_s_A, z_I_s_B, e34_ls, e_a3, e_b3])) ?_
          refine v_iconst hX (v := iI 1) dX13_takeArguments_64 rfl ?_
          refine u_iadd hX dX13_takeArguments_65 ?_
          refine v_putI hX (ci := 11) (k := 8) (f := 1108) (ms_kx h34c) bc_11 (by decide) (by decide) in_11 tyX13_ok nmX13 w_5_224 (Or.inl rfl) rfl rfl dX13_takeArguments_66 rfl rfl ?_
          refine v_goto hX (tgt := 34) dX13_takeArguments_69 (by decide) ?_
          exact ih34 _ (by omega) _ (a3 + 1) b3 f3 (fr34.sI (by decide)) (by simp (disch := omega) only [y_I_s_I, x_I_s_I, z_I_s_J, z_I_s_A, z_I_s_B, e34_ls, e_a3, e_b3]) (by simp (disch := omega) only [y_I_s_I, x_I_s_I, z_I_s_J, z_I_s_A, z_I_s_B, e34_ls, e_a3, e_b3]) ⟨by omega, by omega⟩ ⟨by omega, by omega⟩ (by omega) (fun i => by simp (disch := omega) only [zr_I, zr_J, zr_B, rA_A, zl_I, zl_J, zl_A, lA_B, p34_1]) (fun i => by simp (disch := omega) only [zr_I, zr_J, zr_B, rA_A, zl_I, zl_J, zl_A, lA_B, p34_2]) rfl
    refine v_iload_n hX dX13_takeArguments_21 (i := 2) rfl rfl ?_
    refine u_if_eq hX (tgt := 157) dX13_takeArguments_22 (by decide) ⟨by omega, by omega⟩ (fun h13_ => ?_) (fun h13_ => ?_)
    ·
      refine v_aload_n hX dX13_takeArguments_157 (i := 0) rfl rfl ?_
      refine v_aload_n hX dX13_takeArguments_158 (i := 0) rfl rfl ?_
      refine v_get hX (ci := 11) (k := 10) (ms_kx h21c) bc_11 (by decide) (by decide) in_11 w_5_226 dX13_takeArguments_159 (mvF (f := 1110) (v := iI b0) rfl rfl (by simp (disch := omega) only [y_I_s_I, x_I_s_I, z_I_s_J, z_I_s_A, z_I_s_B, e21_ls, e_a0, e_b0])) ?_
      refine u_if_ne hX (tgt := 170) dX13_takeArguments_162 (by decide) ⟨by omega, by omega⟩ (fun h14_ => ?_) (fun h14_ => ?_)
      ·
        refine v_iconst hX (v := iI 1) dX13_takeArguments_170 rfl ?_
        refine v_goto hX (tgt := 175) dX13_takeArguments_171 (by decide) ?_
        refine v_locals (lv' := [(1, .int (iI n)), (0, .ref x)]) (by simp) ?_
        exact L175 _ a0 n 1 m4 fr21 (by simp (disch := omega) only [y_I_s_I, x_I_s_I, z_I_s_J, z_I_s_A, z_I_s_B, e21_ls, e_a0, e_b0]) ⟨by omega, by omega⟩ (by omega) (fOk.to p21_1 rfl (by omega) (fun i _ _ => rfl) (fun i _ _ => rfl))
      ·
        refine v_iload_n hX dX13_takeArguments_165 (i := 1) rfl rfl ?_
        refine v_iconst hX (v := iI 4) dX13_takeArguments_166 rfl ?_
        refine u_icmp_le hX (tgt := 174) dX13_takeArguments_167 (by decide) ⟨by omega, by omega⟩ ⟨by omega, by omega⟩ (fun h15_ => ?_) (fun h15_ => ?_)
        ·
          refine v_iconst hX (v := iI 0) dX13_takeArguments_174 rfl ?_
          refine v_locals (lv' := [(1, .int (iI n)), (0, .ref x)]) (by simp) ?_
          exact L175 _ a0 n 0 m4 fr21 (by simp (disch := omega) only [y_I_s_I, x_I_s_I, z_I_s_J, z_I_s_A, z_I_s_B, e21_ls, e_a0, e_b0]) ⟨by omega, by omega⟩ (by omega) (fOk.to p21_1 rfl (by omega) (fun i _ _ => rfl) (fun i _ _ => rfl))
        ·
          refine v_iconst hX (v := iI 1) dX13_takeArguments_170 rfl ?_
          refine v_goto hX (tgt := 175) dX13_takeArguments_171 (by decide) ?_
          refine v_locals (lv' := [(1, .int (iI n)), (0, .ref x)]) (by simp) ?_
          exact L175 _ a0 n 1 m4 fr21 (by simp (disch := omega) only [y_I_s_I, x_I_s_I, z_I_s_J, z_I_s_A, z_I_s_B, e21_ls, e_a0, e_b0]) ⟨by omega, by omega⟩ (by omega) (fOk.to p21_1 rfl (by omega) (fun i _ _ => rfl) (fun i _ _ => rfl))
    ·
      refine v_aload_n hX dX13_takeArguments_25 (i := 0) rfl rfl ?_
      refine v_callV hX (n := 0) (k_passBlanks (S := S21c) (x := x) (at_ := a0) (ls := ls) h21c (by simp (disch := omega) only [y_I_s_I, x_I_s_I, z_I_s_J, z_I_s_A, z_I_s_B, e21_ls, e_a0, e_b0]) ⟨by omega, by omega⟩ (by simp (disch := omega) only [y_I_s_I, x_I_s_I, z_I_s_J, z_I_s_A, z_I_s_B, e21_ls, e_a0, e_b0]) ⟨by omega, by omega⟩ (by omega)) (ms_kx h21c) bc_11 (by decide) w_7_25 w_7_27 (bw_p (q := (yX13_passBlanks, 72)) (List.mem_of_getElem? (i := 50) rfl) rfl) w_1_16 w_7_28 (by decide +kernel) rfl ⟨by decide, by decide⟩ ⟨by omega, by omega⟩ (Nat.le_of_ble_eq_true rfl) rfl dX13_takeArguments_26 (fun _ _ _ q => q) ?_
      rintro r16_ S16_ z16_ ⟨rfl, f16_, v17_, rfl, e_v17_, b_v17_, q16_, q16_0⟩
      try simp (disch := omega) only [zr_I, zr_J, zr_B, rA_A, zl_I, zl_J, zl_A, lA_B, hc21_5] at q16_0
      have e16_1107 : m_I S16_ 1107 x = iI ls := (f16_.2.2.2.1 1107 (by decide)).trans (by simp (disch := omega) only [y_I_s_I, x_I_s_I, z_I_s_J, z_I_s_A, z_I_s_B, e21_ls, e_a0, e_b0])
      have e16_1110 : m_I S16_ 1110 x = iI b0 := (f16_.2.2.2.1 1110 (by decide)).trans (by simp (disch := omega) only [y_I_s_I, x_I_s_I, z_I_s_J, z_I_s_A, z_I_s_B, e21_ls, e_a0, e_b0])
      have h16_ : mS S16_ x := f16_.keep h21c
      have hc16_5 : ∀ i, rAt S16_ (x + 5) i = rAt S (x + 5) i := fun i => ((f16_.1 (x + 5) (by omega) (fun j hj => absurd hj List.not_mem_nil)).rA i).trans (hc21_5 i)
      have hc16_30 : ∀ i, rAt S16_ (x + 30) i = rAt S21c (x + 30) i := fun i => ((f16_.1 (x + 30) (by omega) (fun j hj => absurd hj List.not_mem_nil)).rA i).trans rfl
      have hc16_31 : ∀ i, rAt S16_ (x + 31) i = rAt S21c (x + 31) i := fun i => ((f16_.1 (x + 31) (by omega) (fun j hj => absurd hj List.not_mem_nil)).rA i).trans rfl
      refine v_aload_n hX dX13_takeArguments_29 (i := 0) rfl rfl ?_
      refine v_get hX (ci := 11) (k := 8) (ms_kx h16_) bc_11 (by decide) (by decide) in_11 w_5_224 dX13_takeArguments_30 (mvF (f := 1108) (v := iI v17_) rfl rfl (by simp (disch := omega) only [y_I_s_I, x_I_s_I, z_I_s_J, z_I_s_A, z_I_s_B, e16_1107, e16_1110, e_v17_])) ?_
      refine v_istore_n hX (lv' := [(3, .int (iI v17_)), (2, .int (iI mo)), (1, .int (iI n)), (0, .ref x)]) dX13_takeArguments_33 (i := 3) rfl (by rw [hnL]; decide) rfl ?_
      exact L34 _ _ v17_ b0 v17_ (fr21.tr (f16_.mono (by decide) (by decide) (by decide))) (by simp (disch := omega) only [y_I_s_I, x_I_s_I, z_I_s_J, z_I_s_A, z_I_s_B, e16_1107, e16_1110, e_v17_]) (by simp (disch := omega) only [y_I_s_I, x_I_s_I, z_I_s_J, z_I_s_A, z_I_s_B, e16_1107, e16_1110, e_v17_]) ⟨by omega, by omega⟩ ⟨by omega, by omega⟩ (by omega) (fun i => by simp (disch := omega) only [zr_I, zr_J, zr_B, rA_A, zl_I, zl_J, zl_A, lA_B, hc16_30]) (fun i => by simp (disch := omega) only [zr_I, zr_J, zr_B, rA_A, zl_I, zl_J, zl_A, lA_B, hc16_31]) rfl
  change b_V X S z 0 0 0 [(0, .ref x)] []
  refine v_aload_n hX dX13_takeArguments_0 (i := 0) rfl rfl ?_
  refine v_callV hX (n := 0) (k_passBlanks (S := S) (x := x) (at_ := at_) (ls := ls) h (by simp (disch := omega) only [y_I_s_I, x_I_s_I, z_I_s_J, z_I_s_A, z_I_s_B, e_at_, e_ls, e_bd]) ⟨by omega, by omega⟩ (by simp (disch := omega) only [y_I_s_I, x_I_s_I, z_I_s_J, z_I_s_A, z_I_s_B, e_at_, e_ls, e_bd]) ⟨by omega, by omega⟩ (by omega)) (ms_kx h) bc_11 (by decide) w_7_25 w_7_27 (bw_p (q := (yX13_passBlanks, 72)) (List.mem_of_getElem? (i := 50) rfl) rfl) w_1_16 w_7_28 (by decide +kernel) rfl ⟨by decide, by decide⟩ ⟨by omega, by omega⟩ (Nat.le_of_ble_eq_true rfl) rfl dX13_takeArguments_1 (fun _ _ _ q => q) ?_
  rintro r18_ S18_ z18_ ⟨rfl, f18_, v19_, rfl, e_v19_, b_v19_, q18_, q18_0⟩
  have e18_1107 : m_I S18_ 1107 x = iI ls := (f18_.2.2.2.1 1107 (by decide)).trans (by simp (disch := omega) only [y_I_s_I, x_I_s_I, z_I_s_J, z_I_s_A, z_I_s_B, e_at_, e_ls, e_bd])
  have e18_1110 : m_I S18_ 1110 x = iI bd := (f18_.2.2.2.1 1110 (by decide)).trans (by simp (disch := omega) only [y_I_s_I, x_I_s_I, z_I_s_J, z_I_s_A, z_I_s_B, e_at_, e_ls, e_bd])
  have h18_ : mS S18_ x := f18_.keep h
  have hc18_5 : ∀ i, rAt S18_ (x + 5) i = rAt S (x + 5) i := fun i => ((f18_.1 (x + 5) (by omega) (fun j hj => absurd hj List.not_mem_nil)).rA i).trans rfl
  have hc18_30 : ∀ i, rAt S18_ (x + 30) i = rAt S (x + 30) i := fun i => ((f18_.1 (x + 30) (by omega) (fun j hj => absurd hj List.not_mem_nil)).rA i).trans rfl
  have hc18_31 : ∀ i, rAt S18_ (x + 31) i = rAt S (x + 31) i := fun i => ((f18_.1 (x + 31) (by omega) (fun j hj => absurd hj List.not_mem_nil)).rA i).trans rfl
  refine v_aload_n hX dX13_takeArguments_4 (i := 0) rfl rfl ?_
  refine v_get hX (ci := 11) (k := 8) (ms_kx h18_) bc_11 (by decide) (by decide) in_11 w_5_224 dX13_takeArguments_5 (mvF (f := 1108) (v := iI v19_) rfl rfl (by simp (disch := omega) only [y_I_s_I, x_I_s_I, z_I_s_J, z_I_s_A, z_I_s_B, e18_1107, e18_1110, e_v19_])) ?_
  refine v_aload_n hX dX13_takeArguments_8 (i := 0) rfl rfl ?_
  refine v_get hX (ci := 11) (k := 7) (ms_kx h18_) bc_11 (by decide) (by decide) in_11 w_5_223 dX13_takeArguments_9 (mvF (f := 1107) (v := iI ls) rfl rfl (by simp (disch := omega) only [y_I_s_I, x_I_s_I, z_I_s_J, z_I_s_A, z_I_s_B, e18_1107, e18_1110, e_v19_])) ?_
  refine u_icmp_ne hX (tgt := 17) dX13_takeArguments_12 (by decide) ⟨by omega, by omega⟩ ⟨by omega, by omega⟩ (fun h20_ => ?_) (fun h20_ => ?_)
  ·
    refine v_iconst hX (v := iI 0) dX13_takeArguments_17 rfl ?_
    refine v_istore_n hX (lv' := [(1, .int (iI 0)), (0, .ref x)]) dX13_takeArguments_18 (i := 1) rfl (by rw [hnL]; decide) rfl ?_
    refine v_iconst hX (v := iI 1) dX13_takeArguments_19 rfl ?_
    refine v_istore_n hX (lv' := [(2, .int (iI 1)), (1, .int (iI 0)), (0, .ref x)]) dX13_takeArguments_20 (i := 2) rfl (by rw [hnL]; decide) rfl ?_
    exact L21 _ _ v19_ bd 1 0 0 0 ((mFr.rf _ _).tr (f18_.mono (by decide) (by decide) (by decide))) (by simp (disch := omega) only [y_I_s_I, x_I_s_I, z_I_s_J, z_I_s_A, z_I_s_B, e18_1107, e18_1110, e_v19_]) (by simp (disch := omega) only [y_I_s_I, x_I_s_I, z_I_s_J, z_I_s_A, z_I_s_B, e18_1107, e18_1110, e_v19_]) ⟨by omega, by omega⟩ ⟨by omega, by omega⟩ (by omega) (fOk.zz (by omega)) rfl
  ·
    refine v_iconst hX (v := iI 0) dX13_takeArguments_15 rfl ?_
    exact v_ireturn hX hE dX13_takeArguments_16 (by omega) (by omega) ⟨rfl, ((mFr.rf _ _).tr (f18_.mono (by decide) (by decide) (by decide))), 0, v19_, bd, rfl, ⟨by omega, by omega⟩, (by simp (disch := omega) only [y_I_s_I, x_I_s_I, z_I_s_J, z_I_s_A, z_I_s_B, e18_1107, e18_1110, e_v19_]), ⟨by omega, by omega⟩, (by simp (disch := omega) only [y_I_s_I, x_I_s_I, z_I_s_J, z_I_s_A, z_I_s_B, e18_1107, e18_1110, e_v19_]), ⟨by omega, by omega⟩, (by omega), (fun g => fOk.zz (by omega))⟩
set_option maxRecDepth 100000 in
set_option maxHeartbeats 4000000 in
theorem k_literalsBefore {kn : Nat → Nat} {B : Nat} {S : b_M} {z x : Nat} {sx : Int} (h : mS S x) (b_sx : -2147483648 ≤ sx ∧ sx < 2147483648) (p : 0 ≤ sx ∧ sx ≤ 400) : b_C kn B yX13_literalsBefore cX13_literalsBefore 4 (some .int) 0 0 0 0 [.ref x, .int (iI sx)] S z (fun r S' z' => z = z' ∧ S = S' ∧ ∃ q : Int, r = some (.int (iI q)) ∧ (-2147483648 ≤ q ∧ q < 2147483648) ∧ (0 ≤ q ∧ q ≤ sx)) (fun _ _ _ => False) := by
  refine b_enter (by decide) (Nat.le_of_ble_eq_true rfl) ?_
  intro X hX hE hnL hkn hB hI_
  subst hkn; subst hB
  clear hI_
  have L6 : ∀ (n6 : Nat) (k : Int) (n : Int), (-1 ≤ k ∧ k < sx ∧ 0 ≤ n ∧ n ≤ sx - 1 - k) → (k + 1).toNat = n6 → b_V X S z 0 0 6 [(3, .int (iI k)), (2, .int (iI n)), (0, .ref x), (1, .int (iI sx))] [] := by
    intro n6
    induction n6 using Nat.strongRecOn with
    | _ n6 ih6 =>
    intro k n p6_0 hm6
    refine v_iload_n hX dX13_literalsBefore_6 (i := 3) rfl rfl ?_
    refine u_if_lt hX (tgt := 46) dX13_literalsBefore_7 (by decide) ⟨by omega, by omega⟩ (fun h1_ => ?_) (fun h1_ => ?_)
    ·
      refine v_iload_n hX dX13_literalsBefore_46 (i := 2) rfl rfl ?_
      exact v_ireturn hX hE dX13_literalsBefore_47 (by omega) (by omega) ⟨rfl, rfl, n, rfl, ⟨by omega, by omega⟩, (by omega)⟩
    ·
      refine v_aload_n hX dX13_literalsBefore_10 (i := 0) rfl rfl ?_
      refine v_get hX (ci := 11) (k := 30) (ms_kx h) bc_11 (by decide) (by decide) in_11 w_6_6 dX13_literalsBefore_11 (mvP (f := 1130) (q := (x + 18)) rfl rfl (ms_p_1130 h)) ?_
      refine v_iload_n hX dX13_literalsBefore_14 (i := 3) rfl rfl ?_
      refine u_iald hX (L := 400) (ms_k_1130 h) (ms_l_1130 h) ⟨by omega, by omega⟩ (by decide) dX13_literalsBefore_15 (fun v2_ e_v2_ b_v2_ => ?_)
      refine v_bipush hX (v := iI 10) dX13_literalsBefore_16 (by decide) ?_
      refine u_icmp_eq hX (tgt := 46) dX13_literalsBefore_18 (by decide) ⟨by omega, by omega⟩ ⟨by omega, by omega⟩ (fun h3_ => ?_) (fun h3_ => ?_)
      ·
        refine v_iload_n hX dX13_literalsBefore_46 (i := 2) rfl rfl ?_
        exact v_ireturn hX hE dX13_literalsBefore_47 (by omega) (by omega) ⟨rfl, rfl, n, rfl, ⟨by omega, by omega⟩, (by omega)⟩
      ·
        refine v_iload_n hX dX13_literalsBefore_21 (i := 2) rfl rfl ?_
        refine v_aload_n hX dX13_literalsBefore_22 (i := 0) rfl rfl ?_
        refine v_get hX (ci := 11) (k := 30) (ms_kx h) bc_11 (by decide) (by decide) in_11 w_6_6 dX13_literalsBefore_23 (mvP (f := 1130) (q := (x + 18)) rfl rfl (ms_p_1130 h)) ?_
        refine v_iload_n hX dX13_literalsBefore_26 (i := 3) rfl rfl ?_
        refine u_iald hX (L := 400) (ms_k_1130 h) (ms_l_1130 h) ⟨by omega, by omega⟩ (by decide) dX13_literalsBefore_27 (fun v4_ e_v4_ b_v4_ => ?_)
        refine v_bipush hX (v := iI 7) dX13_literalsBefore_28 (by decide) ?_
        refine u_icmp_ne hX (tgt := 37) dX13_literalsBefore_30 (by decide) ⟨by omega, by omega⟩ ⟨by omega, by omega⟩ (fun h5_ => ?_) (fun h5_ => ?_)
        ·
          refine v_iconst hX (v := iI 0) dX13_literalsBefore_37 rfl ?_
          refine u_iadd hX dX13_literalsBefore_38 ?_
          refine v_istore_n hX (lv' := [(2, .int (iI (n + 0))), (3, .int (iI k)), (0, .ref x), (1, .int (iI sx))]) dX13_literalsBefore_39 (i := 2) rfl (by rw [hnL]; decide) rfl ?_
          refine v_iinc hX (v := iI (k + (-1))) (lv' := [(3, .int (iI (k + (-1)))), (2, .int (iI (n + 0))), (0, .ref x), (1, .int (iI sx))]) dX13_literalsBefore_40 rfl (iI_add _ _) (by rw [hnL]; decide) rfl ?_
          refine v_goto hX (tgt := 6) dX13_literalsBefore_43 (by decide) ?_
          exact ih6 _ (by omega) (k + (-1)) (n + 0) (by omega) rfl
        ·
          refine v_iconst hX (v := iI 1) dX13_literalsBefore_33 rfl ?_
          refine v_goto hX (tgt := 38) dX13_literalsBefore_34 (by decide) ?_
          refine u_iadd hX dX13_literalsBefore_38 ?_
          refine v_istore_n hX (lv' := [(2, .int (iI (n + 1))), (3, .int (iI k)), (0, .ref x), (1, .int (iI sx))]) dX13_literalsBefore_39 (i := 2) rfl (by rw [hnL]; decide) rfl ?_
          refine v_iinc hX (v := iI (k + (-1))) (lv' := [(3, .int (iI (k + (-1)))), (2, .int (iI (n + 1))), (0, .ref x), (1, .int (iI sx))]) dX13_literalsBefore_40 rfl (iI_add _ _) (by rw [hnL]; decide) rfl ?_
          refine v_goto hX (tgt := 6) dX13_literalsBefore_43 (by decide) ?_
          exact ih6 _ (by omega) (k + (-1)) (n + 1) (by omega) rfl
  change b_V X S z 0 0 0 [(0, .ref x), (1, .int (iI sx))] []
  refine v_iconst hX (v := iI 0) dX13_literalsBefore_0 rfl ?_
  refine v_istore_n hX (lv' := [(2, .int (iI 0)), (0, .ref x), (1, .int (iI sx))]) dX13_literalsBefore_1 (i := 2) rfl (by rw [hnL]; decide) rfl ?_
  refine v_iload_n hX dX13_literalsBefore_2 (i := 1) rfl rfl ?_
  refine v_iconst hX (v := iI 1) dX13_literalsBefore_3 rfl ?_
  refine u_isub hX dX13_literalsBefore_4 ?_
  refine v_istore_n hX (lv' := [(3, .int (iI (sx - 1))), (2, .int (iI 0)), (0, .ref x), (1, .int (iI sx))]) dX13_literalsBefore_5 (i := 3) rfl (by rw [hnL]; decide) rfl ?_
  exact L6 _ (sx - 1) 0 (by omega) rfl
set_option maxRecDepth 100000 in
set_option maxHeartbeats 4000000 in
theorem k_grows {kn : Nat → Nat} {B : Nat} {S : b_M} {z x : Nat} {sx : Int} (h : mS S x) (b_sx : -2147483648 ≤ sx ∧ sx < 2147483648) (p : 0 ≤ sx ∧ sx < 400) : b_C kn B yX13_grows cX13_grows 2 (some .boolean) 0 0 0 0 [.ref x, .int (iI sx)] S z (fun r S' z' => z = z' ∧ S = S' ∧ ∃ q : Int, r = some (.int (iI q)) ∧ (-2147483648 ≤ q ∧ q < 2147483648) ∧ ((q = 1 ∧ (rAt S (x + 18) sx = 2 ∨ rAt S (x + 18) sx = 5 ∨ rAt S (x + 18) sx = 6)) ∨ (q = 0 ∧ ¬ (rAt S (x + 18) sx = 2 ∨ rAt S (x + 18) sx = 5 ∨ rAt S (x + 18) sx = 6)))) (fun _ _ _ => False) := by
  refine b_enter (by decide) (Nat.le_of_ble_eq_true rfl) ?_
  intro X hX hE hnL hkn hB hI_
  subst hkn; subst hB
  clear hI_
  change b_V X S z 0 0 0 [(0, .ref x), (1, .int (iI sx))] []
  refine v_aload_n hX dX13_grows_0 (i := 0) rfl rfl ?_
  refine v_get hX (ci := 11) (k := 30) (ms_kx h) bc_11 (by decide) (by decide) in_11 w_6_6 dX13_grows_1 (mvP (f := 1130) (q := (x + 18)) rfl rfl (ms_p_1130 h)) ?_
  refine v_iload_n hX dX13_grows_4 (i := 1) rfl rfl ?_
  refine u_iald hX (L := 400) (ms_k_1130 h) (ms_l_1130 h) ⟨by omega, by omega⟩ (by decide) dX13_grows_5 (fun v1_ e_v1_ b_v1_ => ?_)
  refine v_iconst hX (v := iI 2) dX13_grows_6 rfl ?_
  refine u_icmp_eq hX (tgt := 31) dX13_grows_7 (by decide) ⟨by omega, by omega⟩ ⟨by omega, by omega⟩ (fun h2_ => ?_) (fun h2_ => ?_)
  ·
    refine v_iconst hX (v := iI 1) dX13_grows_31 rfl ?_
    refine v_goto hX (tgt := 36) dX13_grows_32 (by decide) ?_
    exact v_zreturn hX (nar_b (by omega)) hE dX13_grows_36 (by omega) (by omega) ⟨rfl, rfl, 1, rfl, ⟨by omega, by omega⟩, (by omega)⟩
  ·
    refine v_aload_n hX dX13_grows_10 (i := 0) rfl rfl ?_
    refine v_get hX (ci := 11) (k := 30) (ms_kx h) bc_11 (by decide) (by decide) in_11 w_6_6 dX13_grows_11 (mvP (f := 1130) (q := (x + 18)) rfl rfl (ms_p_1130 h)) ?_
    refine v_iload_n hX dX13_grows_14 (i := 1) rfl rfl ?_
    refine u_iald hX (L := 400) (ms_k_1130 h) (ms_l_1130 h) ⟨by omega, by omega⟩ (by decide) dX13_grows_15 (fun v3_ e_v3_ b_v3_ => ?_)
    refine v_iconst hX (v := iI 5) dX13_grows_16 rfl ?_
    refine u_icmp_eq hX (tgt := 31) dX13_grows_17 (by decide) ⟨by omega, by omega⟩ ⟨by omega, by omega⟩ (fun h4_ => ?_) (fun h4_ => ?_)
    ·
      refine v_iconst hX (v := iI 1) dX13_grows_31 rfl ?_
      refine v_goto hX (tgt := 36) dX13_grows_32 (by decide) ?_
      exact v_zreturn hX (nar_b (by omega)) hE dX13_grows_36 (by omega) (by omega) ⟨rfl, rfl, 1, rfl, ⟨by omega, by omega⟩, (by omega)⟩
    ·
      refine v_aload_n hX dX13_grows_20 (i := 0) rfl rfl ?_
      refine v_get hX (ci := 11) (k := 30) (ms_kx h) bc_11 (by decide) (by decide) in_11 w_6_6 dX13_grows_21 (mvP (f := 1130) (q := (x + 18)) rfl rfl (ms_p_1130 h)) ?_
      refine v_iload_n hX dX13_grows_24 (i := 1) rfl rfl ?_
      refine u_iald hX (L := 400) (ms_k_1130 h) (ms_l_1130 h) ⟨by omega, by omega⟩ (by decide) dX13_grows_25 (fun v5_ e_v5_ b_v5_ => ?_)
      refine v_bipush hX (v := iI 6) dX13_grows_26 (by decide) ?_
      refine u_icmp_ne hX (tgt := 35) dX13_grows_28 (by decide) ⟨by omega, by omega⟩ ⟨by omega, by omega⟩ (fun h6_ => ?_) (fun h6_ => ?_)
      ·
        refine v_iconst hX (v := iI 0) dX13_grows_35 rfl ?_
        exact v_zreturn hX (nar_b (by omega)) hE dX13_grows_36 (by omega) (by omega) ⟨rfl, rfl, 0, rfl, ⟨by omega, by omega⟩, (by omega)⟩
      ·
        refine v_iconst hX (v := iI 1) dX13_grows_31 rfl ?_
        refine v_goto hX (tgt := 36) dX13_grows_32 (by decide) ?_
        exact v_zreturn hX (nar_b (by omega)) hE dX13_grows_36 (by omega) (by omega) ⟨rfl, rfl, 1, rfl, ⟨by omega, by omega⟩, (by omega)⟩
set_option maxRecDepth 100000 in
set_option maxHeartbeats 4000000 in
theorem k_wordsOf {kn : Nat → Nat} {B : Nat} {S : b_M} {z x : Nat} {sx : Int} (h : mS S x) (b_sx : -2147483648 ≤ sx ∧ sx < 2147483648) (p : 0 ≤ sx ∧ sx < 400 ∧ 0 ≤ rAt S (x + 21) sx ∧ rAt S (x + 21) sx ≤ 8 ∧ 0 ≤ rAt S (x + 23) sx ∧ rAt S (x + 23) sx ≤ 1000) : b_C kn B yX13_wordsOf cX13_wordsOf 3 (some .int) 1 23 0 0 [.ref x, .int (iI sx)] S z (fun r S' z' => z = z' ∧ S = S' ∧ ∃ q : Int, r = some (.int (iI q)) ∧ (-2147483648 ≤ q ∧ q < 2147483648) ∧ (0 ≤ q ∧ q ≤ 1000)) (fun _ _ _ => False) := by
  refine b_enter (by decide) (Nat.le_of_ble_eq_true rfl) ?_
  intro X hX hE hnL hkn hB hI_
  subst hkn; subst hB
  clear hI_
  change b_V X S z 0 0 0 [(0, .ref x), (1, .int (iI sx))] []
  refine v_aload_n hX dX13_wordsOf_0 (i := 0) rfl rfl ?_
  refine v_get hX (ci := 11) (k := 30) (ms_kx h) bc_11 (by decide) (by decide) in_11 w_6_6 dX13_wordsOf_1 (mvP (f := 1130) (q := (x + 18)) rfl rfl (ms_p_1130 h)) ?_
  refine v_iload_n hX dX13_wordsOf_4 (i := 1) rfl rfl ?_
  refine u_iald hX (L := 400) (ms_k_1130 h) (ms_l_1130 h) ⟨by omega, by omega⟩ (by decide) dX13_wordsOf_5 (fun v1_ e_v1_ b_v1_ => ?_)
  refine v_istore_n hX (lv' := [(2, .int (iI v1_)), (0, .ref x), (1, .int (iI sx))]) dX13_wordsOf_6 (i := 2) rfl (by rw [hnL]; decide) rfl ?_
  refine v_iload_n hX dX13_wordsOf_7 (i := 2) rfl rfl ?_
  refine u_if_ne hX (tgt := 15) dX13_wordsOf_8 (by decide) ⟨by omega, by omega⟩ (fun h2_ => ?_) (fun h2_ => ?_)
  ·
    refine v_iload_n hX dX13_wordsOf_15 (i := 2) rfl rfl ?_
    refine v_bipush hX (v := iI 8) dX13_wordsOf_16 (by decide) ?_
    refine u_icmp_ne hX (tgt := 30) dX13_wordsOf_18 (by decide) ⟨by omega, by omega⟩ ⟨by omega, by omega⟩ (fun h3_ => ?_) (fun h3_ => ?_)
    ·
      refine v_iload_n hX dX13_wordsOf_30 (i := 2) rfl rfl ?_
      refine v_bipush hX (v := iI 9) dX13_wordsOf_31 (by decide) ?_
      refine u_icmp_ne hX (tgt := 45) dX13_wordsOf_33 (by decide) ⟨by omega, by omega⟩ ⟨by omega, by omega⟩ (fun h4_ => ?_) (fun h4_ => ?_)
      ·
        refine v_iload_n hX dX13_wordsOf_45 (i := 2) rfl rfl ?_
        refine v_bipush hX (v := iI 10) dX13_wordsOf_46 (by decide) ?_
        refine u_icmp_ne hX (tgt := 59) dX13_wordsOf_48 (by decide) ⟨by omega, by omega⟩ ⟨by omega, by omega⟩ (fun h5_ => ?_) (fun h5_ => ?_)
        ·
          refine v_aload_n hX dX13_wordsOf_59 (i := 0) rfl rfl ?_
          refine v_get hX (ci := 11) (k := 37) (ms_kx h) bc_11 (by decide) (by decide) in_11 w_6_13 dX13_wordsOf_60 (mvP (f := 1137) (q := (x + 25)) rfl rfl (ms_p_1137 h)) ?_
          refine v_iload_n hX dX13_wordsOf_63 (i := 1) rfl rfl ?_
          refine u_zald hX (L := 400) (ms_k_1137 h) (ms_l_1137 h) ⟨by omega, by omega⟩ (by decide) dX13_wordsOf_64 (fun v6_ e_v6_ b_v6_ => ?_)
          refine u_if_eq hX (tgt := 72) dX13_wordsOf_65 (by decide) ⟨by omega, by omega⟩ (fun h7_ => ?_) (fun h7_ => ?_)
          ·
            refine v_iconst hX (v := iI 1) dX13_wordsOf_72 rfl ?_
            exact v_ireturn hX hE dX13_wordsOf_73 (by omega) (by omega) ⟨rfl, rfl, 1, rfl, ⟨by omega, by omega⟩, (by omega)⟩
          ·
            refine v_iconst hX (v := iI 2) dX13_wordsOf_68 rfl ?_
            refine v_goto hX (tgt := 73) dX13_wordsOf_69 (by decide) ?_
            exact v_ireturn hX hE dX13_wordsOf_73 (by omega) (by omega) ⟨rfl, rfl, 2, rfl, ⟨by omega, by omega⟩, (by omega)⟩
        ·
          refine v_aload_n hX dX13_wordsOf_51 (i := 0) rfl rfl ?_
          refine v_iload_n hX dX13_wordsOf_52 (i := 1) rfl rfl ?_
          refine v_callV hX (n := 1) (k_literalsBefore (S := S) (x := x) (sx := sx) h ⟨by omega, by omega⟩ (by omega)) (ms_kx h) bc_11 (by decide) w_7_170 w_7_172 (bw_p (q := (yX13_literalsBefore, 72)) (List.mem_of_getElem? (i := 83) rfl) rfl) w_1_16 w_7_173 (by decide +kernel) rfl ⟨by decide, by decide⟩ ⟨by omega, by omega⟩ (Nat.le_of_ble_eq_true rfl) rfl dX13_wordsOf_53 (fun _ _ _ q => q) ?_
          rintro r8_ S8_ z8_ ⟨rfl, rfl, v9_, rfl, b_v9_, q8_⟩
          refine v_goto hX (tgt := 73) dX13_wordsOf_56 (by decide) ?_
          exact v_ireturn hX hE dX13_wordsOf_73 (by omega) (by omega) ⟨rfl, rfl, v9_, rfl, ⟨by omega, by omega⟩, (by omega)⟩
      ·
        refine v_aload_n hX dX13_wordsOf_36 (i := 0) rfl rfl ?_
        refine v_get hX (ci := 11) (k := 35) (ms_kx h) bc_11 (by decide) (by decide) in_11 w_6_11 dX13_wordsOf_37 (mvP (f := 1135) (q := (x + 23)) rfl rfl (ms_p_1135 h)) ?_
        refine v_iload_n hX dX13_wordsOf_40 (i := 1) rfl rfl ?_
        refine u_iald hX (L := 400) (ms_k_1135 h) (ms_l_1135 h) ⟨by omega, by omega⟩ (by decide) dX13_wordsOf_41 (fun v10_ e_v10_ b_v10_ => ?_)
        refine v_goto hX (tgt := 73) dX13_wordsOf_42 (by decide) ?_
        exact v_ireturn hX hE dX13_wordsOf_73 (by omega) (by omega) ⟨rfl, rfl, v10_, rfl, ⟨by omega, by omega⟩, (by omega)⟩
    ·
      refine v_aload_n hX dX13_wordsOf_21 (i := 0) rfl rfl ?_
      refine v_get hX (ci := 11) (k := 33) (ms_kx h) bc_11 (by decide) (by decide) in_11 w_6_9 dX13_wordsOf_22 (mvP (f := 1133) (q := (x + 21)) rfl rfl (ms_p_1133 h)) ?_
      refine v_iload_n hX dX13_wordsOf_25 (i := 1) rfl rfl ?_
      refine u_iald hX (L := 400) (ms_k_1133 h) (ms_l_1133 h) ⟨by omega, by omega⟩ (by decide) dX13_wordsOf_26 (fun v11_ e_v11_ b_v11_ => ?_)
      refine v_goto hX (tgt := 73) dX13_wordsOf_27 (by decide) ?_
      exact v_ireturn hX hE dX13_wordsOf_73 (by omega) (by omega) ⟨rfl, rfl, v11_, rfl, ⟨by omega, by omega⟩, (by omega)⟩
  ·
    refine v_iconst hX (v := iI 0) dX13_wordsOf_11 rfl ?_
    refine v_goto hX (tgt := 73) dX13_wordsOf_12 (by decide) ?_
    exact v_ireturn hX hE dX13_wordsOf_73 (by omega) (by omega) ⟨rfl, rfl, 0, rfl, ⟨by omega, by omega⟩, (by omega)⟩
set_option maxRecDepth 100000 in
set_option maxHeartbeats 4000000 in
theorem k_say {kn : Nat → Nat} {B : Nat} {S : b_M} {z x : Nat} {v : Int} {wo_ : Int} (h : mS S x) (e_wo_ : m_I S 1157 x = iI wo_) (b_wo_ : -2147483648 ≤ wo_ ∧ wo_ < 2147483648) (b_v : -2147483648 ≤ v ∧ v < 2147483648) (p : 0 ≤ wo_ ∧ wo_ < 65536) : b_C kn B yX13_say cX13_say 2 none 0 0 0 0 [.ref x, .int (iI v)] S z (fun r S' z' => z = z' ∧ mFr [1157] [] [38] S S' x ∧ ∃ w1 : Int, r = none ∧ m_I S' 1157 x = iI w1 ∧ (-2147483648 ≤ w1 ∧ w1 < 2147483648) ∧ (w1 = wo_ + 1)) (fun _ _ _ => False) := by
  refine b_enter (by decide) (Nat.le_of_ble_eq_true rfl) ?_
  intro X hX hE hnL hkn hB hI_
  subst hkn; subst hB
  clear hI_
  change b_V X S z 0 0 0 [(0, .ref x), (1, .int (iI v))] []
  refine v_aload_n hX dX13_say_0 (i := 0) rfl rfl ?_
  refine v_get hX (ci := 11) (k := 61) (ms_kx h) bc_11 (by decide) (by decide) in_11 w_6_37 dX13_say_1 (mvP (f := 1161) (q := (x + 38)) rfl rfl (ms_p_1161 h)) ?_
  refine v_aload_n hX dX13_say_4 (i := 0) rfl rfl ?_
  refine v_get hX (ci := 11) (k := 57) (ms_kx h) bc_11 (by decide) (by decide) in_11 w_6_33 dX13_say_5 (mvF (f := 1157) (v := iI wo_) rfl rfl (by simp (disch := omega) only [y_I_s_I, x_I_s_I, z_I_s_J, z_I_s_A, z_I_s_B, e_wo_])) ?_
  refine v_iload_n hX dX13_say_8 (i := 1) rfl rfl ?_
  refine v_ldcw hX (v := iI 65535) dX13_say_9 (show Cond.constant _ _ (iI 65535) ∈ b_Ws from w_7_190) ?_
  refine u_iand hX dX13_say_12 (fun v1_ b_v1_ => ?_)
  refine u_iast hX (L := 65536) (ms_k_1161 h) (ms_l_1161 h) ⟨by omega, by omega⟩ (by decide) dX13_say_13 ?_
  refine v_aload_n hX dX13_say_14 (i := 0) rfl rfl ?_
  refine v_dup hX dX13_say_15 rfl ?_
  refine v_get hX (ci := 11) (k := 57) (ms_kx (mS.sA h)) bc_11 (by decide) (by decide) in_11 w_6_33 dX13_say_16 (mvF (f := 1157) (v := iI wo_) rfl rfl (by simp (disch := omega) only [y_I_s_I, x_I_s_I, z_I_s_J, z_I_s_A, z_I_s_B, e_wo_])) ?_
  refine v_iconst hX (v := iI 1) dX13_say_19 rfl ?_
  refine u_iadd hX dX13_say_20 ?_
  refine v_putI hX (ci := 11) (k := 57) (f := 1157) (ms_kx (mS.sA h)) bc_11 (by decide) (by decide) in_11 tyX13_ok nmX13 w_6_33 (Or.inl rfl) rfl rfl dX13_say_21 rfl rfl ?_
  exact v_return hX hE dX13_say_24 (by omega) (by omega) ⟨rfl, (((mFr.rf _ _).sA (by decide)).sI (by decide)), (wo_ + 1), rfl, (by simp (disch := omega) only [y_I_s_I, x_I_s_I, z_I_s_J, z_I_s_A, z_I_s_B, e_wo_]), ⟨by omega, by omega⟩, (by omega)⟩
