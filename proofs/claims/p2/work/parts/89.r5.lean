/-- what was found in a line: fo pieces, one behind the other, up to lim -/
def fOk (S : b_M) (x : Nat) (fo lim : Int) : Prop := (∀ i : Int, 0 ≤ i → i < fo → 0 ≤ rAt S (x + 30) i ∧ rAt S (x + 30) i ≤ rAt S (x + 31) i ∧ rAt S (x + 31) i ≤ lim) ∧ ∀ i : Int, 0 ≤ i → i + 1 < fo → rAt S (x + 31) i ≤ rAt S (x + 30) (i + 1)
theorem fOk.z (S : b_M) (x : Nat) (lim : Int) : fOk S x 0 lim := ⟨fun i h1 h2 => absurd h2 (by omega), fun i h1 h2 => absurd h2 (by omega)⟩
theorem fOk.to {S S1 : b_M} {x : Nat} {fo lim f1 l1 : Int} (h : fOk S x fo lim) (e : f1 = fo) (hl : lim ≤ l1) (c1 : ∀ i, 0 ≤ i → i < fo → rAt S1 (x + 30) i = rAt S (x + 30) i) (c2 : ∀ i, 0 ≤ i → i < fo → rAt S1 (x + 31) i = rAt S (x + 31) i) : fOk S1 x f1 l1 := by
  subst e
  refine ⟨fun i h1 h2 => ?_, fun i h1 h2 => ?_⟩
  · rw [c1 i h1 h2, c2 i h1 h2]; have := h.1 i h1 h2; omega
  · rw [c2 i h1 (by omega), c1 (i + 1) (by omega) h2]; exact h.2 i h1 h2
theorem fOk.push {S S1 : b_M} {x : Nat} {fo lim f1 a b : Int} (h : fOk S x fo lim) (e : f1 = fo + 1) (h0 : 0 ≤ fo) (hl : lim ≤ a ∧ 0 ≤ a) (ha : a ≤ b) (c1 : (∀ i : Int, 0 ≤ i → i ≠ fo → rAt S1 (x + 30) i = rAt S (x + 30) i) ∧ (fo < 9 → rAt S1 (x + 30) fo = a)) (c2 : (∀ i : Int, 0 ≤ i → i ≠ fo → rAt S1 (x + 31) i = rAt S (x + 31) i) ∧ (fo < 9 → rAt S1 (x + 31) fo = b)) (h9 : fo < 9) : fOk S1 x f1 b := by
  subst e
  refine ⟨fun i h1 h2 => ?_, fun i h1 h2 => ?_⟩
  · rcases (show i < fo ∨ i = fo by omega) with q | q
    · rw [c1.1 i h1 (by omega), c2.1 i h1 (by omega)]; have := h.1 i h1 q; omega
    · subst q; rw [c1.2 h9, c2.2 h9]; omega
  · rcases (show i + 1 < fo ∨ i + 1 = fo by omega) with q | q
    · rw [c2.1 i h1 (by omega), c1.1 (i + 1) (by omega) (by omega)]; exact h.2 i h1 q
    · rw [c2.1 i h1 (by omega), q, c1.2 h9]; have := h.1 i h1 (by omega); omega
/-- each of them without eleven letters side by side; S: where the line stands -/
def fNr (S S1 : b_M) (x : Nat) (fo : Int) : Prop := ∀ i : Int, 0 ≤ i → i < fo → nr S (x + 5) (rAt S1 (x + 30) i) (rAt S1 (x + 31) i)
theorem fNr.z (S S1 : b_M) (x : Nat) : fNr S S1 x 0 := fun i h1 h2 => absurd h2 (by omega)
theorem fNr.to {S R S1 : b_M} {x : Nat} {fo f1 : Int} (h : fNr S R x fo) (e : f1 = fo) (c1 : ∀ i, 0 ≤ i → i < fo → rAt S1 (x + 30) i = rAt R (x + 30) i) (c2 : ∀ i, 0 ≤ i → i < fo → rAt S1 (x + 31) i = rAt R (x + 31) i) : fNr S S1 x f1 := by
  subst e
  intro i h1 h2
  rw [c1 i h1 h2, c2 i h1 h2]; exact h i h1 h2
theorem fNr.push {S R S1 : b_M} {x : Nat} {fo f1 a b : Int} (h : fNr S R x fo) (e : f1 = fo + 1) (hn : nr S (x + 5) a b) (c1 : (∀ i : Int, 0 ≤ i → i ≠ fo → rAt S1 (x + 30) i = rAt R (x + 30) i) ∧ (fo < 9 → rAt S1 (x + 30) fo = a)) (c2 : (∀ i : Int, 0 ≤ i → i ≠ fo → rAt S1 (x + 31) i = rAt R (x + 31) i) ∧ (fo < 9 → rAt S1 (x + 31) fo = b)) (h9 : fo < 9) : fNr S S1 x f1 := by
  subst e
  intro i h1 h2
  rcases (show i < fo ∨ i = fo by omega) with q | q
  · rw [c1.1 i h1 (by omega), c2.1 i h1 (by omega)]; exact h i h1 q
  · subst q; rw [c1.2 h9, c2.2 h9]; exact hn
set_option maxRecDepth 100000 in
set_option maxHeartbeats 4000000 in
theorem k_takeExpression2 {kn : Nat → Nat} {B : Nat} {S : b_M} {z x : Nat} {at_ : Int} {ls : Int} {bd : Int} {fo : Int} (h : mS S x) (e_at_ : m_I S 1108 x = iI at_) (b_at_ : -2147483648 ≤ at_ ∧ at_ < 2147483648) (e_ls : m_I S 1107 x = iI ls) (b_ls : -2147483648 ≤ ls ∧ ls < 2147483648) (e_bd : m_I S 1110 x = iI bd) (b_bd : -2147483648 ≤ bd ∧ bd < 2147483648) (e_fo : m_I S 1145 x = iI fo) (b_fo : -2147483648 ≤ fo ∧ fo < 2147483648) (p : 0 ≤ at_ ∧ ls ≤ 8400 ∧ (bd = 0 ∨ bd = 1) ∧ 0 ≤ fo ∧ fo ≤ 9) : b_C kn B yX13_takeExpression cX13_takeExpression 2 none 6 126 0 0 [.ref x] S z (fun r S' z' => z = z' ∧ mFr [1108, 1110, 1145] [] [30, 31] S S' x ∧ ∃ a1 b1 f1 : Int, r = none ∧ m_I S' 1108 x = iI a1 ∧ (-2147483648 ≤ a1 ∧ a1 < 2147483648) ∧ m_I S' 1110 x = iI b1 ∧ (-2147483648 ≤ b1 ∧ b1 < 2147483648) ∧ m_I S' 1145 x = iI f1 ∧ (-2147483648 ≤ f1 ∧ f1 < 2147483648) ∧ (at_ ≤ a1 ∧ (a1 = at_ ∨ a1 ≤ ls) ∧ (b1 = 0 ∨ b1 = 1) ∧ (b1 = 0 → bd = 0) ∧ (fo < 9 → f1 = fo + 1) ∧ (fo = 9 → f1 = 9)) ∧ (b1 = 0 → nr S (x + 5) at_ a1) ∧ ((∀ i : Int, 0 ≤ i → i ≠ fo → rAt S' (x + 30) i = rAt S (x + 30) i) ∧ (fo < 9 → rAt S' (x + 30) fo = at_)) ∧ ((∀ i : Int, 0 ≤ i → i ≠ fo → rAt S' (x + 31) i = rAt S (x + 31) i) ∧ (fo < 9 → rAt S' (x + 31) fo = a1))) (fun _ _ _ => False) := by
  refine b_enter (by decide) (Nat.le_of_ble_eq_true rfl) ?_
  intro X hX hE hnL hkn hB hI_
  subst hkn; subst hB
  clear hI_
  have L73 : ∀ (S73c : b_M) (a0 : Int) (b0 : Int) (f0 : Int), mFr [1108, 1110, 1145] [] [30, 31] S S73c x → m_I S73c 1108 x = iI a0 → m_I S73c 1110 x = iI b0 → m_I S73c 1145 x = iI f0 → (-2147483648 ≤ a0 ∧ a0 < 2147483648) → (-2147483648 ≤ b0 ∧ b0 < 2147483648) → (-2147483648 ≤ f0 ∧ f0 < 2147483648) → (f0 = fo ∧ at_ ≤ a0 ∧ (a0 = at_ ∨ a0 ≤ ls) ∧ (b0 = 0 ∨ b0 = 1) ∧ (b0 = 0 → bd = 0)) → (b0 = 0 → nr S (x + 5) at_ a0) → (∀ i, rAt S73c (x + 30) i = rAt S (x + 30) i) → (∀ i, rAt S73c (x + 31) i = rAt S (x + 31) i) → b_V X S73c z 0 0 73 [(1, .int (iI at_)), (0, .ref x)] [] := by
    intro S73c a0 b0 f0 fr73 e_a0 e_b0 e_f0 b_a0 b_b0 b_f0 p73_0 p73_1 p73_2 p73_3
    have h73c : mS S73c x := fr73.keep h
    have hc73_5 : ∀ i, rAt S73c (x + 5) i = rAt S (x + 5) i := fun i => (fr73.1 (x + 5) (by omega) (by intro j hj; simp only [List.mem_cons, List.not_mem_nil, or_false] at hj; omega)).rA i
    have e73_ls : m_I S73c 1107 x = iI ls := (fr73.2.2.2.1 1107 (by decide)).trans e_ls
    refine v_aload_n hX dX13_takeExpression_73 (i := 0) rfl rfl ?_
    refine v_get hX (ci := 11) (k := 45) (ms_kx h73c) bc_11 (by decide) (by decide) in_11 w_6_21 dX13_takeExpression_74 (mvF (f := 1145) (v := iI f0) rfl rfl (by simp (disch := omega) only [y_I_s_I, x_I_s_I, z_I_s_J, z_I_s_A, z_I_s_B, e73_ls, e_a0, e_b0, e_f0])) ?_
    refine v_bipush hX (v := iI 9) dX13_takeExpression_77 (by decide) ?_
    refine u_icmp_ge hX (tgt := 115) dX13_takeExpression_79 (by decide) ⟨by omega, by omega⟩ ⟨by omega, by omega⟩ (fun h1_ => ?_) (fun h1_ => ?_)
    ·
      exact v_return hX hE dX13_takeExpression_115 (by omega) (by omega) ⟨rfl, fr73, a0, b0, f0, rfl, (by simp (disch := omega) only [y_I_s_I, x_I_s_I, z_I_s_J, z_I_s_A, z_I_s_B, e73_ls, e_a0, e_b0, e_f0]), ⟨by omega, by omega⟩, (by simp (disch := omega) only [y_I_s_I, x_I_s_I, z_I_s_J, z_I_s_A, z_I_s_B, e73_ls, e_a0, e_b0, e_f0]), ⟨by omega, by omega⟩, (by simp (disch := omega) only [y_I_s_I, x_I_s_I, z_I_s_J, z_I_s_A, z_I_s_B, e73_ls, e_a0, e_b0, e_f0]), ⟨by omega, by omega⟩, (by omega), (fun g => p73_1 (by omega)), ⟨fun i g1 g2 => by simp (disch := omega) only [zr_I, zr_J, zr_B, rA_A, zl_I, zl_J, zl_A, lA_B, rA_x, p73_2, p73_3], fun g => by first | omega | simp (disch := omega) only [zr_I, zr_J, zr_B, rA_A, zl_I, zl_J, zl_A, lA_B, rA_y]⟩, ⟨fun i g1 g2 => by simp (disch := omega) only [zr_I, zr_J, zr_B, rA_A, zl_I, zl_J, zl_A, lA_B, rA_x, p73_2, p73_3], fun g => by first | omega | simp (disch := omega) only [zr_I, zr_J, zr_B, rA_A, zl_I, zl_J, zl_A, lA_B, rA_y]⟩⟩
    ·
      refine v_aload_n hX dX13_takeExpression_82 (i := 0) rfl rfl ?_
      refine v_get hX (ci := 11) (k := 46) (ms_kx h73c) bc_11 (by decide) (by decide) in_11 w_6_22 dX13_takeExpression_83 (mvP (f := 1146) (q := (x + 30)) rfl rfl (ms_p_1146 h73c)) ?_
      refine v_aload_n hX dX13_takeExpression_86 (i := 0) rfl rfl ?_
      refine v_get hX (ci := 11) (k := 45) (ms_kx h73c) bc_11 (by decide) (by decide) in_11 w_6_21 dX13_takeExpression_87 (mvF (f := 1145) (v := iI f0) rfl rfl (by simp (disch := omega) only [y_I_s_I, x_I_s_I, z_I_s_J, z_I_s_A, z_I_s_B, e73_ls, e_a0, e_b0, e_f0])) ?_
      refine v_iload_n hX dX13_takeExpression_90 (i := 1) rfl rfl ?_
      refine u_iast hX (L := 9) (ms_k_1146 h73c) (ms_l_1146 h73c) ⟨by omega, by omega⟩ (by decide) dX13_takeExpression_91 ?_
      refine v_aload_n hX dX13_takeExpression_92 (i := 0) rfl rfl ?_
      refine v_get hX (ci := 11) (k := 47) (ms_kx (mS.sA h73c)) bc_11 (by decide) (by decide) in_11 w_6_23 dX13_takeExpression_93 (mvP (f := 1147) (q := (x + 31)) rfl rfl (ms_p_1147 (mS.sA h73c))) ?_
      refine v_aload_n hX dX13_takeExpression_96 (i := 0) rfl rfl ?_
      refine v_get hX (ci := 11) (k := 45) (ms_kx (mS.sA h73c)) bc_11 (by decide) (by decide) in_11 w_6_21 dX13_takeExpression_97 (mvF (f := 1145) (v := iI f0) rfl rfl (by simp (disch := omega) only [y_I_s_I, x_I_s_I, z_I_s_J, z_I_s_A, z_I_s_B, e73_ls, e_a0, e_b0, e_f0])) ?_
      refine v_aload_n hX dX13_takeExpression_100 (i := 0) rfl rfl ?_
      refine v_get hX (ci := 11) (k := 8) (ms_kx (mS.sA h73c)) bc_11 (by decide) (by decide) in_11 w_5_224 dX13_takeExpression_101 (mvF (f := 1108) (v := iI a0) rfl rfl (by simp (disch := omega) only [y_I_s_I, x_I_s_I, z_I_s_J, z_I_s_A, z_I_s_B, e73_ls, e_a0, e_b0, e_f0])) ?_
      refine u_iast hX (L := 9) (ms_k_1147 (mS.sA h73c)) (ms_l_1147 (mS.sA h73c)) ⟨by omega, by omega⟩ (by decide) dX13_takeExpression_104 ?_
      refine v_aload_n hX dX13_takeExpression_105 (i := 0) rfl rfl ?_
      refine v_dup hX dX13_takeExpression_106 rfl ?_
      refine v_get hX (ci := 11) (k := 45) (ms_kx (mS.sA (mS.sA h73c))) bc_11 (by decide) (by decide) in_11 w_6_21 dX13_takeExpression_107 (mvF (f := 1145) (v := iI f0) rfl rfl (by simp (disch := omega) only [y_I_s_I, x_I_s_I, z_I_s_J, z_I_s_A, z_I_s_B, e73_ls, e_a0, e_b0, e_f0])) ?_
      refine v_iconst hX (v := iI 1) dX13_takeExpression_110 rfl ?_
      refine u_iadd hX dX13_takeExpression_111 ?_
      refine v_putI hX (ci := 11) (k := 45) (f := 1145) (ms_kx (mS.sA (mS.sA h73c))) bc_11 (by decide) (by decide) in_11 tyX13_ok nmX13 w_6_21 (Or.inl rfl) rfl rfl dX13_takeExpression_112 rfl rfl ?_
      exact v_return hX hE dX13_takeExpression_115 (by omega) (by omega) ⟨rfl, (((fr73.sA (by decide)).sA (by decide)).sI (by decide)), a0, b0, (f0 + 1), rfl, (by simp (disch := omega) only [y_I_s_I, x_I_s_I, z_I_s_J, z_I_s_A, z_I_s_B, e73_ls, e_a0, e_b0, e_f0]), ⟨by omega, by omega⟩, (by simp (disch := omega) only [y_I_s_I, x_I_s_I, z_I_s_J, z_I_s_A, z_I_s_B, e73_ls, e_a0, e_b0, e_f0]), ⟨by omega, by omega⟩, (by simp (disch := omega) only [y_I_s_I, x_I_s_I, z_I_s_J, z_I_s_A, z_I_s_B, e73_ls, e_a0, e_b0, e_f0]), ⟨by omega, by omega⟩, (by omega), (fun g => p73_1 (by omega)), ⟨fun i g1 g2 => by simp (disch := omega) only [zr_I, zr_J, zr_B, rA_A, zl_I, zl_J, zl_A, lA_B, rA_x, p73_2, p73_3], fun g => by first | omega | simp (disch := omega) only [zr_I, zr_J, zr_B, rA_A, zl_I, zl_J, zl_A, lA_B, rA_y]⟩, ⟨fun i g1 g2 => by simp (disch := omega) only [zr_I, zr_J, zr_B, rA_A, zl_I, zl_J, zl_A, lA_B, rA_x, p73_2, p73_3], fun g => by first | omega | simp (disch := omega) only [zr_I, zr_J, zr_B, rA_A, zl_I, zl_J, zl_A, lA_B, rA_y]⟩⟩
  have L34 : ∀ (n34 : Nat) (S34c : b_M) (a0 : Int) (b0 : Int) (f0 : Int), mFr [1108, 1110, 1145] [] [30, 31] S S34c x → m_I S34c 1108 x = iI a0 → m_I S34c 1110 x = iI b0 → m_I S34c 1145 x = iI f0 → (-2147483648 ≤ a0 ∧ a0 < 2147483648) → (-2147483648 ≤ b0 ∧ b0 < 2147483648) → (-2147483648 ≤ f0 ∧ f0 < 2147483648) → (f0 = fo ∧ at_ ≤ a0 ∧ (a0 = at_ ∨ a0 ≤ ls) ∧ (b0 = 0 ∨ b0 = 1) ∧ (b0 = 0 → bd = 0)) → (b0 = 0 → nr S (x + 5) at_ a0) → (∀ i, rAt S34c (x + 30) i = rAt S (x + 30) i) → (∀ i, rAt S34c (x + 31) i = rAt S (x + 31) i) → (ls - a0).toNat = n34 → b_V X S34c z 0 0 34 [(1, .int (iI at_)), (0, .ref x)] [] := by
    intro n34
    induction n34 using Nat.strongRecOn with
    | _ n34 ih34 =>
    intro S34c a0 b0 f0 fr34 e_a0 e_b0 e_f0 b_a0 b_b0 b_f0 p34_0 p34_1 p34_2 p34_3 hm34
    have h34c : mS S34c x := fr34.keep h
    have hc34_5 : ∀ i, rAt S34c (x + 5) i = rAt S (x + 5) i := fun i => (fr34.1 (x + 5) (by omega) (by intro j hj; simp only [List.mem_cons, List.not_mem_nil, or_false] at hj; omega)).rA i
    have e34_ls : m_I S34c 1107 x = iI ls := (fr34.2.2.2.1 1107 (by decide)).trans e_ls
    refine v_aload_n hX dX13_takeExpression_34 (i := 0) rfl rfl ?_
    refine v_get hX (ci := 11) (k := 10) (ms_kx h34c) bc_11 (by decide) (by decide) in_11 w_5_226 dX13_takeExpression_35 (mvF (f := 1110) (v := iI b0) rfl rfl (by simp (disch := omega) only [y_I_s_I, x_I_s_I, z_I_s_J, z_I_s_A, z_I_s_B, e34_ls, e_a0, e_b0, e_f0])) ?_
    refine u_if_ne hX (tgt := 73) dX13_takeExpression_38 (by decide) ⟨by omega, by omega⟩ (fun h2_ => ?_) (fun h2_ => ?_)
    ·
      exact L73 _ a0 b0 f0 fr34 (by simp (disch := omega) only [y_I_s_I, x_I_s_I, z_I_s_J, z_I_s_A, z_I_s_B, e34_ls, e_a0, e_b0, e_f0]) (by simp (disch := omega) only [y_I_s_I, x_I_s_I, z_I_s_J, z_I_s_A, z_I_s_B, e34_ls, e_a0, e_b0, e_f0]) (by simp (disch := omega) only [y_I_s_I, x_I_s_I, z_I_s_J, z_I_s_A, z_I_s_B, e34_ls, e_a0, e_b0, e_f0]) ⟨by omega, by omega⟩ ⟨by omega, by omega⟩ ⟨by omega, by omega⟩ (by omega) (fun g => p34_1 (by omega)) (fun i => by simp (disch := omega) only [zr_I, zr_J, zr_B, rA_A, zl_I, zl_J, zl_A, lA_B, hc34_5, p34_2, p34_3]) (fun i => by simp (disch := omega) only [zr_I, zr_J, zr_B, rA_A, zl_I, zl_J, zl_A, lA_B, hc34_5, p34_2, p34_3])
    ·
      refine v_aload_n hX dX13_takeExpression_41 (i := 0) rfl rfl ?_
      refine v_callV hX (n := 0) (k_isSign (S := S34c) (x := x) (at_ := a0) (ls := ls) h34c (by simp (disch := omega) only [y_I_s_I, x_I_s_I, z_I_s_J, z_I_s_A, z_I_s_B, e34_ls, e_a0, e_b0, e_f0]) ⟨by omega, by omega⟩ (by simp (disch := omega) only [y_I_s_I, x_I_s_I, z_I_s_J, z_I_s_A, z_I_s_B, e34_ls, e_a0, e_b0, e_f0]) ⟨by omega, by omega⟩ (by omega)) (ms_kx h34c) bc_11 (by decide) w_7_122 w_7_124 (bw_p (q := (yX13_isSign, 72)) (List.mem_of_getElem? (i := 71) rfl) rfl) w_1_16 w_7_125 (by decide +kernel) rfl ⟨by decide, by decide⟩ ⟨by omega, by omega⟩ (Nat.le_of_ble_eq_true rfl) rfl dX13_takeExpression_42 (fun _ _ _ q => q) ?_
      rintro r3_ S3_ z3_ ⟨rfl, rfl, v4_, rfl, b_v4_, q3_⟩
      try simp (disch := omega) only [zr_I, zr_J, zr_B, rA_A, zl_I, zl_J, zl_A, lA_B, hc34_5] at q3_
      refine u_if_eq hX (tgt := 73) dX13_takeExpression_45 (by decide) ⟨by omega, by omega⟩ (fun h5_ => ?_) (fun h5_ => ?_)
      ·
        exact L73 _ a0 b0 f0 fr34 (by simp (disch := omega) only [y_I_s_I, x_I_s_I, z_I_s_J, z_I_s_A, z_I_s_B, e34_ls, e_a0, e_b0, e_f0]) (by simp (disch := omega) only [y_I_s_I, x_I_s_I, z_I_s_J, z_I_s_A, z_I_s_B, e34_ls, e_a0, e_b0, e_f0]) (by simp (disch := omega) only [y_I_s_I, x_I_s_I, z_I_s_J, z_I_s_A, z_I_s_B, e34_ls, e_a0, e_b0, e_f0]) ⟨by omega, by omega⟩ ⟨by omega, by omega⟩ ⟨by omega, by omega⟩ (by omega) (fun g => p34_1 (by omega)) (fun i => by simp (disch := omega) only [zr_I, zr_J, zr_B, rA_A, zl_I, zl_J, zl_A, lA_B, hc34_5, p34_2, p34_3]) (fun i => by simp (disch := omega) only [zr_I, zr_J, zr_B, rA_A, zl_I, zl_J, zl_A, lA_B, hc34_5, p34_2, p34_3])
      ·
        refine v_aload_n hX dX13_takeExpression_48 (i := 0) rfl rfl ?_
        refine v_dup hX dX13_takeExpression_49 rfl ?_
        refine v_get hX (ci := 11) (k := 8) (ms_kx h34c) bc_11 (by decide) (by decide) in_11 w_5_224 dX13_takeExpression_50 (mvF (f := 1108) (v := iI a0) rfl rfl (by simp (disch := omega) only [y_I_s_I, x_I_s_I, z_I_s_J, z_I_s_A, z_I_s_B, e34_ls, e_a0, e_b0, e_f0])) ?_
        refine v_iconst hX (v := iI 1) dX13_takeExpression_53 rfl ?_
        refine u_iadd hX dX13_takeExpression_54 ?_
        refine v_putI hX (ci := 11) (k := 8) (f := 1108) (ms_kx h34c) bc_11 (by decide) (by decide) in_11 tyX13_ok nmX13 w_5_224 (Or.inl rfl) rfl rfl dX13_takeExpression_55 rfl rfl ?_
        refine v_aload_n hX dX13_takeExpression_58 (i := 0) rfl rfl ?_
        refine v_callV hX (n := 0) (k_passBlanks (S := (s_I S34c 1108 x (iI (a0 + 1)))) (x := x) (at_ := (a0 + 1)) (ls := ls) (mS.sI h34c) (by simp (disch := omega) only [y_I_s_I, x_I_s_I, z_I_s_J, z_I_s_A, z_I_s_B, e34_ls, e_a0, e_b0, e_f0]) ⟨by omega, by omega⟩ (by simp (disch := omega) only [y_I_s_I, x_I_s_I, z_I_s_J, z_I_s_A, z_I_s_B, e34_ls, e_a0, e_b0, e_f0]) ⟨by omega, by omega⟩ (by omega)) (ms_kx (mS.sI h34c)) bc_11 (by decide) w_7_25 w_7_27 (bw_p (q := (yX13_passBlanks, 72)) (List.mem_of_getElem? (i := 50) rfl) rfl) w_1_16 w_7_28 (by decide +kernel) rfl ⟨by decide, by decide⟩ ⟨by omega, by omega⟩ (Nat.le_of_ble_eq_true rfl) rfl dX13_takeExpression_59 (fun _ _ _ q => q) ?_
        rintro r6_ S6_ z6_ ⟨rfl, f6_, v7_, rfl, e_v7_, b_v7_, q6_, q6_0⟩
        try simp (disch := omega) only [zr_I, zr_J, zr_B, rA_A, zl_I, zl_J, zl_A, lA_B, hc34_5] at q6_0
        have e6_1107 : m_I S6_ 1107 x = iI ls := (f6_.2.2.2.1 1107 (by decide)).trans (by simp (disch := omega) only [y_I_s_I, x_I_s_I, z_I_s_J, z_I_s_A, z_I_s_B, e34_ls, e_a0, e_b0, e_f0])
        have e6_1110 : m_I S6_ 1110 x = iI b0 := (f6_.2.2.2.1 1110 (by decide)).trans (by simp (disch := omega) only [y_I_s_I, x_I_s_I, z_I_s_J, z_I_s_A, z_I_s_B, e34_ls, e_a0, e_b0, e_f0])
        have e6_1145 : m_I S6_ 1145 x = iI f0 := (f6_.2.2.2.1 1145 (by decide)).trans (by simp (disch := omega) only [y_I_s_I, x_I_s_I, z_I_s_J, z_I_s_A, z_I_s_B, e34_ls, e_a0, e_b0, e_f0])
        have h6_ : mS S6_ x := f6_.keep (mS.sI h34c)
        have hc6_5 : ∀ i, rAt S6_ (x + 5) i = rAt S (x + 5) i := fun i => ((f6_.1 (x + 5) (by omega) (fun j hj => absurd hj List.not_mem_nil)).rA i).trans (by simp (disch := omega) only [zr_I, zr_J, zr_B, rA_A, zl_I, zl_J, zl_A, lA_B, hc34_5])
        have hc6_30 : ∀ i, rAt S6_ (x + 30) i = rAt S34c (x + 30) i := fun i => ((f6_.1 (x + 30) (by omega) (fun j hj => absurd hj List.not_mem_nil)).rA i).trans (by simp (disch := omega) only [zr_I, zr_J, zr_B, rA_A, zl_I, zl_J, zl_A, lA_B])
        have hc6_31 : ∀ i, rAt S6_ (x + 31) i = rAt S34c (x + 31) i := fun i => ((f6_.1 (x + 31) (by omega) (fun j hj => absurd hj List.not_mem_nil)).rA i).trans (by simp (disch := omega) only [zr_I, zr_J, zr_B, rA_A, zl_I, zl_J, zl_A, lA_B])
        refine v_aload_n hX dX13_takeExpression_62 (i := 0) rfl rfl ?_
        refine v_callV hX (n := 0) (k_passTerm (S := S6_) (x := x) (at_ := v7_) (ls := ls) (bd := b0) h6_ (by simp (disch := omega) only [y_I_s_I, x_I_s_I, z_I_s_J, z_I_s_A, z_I_s_B, e6_1107, e6_1110, e6_1145, e_v7_]) ⟨by omega, by omega⟩ (by simp (disch := omega) only [y_I_s_I, x_I_s_I, z_I_s_J, z_I_s_A, z_I_s_B, e6_1107, e6_1110, e6_1145, e_v7_]) ⟨by omega, by omega⟩ (by simp (disch := omega) only [y_I_s_I, x_I_s_I, z_I_s_J, z_I_s_A, z_I_s_B, e6_1107, e6_1110, e6_1145, e_v7_]) ⟨by omega, by omega⟩ (by omega)) (ms_kx h6_) bc_11 (by decide) w_7_126 w_7_128 (bw_p (q := (yX13_passTerm, 72)) (List.mem_of_getElem? (i := 72) rfl) rfl) w_1_16 w_7_129 (by decide +kernel) rfl ⟨by decide, by decide⟩ ⟨by omega, by omega⟩ (Nat.le_of_ble_eq_true rfl) rfl dX13_takeExpression_63 (fun _ _ _ q => q) ?_
        rintro r8_ S8_ z8_ ⟨rfl, f8_, v9_, v10_, rfl, e_v9_, b_v9_, e_v10_, b_v10_, q8_⟩
        have e8_1107 : m_I S8_ 1107 x = iI ls := (f8_.2.2.2.1 1107 (by decide)).trans (by simp (disch := omega) only [y_I_s_I, x_I_s_I, z_I_s_J, z_I_s_A, z_I_s_B, e6_1107, e6_1110, e6_1145, e_v7_])
        have e8_1145 : m_I S8_ 1145 x = iI f0 := (f8_.2.2.2.1 1145 (by decide)).trans (by simp (disch := omega) only [y_I_s_I, x_I_s_I, z_I_s_J, z_I_s_A, z_I_s_B, e6_1107, e6_1110, e6_1145, e_v7_])
        have h8_ : mS S8_ x := f8_.keep h6_
        have hc8_5 : ∀ i, rAt S8_ (x + 5) i = rAt S (x + 5) i := fun i => ((f8_.1 (x + 5) (by omega) (fun j hj => absurd hj List.not_mem_nil)).rA i).trans (hc6_5 i)
        have hc8_30 : ∀ i, rAt S8_ (x + 30) i = rAt S34c (x + 30) i := fun i => ((f8_.1 (x + 30) (by omega) (fun j hj => absurd hj List.not_mem_nil)).rA i).trans (hc6_30 i)
        have hc8_31 : ∀ i, rAt S8_ (x + 31) i = rAt S34c (x + 31) i := fun i => ((f8_.1 (x + 31) (by omega) (fun j hj => absurd hj List.not_mem_nil)).rA i).trans (hc6_31 i)
        refine v_aload_n hX dX13_takeExpression_66 (i := 0) rfl rfl ?_
        refine v_callV hX (n := 0) (k_passBlanks (S := S8_) (x := x) (at_ := v9_) (ls := ls) h8_ (by simp (disch := omega) only [y_I_s_I, x_I_s_I, z_I_s_J, z_I_s_A, z_I_s_B, e8_1107, e8_1145, e_v9_, e_v10_]) ⟨by omega, by omega⟩ (by simp (disch := omega) only [y_I_s_I, x_I_s_I, z_I_s_J, z_I_s_A, z_I_s_B, e8_1107, e8_1145, e_v9_, e_v10_]) ⟨by omega, by omega⟩ (by omega)) (ms_kx h8_) bc_11 (by decide) w_7_25 w_7_27 (bw_p (q := (yX13_passBlanks, 72)) (List.mem_of_getElem? (i := 50) rfl) rfl) w_1_16 w_7_28 (by decide +kernel) rfl ⟨by decide, by decide⟩ ⟨by omega, by omega⟩ (Nat.le_of_ble_eq_true rfl) rfl dX13_takeExpression_67 (fun _ _ _ q => q) ?_
        rintro r11_ S11_ z11_ ⟨rfl, f11_, v12_, rfl, e_v12_, b_v12_, q11_, q11_0⟩
        try simp (disch := omega) only [zr_I, zr_J, zr_B, rA_A, zl_I, zl_J, zl_A, lA_B, hc8_5, hc8_30, hc8_31] at q11_0
        have e11_1107 : m_I S11_ 1107 x = iI ls := (f11_.2.2.2.1 1107 (by decide)).trans (by simp (disch := omega) only [y_I_s_I, x_I_s_I, z_I_s_J, z_I_s_A, z_I_s_B, e8_1107, e8_1145, e_v9_, e_v10_])
        have e11_1145 : m_I S11_ 1145 x = iI f0 := (f11_.2.2.2.1 1145 (by decide)).trans (by simp (disch := omega) only [y_I_s_I, x_I_s_I, z_I_s_J, z_I_s_A, z_I_s_B, e8_1107, e8_1145, e_v9_, e_v10_])
        have e11_1110 : m_I S11_ 1110 x = iI v10_ := (f11_.2.2.2.1 1110 (by decide)).trans (by simp (disch := omega) only [y_I_s_I, x_I_s_I, z_I_s_J, z_I_s_A, z_I_s_B, e8_1107, e8_1145, e_v9_, e_v10_])
        have h11_ : mS S11_ x := f11_.keep h8_
        have hc11_5 : ∀ i, rAt S11_ (x + 5) i = rAt S (x + 5) i := fun i => ((f11_.1 (x + 5) (by omega) (fun j hj => absurd hj List.not_mem_nil)).rA i).trans (hc8_5 i)
        have hc11_30 : ∀ i, rAt S11_ (x + 30) i = rAt S34c (x + 30) i := fun i => ((f11_.1 (x + 30) (by omega) (fun j hj => absurd hj List.not_mem_nil)).rA i).trans (hc8_30 i)
        have hc11_31 : ∀ i, rAt S11_ (x + 31) i = rAt S34c (x + 31) i := fun i => ((f11_.1 (x + 31) (by omega) (fun j hj => absurd hj List.not_mem_nil)).rA i).trans (hc8_31 i)
        refine v_goto hX (tgt := 34) dX13_takeExpression_70 (by decide) ?_
        exact ih34 _ (by omega) _ v12_ v10_ f0 ((((fr34.sI (by decide)).tr (f6_.mono (by decide) (by decide) (by decide))).tr (f8_.mono (by decide) (by decide) (by decide))).tr (f11_.mono (by decide) (by decide) (by decide))) (by simp (disch := omega) only [y_I_s_I, x_I_s_I, z_I_s_J, z_I_s_A, z_I_s_B, e11_1107, e11_1145, e11_1110, e_v12_]) (by simp (disch := omega) only [y_I_s_I, x_I_s_I, z_I_s_J, z_I_s_A, z_I_s_B, e11_1107, e11_1145, e11_1110, e_v12_]) (by simp (disch := omega) only [y_I_s_I, x_I_s_I, z_I_s_J, z_I_s_A, z_I_s_B, e11_1107, e11_1145, e11_1110, e_v12_]) ⟨by omega, by omega⟩ ⟨by omega, by omega⟩ ⟨by omega, by omega⟩ (by omega) (fun g => nr_step (p34_1 (by omega)) (by unfold prt; omega) (by omega) q6_0 ⟨by omega, by omega⟩ (by omega) q11_0) (fun i => by simp (disch := omega) only [zr_I, zr_J, zr_B, rA_A, zl_I, zl_J, zl_A, lA_B, hc11_5, hc11_30, hc11_31, p34_2, p34_3]) (fun i => by simp (disch := omega) only [zr_I, zr_J, zr_B, rA_A, zl_I, zl_J, zl_A, lA_B, hc11_5, hc11_30, hc11_31, p34_2, p34_3]) rfl
  have L22 : ∀ (S22c : b_M) (a0 : Int) (b0 : Int) (f0 : Int), mFr [1108, 1110, 1145] [] [30, 31] S S22c x → m_I S22c 1108 x = iI a0 → m_I S22c 1110 x = iI b0 → m_I S22c 1145 x = iI f0 → (-2147483648 ≤ a0 ∧ a0 < 2147483648) → (-2147483648 ≤ b0 ∧ b0 < 2147483648) → (-2147483648 ≤ f0 ∧ f0 < 2147483648) → (b0 = bd ∧ f0 = fo ∧ (a0 = at_ ∨ (a0 = at_ + 1 ∧ at_ < ls ∧ (rAt S (x + 5) at_ = 43 ∨ rAt S (x + 5) at_ = 45)))) → (∀ i, rAt S22c (x + 30) i = rAt S (x + 30) i) → (∀ i, rAt S22c (x + 31) i = rAt S (x + 31) i) → b_V X S22c z 0 0 22 [(1, .int (iI at_)), (0, .ref x)] [] := by
    intro S22c a0 b0 f0 fr22 e_a0 e_b0 e_f0 b_a0 b_b0 b_f0 p22_0 p22_1 p22_2
    have h22c : mS S22c x := fr22.keep h
    have hc22_5 : ∀ i, rAt S22c (x + 5) i = rAt S (x + 5) i := fun i => (fr22.1 (x + 5) (by omega) (by intro j hj; simp only [List.mem_cons, List.not_mem_nil, or_false] at hj; omega)).rA i
    have e22_ls : m_I S22c 1107 x = iI ls := (fr22.2.2.2.1 1107 (by decide)).trans e_ls
    refine v_aload_n hX dX13_takeExpression_22 (i := 0) rfl rfl ?_
    refine v_callV hX (n := 0) (k_passBlanks (S := S22c) (x := x) (at_ := a0) (ls := ls) h22c (by simp (disch := omega) only [y_I_s_I, x_I_s_I, z_I_s_J, z_I_s_A, z_I_s_B, e22_ls, e_a0, e_b0, e_f0]) ⟨by omega, by omega⟩ (by simp (disch := omega) only [y_I_s_I, x_I_s_I, z_I_s_J, z_I_s_A, z_I_s_B, e22_ls, e_a0, e_b0, e_f0]) ⟨by omega, by omega⟩ (by omega)) (ms_kx h22c) bc_11 (by decide) w_7_25 w_7_27 (bw_p (q := (yX13_passBlanks, 72)) (List.mem_of_getElem? (i := 50) rfl) rfl) w_1_16 w_7_28 (by decide +kernel) rfl ⟨by decide, by decide⟩ ⟨by omega, by omega⟩ (Nat.le_of_ble_eq_true rfl) rfl dX13_takeExpression_23 (fun _ _ _ q => q) ?_
    rintro r13_ S13_ z13_ ⟨rfl, f13_, v14_, rfl, e_v14_, b_v14_, q13_, q13_0⟩
    try simp (disch := omega) only [zr_I, zr_J, zr_B, rA_A, zl_I, zl_J, zl_A, lA_B, hc22_5] at q13_0
    have e13_1107 : m_I S13_ 1107 x = iI ls := (f13_.2.2.2.1 1107 (by decide)).trans (by simp (disch := omega) only [y_I_s_I, x_I_s_I, z_I_s_J, z_I_s_A, z_I_s_B, e22_ls, e_a0, e_b0, e_f0])
    have e13_1110 : m_I S13_ 1110 x = iI b0 := (f13_.2.2.2.1 1110 (by decide)).trans (by simp (disch := omega) only [y_I_s_I, x_I_s_I, z_I_s_J, z_I_s_A, z_I_s_B, e22_ls, e_a0, e_b0, e_f0])
    have e13_1145 : m_I S13_ 1145 x = iI f0 := (f13_.2.2.2.1 1145 (by decide)).trans (by simp (disch := omega) only [y_I_s_I, x_I_s_I, z_I_s_J, z_I_s_A, z_I_s_B, e22_ls, e_a0, e_b0, e_f0])
    have h13_ : mS S13_ x := f13_.keep h22c
    have hc13_5 : ∀ i, rAt S13_ (x + 5) i = rAt S (x + 5) i := fun i => ((f13_.1 (x + 5) (by omega) (fun j hj => absurd hj List.not_mem_nil)).rA i).trans (hc22_5 i)
    have hc13_30 : ∀ i, rAt S13_ (x + 30) i = rAt S22c (x + 30) i := fun i => ((f13_.1 (x + 30) (by omega) (fun j hj => absurd hj List.not_mem_nil)).rA i).trans rfl
    have hc13_31 : ∀ i, rAt S13_ (x + 31) i = rAt S22c (x + 31) i := fun i => ((f13_.1 (x + 31) (by omega) (fun j hj => absurd hj List.not_mem_nil)).rA i).trans rfl
    refine v_aload_n hX dX13_takeExpression_26 (i := 0) rfl rfl ?_
    refine v_callV hX (n := 0) (k_passTerm (S := S13_) (x := x) (at_ := v14_) (ls := ls) (bd := b0) h13_ (by simp (disch := omega) only [y_I_s_I, x_I_s_I, z_I_s_J, z_I_s_A, z_I_s_B, e13_1107, e13_1110, e13_1145, e_v14_]) ⟨by omega, by omega⟩ (by simp (disch := omega) only [y_I_s_I, x_I_s_I, z_I_s_J, z_I_s_A, z_I_s_B, e13_1107, e13_1110, e13_1145, e_v14_]) ⟨by omega, by omega⟩ (by simp (disch := omega) only [y_I_s_I, x_I_s_I, z_I_s_J, z_I_s_A, z_I_s_B, e13_1107, e13_1110, e13_1145, e_v14_]) ⟨by omega, by omega⟩ (by omega)) (ms_kx h13_) bc_11 (by decide) w_7_126 w_7_128 (bw_p (q := (yX13_passTerm, 72)) (List.mem_of_getElem? (i := 72) rfl) rfl) w_1_16 w_7_129 (by decide +kernel) rfl ⟨by decide, by decide⟩ ⟨by omega, by omega⟩ (Nat.le_of_ble_eq_true rfl) rfl dX13_takeExpression_27 (fun _ _ _ q => q) ?_
    rintro r15_ S15_ z15_ ⟨rfl, f15_, v16_, v17_, rfl, e_v16_, b_v16_, e_v17_, b_v17_, q15_⟩
    have e15_1107 : m_I S15_ 1107 x = iI ls := (f15_.2.2.2.1 1107 (by decide)).trans (by simp (disch := omega) only [y_I_s_I, x_I_s_I, z_I_s_J, z_I_s_A, z_I_s_B, e13_1107, e13_1110, e13_1145, e_v14_])
    have e15_1145 : m_I S15_ 1145 x = iI f0 := (f15_.2.2.2.1 1145 (by decide)).trans (by simp (disch := omega) only [y_I_s_I, x_I_s_I, z_I_s_J, z_I_s_A, z_I_s_B, e13_1107, e13_1110, e13_1145, e_v14_])
    have h15_ : mS S15_ x := f15_.keep h13_
    have hc15_5 : ∀ i, rAt S15_ (x + 5) i = rAt S (x + 5) i := fun i => ((f15_.1 (x + 5) (by omega) (fun j hj => absurd hj List.not_mem_nil)).rA i).trans (hc13_5 i)
    have hc15_30 : ∀ i, rAt S15_ (x + 30) i = rAt S22c (x + 30) i := fun i => ((f15_.1 (x + 30) (by omega) (fun j hj => absurd hj List.not_mem_nil)).rA i).trans (hc13_30 i)
    have hc15_31 : ∀ i, rAt S15_ (x + 31) i = rAt S22c (x + 31) i := fun i => ((f15_.1 (x + 31) (by omega) (fun j hj => absurd hj List.not_mem_nil)).rA i).trans (hc13_31 i)
    refine v_aload_n hX dX13_takeExpression_30 (i := 0) rfl rfl ?_
    refine v_callV hX (n := 0) (k_passBlanks (S := S15_) (x := x) (at_ := v16_) (ls := ls) h15_ (by simp (disch := omega) only [y_I_s_I, x_I_s_I, z_I_s_J, z_I_s_A, z_I_s_B, e15_1107, e15_1145, e_v16_, e_v17_]) ⟨by omega, by omega⟩ (by simp (disch := omega) only [y_I_s_I, x_I_s_I, z_I_s_J, z_I_s_A, z_I_s_B, e15_1107, e15_1145, e_v16_, e_v17_]) ⟨by omega, by omega⟩ (by omega)) (ms_kx h15_) bc_11 (by decide) w_7_25 w_7_27 (bw_p (q := (yX13_passBlanks, 72)) (List.mem_of_getElem? (i := 50) rfl) rfl) w_1_16 w_7_28 (by decide +kernel) rfl ⟨by decide, by decide⟩ ⟨by omega, by omega⟩ (Nat.le_of_ble_eq_true rfl) rfl dX13_takeExpression_31 (fun _ _ _ q => q) ?_
    rintro r18_ S18_ z18_ ⟨rfl, f18_, v19_, rfl, e_v19_, b_v19_, q18_, q18_0⟩
    try simp (disch := omega) only [zr_I, zr_J, zr_B, rA_A, zl_I, zl_J, zl_A, lA_B, hc15_5, hc15_30, hc15_31] at q18_0
    have e18_1107 : m_I S18_ 1107 x = iI ls := (f18_.2.2.2.1 1107 (by decide)).trans (by simp (disch := omega) only [y_I_s_I, x_I_s_I, z_I_s_J, z_I_s_A, z_I_s_B, e15_1107, e15_1145, e_v16_, e_v17_])
    have e18_1145 : m_I S18_ 1145 x = iI f0 := (f18_.2.2.2.1 1145 (by decide)).trans (by simp (disch := omega) only [y_I_s_I, x_I_s_I, z_I_s_J, z_I_s_A, z_I_s_B, e15_1107, e15_1145, e_v16_, e_v17_])
    have e18_1110 : m_I S18_ 1110 x = iI v17_ := (f18_.2.2.2.1 1110 (by decide)).trans (by simp (disch := omega) only [y_I_s_I, x_I_s_I, z_I_s_J, z_I_s_A, z_I_s_B, e15_1107, e15_1145, e_v16_, e_v17_])
    have h18_ : mS S18_ x := f18_.keep h15_
    have hc18_5 : ∀ i, rAt S18_ (x + 5) i = rAt S (x + 5) i := fun i => ((f18_.1 (x + 5) (by omega) (fun j hj => absurd hj List.not_mem_nil)).rA i).trans (hc15_5 i)
    have hc18_30 : ∀ i, rAt S18_ (x + 30) i = rAt S22c (x + 30) i := fun i => ((f18_.1 (x + 30) (by omega) (fun j hj => absurd hj List.not_mem_nil)).rA i).trans (hc15_30 i)
    have hc18_31 : ∀ i, rAt S18_ (x + 31) i = rAt S22c (x + 31) i := fun i => ((f18_.1 (x + 31) (by omega) (fun j hj => absurd hj List.not_mem_nil)).rA i).trans (hc15_31 i)
    exact L34 _ _ v19_ v17_ f0 (((fr22.tr (f13_.mono (by decide) (by decide) (by decide))).tr (f15_.mono (by decide) (by decide) (by decide))).tr (f18_.mono (by decide) (by decide) (by decide))) (by simp (disch := omega) only [y_I_s_I, x_I_s_I, z_I_s_J, z_I_s_A, z_I_s_B, e18_1107, e18_1145, e18_1110, e_v19_]) (by simp (disch := omega) only [y_I_s_I, x_I_s_I, z_I_s_J, z_I_s_A, z_I_s_B, e18_1107, e18_1145, e18_1110, e_v19_]) (by simp (disch := omega) only [y_I_s_I, x_I_s_I, z_I_s_J, z_I_s_A, z_I_s_B, e18_1107, e18_1145, e18_1110, e_v19_]) ⟨by omega, by omega⟩ ⟨by omega, by omega⟩ ⟨by omega, by omega⟩ (by omega) (fun g => nr_first (s := a0) (by unfold prt; omega) (by omega) q13_0 ⟨by omega, by omega⟩ (by omega) q18_0) (fun i => by simp (disch := omega) only [zr_I, zr_J, zr_B, rA_A, zl_I, zl_J, zl_A, lA_B, hc18_5, hc18_30, hc18_31, p22_1, p22_2]) (fun i => by simp (disch := omega) only [zr_I, zr_J, zr_B, rA_A, zl_I, zl_J, zl_A, lA_B, hc18_5, hc18_30, hc18_31, p22_1, p22_2]) rfl
  change b_V X S z 0 0 0 [(0, .ref x)] []
  refine v_aload_n hX dX13_takeExpression_0 (i := 0) rfl rfl ?_
  refine v_get hX (ci := 11) (k := 8) (ms_kx h) bc_11 (by decide) (by decide) in_11 w_5_224 dX13_takeExpression_1 (mvF (f := 1108) (v := iI at_) rfl rfl (by simp (disch := omega) only [y_I_s_I, x_I_s_I, z_I_s_J, z_I_s_A, z_I_s_B, e_at_, e_ls, e_bd, e_fo])) ?_
  refine v_istore_n hX (lv' := [(1, .int (iI at_)), (0, .ref x)]) dX13_takeExpression_4 (i := 1) rfl (by rw [hnL]; decide) rfl ?_
  refine v_aload_n hX dX13_takeExpression_5 (i := 0) rfl rfl ?_
  refine v_callV hX (n := 0) (k_isSign (S := S) (x := x) (at_ := at_) (ls := ls) h (by simp (disch := omega) only [y_I_s_I, x_I_s_I, z_I_s_J, z_I_s_A, z_I_s_B, e_at_, e_ls, e_bd, e_fo]) ⟨by omega, by omega⟩ (by simp (disch := omega) only [y_I_s_I, x_I_s_I, z_I_s_J, z_I_s_A, z_I_s_B, e_at_, e_ls, e_bd, e_fo]) ⟨by omega, by omega⟩ (by omega)) (ms_kx h) bc_11 (by decide) w_7_122 w_7_124 (bw_p (q := (yX13_isSign, 72)) (List.mem_of_getElem? (i := 71) rfl) rfl) w_1_16 w_7_125 (by decide +kernel) rfl ⟨by decide, by decide⟩ ⟨by omega, by omega⟩ (Nat.le_of_ble_eq_true rfl) rfl dX13_takeExpression_6 (fun _ _ _ q => q) ?_
  rintro r20_ S20_ z20_ ⟨rfl, rfl, v21_, rfl, b_v21_, q20_⟩
  refine u_if_eq hX (tgt := 22) dX13_takeExpression_9 (by decide) ⟨by omega, by omega⟩ (fun h22_ => ?_) (fun h22_ => ?_)
  ·
    exact L22 _ at_ bd fo (mFr.rf _ _) (by simp (disch := omega) only [y_I_s_I, x_I_s_I, z_I_s_J, z_I_s_A, z_I_s_B, e_at_, e_ls, e_bd, e_fo]) (by simp (disch := omega) only [y_I_s_I, x_I_s_I, z_I_s_J, z_I_s_A, z_I_s_B, e_at_, e_ls, e_bd, e_fo]) (by simp (disch := omega) only [y_I_s_I, x_I_s_I, z_I_s_J, z_I_s_A, z_I_s_B, e_at_, e_ls, e_bd, e_fo]) ⟨by omega, by omega⟩ ⟨by omega, by omega⟩ ⟨by omega, by omega⟩ (by omega) (fun _ => rfl) (fun _ => rfl)
  ·
    refine v_aload_n hX dX13_takeExpression_12 (i := 0) rfl rfl ?_
    refine v_dup hX dX13_takeExpression_13 rfl ?_
    refine v_get hX (ci := 11) (k := 8) (ms_kx h) bc_11 (by decide) (by decide) in_11 w_5_224 dX13_takeExpression_14 (mvF (f := 1108) (v := iI at_) rfl rfl (by simp (disch := omega) only [y_I_s_I, x_I_s_I, z_I_s_J, z_I_s_A, z_I_s_B, e_at_, e_ls, e_bd, e_fo])) ?_
    refine v_iconst hX (v := iI 1) dX13_takeExpression_17 rfl ?_
    refine u_iadd hX dX13_takeExpression_18 ?_
    refine v_putI hX (ci := 11) (k := 8) (f := 1108) (ms_kx h) bc_11 (by decide) (by decide) in_11 tyX13_ok nmX13 w_5_224 (Or.inl rfl) rfl rfl dX13_takeExpression_19 rfl rfl ?_
    exact L22 _ (at_ + 1) bd fo ((mFr.rf _ _).sI (by decide)) (by simp (disch := omega) only [y_I_s_I, x_I_s_I, z_I_s_J, z_I_s_A, z_I_s_B, e_at_, e_ls, e_bd, e_fo]) (by simp (disch := omega) only [y_I_s_I, x_I_s_I, z_I_s_J, z_I_s_A, z_I_s_B, e_at_, e_ls, e_bd, e_fo]) (by simp (disch := omega) only [y_I_s_I, x_I_s_I, z_I_s_J, z_I_s_A, z_I_s_B, e_at_, e_ls, e_bd, e_fo]) ⟨by omega, by omega⟩ ⟨by omega, by omega⟩ ⟨by omega, by omega⟩ (by omega) (fun i => by simp (disch := omega) only [zr_I, zr_J, zr_B, rA_A, zl_I, zl_J, zl_A, lA_B]) (fun i => by simp (disch := omega) only [zr_I, zr_J, zr_B, rA_A, zl_I, zl_J, zl_A, lA_B])
set_option maxRecDepth 100000 in
set_option maxHeartbeats 4000000 in
theorem k_isEndLine {kn : Nat → Nat} {B : Nat} {S : b_M} {z x : Nat} {fr_ : Int} {to_ : Int} (h : mS S x) (b_fr_ : -2147483648 ≤ fr_ ∧ fr_ < 2147483648) (b_to_ : -2147483648 ≤ to_ ∧ to_ < 2147483648) (p : 0 ≤ fr_ ∧ fr_ ≤ 4200 ∧ to_ ≤ 4200) : b_C kn B yX13_isEndLine cX13_isEndLine 6 (some .boolean) 4 82 0 0 [.ref x, .int (iI fr_), .int (iI to_)] S z (fun r S' z' => z = z' ∧ S = S' ∧ ∃ q : Int, r = some (.int (iI q)) ∧ (-2147483648 ≤ q ∧ q < 2147483648) ∧ (q = 0 ∨ q = 1)) (fun _ _ _ => False) := by
  refine b_enter (by decide) (Nat.le_of_ble_eq_true rfl) ?_
  intro X hX hE hnL hkn hB hI_
  subst hkn; subst hB
  clear hI_
  have L233 : ∀ (i : Int) (bb : Int), (bb = 0 ∨ bb = 1) → b_V X S z 0 0 233 [(3, .int (iI i)), (0, .ref x), (1, .int (iI fr_)), (2, .int (iI to_))] [.int (iI bb)] := by
    intro i bb p233_0
    exact v_zreturn hX (nar_b (by omega)) hE dX13_isEndLine_233 (by omega) (by omega) ⟨rfl, rfl, bb, rfl, ⟨by omega, by omega⟩, (by omega)⟩
  have L188 : ∀ (i : Int) (bb : Int), (fr_ ≤ i ∧ (i = fr_ ∨ i ≤ to_) ∧ (bb = 0 ∨ (bb = 1 ∧ i + 4 ≤ to_))) → b_V X S z 0 0 188 [(3, .int (iI i)), (0, .ref x), (1, .int (iI fr_)), (2, .int (iI to_))] [.int (iI bb)] := by
    intro i bb p188_0
    refine v_istore hX (lv' := [(5, .int (iI bb)), (3, .int (iI i)), (0, .ref x), (1, .int (iI fr_)), (2, .int (iI to_))]) dX13_isEndLine_188 (by rw [hnL]; decide) rfl ?_
    refine v_iload hX dX13_isEndLine_190 rfl ?_
    refine u_if_eq hX (tgt := 232) dX13_isEndLine_192 (by decide) ⟨by omega, by omega⟩ (fun h1_ => ?_) (fun h1_ => ?_)
    ·
      refine v_iconst hX (v := iI 0) dX13_isEndLine_232 rfl ?_
      refine v_locals (lv' := [(3, .int (iI i)), (0, .ref x), (1, .int (iI fr_)), (2, .int (iI to_))]) (by simp) ?_
      exact L233 i 0 (by omega)
    ·
      refine v_iload_n hX dX13_isEndLine_195 (i := 3) rfl rfl ?_
      refine v_iconst hX (v := iI 4) dX13_isEndLine_196 rfl ?_
      refine u_iadd hX dX13_isEndLine_197 ?_
      refine v_iload_n hX dX13_isEndLine_198 (i := 2) rfl rfl ?_
      refine u_icmp_eq hX (tgt := 228) dX13_isEndLine_199 (by decide) ⟨by omega, by omega⟩ ⟨by omega, by omega⟩ (fun h2_ => ?_) (fun h2_ => ?_)
      ·
        refine v_iconst hX (v := iI 1) dX13_isEndLine_228 rfl ?_
        refine v_goto hX (tgt := 233) dX13_isEndLine_229 (by decide) ?_
        refine v_locals (lv' := [(3, .int (iI i)), (0, .ref x), (1, .int (iI fr_)), (2, .int (iI to_))]) (by simp) ?_
        exact L233 i 1 (by omega)
      ·
        refine v_aload_n hX dX13_isEndLine_202 (i := 0) rfl rfl ?_
        refine v_get hX (ci := 11) (k := 6) (ms_kx h) bc_11 (by decide) (by decide) in_11 w_5_222 dX13_isEndLine_203 (mvP (f := 1106) (q := (x + 4)) rfl rfl (ms_p_1106 h)) ?_
        refine v_iload_n hX dX13_isEndLine_206 (i := 3) rfl rfl ?_
        refine v_iconst hX (v := iI 4) dX13_isEndLine_207 rfl ?_
        refine u_iadd hX dX13_isEndLine_208 ?_
        refine u_iald hX (L := 4200) (ms_k_1106 h) (ms_l_1106 h) ⟨by omega, by omega⟩ (by decide) dX13_isEndLine_209 (fun v3_ e_v3_ b_v3_ => ?_)
        refine v_bipush hX (v := iI 32) dX13_isEndLine_210 (by decide) ?_
        refine u_icmp_eq hX (tgt := 228) dX13_isEndLine_212 (by decide) ⟨by omega, by omega⟩ ⟨by omega, by omega⟩ (fun h4_ => ?_) (fun h4_ => ?_)
        ·
          refine v_iconst hX (v := iI 1) dX13_isEndLine_228 rfl ?_
          refine v_goto hX (tgt := 233) dX13_isEndLine_229 (by decide) ?_
          refine v_locals (lv' := [(3, .int (iI i)), (0, .ref x), (1, .int (iI fr_)), (2, .int (iI to_))]) (by simp) ?_
          exact L233 i 1 (by omega)
        ·
          refine v_aload_n hX dX13_isEndLine_215 (i := 0) rfl rfl ?_
          refine v_get hX (ci := 11) (k := 6) (ms_kx h) bc_11 (by decide) (by decide) in_11 w_5_222 dX13_isEndLine_216 (mvP (f := 1106) (q := (x + 4)) rfl rfl (ms_p_1106 h)) ?_
          refine v_iload_n hX dX13_isEndLine_219 (i := 3) rfl rfl ?_
          refine v_iconst hX (v := iI 4) dX13_isEndLine_220 rfl ?_
          refine u_iadd hX dX13_isEndLine_221 ?_
          refine u_iald hX (L := 4200) (ms_k_1106 h) (ms_l_1106 h) ⟨by omega, by omega⟩ (by decide) dX13_isEndLine_222 (fun v5_ e_v5_ b_v5_ => ?_)
          refine v_bipush hX (v := iI 59) dX13_isEndLine_223 (by decide) ?_
          refine u_icmp_ne hX (tgt := 232) dX13_isEndLine_225 (by decide) ⟨by omega, by omega⟩ ⟨by omega, by omega⟩ (fun h6_ => ?_) (fun h6_ => ?_)
          ·
            refine v_iconst hX (v := iI 0) dX13_isEndLine_232 rfl ?_
            refine v_locals (lv' := [(3, .int (iI i)), (0, .ref x), (1, .int (iI fr_)), (2, .int (iI to_))]) (by simp) ?_
            exact L233 i 0 (by omega)
          ·
            refine v_iconst hX (v := iI 1) dX13_isEndLine_228 rfl ?_
            refine v_goto hX (tgt := 233) dX13_isEndLine_229 (by decide) ?_
            refine v_locals (lv' := [(3, .int (iI i)), (0, .ref x), (1, .int (iI fr_)), (2, .int (iI to_))]) (by simp) ?_
            exact L233 i 1 (by omega)
  have L126 : ∀ (i : Int), (fr_ ≤ i ∧ (i = fr_ ∨ i ≤ to_)) → b_V X S z 0 0 126 [(3, .int (iI i)), (0, .ref x), (1, .int (iI fr_)), (2, .int (iI to_))] [] := by
    intro i p126_0
    refine v_iload_n hX dX13_isEndLine_126 (i := 3) rfl rfl ?_
    refine v_iconst hX (v := iI 4) dX13_isEndLine_127 rfl ?_
    refine u_iadd hX dX13_isEndLine_128 ?_
    refine v_iload_n hX dX13_isEndLine_129 (i := 2) rfl rfl ?_
    refine u_icmp_gt hX (tgt := 187) dX13_isEndLine_130 (by decide) ⟨by omega, by omega⟩ ⟨by omega, by omega⟩ (fun h7_ => ?_) (fun h7_ => ?_)
    ·
      refine v_iconst hX (v := iI 0) dX13_isEndLine_187 rfl ?_
      exact L188 i 0 (by omega)
    ·
      refine v_aload_n hX dX13_isEndLine_133 (i := 0) rfl rfl ?_
      refine v_get hX (ci := 11) (k := 6) (ms_kx h) bc_11 (by decide) (by decide) in_11 w_5_222 dX13_isEndLine_134 (mvP (f := 1106) (q := (x + 4)) rfl rfl (ms_p_1106 h)) ?_
      refine v_iload_n hX dX13_isEndLine_137 (i := 3) rfl rfl ?_
      refine u_iald hX (L := 4200) (ms_k_1106 h) (ms_l_1106 h) ⟨by omega, by omega⟩ (by decide) dX13_isEndLine_138 (fun v8_ e_v8_ b_v8_ => ?_)
      refine v_bipush hX (v := iI 46) dX13_isEndLine_139 (by decide) ?_
      refine u_icmp_ne hX (tgt := 187) dX13_isEndLine_141 (by decide) ⟨by omega, by omega⟩ ⟨by omega, by omega⟩ (fun h9_ => ?_) (fun h9_ => ?_)
      ·
        refine v_iconst hX (v := iI 0) dX13_isEndLine_187 rfl ?_
        exact L188 i 0 (by omega)
      ·
        refine v_aload_n hX dX13_isEndLine_144 (i := 0) rfl rfl ?_
        refine v_get hX (ci := 11) (k := 6) (ms_kx h) bc_11 (by decide) (by decide) in_11 w_5_222 dX13_isEndLine_145 (mvP (f := 1106) (q := (x + 4)) rfl rfl (ms_p_1106 h)) ?_
        refine v_iload_n hX dX13_isEndLine_148 (i := 3) rfl rfl ?_
        refine v_iconst hX (v := iI 1) dX13_isEndLine_149 rfl ?_
        refine u_iadd hX dX13_isEndLine_150 ?_
        refine u_iald hX (L := 4200) (ms_k_1106 h) (ms_l_1106 h) ⟨by omega, by omega⟩ (by decide) dX13_isEndLine_151 (fun v10_ e_v10_ b_v10_ => ?_)
        refine v_bipush hX (v := iI 101) dX13_isEndLine_152 (by decide) ?_
        refine u_icmp_ne hX (tgt := 187) dX13_isEndLine_154 (by decide) ⟨by omega, by omega⟩ ⟨by omega, by omega⟩ (fun h11_ => ?_) (fun h11_ => ?_)
        ·
          refine v_iconst hX (v := iI 0) dX13_isEndLine_187 rfl ?_
          exact L188 i 0 (by omega)
        ·
          refine v_aload_n hX dX13_isEndLine_157 (i := 0) rfl rfl ?_
          refine v_get hX (ci := 11) (k := 6) (ms_kx h) bc_11 (by decide) (by decide) in_11 w_5_222 dX13_isEndLine_158 (mvP (f := 1106) (q := (x + 4)) rfl rfl (ms_p_1106 h)) ?_
          refine v_iload_n hX dX13_isEndLine_161 (i := 3) rfl rfl ?_
          refine v_iconst hX (v := iI 2) dX13_isEndLine_162 rfl ?_
          refine u_iadd hX dX13_isEndLine_163 ?_
          refine u_iald hX (L := 4200) (ms_k_1106 h) (ms_l_1106 h) ⟨by omega, by omega⟩ (by decide) dX13_isEndLine_164 (fun v12_ e_v12_ b_v12_ => ?_)
          refine v_bipush hX (v := iI 110) dX13_isEndLine_165 (by decide) ?_
          refine u_icmp_ne hX (tgt := 187) dX13_isEndLine_167 (by decide) ⟨by omega, by omega⟩ ⟨by omega, by omega⟩ (fun h13_ => ?_) (fun h13_ => ?_)
          ·
            refine v_iconst hX (v := iI 0) dX13_isEndLine_187 rfl ?_
            exact L188 i 0 (by omega)
          ·
            refine v_aload_n hX dX13_isEndLine_170 (i := 0) rfl rfl ?_
            refine v_get hX (ci := 11) (k := 6) (ms_kx h) bc_11 (by decide) (by decide) in_11 w_5_222 dX13_isEndLine_171 (mvP (f := 1106) (q := (x + 4)) rfl rfl (ms_p_1106 h)) ?_
            refine v_iload_n hX dX13_isEndLine_174 (i := 3) rfl rfl ?_
            refine v_iconst hX (v := iI 3) dX13_isEndLine_175 rfl ?_
            refine u_iadd hX dX13_isEndLine_176 ?_
            refine u_iald hX (L := 4200) (ms_k_1106 h) (ms_l_1106 h) ⟨by omega, by omega⟩ (by decide) dX13_isEndLine_177 (fun v14_ e_v14_ b_v14_ => ?_)
            refine v_bipush hX (v := iI 100) dX13_isEndLine_178 (by decide) ?_
            refine u_icmp_ne hX (tgt := 187) dX13_isEndLine_180 (by decide) ⟨by omega, by omega⟩ ⟨by omega, by omega⟩ (fun h15_ => ?_) (fun h15_ => ?_)
            ·
              refine v_iconst hX (v := iI 0) dX13_isEndLine_187 rfl ?_
              exact L188 i 0 (by omega)
            ·
              refine v_iconst hX (v := iI 1) dX13_isEndLine_183 rfl ?_
              refine v_goto hX (tgt := 188) dX13_isEndLine_184 (by decide) ?_
              exact L188 i 1 (by omega)
  have L104 : ∀ (n104 : Nat) (i : Int), (fr_ ≤ i ∧ (i = fr_ ∨ i ≤ to_)) → (to_ - i).toNat = n104 → b_V X S z 0 0 104 [(3, .int (iI i)), (0, .ref x), (1, .int (iI fr_)), (2, .int (iI to_))] [] := by
    intro n104
    induction n104 using Nat.strongRecOn with
    | _ n104 ih104 =>
    intro i p104_0 hm104
    refine v_iload_n hX dX13_isEndLine_104 (i := 3) rfl rfl ?_
    refine v_iload_n hX dX13_isEndLine_105 (i := 2) rfl rfl ?_
    refine u_icmp_ge hX (tgt := 126) dX13_isEndLine_106 (by decide) ⟨by omega, by omega⟩ ⟨by omega, by omega⟩ (fun h16_ => ?_) (fun h16_ => ?_)
    ·
      exact L126 i (by omega)
    ·
      refine v_aload_n hX dX13_isEndLine_109 (i := 0) rfl rfl ?_
      refine v_get hX (ci := 11) (k := 6) (ms_kx h) bc_11 (by decide) (by decide) in_11 w_5_222 dX13_isEndLine_110 (mvP (f := 1106) (q := (x + 4)) rfl rfl (ms_p_1106 h)) ?_
      refine v_iload_n hX dX13_isEndLine_113 (i := 3) rfl rfl ?_
      refine u_iald hX (L := 4200) (ms_k_1106 h) (ms_l_1106 h) ⟨by omega, by omega⟩ (by decide) dX13_isEndLine_114 (fun v17_ e_v17_ b_v17_ => ?_)
      refine v_bipush hX (v := iI 32) dX13_isEndLine_115 (by decide) ?_
      refine u_icmp_ne hX (tgt := 126) dX13_isEndLine_117 (by decide) ⟨by omega, by omega⟩ ⟨by omega, by omega⟩ (fun h18_ => ?_) (fun h18_ => ?_)
      ·
        exact L126 i (by omega)
      ·
        refine v_iinc hX (v := iI (i + 1)) (lv' := [(3, .int (iI (i + 1))), (0, .ref x), (1, .int (iI fr_)), (2, .int (iI to_))]) dX13_isEndLine_120 rfl (iI_add _ _) (by rw [hnL]; decide) rfl ?_
        refine v_goto hX (tgt := 104) dX13_isEndLine_123 (by decide) ?_
        exact ih104 _ (by omega) (i + 1) (by omega) rfl
  have L27 : ∀ (n27 : Nat) (k : Int) (i : Int), (fr_ ≤ i ∧ (i = fr_ ∨ i ≤ to_) ∧ i ≤ k ∧ (k = i ∨ k ≤ to_)) → (to_ - k).toNat = n27 → b_V X S z 0 0 27 [(4, .int (iI k)), (3, .int (iI i)), (0, .ref x), (1, .int (iI fr_)), (2, .int (iI to_))] [] := by
    intro n27
    induction n27 using Nat.strongRecOn with
    | _ n27 ih27 =>
    intro k i p27_0 hm27
    refine v_iload hX dX13_isEndLine_27 rfl ?_
    refine v_iload_n hX dX13_isEndLine_29 (i := 2) rfl rfl ?_
    refine u_icmp_ge hX (tgt := 52) dX13_isEndLine_30 (by decide) ⟨by omega, by omega⟩ ⟨by omega, by omega⟩ (fun h19_ => ?_) (fun h19_ => ?_)
    ·
      refine v_iload hX dX13_isEndLine_52 rfl ?_
      refine v_iload_n hX dX13_isEndLine_54 (i := 3) rfl rfl ?_
      refine u_icmp_le hX (tgt := 126) dX13_isEndLine_55 (by decide) ⟨by omega, by omega⟩ ⟨by omega, by omega⟩ (fun h20_ => ?_) (fun h20_ => ?_)
      ·
        refine v_locals (lv' := [(3, .int (iI i)), (0, .ref x), (1, .int (iI fr_)), (2, .int (iI to_))]) (by simp) ?_
        exact L126 i (by omega)
      ·
        refine v_aload_n hX dX13_isEndLine_58 (i := 0) rfl rfl ?_
        refine v_get hX (ci := 11) (k := 6) (ms_kx h) bc_11 (by decide) (by decide) in_11 w_5_222 dX13_isEndLine_59 (mvP (f := 1106) (q := (x + 4)) rfl rfl (ms_p_1106 h)) ?_
        refine v_iload_n hX dX13_isEndLine_62 (i := 3) rfl rfl ?_
        refine u_iald hX (L := 4200) (ms_k_1106 h) (ms_l_1106 h) ⟨by omega, by omega⟩ (by decide) dX13_isEndLine_63 (fun v21_ e_v21_ b_v21_ => ?_)
        refine v_callS hX (n := 1) (k_isStart (S := S) (x := 0) (c := v21_) ⟨by omega, by omega⟩) w_6_236 w_6_237 w_1_16 w_6_238 (by decide +kernel) rfl ⟨by decide, by decide⟩ ⟨by omega, by omega⟩ (Nat.le_of_ble_eq_true rfl) rfl dX13_isEndLine_64 (fun _ _ _ q => q) ?_
        rintro r22_ S22_ z22_ ⟨rfl, rfl, v23_, rfl, b_v23_, q22_⟩
        refine u_if_eq hX (tgt := 126) dX13_isEndLine_67 (by decide) ⟨by omega, by omega⟩ (fun h24_ => ?_) (fun h24_ => ?_)
        ·
          refine v_locals (lv' := [(3, .int (iI i)), (0, .ref x), (1, .int (iI fr_)), (2, .int (iI to_))]) (by simp) ?_
          exact L126 i (by omega)
        ·
          refine v_iload hX dX13_isEndLine_70 rfl ?_
          refine v_iload_n hX dX13_isEndLine_72 (i := 2) rfl rfl ?_
          refine u_icmp_ge hX (tgt := 126) dX13_isEndLine_73 (by decide) ⟨by omega, by omega⟩ ⟨by omega, by omega⟩ (fun h25_ => ?_) (fun h25_ => ?_)
          ·
            refine v_locals (lv' := [(3, .int (iI i)), (0, .ref x), (1, .int (iI fr_)), (2, .int (iI to_))]) (by simp) ?_
            exact L126 i (by omega)
          ·
            refine v_aload_n hX dX13_isEndLine_76 (i := 0) rfl rfl ?_
            refine v_get hX (ci := 11) (k := 6) (ms_kx h) bc_11 (by decide) (by decide) in_11 w_5_222 dX13_isEndLine_77 (mvP (f := 1106) (q := (x + 4)) rfl rfl (ms_p_1106 h)) ?_
            refine v_iload hX dX13_isEndLine_80 rfl ?_
            refine u_iald hX (L := 4200) (ms_k_1106 h) (ms_l_1106 h) ⟨by omega, by omega⟩ (by decide) dX13_isEndLine_82 (fun v26_ e_v26_ b_v26_ => ?_)
            refine v_bipush hX (v := iI 58) dX13_isEndLine_83 (by decide) ?_
            refine u_icmp_ne hX (tgt := 126) dX13_isEndLine_85 (by decide) ⟨by omega, by omega⟩ ⟨by omega, by omega⟩ (fun h27_ => ?_) (fun h27_ => ?_)
            ·
              refine v_locals (lv' := [(3, .int (iI i)), (0, .ref x), (1, .int (iI fr_)), (2, .int (iI to_))]) (by simp) ?_
              exact L126 i (by omega)
            ·
              refine v_iload hX dX13_isEndLine_88 rfl ?_
              refine v_iload_n hX dX13_isEndLine_90 (i := 3) rfl rfl ?_
              refine u_isub hX dX13_isEndLine_91 ?_
              refine v_bipush hX (v := iI 10) dX13_isEndLine_92 (by decide) ?_
              refine u_icmp_le hX (tgt := 99) dX13_isEndLine_94 (by decide) ⟨by omega, by omega⟩ ⟨by omega, by omega⟩ (fun h28_ => ?_) (fun h28_ => ?_)
              ·
                refine v_iload hX dX13_isEndLine_99 rfl ?_
                refine v_iconst hX (v := iI 1) dX13_isEndLine_101 rfl ?_
                refine u_iadd hX dX13_isEndLine_102 ?_
                refine v_istore_n hX (lv' := [(3, .int (iI (k + 1))), (4, .int (iI k)), (0, .ref x), (1, .int (iI fr_)), (2, .int (iI to_))]) dX13_isEndLine_103 (i := 3) rfl (by rw [hnL]; decide) rfl ?_
                refine v_locals (lv' := [(3, .int (iI (k + 1))), (0, .ref x), (1, .int (iI fr_)), (2, .int (iI to_))]) (by simp) ?_
                exact L104 _ (k + 1) (by omega) rfl
              ·
                refine v_iconst hX (v := iI 0) dX13_isEndLine_97 rfl ?_
                exact v_zreturn hX (nar_b (by omega)) hE dX13_isEndLine_98 (by omega) (by omega) ⟨rfl, rfl, 0, rfl, ⟨by omega, by omega⟩, (by omega)⟩
    ·
      refine v_aload_n hX dX13_isEndLine_33 (i := 0) rfl rfl ?_
      refine v_get hX (ci := 11) (k := 6) (ms_kx h) bc_11 (by decide) (by decide) in_11 w_5_222 dX13_isEndLine_34 (mvP (f := 1106) (q := (x + 4)) rfl rfl (ms_p_1106 h)) ?_
      refine v_iload hX dX13_isEndLine_37 rfl ?_
      refine u_iald hX (L := 4200) (ms_k_1106 h) (ms_l_1106 h) ⟨by omega, by omega⟩ (by decide) dX13_isEndLine_39 (fun v29_ e_v29_ b_v29_ => ?_)
      refine v_callS hX (n := 1) (k_isPart (S := S) (x := 0) (c := v29_) ⟨by omega, by omega⟩) w_6_233 w_6_234 w_1_16 w_6_235 (by decide +kernel) rfl ⟨by decide, by decide⟩ ⟨by omega, by omega⟩ (Nat.le_of_ble_eq_true rfl) rfl dX13_isEndLine_40 (fun _ _ _ q => q) ?_
      rintro r30_ S30_ z30_ ⟨rfl, rfl, v31_, rfl, b_v31_, q30_⟩
      refine u_if_eq hX (tgt := 52) dX13_isEndLine_43 (by decide) ⟨by omega, by omega⟩ (fun h32_ => ?_) (fun h32_ => ?_)
      ·
        refine v_iload hX dX13_isEndLine_52 rfl ?_
        refine v_iload_n hX dX13_isEndLine_54 (i := 3) rfl rfl ?_
        refine u_icmp_le hX (tgt := 126) dX13_isEndLine_55 (by decide) ⟨by omega, by omega⟩ ⟨by omega, by omega⟩ (fun h33_ => ?_) (fun h33_ => ?_)
        ·
          refine v_locals (lv' := [(3, .int (iI i)), (0, .ref x), (1, .int (iI fr_)), (2, .int (iI to_))]) (by simp) ?_
          exact L126 i (by omega)
        ·
          refine v_aload_n hX dX13_isEndLine_58 (i := 0) rfl rfl ?_
          refine v_get hX (ci := 11) (k := 6) (ms_kx h) bc_11 (by decide) (by decide) in_11 w_5_222 dX13_isEndLine_59 (mvP (f := 1106) (q := (x + 4)) rfl rfl (ms_p_1106 h)) ?_
          refine v_iload_n hX dX13_isEndLine_62 (i := 3) rfl rfl ?_
          refine u_iald hX (L := 4200) (ms_k_1106 h) (ms_l_1106 h) ⟨by omega, by omega⟩ (by decide) dX13_isEndLine_63 (fun v34_ e_v34_ b_v34_ => ?_)
          refine v_callS hX (n := 1) (k_isStart (S := S) (x := 0) (c := v34_) ⟨by omega, by omega⟩) w_6_236 w_6_237 w_1_16 w_6_238 (by decide +kernel) rfl ⟨by decide, by decide⟩ ⟨by omega, by omega⟩ (Nat.le_of_ble_eq_true rfl) rfl dX13_isEndLine_64 (fun _ _ _ q => q) ?_
          rintro r35_ S35_ z35_ ⟨rfl, rfl, v36_, rfl, b_v36_, q35_⟩
          refine u_if_eq hX (tgt := 126) dX13_isEndLine_67 (by decide) ⟨by omega, by omega⟩ (fun h37_ => ?_) (fun h37_ => ?_)
          ·
            refine v_locals (lv' := [(3, .int (iI i)), (0, .ref x), (1, .int (iI fr_)), (2, .int (iI to_))]) (by simp) ?_
            exact L126 i (by omega)
          ·
            refine v_iload hX dX13_isEndLine_70 rfl ?_
            refine v_iload_n hX dX13_isEndLine_72 (i := 2) rfl rfl ?_
            refine u_icmp_ge hX (tgt := 126) dX13_isEndLine_73 (by decide) ⟨by omega, by omega⟩ ⟨by omega, by omega⟩ (fun h38_ => ?_) (fun h38_ => ?_)
            ·
              refine v_locals (lv' := [(3, .int (iI i)), (0, .ref x), (1, .int (iI fr_)), (2, .int (iI to_))]) (by simp) ?_
              exact L126 i (by omega)
            ·
              refine v_aload_n hX dX13_isEndLine_76 (i := 0) rfl rfl ?_
              refine v_get hX (ci := 11) (k := 6) (ms_kx h) bc_11 (by decide) (by decide) in_11 w_5_222 dX13_isEndLine_77 (mvP (f := 1106) (q := (x + 4)) rfl rfl (ms_p_1106 h)) ?_
              refine v_iload hX dX13_isEndLine_80 rfl ?_
              refine u_iald hX (L := 4200) (ms_k_1106 h) (ms_l_1106 h) ⟨by omega, by omega⟩ (by decide) dX13_isEndLine_82 (fun v39_ e_v39_ b_v39_ => ?_)
              refine v_bipush hX (v := iI 58) dX13_isEndLine_83 (by decide) ?_
              refine u_icmp_ne hX (tgt := 126) dX13_isEndLine_85 (by decide) ⟨by omega, by omega⟩ ⟨by omega, by omega⟩ (fun h40_ => ?_) (fun h40_ => ?_)
              ·
                refine v_locals (lv' := [(3, .int (iI i)), (0, .ref x), (1, .int (iI fr_)), (2, .int (iI to_))]) (by simp) ?_
                exact L126 i (by omega)
              ·
                refine v_iload hX dX13_isEndLine_88 rfl ?_
                refine v_iload_n hX dX13_isEndLine_90 (i := 3) rfl rfl ?_
                refine u_isub hX dX13_isEndLine_91 ?_
                refine v_bipush hX (v := iI 10) dX13_isEndLine_92 (by decide) ?_
                refine u_icmp_le hX (tgt := 99) dX13_isEndLine_94 (by decide) ⟨by omega, by omega⟩ ⟨by omega, by omega⟩ (fun h41_ => ?_) (fun h41_ => ?_)
                ·
                  refine v_iload hX dX13_isEndLine_99 rfl ?_
                  refine v_iconst hX (v := iI 1) dX13_isEndLine_101 rfl ?_
                  refine u_iadd hX dX13_isEndLine_102 ?_
                  refine v_istore_n hX (lv' := [(3, .int (iI (k + 1))), (4, .int (iI k)), (0, .ref x), (1, .int (iI fr_)), (2, .int (iI to_))]) dX13_isEndLine_103 (i := 3) rfl (by rw [hnL]; decide) rfl ?_
                  refine v_locals (lv' := [(3, .int (iI (k + 1))), (0, .ref x), (1, .int (iI fr_)), (2, .int (iI to_))]) (by simp) ?_
                  exact L104 _ (k + 1) (by omega) rfl
                ·
                  refine v_iconst hX (v := iI 0) dX13_isEndLine_97 rfl ?_
                  exact v_zreturn hX (nar_b (by omega)) hE dX13_isEndLine_98 (by omega) (by omega) ⟨rfl, rfl, 0, rfl, ⟨by omega, by omega⟩, (by omega)⟩
      ·
        refine v_iinc hX (v := iI (k + 1)) (lv' := [(4, .int (iI (k + 1))), (3, .int (iI i)), (0, .ref x), (1, .int (iI fr_)), (2, .int (iI to_))]) dX13_isEndLine_46 rfl (iI_add _ _) (by rw [hnL]; decide) rfl ?_
        refine v_goto hX (tgt := 27) dX13_isEndLine_49 (by decide) ?_
        exact ih27 _ (by omega) (k + 1) i (by omega) rfl
  have L2 : ∀ (n2 : Nat) (i : Int), (fr_ ≤ i ∧ (i = fr_ ∨ i ≤ to_)) → (to_ - i).toNat = n2 → b_V X S z 0 0 2 [(3, .int (iI i)), (0, .ref x), (1, .int (iI fr_)), (2, .int (iI to_))] [] := by
    intro n2
    induction n2 using Nat.strongRecOn with
    | _ n2 ih2 =>
    intro i p2_0 hm2
    refine v_iload_n hX dX13_isEndLine_2 (i := 3) rfl rfl ?_
    refine v_iload_n hX dX13_isEndLine_3 (i := 2) rfl rfl ?_
    refine u_icmp_ge hX (tgt := 24) dX13_isEndLine_4 (by decide) ⟨by omega, by omega⟩ ⟨by omega, by omega⟩ (fun h42_ => ?_) (fun h42_ => ?_)
    ·
      refine v_iload_n hX dX13_isEndLine_24 (i := 3) rfl rfl ?_
      refine v_istore hX (lv' := [(4, .int (iI i)), (3, .int (iI i)), (0, .ref x), (1, .int (iI fr_)), (2, .int (iI to_))]) dX13_isEndLine_25 (by rw [hnL]; decide) rfl ?_
      exact L27 _ i i (by omega) rfl
    ·
      refine v_aload_n hX dX13_isEndLine_7 (i := 0) rfl rfl ?_
      refine v_get hX (ci := 11) (k := 6) (ms_kx h) bc_11 (by decide) (by decide) in_11 w_5_222 dX13_isEndLine_8 (mvP (f := 1106) (q := (x + 4)) rfl rfl (ms_p_1106 h)) ?_
      refine v_iload_n hX dX13_isEndLine_11 (i := 3) rfl rfl ?_
      refine u_iald hX (L := 4200) (ms_k_1106 h) (ms_l_1106 h) ⟨by omega, by omega⟩ (by decide) dX13_isEndLine_12 (fun v43_ e_v43_ b_v43_ => ?_)
      refine v_bipush hX (v := iI 32) dX13_isEndLine_13 (by decide) ?_
      refine u_icmp_ne hX (tgt := 24) dX13_isEndLine_15 (by decide) ⟨by omega, by omega⟩ ⟨by omega, by omega⟩ (fun h44_ => ?_) (fun h44_ => ?_)
      ·
        refine v_iload_n hX dX13_isEndLine_24 (i := 3) rfl rfl ?_
        refine v_istore hX (lv' := [(4, .int (iI i)), (3, .int (iI i)), (0, .ref x), (1, .int (iI fr_)), (2, .int (iI to_))]) dX13_isEndLine_25 (by rw [hnL]; decide) rfl ?_
        exact L27 _ i i (by omega) rfl
      ·
        refine v_iinc hX (v := iI (i + 1)) (lv' := [(3, .int (iI (i + 1))), (0, .ref x), (1, .int (iI fr_)), (2, .int (iI to_))]) dX13_isEndLine_18 rfl (iI_add _ _) (by rw [hnL]; decide) rfl ?_
        refine v_goto hX (tgt := 2) dX13_isEndLine_21 (by decide) ?_
        exact ih2 _ (by omega) (i + 1) (by omega) rfl
  change b_V X S z 0 0 0 [(0, .ref x), (1, .int (iI fr_)), (2, .int (iI to_))] []
  refine v_iload_n hX dX13_isEndLine_0 (i := 1) rfl rfl ?_
  refine v_istore_n hX (lv' := [(3, .int (iI fr_)), (0, .ref x), (1, .int (iI fr_)), (2, .int (iI to_))]) dX13_isEndLine_1 (i := 3) rfl (by rw [hnL]; decide) rfl ?_
  exact L2 _ fr_ (by omega) rfl
