theorem nr_copy {S S1 : b_M} {a b : Nat} {lo hi p q : Int} (h : nr S a lo hi) (e : q = p + (hi - lo)) (c : ∀ j : Int, 0 ≤ j → j < hi - lo → rAt S1 b (p + j) = rAt S a (lo + j)) : nr S1 b p q := by
  subst e
  intro k h1 h2
  obtain ⟨j, q1, q2, q3⟩ := h (lo + (k - p)) (by omega) (by omega)
  refine ⟨p + (j - lo), by omega, by omega, ?_⟩
  rw [c (j - lo) (by omega) (by omega), show lo + (j - lo) = j by omega]
  exact q3
theorem nr_keep {S S1 : b_M} {a : Nat} {lo hi lo1 hi1 : Int} (h : nr S a lo hi) (e1 : lo1 = lo) (e2 : hi1 = hi) (c : ∀ j : Int, lo ≤ j → j < hi → rAt S1 a j = rAt S a j) : nr S1 a lo1 hi1 := by
  subst e1; subst e2
  intro k h1 h2
  obtain ⟨j, q1, q2, q3⟩ := h k h1 h2
  exact ⟨j, q1, q2, by rw [c j (by omega) (by omega)]; exact q3⟩
/-- k of the fo pieces are kept as expressions from ex on, in the pool from ps on up to p0 -/
def kI (S S1 : b_M) (x : Nat) (sx ex fo ps k p0 : Int) : Prop := ((∀ i : Int, 0 ≤ i → i ≠ sx → rAt S1 (x + 22) i = rAt S (x + 22) i) ∧ rAt S1 (x + 22) sx = ex) ∧ ((∀ i : Int, 0 ≤ i → i ≠ sx → rAt S1 (x + 21) i = rAt S (x + 21) i) ∧ rAt S1 (x + 21) sx = fo) ∧ (∀ e : Int, ex ≤ e → e < ex + k → (ps ≤ rAt S1 (x + 27) e ∧ rAt S1 (x + 27) e ≤ rAt S1 (x + 28) e ∧ rAt S1 (x + 28) e ≤ p0) ∧ nr S1 (x + 29) (rAt S1 (x + 27) e) (rAt S1 (x + 28) e)) ∧ (∀ e : Int, 0 ≤ e → e < ex → rAt S1 (x + 27) e = rAt S (x + 27) e ∧ rAt S1 (x + 28) e = rAt S (x + 28) e) ∧ ∀ i : Int, 0 ≤ i → i < ps → rAt S1 (x + 29) i = rAt S (x + 29) i
theorem kI.step {S S1 S2 : b_M} {x : Nat} {sx ex fo ps k p0 k2 p2 : Int} {la : Nat} {lo hi : Int} (h : kI S S1 x sx ex fo ps k p0) (he : k2 = k + 1) (hb : 0 ≤ sx ∧ 0 ≤ ex ∧ 0 ≤ k ∧ 0 ≤ ps ∧ ps ≤ p0 ∧ p2 = p0 + (hi - lo) ∧ lo ≤ hi) (r1 : ∀ i, rAt S2 (x + 22) i = rAt S1 (x + 22) i) (r2 : ∀ i, rAt S2 (x + 21) i = rAt S1 (x + 21) i) (r3 : (∀ i : Int, 0 ≤ i → i ≠ ex + k → rAt S2 (x + 27) i = rAt S1 (x + 27) i) ∧ rAt S2 (x + 27) (ex + k) = p0) (r4 : (∀ i : Int, 0 ≤ i → i ≠ ex + k → rAt S2 (x + 28) i = rAt S1 (x + 28) i) ∧ rAt S2 (x + 28) (ex + k) = p2) (r5 : ∀ j : Int, 0 ≤ j → j < p0 → rAt S2 (x + 29) j = rAt S1 (x + 29) j) (r6 : ∀ j : Int, 0 ≤ j → j < hi - lo → rAt S2 (x + 29) (p0 + j) = rAt S la (lo + j)) (hn : nr S la lo hi) : kI S S2 x sx ex fo ps k2 p2 := by
  subst he
  obtain ⟨h1, h2, h3, h4, h5⟩ := h
  refine ⟨⟨fun i a b => (r1 i).trans (h1.1 i a b), (r1 sx).trans h1.2⟩, ⟨fun i a b => (r2 i).trans (h2.1 i a b), (r2 sx).trans h2.2⟩, fun e a b => ?_, fun e a b => ?_, fun i a b => (r5 i a (by omega)).trans (h5 i a b)⟩
  · rcases (show e < ex + k ∨ e = ex + k by omega) with q | q
    · rw [r3.1 e (by omega) (by omega), r4.1 e (by omega) (by omega)]
      have g := h3 e a q
      exact ⟨by omega, nr_keep g.2 rfl rfl (fun j u v => r5 j (by omega) (by omega))⟩
    · subst q
      rw [r3.2, r4.2]
      exact ⟨by omega, nr_copy hn (by omega) r6⟩
  · rw [r3.1 e a (by omega), r4.1 e a (by omega)]
    exact h4 e a b
set_option maxRecDepth 100000 in
set_option maxHeartbeats 4000000 in
theorem k_keepExpressions {kn : Nat → Nat} {B : Nat} {S : b_M} {z x : Nat} {sx : Int} {ex : Int} {fo : Int} {ps : Int} {lim : Int} (h : mS S x) (e_ex : m_I S 1140 x = iI ex) (b_ex : -2147483648 ≤ ex ∧ ex < 2147483648) (e_fo : m_I S 1145 x = iI fo) (b_fo : -2147483648 ≤ fo ∧ fo < 2147483648) (e_ps : m_I S 1141 x = iI ps) (b_ps : -2147483648 ≤ ps ∧ ps < 2147483648) (b_sx : -2147483648 ≤ sx ∧ sx < 2147483648) (fk : fOk S x fo lim) (fn : fNr S S x fo) (p : 0 ≤ sx ∧ sx < 400 ∧ 0 ≤ fo ∧ fo ≤ 8 ∧ 0 ≤ ex ∧ ex ≤ 3192 ∧ 0 ≤ ps ∧ ps + lim ≤ 59000 ∧ 0 ≤ lim ∧ lim ≤ 8400) : b_C kn B yX13_keepExpressions cX13_keepExpressions 4 none 0 0 0 0 [.ref x, .int (iI sx)] S z (fun r S' z' => z = z' ∧ mFr [1140, 1141] [] [22, 21, 27, 28, 29] S S' x ∧ ∃ e1 p1 : Int, r = none ∧ m_I S' 1140 x = iI e1 ∧ (-2147483648 ≤ e1 ∧ e1 < 2147483648) ∧ m_I S' 1141 x = iI p1 ∧ (-2147483648 ≤ p1 ∧ p1 < 2147483648) ∧ (e1 = ex + fo ∧ ps ≤ p1 ∧ p1 ≤ ps + lim) ∧ (kI S S' x sx ex fo ps fo p1)) (fun _ _ _ => False) := by
  refine b_enter (by decide) (Nat.le_of_ble_eq_true rfl) ?_
  intro X hX hE hnL hkn hB hI_
  subst hkn; subst hB
  clear hI_
  have L22 : ∀ (n22 : Nat) (S22c : b_M) (e0 : Int) (p0 : Int) (k : Int) (el : Int), mFr [1140, 1141] [] [22, 21, 27, 28, 29] S S22c x → m_I S22c 1140 x = iI e0 → m_I S22c 1141 x = iI p0 → (-2147483648 ≤ e0 ∧ e0 < 2147483648) → (-2147483648 ≤ p0 ∧ p0 < 2147483648) → (0 ≤ k ∧ k ≤ fo ∧ e0 = ex + k ∧ ps ≤ p0 ∧ p0 ≤ ps + el ∧ 0 ≤ el ∧ el ≤ lim) → (kI S S22c x sx ex fo ps k p0) → (k < fo → el ≤ rAt S (x + 30) k) → (fo - k).toNat = n22 → b_V X S22c z 0 0 22 [(2, .int (iI k)), (0, .ref x), (1, .int (iI sx))] [] := by
    intro n22
    induction n22 using Nat.strongRecOn with
    | _ n22 ih22 =>
    intro S22c e0 p0 k el fr22 e_e0 e_p0 b_e0 b_p0 p22_0 p22_1 p22_2 hm22
    have h22c : mS S22c x := fr22.keep h
    have hc22_5 : ∀ i, rAt S22c (x + 5) i = rAt S (x + 5) i := fun i => (fr22.1 (x + 5) (by omega) (by intro j hj; simp only [List.mem_cons, List.not_mem_nil, or_false] at hj; omega)).rA i
    have hc22_30 : ∀ i, rAt S22c (x + 30) i = rAt S (x + 30) i := fun i => (fr22.1 (x + 30) (by omega) (by intro j hj; simp only [List.mem_cons, List.not_mem_nil, or_false] at hj; omega)).rA i
    have hc22_31 : ∀ i, rAt S22c (x + 31) i = rAt S (x + 31) i := fun i => (fr22.1 (x + 31) (by omega) (by intro j hj; simp only [List.mem_cons, List.not_mem_nil, or_false] at hj; omega)).rA i
    have e22_fo : m_I S22c 1145 x = iI fo := (fr22.2.2.2.1 1145 (by decide)).trans e_fo
    have L50 : ∀ (n50 : Nat) (S50c : b_M) (e2 : Int) (p2 : Int) (i : Int), mFr [1140, 1141] [] [22, 21, 27, 28, 29] S S50c x → m_I S50c 1140 x = iI e2 → m_I S50c 1141 x = iI p2 → (-2147483648 ≤ e2 ∧ e2 < 2147483648) → (-2147483648 ≤ p2 ∧ p2 < 2147483648) → (e2 = e0 ∧ k < fo ∧ rAt S (x + 30) k ≤ i ∧ i ≤ rAt S (x + 31) k ∧ p2 = p0 + (i - rAt S (x + 30) k) ∧ el ≤ rAt S (x + 30) k) → (∀ i, rAt S50c (x + 22) i = rAt S22c (x + 22) i) → (∀ i, rAt S50c (x + 21) i = rAt S22c (x + 21) i) → ((∀ i : Int, 0 ≤ i → i ≠ e0 → rAt S50c (x + 27) i = rAt S22c (x + 27) i) ∧ rAt S50c (x + 27) e0 = p0) → (∀ i, rAt S50c (x + 28) i = rAt S22c (x + 28) i) → (∀ j : Int, 0 ≤ j → j < p0 → rAt S50c (x + 29) j = rAt S22c (x + 29) j) → (∀ j : Int, 0 ≤ j → j < i - rAt S (x + 30) k → rAt S50c (x + 29) (p0 + j) = rAt S (x + 5) (rAt S (x + 30) k + j)) → (rAt S (x + 31) k - i).toNat = n50 → b_V X S50c z 0 0 50 [(3, .int (iI i)), (2, .int (iI k)), (0, .ref x), (1, .int (iI sx))] [] := by
      intro n50
      induction n50 using Nat.strongRecOn with
      | _ n50 ih50 =>
      intro S50c e2 p2 i fr50 e_e2 e_p2 b_e2 b_p2 p50_0 p50_1 p50_2 p50_3 p50_4 p50_5 p50_6 hm50
      have h50c : mS S50c x := fr50.keep h
      have hc50_5 : ∀ i, rAt S50c (x + 5) i = rAt S (x + 5) i := fun i => (fr50.1 (x + 5) (by omega) (by intro j hj; simp only [List.mem_cons, List.not_mem_nil, or_false] at hj; omega)).rA i
      have hc50_30 : ∀ i, rAt S50c (x + 30) i = rAt S (x + 30) i := fun i => (fr50.1 (x + 30) (by omega) (by intro j hj; simp only [List.mem_cons, List.not_mem_nil, or_false] at hj; omega)).rA i
      have hc50_31 : ∀ i, rAt S50c (x + 31) i = rAt S (x + 31) i := fun i => (fr50.1 (x + 31) (by omega) (by intro j hj; simp only [List.mem_cons, List.not_mem_nil, or_false] at hj; omega)).rA i
      have e50_fo : m_I S50c 1145 x = iI fo := (fr50.2.2.2.1 1145 (by decide)).trans e_fo
      refine v_iload_n hX dX13_keepExpressions_50 (i := 3) rfl rfl ?_
      refine v_aload_n hX dX13_keepExpressions_51 (i := 0) rfl rfl ?_
      refine v_get hX (ci := 11) (k := 47) (ms_kx h50c) bc_11 (by decide) (by decide) in_11 w_6_23 dX13_keepExpressions_52 (mvP (f := 1147) (q := (x + 31)) rfl rfl (ms_p_1147 h50c)) ?_
      refine v_iload_n hX dX13_keepExpressions_55 (i := 2) rfl rfl ?_
      refine u_iald hX (L := 9) (ms_k_1147 h50c) (ms_l_1147 h50c) ⟨by omega, by omega⟩ (by decide) dX13_keepExpressions_56 (fun v1_ e_v1_ b_v1_ => ?_)
      try simp (disch := omega) only [zr_I, zr_J, zr_B, rA_A, zl_I, zl_J, zl_A, lA_B, hc50_5, hc50_30, hc50_31] at e_v1_
      have fq_ := fk.1 k (by omega) (by omega)
      refine u_icmp_ge hX (tgt := 91) dX13_keepExpressions_57 (by decide) ⟨by omega, by omega⟩ ⟨by omega, by omega⟩ (fun h2_ => ?_) (fun h2_ => ?_)
      ·
        have fq_ := fk.1 k (by omega) (by omega)
        refine v_aload_n hX dX13_keepExpressions_91 (i := 0) rfl rfl ?_
        refine v_get hX (ci := 11) (k := 43) (ms_kx h50c) bc_11 (by decide) (by decide) in_11 w_6_19 dX13_keepExpressions_92 (mvP (f := 1143) (q := (x + 28)) rfl rfl (ms_p_1143 h50c)) ?_
        refine v_aload_n hX dX13_keepExpressions_95 (i := 0) rfl rfl ?_
        refine v_get hX (ci := 11) (k := 40) (ms_kx h50c) bc_11 (by decide) (by decide) in_11 w_6_16 dX13_keepExpressions_96 (mvF (f := 1140) (v := iI e2) rfl rfl (by simp (disch := omega) only [y_I_s_I, x_I_s_I, z_I_s_J, z_I_s_A, z_I_s_B, e50_fo, e_e2, e_p2])) ?_
        refine v_aload_n hX dX13_keepExpressions_99 (i := 0) rfl rfl ?_
        refine v_get hX (ci := 11) (k := 41) (ms_kx h50c) bc_11 (by decide) (by decide) in_11 w_6_17 dX13_keepExpressions_100 (mvF (f := 1141) (v := iI p2) rfl rfl (by simp (disch := omega) only [y_I_s_I, x_I_s_I, z_I_s_J, z_I_s_A, z_I_s_B, e50_fo, e_e2, e_p2])) ?_
        refine u_iast hX (L := 3200) (ms_k_1143 h50c) (ms_l_1143 h50c) ⟨by omega, by omega⟩ (by decide) dX13_keepExpressions_103 ?_
        refine v_aload_n hX dX13_keepExpressions_104 (i := 0) rfl rfl ?_
        refine v_dup hX dX13_keepExpressions_105 rfl ?_
        refine v_get hX (ci := 11) (k := 40) (ms_kx (mS.sA h50c)) bc_11 (by decide) (by decide) in_11 w_6_16 dX13_keepExpressions_106 (mvF (f := 1140) (v := iI e2) rfl rfl (by simp (disch := omega) only [y_I_s_I, x_I_s_I, z_I_s_J, z_I_s_A, z_I_s_B, e50_fo, e_e2, e_p2])) ?_
        refine v_iconst hX (v := iI 1) dX13_keepExpressions_109 rfl ?_
        refine u_iadd hX dX13_keepExpressions_110 ?_
        refine v_putI hX (ci := 11) (k := 40) (f := 1140) (ms_kx (mS.sA h50c)) bc_11 (by decide) (by decide) in_11 tyX13_ok nmX13 w_6_16 (Or.inl rfl) rfl rfl dX13_keepExpressions_111 rfl rfl ?_
        refine v_iinc hX (v := iI (k + 1)) (lv' := [(2, .int (iI (k + 1))), (3, .int (iI i)), (0, .ref x), (1, .int (iI sx))]) dX13_keepExpressions_114 rfl (iI_add _ _) (by rw [hnL]; decide) rfl ?_
        refine v_goto hX (tgt := 22) dX13_keepExpressions_117 (by decide) ?_
        refine v_locals (lv' := [(2, .int (iI (k + 1))), (0, .ref x), (1, .int (iI sx))]) (by simp) ?_
        exact ih22 _ (by omega) _ (e2 + 1) p2 (k + 1) (rAt S (x + 31) k) ((fr50.sA (by decide)).sI (by decide)) (by simp (disch := omega) only [y_I_s_I, x_I_s_I, z_I_s_J, z_I_s_A, z_I_s_B, e50_fo, e_e2, e_p2]) (by simp (disch := omega) only [y_I_s_I, x_I_s_I, z_I_s_J, z_I_s_A, z_I_s_B, e50_fo, e_e2, e_p2]) ⟨by omega, by omega⟩ ⟨by omega, by omega⟩ (by omega) (kI.step p22_1 (by omega) (by omega) (fun i => (by simp (disch := omega) only [zr_I, zr_J, zr_B, rA_A, zl_I, zl_J, zl_A, lA_B, p50_1])) (fun i => (by simp (disch := omega) only [zr_I, zr_J, zr_B, rA_A, zl_I, zl_J, zl_A, lA_B, p50_2])) ⟨fun i g1 g2 => by simp (disch := omega) only [zr_I, zr_J, zr_B, rA_A, zl_I, zl_J, zl_A, lA_B, p50_3.1], by rw [show ex + k = e0 by omega]; simp (disch := omega) only [zr_I, zr_J, zr_B, rA_A, zl_I, zl_J, zl_A, lA_B, p50_3.2]⟩ ⟨fun i g1 g2 => by simp (disch := omega) only [zr_I, zr_J, zr_B, rA_A, zl_I, zl_J, zl_A, lA_B, rA_x, p50_4], by simp (disch := omega) only [zr_I, zr_J, zr_B, rA_A, zl_I, zl_J, zl_A, lA_B, rA_y]⟩ (fun j g1 g2 => by simp (disch := omega) only [zr_I, zr_J, zr_B, rA_A, zl_I, zl_J, zl_A, lA_B]; exact p50_5 j g1 g2) (fun j g1 g2 => by simp (disch := omega) only [zr_I, zr_J, zr_B, rA_A, zl_I, zl_J, zl_A, lA_B]; exact p50_6 j g1 (by omega)) (fn k (by omega) (by omega))) (fun g => fk.2 k (by omega) (by omega)) rfl
      ·
        refine v_aload_n hX dX13_keepExpressions_60 (i := 0) rfl rfl ?_
        refine v_get hX (ci := 11) (k := 44) (ms_kx h50c) bc_11 (by decide) (by decide) in_11 w_6_20 dX13_keepExpressions_61 (mvP (f := 1144) (q := (x + 29)) rfl rfl (ms_p_1144 h50c)) ?_
        refine v_aload_n hX dX13_keepExpressions_64 (i := 0) rfl rfl ?_
        refine v_get hX (ci := 11) (k := 41) (ms_kx h50c) bc_11 (by decide) (by decide) in_11 w_6_17 dX13_keepExpressions_65 (mvF (f := 1141) (v := iI p2) rfl rfl (by simp (disch := omega) only [y_I_s_I, x_I_s_I, z_I_s_J, z_I_s_A, z_I_s_B, e50_fo, e_e2, e_p2])) ?_
        refine v_aload_n hX dX13_keepExpressions_68 (i := 0) rfl rfl ?_
        refine v_get hX (ci := 11) (k := 11) (ms_kx h50c) bc_11 (by decide) (by decide) in_11 w_5_227 dX13_keepExpressions_69 (mvP (f := 1111) (q := (x + 5)) rfl rfl (ms_p_1111 h50c)) ?_
        refine v_iload_n hX dX13_keepExpressions_72 (i := 3) rfl rfl ?_
        refine u_iald hX (L := 8400) (ms_k_1111 h50c) (ms_l_1111 h50c) ⟨by omega, by omega⟩ (by decide) dX13_keepExpressions_73 (fun v3_ e_v3_ b_v3_ => ?_)
        try simp (disch := omega) only [zr_I, zr_J, zr_B, rA_A, zl_I, zl_J, zl_A, lA_B, hc50_5, hc50_30, hc50_31] at e_v3_
        refine u_iast hX (L := 60000) (ms_k_1144 h50c) (ms_l_1144 h50c) ⟨by omega, by omega⟩ (by decide) dX13_keepExpressions_74 ?_
        refine v_aload_n hX dX13_keepExpressions_75 (i := 0) rfl rfl ?_
        refine v_dup hX dX13_keepExpressions_76 rfl ?_
        refine v_get hX (ci := 11) (k := 41) (ms_kx (mS.sA h50c)) bc_11 (by decide) (by decide) in_11 w_6_17 dX13_keepExpressions_77 (mvF (f := 1141) (v := iI p2) rfl rfl (by simp (disch := omega) only [y_I_s_I, x_I_s_I, z_I_s_J, z_I_s_A, z_I_s_B, e50_fo, e_e2, e_p2])) ?_
        refine v_iconst hX (v := iI 1) dX13_keepExpressions_80 rfl ?_
        refine u_iadd hX dX13_keepExpressions_81 ?_
        refine v_putI hX (ci := 11) (k := 41) (f := 1141) (ms_kx (mS.sA h50c)) bc_11 (by decide) (by decide) in_11 tyX13_ok nmX13 w_6_17 (Or.inl rfl) rfl rfl dX13_keepExpressions_82 rfl rfl ?_
        refine v_iinc hX (v := iI (i + 1)) (lv' := [(3, .int (iI (i + 1))), (2, .int (iI k)), (0, .ref x), (1, .int (iI sx))]) dX13_keepExpressions_85 rfl (iI_add _ _) (by rw [hnL]; decide) rfl ?_
        refine v_goto hX (tgt := 50) dX13_keepExpressions_88 (by decide) ?_
        exact ih50 _ (by omega) _ e2 (p2 + 1) (i + 1) ((fr50.sA (by decide)).sI (by decide)) (by simp (disch := omega) only [y_I_s_I, x_I_s_I, z_I_s_J, z_I_s_A, z_I_s_B, e50_fo, e_e2, e_p2]) (by simp (disch := omega) only [y_I_s_I, x_I_s_I, z_I_s_J, z_I_s_A, z_I_s_B, e50_fo, e_e2, e_p2]) ⟨by omega, by omega⟩ ⟨by omega, by omega⟩ (by omega) (fun i => by simp (disch := omega) only [zr_I, zr_J, zr_B, rA_A, zl_I, zl_J, zl_A, lA_B, p50_1]) (fun i => by simp (disch := omega) only [zr_I, zr_J, zr_B, rA_A, zl_I, zl_J, zl_A, lA_B, p50_2]) ⟨fun i g1 g2 => by simp (disch := omega) only [zr_I, zr_J, zr_B, rA_A, zl_I, zl_J, zl_A, lA_B, p50_3.1], by simp (disch := omega) only [zr_I, zr_J, zr_B, rA_A, zl_I, zl_J, zl_A, lA_B, p50_3.2]⟩ (fun i => by simp (disch := omega) only [zr_I, zr_J, zr_B, rA_A, zl_I, zl_J, zl_A, lA_B, p50_4]) (fun j g1 g2 => by simp (disch := omega) only [zr_I, zr_J, zr_B, rA_A, zl_I, zl_J, zl_A, lA_B, rA_x]; exact p50_5 j g1 g2) (fun j g1 g2 => by rcases (show j < i - rAt S (x + 30) k ∨ j = i - rAt S (x + 30) k by omega) with g | g; (simp (disch := omega) only [zr_I, zr_J, zr_B, rA_A, zl_I, zl_J, zl_A, lA_B, rA_x]; exact p50_6 j g1 g); (rw [g, show rAt S (x + 30) k + (i - rAt S (x + 30) k) = i by omega]; simp (disch := omega) only [zr_I, zr_J, zr_B, rA_A, zl_I, zl_J, zl_A, lA_B, rA_y]; omega)) rfl
    refine v_iload_n hX dX13_keepExpressions_22 (i := 2) rfl rfl ?_
    refine v_aload_n hX dX13_keepExpressions_23 (i := 0) rfl rfl ?_
    refine v_get hX (ci := 11) (k := 45) (ms_kx h22c) bc_11 (by decide) (by decide) in_11 w_6_21 dX13_keepExpressions_24 (mvF (f := 1145) (v := iI fo) rfl rfl (by simp (disch := omega) only [y_I_s_I, x_I_s_I, z_I_s_J, z_I_s_A, z_I_s_B, e22_fo, e_e0, e_p0])) ?_
    refine u_icmp_ge hX (tgt := 120) dX13_keepExpressions_27 (by decide) ⟨by omega, by omega⟩ ⟨by omega, by omega⟩ (fun h4_ => ?_) (fun h4_ => ?_)
    ·
      exact v_return hX hE dX13_keepExpressions_120 (by omega) (by omega) ⟨rfl, fr22, e0, p0, rfl, (by simp (disch := omega) only [y_I_s_I, x_I_s_I, z_I_s_J, z_I_s_A, z_I_s_B, e22_fo, e_e0, e_p0]), ⟨by omega, by omega⟩, (by simp (disch := omega) only [y_I_s_I, x_I_s_I, z_I_s_J, z_I_s_A, z_I_s_B, e22_fo, e_e0, e_p0]), ⟨by omega, by omega⟩, (by omega), (by rw [show fo = k by omega] at p22_1 ⊢; exact p22_1)⟩
    ·
      refine v_aload_n hX dX13_keepExpressions_30 (i := 0) rfl rfl ?_
      refine v_get hX (ci := 11) (k := 42) (ms_kx h22c) bc_11 (by decide) (by decide) in_11 w_6_18 dX13_keepExpressions_31 (mvP (f := 1142) (q := (x + 27)) rfl rfl (ms_p_1142 h22c)) ?_
      refine v_aload_n hX dX13_keepExpressions_34 (i := 0) rfl rfl ?_
      refine v_get hX (ci := 11) (k := 40) (ms_kx h22c) bc_11 (by decide) (by decide) in_11 w_6_16 dX13_keepExpressions_35 (mvF (f := 1140) (v := iI e0) rfl rfl (by simp (disch := omega) only [y_I_s_I, x_I_s_I, z_I_s_J, z_I_s_A, z_I_s_B, e22_fo, e_e0, e_p0])) ?_
      refine v_aload_n hX dX13_keepExpressions_38 (i := 0) rfl rfl ?_
      refine v_get hX (ci := 11) (k := 41) (ms_kx h22c) bc_11 (by decide) (by decide) in_11 w_6_17 dX13_keepExpressions_39 (mvF (f := 1141) (v := iI p0) rfl rfl (by simp (disch := omega) only [y_I_s_I, x_I_s_I, z_I_s_J, z_I_s_A, z_I_s_B, e22_fo, e_e0, e_p0])) ?_
      refine u_iast hX (L := 3200) (ms_k_1142 h22c) (ms_l_1142 h22c) ⟨by omega, by omega⟩ (by decide) dX13_keepExpressions_42 ?_
      refine v_aload_n hX dX13_keepExpressions_43 (i := 0) rfl rfl ?_
      refine v_get hX (ci := 11) (k := 46) (ms_kx (mS.sA h22c)) bc_11 (by decide) (by decide) in_11 w_6_22 dX13_keepExpressions_44 (mvP (f := 1146) (q := (x + 30)) rfl rfl (ms_p_1146 (mS.sA h22c))) ?_
      refine v_iload_n hX dX13_keepExpressions_47 (i := 2) rfl rfl ?_
      refine u_iald hX (L := 9) (ms_k_1146 (mS.sA h22c)) (ms_l_1146 (mS.sA h22c)) ⟨by omega, by omega⟩ (by decide) dX13_keepExpressions_48 (fun v5_ e_v5_ b_v5_ => ?_)
      try simp (disch := omega) only [zr_I, zr_J, zr_B, rA_A, zl_I, zl_J, zl_A, lA_B, hc22_5, hc22_30, hc22_31] at e_v5_
      have fq_ := fk.1 k (by omega) (by omega)
      have el_ := p22_2 (by omega)
      refine v_istore_n hX (lv' := [(3, .int (iI v5_)), (2, .int (iI k)), (0, .ref x), (1, .int (iI sx))]) dX13_keepExpressions_49 (i := 3) rfl (by rw [hnL]; decide) rfl ?_
      exact L50 _ _ e0 p0 v5_ (fr22.sA (by decide)) (by simp (disch := omega) only [y_I_s_I, x_I_s_I, z_I_s_J, z_I_s_A, z_I_s_B, e22_fo, e_e0, e_p0]) (by simp (disch := omega) only [y_I_s_I, x_I_s_I, z_I_s_J, z_I_s_A, z_I_s_B, e22_fo, e_e0, e_p0]) ⟨by omega, by omega⟩ ⟨by omega, by omega⟩ (by omega) (fun i => by simp (disch := omega) only [zr_I, zr_J, zr_B, rA_A, zl_I, zl_J, zl_A, lA_B]) (fun i => by simp (disch := omega) only [zr_I, zr_J, zr_B, rA_A, zl_I, zl_J, zl_A, lA_B]) ⟨fun i g1 g2 => by simp (disch := omega) only [zr_I, zr_J, zr_B, rA_A, zl_I, zl_J, zl_A, lA_B, rA_x], by simp (disch := omega) only [zr_I, zr_J, zr_B, rA_A, zl_I, zl_J, zl_A, lA_B, rA_y]⟩ (fun i => by simp (disch := omega) only [zr_I, zr_J, zr_B, rA_A, zl_I, zl_J, zl_A, lA_B]) (fun j g1 g2 => by simp (disch := omega) only [zr_I, zr_J, zr_B, rA_A, zl_I, zl_J, zl_A, lA_B]) (fun j g1 g2 => absurd g2 (by omega)) rfl
  change b_V X S z 0 0 0 [(0, .ref x), (1, .int (iI sx))] []
  refine v_aload_n hX dX13_keepExpressions_0 (i := 0) rfl rfl ?_
  refine v_get hX (ci := 11) (k := 34) (ms_kx h) bc_11 (by decide) (by decide) in_11 w_6_10 dX13_keepExpressions_1 (mvP (f := 1134) (q := (x + 22)) rfl rfl (ms_p_1134 h)) ?_
  refine v_iload_n hX dX13_keepExpressions_4 (i := 1) rfl rfl ?_
  refine v_aload_n hX dX13_keepExpressions_5 (i := 0) rfl rfl ?_
  refine v_get hX (ci := 11) (k := 40) (ms_kx h) bc_11 (by decide) (by decide) in_11 w_6_16 dX13_keepExpressions_6 (mvF (f := 1140) (v := iI ex) rfl rfl (by simp (disch := omega) only [y_I_s_I, x_I_s_I, z_I_s_J, z_I_s_A, z_I_s_B, e_ex, e_fo, e_ps])) ?_
  refine u_iast hX (L := 400) (ms_k_1134 h) (ms_l_1134 h) ⟨by omega, by omega⟩ (by decide) dX13_keepExpressions_9 ?_
  refine v_aload_n hX dX13_keepExpressions_10 (i := 0) rfl rfl ?_
  refine v_get hX (ci := 11) (k := 33) (ms_kx (mS.sA h)) bc_11 (by decide) (by decide) in_11 w_6_9 dX13_keepExpressions_11 (mvP (f := 1133) (q := (x + 21)) rfl rfl (ms_p_1133 (mS.sA h))) ?_
  refine v_iload_n hX dX13_keepExpressions_14 (i := 1) rfl rfl ?_
  refine v_aload_n hX dX13_keepExpressions_15 (i := 0) rfl rfl ?_
  refine v_get hX (ci := 11) (k := 45) (ms_kx (mS.sA h)) bc_11 (by decide) (by decide) in_11 w_6_21 dX13_keepExpressions_16 (mvF (f := 1145) (v := iI fo) rfl rfl (by simp (disch := omega) only [y_I_s_I, x_I_s_I, z_I_s_J, z_I_s_A, z_I_s_B, e_ex, e_fo, e_ps])) ?_
  refine u_iast hX (L := 400) (ms_k_1133 (mS.sA h)) (ms_l_1133 (mS.sA h)) ⟨by omega, by omega⟩ (by decide) dX13_keepExpressions_19 ?_
  refine v_iconst hX (v := iI 0) dX13_keepExpressions_20 rfl ?_
  refine v_istore_n hX (lv' := [(2, .int (iI 0)), (0, .ref x), (1, .int (iI sx))]) dX13_keepExpressions_21 (i := 2) rfl (by rw [hnL]; decide) rfl ?_
  exact L22 _ _ ex ps 0 0 (((mFr.rf _ _).sA (by decide)).sA (by decide)) (by simp (disch := omega) only [y_I_s_I, x_I_s_I, z_I_s_J, z_I_s_A, z_I_s_B, e_ex, e_fo, e_ps]) (by simp (disch := omega) only [y_I_s_I, x_I_s_I, z_I_s_J, z_I_s_A, z_I_s_B, e_ex, e_fo, e_ps]) ⟨by omega, by omega⟩ ⟨by omega, by omega⟩ (by omega) ⟨⟨fun i g1 g2 => by simp (disch := omega) only [zr_I, zr_J, zr_B, rA_A, zl_I, zl_J, zl_A, lA_B, rA_x], by simp (disch := omega) only [zr_I, zr_J, zr_B, rA_A, zl_I, zl_J, zl_A, lA_B, rA_y]⟩, ⟨fun i g1 g2 => by simp (disch := omega) only [zr_I, zr_J, zr_B, rA_A, zl_I, zl_J, zl_A, lA_B, rA_x], by simp (disch := omega) only [zr_I, zr_J, zr_B, rA_A, zl_I, zl_J, zl_A, lA_B, rA_y]⟩, fun e g1 g2 => absurd g2 (by omega), fun e g1 g2 => ⟨by simp (disch := omega) only [zr_I, zr_J, zr_B, rA_A, zl_I, zl_J, zl_A, lA_B], by simp (disch := omega) only [zr_I, zr_J, zr_B, rA_A, zl_I, zl_J, zl_A, lA_B]⟩, fun i g1 g2 => by simp (disch := omega) only [zr_I, zr_J, zr_B, rA_A, zl_I, zl_J, zl_A, lA_B]⟩ (fun g => (fk.1 0 (by omega) (by omega)).1) rfl
