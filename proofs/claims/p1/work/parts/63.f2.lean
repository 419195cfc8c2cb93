/-! ===== the fresh reference: at x, its arrays from x + 1 to x + 40 ===== -/
def mG (S : b_M) (x : Nat) : Prop := m_K S x = 11 ∧ (∀ f, f ≠ 1158 → m_I S f x = 0) ∧ ∀ j, j < 39 → m_P S (mTab.getD j (0, 0, 0)).1 x = some (x + 1 + j) ∧ m_K S (x + 1 + j) = (mTab.getD j (0, 0, 0)).2.1 ∧ m_L S (x + 1 + j) = (mTab.getD j (0, 0, 0)).2.2
def mE (S S' : b_M) (x : Nat) : Prop := ∀ b, b < x ∨ x + 40 ≤ b → b_eq S S' b
theorem mE.rf (S : b_M) (x : Nat) : mE S S x := fun b _ => b_eq.rf _ _
theorem mE.tr {S S1 S2 : b_M} {x : Nat} (h : mE S S1 x) (g : mE S1 S2 x) : mE S S2 x := fun b hb => (h b hb).tr (g b hb)
theorem mE.sI {S S1 : b_M} {x f : Nat} {v : Int32} (h : mE S S1 x) : mE S (s_I S1 f x v) x := fun c hc => (h c hc).tr (e_s_I _ _ _ _ (by omega))
theorem mE.sA {S S1 : b_M} {x b i : Nat} {v : Int32} (h : mE S S1 x) (hb : x ≤ b ∧ b < x + 40) : mE S (s_A S1 b i v) x := fun c hc => (h c hc).tr (e_s_A _ _ _ _ (by omega))
theorem mG.s0 {S : b_M} {x f : Nat} (h : mG S x) : mG (s_I S f x 0) x := by
  obtain ⟨h1, h2, h3⟩ := h
  refine ⟨h1, fun g hg => ?_, h3⟩
  rw [q_I_s_I]
  split
  · rfl
  · exact h2 g hg
theorem mG.sr {S : b_M} {x : Nat} {v : Int32} (h : mG S x) : mG (s_I S 1158 x v) x := by
  obtain ⟨h1, h2, h3⟩ := h
  exact ⟨h1, fun g hg => by rw [x_I_s_I _ _ _ _ _ _ (Or.inl hg)]; exact h2 g hg, h3⟩
theorem mG.sA {S : b_M} {x b i : Nat} {v : Int32} (h : mG S x) : mG (s_A S b i v) x := h
theorem mG_of {S S' : b_M} {x : Nat} (h : mInv S S' x (x + 1) 39) (h0 : ∀ f, m_I S f x = 0) : mG S' x ∧ m_I S' 1158 x = 0 := ⟨⟨h.2.1, fun f _ => (h.2.2.1 f).trans (h0 f), fun j hj => ⟨(h.2.2.2.2 j hj).1, (h.2.2.2.2 j hj).2.1, (h.2.2.2.2 j hj).2.2.1⟩⟩, (h.2.2.1 _).trans (h0 _)⟩
theorem mg_i_1102 {S : b_M} {x : Nat} (h : mG S x) : m_I S 1102 x = 0 := h.2.1 1102 (by decide)
theorem mg_i_1103 {S : b_M} {x : Nat} (h : mG S x) : m_I S 1103 x = 0 := h.2.1 1103 (by decide)
theorem mg_i_1105 {S : b_M} {x : Nat} (h : mG S x) : m_I S 1105 x = 0 := h.2.1 1105 (by decide)
theorem mg_i_1107 {S : b_M} {x : Nat} (h : mG S x) : m_I S 1107 x = 0 := h.2.1 1107 (by decide)
theorem mg_i_1108 {S : b_M} {x : Nat} (h : mG S x) : m_I S 1108 x = 0 := h.2.1 1108 (by decide)
theorem mg_i_1109 {S : b_M} {x : Nat} (h : mG S x) : m_I S 1109 x = 0 := h.2.1 1109 (by decide)
theorem mg_i_1110 {S : b_M} {x : Nat} (h : mG S x) : m_I S 1110 x = 0 := h.2.1 1110 (by decide)
theorem mg_i_1112 {S : b_M} {x : Nat} (h : mG S x) : m_I S 1112 x = 0 := h.2.1 1112 (by decide)
theorem mg_i_1113 {S : b_M} {x : Nat} (h : mG S x) : m_I S 1113 x = 0 := h.2.1 1113 (by decide)
theorem mg_i_1114 {S : b_M} {x : Nat} (h : mG S x) : m_I S 1114 x = 0 := h.2.1 1114 (by decide)
theorem mg_i_1120 {S : b_M} {x : Nat} (h : mG S x) : m_I S 1120 x = 0 := h.2.1 1120 (by decide)
theorem mg_i_1127 {S : b_M} {x : Nat} (h : mG S x) : m_I S 1127 x = 0 := h.2.1 1127 (by decide)
theorem mg_i_1128 {S : b_M} {x : Nat} (h : mG S x) : m_I S 1128 x = 0 := h.2.1 1128 (by decide)
theorem mg_i_1139 {S : b_M} {x : Nat} (h : mG S x) : m_I S 1139 x = 0 := h.2.1 1139 (by decide)
theorem mg_i_1140 {S : b_M} {x : Nat} (h : mG S x) : m_I S 1140 x = 0 := h.2.1 1140 (by decide)
theorem mg_i_1141 {S : b_M} {x : Nat} (h : mG S x) : m_I S 1141 x = 0 := h.2.1 1141 (by decide)
theorem mg_i_1145 {S : b_M} {x : Nat} (h : mG S x) : m_I S 1145 x = 0 := h.2.1 1145 (by decide)
theorem mg_i_1148 {S : b_M} {x : Nat} (h : mG S x) : m_I S 1148 x = 0 := h.2.1 1148 (by decide)
theorem mg_i_1153 {S : b_M} {x : Nat} (h : mG S x) : m_I S 1153 x = 0 := h.2.1 1153 (by decide)
theorem mg_i_1154 {S : b_M} {x : Nat} (h : mG S x) : m_I S 1154 x = 0 := h.2.1 1154 (by decide)
theorem mg_i_1157 {S : b_M} {x : Nat} (h : mG S x) : m_I S 1157 x = 0 := h.2.1 1157 (by decide)
theorem mg_i_1159 {S : b_M} {x : Nat} (h : mG S x) : m_I S 1159 x = 0 := h.2.1 1159 (by decide)
theorem mg_i_1160 {S : b_M} {x : Nat} (h : mG S x) : m_I S 1160 x = 0 := h.2.1 1160 (by decide)
theorem mg_i_1162 {S : b_M} {x : Nat} (h : mG S x) : m_I S 1162 x = 0 := h.2.1 1162 (by decide)
theorem mg_i_1163 {S : b_M} {x : Nat} (h : mG S x) : m_I S 1163 x = 0 := h.2.1 1163 (by decide)
theorem mg_i_1164 {S : b_M} {x : Nat} (h : mG S x) : m_I S 1164 x = 0 := h.2.1 1164 (by decide)
theorem mg_i_1166 {S : b_M} {x : Nat} (h : mG S x) : m_I S 1166 x = 0 := h.2.1 1166 (by decide)
theorem mg_i_1167 {S : b_M} {x : Nat} (h : mG S x) : m_I S 1167 x = 0 := h.2.1 1167 (by decide)
theorem mg_i_1168 {S : b_M} {x : Nat} (h : mG S x) : m_I S 1168 x = 0 := h.2.1 1168 (by decide)
theorem mg_i_1169 {S : b_M} {x : Nat} (h : mG S x) : m_I S 1169 x = 0 := h.2.1 1169 (by decide)
theorem mg_i_1170 {S : b_M} {x : Nat} (h : mG S x) : m_I S 1170 x = 0 := h.2.1 1170 (by decide)
theorem mg_p_1152 {S : b_M} {x : Nat} (h : mG S x) : m_P S 1152 x = some (x + 35) := (h.2.2 34 (by decide)).1
theorem mg_k_1152 {S : b_M} {x : Nat} (h : mG S x) : m_K S (x + 35) = 13 := (h.2.2 34 (by decide)).2.1
theorem mg_l_1152 {S : b_M} {x : Nat} (h : mG S x) : m_L S (x + 35) = 1021 := (h.2.2 34 (by decide)).2.2
theorem mg_p_1171 {S : b_M} {x : Nat} (h : mG S x) : m_P S 1171 x = some (x + 39) := (h.2.2 38 (by decide)).1
theorem mg_k_1171 {S : b_M} {x : Nat} (h : mG S x) : m_K S (x + 39) = 15 := (h.2.2 38 (by decide)).2.1
theorem mg_l_1171 {S : b_M} {x : Nat} (h : mG S x) : m_L S (x + 39) = 400 := (h.2.2 38 (by decide)).2.2
theorem mg_p_1104 {S : b_M} {x : Nat} (h : mG S x) : m_P S 1104 x = some (x + 3) := (h.2.2 2 (by decide)).1
theorem mg_k_1104 {S : b_M} {x : Nat} (h : mG S x) : m_K S (x + 3) = 13 := (h.2.2 2 (by decide)).2.1
theorem mg_l_1104 {S : b_M} {x : Nat} (h : mG S x) : m_L S (x + 3) = 4200 := (h.2.2 2 (by decide)).2.2
theorem mg_p_1106 {S : b_M} {x : Nat} (h : mG S x) : m_P S 1106 x = some (x + 4) := (h.2.2 3 (by decide)).1
theorem mg_k_1106 {S : b_M} {x : Nat} (h : mG S x) : m_K S (x + 4) = 13 := (h.2.2 3 (by decide)).2.1
theorem mg_l_1106 {S : b_M} {x : Nat} (h : mG S x) : m_L S (x + 4) = 4200 := (h.2.2 3 (by decide)).2.2
set_option maxRecDepth 100000 in
set_option maxHeartbeats 4000000 in
theorem mforget1 {X : b_T} {fr lo mc ms : Nat} (hX : b_X X cX13_forget RX13 fr lo mc ms) (hnL : b_n X = 2) {S0 : b_M} {z ce sl x : Nat} (kk : ∀ S1, mG S1 x → mE S0 S1 x → b_V X S1 z ce sl 92 [(1, .int (nI 1021)), (0, .ref x)] []) :
    ∀ (j k : Nat) (S : b_M), k + j = 1021 → mG S x → mE S0 S x → b_V X S z ce sl 72 [(1, .int (nI k)), (0, .ref x)] [] := by
  intro j
  induction j with
  | zero =>
    intro k S h1 i g
    have e : k = 1021 := by omega
    subst e
    refine v_iload_n hX dX13_forget_72 (i := 1) rfl rfl ?_
    refine v_sipush hX (v := nI 1021) dX13_forget_73 (by decide) ?_
    refine v_icmp_ge hX (tgt := 92) dX13_forget_76 (by decide) (fun _ => kk S i g) (fun h => absurd (Int32.le_refl _) h)
  | succ j ih =>
    intro k S h1 i g
    refine v_iload_n hX dX13_forget_72 (i := 1) rfl rfl ?_
    refine v_sipush hX (v := nI 1021) dX13_forget_73 (by decide) ?_
    refine v_icmp_ge hX (tgt := 92) dX13_forget_76 (by decide) (fun h => absurd h (nI_ge (by omega) (by decide))) (fun _ => ?_)
    refine v_aload_n hX dX13_forget_79 (i := 0) rfl rfl ?_
    refine v_get hX (ci := 11) (k := 52) (by simp (disch := omega) only [q_K_s_I, q_K_s_J, q_K_s_P, q_K_s_A, q_K_s_B, q_K_s_C, q_K_r_A, q_K_r_B, y_K_n_O, x_K_n_O, y_K_n_A, x_K_n_A, i.1, mg_k_1152 i, mg_k_1171 i, mg_k_1104 i, mg_k_1106 i]) bc_11 (by decide) (by decide) in_11 w_6_28 dX13_forget_80 (mvP (f := 1152) (q := (x + 35)) rfl rfl (by simp (disch := omega) only [q_P_s_I, q_P_s_J, q_P_s_A, q_P_s_B, q_P_s_C, q_P_n_A, q_P_r_A, q_P_r_B, y_P_s_P, x_P_s_P, y_P_n_O, x_P_n_O, mg_p_1152 i, mg_p_1171 i, mg_p_1104 i, mg_p_1106 i])) ?_
    refine v_iload_n hX dX13_forget_83 (i := 1) rfl rfl ?_
    refine v_iconst hX (v := (-1)) dX13_forget_84 (by decide) ?_
    refine v_iast hX (mg_k_1152 i) (by rw [mg_l_1152 i]; exact vp_in_nI (by omega) (by decide)) dX13_forget_85 ?_
    refine v_iinc hX (v := nI (k + 1)) (lv' := [(1, .int (nI (k + 1))), (0, .ref x)]) dX13_forget_86 rfl (nI_succ k).symm (by rw [hnL]; decide) rfl ?_
    refine v_goto hX (tgt := 72) dX13_forget_89 (by decide) ?_
    exact ih (k + 1) _ (by omega) i.sA (g.sA (by omega))
set_option maxRecDepth 100000 in
set_option maxHeartbeats 4000000 in
theorem mforget2 {X : b_T} {fr lo mc ms : Nat} (hX : b_X X cX13_forget RX13 fr lo mc ms) (hnL : b_n X = 2) {S0 : b_M} {z ce sl x : Nat} (kk : ∀ S1, mG S1 x → mE S0 S1 x → b_V X S1 z ce sl 114 [(1, .int (nI 400)), (0, .ref x)] []) :
    ∀ (j k : Nat) (S : b_M), k + j = 400 → mG S x → mE S0 S x → b_V X S z ce sl 94 [(1, .int (nI k)), (0, .ref x)] [] := by
  intro j
  induction j with
  | zero =>
    intro k S h1 i g
    have e : k = 400 := by omega
    subst e
    refine v_iload_n hX dX13_forget_94 (i := 1) rfl rfl ?_
    refine v_sipush hX (v := nI 400) dX13_forget_95 (by decide) ?_
    refine v_icmp_ge hX (tgt := 114) dX13_forget_98 (by decide) (fun _ => kk S i g) (fun h => absurd (Int32.le_refl _) h)
  | succ j ih =>
    intro k S h1 i g
    refine v_iload_n hX dX13_forget_94 (i := 1) rfl rfl ?_
    refine v_sipush hX (v := nI 400) dX13_forget_95 (by decide) ?_
    refine v_icmp_ge hX (tgt := 114) dX13_forget_98 (by decide) (fun h => absurd h (nI_ge (by omega) (by decide))) (fun _ => ?_)
    refine v_aload_n hX dX13_forget_101 (i := 0) rfl rfl ?_
    refine v_get hX (ci := 11) (k := 71) (by simp (disch := omega) only [q_K_s_I, q_K_s_J, q_K_s_P, q_K_s_A, q_K_s_B, q_K_s_C, q_K_r_A, q_K_r_B, y_K_n_O, x_K_n_O, y_K_n_A, x_K_n_A, i.1, mg_k_1152 i, mg_k_1171 i, mg_k_1104 i, mg_k_1106 i]) bc_11 (by decide) (by decide) in_11 w_6_47 dX13_forget_102 (mvP (f := 1171) (q := (x + 39)) rfl rfl (by simp (disch := omega) only [q_P_s_I, q_P_s_J, q_P_s_A, q_P_s_B, q_P_s_C, q_P_n_A, q_P_r_A, q_P_r_B, y_P_s_P, x_P_s_P, y_P_n_O, x_P_n_O, mg_p_1152 i, mg_p_1171 i, mg_p_1104 i, mg_p_1106 i])) ?_
    refine v_iload_n hX dX13_forget_105 (i := 1) rfl rfl ?_
    refine v_iconst hX (v := 0) dX13_forget_106 (by decide) ?_
    refine v_zast hX (mg_k_1171 i) (by rw [mg_l_1171 i]; exact vp_in_nI (by omega) (by decide)) rfl dX13_forget_107 ?_
    refine v_iinc hX (v := nI (k + 1)) (lv' := [(1, .int (nI (k + 1))), (0, .ref x)]) dX13_forget_108 rfl (nI_succ k).symm (by rw [hnL]; decide) rfl ?_
    refine v_goto hX (tgt := 94) dX13_forget_111 (by decide) ?_
    exact ih (k + 1) _ (by omega) i.sA (g.sA (by omega))
set_option maxRecDepth 100000 in
set_option maxHeartbeats 4000000 in
theorem c_M_forget {kn : Nat → Nat} {B : Nat} {S : b_M} {z x : Nat} (h : mG S x) : b_C kn B yX13_forget cX13_forget 2 none 0 0 0 0 [.ref x] S z (fun r S' z' => r = none ∧ z' = z ∧ mG S' x ∧ mE S S' x) (fun _ _ _ => False) := by
  refine b_enter (by decide) (Nat.le_of_ble_eq_true rfl) ?_
  intro X hX hE hnL hkn hB hI
  subst hkn; subst hB
  refine v_aload_n hX dX13_forget_0 (i := 0) rfl rfl ?_
  refine v_iconst hX (v := 0) dX13_forget_1 (by decide) ?_
  refine v_putI hX (ci := 11) (k := 12) (f := 1112) (by simp (disch := omega) only [q_K_s_I, q_K_s_J, q_K_s_P, q_K_s_A, q_K_s_B, q_K_s_C, q_K_r_A, q_K_r_B, y_K_n_O, x_K_n_O, y_K_n_A, x_K_n_A, h.1, mg_k_1152 h, mg_k_1171 h, mg_k_1104 h, mg_k_1106 h]) bc_11 (by decide) (by decide) in_11 tyX13_ok nmX13 w_5_228 (Or.inl rfl) rfl rfl dX13_forget_2 rfl rfl ?_
  refine v_aload_n hX dX13_forget_5 (i := 0) rfl rfl ?_
  refine v_iconst hX (v := 0) dX13_forget_6 (by decide) ?_
  refine v_putI hX (ci := 11) (k := 13) (f := 1113) (by simp (disch := omega) only [q_K_s_I, q_K_s_J, q_K_s_P, q_K_s_A, q_K_s_B, q_K_s_C, q_K_r_A, q_K_r_B, y_K_n_O, x_K_n_O, y_K_n_A, x_K_n_A, h.1, mg_k_1152 h, mg_k_1171 h, mg_k_1104 h, mg_k_1106 h]) bc_11 (by decide) (by decide) in_11 tyX13_ok nmX13 w_5_229 (Or.inl rfl) rfl rfl dX13_forget_7 rfl rfl ?_
  refine v_aload_n hX dX13_forget_10 (i := 0) rfl rfl ?_
  refine v_iconst hX (v := 0) dX13_forget_11 (by decide) ?_
  refine v_putI hX (ci := 11) (k := 14) (f := 1114) (by simp (disch := omega) only [q_K_s_I, q_K_s_J, q_K_s_P, q_K_s_A, q_K_s_B, q_K_s_C, q_K_r_A, q_K_r_B, y_K_n_O, x_K_n_O, y_K_n_A, x_K_n_A, h.1, mg_k_1152 h, mg_k_1171 h, mg_k_1104 h, mg_k_1106 h]) bc_11 (by decide) (by decide) in_11 tyX13_ok nmX13 w_5_230 (Or.inl rfl) rfl rfl dX13_forget_12 rfl rfl ?_
  refine v_aload_n hX dX13_forget_15 (i := 0) rfl rfl ?_
  refine v_iconst hX (v := 0) dX13_forget_16 (by decide) ?_
  refine v_putI hX (ci := 11) (k := 20) (f := 1120) (by simp (disch := omega) only [q_K_s_I, q_K_s_J, q_K_s_P, q_K_s_A, q_K_s_B, q_K_s_C, q_K_r_A, q_K_r_B, y_K_n_O, x_K_n_O, y_K_n_A, x_K_n_A, h.1, mg_k_1152 h, mg_k_1171 h, mg_k_1104 h, mg_k_1106 h]) bc_11 (by decide) (by decide) in_11 tyX13_ok nmX13 w_5_236 (Or.inl rfl) rfl rfl dX13_forget_17 rfl rfl ?_
  refine v_aload_n hX dX13_forget_20 (i := 0) rfl rfl ?_
  refine v_iconst hX (v := 0) dX13_forget_21 (by decide) ?_
  refine v_putI hX (ci := 11) (k := 28) (f := 1128) (by simp (disch := omega) only [q_K_s_I, q_K_s_J, q_K_s_P, q_K_s_A, q_K_s_B, q_K_s_C, q_K_r_A, q_K_r_B, y_K_n_O, x_K_n_O, y_K_n_A, x_K_n_A, h.1, mg_k_1152 h, mg_k_1171 h, mg_k_1104 h, mg_k_1106 h]) bc_11 (by decide) (by decide) in_11 tyX13_ok nmX13 w_6_4 (Or.inl rfl) rfl rfl dX13_forget_22 rfl rfl ?_
  refine v_aload_n hX dX13_forget_25 (i := 0) rfl rfl ?_
  refine v_iconst hX (v := 0) dX13_forget_26 (by decide) ?_
  refine v_putI hX (ci := 11) (k := 39) (f := 1139) (by simp (disch := omega) only [q_K_s_I, q_K_s_J, q_K_s_P, q_K_s_A, q_K_s_B, q_K_s_C, q_K_r_A, q_K_r_B, y_K_n_O, x_K_n_O, y_K_n_A, x_K_n_A, h.1, mg_k_1152 h, mg_k_1171 h, mg_k_1104 h, mg_k_1106 h]) bc_11 (by decide) (by decide) in_11 tyX13_ok nmX13 w_6_15 (Or.inl rfl) rfl rfl dX13_forget_27 rfl rfl ?_
  refine v_aload_n hX dX13_forget_30 (i := 0) rfl rfl ?_
  refine v_iconst hX (v := 0) dX13_forget_31 (by decide) ?_
  refine v_putI hX (ci := 11) (k := 40) (f := 1140) (by simp (disch := omega) only [q_K_s_I, q_K_s_J, q_K_s_P, q_K_s_A, q_K_s_B, q_K_s_C, q_K_r_A, q_K_r_B, y_K_n_O, x_K_n_O, y_K_n_A, x_K_n_A, h.1, mg_k_1152 h, mg_k_1171 h, mg_k_1104 h, mg_k_1106 h]) bc_11 (by decide) (by decide) in_11 tyX13_ok nmX13 w_6_16 (Or.inl rfl) rfl rfl dX13_forget_32 rfl rfl ?_
  refine v_aload_n hX dX13_forget_35 (i := 0) rfl rfl ?_
  refine v_iconst hX (v := 0) dX13_forget_36 (by decide) ?_
  refine v_putI hX (ci := 11) (k := 41) (f := 1141) (by simp (disch := omega) only [q_K_s_I, q_K_s_J, q_K_s_P, q_K_s_A, q_K_s_B, q_K_s_C, q_K_r_A, q_K_r_B, y_K_n_O, x_K_n_O, y_K_n_A, x_K_n_A, h.1, mg_k_1152 h, mg_k_1171 h, mg_k_1104 h, mg_k_1106 h]) bc_11 (by decide) (by decide) in_11 tyX13_ok nmX13 w_6_17 (Or.inl rfl) rfl rfl dX13_forget_37 rfl rfl ?_
  refine v_aload_n hX dX13_forget_40 (i := 0) rfl rfl ?_
  refine v_iconst hX (v := 0) dX13_forget_41 (by decide) ?_
  refine v_putI hX (ci := 11) (k := 48) (f := 1148) (by simp (disch := omega) only [q_K_s_I, q_K_s_J, q_K_s_P, q_K_s_A, q_K_s_B, q_K_s_C, q_K_r_A, q_K_r_B, y_K_n_O, x_K_n_O, y_K_n_A, x_K_n_A, h.1, mg_k_1152 h, mg_k_1171 h, mg_k_1104 h, mg_k_1106 h]) bc_11 (by decide) (by decide) in_11 tyX13_ok nmX13 w_6_24 (Or.inl rfl) rfl rfl dX13_forget_42 rfl rfl ?_
  refine v_aload_n hX dX13_forget_45 (i := 0) rfl rfl ?_
  refine v_iconst hX (v := 0) dX13_forget_46 (by decide) ?_
  refine v_putI hX (ci := 11) (k := 57) (f := 1157) (by simp (disch := omega) only [q_K_s_I, q_K_s_J, q_K_s_P, q_K_s_A, q_K_s_B, q_K_s_C, q_K_r_A, q_K_r_B, y_K_n_O, x_K_n_O, y_K_n_A, x_K_n_A, h.1, mg_k_1152 h, mg_k_1171 h, mg_k_1104 h, mg_k_1106 h]) bc_11 (by decide) (by decide) in_11 tyX13_ok nmX13 w_6_33 (Or.inl rfl) rfl rfl dX13_forget_47 rfl rfl ?_
  refine v_aload_n hX dX13_forget_50 (i := 0) rfl rfl ?_
  refine v_iconst hX (v := 0) dX13_forget_51 (by decide) ?_
  refine v_putI hX (ci := 11) (k := 58) (f := 1158) (by simp (disch := omega) only [q_K_s_I, q_K_s_J, q_K_s_P, q_K_s_A, q_K_s_B, q_K_s_C, q_K_r_A, q_K_r_B, y_K_n_O, x_K_n_O, y_K_n_A, x_K_n_A, h.1, mg_k_1152 h, mg_k_1171 h, mg_k_1104 h, mg_k_1106 h]) bc_11 (by decide) (by decide) in_11 tyX13_ok nmX13 w_6_34 (Or.inl rfl) rfl rfl dX13_forget_52 rfl rfl ?_
  refine v_aload_n hX dX13_forget_55 (i := 0) rfl rfl ?_
  refine v_iconst hX (v := 0) dX13_forget_56 (by decide) ?_
  refine v_putI hX (ci := 11) (k := 59) (f := 1159) (by simp (disch := omega) only [q_K_s_I, q_K_s_J, q_K_s_P, q_K_s_A, q_K_s_B, q_K_s_C, q_K_r_A, q_K_r_B, y_K_n_O, x_K_n_O, y_K_n_A, x_K_n_A, h.1, mg_k_1152 h, mg_k_1171 h, mg_k_1104 h, mg_k_1106 h]) bc_11 (by decide) (by decide) in_11 tyX13_ok nmX13 w_6_35 (Or.inl rfl) rfl rfl dX13_forget_57 rfl rfl ?_
  refine v_aload_n hX dX13_forget_60 (i := 0) rfl rfl ?_
  refine v_iconst hX (v := 0) dX13_forget_61 (by decide) ?_
  refine v_putI hX (ci := 11) (k := 68) (f := 1168) (by simp (disch := omega) only [q_K_s_I, q_K_s_J, q_K_s_P, q_K_s_A, q_K_s_B, q_K_s_C, q_K_r_A, q_K_r_B, y_K_n_O, x_K_n_O, y_K_n_A, x_K_n_A, h.1, mg_k_1152 h, mg_k_1171 h, mg_k_1104 h, mg_k_1106 h]) bc_11 (by decide) (by decide) in_11 tyX13_ok nmX13 w_6_44 (Or.inl rfl) rfl rfl dX13_forget_62 rfl rfl ?_
  refine v_aload_n hX dX13_forget_65 (i := 0) rfl rfl ?_
  refine v_iconst hX (v := 0) dX13_forget_66 (by decide) ?_
  refine v_putI hX (ci := 11) (k := 69) (f := 1169) (by simp (disch := omega) only [q_K_s_I, q_K_s_J, q_K_s_P, q_K_s_A, q_K_s_B, q_K_s_C, q_K_r_A, q_K_r_B, y_K_n_O, x_K_n_O, y_K_n_A, x_K_n_A, h.1, mg_k_1152 h, mg_k_1171 h, mg_k_1104 h, mg_k_1106 h]) bc_11 (by decide) (by decide) in_11 tyX13_ok nmX13 w_6_45 (Or.inl rfl) rfl rfl dX13_forget_67 rfl rfl ?_
  refine v_iconst hX (v := nI 0) dX13_forget_70 (by decide) ?_
  refine v_istore_n hX (lv' := [(1, .int (nI 0)), (0, .ref x)]) dX13_forget_71 (i := 1) rfl (by rw [hnL]; decide) rfl ?_
  refine mforget1 hX hnL (S0 := S) (fun S1 h1 g1 => ?_) 1021 0 _ rfl (h.s0.s0.s0.s0.s0.s0.s0.s0.s0.s0.s0.s0.s0.s0) ((mE.rf S x).sI.sI.sI.sI.sI.sI.sI.sI.sI.sI.sI.sI.sI.sI)
  refine v_iconst hX (v := nI 0) dX13_forget_92 (by decide) ?_
  refine v_istore_n hX (lv' := [(1, .int (nI 0)), (0, .ref x)]) dX13_forget_93 (i := 1) rfl (by rw [hnL]; decide) rfl ?_
  refine mforget2 hX hnL (S0 := S) (fun S2 h2 g2 => ?_) 400 0 _ rfl h1 g1
  exact v_return hX hE dX13_forget_114 (by omega) (by omega) ⟨rfl, rfl, h2, g2⟩
set_option maxRecDepth 100000 in
set_option maxHeartbeats 4000000 in
theorem c_M_turnOne {kn : Nat → Nat} {B : Nat} {S : b_M} {z x : Nat} (h : mG S x) : b_C kn B yX13_turnOne cX13_turnOne 3 none 0 0 0 0 [.ref x] S z (fun r S' z' => r = none ∧ z' = z ∧ S' = s_I S 1109 x 0) (fun _ _ _ => False) := by
  refine b_enter (by decide) (Nat.le_of_ble_eq_true rfl) ?_
  intro X hX hE hnL hkn hB hI
  subst hkn; subst hB
  refine v_iconst hX (v := 0) dX13_turnOne_0 (by decide) ?_
  refine v_istore_n hX (lv' := [(1, .int 0), (0, .ref x)]) dX13_turnOne_1 (i := 1) rfl (by rw [hnL]; decide) rfl ?_
  refine v_aload_n hX dX13_turnOne_2 (i := 0) rfl rfl ?_
  refine v_iconst hX (v := 0) dX13_turnOne_3 (by decide) ?_
  refine v_putI hX (ci := 11) (k := 9) (f := 1109) (by simp (disch := omega) only [q_K_s_I, q_K_s_J, q_K_s_P, q_K_s_A, q_K_s_B, q_K_s_C, q_K_r_A, q_K_r_B, y_K_n_O, x_K_n_O, y_K_n_A, x_K_n_A, h.1, mg_k_1152 h, mg_k_1171 h, mg_k_1104 h, mg_k_1106 h]) bc_11 (by decide) (by decide) in_11 tyX13_ok nmX13 w_5_225 (Or.inl rfl) rfl rfl dX13_turnOne_4 rfl rfl ?_
  refine v_iload_n hX dX13_turnOne_7 (i := 1) rfl rfl ?_
  refine v_aload_n hX dX13_turnOne_8 (i := 0) rfl rfl ?_
  refine v_get hX (ci := 11) (k := 5) (by simp (disch := omega) only [q_K_s_I, q_K_s_J, q_K_s_P, q_K_s_A, q_K_s_B, q_K_s_C, q_K_r_A, q_K_r_B, y_K_n_O, x_K_n_O, y_K_n_A, x_K_n_A, h.1, mg_k_1152 h, mg_k_1171 h, mg_k_1104 h, mg_k_1106 h]) bc_11 (by decide) (by decide) in_11 w_5_221 dX13_turnOne_9 (mvE (f := 1105) (v := 0) rfl rfl (by simp (disch := omega) only [q_I_s_J, q_I_s_P, q_I_s_A, q_I_s_B, q_I_s_C, q_I_n_A, q_I_r_A, q_I_r_B, y_I_s_I, x_I_s_I, y_I_n_O, x_I_n_O, mg_i_1102 h, mg_i_1103 h, mg_i_1105 h, mg_i_1107 h, mg_i_1108 h, mg_i_1109 h, mg_i_1110 h, mg_i_1112 h, mg_i_1113 h, mg_i_1114 h, mg_i_1120 h, mg_i_1127 h, mg_i_1128 h, mg_i_1139 h, mg_i_1140 h, mg_i_1141 h, mg_i_1145 h, mg_i_1148 h, mg_i_1153 h, mg_i_1154 h, mg_i_1157 h, mg_i_1159 h, mg_i_1160 h, mg_i_1162 h, mg_i_1163 h, mg_i_1164 h, mg_i_1166 h, mg_i_1167 h, mg_i_1168 h, mg_i_1169 h, mg_i_1170 h])) ?_
  refine v_icmp_ge hX (tgt := 65) dX13_turnOne_12 (by decide) (fun _ => ?_) (fun h => absurd h (by decide))
  refine v_aload_n hX dX13_turnOne_65 (i := 0) rfl rfl ?_
  refine v_get hX (ci := 11) (k := 68) (by simp (disch := omega) only [q_K_s_I, q_K_s_J, q_K_s_P, q_K_s_A, q_K_s_B, q_K_s_C, q_K_r_A, q_K_r_B, y_K_n_O, x_K_n_O, y_K_n_A, x_K_n_A, h.1, mg_k_1152 h, mg_k_1171 h, mg_k_1104 h, mg_k_1106 h]) bc_11 (by decide) (by decide) in_11 w_6_44 dX13_turnOne_66 (mvE (f := 1168) (v := 0) rfl rfl (by simp (disch := omega) only [q_I_s_J, q_I_s_P, q_I_s_A, q_I_s_B, q_I_s_C, q_I_n_A, q_I_r_A, q_I_r_B, y_I_s_I, x_I_s_I, y_I_n_O, x_I_n_O, mg_i_1102 h, mg_i_1103 h, mg_i_1105 h, mg_i_1107 h, mg_i_1108 h, mg_i_1109 h, mg_i_1110 h, mg_i_1112 h, mg_i_1113 h, mg_i_1114 h, mg_i_1120 h, mg_i_1127 h, mg_i_1128 h, mg_i_1139 h, mg_i_1140 h, mg_i_1141 h, mg_i_1145 h, mg_i_1148 h, mg_i_1153 h, mg_i_1154 h, mg_i_1157 h, mg_i_1159 h, mg_i_1160 h, mg_i_1162 h, mg_i_1163 h, mg_i_1164 h, mg_i_1166 h, mg_i_1167 h, mg_i_1168 h, mg_i_1169 h, mg_i_1170 h])) ?_
  refine v_if_eq hX (tgt := 81) dX13_turnOne_69 (by decide) (fun _ => ?_) (fun h => absurd h (by decide))
  exact v_return hX hE dX13_turnOne_81 (by omega) (by omega) ⟨rfl, rfl, rfl⟩
set_option maxRecDepth 100000 in
set_option maxHeartbeats 4000000 in
theorem c_M_lits {kn : Nat → Nat} {B : Nat} {S : b_M} {z x : Nat} (h : mG S x) : b_C kn B yX13_literalsBefore cX13_literalsBefore 4 (some .int) 0 0 0 0 [.ref x, .int 0] S z (fun r S' z' => r = some (.int 0) ∧ z' = z ∧ S' = S) (fun _ _ _ => False) := by
  refine b_enter (by decide) (Nat.le_of_ble_eq_true rfl) ?_
  intro X hX hE hnL hkn hB hI
  subst hkn; subst hB
  change b_V X S z 0 0 0 [(0, .ref x), (1, .int 0)] []
  refine v_iconst hX (v := 0) dX13_literalsBefore_0 (by decide) ?_
  refine v_istore_n hX (lv' := [(2, .int 0), (0, .ref x), (1, .int 0)]) dX13_literalsBefore_1 (i := 2) rfl (by rw [hnL]; decide) rfl ?_
  refine v_iload_n hX dX13_literalsBefore_2 (i := 1) rfl rfl ?_
  refine v_iconst hX (v := 1) dX13_literalsBefore_3 (by decide) ?_
  refine v_isub hX dX13_literalsBefore_4 ?_
  refine v_istore_n hX (lv' := [(3, .int (0 - 1)), (2, .int 0), (0, .ref x), (1, .int 0)]) dX13_literalsBefore_5 (i := 3) rfl (by rw [hnL]; decide) rfl ?_
  refine v_iload_n hX dX13_literalsBefore_6 (i := 3) rfl rfl ?_
  refine v_if_lt hX (tgt := 46) dX13_literalsBefore_7 (by decide) (fun _ => ?_) (fun h => absurd h (by decide))
  refine v_iload_n hX dX13_literalsBefore_46 (i := 2) rfl rfl ?_
  exact v_ireturn hX hE dX13_literalsBefore_47 (by omega) (by omega) ⟨rfl, rfl, rfl⟩
set_option maxRecDepth 100000 in
set_option maxHeartbeats 4000000 in
theorem c_M_places {kn : Nat → Nat} {B : Nat} {S : b_M} {z x : Nat} (h : mG S x) : b_C kn B yX13_findPlaces cX13_findPlaces 3 none 1 23 0 0 [.ref x] S z (fun r S' z' => r = none ∧ z' = z ∧ mG S' x ∧ mE S S' x ∧ m_I S' 1158 x = m_I S 1158 x) (fun _ _ _ => False) := by
  refine b_enter (by decide) (Nat.le_of_ble_eq_true rfl) ?_
  intro X hX hE hnL hkn hB hI
  subst hkn; subst hB
  refine v_iconst hX (v := 0) dX13_findPlaces_0 (by decide) ?_
  refine v_istore_n hX (lv' := [(1, .int 0), (0, .ref x)]) dX13_findPlaces_1 (i := 1) rfl (by rw [hnL]; decide) rfl ?_
  refine v_iconst hX (v := 0) dX13_findPlaces_2 (by decide) ?_
  refine v_istore_n hX (lv' := [(2, .int 0), (1, .int 0), (0, .ref x)]) dX13_findPlaces_3 (i := 2) rfl (by rw [hnL]; decide) rfl ?_
  refine v_iload_n hX dX13_findPlaces_4 (i := 2) rfl rfl ?_
  refine v_aload_n hX dX13_findPlaces_5 (i := 0) rfl rfl ?_
  refine v_get hX (ci := 11) (k := 28) (by simp (disch := omega) only [q_K_s_I, q_K_s_J, q_K_s_P, q_K_s_A, q_K_s_B, q_K_s_C, q_K_r_A, q_K_r_B, y_K_n_O, x_K_n_O, y_K_n_A, x_K_n_A, h.1, mg_k_1152 h, mg_k_1171 h, mg_k_1104 h, mg_k_1106 h]) bc_11 (by decide) (by decide) in_11 w_6_4 dX13_findPlaces_6 (mvE (f := 1128) (v := 0) rfl rfl (by simp (disch := omega) only [q_I_s_J, q_I_s_P, q_I_s_A, q_I_s_B, q_I_s_C, q_I_n_A, q_I_r_A, q_I_r_B, y_I_s_I, x_I_s_I, y_I_n_O, x_I_n_O, mg_i_1102 h, mg_i_1103 h, mg_i_1105 h, mg_i_1107 h, mg_i_1108 h, mg_i_1109 h, mg_i_1110 h, mg_i_1112 h, mg_i_1113 h, mg_i_1114 h, mg_i_1120 h, mg_i_1127 h, mg_i_1128 h, mg_i_1139 h, mg_i_1140 h, mg_i_1141 h, mg_i_1145 h, mg_i_1148 h, mg_i_1153 h, mg_i_1154 h, mg_i_1157 h, mg_i_1159 h, mg_i_1160 h, mg_i_1162 h, mg_i_1163 h, mg_i_1164 h, mg_i_1166 h, mg_i_1167 h, mg_i_1168 h, mg_i_1169 h, mg_i_1170 h])) ?_
  refine v_icmp_ge hX (tgt := 33) dX13_findPlaces_9 (by decide) (fun _ => ?_) (fun h => absurd h (by decide))
  refine v_aload_n hX dX13_findPlaces_33 (i := 0) rfl rfl ?_
  refine v_iload_n hX dX13_findPlaces_34 (i := 1) rfl rfl ?_
  refine v_aload_n hX dX13_findPlaces_35 (i := 0) rfl rfl ?_
  refine v_aload_n hX dX13_findPlaces_36 (i := 0) rfl rfl ?_
  refine v_get hX (ci := 11) (k := 28) (by simp (disch := omega) only [q_K_s_I, q_K_s_J, q_K_s_P, q_K_s_A, q_K_s_B, q_K_s_C, q_K_r_A, q_K_r_B, y_K_n_O, x_K_n_O, y_K_n_A, x_K_n_A, h.1, mg_k_1152 h, mg_k_1171 h, mg_k_1104 h, mg_k_1106 h]) bc_11 (by decide) (by decide) in_11 w_6_4 dX13_findPlaces_37 (mvE (f := 1128) (v := 0) rfl rfl (by simp (disch := omega) only [q_I_s_J, q_I_s_P, q_I_s_A, q_I_s_B, q_I_s_C, q_I_n_A, q_I_r_A, q_I_r_B, y_I_s_I, x_I_s_I, y_I_n_O, x_I_n_O, mg_i_1102 h, mg_i_1103 h, mg_i_1105 h, mg_i_1107 h, mg_i_1108 h, mg_i_1109 h, mg_i_1110 h, mg_i_1112 h, mg_i_1113 h, mg_i_1114 h, mg_i_1120 h, mg_i_1127 h, mg_i_1128 h, mg_i_1139 h, mg_i_1140 h, mg_i_1141 h, mg_i_1145 h, mg_i_1148 h, mg_i_1153 h, mg_i_1154 h, mg_i_1157 h, mg_i_1159 h, mg_i_1160 h, mg_i_1162 h, mg_i_1163 h, mg_i_1164 h, mg_i_1166 h, mg_i_1167 h, mg_i_1168 h, mg_i_1169 h, mg_i_1170 h])) ?_
  refine v_callV hX (n := 1) (c_M_lits h) (by simp (disch := omega) only [q_K_s_I, q_K_s_J, q_K_s_P, q_K_s_A, q_K_s_B, q_K_s_C, q_K_r_A, q_K_r_B, y_K_n_O, x_K_n_O, y_K_n_A, x_K_n_A, h.1, mg_k_1152 h, mg_k_1171 h, mg_k_1104 h, mg_k_1106 h]) bc_11 (by decide) w_7_170 w_7_172 (bw_p (q := (yX13_literalsBefore, 72)) (List.mem_of_getElem? (i := 83) rfl) rfl) w_1_16 w_7_173 (by decide +kernel) rfl ⟨by decide, by decide⟩ ⟨by omega, by omega⟩ (Nat.le_of_ble_eq_true rfl) rfl dX13_findPlaces_40 (fun _ _ _ h => h) ?_
  rintro r1 S1 z1 ⟨rfl, rfl, e1⟩
  subst e1
  refine v_iadd hX dX13_findPlaces_43 ?_
  refine v_putI hX (ci := 11) (k := 60) (f := 1160) (by simp (disch := omega) only [q_K_s_I, q_K_s_J, q_K_s_P, q_K_s_A, q_K_s_B, q_K_s_C, q_K_r_A, q_K_r_B, y_K_n_O, x_K_n_O, y_K_n_A, x_K_n_A, h.1, mg_k_1152 h, mg_k_1171 h, mg_k_1104 h, mg_k_1106 h]) bc_11 (by decide) (by decide) in_11 tyX13_ok nmX13 w_6_36 (Or.inl rfl) rfl rfl dX13_findPlaces_44 rfl rfl ?_
  exact v_return hX hE dX13_findPlaces_47 (by omega) (by omega) ⟨rfl, rfl, h.s0, (mE.rf _ _).sI, x_I_s_I _ _ _ _ _ _ (Or.inl (by decide))⟩
set_option maxRecDepth 100000 in
set_option maxHeartbeats 4000000 in
theorem c_M_forms {kn : Nat → Nat} {B : Nat} {S : b_M} {z x : Nat} (h : mG S x) : b_C kn B yX13_findForms cX13_findForms 3 none 2 45 0 0 [.ref x] S z (fun r S' z' => r = none ∧ z' = z ∧ mG S' x ∧ mE S S' x) (fun _ _ _ => False) := by
  refine b_enter (by decide) (Nat.le_of_ble_eq_true rfl) ?_
  intro X hX hE hnL hkn hB hI
  subst hkn; subst hB
  refine v_iconst hX (v := 1) dX13_findForms_0 (by decide) ?_
  refine v_istore_n hX (lv' := [(1, .int 1), (0, .ref x)]) dX13_findForms_1 (i := 1) rfl (by rw [hnL]; decide) rfl ?_
  refine v_aload_n hX dX13_findForms_2 (i := 0) rfl rfl ?_
  refine v_iconst hX (v := 0) dX13_findForms_3 (by decide) ?_
  refine v_putI hX (ci := 11) (k := 58) (f := 1158) (by simp (disch := omega) only [q_K_s_I, q_K_s_J, q_K_s_P, q_K_s_A, q_K_s_B, q_K_s_C, q_K_r_A, q_K_r_B, y_K_n_O, x_K_n_O, y_K_n_A, x_K_n_A, h.1, mg_k_1152 h, mg_k_1171 h, mg_k_1104 h, mg_k_1106 h]) bc_11 (by decide) (by decide) in_11 tyX13_ok nmX13 w_6_34 (Or.inl rfl) rfl rfl dX13_findForms_4 rfl rfl ?_
  refine v_iload_n hX dX13_findForms_7 (i := 1) rfl rfl ?_
  refine v_if_eq hX (tgt := 125) dX13_findForms_8 (by decide) (fun h => absurd h (by decide)) (fun _ => ?_)
  refine v_iconst hX (v := 0) dX13_findForms_11 (by decide) ?_
  refine v_istore_n hX (lv' := [(1, .int 0), (0, .ref x)]) dX13_findForms_12 (i := 1) rfl (by rw [hnL]; decide) rfl ?_
  refine v_aload_n hX dX13_findForms_13 (i := 0) rfl rfl ?_
  refine v_dup hX dX13_findForms_14 rfl ?_
  refine v_get hX (ci := 11) (k := 58) (by simp (disch := omega) only [q_K_s_I, q_K_s_J, q_K_s_P, q_K_s_A, q_K_s_B, q_K_s_C, q_K_r_A, q_K_r_B, y_K_n_O, x_K_n_O, y_K_n_A, x_K_n_A, h.1, mg_k_1152 h, mg_k_1171 h, mg_k_1104 h, mg_k_1106 h]) bc_11 (by decide) (by decide) in_11 w_6_34 dX13_findForms_15 (mvE (f := 1158) (v := 0) rfl rfl (by simp (disch := omega) only [q_I_s_J, q_I_s_P, q_I_s_A, q_I_s_B, q_I_s_C, q_I_n_A, q_I_r_A, q_I_r_B, y_I_s_I, x_I_s_I, y_I_n_O, x_I_n_O, mg_i_1102 h, mg_i_1103 h, mg_i_1105 h, mg_i_1107 h, mg_i_1108 h, mg_i_1109 h, mg_i_1110 h, mg_i_1112 h, mg_i_1113 h, mg_i_1114 h, mg_i_1120 h, mg_i_1127 h, mg_i_1128 h, mg_i_1139 h, mg_i_1140 h, mg_i_1141 h, mg_i_1145 h, mg_i_1148 h, mg_i_1153 h, mg_i_1154 h, mg_i_1157 h, mg_i_1159 h, mg_i_1160 h, mg_i_1162 h, mg_i_1163 h, mg_i_1164 h, mg_i_1166 h, mg_i_1167 h, mg_i_1168 h, mg_i_1169 h, mg_i_1170 h])) ?_
  refine v_iconst hX (v := 1) dX13_findForms_18 (by decide) ?_
  refine v_iadd hX dX13_findForms_19 ?_
  refine v_putI hX (ci := 11) (k := 58) (f := 1158) (by simp (disch := omega) only [q_K_s_I, q_K_s_J, q_K_s_P, q_K_s_A, q_K_s_B, q_K_s_C, q_K_r_A, q_K_r_B, y_K_n_O, x_K_n_O, y_K_n_A, x_K_n_A, h.1, mg_k_1152 h, mg_k_1171 h, mg_k_1104 h, mg_k_1106 h]) bc_11 (by decide) (by decide) in_11 tyX13_ok nmX13 w_6_34 (Or.inl rfl) rfl rfl dX13_findForms_20 rfl rfl ?_
  refine v_aload_n hX dX13_findForms_23 (i := 0) rfl rfl ?_
  refine v_callV hX (n := 0) (c_M_places h.s0.sr) (by simp (disch := omega) only [q_K_s_I, q_K_s_J, q_K_s_P, q_K_s_A, q_K_s_B, q_K_s_C, q_K_r_A, q_K_r_B, y_K_n_O, x_K_n_O, y_K_n_A, x_K_n_A, h.1, mg_k_1152 h, mg_k_1171 h, mg_k_1104 h, mg_k_1106 h]) bc_11 (by decide) w_7_162 w_7_164 (bw_p (q := (yX13_findPlaces, 72)) (List.mem_of_getElem? (i := 81) rfl) rfl) w_1_16 w_7_165 (by decide +kernel) rfl ⟨by decide, by decide⟩ ⟨by omega, by omega⟩ (Nat.le_of_ble_eq_true rfl) rfl dX13_findForms_24 (fun _ _ _ h => h) ?_
  rintro r1 S1 z1 ⟨rfl, rfl, h1, g1, i1⟩
  refine v_iconst hX (v := 0) dX13_findForms_27 (by decide) ?_
  refine v_istore_n hX (lv' := [(2, .int 0), (1, .int 0), (0, .ref x)]) dX13_findForms_28 (i := 2) rfl (by rw [hnL]; decide) rfl ?_
  refine v_iload_n hX dX13_findForms_29 (i := 2) rfl rfl ?_
  refine v_aload_n hX dX13_findForms_30 (i := 0) rfl rfl ?_
  refine v_get hX (ci := 11) (k := 28) (by simp (disch := omega) only [q_K_s_I, q_K_s_J, q_K_s_P, q_K_s_A, q_K_s_B, q_K_s_C, q_K_r_A, q_K_r_B, y_K_n_O, x_K_n_O, y_K_n_A, x_K_n_A, h1.1, mg_k_1152 h1, mg_k_1171 h1, mg_k_1104 h1, mg_k_1106 h1]) bc_11 (by decide) (by decide) in_11 w_6_4 dX13_findForms_31 (mvE (f := 1128) (v := 0) rfl rfl (by simp (disch := omega) only [q_I_s_J, q_I_s_P, q_I_s_A, q_I_s_B, q_I_s_C, q_I_n_A, q_I_r_A, q_I_r_B, y_I_s_I, x_I_s_I, y_I_n_O, x_I_n_O, mg_i_1102 h1, mg_i_1103 h1, mg_i_1105 h1, mg_i_1107 h1, mg_i_1108 h1, mg_i_1109 h1, mg_i_1110 h1, mg_i_1112 h1, mg_i_1113 h1, mg_i_1114 h1, mg_i_1120 h1, mg_i_1127 h1, mg_i_1128 h1, mg_i_1139 h1, mg_i_1140 h1, mg_i_1141 h1, mg_i_1145 h1, mg_i_1148 h1, mg_i_1153 h1, mg_i_1154 h1, mg_i_1157 h1, mg_i_1159 h1, mg_i_1160 h1, mg_i_1162 h1, mg_i_1163 h1, mg_i_1164 h1, mg_i_1166 h1, mg_i_1167 h1, mg_i_1168 h1, mg_i_1169 h1, mg_i_1170 h1])) ?_
  refine v_icmp_ge hX (tgt := 77) dX13_findForms_34 (by decide) (fun _ => ?_) (fun h => absurd h (by decide))
  refine v_iconst hX (v := 0) dX13_findForms_77 (by decide) ?_
  refine v_istore_n hX (lv' := [(2, .int 0), (1, .int 0), (0, .ref x)]) dX13_findForms_78 (i := 2) rfl (by rw [hnL]; decide) rfl ?_
  refine v_iload_n hX dX13_findForms_79 (i := 2) rfl rfl ?_
  refine v_aload_n hX dX13_findForms_80 (i := 0) rfl rfl ?_
  refine v_get hX (ci := 11) (k := 28) (by simp (disch := omega) only [q_K_s_I, q_K_s_J, q_K_s_P, q_K_s_A, q_K_s_B, q_K_s_C, q_K_r_A, q_K_r_B, y_K_n_O, x_K_n_O, y_K_n_A, x_K_n_A, h1.1, mg_k_1152 h1, mg_k_1171 h1, mg_k_1104 h1, mg_k_1106 h1]) bc_11 (by decide) (by decide) in_11 w_6_4 dX13_findForms_81 (mvE (f := 1128) (v := 0) rfl rfl (by simp (disch := omega) only [q_I_s_J, q_I_s_P, q_I_s_A, q_I_s_B, q_I_s_C, q_I_n_A, q_I_r_A, q_I_r_B, y_I_s_I, x_I_s_I, y_I_n_O, x_I_n_O, mg_i_1102 h1, mg_i_1103 h1, mg_i_1105 h1, mg_i_1107 h1, mg_i_1108 h1, mg_i_1109 h1, mg_i_1110 h1, mg_i_1112 h1, mg_i_1113 h1, mg_i_1114 h1, mg_i_1120 h1, mg_i_1127 h1, mg_i_1128 h1, mg_i_1139 h1, mg_i_1140 h1, mg_i_1141 h1, mg_i_1145 h1, mg_i_1148 h1, mg_i_1153 h1, mg_i_1154 h1, mg_i_1157 h1, mg_i_1159 h1, mg_i_1160 h1, mg_i_1162 h1, mg_i_1163 h1, mg_i_1164 h1, mg_i_1166 h1, mg_i_1167 h1, mg_i_1168 h1, mg_i_1169 h1, mg_i_1170 h1])) ?_
  refine v_icmp_ge hX (tgt := 122) dX13_findForms_84 (by decide) (fun _ => ?_) (fun h => absurd h (by decide))
  refine v_goto hX (tgt := 7) dX13_findForms_122 (by decide) ?_
  refine v_iload_n hX dX13_findForms_7 (i := 1) rfl rfl ?_
  refine v_if_eq hX (tgt := 125) dX13_findForms_8 (by decide) (fun _ => ?_) (fun h => absurd h (by decide))
  exact v_return hX hE dX13_findForms_125 (by omega) (by omega) ⟨rfl, rfl, h1, (mE.rf S x).sI.sI.tr g1⟩
set_option maxRecDepth 100000 in
set_option maxHeartbeats 4000000 in
theorem c_M_two {kn : Nat → Nat} {B : Nat} {S : b_M} {z x : Nat} (h : mG S x) : b_C kn B yX13_turnTwo cX13_turnTwo 4 none 0 0 0 0 [.ref x] S z (fun r S' z' => r = none ∧ z' = z ∧ S' = S) (fun _ _ _ => False) := by
  refine b_enter (by decide) (Nat.le_of_ble_eq_true rfl) ?_
  intro X hX hE hnL hkn hB hI
  subst hkn; subst hB
  refine v_aload_n hX dX13_turnTwo_0 (i := 0) rfl rfl ?_
  refine v_get hX (ci := 11) (k := 60) (by simp (disch := omega) only [q_K_s_I, q_K_s_J, q_K_s_P, q_K_s_A, q_K_s_B, q_K_s_C, q_K_r_A, q_K_r_B, y_K_n_O, x_K_n_O, y_K_n_A, x_K_n_A, h.1, mg_k_1152 h, mg_k_1171 h, mg_k_1104 h, mg_k_1106 h]) bc_11 (by decide) (by decide) in_11 w_6_36 dX13_turnTwo_1 (mvE (f := 1160) (v := 0) rfl rfl (by simp (disch := omega) only [q_I_s_J, q_I_s_P, q_I_s_A, q_I_s_B, q_I_s_C, q_I_n_A, q_I_r_A, q_I_r_B, y_I_s_I, x_I_s_I, y_I_n_O, x_I_n_O, mg_i_1102 h, mg_i_1103 h, mg_i_1105 h, mg_i_1107 h, mg_i_1108 h, mg_i_1109 h, mg_i_1110 h, mg_i_1112 h, mg_i_1113 h, mg_i_1114 h, mg_i_1120 h, mg_i_1127 h, mg_i_1128 h, mg_i_1139 h, mg_i_1140 h, mg_i_1141 h, mg_i_1145 h, mg_i_1148 h, mg_i_1153 h, mg_i_1154 h, mg_i_1157 h, mg_i_1159 h, mg_i_1160 h, mg_i_1162 h, mg_i_1163 h, mg_i_1164 h, mg_i_1166 h, mg_i_1167 h, mg_i_1168 h, mg_i_1169 h, mg_i_1170 h])) ?_
  refine v_ldcw hX (v := 65535) dX13_turnTwo_4 w_7_190 ?_
  refine v_icmp_le hX (tgt := 17) dX13_turnTwo_7 (by decide) (fun _ => ?_) (fun h => absurd h (by decide))
  refine v_iconst hX (v := 0) dX13_turnTwo_17 (by decide) ?_
  refine v_istore_n hX (lv' := [(1, .int 0), (0, .ref x)]) dX13_turnTwo_18 (i := 1) rfl (by rw [hnL]; decide) rfl ?_
  refine v_iload_n hX dX13_turnTwo_19 (i := 1) rfl rfl ?_
  refine v_aload_n hX dX13_turnTwo_20 (i := 0) rfl rfl ?_
  refine v_get hX (ci := 11) (k := 28) (by simp (disch := omega) only [q_K_s_I, q_K_s_J, q_K_s_P, q_K_s_A, q_K_s_B, q_K_s_C, q_K_r_A, q_K_r_B, y_K_n_O, x_K_n_O, y_K_n_A, x_K_n_A, h.1, mg_k_1152 h, mg_k_1171 h, mg_k_1104 h, mg_k_1106 h]) bc_11 (by decide) (by decide) in_11 w_6_4 dX13_turnTwo_21 (mvE (f := 1128) (v := 0) rfl rfl (by simp (disch := omega) only [q_I_s_J, q_I_s_P, q_I_s_A, q_I_s_B, q_I_s_C, q_I_n_A, q_I_r_A, q_I_r_B, y_I_s_I, x_I_s_I, y_I_n_O, x_I_n_O, mg_i_1102 h, mg_i_1103 h, mg_i_1105 h, mg_i_1107 h, mg_i_1108 h, mg_i_1109 h, mg_i_1110 h, mg_i_1112 h, mg_i_1113 h, mg_i_1114 h, mg_i_1120 h, mg_i_1127 h, mg_i_1128 h, mg_i_1139 h, mg_i_1140 h, mg_i_1141 h, mg_i_1145 h, mg_i_1148 h, mg_i_1153 h, mg_i_1154 h, mg_i_1157 h, mg_i_1159 h, mg_i_1160 h, mg_i_1162 h, mg_i_1163 h, mg_i_1164 h, mg_i_1166 h, mg_i_1167 h, mg_i_1168 h, mg_i_1169 h, mg_i_1170 h])) ?_
  refine v_icmp_ge hX (tgt := 101) dX13_turnTwo_24 (by decide) (fun _ => ?_) (fun h => absurd h (by decide))
  exact v_return hX hE dX13_turnTwo_101 (by omega) (by omega) ⟨rfl, rfl, rfl⟩
set_option maxRecDepth 100000 in
set_option maxHeartbeats 4000000 in
theorem c_M_sayPool {kn : Nat → Nat} {B : Nat} {S : b_M} {z x : Nat} (h : mG S x) : b_C kn B yX13_sayPool cX13_sayPool 4 none 0 0 0 0 [.ref x, .int 0] S z (fun r S' z' => r = none ∧ z' = z ∧ S' = S) (fun _ _ _ => False) := by
  refine b_enter (by decide) (Nat.le_of_ble_eq_true rfl) ?_
  intro X hX hE hnL hkn hB hI
  subst hkn; subst hB
  change b_V X S z 0 0 0 [(0, .ref x), (1, .int 0)] []
  refine v_iload_n hX dX13_sayPool_0 (i := 1) rfl rfl ?_
  refine v_iconst hX (v := 1) dX13_sayPool_1 (by decide) ?_
  refine v_isub hX dX13_sayPool_2 ?_
  refine v_istore_n hX (lv' := [(2, .int (0 - 1)), (0, .ref x), (1, .int 0)]) dX13_sayPool_3 (i := 2) rfl (by rw [hnL]; decide) rfl ?_
  refine v_iload_n hX dX13_sayPool_4 (i := 2) rfl rfl ?_
  refine v_if_lt hX (tgt := 25) dX13_sayPool_5 (by decide) (fun _ => ?_) (fun h => absurd h (by decide))
  refine v_iload_n hX dX13_sayPool_25 (i := 2) rfl rfl ?_
  refine v_iconst hX (v := 1) dX13_sayPool_26 (by decide) ?_
  refine v_iadd hX dX13_sayPool_27 ?_
  refine v_istore_n hX (lv' := [(3, .int ((0 - 1) + 1)), (2, .int (0 - 1)), (0, .ref x), (1, .int 0)]) dX13_sayPool_28 (i := 3) rfl (by rw [hnL]; decide) rfl ?_
  refine v_iload_n hX dX13_sayPool_29 (i := 3) rfl rfl ?_
  refine v_iload_n hX dX13_sayPool_30 (i := 1) rfl rfl ?_
  refine v_icmp_ge hX (tgt := 61) dX13_sayPool_31 (by decide) (fun _ => ?_) (fun h => absurd h (by decide))
  exact v_return hX hE dX13_sayPool_61 (by omega) (by omega) ⟨rfl, rfl, rfl⟩
set_option maxRecDepth 100000 in
set_option maxHeartbeats 4000000 in
theorem c_M_assemble0 {kn : Nat → Nat} {B : Nat} {S : b_M} {z x : Nat} (h : mG S x) : b_C kn B yX13_assemble cX13_assemble 2 (some .int) 3 67 0 0 [.ref x] S z (fun r S' z' => r = some (.int 0) ∧ z' = z ∧ mG S' x ∧ mE S S' x) (fun _ _ _ => False) := by
  refine b_enter (by decide) (Nat.le_of_ble_eq_true rfl) ?_
  intro X hX hE hnL hkn hB hI
  subst hkn; subst hB
  refine v_aload_n hX dX13_assemble_0 (i := 0) rfl rfl ?_
  refine v_iconst hX (v := 0) dX13_assemble_1 (by decide) ?_
  refine v_putI hX (ci := 11) (k := 2) (f := 1102) (by simp (disch := omega) only [q_K_s_I, q_K_s_J, q_K_s_P, q_K_s_A, q_K_s_B, q_K_s_C, q_K_r_A, q_K_r_B, y_K_n_O, x_K_n_O, y_K_n_A, x_K_n_A, h.1, mg_k_1152 h, mg_k_1171 h, mg_k_1104 h, mg_k_1106 h]) bc_11 (by decide) (by decide) in_11 tyX13_ok nmX13 w_5_218 (Or.inl rfl) rfl rfl dX13_assemble_2 rfl rfl ?_
  refine v_aload_n hX dX13_assemble_5 (i := 0) rfl rfl ?_
  refine v_callV hX (n := 0) (c_M_forget h.s0) (by simp (disch := omega) only [q_K_s_I, q_K_s_J, q_K_s_P, q_K_s_A, q_K_s_B, q_K_s_C, q_K_r_A, q_K_r_B, y_K_n_O, x_K_n_O, y_K_n_A, x_K_n_A, h.1, mg_k_1152 h, mg_k_1171 h, mg_k_1104 h, mg_k_1106 h]) bc_11 (by decide) w_6_217 w_6_219 (bw_p (q := (yX13_forget, 72)) (List.mem_of_getElem? (i := 41) rfl) rfl) w_1_16 w_6_220 (by decide +kernel) rfl ⟨by decide, by decide⟩ ⟨by omega, by omega⟩ (Nat.le_of_ble_eq_true rfl) rfl dX13_assemble_6 (fun _ _ _ h => h) ?_
  rintro r1 S1 z1 ⟨rfl, rfl, h1, g1⟩
  refine v_aload_n hX dX13_assemble_9 (i := 0) rfl rfl ?_
  refine v_iconst hX (v := 0) dX13_assemble_10 (by decide) ?_
  refine v_putI hX (ci := 11) (k := 53) (f := 1153) (by simp (disch := omega) only [q_K_s_I, q_K_s_J, q_K_s_P, q_K_s_A, q_K_s_B, q_K_s_C, q_K_r_A, q_K_r_B, y_K_n_O, x_K_n_O, y_K_n_A, x_K_n_A, h1.1, mg_k_1152 h1, mg_k_1171 h1, mg_k_1104 h1, mg_k_1106 h1]) bc_11 (by decide) (by decide) in_11 tyX13_ok nmX13 w_6_29 (Or.inl rfl) rfl rfl dX13_assemble_11 rfl rfl ?_
  refine v_aload_n hX dX13_assemble_14 (i := 0) rfl rfl ?_
  refine v_iconst hX (v := 0) dX13_assemble_15 (by decide) ?_
  refine v_putI hX (ci := 11) (k := 54) (f := 1154) (by simp (disch := omega) only [q_K_s_I, q_K_s_J, q_K_s_P, q_K_s_A, q_K_s_B, q_K_s_C, q_K_r_A, q_K_r_B, y_K_n_O, x_K_n_O, y_K_n_A, x_K_n_A, h1.1, mg_k_1152 h1, mg_k_1171 h1, mg_k_1104 h1, mg_k_1106 h1]) bc_11 (by decide) (by decide) in_11 tyX13_ok nmX13 w_6_30 (Or.inl rfl) rfl rfl dX13_assemble_16 rfl rfl ?_
  refine v_aload_n hX dX13_assemble_19 (i := 0) rfl rfl ?_
  refine v_aload_n hX dX13_assemble_20 (i := 0) rfl rfl ?_
  refine v_get hX (ci := 11) (k := 3) (by simp (disch := omega) only [q_K_s_I, q_K_s_J, q_K_s_P, q_K_s_A, q_K_s_B, q_K_s_C, q_K_r_A, q_K_r_B, y_K_n_O, x_K_n_O, y_K_n_A, x_K_n_A, h1.1, mg_k_1152 h1, mg_k_1171 h1, mg_k_1104 h1, mg_k_1106 h1]) bc_11 (by decide) (by decide) in_11 w_5_219 dX13_assemble_21 (mvE (f := 1103) (v := 0) rfl rfl (by simp (disch := omega) only [q_I_s_J, q_I_s_P, q_I_s_A, q_I_s_B, q_I_s_C, q_I_n_A, q_I_r_A, q_I_r_B, y_I_s_I, x_I_s_I, y_I_n_O, x_I_n_O, mg_i_1102 h1, mg_i_1103 h1, mg_i_1105 h1, mg_i_1107 h1, mg_i_1108 h1, mg_i_1109 h1, mg_i_1110 h1, mg_i_1112 h1, mg_i_1113 h1, mg_i_1114 h1, mg_i_1120 h1, mg_i_1127 h1, mg_i_1128 h1, mg_i_1139 h1, mg_i_1140 h1, mg_i_1141 h1, mg_i_1145 h1, mg_i_1148 h1, mg_i_1153 h1, mg_i_1154 h1, mg_i_1157 h1, mg_i_1159 h1, mg_i_1160 h1, mg_i_1162 h1, mg_i_1163 h1, mg_i_1164 h1, mg_i_1166 h1, mg_i_1167 h1, mg_i_1168 h1, mg_i_1169 h1, mg_i_1170 h1])) ?_
  refine v_putI hX (ci := 11) (k := 5) (f := 1105) (by simp (disch := omega) only [q_K_s_I, q_K_s_J, q_K_s_P, q_K_s_A, q_K_s_B, q_K_s_C, q_K_r_A, q_K_r_B, y_K_n_O, x_K_n_O, y_K_n_A, x_K_n_A, h1.1, mg_k_1152 h1, mg_k_1171 h1, mg_k_1104 h1, mg_k_1106 h1]) bc_11 (by decide) (by decide) in_11 tyX13_ok nmX13 w_5_221 (Or.inl rfl) rfl rfl dX13_assemble_24 rfl rfl ?_
  refine v_iconst hX (v := 0) dX13_assemble_27 (by decide) ?_
  refine v_istore_n hX (lv' := [(1, .int 0), (0, .ref x)]) dX13_assemble_28 (i := 1) rfl (by rw [hnL]; decide) rfl ?_
  refine v_iload_n hX dX13_assemble_29 (i := 1) rfl rfl ?_
  refine v_aload_n hX dX13_assemble_30 (i := 0) rfl rfl ?_
  refine v_get hX (ci := 11) (k := 3) (by simp (disch := omega) only [q_K_s_I, q_K_s_J, q_K_s_P, q_K_s_A, q_K_s_B, q_K_s_C, q_K_r_A, q_K_r_B, y_K_n_O, x_K_n_O, y_K_n_A, x_K_n_A, h1.1, mg_k_1152 h1, mg_k_1171 h1, mg_k_1104 h1, mg_k_1106 h1]) bc_11 (by decide) (by decide) in_11 w_5_219 dX13_assemble_31 (mvE (f := 1103) (v := 0) rfl rfl (by simp (disch := omega) only [q_I_s_J, q_I_s_P, q_I_s_A, q_I_s_B, q_I_s_C, q_I_n_A, q_I_r_A, q_I_r_B, y_I_s_I, x_I_s_I, y_I_n_O, x_I_n_O, mg_i_1102 h1, mg_i_1103 h1, mg_i_1105 h1, mg_i_1107 h1, mg_i_1108 h1, mg_i_1109 h1, mg_i_1110 h1, mg_i_1112 h1, mg_i_1113 h1, mg_i_1114 h1, mg_i_1120 h1, mg_i_1127 h1, mg_i_1128 h1, mg_i_1139 h1, mg_i_1140 h1, mg_i_1141 h1, mg_i_1145 h1, mg_i_1148 h1, mg_i_1153 h1, mg_i_1154 h1, mg_i_1157 h1, mg_i_1159 h1, mg_i_1160 h1, mg_i_1162 h1, mg_i_1163 h1, mg_i_1164 h1, mg_i_1166 h1, mg_i_1167 h1, mg_i_1168 h1, mg_i_1169 h1, mg_i_1170 h1])) ?_
  refine v_icmp_ge hX (tgt := 55) dX13_assemble_34 (by decide) (fun _ => ?_) (fun h => absurd h (by decide))
  refine v_aload_n hX dX13_assemble_55 (i := 0) rfl rfl ?_
  refine v_iconst hX (v := 0) dX13_assemble_56 (by decide) ?_
  refine v_putI hX (ci := 11) (k := 3) (f := 1103) (by simp (disch := omega) only [q_K_s_I, q_K_s_J, q_K_s_P, q_K_s_A, q_K_s_B, q_K_s_C, q_K_r_A, q_K_r_B, y_K_n_O, x_K_n_O, y_K_n_A, x_K_n_A, h1.1, mg_k_1152 h1, mg_k_1171 h1, mg_k_1104 h1, mg_k_1106 h1]) bc_11 (by decide) (by decide) in_11 tyX13_ok nmX13 w_5_219 (Or.inl rfl) rfl rfl dX13_assemble_57 rfl rfl ?_
  refine v_aload_n hX dX13_assemble_60 (i := 0) rfl rfl ?_
  refine v_callV hX (n := 0) (c_M_turnOne h1.s0.s0.s0.s0) (by simp (disch := omega) only [q_K_s_I, q_K_s_J, q_K_s_P, q_K_s_A, q_K_s_B, q_K_s_C, q_K_r_A, q_K_r_B, y_K_n_O, x_K_n_O, y_K_n_A, x_K_n_A, h1.1, mg_k_1152 h1, mg_k_1171 h1, mg_k_1104 h1, mg_k_1106 h1]) bc_11 (by decide) w_6_221 w_6_223 (bw_p (q := (yX13_turnOne, 72)) (List.mem_of_getElem? (i := 42) rfl) rfl) w_1_16 w_6_224 (by decide +kernel) rfl ⟨by decide, by decide⟩ ⟨by omega, by omega⟩ (Nat.le_of_ble_eq_true rfl) rfl dX13_assemble_61 (fun _ _ _ h => h) ?_
  rintro r2 S2 z2 ⟨rfl, rfl, e2⟩
  have h2 : mG S2 x := by rw [e2]; exact h1.s0.s0.s0.s0.s0
  have g2 : mE S S2 x := by rw [e2]; exact ((mE.rf S x).sI.tr g1).sI.sI.sI.sI.sI
  clear e2
  refine v_aload_n hX dX13_assemble_64 (i := 0) rfl rfl ?_
  refine v_get hX (ci := 11) (k := 54) (by simp (disch := omega) only [q_K_s_I, q_K_s_J, q_K_s_P, q_K_s_A, q_K_s_B, q_K_s_C, q_K_r_A, q_K_r_B, y_K_n_O, x_K_n_O, y_K_n_A, x_K_n_A, h2.1, mg_k_1152 h2, mg_k_1171 h2, mg_k_1104 h2, mg_k_1106 h2]) bc_11 (by decide) (by decide) in_11 w_6_30 dX13_assemble_65 (mvE (f := 1154) (v := 0) rfl rfl (by simp (disch := omega) only [q_I_s_J, q_I_s_P, q_I_s_A, q_I_s_B, q_I_s_C, q_I_n_A, q_I_r_A, q_I_r_B, y_I_s_I, x_I_s_I, y_I_n_O, x_I_n_O, mg_i_1102 h2, mg_i_1103 h2, mg_i_1105 h2, mg_i_1107 h2, mg_i_1108 h2, mg_i_1109 h2, mg_i_1110 h2, mg_i_1112 h2, mg_i_1113 h2, mg_i_1114 h2, mg_i_1120 h2, mg_i_1127 h2, mg_i_1128 h2, mg_i_1139 h2, mg_i_1140 h2, mg_i_1141 h2, mg_i_1145 h2, mg_i_1148 h2, mg_i_1153 h2, mg_i_1154 h2, mg_i_1157 h2, mg_i_1159 h2, mg_i_1160 h2, mg_i_1162 h2, mg_i_1163 h2, mg_i_1164 h2, mg_i_1166 h2, mg_i_1167 h2, mg_i_1168 h2, mg_i_1169 h2, mg_i_1170 h2])) ?_
  refine v_if_ne hX (tgt := 79) dX13_assemble_68 (by decide) (fun h => absurd h (by decide)) (fun _ => ?_)
  refine v_aload_n hX dX13_assemble_71 (i := 0) rfl rfl ?_
  refine v_callV hX (n := 0) (c_M_forms h2) (by simp (disch := omega) only [q_K_s_I, q_K_s_J, q_K_s_P, q_K_s_A, q_K_s_B, q_K_s_C, q_K_r_A, q_K_r_B, y_K_n_O, x_K_n_O, y_K_n_A, x_K_n_A, h2.1, mg_k_1152 h2, mg_k_1171 h2, mg_k_1104 h2, mg_k_1106 h2]) bc_11 (by decide) w_7_158 w_7_160 (bw_p (q := (yX13_findForms, 72)) (List.mem_of_getElem? (i := 80) rfl) rfl) w_1_16 w_7_161 (by decide +kernel) rfl ⟨by decide, by decide⟩ ⟨by omega, by omega⟩ (Nat.le_of_ble_eq_true rfl) rfl dX13_assemble_72 (fun _ _ _ h => h) ?_
  rintro r3 S3 z3 ⟨rfl, rfl, h3, g3⟩
  refine v_aload_n hX dX13_assemble_75 (i := 0) rfl rfl ?_
  refine v_callV hX (n := 0) (c_M_two h3) (by simp (disch := omega) only [q_K_s_I, q_K_s_J, q_K_s_P, q_K_s_A, q_K_s_B, q_K_s_C, q_K_r_A, q_K_r_B, y_K_n_O, x_K_n_O, y_K_n_A, x_K_n_A, h3.1, mg_k_1152 h3, mg_k_1171 h3, mg_k_1104 h3, mg_k_1106 h3]) bc_11 (by decide) w_7_186 w_7_188 (bw_p (q := (yX13_turnTwo, 72)) (List.mem_of_getElem? (i := 87) rfl) rfl) w_1_16 w_7_189 (by decide +kernel) rfl ⟨by decide, by decide⟩ ⟨by omega, by omega⟩ (Nat.le_of_ble_eq_true rfl) rfl dX13_assemble_76 (fun _ _ _ h => h) ?_
  rintro r4 S4 z4 ⟨rfl, rfl, e4⟩
  have h4 : mG S4 x := by rw [e4]; exact h3
  have g4 : mE S S4 x := by rw [e4]; exact g2.tr g3
  clear e4
  refine v_aload_n hX dX13_assemble_79 (i := 0) rfl rfl ?_
  refine v_get hX (ci := 11) (k := 54) (by simp (disch := omega) only [q_K_s_I, q_K_s_J, q_K_s_P, q_K_s_A, q_K_s_B, q_K_s_C, q_K_r_A, q_K_r_B, y_K_n_O, x_K_n_O, y_K_n_A, x_K_n_A, h4.1, mg_k_1152 h4, mg_k_1171 h4, mg_k_1104 h4, mg_k_1106 h4]) bc_11 (by decide) (by decide) in_11 w_6_30 dX13_assemble_80 (mvE (f := 1154) (v := 0) rfl rfl (by simp (disch := omega) only [q_I_s_J, q_I_s_P, q_I_s_A, q_I_s_B, q_I_s_C, q_I_n_A, q_I_r_A, q_I_r_B, y_I_s_I, x_I_s_I, y_I_n_O, x_I_n_O, mg_i_1102 h4, mg_i_1103 h4, mg_i_1105 h4, mg_i_1107 h4, mg_i_1108 h4, mg_i_1109 h4, mg_i_1110 h4, mg_i_1112 h4, mg_i_1113 h4, mg_i_1114 h4, mg_i_1120 h4, mg_i_1127 h4, mg_i_1128 h4, mg_i_1139 h4, mg_i_1140 h4, mg_i_1141 h4, mg_i_1145 h4, mg_i_1148 h4, mg_i_1153 h4, mg_i_1154 h4, mg_i_1157 h4, mg_i_1159 h4, mg_i_1160 h4, mg_i_1162 h4, mg_i_1163 h4, mg_i_1164 h4, mg_i_1166 h4, mg_i_1167 h4, mg_i_1168 h4, mg_i_1169 h4, mg_i_1170 h4])) ?_
  refine v_if_eq hX (tgt := 96) dX13_assemble_83 (by decide) (fun _ => ?_) (fun h => absurd h (by decide))
  refine v_iconst hX (v := 0) dX13_assemble_96 (by decide) ?_
  refine v_istore_n hX (lv' := [(1, .int 0), (0, .ref x)]) dX13_assemble_97 (i := 1) rfl (by rw [hnL]; decide) rfl ?_
  refine v_iload_n hX dX13_assemble_98 (i := 1) rfl rfl ?_
  refine v_aload_n hX dX13_assemble_99 (i := 0) rfl rfl ?_
  refine v_get hX (ci := 11) (k := 28) (by simp (disch := omega) only [q_K_s_I, q_K_s_J, q_K_s_P, q_K_s_A, q_K_s_B, q_K_s_C, q_K_r_A, q_K_r_B, y_K_n_O, x_K_n_O, y_K_n_A, x_K_n_A, h4.1, mg_k_1152 h4, mg_k_1171 h4, mg_k_1104 h4, mg_k_1106 h4]) bc_11 (by decide) (by decide) in_11 w_6_4 dX13_assemble_100 (mvE (f := 1128) (v := 0) rfl rfl (by simp (disch := omega) only [q_I_s_J, q_I_s_P, q_I_s_A, q_I_s_B, q_I_s_C, q_I_n_A, q_I_r_A, q_I_r_B, y_I_s_I, x_I_s_I, y_I_n_O, x_I_n_O, mg_i_1102 h4, mg_i_1103 h4, mg_i_1105 h4, mg_i_1107 h4, mg_i_1108 h4, mg_i_1109 h4, mg_i_1110 h4, mg_i_1112 h4, mg_i_1113 h4, mg_i_1114 h4, mg_i_1120 h4, mg_i_1127 h4, mg_i_1128 h4, mg_i_1139 h4, mg_i_1140 h4, mg_i_1141 h4, mg_i_1145 h4, mg_i_1148 h4, mg_i_1153 h4, mg_i_1154 h4, mg_i_1157 h4, mg_i_1159 h4, mg_i_1160 h4, mg_i_1162 h4, mg_i_1163 h4, mg_i_1164 h4, mg_i_1166 h4, mg_i_1167 h4, mg_i_1168 h4, mg_i_1169 h4, mg_i_1170 h4])) ?_
  refine v_icmp_ge hX (tgt := 117) dX13_assemble_103 (by decide) (fun _ => ?_) (fun h => absurd h (by decide))
  refine v_aload_n hX dX13_assemble_117 (i := 0) rfl rfl ?_
  refine v_aload_n hX dX13_assemble_118 (i := 0) rfl rfl ?_
  refine v_get hX (ci := 11) (k := 28) (by simp (disch := omega) only [q_K_s_I, q_K_s_J, q_K_s_P, q_K_s_A, q_K_s_B, q_K_s_C, q_K_r_A, q_K_r_B, y_K_n_O, x_K_n_O, y_K_n_A, x_K_n_A, h4.1, mg_k_1152 h4, mg_k_1171 h4, mg_k_1104 h4, mg_k_1106 h4]) bc_11 (by decide) (by decide) in_11 w_6_4 dX13_assemble_119 (mvE (f := 1128) (v := 0) rfl rfl (by simp (disch := omega) only [q_I_s_J, q_I_s_P, q_I_s_A, q_I_s_B, q_I_s_C, q_I_n_A, q_I_r_A, q_I_r_B, y_I_s_I, x_I_s_I, y_I_n_O, x_I_n_O, mg_i_1102 h4, mg_i_1103 h4, mg_i_1105 h4, mg_i_1107 h4, mg_i_1108 h4, mg_i_1109 h4, mg_i_1110 h4, mg_i_1112 h4, mg_i_1113 h4, mg_i_1114 h4, mg_i_1120 h4, mg_i_1127 h4, mg_i_1128 h4, mg_i_1139 h4, mg_i_1140 h4, mg_i_1141 h4, mg_i_1145 h4, mg_i_1148 h4, mg_i_1153 h4, mg_i_1154 h4, mg_i_1157 h4, mg_i_1159 h4, mg_i_1160 h4, mg_i_1162 h4, mg_i_1163 h4, mg_i_1164 h4, mg_i_1166 h4, mg_i_1167 h4, mg_i_1168 h4, mg_i_1169 h4, mg_i_1170 h4])) ?_
  refine v_callV hX (n := 1) (c_M_sayPool h4) (by simp (disch := omega) only [q_K_s_I, q_K_s_J, q_K_s_P, q_K_s_A, q_K_s_B, q_K_s_C, q_K_r_A, q_K_r_B, y_K_n_O, x_K_n_O, y_K_n_A, x_K_n_A, h4.1, mg_k_1152 h4, mg_k_1171 h4, mg_k_1104 h4, mg_k_1106 h4]) bc_11 (by decide) w_7_212 w_7_214 (bw_p (q := (yX13_sayPool, 72)) (List.mem_of_getElem? (i := 93) rfl) rfl) w_1_16 w_7_215 (by decide +kernel) rfl ⟨by decide, by decide⟩ ⟨by omega, by omega⟩ (Nat.le_of_ble_eq_true rfl) rfl dX13_assemble_122 (fun _ _ _ h => h) ?_
  rintro r5 S5 z5 ⟨rfl, rfl, e5⟩
  have h5 : mG S5 x := by rw [e5]; exact h4
  have g5 : mE S S5 x := by rw [e5]; exact g4
  clear e5
  refine v_aload_n hX dX13_assemble_125 (i := 0) rfl rfl ?_
  refine v_get hX (ci := 11) (k := 57) (by simp (disch := omega) only [q_K_s_I, q_K_s_J, q_K_s_P, q_K_s_A, q_K_s_B, q_K_s_C, q_K_r_A, q_K_r_B, y_K_n_O, x_K_n_O, y_K_n_A, x_K_n_A, h5.1, mg_k_1152 h5, mg_k_1171 h5, mg_k_1104 h5, mg_k_1106 h5]) bc_11 (by decide) (by decide) in_11 w_6_33 dX13_assemble_126 (mvE (f := 1157) (v := 0) rfl rfl (by simp (disch := omega) only [q_I_s_J, q_I_s_P, q_I_s_A, q_I_s_B, q_I_s_C, q_I_n_A, q_I_r_A, q_I_r_B, y_I_s_I, x_I_s_I, y_I_n_O, x_I_n_O, mg_i_1102 h5, mg_i_1103 h5, mg_i_1105 h5, mg_i_1107 h5, mg_i_1108 h5, mg_i_1109 h5, mg_i_1110 h5, mg_i_1112 h5, mg_i_1113 h5, mg_i_1114 h5, mg_i_1120 h5, mg_i_1127 h5, mg_i_1128 h5, mg_i_1139 h5, mg_i_1140 h5, mg_i_1141 h5, mg_i_1145 h5, mg_i_1148 h5, mg_i_1153 h5, mg_i_1154 h5, mg_i_1157 h5, mg_i_1159 h5, mg_i_1160 h5, mg_i_1162 h5, mg_i_1163 h5, mg_i_1164 h5, mg_i_1166 h5, mg_i_1167 h5, mg_i_1168 h5, mg_i_1169 h5, mg_i_1170 h5])) ?_
  exact v_ireturn hX hE dX13_assemble_129 (by omega) (by omega) ⟨rfl, rfl, h5, g5⟩
set_option maxRecDepth 100000 in
set_option maxHeartbeats 4000000 in
theorem c_M_error0 {kn : Nat → Nat} {B : Nat} {S : b_M} {z x : Nat} {k v : Int32} (h : mG S x) : b_C kn B yX13_error cX13_error 3 (some .int) 1 22 0 0 [.ref x, .int k, .int v] S z (fun r S' z' => r = some (.int 0) ∧ z' = z ∧ S' = s_I (s_I S 1102 x 0) 1102 x 1) (fun _ _ _ => False) := by
  refine b_enter (by decide) (Nat.le_of_ble_eq_true rfl) ?_
  intro X hX hE hnL hkn hB hI
  subst hkn; subst hB
  change b_V X S z 0 0 0 [(0, .ref x), (1, .int k), (2, .int v)] []
  refine v_aload_n hX dX13_error_0 (i := 0) rfl rfl ?_
  refine v_iconst hX (v := 0) dX13_error_1 (by decide) ?_
  refine v_putI hX (ci := 11) (k := 2) (f := 1102) (by simp (disch := omega) only [q_K_s_I, q_K_s_J, q_K_s_P, q_K_s_A, q_K_s_B, q_K_s_C, q_K_r_A, q_K_r_B, y_K_n_O, x_K_n_O, y_K_n_A, x_K_n_A, h.1, mg_k_1152 h, mg_k_1171 h, mg_k_1104 h, mg_k_1106 h]) bc_11 (by decide) (by decide) in_11 tyX13_ok nmX13 w_5_218 (Or.inl rfl) rfl rfl dX13_error_2 rfl rfl ?_
  refine v_iload_n hX dX13_error_5 (i := 1) rfl rfl ?_
  refine v_iconst hX (v := 0) dX13_error_6 (by decide) ?_
  refine v_aload_n hX dX13_error_7 (i := 0) rfl rfl ?_
  refine v_get hX (ci := 11) (k := 53) (by simp (disch := omega) only [q_K_s_I, q_K_s_J, q_K_s_P, q_K_s_A, q_K_s_B, q_K_s_C, q_K_r_A, q_K_r_B, y_K_n_O, x_K_n_O, y_K_n_A, x_K_n_A, h.1, mg_k_1152 h, mg_k_1171 h, mg_k_1104 h, mg_k_1106 h]) bc_11 (by decide) (by decide) in_11 w_6_29 dX13_error_8 (mvE (f := 1153) (v := 0) rfl rfl (by simp (disch := omega) only [q_I_s_J, q_I_s_P, q_I_s_A, q_I_s_B, q_I_s_C, q_I_n_A, q_I_r_A, q_I_r_B, y_I_s_I, x_I_s_I, y_I_n_O, x_I_n_O, mg_i_1102 h, mg_i_1103 h, mg_i_1105 h, mg_i_1107 h, mg_i_1108 h, mg_i_1109 h, mg_i_1110 h, mg_i_1112 h, mg_i_1113 h, mg_i_1114 h, mg_i_1120 h, mg_i_1127 h, mg_i_1128 h, mg_i_1139 h, mg_i_1140 h, mg_i_1141 h, mg_i_1145 h, mg_i_1148 h, mg_i_1153 h, mg_i_1154 h, mg_i_1157 h, mg_i_1159 h, mg_i_1160 h, mg_i_1162 h, mg_i_1163 h, mg_i_1164 h, mg_i_1166 h, mg_i_1167 h, mg_i_1168 h, mg_i_1169 h, mg_i_1170 h])) ?_
  refine v_iconst hX (v := 1) dX13_error_11 (by decide) ?_
  refine v_isub hX dX13_error_12 ?_
  refine v_callS hX (n := 3) (c_M_within (v := k) (x := 0) (y := (0 - 1))) w_6_210 w_6_211 w_1_16 w_6_212 (by decide +kernel) rfl ⟨by decide, by decide⟩ ⟨by omega, by omega⟩ (Nat.le_of_ble_eq_true rfl) rfl dX13_error_13 (fun _ _ _ h => h) ?_
  rintro r1 S1 z1 ⟨rfl, rfl, rfl⟩
  refine v_if_eq hX (tgt := 28) dX13_error_16 (by decide) (fun _ => ?_) (fun h1 => absurd (if_neg (fun q => absurd (Int32.le_trans q.1 q.2) (by decide))) h1)
  refine v_aload_n hX dX13_error_28 (i := 0) rfl rfl ?_
  refine v_iconst hX (v := 1) dX13_error_29 (by decide) ?_
  refine v_callV hX (n := 1) (c_M_fail (c := 1) (S := s_I S 1102 x 0) h.1) (by simp (disch := omega) only [q_K_s_I, q_K_s_J, q_K_s_P, q_K_s_A, q_K_s_B, q_K_s_C, q_K_r_A, q_K_r_B, y_K_n_O, x_K_n_O, y_K_n_A, x_K_n_A, h.1, mg_k_1152 h, mg_k_1171 h, mg_k_1104 h, mg_k_1106 h]) bc_11 (by decide) w_6_202 w_6_204 (bw_p (q := (yX13_fail, 72)) (List.mem_of_getElem? (i := 40) rfl) rfl) w_1_16 w_6_205 (by decide +kernel) rfl ⟨by decide, by decide⟩ ⟨by omega, by omega⟩ (Nat.le_of_ble_eq_true rfl) rfl dX13_error_30 (fun _ _ _ h => h) ?_
  rintro r2 S2 z2 ⟨rfl, rfl, rfl⟩
  exact v_ireturn hX hE dX13_error_33 (by omega) (by omega) ⟨rfl, rfl, rfl⟩
set_option maxRecDepth 100000 in
set_option maxHeartbeats 4000000 in
theorem c_M_word0 {kn : Nat → Nat} {B : Nat} {S : b_M} {z x : Nat} {k : Int32} (h : mG S x) : b_C kn B yX13_word cX13_word 2 (some .int) 1 22 0 0 [.ref x, .int k] S z (fun r S' z' => r = some (.int 0) ∧ z' = z ∧ S' = s_I (s_I S 1102 x 0) 1102 x 1) (fun _ _ _ => False) := by
  refine b_enter (by decide) (Nat.le_of_ble_eq_true rfl) ?_
  intro X hX hE hnL hkn hB hI
  subst hkn; subst hB
  change b_V X S z 0 0 0 [(0, .ref x), (1, .int k)] []
  refine v_aload_n hX dX13_word_0 (i := 0) rfl rfl ?_
  refine v_iconst hX (v := 0) dX13_word_1 (by decide) ?_
  refine v_putI hX (ci := 11) (k := 2) (f := 1102) (by simp (disch := omega) only [q_K_s_I, q_K_s_J, q_K_s_P, q_K_s_A, q_K_s_B, q_K_s_C, q_K_r_A, q_K_r_B, y_K_n_O, x_K_n_O, y_K_n_A, x_K_n_A, h.1, mg_k_1152 h, mg_k_1171 h, mg_k_1104 h, mg_k_1106 h]) bc_11 (by decide) (by decide) in_11 tyX13_ok nmX13 w_5_218 (Or.inl rfl) rfl rfl dX13_word_2 rfl rfl ?_
  refine v_iload_n hX dX13_word_5 (i := 1) rfl rfl ?_
  refine v_iconst hX (v := 0) dX13_word_6 (by decide) ?_
  refine v_aload_n hX dX13_word_7 (i := 0) rfl rfl ?_
  refine v_get hX (ci := 11) (k := 57) (by simp (disch := omega) only [q_K_s_I, q_K_s_J, q_K_s_P, q_K_s_A, q_K_s_B, q_K_s_C, q_K_r_A, q_K_r_B, y_K_n_O, x_K_n_O, y_K_n_A, x_K_n_A, h.1, mg_k_1152 h, mg_k_1171 h, mg_k_1104 h, mg_k_1106 h]) bc_11 (by decide) (by decide) in_11 w_6_33 dX13_word_8 (mvE (f := 1157) (v := 0) rfl rfl (by simp (disch := omega) only [q_I_s_J, q_I_s_P, q_I_s_A, q_I_s_B, q_I_s_C, q_I_n_A, q_I_r_A, q_I_r_B, y_I_s_I, x_I_s_I, y_I_n_O, x_I_n_O, mg_i_1102 h, mg_i_1103 h, mg_i_1105 h, mg_i_1107 h, mg_i_1108 h, mg_i_1109 h, mg_i_1110 h, mg_i_1112 h, mg_i_1113 h, mg_i_1114 h, mg_i_1120 h, mg_i_1127 h, mg_i_1128 h, mg_i_1139 h, mg_i_1140 h, mg_i_1141 h, mg_i_1145 h, mg_i_1148 h, mg_i_1153 h, mg_i_1154 h, mg_i_1157 h, mg_i_1159 h, mg_i_1160 h, mg_i_1162 h, mg_i_1163 h, mg_i_1164 h, mg_i_1166 h, mg_i_1167 h, mg_i_1168 h, mg_i_1169 h, mg_i_1170 h])) ?_
  refine v_iconst hX (v := 1) dX13_word_11 (by decide) ?_
  refine v_isub hX dX13_word_12 ?_
  refine v_callS hX (n := 3) (c_M_within (v := k) (x := 0) (y := (0 - 1))) w_6_210 w_6_211 w_1_16 w_6_212 (by decide +kernel) rfl ⟨by decide, by decide⟩ ⟨by omega, by omega⟩ (Nat.le_of_ble_eq_true rfl) rfl dX13_word_13 (fun _ _ _ h => h) ?_
  rintro r1 S1 z1 ⟨rfl, rfl, rfl⟩
  refine v_if_eq hX (tgt := 28) dX13_word_16 (by decide) (fun _ => ?_) (fun h1 => absurd (if_neg (fun q => absurd (Int32.le_trans q.1 q.2) (by decide))) h1)
  refine v_aload_n hX dX13_word_28 (i := 0) rfl rfl ?_
  refine v_iconst hX (v := 1) dX13_word_29 (by decide) ?_
  refine v_callV hX (n := 1) (c_M_fail (c := 1) (S := s_I S 1102 x 0) h.1) (by simp (disch := omega) only [q_K_s_I, q_K_s_J, q_K_s_P, q_K_s_A, q_K_s_B, q_K_s_C, q_K_r_A, q_K_r_B, y_K_n_O, x_K_n_O, y_K_n_A, x_K_n_A, h.1, mg_k_1152 h, mg_k_1171 h, mg_k_1104 h, mg_k_1106 h]) bc_11 (by decide) w_6_202 w_6_204 (bw_p (q := (yX13_fail, 72)) (List.mem_of_getElem? (i := 40) rfl) rfl) w_1_16 w_6_205 (by decide +kernel) rfl ⟨by decide, by decide⟩ ⟨by omega, by omega⟩ (Nat.le_of_ble_eq_true rfl) rfl dX13_word_30 (fun _ _ _ h => h) ?_
  rintro r2 S2 z2 ⟨rfl, rfl, rfl⟩
  exact v_ireturn hX hE dX13_word_33 (by omega) (by omega) ⟨rfl, rfl, rfl⟩
set_option maxRecDepth 100000 in
set_option maxHeartbeats 4000000 in
theorem c_M_statement0 {kn : Nat → Nat} {B : Nat} {S : b_M} {z x : Nat} {k v : Int32} (h : mG S x) : b_C kn B yX13_statement cX13_statement 3 (some .int) 1 22 0 0 [.ref x, .int k, .int v] S z (fun r S' z' => r = some (.int 0) ∧ z' = z ∧ S' = s_I (s_I S 1102 x 0) 1102 x 1) (fun _ _ _ => False) := by
  refine b_enter (by decide) (Nat.le_of_ble_eq_true rfl) ?_
  intro X hX hE hnL hkn hB hI
  subst hkn; subst hB
  change b_V X S z 0 0 0 [(0, .ref x), (1, .int k), (2, .int v)] []
  refine v_aload_n hX dX13_statement_0 (i := 0) rfl rfl ?_
  refine v_iconst hX (v := 0) dX13_statement_1 (by decide) ?_
  refine v_putI hX (ci := 11) (k := 2) (f := 1102) (by simp (disch := omega) only [q_K_s_I, q_K_s_J, q_K_s_P, q_K_s_A, q_K_s_B, q_K_s_C, q_K_r_A, q_K_r_B, y_K_n_O, x_K_n_O, y_K_n_A, x_K_n_A, h.1, mg_k_1152 h, mg_k_1171 h, mg_k_1104 h, mg_k_1106 h]) bc_11 (by decide) (by decide) in_11 tyX13_ok nmX13 w_5_218 (Or.inl rfl) rfl rfl dX13_statement_2 rfl rfl ?_
  refine v_iload_n hX dX13_statement_5 (i := 1) rfl rfl ?_
  refine v_iconst hX (v := 0) dX13_statement_6 (by decide) ?_
  refine v_aload_n hX dX13_statement_7 (i := 0) rfl rfl ?_
  refine v_get hX (ci := 11) (k := 28) (by simp (disch := omega) only [q_K_s_I, q_K_s_J, q_K_s_P, q_K_s_A, q_K_s_B, q_K_s_C, q_K_r_A, q_K_r_B, y_K_n_O, x_K_n_O, y_K_n_A, x_K_n_A, h.1, mg_k_1152 h, mg_k_1171 h, mg_k_1104 h, mg_k_1106 h]) bc_11 (by decide) (by decide) in_11 w_6_4 dX13_statement_8 (mvE (f := 1128) (v := 0) rfl rfl (by simp (disch := omega) only [q_I_s_J, q_I_s_P, q_I_s_A, q_I_s_B, q_I_s_C, q_I_n_A, q_I_r_A, q_I_r_B, y_I_s_I, x_I_s_I, y_I_n_O, x_I_n_O, mg_i_1102 h, mg_i_1103 h, mg_i_1105 h, mg_i_1107 h, mg_i_1108 h, mg_i_1109 h, mg_i_1110 h, mg_i_1112 h, mg_i_1113 h, mg_i_1114 h, mg_i_1120 h, mg_i_1127 h, mg_i_1128 h, mg_i_1139 h, mg_i_1140 h, mg_i_1141 h, mg_i_1145 h, mg_i_1148 h, mg_i_1153 h, mg_i_1154 h, mg_i_1157 h, mg_i_1159 h, mg_i_1160 h, mg_i_1162 h, mg_i_1163 h, mg_i_1164 h, mg_i_1166 h, mg_i_1167 h, mg_i_1168 h, mg_i_1169 h, mg_i_1170 h])) ?_
  refine v_iconst hX (v := 1) dX13_statement_11 (by decide) ?_
  refine v_isub hX dX13_statement_12 ?_
  refine v_callS hX (n := 3) (c_M_within (v := k) (x := 0) (y := (0 - 1))) w_6_210 w_6_211 w_1_16 w_6_212 (by decide +kernel) rfl ⟨by decide, by decide⟩ ⟨by omega, by omega⟩ (Nat.le_of_ble_eq_true rfl) rfl dX13_statement_13 (fun _ _ _ h => h) ?_
  rintro r1 S1 z1 ⟨rfl, rfl, rfl⟩
  refine v_if_eq hX (tgt := 28) dX13_statement_16 (by decide) (fun _ => ?_) (fun h1 => absurd (if_neg (fun q => absurd (Int32.le_trans q.1 q.2) (by decide))) h1)
  refine v_aload_n hX dX13_statement_28 (i := 0) rfl rfl ?_
  refine v_iconst hX (v := 1) dX13_statement_29 (by decide) ?_
  refine v_callV hX (n := 1) (c_M_fail (c := 1) (S := s_I S 1102 x 0) h.1) (by simp (disch := omega) only [q_K_s_I, q_K_s_J, q_K_s_P, q_K_s_A, q_K_s_B, q_K_s_C, q_K_r_A, q_K_r_B, y_K_n_O, x_K_n_O, y_K_n_A, x_K_n_A, h.1, mg_k_1152 h, mg_k_1171 h, mg_k_1104 h, mg_k_1106 h]) bc_11 (by decide) w_6_202 w_6_204 (bw_p (q := (yX13_fail, 72)) (List.mem_of_getElem? (i := 40) rfl) rfl) w_1_16 w_6_205 (by decide +kernel) rfl ⟨by decide, by decide⟩ ⟨by omega, by omega⟩ (Nat.le_of_ble_eq_true rfl) rfl dX13_statement_30 (fun _ _ _ h => h) ?_
  rintro r2 S2 z2 ⟨rfl, rfl, rfl⟩
  exact v_ireturn hX hE dX13_statement_33 (by omega) (by omega) ⟨rfl, rfl, rfl⟩
set_option maxRecDepth 100000 in
set_option maxHeartbeats 4000000 in
theorem c_M_name0 {kn : Nat → Nat} {B : Nat} {S : b_M} {z x : Nat} {k v : Int32} (h : mG S x) : b_C kn B yX13_name cX13_name 5 (some .int) 1 22 0 0 [.ref x, .int k, .int v] S z (fun r S' z' => r = some (.int 0) ∧ z' = z ∧ S' = s_I (s_I S 1102 x 0) 1102 x 1) (fun _ _ _ => False) := by
  refine b_enter (by decide) (Nat.le_of_ble_eq_true rfl) ?_
  intro X hX hE hnL hkn hB hI
  subst hkn; subst hB
  change b_V X S z 0 0 0 [(0, .ref x), (1, .int k), (2, .int v)] []
  have fl : ∀ z0, z0 = z → b_V X (s_I S 1102 x 0) z0 0 0 39 [(0, .ref x), (1, .int k), (2, .int v)] [] := by
    intro z0 e0
    subst e0
    refine v_aload_n hX dX13_name_39 (i := 0) rfl rfl ?_
    refine v_iconst hX (v := 1) dX13_name_40 (by decide) ?_
    refine v_callV hX (n := 1) (c_M_fail (c := 1) (S := s_I S 1102 x 0) h.1) (by simp (disch := omega) only [q_K_s_I, q_K_s_J, q_K_s_P, q_K_s_A, q_K_s_B, q_K_s_C, q_K_r_A, q_K_r_B, y_K_n_O, x_K_n_O, y_K_n_A, x_K_n_A, h.1, mg_k_1152 h, mg_k_1171 h, mg_k_1104 h, mg_k_1106 h]) bc_11 (by decide) w_6_202 w_6_204 (bw_p (q := (yX13_fail, 72)) (List.mem_of_getElem? (i := 40) rfl) rfl) w_1_16 w_6_205 (by decide +kernel) rfl ⟨by decide, by decide⟩ ⟨by omega, by omega⟩ (Nat.le_of_ble_eq_true rfl) rfl dX13_name_41 (fun _ _ _ h => h) ?_
    rintro r2 S2 z2 ⟨rfl, rfl, rfl⟩
    exact v_ireturn hX hE dX13_name_44 (by omega) (by omega) ⟨rfl, rfl, rfl⟩
  have wi : b_V X (s_I S 1102 x 0) z 0 0 33 [(0, .ref x), (1, .int k), (2, .int v)] [.int (0 - 1), .int 0, .int k] := by
    refine v_callS hX (n := 3) (c_M_within (v := k) (x := 0) (y := (0 - 1))) w_6_210 w_6_211 w_1_16 w_6_212 (by decide +kernel) rfl ⟨by decide, by decide⟩ ⟨by omega, by omega⟩ (Nat.le_of_ble_eq_true rfl) rfl dX13_name_33 (fun _ _ _ h => h) ?_
    rintro r3 S3 z3 ⟨rfl, rfl, rfl⟩
    refine v_if_ne hX (tgt := 45) dX13_name_36 (by decide) (fun h1 => absurd (if_neg (fun q => absurd (Int32.le_trans q.1 q.2) (by decide))) h1) (fun _ => fl _ rfl)
  refine v_aload_n hX dX13_name_0 (i := 0) rfl rfl ?_
  refine v_iconst hX (v := 0) dX13_name_1 (by decide) ?_
  refine v_putI hX (ci := 11) (k := 2) (f := 1102) (by simp (disch := omega) only [q_K_s_I, q_K_s_J, q_K_s_P, q_K_s_A, q_K_s_B, q_K_s_C, q_K_r_A, q_K_r_B, y_K_n_O, x_K_n_O, y_K_n_A, x_K_n_A, h.1, mg_k_1152 h, mg_k_1171 h, mg_k_1104 h, mg_k_1106 h]) bc_11 (by decide) (by decide) in_11 tyX13_ok nmX13 w_5_218 (Or.inl rfl) rfl rfl dX13_name_2 rfl rfl ?_
  refine v_iload_n hX dX13_name_5 (i := 2) rfl rfl ?_
  refine v_iconst hX (v := 0) dX13_name_6 (by decide) ?_
  refine v_iconst hX (v := 1) dX13_name_7 (by decide) ?_
  refine v_callS hX (n := 3) (c_M_within (v := v) (x := 0) (y := 1)) w_6_210 w_6_211 w_1_16 w_6_212 (by decide +kernel) rfl ⟨by decide, by decide⟩ ⟨by omega, by omega⟩ (Nat.le_of_ble_eq_true rfl) rfl dX13_name_8 (fun _ _ _ h => h) ?_
  rintro r1 S1 z1 ⟨rfl, rfl, rfl⟩
  refine v_if_eq hX (tgt := 39) dX13_name_11 (by decide) (fun _ => fl _ rfl) (fun _ => ?_)
  refine v_iload_n hX dX13_name_14 (i := 1) rfl rfl ?_
  refine v_iconst hX (v := 0) dX13_name_15 (by decide) ?_
  refine v_iload_n hX dX13_name_16 (i := 2) rfl rfl ?_
  refine v_if_ne hX (tgt := 27) dX13_name_17 (by decide) (fun _ => ?_) (fun _ => ?_)
  ·
    refine v_aload_n hX dX13_name_27 (i := 0) rfl rfl ?_
    refine v_get hX (ci := 11) (k := 48) (by simp (disch := omega) only [q_K_s_I, q_K_s_J, q_K_s_P, q_K_s_A, q_K_s_B, q_K_s_C, q_K_r_A, q_K_r_B, y_K_n_O, x_K_n_O, y_K_n_A, x_K_n_A, h.1, mg_k_1152 h, mg_k_1171 h, mg_k_1104 h, mg_k_1106 h]) bc_11 (by decide) (by decide) in_11 w_6_24 dX13_name_28 (mvE (f := 1148) (v := 0) rfl rfl (by simp (disch := omega) only [q_I_s_J, q_I_s_P, q_I_s_A, q_I_s_B, q_I_s_C, q_I_n_A, q_I_r_A, q_I_r_B, y_I_s_I, x_I_s_I, y_I_n_O, x_I_n_O, mg_i_1102 h, mg_i_1103 h, mg_i_1105 h, mg_i_1107 h, mg_i_1108 h, mg_i_1109 h, mg_i_1110 h, mg_i_1112 h, mg_i_1113 h, mg_i_1114 h, mg_i_1120 h, mg_i_1127 h, mg_i_1128 h, mg_i_1139 h, mg_i_1140 h, mg_i_1141 h, mg_i_1145 h, mg_i_1148 h, mg_i_1153 h, mg_i_1154 h, mg_i_1157 h, mg_i_1159 h, mg_i_1160 h, mg_i_1162 h, mg_i_1163 h, mg_i_1164 h, mg_i_1166 h, mg_i_1167 h, mg_i_1168 h, mg_i_1169 h, mg_i_1170 h])) ?_
    refine v_iconst hX (v := 1) dX13_name_31 (by decide) ?_
    refine v_isub hX dX13_name_32 ?_
    exact wi
  ·
    refine v_aload_n hX dX13_name_20 (i := 0) rfl rfl ?_
    refine v_get hX (ci := 11) (k := 39) (by simp (disch := omega) only [q_K_s_I, q_K_s_J, q_K_s_P, q_K_s_A, q_K_s_B, q_K_s_C, q_K_r_A, q_K_r_B, y_K_n_O, x_K_n_O, y_K_n_A, x_K_n_A, h.1, mg_k_1152 h, mg_k_1171 h, mg_k_1104 h, mg_k_1106 h]) bc_11 (by decide) (by decide) in_11 w_6_15 dX13_name_21 (mvE (f := 1139) (v := 0) rfl rfl (by simp (disch := omega) only [q_I_s_J, q_I_s_P, q_I_s_A, q_I_s_B, q_I_s_C, q_I_n_A, q_I_r_A, q_I_r_B, y_I_s_I, x_I_s_I, y_I_n_O, x_I_n_O, mg_i_1102 h, mg_i_1103 h, mg_i_1105 h, mg_i_1107 h, mg_i_1108 h, mg_i_1109 h, mg_i_1110 h, mg_i_1112 h, mg_i_1113 h, mg_i_1114 h, mg_i_1120 h, mg_i_1127 h, mg_i_1128 h, mg_i_1139 h, mg_i_1140 h, mg_i_1141 h, mg_i_1145 h, mg_i_1148 h, mg_i_1153 h, mg_i_1154 h, mg_i_1157 h, mg_i_1159 h, mg_i_1160 h, mg_i_1162 h, mg_i_1163 h, mg_i_1164 h, mg_i_1166 h, mg_i_1167 h, mg_i_1168 h, mg_i_1169 h, mg_i_1170 h])) ?_
    refine v_goto hX (tgt := 31) dX13_name_24 (by decide) ?_
    refine v_iconst hX (v := 1) dX13_name_31 (by decide) ?_
    refine v_isub hX dX13_name_32 ?_
    exact wi
set_option maxRecDepth 100000 in
set_option maxHeartbeats 4000000 in
theorem c_M_count0 {kn : Nat → Nat} {B : Nat} {S : b_M} {z x : Nat} {k : Int32} (h : mG S x) (i : m_I S 1158 x = 0) : b_C kn B yX13_count cX13_count 2 (some .int) 0 0 0 0 [.ref x, .int k] S z (fun r S' z' => r = some (.int (cnt0 k)) ∧ z' = z ∧ S' = s_I S 1102 x 0) (fun _ _ _ => False) := by
  refine b_enter (by decide) (Nat.le_of_ble_eq_true rfl) ?_
  intro X hX hE hnL hkn hB hI
  subst hkn; subst hB
  change b_V X S z 0 0 0 [(0, .ref x), (1, .int k)] []
  refine v_aload_n hX dX13_count_0 (i := 0) rfl rfl ?_
  refine v_iconst hX (v := 0) dX13_count_1 (by decide) ?_
  refine v_putI hX (ci := 11) (k := 2) (f := 1102) (by simp (disch := omega) only [q_K_s_I, q_K_s_J, q_K_s_P, q_K_s_A, q_K_s_B, q_K_s_C, q_K_r_A, q_K_r_B, y_K_n_O, x_K_n_O, y_K_n_A, x_K_n_A, h.1, mg_k_1152 h, mg_k_1171 h, mg_k_1104 h, mg_k_1106 h]) bc_11 (by decide) (by decide) in_11 tyX13_ok nmX13 w_5_218 (Or.inl rfl) rfl rfl dX13_count_2 rfl rfl ?_
  refine v_iload_n hX dX13_count_5 (i := 1) rfl rfl ?_
  by_cases hk : 0 ≤ k.toInt ∧ k.toInt ≤ 9
  · obtain ⟨k1, k2⟩ := hk
    have hc : k.toInt = 0 ∨ k.toInt = 1 ∨ k.toInt = 2 ∨ k.toInt = 3 ∨ k.toInt = 4 ∨ k.toInt = 5 ∨ k.toInt = 6 ∨ k.toInt = 7 ∨ k.toInt = 8 ∨ k.toInt = 9 := by omega
    rcases hc with e | e | e | e | e | e | e | e | e | e
    · refine v_tableIn hX (off := 54) (tgt := 60) dX13_count_6 (by omega) (by omega) (by rw [e]; rfl) (by decide) ?_
      refine v_aload_n hX dX13_count_60 (i := 0) rfl rfl ?_
      refine v_get hX (ci := 11) (k := 3) (by simp (disch := omega) only [q_K_s_I, q_K_s_J, q_K_s_P, q_K_s_A, q_K_s_B, q_K_s_C, q_K_r_A, q_K_r_B, y_K_n_O, x_K_n_O, y_K_n_A, x_K_n_A, h.1, mg_k_1152 h, mg_k_1171 h, mg_k_1104 h, mg_k_1106 h, i]) bc_11 (by decide) (by decide) in_11 w_5_219 dX13_count_61 (mvE (f := 1103) (v := 0) rfl rfl (by simp (disch := omega) only [q_I_s_J, q_I_s_P, q_I_s_A, q_I_s_B, q_I_s_C, q_I_n_A, q_I_r_A, q_I_r_B, y_I_s_I, x_I_s_I, y_I_n_O, x_I_n_O, mg_i_1102 h, mg_i_1103 h, mg_i_1105 h, mg_i_1107 h, mg_i_1108 h, mg_i_1109 h, mg_i_1110 h, mg_i_1112 h, mg_i_1113 h, mg_i_1114 h, mg_i_1120 h, mg_i_1127 h, mg_i_1128 h, mg_i_1139 h, mg_i_1140 h, mg_i_1141 h, mg_i_1145 h, mg_i_1148 h, mg_i_1153 h, mg_i_1154 h, mg_i_1157 h, mg_i_1159 h, mg_i_1160 h, mg_i_1162 h, mg_i_1163 h, mg_i_1164 h, mg_i_1166 h, mg_i_1167 h, mg_i_1168 h, mg_i_1169 h, mg_i_1170 h, i])) ?_
      exact v_ireturn hX hE dX13_count_64 (by omega) (by omega) ⟨by rw [cnt0, if_pos (by omega)], rfl, rfl⟩
    · refine v_tableIn hX (off := 59) (tgt := 65) dX13_count_6 (by omega) (by omega) (by rw [e]; rfl) (by decide) ?_
      refine v_aload_n hX dX13_count_65 (i := 0) rfl rfl ?_
      refine v_get hX (ci := 11) (k := 57) (by simp (disch := omega) only [q_K_s_I, q_K_s_J, q_K_s_P, q_K_s_A, q_K_s_B, q_K_s_C, q_K_r_A, q_K_r_B, y_K_n_O, x_K_n_O, y_K_n_A, x_K_n_A, h.1, mg_k_1152 h, mg_k_1171 h, mg_k_1104 h, mg_k_1106 h, i]) bc_11 (by decide) (by decide) in_11 w_6_33 dX13_count_66 (mvE (f := 1157) (v := 0) rfl rfl (by simp (disch := omega) only [q_I_s_J, q_I_s_P, q_I_s_A, q_I_s_B, q_I_s_C, q_I_n_A, q_I_r_A, q_I_r_B, y_I_s_I, x_I_s_I, y_I_n_O, x_I_n_O, mg_i_1102 h, mg_i_1103 h, mg_i_1105 h, mg_i_1107 h, mg_i_1108 h, mg_i_1109 h, mg_i_1110 h, mg_i_1112 h, mg_i_1113 h, mg_i_1114 h, mg_i_1120 h, mg_i_1127 h, mg_i_1128 h, mg_i_1139 h, mg_i_1140 h, mg_i_1141 h, mg_i_1145 h, mg_i_1148 h, mg_i_1153 h, mg_i_1154 h, mg_i_1157 h, mg_i_1159 h, mg_i_1160 h, mg_i_1162 h, mg_i_1163 h, mg_i_1164 h, mg_i_1166 h, mg_i_1167 h, mg_i_1168 h, mg_i_1169 h, mg_i_1170 h, i])) ?_
      exact v_ireturn hX hE dX13_count_69 (by omega) (by omega) ⟨by rw [cnt0, if_pos (by omega)], rfl, rfl⟩
    · refine v_tableIn hX (off := 64) (tgt := 70) dX13_count_6 (by omega) (by omega) (by rw [e]; rfl) (by decide) ?_
      refine v_aload_n hX dX13_count_70 (i := 0) rfl rfl ?_
      refine v_get hX (ci := 11) (k := 28) (by simp (disch := omega) only [q_K_s_I, q_K_s_J, q_K_s_P, q_K_s_A, q_K_s_B, q_K_s_C, q_K_r_A, q_K_r_B, y_K_n_O, x_K_n_O, y_K_n_A, x_K_n_A, h.1, mg_k_1152 h, mg_k_1171 h, mg_k_1104 h, mg_k_1106 h, i]) bc_11 (by decide) (by decide) in_11 w_6_4 dX13_count_71 (mvE (f := 1128) (v := 0) rfl rfl (by simp (disch := omega) only [q_I_s_J, q_I_s_P, q_I_s_A, q_I_s_B, q_I_s_C, q_I_n_A, q_I_r_A, q_I_r_B, y_I_s_I, x_I_s_I, y_I_n_O, x_I_n_O, mg_i_1102 h, mg_i_1103 h, mg_i_1105 h, mg_i_1107 h, mg_i_1108 h, mg_i_1109 h, mg_i_1110 h, mg_i_1112 h, mg_i_1113 h, mg_i_1114 h, mg_i_1120 h, mg_i_1127 h, mg_i_1128 h, mg_i_1139 h, mg_i_1140 h, mg_i_1141 h, mg_i_1145 h, mg_i_1148 h, mg_i_1153 h, mg_i_1154 h, mg_i_1157 h, mg_i_1159 h, mg_i_1160 h, mg_i_1162 h, mg_i_1163 h, mg_i_1164 h, mg_i_1166 h, mg_i_1167 h, mg_i_1168 h, mg_i_1169 h, mg_i_1170 h, i])) ?_
      exact v_ireturn hX hE dX13_count_74 (by omega) (by omega) ⟨by rw [cnt0, if_pos (by omega)], rfl, rfl⟩
    · refine v_tableIn hX (off := 69) (tgt := 75) dX13_count_6 (by omega) (by omega) (by rw [e]; rfl) (by decide) ?_
      refine v_aload_n hX dX13_count_75 (i := 0) rfl rfl ?_
      refine v_get hX (ci := 11) (k := 39) (by simp (disch := omega) only [q_K_s_I, q_K_s_J, q_K_s_P, q_K_s_A, q_K_s_B, q_K_s_C, q_K_r_A, q_K_r_B, y_K_n_O, x_K_n_O, y_K_n_A, x_K_n_A, h.1, mg_k_1152 h, mg_k_1171 h, mg_k_1104 h, mg_k_1106 h, i]) bc_11 (by decide) (by decide) in_11 w_6_15 dX13_count_76 (mvE (f := 1139) (v := 0) rfl rfl (by simp (disch := omega) only [q_I_s_J, q_I_s_P, q_I_s_A, q_I_s_B, q_I_s_C, q_I_n_A, q_I_r_A, q_I_r_B, y_I_s_I, x_I_s_I, y_I_n_O, x_I_n_O, mg_i_1102 h, mg_i_1103 h, mg_i_1105 h, mg_i_1107 h, mg_i_1108 h, mg_i_1109 h, mg_i_1110 h, mg_i_1112 h, mg_i_1113 h, mg_i_1114 h, mg_i_1120 h, mg_i_1127 h, mg_i_1128 h, mg_i_1139 h, mg_i_1140 h, mg_i_1141 h, mg_i_1145 h, mg_i_1148 h, mg_i_1153 h, mg_i_1154 h, mg_i_1157 h, mg_i_1159 h, mg_i_1160 h, mg_i_1162 h, mg_i_1163 h, mg_i_1164 h, mg_i_1166 h, mg_i_1167 h, mg_i_1168 h, mg_i_1169 h, mg_i_1170 h, i])) ?_
      exact v_ireturn hX hE dX13_count_79 (by omega) (by omega) ⟨by rw [cnt0, if_pos (by omega)], rfl, rfl⟩
    · refine v_tableIn hX (off := 74) (tgt := 80) dX13_count_6 (by omega) (by omega) (by rw [e]; rfl) (by decide) ?_
      refine v_aload_n hX dX13_count_80 (i := 0) rfl rfl ?_
      refine v_get hX (ci := 11) (k := 48) (by simp (disch := omega) only [q_K_s_I, q_K_s_J, q_K_s_P, q_K_s_A, q_K_s_B, q_K_s_C, q_K_r_A, q_K_r_B, y_K_n_O, x_K_n_O, y_K_n_A, x_K_n_A, h.1, mg_k_1152 h, mg_k_1171 h, mg_k_1104 h, mg_k_1106 h, i]) bc_11 (by decide) (by decide) in_11 w_6_24 dX13_count_81 (mvE (f := 1148) (v := 0) rfl rfl (by simp (disch := omega) only [q_I_s_J, q_I_s_P, q_I_s_A, q_I_s_B, q_I_s_C, q_I_n_A, q_I_r_A, q_I_r_B, y_I_s_I, x_I_s_I, y_I_n_O, x_I_n_O, mg_i_1102 h, mg_i_1103 h, mg_i_1105 h, mg_i_1107 h, mg_i_1108 h, mg_i_1109 h, mg_i_1110 h, mg_i_1112 h, mg_i_1113 h, mg_i_1114 h, mg_i_1120 h, mg_i_1127 h, mg_i_1128 h, mg_i_1139 h, mg_i_1140 h, mg_i_1141 h, mg_i_1145 h, mg_i_1148 h, mg_i_1153 h, mg_i_1154 h, mg_i_1157 h, mg_i_1159 h, mg_i_1160 h, mg_i_1162 h, mg_i_1163 h, mg_i_1164 h, mg_i_1166 h, mg_i_1167 h, mg_i_1168 h, mg_i_1169 h, mg_i_1170 h, i])) ?_
      exact v_ireturn hX hE dX13_count_84 (by omega) (by omega) ⟨by rw [cnt0, if_pos (by omega)], rfl, rfl⟩
    · refine v_tableIn hX (off := 79) (tgt := 85) dX13_count_6 (by omega) (by omega) (by rw [e]; rfl) (by decide) ?_
      refine v_aload_n hX dX13_count_85 (i := 0) rfl rfl ?_
      refine v_get hX (ci := 11) (k := 12) (by simp (disch := omega) only [q_K_s_I, q_K_s_J, q_K_s_P, q_K_s_A, q_K_s_B, q_K_s_C, q_K_r_A, q_K_r_B, y_K_n_O, x_K_n_O, y_K_n_A, x_K_n_A, h.1, mg_k_1152 h, mg_k_1171 h, mg_k_1104 h, mg_k_1106 h, i]) bc_11 (by decide) (by decide) in_11 w_5_228 dX13_count_86 (mvE (f := 1112) (v := 0) rfl rfl (by simp (disch := omega) only [q_I_s_J, q_I_s_P, q_I_s_A, q_I_s_B, q_I_s_C, q_I_n_A, q_I_r_A, q_I_r_B, y_I_s_I, x_I_s_I, y_I_n_O, x_I_n_O, mg_i_1102 h, mg_i_1103 h, mg_i_1105 h, mg_i_1107 h, mg_i_1108 h, mg_i_1109 h, mg_i_1110 h, mg_i_1112 h, mg_i_1113 h, mg_i_1114 h, mg_i_1120 h, mg_i_1127 h, mg_i_1128 h, mg_i_1139 h, mg_i_1140 h, mg_i_1141 h, mg_i_1145 h, mg_i_1148 h, mg_i_1153 h, mg_i_1154 h, mg_i_1157 h, mg_i_1159 h, mg_i_1160 h, mg_i_1162 h, mg_i_1163 h, mg_i_1164 h, mg_i_1166 h, mg_i_1167 h, mg_i_1168 h, mg_i_1169 h, mg_i_1170 h, i])) ?_
      exact v_ireturn hX hE dX13_count_89 (by omega) (by omega) ⟨by rw [cnt0, if_pos (by omega)], rfl, rfl⟩
    · refine v_tableIn hX (off := 84) (tgt := 90) dX13_count_6 (by omega) (by omega) (by rw [e]; rfl) (by decide) ?_
      refine v_aload_n hX dX13_count_90 (i := 0) rfl rfl ?_
      refine v_get hX (ci := 11) (k := 14) (by simp (disch := omega) only [q_K_s_I, q_K_s_J, q_K_s_P, q_K_s_A, q_K_s_B, q_K_s_C, q_K_r_A, q_K_r_B, y_K_n_O, x_K_n_O, y_K_n_A, x_K_n_A, h.1, mg_k_1152 h, mg_k_1171 h, mg_k_1104 h, mg_k_1106 h, i]) bc_11 (by decide) (by decide) in_11 w_5_230 dX13_count_91 (mvE (f := 1114) (v := 0) rfl rfl (by simp (disch := omega) only [q_I_s_J, q_I_s_P, q_I_s_A, q_I_s_B, q_I_s_C, q_I_n_A, q_I_r_A, q_I_r_B, y_I_s_I, x_I_s_I, y_I_n_O, x_I_n_O, mg_i_1102 h, mg_i_1103 h, mg_i_1105 h, mg_i_1107 h, mg_i_1108 h, mg_i_1109 h, mg_i_1110 h, mg_i_1112 h, mg_i_1113 h, mg_i_1114 h, mg_i_1120 h, mg_i_1127 h, mg_i_1128 h, mg_i_1139 h, mg_i_1140 h, mg_i_1141 h, mg_i_1145 h, mg_i_1148 h, mg_i_1153 h, mg_i_1154 h, mg_i_1157 h, mg_i_1159 h, mg_i_1160 h, mg_i_1162 h, mg_i_1163 h, mg_i_1164 h, mg_i_1166 h, mg_i_1167 h, mg_i_1168 h, mg_i_1169 h, mg_i_1170 h, i])) ?_
      exact v_ireturn hX hE dX13_count_94 (by omega) (by omega) ⟨by rw [cnt0, if_pos (by omega)], rfl, rfl⟩
    · refine v_tableIn hX (off := 89) (tgt := 95) dX13_count_6 (by omega) (by omega) (by rw [e]; rfl) (by decide) ?_
      refine v_aload_n hX dX13_count_95 (i := 0) rfl rfl ?_
      refine v_get hX (ci := 11) (k := 58) (by simp (disch := omega) only [q_K_s_I, q_K_s_J, q_K_s_P, q_K_s_A, q_K_s_B, q_K_s_C, q_K_r_A, q_K_r_B, y_K_n_O, x_K_n_O, y_K_n_A, x_K_n_A, h.1, mg_k_1152 h, mg_k_1171 h, mg_k_1104 h, mg_k_1106 h, i]) bc_11 (by decide) (by decide) in_11 w_6_34 dX13_count_96 (mvE (f := 1158) (v := 0) rfl rfl (by simp (disch := omega) only [q_I_s_J, q_I_s_P, q_I_s_A, q_I_s_B, q_I_s_C, q_I_n_A, q_I_r_A, q_I_r_B, y_I_s_I, x_I_s_I, y_I_n_O, x_I_n_O, mg_i_1102 h, mg_i_1103 h, mg_i_1105 h, mg_i_1107 h, mg_i_1108 h, mg_i_1109 h, mg_i_1110 h, mg_i_1112 h, mg_i_1113 h, mg_i_1114 h, mg_i_1120 h, mg_i_1127 h, mg_i_1128 h, mg_i_1139 h, mg_i_1140 h, mg_i_1141 h, mg_i_1145 h, mg_i_1148 h, mg_i_1153 h, mg_i_1154 h, mg_i_1157 h, mg_i_1159 h, mg_i_1160 h, mg_i_1162 h, mg_i_1163 h, mg_i_1164 h, mg_i_1166 h, mg_i_1167 h, mg_i_1168 h, mg_i_1169 h, mg_i_1170 h, i])) ?_
      exact v_ireturn hX hE dX13_count_99 (by omega) (by omega) ⟨by rw [cnt0, if_pos (by omega)], rfl, rfl⟩
    · refine v_tableIn hX (off := 94) (tgt := 100) dX13_count_6 (by omega) (by omega) (by rw [e]; rfl) (by decide) ?_
      refine v_aload_n hX dX13_count_100 (i := 0) rfl rfl ?_
      refine v_get hX (ci := 11) (k := 53) (by simp (disch := omega) only [q_K_s_I, q_K_s_J, q_K_s_P, q_K_s_A, q_K_s_B, q_K_s_C, q_K_r_A, q_K_r_B, y_K_n_O, x_K_n_O, y_K_n_A, x_K_n_A, h.1, mg_k_1152 h, mg_k_1171 h, mg_k_1104 h, mg_k_1106 h, i]) bc_11 (by decide) (by decide) in_11 w_6_29 dX13_count_101 (mvE (f := 1153) (v := 0) rfl rfl (by simp (disch := omega) only [q_I_s_J, q_I_s_P, q_I_s_A, q_I_s_B, q_I_s_C, q_I_n_A, q_I_r_A, q_I_r_B, y_I_s_I, x_I_s_I, y_I_n_O, x_I_n_O, mg_i_1102 h, mg_i_1103 h, mg_i_1105 h, mg_i_1107 h, mg_i_1108 h, mg_i_1109 h, mg_i_1110 h, mg_i_1112 h, mg_i_1113 h, mg_i_1114 h, mg_i_1120 h, mg_i_1127 h, mg_i_1128 h, mg_i_1139 h, mg_i_1140 h, mg_i_1141 h, mg_i_1145 h, mg_i_1148 h, mg_i_1153 h, mg_i_1154 h, mg_i_1157 h, mg_i_1159 h, mg_i_1160 h, mg_i_1162 h, mg_i_1163 h, mg_i_1164 h, mg_i_1166 h, mg_i_1167 h, mg_i_1168 h, mg_i_1169 h, mg_i_1170 h, i])) ?_
      exact v_ireturn hX hE dX13_count_104 (by omega) (by omega) ⟨by rw [cnt0, if_pos (by omega)], rfl, rfl⟩
    · refine v_tableIn hX (off := 99) (tgt := 105) dX13_count_6 (by omega) (by omega) (by rw [e]; rfl) (by decide) ?_
      refine v_aload_n hX dX13_count_105 (i := 0) rfl rfl ?_
      refine v_get hX (ci := 11) (k := 59) (by simp (disch := omega) only [q_K_s_I, q_K_s_J, q_K_s_P, q_K_s_A, q_K_s_B, q_K_s_C, q_K_r_A, q_K_r_B, y_K_n_O, x_K_n_O, y_K_n_A, x_K_n_A, h.1, mg_k_1152 h, mg_k_1171 h, mg_k_1104 h, mg_k_1106 h, i]) bc_11 (by decide) (by decide) in_11 w_6_35 dX13_count_106 (mvE (f := 1159) (v := 0) rfl rfl (by simp (disch := omega) only [q_I_s_J, q_I_s_P, q_I_s_A, q_I_s_B, q_I_s_C, q_I_n_A, q_I_r_A, q_I_r_B, y_I_s_I, x_I_s_I, y_I_n_O, x_I_n_O, mg_i_1102 h, mg_i_1103 h, mg_i_1105 h, mg_i_1107 h, mg_i_1108 h, mg_i_1109 h, mg_i_1110 h, mg_i_1112 h, mg_i_1113 h, mg_i_1114 h, mg_i_1120 h, mg_i_1127 h, mg_i_1128 h, mg_i_1139 h, mg_i_1140 h, mg_i_1141 h, mg_i_1145 h, mg_i_1148 h, mg_i_1153 h, mg_i_1154 h, mg_i_1157 h, mg_i_1159 h, mg_i_1160 h, mg_i_1162 h, mg_i_1163 h, mg_i_1164 h, mg_i_1166 h, mg_i_1167 h, mg_i_1168 h, mg_i_1169 h, mg_i_1170 h, i])) ?_
      exact v_ireturn hX hE dX13_count_109 (by omega) (by omega) ⟨by rw [cnt0, if_pos (by omega)], rfl, rfl⟩
  · refine v_tableOut hX (tgt := 110) dX13_count_6 (by omega) (by decide) ?_
    refine v_iconst hX (v := (-1)) dX13_count_110 (by decide) ?_
    exact v_ireturn hX hE dX13_count_111 (by omega) (by omega) ⟨by rw [cnt0, if_neg hk], rfl, rfl⟩
