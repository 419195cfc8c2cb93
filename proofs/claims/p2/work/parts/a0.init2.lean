theorem bY_nA {S : b_M} {z k n : Nat} (h : bY S) : bY (n_A S z k n) := by
  intro b i hk
  by_cases g : b = z
  · subst g; rw [y_A_n_A]; rfl
  · rw [x_A_n_A _ _ _ _ _ _ g]; rw [x_K_n_A _ _ _ _ _ g] at hk; exact h b i hk
theorem bY_nO {S : b_M} {z k : Nat} (hk : k ≠ 12) (h : bY S) : bY (n_O S z k) := by
  intro b i h1
  by_cases g : b = z
  · subst g; rw [y_K_n_O] at h1; exact absurd h1 hk
  · rw [x_K_n_O _ _ _ _ g] at h1; exact h b i h1
theorem bY_sP {S : b_M} {f a : Nat} {v : Option Nat} (h : bY S) : bY (s_P S f a v) := fun b i hk => h b i hk
theorem bY_sI {S : b_M} {f a : Nat} {v : Int32} (h : bY S) : bY (s_I S f a v) := fun b i hk => h b i hk
theorem bY_sC {S : b_M} {a j : Nat} {v : Option Nat} (h : bY S) : bY (s_C S a j v) := fun b i hk => h b i hk
theorem bY_rA {S : b_M} {a : Nat} {g : Nat → Int32} (hk : m_K S a ≠ 12) (h : bY S) : bY (r_A S a g) := by
  intro b i h1
  by_cases e : b = a
  · subst e; exact absurd h1 hk
  · rw [x_A_r_A _ _ _ _ _ e]; exact h b i h1
theorem c_Errors_init2 {kn : Nat → Nat} {B : Nat} {S : b_M} {z a : Nat} (hK : m_K S a = 1) (hlt : a < z) : b_C kn B yX2_init cX2_init 1 none 1 12 2 100 [.ref a] S z (fun r S' z' => r = none ∧ z' = z + 2 ∧ iErr S S' a z ∧ (bY S → bY S')) (fun _ _ _ => False) := (c_Errors_init hK hlt).mono (fun r S' z' ⟨h1, h2, h3⟩ => ⟨h1, h2, h3 ▸ iErr_of hK hlt, fun h => by rw [h3]; exact bY_sP (bY_nA (bY_sP (bY_nA h)))⟩) (fun _ _ _ h => h)
theorem c_Scanner_init2 {kn : Nat → Nat} {B : Nat} {S : b_M} {z a : Nat} (hK : m_K S a = 7) (hlt : a < z) : b_C kn B yX9_init cX9_init 1 none 1 12 1 0 [.ref a] S z (fun r S' z' => r = none ∧ z' = z + 1 ∧ iScn S S' a z ∧ (bY S → bY S')) (fun _ _ _ => False) := (c_Scanner_init hK hlt).mono (fun r S' z' ⟨h1, h2, h3⟩ => ⟨h1, h2, h3 ▸ iScn_of hK hlt, fun h => by rw [h3]; exact bY_sP (bY_nA h)⟩) (fun _ _ _ h => h)
theorem c_Macros_init2 {kn : Nat → Nat} {B : Nat} {S : b_M} {z a : Nat} (hK : m_K S a = 4) (hlt : a < z) : b_C kn B yX5_init cX5_init 1 none 1 12 3 36 [.ref a] S z (fun r S' z' => r = none ∧ z' = z + 3 ∧ iMac S S' a z ∧ (bY S → bY S')) (fun _ _ _ => False) := (c_Macros_init hK hlt).mono (fun r S' z' ⟨h1, h2, h3⟩ => ⟨h1, h2, h3 ▸ iMac_of hK hlt, fun h => by rw [h3]; exact bY_sP (bY_nA (bY_sP (bY_nA (bY_sP (bY_nA h)))))⟩) (fun _ _ _ h => h)
theorem c_Call_init2 {kn : Nat → Nat} {B : Nat} {S : b_M} {z a : Nat} (hK : m_K S a = 0) (hlt : a < z) : b_C kn B yX1_init cX1_init 1 none 1 12 3 108 [.ref a] S z (fun r S' z' => r = none ∧ z' = z + 3 ∧ iCall S S' a z ∧ (bY S → bY S')) (fun _ _ _ => False) := (c_Call_init hK hlt).mono (fun r S' z' ⟨h1, h2, h3⟩ => ⟨h1, h2, h3 ▸ iCall_of hK hlt, fun h => by rw [h3]; exact bY_sP (bY_nA (bY_sP (bY_nA (bY_sP (bY_sP (bY_nA h))))))⟩) (fun _ _ _ h => h)
theorem c_Expr_init2 {kn : Nat → Nat} {B : Nat} {S : b_M} {z a n : Nat} (hK : m_K S a = 2) (hlt : a < z) : b_C kn B yX3_init cX3_init 2 none 1 12 4 9881 [.ref a, .ref n] S z (fun r S' z' => r = none ∧ z' = z + 4 ∧ iExpr S S' a n z ∧ (bY S → bY S')) (fun _ _ _ => False) := (c_Expressions_init hK hlt).mono (fun r S' z' ⟨h1, h2, h3⟩ => ⟨h1, h2, h3 ▸ i_Expr hK hlt, fun h => by rw [h3]; exact bY_sP (bY_sP (bY_nA (bY_sP (bY_nA (bY_sP (bY_nA (bY_sP (bY_nA h))))))))⟩) (fun _ _ _ h => h)
set_option maxRecDepth 100000 in
set_option maxHeartbeats 4000000 in
theorem i_Names2 {S : b_M} {a z : Nat} (hlt : a < z) : (∀ j, j < 1021 → m_A (sForget (sNames0 S a z) a z) z j = -1) ∧ (∀ j, m_A (sForget (sNames0 S a z) a z) (z + 1) j = 0) ∧ (bY S → bY (sForget (sNames0 S a z) a z)) := by
  refine ⟨fun j hj => ?_, fun j => ?_, fun h => ?_⟩
  · unfold sForget
    rw [q_A_s_I, q_A_s_I, y_A_r_A]
    have e : m_L (sNames0 S a z) z = 1021 := by simp (disch := omega) only [q_L_s_I, q_L_s_J, q_L_s_P, q_L_s_A, q_L_s_B, q_L_s_C, q_L_n_O, q_L_r_A, q_L_r_B, y_L_n_A, x_L_n_A, sNames0]
    show (if j < m_L (sNames0 S a z) z then (-1 : Int32) else m_A (sNames0 S a z) z j) = -1
    rw [e, if_pos hj]
  · simp (disch := omega) only [q_A_s_I, q_A_s_J, q_A_s_P, q_A_s_B, q_A_s_C, q_A_n_O, q_A_r_B, y_A_s_A, x_A_s_A, y_A_n_A, x_A_n_A, y_A_r_A, x_A_r_A, sForget, sNames0]
  · unfold sForget
    refine bY_sI (bY_sI (bY_rA ?_ ?_))
    · have e : m_K (sNames0 S a z) z = 13 := by simp (disch := omega) only [q_K_s_I, q_K_s_J, q_K_s_P, q_K_s_A, q_K_s_B, q_K_s_C, q_K_r_A, q_K_r_B, y_K_n_O, x_K_n_O, y_K_n_A, x_K_n_A, sNames0]
      rw [e]; decide
    · unfold sNames0; exact bY_sP (bY_nA (bY_sP (bY_nA (bY_sP (bY_nA (bY_sP (bY_nA h)))))))
theorem c_Names_init2 {kn : Nat → Nat} {B : Nat} {S : b_M} {z a : Nat} (hK : m_K S a = 5) (hlt : a < z) : b_C kn B yX6_init cX6_init 1 none 2 43 4 3421 [.ref a] S z (fun r S' z' => r = none ∧ z' = z + 4 ∧ iNames S S' a z ∧ (∀ j, j < 1021 → m_A S' z j = -1) ∧ (∀ j, m_A S' (z + 1) j = 0) ∧ (bY S → bY S')) (fun _ _ _ => False) := (c_Names_init hK hlt).mono (fun r S' z' ⟨h1, h2, h3⟩ => ⟨h1, h2, h3 ▸ i_Names hK hlt, by rw [h3]; exact i_Names2 hlt⟩) (fun _ _ _ h => h)
def pInv2 (kn : Nat → Nat) (S0 Si : b_M) (z i : Nat) : Prop := pInv S0 Si z i ∧ (∀ j, j < i → m_P Si 800 (z + 11 + j) = some (kn 0)) ∧ (bY S0 → bY Si)
set_option maxRecDepth 100000 in
set_option maxHeartbeats 4000000 in
theorem prog_loop2 {X : b_T} (hX : b_X X cX8_init RX8 3 63 412 18128) {S0 : b_M} {z a er : Nat} {post : Option Value → b_M → Nat → Prop} {px : String → b_M → Nat → Prop} (hE : b_End X none 412 18128 post px) (hnL : b_n X = 3) (hlt : a < z) (hK : m_K S0 a = 6) (hP : m_P S0 603 a = some (z + 10)) (hp : ∀ Si, pInv2 (b_kn X) S0 Si z 401 → post none Si (z + 412)) :
    ∀ (n i : Nat) (Si : b_M), i + n = 401 → pInv2 (b_kn X) S0 Si z i → b_V X Si (z + 11 + i) (11 + i) (13717 + 11 * i) 47 [(2, .int (nI i)), (0, .ref a), (1, .ref er)] [] := by
  intro n
  induction n with
  | zero =>
    intro i Si h1 hv0
    obtain ⟨hv, hw, hy⟩ := hv0
    have e1 : i = 401 := by omega
    subst e1
    have e := hv.1 a (by omega) (by omega)
    have hK' : m_K Si a = 6 := e.1.trans hK
    have hP' : m_P Si 603 a = some (z + 10) := (e.2.2.2.1 603).trans hP
    refine v_iload_n hX dX8_init_47 (i := 2) rfl rfl ?_
    refine v_aload_n hX dX8_init_48 (i := 0) rfl rfl ?_
    refine v_get hX (ci := 6) (k := 3) (by simp (disch := omega) only [q_K_s_I, q_K_s_J, q_K_s_P, q_K_s_A, q_K_s_B, q_K_s_C, q_K_r_A, q_K_r_B, y_K_n_O, x_K_n_O, y_K_n_A, x_K_n_A, hK', hP']) bc_6 (by decide) (by decide) in_6 w_1_198 dX8_init_49 (mvP (f := 603) (q := (z + 10)) rfl rfl (by simp (disch := omega) only [q_P_s_I, q_P_s_J, q_P_s_A, q_P_s_B, q_P_s_C, q_P_n_A, q_P_r_A, q_P_r_B, y_P_s_P, x_P_s_P, y_P_n_O, x_P_n_O, hK', hP'])) ?_
    refine v_alen hX (hv.2.1) (by decide) (t0 := 5) rfl dX8_init_52 ?_
    rw [hv.2.2.1]
    refine v_icmp_ge hX (tgt := 75) dX8_init_53 (by decide) (fun h => ?_) (fun h => ?_)
    · exact v_return hX hE dX8_init_75 (by omega) (by omega) (hp Si ⟨hv, hw, hy⟩)
    · exact absurd (Int32.le_refl _) h
  | succ n ih =>
    intro i Si h1 hv0
    obtain ⟨hv, hw, hy⟩ := hv0
    have e := hv.1 a (by omega) (by omega)
    have hK' : m_K Si a = 6 := e.1.trans hK
    have hP' : m_P Si 603 a = some (z + 10) := (e.2.2.2.1 603).trans hP
    refine v_iload_n hX dX8_init_47 (i := 2) rfl rfl ?_
    refine v_aload_n hX dX8_init_48 (i := 0) rfl rfl ?_
    refine v_get hX (ci := 6) (k := 3) (by simp (disch := omega) only [q_K_s_I, q_K_s_J, q_K_s_P, q_K_s_A, q_K_s_B, q_K_s_C, q_K_r_A, q_K_r_B, y_K_n_O, x_K_n_O, y_K_n_A, x_K_n_A, hK', hP']) bc_6 (by decide) (by decide) in_6 w_1_198 dX8_init_49 (mvP (f := 603) (q := (z + 10)) rfl rfl (by simp (disch := omega) only [q_P_s_I, q_P_s_J, q_P_s_A, q_P_s_B, q_P_s_C, q_P_n_A, q_P_r_A, q_P_r_B, y_P_s_P, x_P_s_P, y_P_n_O, x_P_n_O, hK', hP'])) ?_
    refine v_alen hX (hv.2.1) (by decide) (t0 := 5) rfl dX8_init_52 ?_
    rw [hv.2.2.1]
    refine v_icmp_ge hX (tgt := 75) dX8_init_53 (by decide) (fun h => ?_) (fun h => ?_)
    · exact absurd h (nI_ge (by omega) (by decide))
    refine v_aload_n hX dX8_init_56 (i := 0) rfl rfl ?_
    refine v_get hX (ci := 6) (k := 3) (by simp (disch := omega) only [q_K_s_I, q_K_s_J, q_K_s_P, q_K_s_A, q_K_s_B, q_K_s_C, q_K_r_A, q_K_r_B, y_K_n_O, x_K_n_O, y_K_n_A, x_K_n_A, hK', hP']) bc_6 (by decide) (by decide) in_6 w_1_198 dX8_init_57 (mvP (f := 603) (q := (z + 10)) rfl rfl (by simp (disch := omega) only [q_P_s_I, q_P_s_J, q_P_s_A, q_P_s_B, q_P_s_C, q_P_n_A, q_P_r_A, q_P_r_B, y_P_s_P, x_P_s_P, y_P_n_O, x_P_n_O, hK', hP'])) ?_
    refine v_iload_n hX dX8_init_60 (i := 2) rfl rfl ?_
    refine v_new hX (ci := 8) bc_8 (by decide) in_8 tyX10_ok dv_8 w_1_132 w_1_134 w_1_7 dX8_init_61 (by omega) (by omega) ?_
    refine v_dup hX dX8_init_64 rfl ?_
    refine v_callI hX (n := 0) (host := "AssembleLines") (c_Statement_init (S := n_O Si (z + 11 + i) 8) (z := z + 11 + i + 1) (a := z + 11 + i) (by simp (disch := omega) only [q_K_s_I, q_K_s_J, q_K_s_P, q_K_s_A, q_K_s_B, q_K_s_C, q_K_r_A, q_K_r_B, y_K_n_O, x_K_n_O, y_K_n_A, x_K_n_A]) (by omega)) (Or.inr (List.mem_of_getElem? (i := 1) rfl)) w_1_136 w_1_7 w_1_137 rfl (by decide +kernel) rfl ⟨by decide, by decide⟩ ⟨by omega, by omega⟩ (Nat.le_of_ble_eq_true rfl) rfl dX8_init_65 (fun _ _ _ h => h) ?_
    rintro r1 S1 z1 ⟨rfl, rfl, rfl⟩
    refine v_aast hX (kd := 17) (t0 := 5) (C := RX10) (ci := 8) (Or.inr rfl) (fun _ => rfl) (by simp (disch := omega) only [q_K_s_I, q_K_s_J, q_K_s_P, q_K_s_A, q_K_s_B, q_K_s_C, q_K_r_A, q_K_r_B, y_K_n_O, x_K_n_O, y_K_n_A, x_K_n_A, hv.2.1]) (by simp (disch := omega) only [q_L_s_I, q_L_s_J, q_L_s_P, q_L_s_A, q_L_s_B, q_L_s_C, q_L_n_O, q_L_r_A, q_L_r_B, y_L_n_A, x_L_n_A, hv.2.2.1]; exact vp_in_nI (by omega) (by decide)) (by simp (disch := omega) only [q_K_s_I, q_K_s_J, q_K_s_P, q_K_s_A, q_K_s_B, q_K_s_C, q_K_r_A, q_K_r_B, y_K_n_O, x_K_n_O, y_K_n_A, x_K_n_A]) (by decide) bc_8 dX8_init_68 ?_
    rw [nI_clamp (by omega)]
    refine v_iinc hX (v := nI (i + 1)) (lv' := [(2, .int (nI (i + 1))), (0, .ref a), (1, .ref er)]) dX8_init_69 rfl (nI_succ i).symm (by rw [hnL]; decide) rfl ?_
    refine v_goto hX (tgt := 47) dX8_init_72 (by decide) ?_
    refine v_widen (c1 := 11 + (i + 1)) (s1 := 13717 + 11 * (i + 1)) (by omega) (by omega) ?_
    refine ih (i + 1) _ (by omega) ⟨⟨fun b g1 g2 => ((hv.1 b g1 g2).tr (e_n_O _ _ _ (by omega))).tr ((e_s_P _ _ _ _ (by omega)).tr (e_s_C _ _ _ _ (by omega))), ?_, ?_, ?_⟩, ?_, ?_⟩
    · simp (disch := omega) only [q_K_s_I, q_K_s_J, q_K_s_P, q_K_s_A, q_K_s_B, q_K_s_C, q_K_r_A, q_K_r_B, y_K_n_O, x_K_n_O, y_K_n_A, x_K_n_A, hv.2.1]
    · simp (disch := omega) only [q_L_s_I, q_L_s_J, q_L_s_P, q_L_s_A, q_L_s_B, q_L_s_C, q_L_n_O, q_L_r_A, q_L_r_B, y_L_n_A, x_L_n_A, hv.2.2.1]
    · intro j hj
      by_cases g : j = i
      · subst g
        exact ⟨by simp (disch := omega) only [q_C_s_I, q_C_s_J, q_C_s_P, q_C_s_A, q_C_s_B, q_C_n_O, q_C_r_A, q_C_r_B, y_C_s_C, x_C_s_C, y_C_n_A, x_C_n_A], by simp (disch := omega) only [q_K_s_I, q_K_s_J, q_K_s_P, q_K_s_A, q_K_s_B, q_K_s_C, q_K_r_A, q_K_r_B, y_K_n_O, x_K_n_O, y_K_n_A, x_K_n_A]⟩
      · obtain ⟨g1, g2⟩ := hv.2.2.2 j (by omega)
        exact ⟨by simp (disch := omega) only [q_C_s_I, q_C_s_J, q_C_s_P, q_C_s_A, q_C_s_B, q_C_n_O, q_C_r_A, q_C_r_B, y_C_s_C, x_C_s_C, y_C_n_A, x_C_n_A, g1], by simp (disch := omega) only [q_K_s_I, q_K_s_J, q_K_s_P, q_K_s_A, q_K_s_B, q_K_s_C, q_K_r_A, q_K_r_B, y_K_n_O, x_K_n_O, y_K_n_A, x_K_n_A, g2]⟩
    · intro j hj
      by_cases g : j = i
      · subst g
        simp (disch := omega) only [q_P_s_I, q_P_s_J, q_P_s_A, q_P_s_B, q_P_s_C, q_P_n_A, q_P_r_A, q_P_r_B, y_P_s_P, x_P_s_P, y_P_n_O, x_P_n_O]
      · have g1 := hw j (by omega)
        simp (disch := omega) only [q_P_s_I, q_P_s_J, q_P_s_A, q_P_s_B, q_P_s_C, q_P_n_A, q_P_r_A, q_P_r_B, y_P_s_P, x_P_s_P, y_P_n_O, x_P_n_O, g1]
    · exact fun h => bY_sC (bY_sP (bY_nO (by decide) (hy h)))
set_option maxRecDepth 100000 in
set_option maxHeartbeats 4000000 in
theorem c_Program_init2 {kn : Nat → Nat} {B : Nat} {S : b_M} {z a er : Nat} (hK : m_K S a = 6) (hlt : a < z) : b_C kn B yX8_init cX8_init 3 none 3 63 412 18128 [.ref a, .ref er] S z (fun r S' z' => r = none ∧ z' = z + 412 ∧ iProg S S' a er z ∧ (∀ j, j < 1021 → m_A S' (z + 1) j = -1) ∧ (∀ j, m_A S' (z + 2) j = 0) ∧ (∀ j, j < 401 → m_P S' 800 (z + 11 + j) = some (kn 0)) ∧ (bY S → bY S')) (fun _ _ _ => False) := by
  refine b_enter (by decide) (Nat.le_of_ble_eq_true rfl) ?_
  intro X hX hE hnL hkn hB hI
  subst hkn; subst hB
  change b_V X S z 0 0 0 [(0, .ref a), (1, .ref er)] []
  refine v_aload_n hX dX8_init_0 (i := 0) rfl rfl ?_
  refine v_objInit hX w_1_63 w_1_35 w_1_36 (by decide) (by decide) dX8_init_1 ?_
  refine v_aload_n hX dX8_init_4 (i := 0) rfl rfl ?_
  refine v_new hX (ci := 5) bc_5 (by decide) in_5 tyX6_ok dv_5 w_1_64 w_1_65 w_1_4 dX8_init_5 (by omega) (by omega) ?_
  refine v_dup hX dX8_init_8 rfl ?_
  refine v_callI hX (n := 0) (host := "AssembleLines") (c_Names_init2 (S := n_O S z 5) (z := z + 1) (a := z) (by simp (disch := omega) only [q_K_s_I, q_K_s_J, q_K_s_P, q_K_s_A, q_K_s_B, q_K_s_C, q_K_r_A, q_K_r_B, y_K_n_O, x_K_n_O, y_K_n_A, x_K_n_A]) (by omega)) (Or.inl w_1_66) w_1_67 w_1_4 w_1_68 rfl (by decide +kernel) rfl ⟨by decide, by decide⟩ ⟨by omega, by omega⟩ (Nat.le_of_ble_eq_true rfl) rfl dX8_init_9 (fun _ _ _ h => h) ?_
  rintro r1 S1 z1 ⟨rfl, rfl, i1, j1, j2, y1⟩
  have ea := i1.1 a (by omega) (by omega)
  have k1 : m_K S1 a = 6 := ea.1.trans (by simp (disch := omega) only [q_K_s_I, q_K_s_J, q_K_s_P, q_K_s_A, q_K_s_B, q_K_s_C, q_K_r_A, q_K_r_B, y_K_n_O, x_K_n_O, y_K_n_A, x_K_n_A, hK])
  refine v_putP hX (ci := 6) (k := 1) (f := 601) (by simp (disch := omega) only [q_K_s_I, q_K_s_J, q_K_s_P, q_K_s_A, q_K_s_B, q_K_s_C, q_K_r_A, q_K_r_B, y_K_n_O, x_K_n_O, y_K_n_A, x_K_n_A, k1]) bc_6 (by decide) (by decide) in_6 tyX8_ok nmX8 w_1_193 (Or.inr ⟨rfl, hI rfl, rfl⟩) rfl rfl dX8_init_12 rfl rfl ?_
  refine v_aload_n hX dX8_init_15 (i := 0) rfl rfl ?_
  refine v_new hX (ci := 2) bc_2 (by decide) in_2 tyX3_ok dv_2 w_1_99 w_1_100 w_1_6 dX8_init_16 (by omega) (by omega) ?_
  refine v_dup hX dX8_init_19 rfl ?_
  refine v_aload_n hX dX8_init_20 (i := 0) rfl rfl ?_
  refine v_get hX (ci := 6) (k := 1) (by simp (disch := omega) only [q_K_s_I, q_K_s_J, q_K_s_P, q_K_s_A, q_K_s_B, q_K_s_C, q_K_r_A, q_K_r_B, y_K_n_O, x_K_n_O, y_K_n_A, x_K_n_A, k1]) bc_6 (by decide) (by decide) in_6 w_1_193 dX8_init_21 (mvP (f := 601) (q := z) rfl rfl (by simp (disch := omega) only [q_P_s_I, q_P_s_J, q_P_s_A, q_P_s_B, q_P_s_C, q_P_n_A, q_P_r_A, q_P_r_B, y_P_s_P, x_P_s_P, y_P_n_O, x_P_n_O, k1])) ?_
  refine v_callI hX (n := 1) (host := "AssembleLines") (c_Expr_init2 (S := n_O (s_P S1 601 a (some z)) (z + 5) 2) (z := z + 6) (a := z + 5) (n := z) (by simp (disch := omega) only [q_K_s_I, q_K_s_J, q_K_s_P, q_K_s_A, q_K_s_B, q_K_s_C, q_K_r_A, q_K_r_B, y_K_n_O, x_K_n_O, y_K_n_A, x_K_n_A]) (by omega)) (Or.inl w_1_101) w_1_102 w_1_6 w_1_103 rfl (by decide +kernel) rfl ⟨by decide, by decide⟩ ⟨by omega, by omega⟩ (Nat.le_of_ble_eq_true rfl) rfl dX8_init_24 (fun _ _ _ h => h) ?_
  rintro r2 S2 z2 ⟨rfl, rfl, i2, y2⟩
  have eb := i2.1 a (by omega) (by omega)
  have k2 : m_K S2 a = 6 := eb.1.trans (by simp (disch := omega) only [q_K_s_I, q_K_s_J, q_K_s_P, q_K_s_A, q_K_s_B, q_K_s_C, q_K_r_A, q_K_r_B, y_K_n_O, x_K_n_O, y_K_n_A, x_K_n_A, k1])
  refine v_putP hX (ci := 6) (k := 2) (f := 602) (by simp (disch := omega) only [q_K_s_I, q_K_s_J, q_K_s_P, q_K_s_A, q_K_s_B, q_K_s_C, q_K_r_A, q_K_r_B, y_K_n_O, x_K_n_O, y_K_n_A, x_K_n_A, k2]) bc_6 (by decide) (by decide) in_6 tyX8_ok nmX8 w_1_196 (Or.inr ⟨rfl, hI rfl, rfl⟩) rfl rfl dX8_init_27 rfl rfl ?_
  refine v_aload_n hX dX8_init_30 (i := 0) rfl rfl ?_
  refine v_sipush hX (v := (401)) dX8_init_31 (by decide) ?_
  refine v_anew hX (kd := 17) (t0 := 5) (C := RX10) (N := 401) (Or.inr rfl) (fun _ => rfl) w_1_132 (List.mem_of_getElem? (i := 0) rfl) dX8_init_34 (by decide) (by decide) (by decide) (by omega) (by omega) ?_
  refine v_putP hX (ci := 6) (k := 3) (f := 603) (by simp (disch := omega) only [q_K_s_I, q_K_s_J, q_K_s_P, q_K_s_A, q_K_s_B, q_K_s_C, q_K_r_A, q_K_r_B, y_K_n_O, x_K_n_O, y_K_n_A, x_K_n_A, k2]) bc_6 (by decide) (by decide) in_6 tyX8_ok nmX8 w_1_198 (Or.inr ⟨rfl, hI rfl, rfl⟩) rfl rfl dX8_init_37 rfl rfl ?_
  refine v_aload_n hX dX8_init_40 (i := 0) rfl rfl ?_
  refine v_aload_n hX dX8_init_41 (i := 1) rfl rfl ?_
  refine v_putP hX (ci := 6) (k := 0) (f := 600) (by simp (disch := omega) only [q_K_s_I, q_K_s_J, q_K_s_P, q_K_s_A, q_K_s_B, q_K_s_C, q_K_r_A, q_K_r_B, y_K_n_O, x_K_n_O, y_K_n_A, x_K_n_A, k2]) bc_6 (by decide) (by decide) in_6 tyX8_ok nmX8 w_1_192 (Or.inr ⟨rfl, hI rfl, rfl⟩) rfl rfl dX8_init_42 rfl rfl ?_
  refine v_iconst hX (v := nI 0) dX8_init_45 (by decide) ?_
  refine v_istore_n hX (lv' := [(2, .int (nI 0)), (0, .ref a), (1, .ref er)]) dX8_init_46 (i := 2) rfl (by rw [hnL]; decide) rfl ?_
  change b_V X (s_P (s_P (n_A (s_P S2 602 a (some (z + 5))) (z + 10) 17 401) 603 a (some (z + 10))) 600 a (some er)) (z + 11) 11 13717 47 _ _
  refine prog_loop2 hX hE hnL hlt (by simp (disch := omega) only [q_K_s_I, q_K_s_J, q_K_s_P, q_K_s_A, q_K_s_B, q_K_s_C, q_K_r_A, q_K_r_B, y_K_n_O, x_K_n_O, y_K_n_A, x_K_n_A, k2]) (by simp (disch := omega) only [q_P_s_I, q_P_s_J, q_P_s_A, q_P_s_B, q_P_s_C, q_P_n_A, q_P_r_A, q_P_r_B, y_P_s_P, x_P_s_P, y_P_n_O, x_P_n_O]) (fun Si hv0 => ?_) 401 0 _ rfl ⟨⟨fun b _ _ => b_eq.rf _ _, (by simp (disch := omega) only [q_K_s_I, q_K_s_J, q_K_s_P, q_K_s_A, q_K_s_B, q_K_s_C, q_K_r_A, q_K_r_B, y_K_n_O, x_K_n_O, y_K_n_A, x_K_n_A]), (by simp (disch := omega) only [q_L_s_I, q_L_s_J, q_L_s_P, q_L_s_A, q_L_s_B, q_L_s_C, q_L_n_O, q_L_r_A, q_L_r_B, y_L_n_A, x_L_n_A]), fun j hj => absurd hj (by omega)⟩, fun j hj => absurd hj (by omega), fun h => h⟩
  obtain ⟨hv, hw, hy⟩ := hv0
  have s2 : ∀ b, b < z + 10 → b ≠ a → b_eq S2 Si b := fun b g1 g2 => ((e_s_P _ _ _ _ g2).tr ((e_n_A _ _ _ _ (by omega)).tr ((e_s_P _ _ _ _ g2).tr (e_s_P _ _ _ _ g2)))).tr (hv.1 b (by omega) (by omega))
  have s1 : ∀ b, b < z + 5 → b ≠ a → b_eq S1 Si b := fun b g1 g2 => ((e_s_P _ _ _ _ g2).tr ((e_n_O _ _ _ (by omega)).tr (i2.1 b (by omega) (by omega)))).tr (s2 b (by omega) g2)
  have ec := hv.1 a (by omega) (by omega)
  refine ⟨rfl, rfl, ⟨fun b g1 g2 => ((e_n_O _ _ _ (by omega)).tr (i1.1 b (by omega) (by omega))).tr (s1 b (by omega) g2), ec.1.trans (by simp (disch := omega) only [q_K_s_I, q_K_s_J, q_K_s_P, q_K_s_A, q_K_s_B, q_K_s_C, q_K_r_A, q_K_r_B, y_K_n_O, x_K_n_O, y_K_n_A, x_K_n_A, k2]), fun f => (ec.2.1 f).trans ?_, ⟨(ec.2.2.2.1 _).trans (by simp (disch := omega) only [q_P_s_I, q_P_s_J, q_P_s_A, q_P_s_B, q_P_s_C, q_P_n_A, q_P_r_A, q_P_r_B, y_P_s_P, x_P_s_P, y_P_n_O, x_P_n_O]), (ec.2.2.2.1 _).trans ?_, (ec.2.2.2.1 _).trans (by simp (disch := omega) only [q_P_s_I, q_P_s_J, q_P_s_A, q_P_s_B, q_P_s_C, q_P_n_A, q_P_r_A, q_P_r_B, y_P_s_P, x_P_s_P, y_P_n_O, x_P_n_O]), (ec.2.2.2.1 _).trans (by simp (disch := omega) only [q_P_s_I, q_P_s_J, q_P_s_A, q_P_s_B, q_P_s_C, q_P_n_A, q_P_r_A, q_P_r_B, y_P_s_P, x_P_s_P, y_P_n_O, x_P_n_O])⟩, ⟨_, _, i1, fun b g1 g2 => s1 b g2 (by omega)⟩, ⟨_, _, i2, fun f => ?_, fun b g1 g2 => s2 b g2 (by omega)⟩, hv.2.1, hv.2.2.1, hv.2.2.2⟩, fun j hj => ((s1 (z + 1) (by omega) (by omega)).2.2.2.2.2.1 j).trans (j1 j hj), fun j => ((s1 (z + 2) (by omega) (by omega)).2.2.2.2.2.1 j).trans (j2 j), hw, fun h => hy (bY_sP (bY_sP (bY_nA (bY_sP ((y2 (bY_nO (by decide) (bY_sP ((y1 (bY_nO (by decide) h)))))))))))⟩
  · rw [show m_I (s_P (s_P (n_A (s_P S2 602 a (some (z + 5))) (z + 10) 17 401) 603 a (some (z + 10))) 600 a (some er)) f a = m_I S2 f a from (by simp (disch := omega) only [q_I_s_J, q_I_s_P, q_I_s_A, q_I_s_B, q_I_s_C, q_I_n_A, q_I_r_A, q_I_r_B, y_I_s_I, x_I_s_I, y_I_n_O, x_I_n_O]), eb.2.1 f, show m_I (n_O (s_P S1 601 a (some z)) (z + 5) 2) f a = m_I S1 f a from (by simp (disch := omega) only [q_I_s_J, q_I_s_P, q_I_s_A, q_I_s_B, q_I_s_C, q_I_n_A, q_I_r_A, q_I_r_B, y_I_s_I, x_I_s_I, y_I_n_O, x_I_n_O]), ea.2.1 f]; simp (disch := omega) only [q_I_s_J, q_I_s_P, q_I_s_A, q_I_s_B, q_I_s_C, q_I_n_A, q_I_r_A, q_I_r_B, y_I_s_I, x_I_s_I, y_I_n_O, x_I_n_O]
  · rw [show m_P (s_P (s_P (n_A (s_P S2 602 a (some (z + 5))) (z + 10) 17 401) 603 a (some (z + 10))) 600 a (some er)) 601 a = m_P S2 601 a from (by simp (disch := omega) only [q_P_s_I, q_P_s_J, q_P_s_A, q_P_s_B, q_P_s_C, q_P_n_A, q_P_r_A, q_P_r_B, y_P_s_P, x_P_s_P, y_P_n_O, x_P_n_O]), eb.2.2.2.1 601]; simp (disch := omega) only [q_P_s_I, q_P_s_J, q_P_s_A, q_P_s_B, q_P_s_C, q_P_n_A, q_P_r_A, q_P_r_B, y_P_s_P, x_P_s_P, y_P_n_O, x_P_n_O]
  · simp (disch := omega) only [q_I_s_J, q_I_s_P, q_I_s_A, q_I_s_B, q_I_s_C, q_I_n_A, q_I_r_A, q_I_r_B, y_I_s_I, x_I_s_I, y_I_n_O, x_I_n_O]
def lInv2 (S0 Si : b_M) (z i : Nat) : Prop := lInv S0 Si z i ∧ (bY S0 → bY Si)
set_option maxRecDepth 100000 in
set_option maxHeartbeats 4000000 in
theorem lines_loop2 {X : b_T} (hX : b_X X cX4_init RX4 2 32 31 1068) {S0 : b_M} {z a : Nat} {post : Option Value → b_M → Nat → Prop} {px : String → b_M → Nat → Prop} (hE : b_End X none 31 1068 post px) (hnL : b_n X = 2) (hlt : a < z) (hK : m_K S0 a = 3) (hP : m_P S0 300 a = some z) (hp : ∀ Si, lInv2 S0 Si z 7 → post none Si (z + 31)) :
    ∀ (n i : Nat) (Si : b_M), i + n = 7 → lInv2 S0 Si z i → b_V X Si (z + 3 + 4 * i) (3 + 4 * i) (263 + 115 * i) 39 [(1, .int (nI i)), (0, .ref a)] [] := by
  intro n
  induction n with
  | zero =>
    intro i Si h1 hv0
    obtain ⟨hv, hy⟩ := hv0
    have e1 : i = 7 := by omega
    subst e1
    have e := hv.1 a (by omega) (by omega)
    have hK' : m_K Si a = 3 := e.1.trans hK
    have hP' : m_P Si 300 a = some z := (e.2.2.2.1 300).trans hP
    refine v_iload_n hX dX4_init_39 (i := 1) rfl rfl ?_
    refine v_aload_n hX dX4_init_40 (i := 0) rfl rfl ?_
    refine v_get hX (ci := 3) (k := 0) (by simp (disch := omega) only [q_K_s_I, q_K_s_J, q_K_s_P, q_K_s_A, q_K_s_B, q_K_s_C, q_K_r_A, q_K_r_B, y_K_n_O, x_K_n_O, y_K_n_A, x_K_n_A, hK', hP']) bc_3 (by decide) (by decide) in_3 w_2_76 dX4_init_41 (mvP (f := 300) (q := z) rfl rfl (by simp (disch := omega) only [q_P_s_I, q_P_s_J, q_P_s_A, q_P_s_B, q_P_s_C, q_P_n_A, q_P_r_A, q_P_r_B, y_P_s_P, x_P_s_P, y_P_n_O, x_P_n_O, hK', hP'])) ?_
    refine v_alen hX (hv.2.1) (by decide) (t0 := 4) rfl dX4_init_44 ?_
    rw [hv.2.2.1]
    refine v_icmp_ge hX (tgt := 67) dX4_init_45 (by decide) (fun h => ?_) (fun h => ?_)
    · exact v_return hX hE dX4_init_67 (by omega) (by omega) (hp Si ⟨hv, hy⟩)
    · exact absurd (Int32.le_refl _) h
  | succ n ih =>
    intro i Si h1 hv0
    obtain ⟨hv, hy⟩ := hv0
    have e := hv.1 a (by omega) (by omega)
    have hK' : m_K Si a = 3 := e.1.trans hK
    have hP' : m_P Si 300 a = some z := (e.2.2.2.1 300).trans hP
    refine v_iload_n hX dX4_init_39 (i := 1) rfl rfl ?_
    refine v_aload_n hX dX4_init_40 (i := 0) rfl rfl ?_
    refine v_get hX (ci := 3) (k := 0) (by simp (disch := omega) only [q_K_s_I, q_K_s_J, q_K_s_P, q_K_s_A, q_K_s_B, q_K_s_C, q_K_r_A, q_K_r_B, y_K_n_O, x_K_n_O, y_K_n_A, x_K_n_A, hK', hP']) bc_3 (by decide) (by decide) in_3 w_2_76 dX4_init_41 (mvP (f := 300) (q := z) rfl rfl (by simp (disch := omega) only [q_P_s_I, q_P_s_J, q_P_s_A, q_P_s_B, q_P_s_C, q_P_n_A, q_P_r_A, q_P_r_B, y_P_s_P, x_P_s_P, y_P_n_O, x_P_n_O, hK', hP'])) ?_
    refine v_alen hX (hv.2.1) (by decide) (t0 := 4) rfl dX4_init_44 ?_
    rw [hv.2.2.1]
    refine v_icmp_ge hX (tgt := 67) dX4_init_45 (by decide) (fun h => ?_) (fun h => ?_)
    · exact absurd h (nI_ge (by omega) (by decide))
    refine v_aload_n hX dX4_init_48 (i := 0) rfl rfl ?_
    refine v_get hX (ci := 3) (k := 0) (by simp (disch := omega) only [q_K_s_I, q_K_s_J, q_K_s_P, q_K_s_A, q_K_s_B, q_K_s_C, q_K_r_A, q_K_r_B, y_K_n_O, x_K_n_O, y_K_n_A, x_K_n_A, hK', hP']) bc_3 (by decide) (by decide) in_3 w_2_76 dX4_init_49 (mvP (f := 300) (q := z) rfl rfl (by simp (disch := omega) only [q_P_s_I, q_P_s_J, q_P_s_A, q_P_s_B, q_P_s_C, q_P_n_A, q_P_r_A, q_P_r_B, y_P_s_P, x_P_s_P, y_P_n_O, x_P_n_O, hK', hP'])) ?_
    refine v_iload_n hX dX4_init_52 (i := 1) rfl rfl ?_
    refine v_new hX (ci := 0) bc_0 (by decide) in_0 tyX1_ok dv_0 w_2_41 w_2_43 w_1_14 dX4_init_53 (by omega) (by omega) ?_
    refine v_dup hX dX4_init_56 rfl ?_
    refine v_callI hX (n := 0) (host := "AssembleLines") (c_Call_init2 (S := n_O Si (z + 3 + 4 * i) 0) (z := z + 3 + 4 * i + 1) (a := z + 3 + 4 * i) (by simp (disch := omega) only [q_K_s_I, q_K_s_J, q_K_s_P, q_K_s_A, q_K_s_B, q_K_s_C, q_K_r_A, q_K_r_B, y_K_n_O, x_K_n_O, y_K_n_A, x_K_n_A]) (by omega)) (Or.inr (List.mem_of_getElem? (i := 4) rfl)) w_2_45 w_1_14 w_2_46 rfl (by decide +kernel) rfl ⟨by decide, by decide⟩ ⟨by omega, by omega⟩ (Nat.le_of_ble_eq_true rfl) rfl dX4_init_57 (fun _ _ _ h => h) ?_
    rintro r1 S1 z1 ⟨rfl, rfl, i1, y1⟩
    have ez := i1.1 z (by omega) (by omega)
    have kz : m_K S1 z = 16 := ez.1.trans (by simp (disch := omega) only [q_K_s_I, q_K_s_J, q_K_s_P, q_K_s_A, q_K_s_B, q_K_s_C, q_K_r_A, q_K_r_B, y_K_n_O, x_K_n_O, y_K_n_A, x_K_n_A, hv.2.1])
    have lz : m_L S1 z = 7 := ez.2.2.2.2.1.trans (by simp (disch := omega) only [q_L_s_I, q_L_s_J, q_L_s_P, q_L_s_A, q_L_s_B, q_L_s_C, q_L_n_O, q_L_r_A, q_L_r_B, y_L_n_A, x_L_n_A, hv.2.2.1])
    refine v_aast hX (kd := 16) (t0 := 4) (C := RX1) (ci := 0) (Or.inl rfl) (fun _ => rfl) kz (by rw [lz]; exact vp_in_nI (by omega) (by decide)) i1.2.1 (by decide) bc_0 dX4_init_60 ?_
    rw [nI_clamp (by omega)]
    refine v_iinc hX (v := nI (i + 1)) (lv' := [(1, .int (nI (i + 1))), (0, .ref a)]) dX4_init_61 rfl (nI_succ i).symm (by rw [hnL]; decide) rfl ?_
    refine v_goto hX (tgt := 39) dX4_init_64 (by decide) ?_
    refine v_widen (c1 := 3 + 4 * (i + 1)) (s1 := 263 + 115 * (i + 1)) (by omega) (by omega) ?_
    rw [show z + 3 + 4 * i + 1 + 3 = z + 3 + 4 * (i + 1) by omega]
    have fr : ∀ b, b < z + 3 + 4 * i → b ≠ z → b_eq Si (s_C S1 z i (some (z + 3 + 4 * i))) b := fun b g1 g2 => ((e_n_O _ _ _ (by omega)).tr (i1.1 b (by omega) (by omega))).tr (e_s_C _ _ _ _ (by omega))
    refine ih (i + 1) _ (by omega) ⟨⟨fun b g1 g2 => (hv.1 b g1 g2).tr (fr b (by omega) g2), ?_, ?_, ?_⟩, ?_⟩
    · simp (disch := omega) only [q_K_s_I, q_K_s_J, q_K_s_P, q_K_s_A, q_K_s_B, q_K_s_C, q_K_r_A, q_K_r_B, y_K_n_O, x_K_n_O, y_K_n_A, x_K_n_A, kz]
    · simp (disch := omega) only [q_L_s_I, q_L_s_J, q_L_s_P, q_L_s_A, q_L_s_B, q_L_s_C, q_L_n_O, q_L_r_A, q_L_r_B, y_L_n_A, x_L_n_A, lz]
    · intro j hj
      by_cases g : j = i
      · subst g
        exact ⟨by simp (disch := omega) only [q_C_s_I, q_C_s_J, q_C_s_P, q_C_s_A, q_C_s_B, q_C_n_O, q_C_r_A, q_C_r_B, y_C_s_C, x_C_s_C, y_C_n_A, x_C_n_A], _, _, i1, fun f => by simp (disch := omega) only [q_I_s_J, q_I_s_P, q_I_s_A, q_I_s_B, q_I_s_C, q_I_n_A, q_I_r_A, q_I_r_B, y_I_s_I, x_I_s_I, y_I_n_O, x_I_n_O], fun b g1 g2 => e_s_C _ _ _ _ (by omega)⟩
      · obtain ⟨g1, A1, A2, g2, g3, g4⟩ := hv.2.2.2 j (by omega)
        refine ⟨?_, A1, A2, g2, g3, fun b b1 b2 => (g4 b b1 b2).tr (fr b (by omega) (by omega))⟩
        rw [x_C_s_C _ _ _ _ _ _ (Or.inr g), ez.2.2.2.2.2.2.2 j]
        simp (disch := omega) only [q_C_s_I, q_C_s_J, q_C_s_P, q_C_s_A, q_C_s_B, q_C_n_O, q_C_r_A, q_C_r_B, y_C_s_C, x_C_s_C, y_C_n_A, x_C_n_A, g1]
    · exact fun h => bY_sC (y1 (bY_nO (by decide) (hy h)))
set_option maxRecDepth 100000 in
set_option maxHeartbeats 4000000 in
theorem c_Lines_init2 {kn : Nat → Nat} {B : Nat} {S : b_M} {z a : Nat} (hK : m_K S a = 3) (hlt : a < z) : b_C kn B yX4_init cX4_init 2 none 2 32 31 1068 [.ref a] S z (fun r S' z' => r = none ∧ z' = z + 31 ∧ iLines S S' a z ∧ (bY S → bY S')) (fun _ _ _ => False) := by
  refine b_enter (by decide) (Nat.le_of_ble_eq_true rfl) ?_
  intro X hX hE hnL hkn hB hI
  subst hkn; subst hB
  change b_V X S z 0 0 0 [(0, .ref a)] []
  refine v_aload_n hX dX4_init_0 (i := 0) rfl rfl ?_
  refine v_objInit hX w_2_40 w_1_35 w_1_36 (by decide) (by decide) dX4_init_1 ?_
  refine v_aload_n hX dX4_init_4 (i := 0) rfl rfl ?_
  refine v_bipush hX (v := (7)) dX4_init_5 (by decide) ?_
  refine v_anew hX (kd := 16) (t0 := 4) (C := RX1) (N := 7) (Or.inl rfl) (fun _ => rfl) w_2_41 (List.mem_of_getElem? (i := 1) rfl) dX4_init_7 (by decide) (by decide) (by decide) (by omega) (by omega) ?_
  refine v_putP hX (ci := 3) (k := 0) (f := 300) (by simp (disch := omega) only [q_K_s_I, q_K_s_J, q_K_s_P, q_K_s_A, q_K_s_B, q_K_s_C, q_K_r_A, q_K_r_B, y_K_n_O, x_K_n_O, y_K_n_A, x_K_n_A, hK]) bc_3 (by decide) (by decide) in_3 tyX4_ok nmX4 w_2_76 (Or.inr ⟨rfl, hI rfl, rfl⟩) rfl rfl dX4_init_10 rfl rfl ?_
  refine v_aload_n hX dX4_init_13 (i := 0) rfl rfl ?_
  refine v_iconst hX (v := (0)) dX4_init_14 (by decide) ?_
  refine v_newa_b hX (N := 0) w_1_56 dX4_init_15 (by decide) (by decide) (by decide) (by omega) (by omega) ?_
  refine v_putP hX (ci := 3) (k := 2) (f := 302) (by simp (disch := omega) only [q_K_s_I, q_K_s_J, q_K_s_P, q_K_s_A, q_K_s_B, q_K_s_C, q_K_r_A, q_K_r_B, y_K_n_O, x_K_n_O, y_K_n_A, x_K_n_A, hK]) bc_3 (by decide) (by decide) in_3 tyX4_ok nmX4 w_2_78 (Or.inl rfl) rfl rfl dX4_init_17 rfl rfl ?_
  refine v_aload_n hX dX4_init_20 (i := 0) rfl rfl ?_
  refine v_sipush hX (v := (256)) dX4_init_21 (by decide) ?_
  refine v_newa_b hX (N := 256) w_1_56 dX4_init_24 (by decide) (by decide) (by decide) (by omega) (by omega) ?_
  refine v_putP hX (ci := 3) (k := 4) (f := 304) (by simp (disch := omega) only [q_K_s_I, q_K_s_J, q_K_s_P, q_K_s_A, q_K_s_B, q_K_s_C, q_K_r_A, q_K_r_B, y_K_n_O, x_K_n_O, y_K_n_A, x_K_n_A, hK]) bc_3 (by decide) (by decide) in_3 tyX4_ok nmX4 w_2_80 (Or.inl rfl) rfl rfl dX4_init_26 rfl rfl ?_
  refine v_aload_n hX dX4_init_29 (i := 0) rfl rfl ?_
  refine v_aload_n hX dX4_init_30 (i := 0) rfl rfl ?_
  refine v_get hX (ci := 3) (k := 2) (by simp (disch := omega) only [q_K_s_I, q_K_s_J, q_K_s_P, q_K_s_A, q_K_s_B, q_K_s_C, q_K_r_A, q_K_r_B, y_K_n_O, x_K_n_O, y_K_n_A, x_K_n_A, hK]) bc_3 (by decide) (by decide) in_3 w_2_78 dX4_init_31 (mvP (f := 302) (q := (z + 1)) rfl rfl (by simp (disch := omega) only [q_P_s_I, q_P_s_J, q_P_s_A, q_P_s_B, q_P_s_C, q_P_n_A, q_P_r_A, q_P_r_B, y_P_s_P, x_P_s_P, y_P_n_O, x_P_n_O, hK])) ?_
  refine v_putP hX (ci := 3) (k := 5) (f := 305) (by simp (disch := omega) only [q_K_s_I, q_K_s_J, q_K_s_P, q_K_s_A, q_K_s_B, q_K_s_C, q_K_r_A, q_K_r_B, y_K_n_O, x_K_n_O, y_K_n_A, x_K_n_A, hK]) bc_3 (by decide) (by decide) in_3 tyX4_ok nmX4 w_2_81 (Or.inl rfl) rfl rfl dX4_init_34 rfl rfl ?_
  refine v_iconst hX (v := nI 0) dX4_init_37 (by decide) ?_
  refine v_istore_n hX (lv' := [(1, .int (nI 0)), (0, .ref a)]) dX4_init_38 (i := 1) rfl (by rw [hnL]; decide) rfl ?_
  change b_V X (s_P (s_P (n_A (s_P (n_A (s_P (n_A S z 16 7) 300 a (some z)) (z + 1) 12 0) 302 a (some (z + 1))) (z + 1 + 1) 12 256) 304 a (some (z + 1 + 1))) 305 a (some (z + 1))) (z + 3) 3 263 39 _ _
  refine lines_loop2 hX hE hnL hlt (by simp (disch := omega) only [q_K_s_I, q_K_s_J, q_K_s_P, q_K_s_A, q_K_s_B, q_K_s_C, q_K_r_A, q_K_r_B, y_K_n_O, x_K_n_O, y_K_n_A, x_K_n_A, hK]) (by simp (disch := omega) only [q_P_s_I, q_P_s_J, q_P_s_A, q_P_s_B, q_P_s_C, q_P_n_A, q_P_r_A, q_P_r_B, y_P_s_P, x_P_s_P, y_P_n_O, x_P_n_O]) (fun Si hv0 => ?_) 7 0 _ rfl ⟨⟨fun b _ _ => b_eq.rf _ _, (by simp (disch := omega) only [q_K_s_I, q_K_s_J, q_K_s_P, q_K_s_A, q_K_s_B, q_K_s_C, q_K_r_A, q_K_r_B, y_K_n_O, x_K_n_O, y_K_n_A, x_K_n_A]), (by simp (disch := omega) only [q_L_s_I, q_L_s_J, q_L_s_P, q_L_s_A, q_L_s_B, q_L_s_C, q_L_n_O, q_L_r_A, q_L_r_B, y_L_n_A, x_L_n_A]), fun j hj => absurd hj (by omega)⟩, fun h => h⟩
  obtain ⟨hv, hy⟩ := hv0
  have ec := hv.1 a (by omega) (by omega)
  have e1 := hv.1 (z + 1) (by omega) (by omega)
  have e2 := hv.1 (z + 2) (by omega) (by omega)
  refine ⟨rfl, rfl, ⟨fun b g1 g2 => b_eq.tr ((e_n_A _ _ _ _ (by omega)).tr ((e_s_P _ _ _ _ (by omega)).tr ((e_n_A _ _ _ _ (by omega)).tr ((e_s_P _ _ _ _ (by omega)).tr ((e_n_A _ _ _ _ (by omega)).tr ((e_s_P _ _ _ _ (by omega)).tr (e_s_P _ _ _ _ (by omega)))))))) (hv.1 b (by omega) (by omega)), ec.1.trans (by simp (disch := omega) only [q_K_s_I, q_K_s_J, q_K_s_P, q_K_s_A, q_K_s_B, q_K_s_C, q_K_r_A, q_K_r_B, y_K_n_O, x_K_n_O, y_K_n_A, x_K_n_A, hK]), fun f => (ec.2.1 f).trans (by simp (disch := omega) only [q_I_s_J, q_I_s_P, q_I_s_A, q_I_s_B, q_I_s_C, q_I_n_A, q_I_r_A, q_I_r_B, y_I_s_I, x_I_s_I, y_I_n_O, x_I_n_O]), ⟨(ec.2.2.2.1 _).trans (by simp (disch := omega) only [q_P_s_I, q_P_s_J, q_P_s_A, q_P_s_B, q_P_s_C, q_P_n_A, q_P_r_A, q_P_r_B, y_P_s_P, x_P_s_P, y_P_n_O, x_P_n_O]), (ec.2.2.2.1 _).trans (by simp (disch := omega) only [q_P_s_I, q_P_s_J, q_P_s_A, q_P_s_B, q_P_s_C, q_P_n_A, q_P_r_A, q_P_r_B, y_P_s_P, x_P_s_P, y_P_n_O, x_P_n_O]), (ec.2.2.2.1 _).trans (by simp (disch := omega) only [q_P_s_I, q_P_s_J, q_P_s_A, q_P_s_B, q_P_s_C, q_P_n_A, q_P_r_A, q_P_r_B, y_P_s_P, x_P_s_P, y_P_n_O, x_P_n_O]), (ec.2.2.2.1 _).trans (by simp (disch := omega) only [q_P_s_I, q_P_s_J, q_P_s_A, q_P_s_B, q_P_s_C, q_P_n_A, q_P_r_A, q_P_r_B, y_P_s_P, x_P_s_P, y_P_n_O, x_P_n_O])⟩, ⟨e1.1.trans (by simp (disch := omega) only [q_K_s_I, q_K_s_J, q_K_s_P, q_K_s_A, q_K_s_B, q_K_s_C, q_K_r_A, q_K_r_B, y_K_n_O, x_K_n_O, y_K_n_A, x_K_n_A]), e1.2.2.2.2.1.trans (by simp (disch := omega) only [q_L_s_I, q_L_s_J, q_L_s_P, q_L_s_A, q_L_s_B, q_L_s_C, q_L_n_O, q_L_r_A, q_L_r_B, y_L_n_A, x_L_n_A]), e2.1.trans (by simp (disch := omega) only [q_K_s_I, q_K_s_J, q_K_s_P, q_K_s_A, q_K_s_B, q_K_s_C, q_K_r_A, q_K_r_B, y_K_n_O, x_K_n_O, y_K_n_A, x_K_n_A]), e2.2.2.2.2.1.trans (by simp (disch := omega) only [q_L_s_I, q_L_s_J, q_L_s_P, q_L_s_A, q_L_s_B, q_L_s_C, q_L_n_O, q_L_r_A, q_L_r_B, y_L_n_A, x_L_n_A])⟩, hv.2.1, hv.2.2.1, hv.2.2.2⟩, fun h => hy (bY_sP (bY_sP (bY_nA (bY_sP (bY_nA (bY_sP (bY_nA h)))))))⟩
set_option maxRecDepth 100000 in
set_option maxHeartbeats 4000000 in
theorem c_TurnOne_init2 {kn : Nat → Nat} {B : Nat} {S : b_M} {z a p er nm ex q t : Nat} (hK : m_K S a = 9) (hlt : a < z) (hp1 : p < z) (hp2 : p ≠ a) (hq1 : q < z) (hq2 : q ≠ a) (hKp : m_K S p = 6) (hp601 : m_P S 601 p = some nm) (hp602 : m_P S 602 p = some ex) (hp603 : m_P S 603 p = some q) (hkept : m_I S 604 p = 0) (hKq : m_K S q = 17) (hLq : m_L S q = 401) (hCq : m_C S q 0 = some t) : b_C kn B yX11_init cX11_init 3 none 3 53 38 1139 [.ref a, .ref p, .ref er] S z (fun r S' z' => r = none ∧ z' = z + 38 ∧ iTurn kn S S' a p er nm ex t z ∧ (bY S → bY S')) (fun _ _ _ => False) := by
  refine b_enter (by decide) (Nat.le_of_ble_eq_true rfl) ?_
  intro X hX hE hnL hkn hB hI
  subst hkn; subst hB
  change b_V X S z 0 0 0 [(0, .ref a), (1, .ref p), (2, .ref er)] []
  refine v_aload_n hX dX11_init_0 (i := 0) rfl rfl ?_
  refine v_objInit hX w_1_226 w_1_35 w_1_36 (by decide) (by decide) dX11_init_1 ?_
  refine v_aload_n hX dX11_init_4 (i := 0) rfl rfl ?_
  refine v_new hX (ci := 7) bc_7 (by decide) in_7 tyX9_ok dv_7 w_1_227 w_1_228 w_1_11 dX11_init_5 (by omega) (by omega) ?_
  refine v_dup hX dX11_init_8 rfl ?_
  refine v_callI hX (n := 0) (host := "AssembleLines") (c_Scanner_init2 (S := n_O S z 7) (z := z + 1) (a := z) (by simp (disch := omega) only [q_K_s_I, q_K_s_J, q_K_s_P, q_K_s_A, q_K_s_B, q_K_s_C, q_K_r_A, q_K_r_B, y_K_n_O, x_K_n_O, y_K_n_A, x_K_n_A]) (by omega)) (Or.inr (List.mem_of_getElem? (i := 2) rfl)) w_1_230 w_1_11 w_1_231 rfl (by decide +kernel) rfl ⟨by decide, by decide⟩ ⟨by omega, by omega⟩ (Nat.le_of_ble_eq_true rfl) rfl dX11_init_9 (fun _ _ _ h => h) ?_
  rintro r1 S1 z1 ⟨rfl, rfl, i1, y1⟩
  have ea := i1.1 a (by omega) (by omega)
  have k1 : m_K S1 a = 9 := ea.1.trans (by simp (disch := omega) only [q_K_s_I, q_K_s_J, q_K_s_P, q_K_s_A, q_K_s_B, q_K_s_C, q_K_r_A, q_K_r_B, y_K_n_O, x_K_n_O, y_K_n_A, x_K_n_A, hK])
  refine v_putP hX (ci := 9) (k := 4) (f := 904) (by simp (disch := omega) only [q_K_s_I, q_K_s_J, q_K_s_P, q_K_s_A, q_K_s_B, q_K_s_C, q_K_r_A, q_K_r_B, y_K_n_O, x_K_n_O, y_K_n_A, x_K_n_A, k1]) bc_9 (by decide) (by decide) in_9 tyX11_ok nmX11 w_2_128 (Or.inr ⟨rfl, hI rfl, rfl⟩) rfl rfl dX11_init_12 rfl rfl ?_
  refine v_aload_n hX dX11_init_15 (i := 0) rfl rfl ?_
  refine v_new hX (ci := 4) bc_4 (by decide) in_4 tyX5_ok dv_4 w_2_15 w_2_16 w_1_12 dX11_init_16 (by omega) (by omega) ?_
  refine v_dup hX dX11_init_19 rfl ?_
  refine v_callI hX (n := 0) (host := "AssembleLines") (c_Macros_init2 (S := n_O (s_P S1 904 a (some z)) (z + 2) 4) (z := z + 3) (a := z + 2) (by simp (disch := omega) only [q_K_s_I, q_K_s_J, q_K_s_P, q_K_s_A, q_K_s_B, q_K_s_C, q_K_r_A, q_K_r_B, y_K_n_O, x_K_n_O, y_K_n_A, x_K_n_A]) (by omega)) (Or.inr (List.mem_of_getElem? (i := 3) rfl)) w_2_18 w_1_12 w_2_19 rfl (by decide +kernel) rfl ⟨by decide, by decide⟩ ⟨by omega, by omega⟩ (Nat.le_of_ble_eq_true rfl) rfl dX11_init_20 (fun _ _ _ h => h) ?_
  rintro r2 S2 z2 ⟨rfl, rfl, i2, y2⟩
  have eb := i2.1 a (by omega) (by omega)
  have k2 : m_K S2 a = 9 := eb.1.trans (by simp (disch := omega) only [q_K_s_I, q_K_s_J, q_K_s_P, q_K_s_A, q_K_s_B, q_K_s_C, q_K_r_A, q_K_r_B, y_K_n_O, x_K_n_O, y_K_n_A, x_K_n_A, k1])
  refine v_putP hX (ci := 9) (k := 5) (f := 905) (by simp (disch := omega) only [q_K_s_I, q_K_s_J, q_K_s_P, q_K_s_A, q_K_s_B, q_K_s_C, q_K_r_A, q_K_r_B, y_K_n_O, x_K_n_O, y_K_n_A, x_K_n_A, k2]) bc_9 (by decide) (by decide) in_9 tyX11_ok nmX11 w_2_129 (Or.inr ⟨rfl, hI rfl, rfl⟩) rfl rfl dX11_init_23 rfl rfl ?_
  refine v_aload_n hX dX11_init_26 (i := 0) rfl rfl ?_
  refine v_new hX (ci := 3) bc_3 (by decide) in_3 tyX4_ok dv_3 w_2_35 w_2_36 w_1_13 dX11_init_27 (by omega) (by omega) ?_
  refine v_dup hX dX11_init_30 rfl ?_
  refine v_callI hX (n := 0) (host := "AssembleLines") (c_Lines_init2 (S := n_O (s_P S2 905 a (some (z + 2))) (z + 6) 3) (z := z + 7) (a := z + 6) (by simp (disch := omega) only [q_K_s_I, q_K_s_J, q_K_s_P, q_K_s_A, q_K_s_B, q_K_s_C, q_K_r_A, q_K_r_B, y_K_n_O, x_K_n_O, y_K_n_A, x_K_n_A]) (by omega)) (Or.inl w_2_37) w_2_38 w_1_13 w_2_39 rfl (by decide +kernel) rfl ⟨by decide, by decide⟩ ⟨by omega, by omega⟩ (Nat.le_of_ble_eq_true rfl) rfl dX11_init_31 (fun _ _ _ h => h) ?_
  rintro r3 S3 z3 ⟨rfl, rfl, i3, y3⟩
  have ec := i3.1 a (by omega) (by omega)
  have k3 : m_K S3 a = 9 := ec.1.trans (by simp (disch := omega) only [q_K_s_I, q_K_s_J, q_K_s_P, q_K_s_A, q_K_s_B, q_K_s_C, q_K_r_A, q_K_r_B, y_K_n_O, x_K_n_O, y_K_n_A, x_K_n_A, k2])
  have old : ∀ b, b < z → b ≠ a → b_eq S S3 b := fun b g1 g2 => ((e_n_O _ _ _ (by omega)).tr (i1.1 b (by omega) (by omega))).tr (((e_s_P _ _ _ _ g2).tr ((e_n_O _ _ _ (by omega)).tr (i2.1 b (by omega) (by omega)))).tr ((e_s_P _ _ _ _ g2).tr ((e_n_O _ _ _ (by omega)).tr (i3.1 b (by omega) (by omega)))))
  have ep := old p hp1 hp2
  have eq := old q hq1 hq2
  have kp : m_K S3 p = 6 := ep.1.trans hKp
  have p1 : m_P S3 601 p = some nm := (ep.2.2.2.1 _).trans hp601
  have p2 : m_P S3 602 p = some ex := (ep.2.2.2.1 _).trans hp602
  have p3 : m_P S3 603 p = some q := (ep.2.2.2.1 _).trans hp603
  refine v_putP hX (ci := 9) (k := 6) (f := 906) (by simp (disch := omega) only [q_K_s_I, q_K_s_J, q_K_s_P, q_K_s_A, q_K_s_B, q_K_s_C, q_K_r_A, q_K_r_B, y_K_n_O, x_K_n_O, y_K_n_A, x_K_n_A, k3, kp, p1, p2]) bc_9 (by decide) (by decide) in_9 tyX11_ok nmX11 w_2_131 (Or.inr ⟨rfl, hI rfl, rfl⟩) rfl rfl dX11_init_34 rfl rfl ?_
  refine v_aload_n hX dX11_init_37 (i := 0) rfl rfl ?_
  refine v_gets0 hX w_2_116 dX11_init_38 ?_
  refine v_putP hX (ci := 9) (k := 8) (f := 908) (by simp (disch := omega) only [q_K_s_I, q_K_s_J, q_K_s_P, q_K_s_A, q_K_s_B, q_K_s_C, q_K_r_A, q_K_r_B, y_K_n_O, x_K_n_O, y_K_n_A, x_K_n_A, k3, kp, p1, p2]) bc_9 (by decide) (by decide) in_9 tyX11_ok nmX11 w_2_134 (Or.inl rfl) rfl rfl dX11_init_41 rfl rfl ?_
  refine v_aload_n hX dX11_init_44 (i := 0) rfl rfl ?_
  refine v_aload_n hX dX11_init_45 (i := 1) rfl rfl ?_
  refine v_putP hX (ci := 9) (k := 0) (f := 900) (by simp (disch := omega) only [q_K_s_I, q_K_s_J, q_K_s_P, q_K_s_A, q_K_s_B, q_K_s_C, q_K_r_A, q_K_r_B, y_K_n_O, x_K_n_O, y_K_n_A, x_K_n_A, k3, kp, p1, p2]) bc_9 (by decide) (by decide) in_9 tyX11_ok nmX11 w_2_124 (Or.inr ⟨rfl, hI rfl, rfl⟩) rfl rfl dX11_init_46 rfl rfl ?_
  refine v_aload_n hX dX11_init_49 (i := 0) rfl rfl ?_
  refine v_aload_n hX dX11_init_50 (i := 1) rfl rfl ?_
  refine v_get hX (ci := 6) (k := 1) (by simp (disch := omega) only [q_K_s_I, q_K_s_J, q_K_s_P, q_K_s_A, q_K_s_B, q_K_s_C, q_K_r_A, q_K_r_B, y_K_n_O, x_K_n_O, y_K_n_A, x_K_n_A, k3, kp, p1, p2]) bc_6 (by decide) (by decide) in_6 w_1_194 dX11_init_51 (mvP (f := 601) (q := nm) rfl rfl (by simp (disch := omega) only [q_P_s_I, q_P_s_J, q_P_s_A, q_P_s_B, q_P_s_C, q_P_n_A, q_P_r_A, q_P_r_B, y_P_s_P, x_P_s_P, y_P_n_O, x_P_n_O, k3, kp, p1, p2])) ?_
  refine v_putP hX (ci := 9) (k := 1) (f := 901) (by simp (disch := omega) only [q_K_s_I, q_K_s_J, q_K_s_P, q_K_s_A, q_K_s_B, q_K_s_C, q_K_r_A, q_K_r_B, y_K_n_O, x_K_n_O, y_K_n_A, x_K_n_A, k3, kp, p1, p2]) bc_9 (by decide) (by decide) in_9 tyX11_ok nmX11 w_2_125 (Or.inr ⟨rfl, hI rfl, rfl⟩) rfl rfl dX11_init_54 rfl rfl ?_
  refine v_aload_n hX dX11_init_57 (i := 0) rfl rfl ?_
  refine v_aload_n hX dX11_init_58 (i := 1) rfl rfl ?_
  refine v_get hX (ci := 6) (k := 2) (by simp (disch := omega) only [q_K_s_I, q_K_s_J, q_K_s_P, q_K_s_A, q_K_s_B, q_K_s_C, q_K_r_A, q_K_r_B, y_K_n_O, x_K_n_O, y_K_n_A, x_K_n_A, k3, kp, p1, p2]) bc_6 (by decide) (by decide) in_6 w_1_197 dX11_init_59 (mvP (f := 602) (q := ex) rfl rfl (by simp (disch := omega) only [q_P_s_I, q_P_s_J, q_P_s_A, q_P_s_B, q_P_s_C, q_P_n_A, q_P_r_A, q_P_r_B, y_P_s_P, x_P_s_P, y_P_n_O, x_P_n_O, k3, kp, p1, p2])) ?_
  refine v_putP hX (ci := 9) (k := 2) (f := 902) (by simp (disch := omega) only [q_K_s_I, q_K_s_J, q_K_s_P, q_K_s_A, q_K_s_B, q_K_s_C, q_K_r_A, q_K_r_B, y_K_n_O, x_K_n_O, y_K_n_A, x_K_n_A, k3, kp, p1, p2]) bc_9 (by decide) (by decide) in_9 tyX11_ok nmX11 w_2_126 (Or.inr ⟨rfl, hI rfl, rfl⟩) rfl rfl dX11_init_62 rfl rfl ?_
  refine v_aload_n hX dX11_init_65 (i := 0) rfl rfl ?_
  refine v_aload_n hX dX11_init_66 (i := 2) rfl rfl ?_
  refine v_putP hX (ci := 9) (k := 3) (f := 903) (by simp (disch := omega) only [q_K_s_I, q_K_s_J, q_K_s_P, q_K_s_A, q_K_s_B, q_K_s_C, q_K_r_A, q_K_r_B, y_K_n_O, x_K_n_O, y_K_n_A, x_K_n_A, k3, kp, p1, p2]) bc_9 (by decide) (by decide) in_9 tyX11_ok nmX11 w_2_127 (Or.inr ⟨rfl, hI rfl, rfl⟩) rfl rfl dX11_init_67 rfl rfl ?_
  refine v_aload_n hX dX11_init_70 (i := 0) rfl rfl ?_
  refine v_aload_n hX dX11_init_71 (i := 1) rfl rfl ?_
  refine v_callV hX (n := 0) (c_draft (S := (s_P (s_P (s_P (s_P (s_P (s_P S3 906 a (some (z + 6))) 908 a (some (b_kn X 0))) 900 a (some p)) 901 a (some nm)) 902 a (some ex)) 903 a (some er))) (z := z + 38) (a := p) (q := q) (t := t) (j := 0) (by simp (disch := omega) only [q_K_s_I, q_K_s_J, q_K_s_P, q_K_s_A, q_K_s_B, q_K_s_C, q_K_r_A, q_K_r_B, y_K_n_O, x_K_n_O, y_K_n_A, x_K_n_A, kp]) (by simp (disch := omega) only [q_P_s_I, q_P_s_J, q_P_s_A, q_P_s_B, q_P_s_C, q_P_n_A, q_P_r_A, q_P_r_B, y_P_s_P, x_P_s_P, y_P_n_O, x_P_n_O, p3]) (by simp (disch := omega) only [q_K_s_I, q_K_s_J, q_K_s_P, q_K_s_A, q_K_s_B, q_K_s_C, q_K_r_A, q_K_r_B, y_K_n_O, x_K_n_O, y_K_n_A, x_K_n_A]; exact eq.1.trans hKq) (by simp (disch := omega) only [q_L_s_I, q_L_s_J, q_L_s_P, q_L_s_A, q_L_s_B, q_L_s_C, q_L_n_O, q_L_r_A, q_L_r_B, y_L_n_A, x_L_n_A]; exact eq.2.2.2.2.1.trans hLq) (by simp (disch := omega) only [q_I_s_J, q_I_s_P, q_I_s_A, q_I_s_B, q_I_s_C, q_I_n_A, q_I_r_A, q_I_r_B, y_I_s_I, x_I_s_I, y_I_n_O, x_I_n_O]; exact (ep.2.1 _).trans hkept) (by decide) (by simp (disch := omega) only [q_C_s_I, q_C_s_J, q_C_s_P, q_C_s_A, q_C_s_B, q_C_n_O, q_C_r_A, q_C_r_B, y_C_s_C, x_C_s_C, y_C_n_A, x_C_n_A]; exact (eq.2.2.2.2.2.2.2 _).trans hCq)) (by simp (disch := omega) only [q_K_s_I, q_K_s_J, q_K_s_P, q_K_s_A, q_K_s_B, q_K_s_C, q_K_r_A, q_K_r_B, y_K_n_O, x_K_n_O, y_K_n_A, x_K_n_A, k3, kp, p1, p2]) bc_6 (by decide) w_2_117 w_2_118 w_2_119 w_1_3 w_2_120 (by decide +kernel) rfl ⟨by decide, by decide⟩ ⟨by omega, by omega⟩ (Nat.le_of_ble_eq_true rfl) rfl dX11_init_72 (fun _ _ _ h => h) ?_
  rintro r4 S4 z4 ⟨rfl, rfl, rfl⟩
  refine v_putP hX (ci := 9) (k := 7) (f := 907) (by simp (disch := omega) only [q_K_s_I, q_K_s_J, q_K_s_P, q_K_s_A, q_K_s_B, q_K_s_C, q_K_r_A, q_K_r_B, y_K_n_O, x_K_n_O, y_K_n_A, x_K_n_A, k3, kp, p1, p2]) bc_9 (by decide) (by decide) in_9 tyX11_ok nmX11 w_2_133 (Or.inl rfl) rfl rfl dX11_init_75 rfl rfl ?_
  have nw : ∀ b, b ≠ a → b_eq S3 (s_P (s_P (s_P (s_P (s_P (s_P (s_P S3 906 a (some (z + 6))) 908 a (some (b_kn X 0))) 900 a (some p)) 901 a (some nm)) 902 a (some ex)) 903 a (some er)) 907 a (some t)) b := fun b g => (e_s_P _ _ _ _ g).tr ((e_s_P _ _ _ _ g).tr ((e_s_P _ _ _ _ g).tr ((e_s_P _ _ _ _ g).tr ((e_s_P _ _ _ _ g).tr ((e_s_P _ _ _ _ g).tr (e_s_P _ _ _ _ g))))))
  have nw2 : ∀ b, b < z + 6 → b ≠ a → b_eq S2 (s_P (s_P (s_P (s_P (s_P (s_P (s_P S3 906 a (some (z + 6))) 908 a (some (b_kn X 0))) 900 a (some p)) 901 a (some nm)) 902 a (some ex)) 903 a (some er)) 907 a (some t)) b := fun b g1 g2 => ((e_s_P _ _ _ _ g2).tr ((e_n_O _ _ _ (by omega)).tr (i3.1 b (by omega) (by omega)))).tr (nw b g2)
  have nw1 : ∀ b, b < z + 2 → b ≠ a → b_eq S1 (s_P (s_P (s_P (s_P (s_P (s_P (s_P S3 906 a (some (z + 6))) 908 a (some (b_kn X 0))) 900 a (some p)) 901 a (some nm)) 902 a (some ex)) 903 a (some er)) 907 a (some t)) b := fun b g1 g2 => ((e_s_P _ _ _ _ g2).tr ((e_n_O _ _ _ (by omega)).tr (i2.1 b (by omega) (by omega)))).tr (nw2 b (by omega) g2)
  refine v_return hX hE dX11_init_78 (by omega) (by omega) ⟨rfl, rfl, ⟨fun b g1 g2 => (old b g1 g2).tr (nw b g2), (by simp (disch := omega) only [q_K_s_I, q_K_s_J, q_K_s_P, q_K_s_A, q_K_s_B, q_K_s_C, q_K_r_A, q_K_r_B, y_K_n_O, x_K_n_O, y_K_n_A, x_K_n_A, k3]), fun f => ?_, ⟨(by simp (disch := omega) only [q_P_s_I, q_P_s_J, q_P_s_A, q_P_s_B, q_P_s_C, q_P_n_A, q_P_r_A, q_P_r_B, y_P_s_P, x_P_s_P, y_P_n_O, x_P_n_O]), (by simp (disch := omega) only [q_P_s_I, q_P_s_J, q_P_s_A, q_P_s_B, q_P_s_C, q_P_n_A, q_P_r_A, q_P_r_B, y_P_s_P, x_P_s_P, y_P_n_O, x_P_n_O]), (by simp (disch := omega) only [q_P_s_I, q_P_s_J, q_P_s_A, q_P_s_B, q_P_s_C, q_P_n_A, q_P_r_A, q_P_r_B, y_P_s_P, x_P_s_P, y_P_n_O, x_P_n_O]), (by simp (disch := omega) only [q_P_s_I, q_P_s_J, q_P_s_A, q_P_s_B, q_P_s_C, q_P_n_A, q_P_r_A, q_P_r_B, y_P_s_P, x_P_s_P, y_P_n_O, x_P_n_O]), ?_, ?_, (by simp (disch := omega) only [q_P_s_I, q_P_s_J, q_P_s_A, q_P_s_B, q_P_s_C, q_P_n_A, q_P_r_A, q_P_r_B, y_P_s_P, x_P_s_P, y_P_n_O, x_P_n_O]), (by simp (disch := omega) only [q_P_s_I, q_P_s_J, q_P_s_A, q_P_s_B, q_P_s_C, q_P_n_A, q_P_r_A, q_P_r_B, y_P_s_P, x_P_s_P, y_P_n_O, x_P_n_O]), (by simp (disch := omega) only [q_P_s_I, q_P_s_J, q_P_s_A, q_P_s_B, q_P_s_C, q_P_n_A, q_P_r_A, q_P_r_B, y_P_s_P, x_P_s_P, y_P_n_O, x_P_n_O])⟩, ⟨_, _, i1, fun f => (by simp (disch := omega) only [q_I_s_J, q_I_s_P, q_I_s_A, q_I_s_B, q_I_s_C, q_I_n_A, q_I_r_A, q_I_r_B, y_I_s_I, x_I_s_I, y_I_n_O, x_I_n_O]), fun b g1 g2 => nw1 b g2 (by omega)⟩, ⟨_, _, i2, fun f => (by simp (disch := omega) only [q_I_s_J, q_I_s_P, q_I_s_A, q_I_s_B, q_I_s_C, q_I_n_A, q_I_r_A, q_I_r_B, y_I_s_I, x_I_s_I, y_I_n_O, x_I_n_O]), fun b g1 g2 => nw2 b g2 (by omega)⟩, ⟨_, _, i3, fun f => (by simp (disch := omega) only [q_I_s_J, q_I_s_P, q_I_s_A, q_I_s_B, q_I_s_C, q_I_n_A, q_I_r_A, q_I_r_B, y_I_s_I, x_I_s_I, y_I_n_O, x_I_n_O]), fun b g1 g2 => nw b (by omega)⟩⟩, fun h => bY_sP (bY_sP (bY_sP (bY_sP (bY_sP (bY_sP (bY_sP ((y3 (bY_nO (by decide) (bY_sP ((y2 (bY_nO (by decide) (bY_sP ((y1 (bY_nO (by decide) h)))))))))))))))))⟩
  · rw [show m_I (s_P (s_P (s_P (s_P (s_P (s_P (s_P S3 906 a (some (z + 6))) 908 a (some (b_kn X 0))) 900 a (some p)) 901 a (some nm)) 902 a (some ex)) 903 a (some er)) 907 a (some t)) f a = m_I S3 f a from (by simp (disch := omega) only [q_I_s_J, q_I_s_P, q_I_s_A, q_I_s_B, q_I_s_C, q_I_n_A, q_I_r_A, q_I_r_B, y_I_s_I, x_I_s_I, y_I_n_O, x_I_n_O]), ec.2.1 f, show m_I (n_O (s_P S2 905 a (some (z + 2))) (z + 6) 3) f a = m_I S2 f a from (by simp (disch := omega) only [q_I_s_J, q_I_s_P, q_I_s_A, q_I_s_B, q_I_s_C, q_I_n_A, q_I_r_A, q_I_r_B, y_I_s_I, x_I_s_I, y_I_n_O, x_I_n_O]), eb.2.1 f, show m_I (n_O (s_P S1 904 a (some z)) (z + 2) 4) f a = m_I S1 f a from (by simp (disch := omega) only [q_I_s_J, q_I_s_P, q_I_s_A, q_I_s_B, q_I_s_C, q_I_n_A, q_I_r_A, q_I_r_B, y_I_s_I, x_I_s_I, y_I_n_O, x_I_n_O]), ea.2.1 f]; simp (disch := omega) only [q_I_s_J, q_I_s_P, q_I_s_A, q_I_s_B, q_I_s_C, q_I_n_A, q_I_r_A, q_I_r_B, y_I_s_I, x_I_s_I, y_I_n_O, x_I_n_O]
  · rw [show m_P (s_P (s_P (s_P (s_P (s_P (s_P (s_P S3 906 a (some (z + 6))) 908 a (some (b_kn X 0))) 900 a (some p)) 901 a (some nm)) 902 a (some ex)) 903 a (some er)) 907 a (some t)) 904 a = m_P S3 904 a from (by simp (disch := omega) only [q_P_s_I, q_P_s_J, q_P_s_A, q_P_s_B, q_P_s_C, q_P_n_A, q_P_r_A, q_P_r_B, y_P_s_P, x_P_s_P, y_P_n_O, x_P_n_O]), ec.2.2.2.1, show m_P (n_O (s_P S2 905 a (some (z + 2))) (z + 6) 3) 904 a = m_P S2 904 a from (by simp (disch := omega) only [q_P_s_I, q_P_s_J, q_P_s_A, q_P_s_B, q_P_s_C, q_P_n_A, q_P_r_A, q_P_r_B, y_P_s_P, x_P_s_P, y_P_n_O, x_P_n_O]), eb.2.2.2.1]; simp (disch := omega) only [q_P_s_I, q_P_s_J, q_P_s_A, q_P_s_B, q_P_s_C, q_P_n_A, q_P_r_A, q_P_r_B, y_P_s_P, x_P_s_P, y_P_n_O, x_P_n_O]
  · rw [show m_P (s_P (s_P (s_P (s_P (s_P (s_P (s_P S3 906 a (some (z + 6))) 908 a (some (b_kn X 0))) 900 a (some p)) 901 a (some nm)) 902 a (some ex)) 903 a (some er)) 907 a (some t)) 905 a = m_P S3 905 a from (by simp (disch := omega) only [q_P_s_I, q_P_s_J, q_P_s_A, q_P_s_B, q_P_s_C, q_P_n_A, q_P_r_A, q_P_r_B, y_P_s_P, x_P_s_P, y_P_n_O, x_P_n_O]), ec.2.2.2.1]; simp (disch := omega) only [q_P_s_I, q_P_s_J, q_P_s_A, q_P_s_B, q_P_s_C, q_P_n_A, q_P_r_A, q_P_r_B, y_P_s_P, x_P_s_P, y_P_n_O, x_P_n_O]
set_option maxRecDepth 100000 in
set_option maxHeartbeats 4000000 in
theorem c_AL_init2 {kn : Nat → Nat} {B : Nat} {S : b_M} {z a : Nat} (hK : m_K S a = 10) (hlt : a < z) : b_C kn B yX12_init cX12_init 1 none 4 85 456 23489 [.ref a] S z (fun r S' z' => r = none ∧ z' = z + 456 ∧ iAL kn S S' a z ∧ (∀ j, j < 1021 → m_A S' (z + 6) j = -1) ∧ (∀ j, m_A S' (z + 7) j = 0) ∧ (∀ j, j < 401 → m_P S' 800 (z + 16 + j) = some (kn 0)) ∧ (bY S → bY S')) (fun _ _ _ => False) := by
  refine b_enter (by decide) (Nat.le_of_ble_eq_true rfl) ?_
  intro X hX hE hnL hkn hB hI
  subst hkn; subst hB
  change b_V X S z 0 0 0 [(0, .ref a)] []
  refine v_aload_n hX dX12_init_0 (i := 0) rfl rfl ?_
  refine v_objInit hX w_1_34 w_1_35 w_1_36 (by decide) (by decide) dX12_init_1 ?_
  refine v_aload_n hX dX12_init_4 (i := 0) rfl rfl ?_
  refine v_sipush hX (v := (4096)) dX12_init_5 (by decide) ?_
  refine v_newa_b hX (N := 4096) w_1_56 dX12_init_8 (by decide) (by decide) (by decide) (by omega) (by omega) ?_
  refine v_putP hX (ci := 10) (k := 0) (f := 1000) (by simp (disch := omega) only [q_K_s_I, q_K_s_J, q_K_s_P, q_K_s_A, q_K_s_B, q_K_s_C, q_K_r_A, q_K_r_B, y_K_n_O, x_K_n_O, y_K_n_A, x_K_n_A, hK]) bc_10 (by decide) (by decide) in_10 tyX12_ok nmX12 w_2_175 (Or.inr ⟨rfl, hI rfl, rfl⟩) rfl rfl dX12_init_10 rfl rfl ?_
  refine v_aload_n hX dX12_init_13 (i := 0) rfl rfl ?_
  refine v_new hX (ci := 1) bc_1 (by decide) in_1 tyX2_ok dv_1 w_1_37 w_1_38 w_1_2 dX12_init_14 (by omega) (by omega) ?_
  refine v_dup hX dX12_init_17 rfl ?_
  refine v_callI hX (n := 0) (host := "AssembleLines") (c_Errors_init2 (S := n_O (s_P (n_A S z 12 4096) 1000 a (some z)) (z + 1) 1) (z := z + 2) (a := z + 1) (by simp (disch := omega) only [q_K_s_I, q_K_s_J, q_K_s_P, q_K_s_A, q_K_s_B, q_K_s_C, q_K_r_A, q_K_r_B, y_K_n_O, x_K_n_O, y_K_n_A, x_K_n_A]) (by omega)) (Or.inr (List.mem_of_getElem? (i := 0) rfl)) w_1_40 w_1_2 w_1_41 rfl (by decide +kernel) rfl ⟨by decide, by decide⟩ ⟨by omega, by omega⟩ (Nat.le_of_ble_eq_true rfl) rfl dX12_init_18 (fun _ _ _ h => h) ?_
  rintro r1 S1 z1 ⟨rfl, rfl, i1, y1⟩
  have ea := i1.1 a (by omega) (by omega)
  have k1 : m_K S1 a = 10 := ea.1.trans (by simp (disch := omega) only [q_K_s_I, q_K_s_J, q_K_s_P, q_K_s_A, q_K_s_B, q_K_s_C, q_K_r_A, q_K_r_B, y_K_n_O, x_K_n_O, y_K_n_A, x_K_n_A, hK])
  refine v_putP hX (ci := 10) (k := 2) (f := 1002) (by simp (disch := omega) only [q_K_s_I, q_K_s_J, q_K_s_P, q_K_s_A, q_K_s_B, q_K_s_C, q_K_r_A, q_K_r_B, y_K_n_O, x_K_n_O, y_K_n_A, x_K_n_A, k1]) bc_10 (by decide) (by decide) in_10 tyX12_ok nmX12 w_2_177 (Or.inr ⟨rfl, hI rfl, rfl⟩) rfl rfl dX12_init_21 rfl rfl ?_
  refine v_aload_n hX dX12_init_24 (i := 0) rfl rfl ?_
  refine v_new hX (ci := 6) bc_6 (by decide) in_6 tyX8_ok dv_6 w_1_58 w_1_59 w_1_3 dX12_init_25 (by omega) (by omega) ?_
  refine v_dup hX dX12_init_28 rfl ?_
  refine v_aload_n hX dX12_init_29 (i := 0) rfl rfl ?_
  refine v_get hX (ci := 10) (k := 2) (by simp (disch := omega) only [q_K_s_I, q_K_s_J, q_K_s_P, q_K_s_A, q_K_s_B, q_K_s_C, q_K_r_A, q_K_r_B, y_K_n_O, x_K_n_O, y_K_n_A, x_K_n_A, k1]) bc_10 (by decide) (by decide) in_10 w_2_177 dX12_init_30 (mvP (f := 1002) (q := (z + 1)) rfl rfl (by simp (disch := omega) only [q_P_s_I, q_P_s_J, q_P_s_A, q_P_s_B, q_P_s_C, q_P_n_A, q_P_r_A, q_P_r_B, y_P_s_P, x_P_s_P, y_P_n_O, x_P_n_O, k1])) ?_
  refine v_callI hX (n := 1) (host := "AssembleLines") (c_Program_init2 (S := n_O (s_P S1 1002 a (some (z + 1))) (z + 4) 6) (z := z + 5) (a := z + 4) (er := z + 1) (by simp (disch := omega) only [q_K_s_I, q_K_s_J, q_K_s_P, q_K_s_A, q_K_s_B, q_K_s_C, q_K_r_A, q_K_r_B, y_K_n_O, x_K_n_O, y_K_n_A, x_K_n_A]) (by omega)) (Or.inl w_1_60) w_1_61 w_1_3 w_1_62 rfl (by decide +kernel) rfl ⟨by decide, by decide⟩ ⟨by omega, by omega⟩ (Nat.le_of_ble_eq_true rfl) rfl dX12_init_33 (fun _ _ _ h => h) ?_
  rintro r2 S2 z2 ⟨rfl, rfl, i2, j1, j2, j3, y2⟩
  have eb := i2.1 a (by omega) (by omega)
  have k2 : m_K S2 a = 10 := eb.1.trans (by simp (disch := omega) only [q_K_s_I, q_K_s_J, q_K_s_P, q_K_s_A, q_K_s_B, q_K_s_C, q_K_r_A, q_K_r_B, y_K_n_O, x_K_n_O, y_K_n_A, x_K_n_A, k1])
  have p2 : m_P S2 1002 a = some (z + 1) := (eb.2.2.2.1 _).trans (by simp (disch := omega) only [q_P_s_I, q_P_s_J, q_P_s_A, q_P_s_B, q_P_s_C, q_P_n_A, q_P_r_A, q_P_r_B, y_P_s_P, x_P_s_P, y_P_n_O, x_P_n_O])
  refine v_putP hX (ci := 10) (k := 3) (f := 1003) (by simp (disch := omega) only [q_K_s_I, q_K_s_J, q_K_s_P, q_K_s_A, q_K_s_B, q_K_s_C, q_K_r_A, q_K_r_B, y_K_n_O, x_K_n_O, y_K_n_A, x_K_n_A, k2, p2]) bc_10 (by decide) (by decide) in_10 tyX12_ok nmX12 w_2_178 (Or.inr ⟨rfl, hI rfl, rfl⟩) rfl rfl dX12_init_36 rfl rfl ?_
  refine v_aload_n hX dX12_init_39 (i := 0) rfl rfl ?_
  refine v_new hX (ci := 9) bc_9 (by decide) in_9 tyX11_ok dv_9 w_1_221 w_1_222 w_1_10 dX12_init_40 (by omega) (by omega) ?_
  refine v_dup hX dX12_init_43 rfl ?_
  refine v_aload_n hX dX12_init_44 (i := 0) rfl rfl ?_
  refine v_get hX (ci := 10) (k := 3) (by simp (disch := omega) only [q_K_s_I, q_K_s_J, q_K_s_P, q_K_s_A, q_K_s_B, q_K_s_C, q_K_r_A, q_K_r_B, y_K_n_O, x_K_n_O, y_K_n_A, x_K_n_A, k2, p2]) bc_10 (by decide) (by decide) in_10 w_2_178 dX12_init_45 (mvP (f := 1003) (q := (z + 4)) rfl rfl (by simp (disch := omega) only [q_P_s_I, q_P_s_J, q_P_s_A, q_P_s_B, q_P_s_C, q_P_n_A, q_P_r_A, q_P_r_B, y_P_s_P, x_P_s_P, y_P_n_O, x_P_n_O, k2, p2])) ?_
  refine v_aload_n hX dX12_init_48 (i := 0) rfl rfl ?_
  refine v_get hX (ci := 10) (k := 2) (by simp (disch := omega) only [q_K_s_I, q_K_s_J, q_K_s_P, q_K_s_A, q_K_s_B, q_K_s_C, q_K_r_A, q_K_r_B, y_K_n_O, x_K_n_O, y_K_n_A, x_K_n_A, k2, p2]) bc_10 (by decide) (by decide) in_10 w_2_177 dX12_init_49 (mvP (f := 1002) (q := (z + 1)) rfl rfl (by simp (disch := omega) only [q_P_s_I, q_P_s_J, q_P_s_A, q_P_s_B, q_P_s_C, q_P_n_A, q_P_r_A, q_P_r_B, y_P_s_P, x_P_s_P, y_P_n_O, x_P_n_O, k2, p2])) ?_
  refine v_callI hX (n := 2) (host := "AssembleLines") (c_TurnOne_init2 (S := n_O (s_P S2 1003 a (some (z + 4))) (z + 417) 9) (z := z + 418) (a := z + 417) (p := z + 4) (er := z + 1) (nm := z + 5) (ex := z + 10) (q := z + 15) (t := z + 16) (by simp (disch := omega) only [q_K_s_I, q_K_s_J, q_K_s_P, q_K_s_A, q_K_s_B, q_K_s_C, q_K_r_A, q_K_r_B, y_K_n_O, x_K_n_O, y_K_n_A, x_K_n_A]) (by omega) (by omega) (by omega) (by omega) (by omega) (by simp (disch := omega) only [q_K_s_I, q_K_s_J, q_K_s_P, q_K_s_A, q_K_s_B, q_K_s_C, q_K_r_A, q_K_r_B, y_K_n_O, x_K_n_O, y_K_n_A, x_K_n_A, i2.2.1]) (by simp (disch := omega) only [q_P_s_I, q_P_s_J, q_P_s_A, q_P_s_B, q_P_s_C, q_P_n_A, q_P_r_A, q_P_r_B, y_P_s_P, x_P_s_P, y_P_n_O, x_P_n_O, i2.2.2.2.1.2.1]) (by simp (disch := omega) only [q_P_s_I, q_P_s_J, q_P_s_A, q_P_s_B, q_P_s_C, q_P_n_A, q_P_r_A, q_P_r_B, y_P_s_P, x_P_s_P, y_P_n_O, x_P_n_O, i2.2.2.2.1.2.2.1]) (by simp (disch := omega) only [q_P_s_I, q_P_s_J, q_P_s_A, q_P_s_B, q_P_s_C, q_P_n_A, q_P_r_A, q_P_r_B, y_P_s_P, x_P_s_P, y_P_n_O, x_P_n_O, i2.2.2.2.1.2.2.2]) (by simp (disch := omega) only [q_I_s_J, q_I_s_P, q_I_s_A, q_I_s_B, q_I_s_C, q_I_n_A, q_I_r_A, q_I_r_B, y_I_s_I, x_I_s_I, y_I_n_O, x_I_n_O]; rw [i2.2.2.1 604]; simp (disch := omega) only [q_I_s_J, q_I_s_P, q_I_s_A, q_I_s_B, q_I_s_C, q_I_n_A, q_I_r_A, q_I_r_B, y_I_s_I, x_I_s_I, y_I_n_O, x_I_n_O]) (by simp (disch := omega) only [q_K_s_I, q_K_s_J, q_K_s_P, q_K_s_A, q_K_s_B, q_K_s_C, q_K_r_A, q_K_r_B, y_K_n_O, x_K_n_O, y_K_n_A, x_K_n_A, i2.2.2.2.2.2.2.1]) (by simp (disch := omega) only [q_L_s_I, q_L_s_J, q_L_s_P, q_L_s_A, q_L_s_B, q_L_s_C, q_L_n_O, q_L_r_A, q_L_r_B, y_L_n_A, x_L_n_A, i2.2.2.2.2.2.2.2.1]) (by simp (disch := omega) only [q_C_s_I, q_C_s_J, q_C_s_P, q_C_s_A, q_C_s_B, q_C_n_O, q_C_r_A, q_C_r_B, y_C_s_C, x_C_s_C, y_C_n_A, x_C_n_A]; exact (i2.2.2.2.2.2.2.2.2 0 (by decide)).1)) (Or.inl w_1_223) w_1_224 w_1_10 w_1_225 rfl (by decide +kernel) rfl ⟨by decide, by decide⟩ ⟨by omega, by omega⟩ (Nat.le_of_ble_eq_true rfl) rfl dX12_init_52 (fun _ _ _ h => h) ?_
  rintro r3 S3 z3 ⟨rfl, rfl, i3, y3⟩
  have ec := i3.1 a (by omega) (by omega)
  have k3 : m_K S3 a = 10 := ec.1.trans (by simp (disch := omega) only [q_K_s_I, q_K_s_J, q_K_s_P, q_K_s_A, q_K_s_B, q_K_s_C, q_K_r_A, q_K_r_B, y_K_n_O, x_K_n_O, y_K_n_A, x_K_n_A, k2])
  refine v_putP hX (ci := 10) (k := 4) (f := 1004) (by simp (disch := omega) only [q_K_s_I, q_K_s_J, q_K_s_P, q_K_s_A, q_K_s_B, q_K_s_C, q_K_r_A, q_K_r_B, y_K_n_O, x_K_n_O, y_K_n_A, x_K_n_A, k3]) bc_10 (by decide) (by decide) in_10 tyX12_ok nmX12 w_2_179 (Or.inr ⟨rfl, hI rfl, rfl⟩) rfl rfl dX12_init_55 rfl rfl ?_
  have n3 : ∀ b, b ≠ a → b_eq S3 (s_P S3 1004 a (some (z + 417))) b := fun b g => e_s_P _ _ _ _ g
  have n2 : ∀ b, b < z + 417 → b ≠ a → b_eq S2 (s_P S3 1004 a (some (z + 417))) b := fun b g1 g2 => ((e_s_P _ _ _ _ g2).tr ((e_n_O _ _ _ (by omega)).tr (i3.1 b (by omega) (by omega)))).tr (n3 b g2)
  have n1 : ∀ b, b < z + 4 → b ≠ a → b_eq S1 (s_P S3 1004 a (some (z + 417))) b := fun b g1 g2 => ((e_s_P _ _ _ _ g2).tr ((e_n_O _ _ _ (by omega)).tr (i2.1 b (by omega) (by omega)))).tr (n2 b (by omega) g2)
  have n0 : ∀ b, b < z + 1 → b ≠ a → b_eq (n_A S z 12 4096) (s_P S3 1004 a (some (z + 417))) b := fun b g1 g2 => ((e_s_P _ _ _ _ g2).tr ((e_n_O _ _ _ (by omega)).tr (i1.1 b (by omega) (by omega)))).tr (n1 b (by omega) g2)
  have ez := n0 z (by omega) (by omega)
  refine v_return hX hE dX12_init_58 (by omega) (by omega) ⟨rfl, rfl, ⟨fun b g1 g2 => (e_n_A _ _ _ _ (by omega)).tr (n0 b (by omega) g2), (by simp (disch := omega) only [q_K_s_I, q_K_s_J, q_K_s_P, q_K_s_A, q_K_s_B, q_K_s_C, q_K_r_A, q_K_r_B, y_K_n_O, x_K_n_O, y_K_n_A, x_K_n_A, k3]), fun f => ?_, ⟨?_, ?_, ?_, (by simp (disch := omega) only [q_P_s_I, q_P_s_J, q_P_s_A, q_P_s_B, q_P_s_C, q_P_n_A, q_P_r_A, q_P_r_B, y_P_s_P, x_P_s_P, y_P_n_O, x_P_n_O])⟩, ⟨ez.1.trans (by simp (disch := omega) only [q_K_s_I, q_K_s_J, q_K_s_P, q_K_s_A, q_K_s_B, q_K_s_C, q_K_r_A, q_K_r_B, y_K_n_O, x_K_n_O, y_K_n_A, x_K_n_A]), ez.2.2.2.2.1.trans (by simp (disch := omega) only [q_L_s_I, q_L_s_J, q_L_s_P, q_L_s_A, q_L_s_B, q_L_s_C, q_L_n_O, q_L_r_A, q_L_r_B, y_L_n_A, x_L_n_A])⟩, ⟨_, _, i1, fun f => (by simp (disch := omega) only [q_I_s_J, q_I_s_P, q_I_s_A, q_I_s_B, q_I_s_C, q_I_n_A, q_I_r_A, q_I_r_B, y_I_s_I, x_I_s_I, y_I_n_O, x_I_n_O]), fun b g1 g2 => n1 b g2 (by omega)⟩, ⟨_, _, i2, fun f => (by simp (disch := omega) only [q_I_s_J, q_I_s_P, q_I_s_A, q_I_s_B, q_I_s_C, q_I_n_A, q_I_r_A, q_I_r_B, y_I_s_I, x_I_s_I, y_I_n_O, x_I_n_O]), fun b g1 g2 => n2 b g2 (by omega)⟩, ⟨_, _, i3, fun f => (by simp (disch := omega) only [q_I_s_J, q_I_s_P, q_I_s_A, q_I_s_B, q_I_s_C, q_I_n_A, q_I_r_A, q_I_r_B, y_I_s_I, x_I_s_I, y_I_n_O, x_I_n_O]), fun b g1 g2 => n3 b (by omega)⟩⟩, fun j hj => ((n2 (z + 6) (by omega) (by omega)).2.2.2.2.2.1 j).trans (j1 j hj), fun j => ((n2 (z + 7) (by omega) (by omega)).2.2.2.2.2.1 j).trans (j2 j), fun j hj => ((n2 (z + 16 + j) (by omega) (by omega)).2.2.2.1 800).trans (j3 j hj), fun h => bY_sP ((y3 (bY_nO (by decide) (bY_sP ((y2 (bY_nO (by decide) (bY_sP ((y1 (bY_nO (by decide) (bY_sP (bY_nA h)))))))))))))⟩
  · rw [show m_I (s_P S3 1004 a (some (z + 417))) f a = m_I S3 f a from (by simp (disch := omega) only [q_I_s_J, q_I_s_P, q_I_s_A, q_I_s_B, q_I_s_C, q_I_n_A, q_I_r_A, q_I_r_B, y_I_s_I, x_I_s_I, y_I_n_O, x_I_n_O]), ec.2.1 f, show m_I (n_O (s_P S2 1003 a (some (z + 4))) (z + 417) 9) f a = m_I S2 f a from (by simp (disch := omega) only [q_I_s_J, q_I_s_P, q_I_s_A, q_I_s_B, q_I_s_C, q_I_n_A, q_I_r_A, q_I_r_B, y_I_s_I, x_I_s_I, y_I_n_O, x_I_n_O]), eb.2.1 f, show m_I (n_O (s_P S1 1002 a (some (z + 1))) (z + 4) 6) f a = m_I S1 f a from (by simp (disch := omega) only [q_I_s_J, q_I_s_P, q_I_s_A, q_I_s_B, q_I_s_C, q_I_n_A, q_I_r_A, q_I_r_B, y_I_s_I, x_I_s_I, y_I_n_O, x_I_n_O]), ea.2.1 f]; simp (disch := omega) only [q_I_s_J, q_I_s_P, q_I_s_A, q_I_s_B, q_I_s_C, q_I_n_A, q_I_r_A, q_I_r_B, y_I_s_I, x_I_s_I, y_I_n_O, x_I_n_O]
  · rw [show m_P (s_P S3 1004 a (some (z + 417))) 1000 a = m_P S3 1000 a from (by simp (disch := omega) only [q_P_s_I, q_P_s_J, q_P_s_A, q_P_s_B, q_P_s_C, q_P_n_A, q_P_r_A, q_P_r_B, y_P_s_P, x_P_s_P, y_P_n_O, x_P_n_O]), ec.2.2.2.1, show m_P (n_O (s_P S2 1003 a (some (z + 4))) (z + 417) 9) 1000 a = m_P S2 1000 a from (by simp (disch := omega) only [q_P_s_I, q_P_s_J, q_P_s_A, q_P_s_B, q_P_s_C, q_P_n_A, q_P_r_A, q_P_r_B, y_P_s_P, x_P_s_P, y_P_n_O, x_P_n_O]), eb.2.2.2.1, show m_P (n_O (s_P S1 1002 a (some (z + 1))) (z + 4) 6) 1000 a = m_P S1 1000 a from (by simp (disch := omega) only [q_P_s_I, q_P_s_J, q_P_s_A, q_P_s_B, q_P_s_C, q_P_n_A, q_P_r_A, q_P_r_B, y_P_s_P, x_P_s_P, y_P_n_O, x_P_n_O]), ea.2.2.2.1]; simp (disch := omega) only [q_P_s_I, q_P_s_J, q_P_s_A, q_P_s_B, q_P_s_C, q_P_n_A, q_P_r_A, q_P_r_B, y_P_s_P, x_P_s_P, y_P_n_O, x_P_n_O]
  · rw [show m_P (s_P S3 1004 a (some (z + 417))) 1002 a = m_P S3 1002 a from (by simp (disch := omega) only [q_P_s_I, q_P_s_J, q_P_s_A, q_P_s_B, q_P_s_C, q_P_n_A, q_P_r_A, q_P_r_B, y_P_s_P, x_P_s_P, y_P_n_O, x_P_n_O]), ec.2.2.2.1, show m_P (n_O (s_P S2 1003 a (some (z + 4))) (z + 417) 9) 1002 a = m_P S2 1002 a from (by simp (disch := omega) only [q_P_s_I, q_P_s_J, q_P_s_A, q_P_s_B, q_P_s_C, q_P_n_A, q_P_r_A, q_P_r_B, y_P_s_P, x_P_s_P, y_P_n_O, x_P_n_O])]; exact p2
  · rw [show m_P (s_P S3 1004 a (some (z + 417))) 1003 a = m_P S3 1003 a from (by simp (disch := omega) only [q_P_s_I, q_P_s_J, q_P_s_A, q_P_s_B, q_P_s_C, q_P_n_A, q_P_r_A, q_P_r_B, y_P_s_P, x_P_s_P, y_P_n_O, x_P_n_O]), ec.2.2.2.1]; simp (disch := omega) only [q_P_s_I, q_P_s_J, q_P_s_A, q_P_s_B, q_P_s_C, q_P_n_A, q_P_r_A, q_P_r_B, y_P_s_P, x_P_s_P, y_P_n_O, x_P_n_O]
