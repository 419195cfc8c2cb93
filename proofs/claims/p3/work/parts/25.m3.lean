/-- what Names' constructor leaves -/
def iNames (S S' : b_M) (a z : Nat) : Prop := (∀ b, b < z → b ≠ a → b_eq S S' b) ∧ m_K S' a = 5 ∧ (m_P S' 500 a = some z ∧ m_P S' 501 a = some (z + 1) ∧ m_P S' 502 a = some (z + 2) ∧ m_P S' 503 a = some (z + 3) ∧ m_I S' 504 a = 0 ∧ m_I S' 505 a = 0) ∧ m_K S' z = 13 ∧ m_L S' z = 1021 ∧ m_K S' (z + 1) = 13 ∧ m_L S' (z + 1) = 800 ∧ m_K S' (z + 2) = 14 ∧ m_L S' (z + 2) = 800 ∧ m_K S' (z + 3) = 13 ∧ m_L S' (z + 3) = 800
set_option maxRecDepth 100000 in
set_option maxHeartbeats 4000000 in
theorem i_Names {S : b_M} {a z : Nat} (hK : m_K S a = 5) (hlt : a < z) : iNames S (sForget (sNames0 S a z) a z) a z := by
  refine ⟨fun b g1 g2 => ?_, ?_, ⟨?_, ?_, ?_, ?_, ?_, ?_⟩, ?_, ?_, ?_, ?_, ?_, ?_, ?_, ?_⟩
  · refine ⟨?_, fun f => ?_, fun f => ?_, fun f => ?_, ?_, fun f => ?_, fun f => ?_, fun f => ?_⟩
    · simp (disch := omega) only [q_K_s_I, q_K_s_J, q_K_s_P, q_K_s_A, q_K_s_B, q_K_s_C, q_K_r_A, q_K_r_B, y_K_n_O, x_K_n_O, y_K_n_A, x_K_n_A, sForget, sNames0, hK]
    · simp (disch := omega) only [q_I_s_J, q_I_s_P, q_I_s_A, q_I_s_B, q_I_s_C, q_I_n_A, q_I_r_A, q_I_r_B, y_I_s_I, x_I_s_I, y_I_n_O, x_I_n_O, sForget, sNames0, hK]
    · simp (disch := omega) only [q_J_s_I, q_J_s_P, q_J_s_A, q_J_s_B, q_J_s_C, q_J_n_A, q_J_r_A, q_J_r_B, y_J_s_J, x_J_s_J, y_J_n_O, x_J_n_O, sForget, sNames0, hK]
    · simp (disch := omega) only [q_P_s_I, q_P_s_J, q_P_s_A, q_P_s_B, q_P_s_C, q_P_n_A, q_P_r_A, q_P_r_B, y_P_s_P, x_P_s_P, y_P_n_O, x_P_n_O, sForget, sNames0, hK]
    · simp (disch := omega) only [q_L_s_I, q_L_s_J, q_L_s_P, q_L_s_A, q_L_s_B, q_L_s_C, q_L_n_O, q_L_r_A, q_L_r_B, y_L_n_A, x_L_n_A, sForget, sNames0, hK]
    · simp (disch := omega) only [q_A_s_I, q_A_s_J, q_A_s_P, q_A_s_B, q_A_s_C, q_A_n_O, q_A_r_B, y_A_s_A, x_A_s_A, y_A_n_A, x_A_n_A, y_A_r_A, x_A_r_A, sForget, sNames0, hK]
    · simp (disch := omega) only [q_B_s_I, q_B_s_J, q_B_s_P, q_B_s_A, q_B_s_C, q_B_n_O, q_B_r_A, y_B_s_B, x_B_s_B, y_B_n_A, x_B_n_A, y_B_r_B, x_B_r_B, sForget, sNames0, hK]
    · simp (disch := omega) only [q_C_s_I, q_C_s_J, q_C_s_P, q_C_s_A, q_C_s_B, q_C_n_O, q_C_r_A, q_C_r_B, y_C_s_C, x_C_s_C, y_C_n_A, x_C_n_A, sForget, sNames0, hK]
  · simp (disch := omega) only [q_K_s_I, q_K_s_J, q_K_s_P, q_K_s_A, q_K_s_B, q_K_s_C, q_K_r_A, q_K_r_B, y_K_n_O, x_K_n_O, y_K_n_A, x_K_n_A, sForget, sNames0, hK]
  · simp (disch := omega) only [q_P_s_I, q_P_s_J, q_P_s_A, q_P_s_B, q_P_s_C, q_P_n_A, q_P_r_A, q_P_r_B, y_P_s_P, x_P_s_P, y_P_n_O, x_P_n_O, sForget, sNames0, hK]
  · simp (disch := omega) only [q_P_s_I, q_P_s_J, q_P_s_A, q_P_s_B, q_P_s_C, q_P_n_A, q_P_r_A, q_P_r_B, y_P_s_P, x_P_s_P, y_P_n_O, x_P_n_O, sForget, sNames0, hK]
  · simp (disch := omega) only [q_P_s_I, q_P_s_J, q_P_s_A, q_P_s_B, q_P_s_C, q_P_n_A, q_P_r_A, q_P_r_B, y_P_s_P, x_P_s_P, y_P_n_O, x_P_n_O, sForget, sNames0, hK]
  · simp (disch := omega) only [q_P_s_I, q_P_s_J, q_P_s_A, q_P_s_B, q_P_s_C, q_P_n_A, q_P_r_A, q_P_r_B, y_P_s_P, x_P_s_P, y_P_n_O, x_P_n_O, sForget, sNames0, hK]
  · simp (disch := omega) only [q_I_s_J, q_I_s_P, q_I_s_A, q_I_s_B, q_I_s_C, q_I_n_A, q_I_r_A, q_I_r_B, y_I_s_I, x_I_s_I, y_I_n_O, x_I_n_O, sForget, sNames0, hK]
  · simp (disch := omega) only [q_I_s_J, q_I_s_P, q_I_s_A, q_I_s_B, q_I_s_C, q_I_n_A, q_I_r_A, q_I_r_B, y_I_s_I, x_I_s_I, y_I_n_O, x_I_n_O, sForget, sNames0, hK]
  · simp (disch := omega) only [q_K_s_I, q_K_s_J, q_K_s_P, q_K_s_A, q_K_s_B, q_K_s_C, q_K_r_A, q_K_r_B, y_K_n_O, x_K_n_O, y_K_n_A, x_K_n_A, sForget, sNames0, hK]
  · simp (disch := omega) only [q_L_s_I, q_L_s_J, q_L_s_P, q_L_s_A, q_L_s_B, q_L_s_C, q_L_n_O, q_L_r_A, q_L_r_B, y_L_n_A, x_L_n_A, sForget, sNames0, hK]
  · simp (disch := omega) only [q_K_s_I, q_K_s_J, q_K_s_P, q_K_s_A, q_K_s_B, q_K_s_C, q_K_r_A, q_K_r_B, y_K_n_O, x_K_n_O, y_K_n_A, x_K_n_A, sForget, sNames0, hK]
  · simp (disch := omega) only [q_L_s_I, q_L_s_J, q_L_s_P, q_L_s_A, q_L_s_B, q_L_s_C, q_L_n_O, q_L_r_A, q_L_r_B, y_L_n_A, x_L_n_A, sForget, sNames0, hK]
  · simp (disch := omega) only [q_K_s_I, q_K_s_J, q_K_s_P, q_K_s_A, q_K_s_B, q_K_s_C, q_K_r_A, q_K_r_B, y_K_n_O, x_K_n_O, y_K_n_A, x_K_n_A, sForget, sNames0, hK]
  · simp (disch := omega) only [q_L_s_I, q_L_s_J, q_L_s_P, q_L_s_A, q_L_s_B, q_L_s_C, q_L_n_O, q_L_r_A, q_L_r_B, y_L_n_A, x_L_n_A, sForget, sNames0, hK]
  · simp (disch := omega) only [q_K_s_I, q_K_s_J, q_K_s_P, q_K_s_A, q_K_s_B, q_K_s_C, q_K_r_A, q_K_r_B, y_K_n_O, x_K_n_O, y_K_n_A, x_K_n_A, sForget, sNames0, hK]
  · simp (disch := omega) only [q_L_s_I, q_L_s_J, q_L_s_P, q_L_s_A, q_L_s_B, q_L_s_C, q_L_n_O, q_L_r_A, q_L_r_B, y_L_n_A, x_L_n_A, sForget, sNames0, hK]
theorem c_Names_init' {kn : Nat → Nat} {B : Nat} {S : b_M} {z a : Nat} (hK : m_K S a = 5) (hlt : a < z) : b_C kn B yX6_init cX6_init 1 none 2 43 4 3421 [.ref a] S z (fun r S' z' => r = none ∧ z' = z + 4 ∧ iNames S S' a z) (fun _ _ _ => False) := (c_Names_init hK hlt).mono (fun r S' z' ⟨h1, h2, h3⟩ => ⟨h1, h2, h3 ▸ i_Names hK hlt⟩) (fun _ _ _ h => h)
/-- what Expressions' constructor leaves -/
def iExpr (S S' : b_M) (a n z : Nat) : Prop := (∀ b, b < z → b ≠ a → b_eq S S' b) ∧ m_K S' a = 2 ∧ (∀ f, m_I S' f a = m_I S f a) ∧ (m_P S' 200 a = some n ∧ m_P S' 201 a = some z ∧ m_P S' 202 a = some (z + 1) ∧ m_P S' 203 a = some (z + 2) ∧ m_P S' 204 a = some (z + 3)) ∧ m_K S' z = 13 ∧ m_L S' z = 3208 ∧ m_K S' (z + 1) = 13 ∧ m_L S' (z + 1) = 3208 ∧ m_K S' (z + 2) = 13 ∧ m_L S' (z + 2) = 3209 ∧ (∀ j, m_A S' (z + 2) j = 0) ∧ m_K S' (z + 3) = 14 ∧ m_L S' (z + 3) = 256
set_option maxRecDepth 100000 in
set_option maxHeartbeats 4000000 in
theorem i_Expr {S : b_M} {a n z : Nat} (hK : m_K S a = 2) (hlt : a < z) : iExpr S (s_P (s_P (n_A (s_P (n_A (s_P (n_A (s_P (n_A S z 13 3208) 201 a (some z)) (z + 1) 13 3208) 202 a (some (z + 1))) (z + 1 + 1) 13 3209) 203 a (some (z + 1 + 1))) (z + 1 + 1 + 1) 14 256) 204 a (some (z + 1 + 1 + 1))) 200 a (some n)) a n z := by
  refine ⟨fun b g1 g2 => ?_, ?_, fun f => ?_, ⟨?_, ?_, ?_, ?_, ?_⟩, ?_, ?_, ?_, ?_, ?_, ?_, fun j => ?_, ?_, ?_⟩
  · refine ⟨?_, fun f => ?_, fun f => ?_, fun f => ?_, ?_, fun f => ?_, fun f => ?_, fun f => ?_⟩
    · simp (disch := omega) only [q_K_s_I, q_K_s_J, q_K_s_P, q_K_s_A, q_K_s_B, q_K_s_C, q_K_r_A, q_K_r_B, y_K_n_O, x_K_n_O, y_K_n_A, x_K_n_A]
    · simp (disch := omega) only [q_I_s_J, q_I_s_P, q_I_s_A, q_I_s_B, q_I_s_C, q_I_n_A, q_I_r_A, q_I_r_B, y_I_s_I, x_I_s_I, y_I_n_O, x_I_n_O]
    · simp (disch := omega) only [q_J_s_I, q_J_s_P, q_J_s_A, q_J_s_B, q_J_s_C, q_J_n_A, q_J_r_A, q_J_r_B, y_J_s_J, x_J_s_J, y_J_n_O, x_J_n_O]
    · simp (disch := omega) only [q_P_s_I, q_P_s_J, q_P_s_A, q_P_s_B, q_P_s_C, q_P_n_A, q_P_r_A, q_P_r_B, y_P_s_P, x_P_s_P, y_P_n_O, x_P_n_O]
    · simp (disch := omega) only [q_L_s_I, q_L_s_J, q_L_s_P, q_L_s_A, q_L_s_B, q_L_s_C, q_L_n_O, q_L_r_A, q_L_r_B, y_L_n_A, x_L_n_A]
    · simp (disch := omega) only [q_A_s_I, q_A_s_J, q_A_s_P, q_A_s_B, q_A_s_C, q_A_n_O, q_A_r_B, y_A_s_A, x_A_s_A, y_A_n_A, x_A_n_A, y_A_r_A, x_A_r_A]
    · simp (disch := omega) only [q_B_s_I, q_B_s_J, q_B_s_P, q_B_s_A, q_B_s_C, q_B_n_O, q_B_r_A, y_B_s_B, x_B_s_B, y_B_n_A, x_B_n_A, y_B_r_B, x_B_r_B]
    · simp (disch := omega) only [q_C_s_I, q_C_s_J, q_C_s_P, q_C_s_A, q_C_s_B, q_C_n_O, q_C_r_A, q_C_r_B, y_C_s_C, x_C_s_C, y_C_n_A, x_C_n_A]
  · simp (disch := omega) only [q_K_s_I, q_K_s_J, q_K_s_P, q_K_s_A, q_K_s_B, q_K_s_C, q_K_r_A, q_K_r_B, y_K_n_O, x_K_n_O, y_K_n_A, x_K_n_A, hK]
  · simp (disch := omega) only [q_I_s_J, q_I_s_P, q_I_s_A, q_I_s_B, q_I_s_C, q_I_n_A, q_I_r_A, q_I_r_B, y_I_s_I, x_I_s_I, y_I_n_O, x_I_n_O]
  · simp (disch := omega) only [q_P_s_I, q_P_s_J, q_P_s_A, q_P_s_B, q_P_s_C, q_P_n_A, q_P_r_A, q_P_r_B, y_P_s_P, x_P_s_P, y_P_n_O, x_P_n_O]
  · simp (disch := omega) only [q_P_s_I, q_P_s_J, q_P_s_A, q_P_s_B, q_P_s_C, q_P_n_A, q_P_r_A, q_P_r_B, y_P_s_P, x_P_s_P, y_P_n_O, x_P_n_O]
  · simp (disch := omega) only [q_P_s_I, q_P_s_J, q_P_s_A, q_P_s_B, q_P_s_C, q_P_n_A, q_P_r_A, q_P_r_B, y_P_s_P, x_P_s_P, y_P_n_O, x_P_n_O]
  · simp (disch := omega) only [q_P_s_I, q_P_s_J, q_P_s_A, q_P_s_B, q_P_s_C, q_P_n_A, q_P_r_A, q_P_r_B, y_P_s_P, x_P_s_P, y_P_n_O, x_P_n_O]
  · simp (disch := omega) only [q_P_s_I, q_P_s_J, q_P_s_A, q_P_s_B, q_P_s_C, q_P_n_A, q_P_r_A, q_P_r_B, y_P_s_P, x_P_s_P, y_P_n_O, x_P_n_O]
  · simp (disch := omega) only [q_K_s_I, q_K_s_J, q_K_s_P, q_K_s_A, q_K_s_B, q_K_s_C, q_K_r_A, q_K_r_B, y_K_n_O, x_K_n_O, y_K_n_A, x_K_n_A, hK]
  · simp (disch := omega) only [q_L_s_I, q_L_s_J, q_L_s_P, q_L_s_A, q_L_s_B, q_L_s_C, q_L_n_O, q_L_r_A, q_L_r_B, y_L_n_A, x_L_n_A]
  · simp (disch := omega) only [q_K_s_I, q_K_s_J, q_K_s_P, q_K_s_A, q_K_s_B, q_K_s_C, q_K_r_A, q_K_r_B, y_K_n_O, x_K_n_O, y_K_n_A, x_K_n_A, hK]
  · simp (disch := omega) only [q_L_s_I, q_L_s_J, q_L_s_P, q_L_s_A, q_L_s_B, q_L_s_C, q_L_n_O, q_L_r_A, q_L_r_B, y_L_n_A, x_L_n_A]
  · simp (disch := omega) only [q_K_s_I, q_K_s_J, q_K_s_P, q_K_s_A, q_K_s_B, q_K_s_C, q_K_r_A, q_K_r_B, y_K_n_O, x_K_n_O, y_K_n_A, x_K_n_A, hK]
  · simp (disch := omega) only [q_L_s_I, q_L_s_J, q_L_s_P, q_L_s_A, q_L_s_B, q_L_s_C, q_L_n_O, q_L_r_A, q_L_r_B, y_L_n_A, x_L_n_A]
  · simp (disch := omega) only [q_A_s_I, q_A_s_J, q_A_s_P, q_A_s_B, q_A_s_C, q_A_n_O, q_A_r_B, y_A_s_A, x_A_s_A, y_A_n_A, x_A_n_A, y_A_r_A, x_A_r_A]
  · simp (disch := omega) only [q_K_s_I, q_K_s_J, q_K_s_P, q_K_s_A, q_K_s_B, q_K_s_C, q_K_r_A, q_K_r_B, y_K_n_O, x_K_n_O, y_K_n_A, x_K_n_A, hK]
  · simp (disch := omega) only [q_L_s_I, q_L_s_J, q_L_s_P, q_L_s_A, q_L_s_B, q_L_s_C, q_L_n_O, q_L_r_A, q_L_r_B, y_L_n_A, x_L_n_A]
theorem c_Expr_init' {kn : Nat → Nat} {B : Nat} {S : b_M} {z a n : Nat} (hK : m_K S a = 2) (hlt : a < z) : b_C kn B yX3_init cX3_init 2 none 1 12 4 9881 [.ref a, .ref n] S z (fun r S' z' => r = none ∧ z' = z + 4 ∧ iExpr S S' a n z) (fun _ _ _ => False) := (c_Expressions_init hK hlt).mono (fun r S' z' ⟨h1, h2, h3⟩ => ⟨h1, h2, h3 ▸ i_Expr hK hlt⟩) (fun _ _ _ h => h)
def pInv (S0 Si : b_M) (z i : Nat) : Prop := (∀ b, b < z + 11 → b ≠ z + 10 → b_eq S0 Si b) ∧ m_K Si (z + 10) = 17 ∧ m_L Si (z + 10) = 401 ∧ ∀ j, j < i → m_C Si (z + 10) j = some (z + 11 + j) ∧ m_K Si (z + 11 + j) = 8
set_option maxRecDepth 100000 in
set_option maxHeartbeats 4000000 in
theorem prog_loop {X : b_T} (hX : b_X X cX8_init RX8 3 63 412 18128) {S0 : b_M} {z a er : Nat} {post : Option Value → b_M → Nat → Prop} {px : String → b_M → Nat → Prop} (hE : b_End X none 412 18128 post px) (hnL : b_n X = 3) (hlt : a < z) (hK : m_K S0 a = 6) (hP : m_P S0 603 a = some (z + 10)) (hp : ∀ Si, pInv S0 Si z 401 → post none Si (z + 412)) :
    ∀ (n i : Nat) (Si : b_M), i + n = 401 → pInv S0 Si z i → b_V X Si (z + 11 + i) (11 + i) (13717 + 11 * i) 47 [(2, .int (nI i)), (0, .ref a), (1, .ref er)] [] := by
  intro n
  induction n with
  | zero =>
    intro i Si h1 hv
    have e1 : i = 401 := by omega
    subst e1
    have e := hv.1 a (by omega) (by omega)
    have hK' : m_K Si a = 6 := e.1.trans hK
    have hP' : m_P Si 603 a = some (z + 10) := (e.2.2.2.1 603).trans hP
    refine v_iload_n hX dX8_init_47 (i := 2) rfl rfl ?_
    refine v_aload_n hX dX8_init_48 (i := 0) rfl rfl ?_
    refine v_get hX (ci := 6) (k := 3) (by simp (disch := omega) only [q_K_s_I, q_K_s_J, q_K_s_P, q_K_s_A, q_K_s_B, q_K_s_C, q_K_r_A, q_K_r_B, y_K_n_O, x_K_n_O, y_K_n_A, x_K_n_A, hK', hP']) bc_6 (by decide) (by decide) in_6 w_1_198 dX8_init_49 (mvP (f := 603) (q := (z + 10)) rfl rfl (by simp (disch := omega) only [q_P_s_I, q_P_s_J, q_P_s_A, q_P_s_B, q_P_s_C, q_P_n_A, q_P_r_A, q_P_r_B, y_P_s_P, x_P_s_P, y_P_n_O, x_P_n_O, hK', hP'])) ?_
    refine v_alen hX (hv.2.1) (by decide) (t0 := 5) rfl dX8_init_52 ?_
    rw [hv.2.2.1]
    refine v_icmp_ge hX (tgt := 75) dX8_init_53 (by decide) (fun h => ?_) (fun h => ?_)
    · exact v_return hX hE dX8_init_75 (by omega) (by omega) (hp Si hv)
    · exact absurd (Int32.le_refl _) h
  | succ n ih =>
    intro i Si h1 hv
    have e := hv.1 a (by omega) (by omega)
    have hK' : m_K Si a = 6 := e.1.trans hK
    have hP' : m_P Si 603 a = some (z + 10) := (e.2.2.2.1 603).trans hP
    refine v_iload_n hX dX8_init_47 (i := 2) rfl rfl ?_
    refine v_aload_n hX dX8_init_48 (i := 0) rfl rfl ?_
    refine v_get hX (ci := 6) (k := 3) (by simp (disch := omega) only [q_K_s_I, q_K_s_J, q_K_s_P, q_K_s_A, q_K_s_B, q_K_s_C, q_K_r_A, q_K_r_B, y_K_n_O, x_K_n_O, y_K_n_A, x_K_n_A, hK', hP']) bc_6 (by decide) (by decide) in_6 w_1_198 dX8_init_49 (mvP (f := 603) (q := (z + 10)) rfl rfl (by simp (disch := omega) only [q_P_s_I, q_P_s_J, q_P_s_A, q_P_s_B, q_P_s_C, q_P_n_A, q_P_r_A, q_P_r_B, y_P_s_P, x_P_s_P, y_P_n_O, x_P_n_O, hK', hP'])) ?_
    refine v_alen hX (hv.2.1) (by decide) (t0 := 5) rfl dX8_init_52 ?_
    rw [hv.2.2.1]
    refine v_icmp_ge hX (tgt := 75) dX8_init_53 (by decide) (fun h => ?_) (fun h => ?_)
    · exact absurd h (nI_ge (by omega) (by decide))
    refine v_aload_n hX dX8_init_56 (i := 0) rfl rfl ?_
    refine v_get hX (ci := 6) (k := 3) (by simp (disch := omega) only [q_K_s_I, q_K_s_J, q_K_s_P, q_K_s_A, q_K_s_B, q_K_s_C, q_K_r_A, q_K_r_B, y_K_n_O, x_K_n_O, y_K_n_A, x_K_n_A, hK', hP']) bc_6 (by decide) (by decide) in_6 w_1_198 dX8_init_57 (mvP (f := 603) (q := (z + 10)) rfl rfl (by simp (disch := omega) only [q_P_s_I, q_P_s_J, q_P_s_A, q_P_s_B, q_P_s_C, q_P_n_A, q_P_r_A, q_P_r_B, y_P_s_P, x_P_s_P, y_P_n_O, x_P_n_O, hK', hP'])) ?_
    refine v_iload_n hX dX8_init_60 (i := 2) rfl rfl ?_
    refine v_new hX (ci := 8) bc_8 (by decide) in_8 tyX10_ok dv_8 w_1_132 w_1_134 w_1_7 dX8_init_61 (by omega) (by omega) ?_
    refine v_dup hX dX8_init_64 rfl ?_
    refine v_callI hX (n := 0) (host := "AssembleLines") (c_Statement_init (S := n_O Si (z + 11 + i) 8) (z := z + 11 + i + 1) (a := z + 11 + i) (by simp (disch := omega) only [q_K_s_I, q_K_s_J, q_K_s_P, q_K_s_A, q_K_s_B, q_K_s_C, q_K_r_A, q_K_r_B, y_K_n_O, x_K_n_O, y_K_n_A, x_K_n_A]) (by omega)) (Or.inr (List.mem_of_getElem? (i := 1) rfl)) w_1_136 w_1_7 w_1_137 rfl (by decide +kernel) rfl ⟨by decide, by decide⟩ ⟨by omega, by omega⟩ (Nat.le_of_ble_eq_true rfl) rfl dX8_init_65 (fun _ _ _ h => h) ?_
    rintro r1 S1 z1 ⟨rfl, rfl, rfl⟩
    refine v_aast hX (kd := 17) (t0 := 5) (C := RX10) (ci := 8) (Or.inr rfl) (fun _ => rfl) (by simp (disch := omega) only [q_K_s_I, q_K_s_J, q_K_s_P, q_K_s_A, q_K_s_B, q_K_s_C, q_K_r_A, q_K_r_B, y_K_n_O, x_K_n_O, y_K_n_A, x_K_n_A, hv.2.1]) (by simp (disch := omega) only [q_L_s_I, q_L_s_J, q_L_s_P, q_L_s_A, q_L_s_B, q_L_s_C, q_L_n_O, q_L_r_A, q_L_r_B, y_L_n_A, x_L_n_A, hv.2.2.1]; exact vp_in_nI (by omega) (by decide)) (by simp (disch := omega) only [q_K_s_I, q_K_s_J, q_K_s_P, q_K_s_A, q_K_s_B, q_K_s_C, q_K_r_A, q_K_r_B, y_K_n_O, x_K_n_O, y_K_n_A, x_K_n_A]) (by decide) bc_8 dX8_init_68 ?_
    rw [nI_clamp (by omega)]
    refine v_iinc hX (v := nI (i + 1)) (lv' := [(2, .int (nI (i + 1))), (0, .ref a), (1, .ref er)]) dX8_init_69 rfl (nI_succ i).symm (by rw [hnL]; decide) rfl ?_
    refine v_goto hX (tgt := 47) dX8_init_72 (by decide) ?_
    refine v_widen (c1 := 11 + (i + 1)) (s1 := 13717 + 11 * (i + 1)) (by omega) (by omega) ?_
    refine ih (i + 1) _ (by omega) ⟨fun b g1 g2 => ((hv.1 b g1 g2).tr (e_n_O _ _ _ (by omega))).tr ((e_s_P _ _ _ _ (by omega)).tr (e_s_C _ _ _ _ (by omega))), ?_, ?_, ?_⟩
    · simp (disch := omega) only [q_K_s_I, q_K_s_J, q_K_s_P, q_K_s_A, q_K_s_B, q_K_s_C, q_K_r_A, q_K_r_B, y_K_n_O, x_K_n_O, y_K_n_A, x_K_n_A, hv.2.1]
    · simp (disch := omega) only [q_L_s_I, q_L_s_J, q_L_s_P, q_L_s_A, q_L_s_B, q_L_s_C, q_L_n_O, q_L_r_A, q_L_r_B, y_L_n_A, x_L_n_A, hv.2.2.1]
    · intro j hj
      by_cases g : j = i
      · subst g
        exact ⟨by simp (disch := omega) only [q_C_s_I, q_C_s_J, q_C_s_P, q_C_s_A, q_C_s_B, q_C_n_O, q_C_r_A, q_C_r_B, y_C_s_C, x_C_s_C, y_C_n_A, x_C_n_A], by simp (disch := omega) only [q_K_s_I, q_K_s_J, q_K_s_P, q_K_s_A, q_K_s_B, q_K_s_C, q_K_r_A, q_K_r_B, y_K_n_O, x_K_n_O, y_K_n_A, x_K_n_A]⟩
      · obtain ⟨g1, g2⟩ := hv.2.2.2 j (by omega)
        exact ⟨by simp (disch := omega) only [q_C_s_I, q_C_s_J, q_C_s_P, q_C_s_A, q_C_s_B, q_C_n_O, q_C_r_A, q_C_r_B, y_C_s_C, x_C_s_C, y_C_n_A, x_C_n_A, g1], by simp (disch := omega) only [q_K_s_I, q_K_s_J, q_K_s_P, q_K_s_A, q_K_s_B, q_K_s_C, q_K_r_A, q_K_r_B, y_K_n_O, x_K_n_O, y_K_n_A, x_K_n_A, g2]⟩
/-- what Program's constructor leaves: Names at z, Expressions at z + 5, the statements' array at z + 10, the statements behind it -/
def iProg (S S' : b_M) (a er z : Nat) : Prop := (∀ b, b < z → b ≠ a → b_eq S S' b) ∧ m_K S' a = 6 ∧ (∀ f, m_I S' f a = m_I S f a) ∧ (m_P S' 600 a = some er ∧ m_P S' 601 a = some z ∧ m_P S' 602 a = some (z + 5) ∧ m_P S' 603 a = some (z + 10)) ∧ (∃ S1 S2, iNames S1 S2 z (z + 1) ∧ ∀ b, z ≤ b → b < z + 5 → b_eq S2 S' b) ∧ (∃ S1 S2, iExpr S1 S2 (z + 5) z (z + 6) ∧ (∀ f, m_I S1 f (z + 5) = 0) ∧ ∀ b, z + 5 ≤ b → b < z + 10 → b_eq S2 S' b) ∧ m_K S' (z + 10) = 17 ∧ m_L S' (z + 10) = 401 ∧ ∀ j, j < 401 → m_C S' (z + 10) j = some (z + 11 + j) ∧ m_K S' (z + 11 + j) = 8
set_option maxRecDepth 100000 in
set_option maxHeartbeats 4000000 in
theorem c_Program_init {kn : Nat → Nat} {B : Nat} {S : b_M} {z a er : Nat} (hK : m_K S a = 6) (hlt : a < z) : b_C kn B yX8_init cX8_init 3 none 3 63 412 18128 [.ref a, .ref er] S z (fun r S' z' => r = none ∧ z' = z + 412 ∧ iProg S S' a er z) (fun _ _ _ => False) := by
  refine b_enter (by decide) (Nat.le_of_ble_eq_true rfl) ?_
  intro X hX hE hnL hkn hB hI
  subst hkn; subst hB
  change b_V X S z 0 0 0 [(0, .ref a), (1, .ref er)] []
  refine v_aload_n hX dX8_init_0 (i := 0) rfl rfl ?_
  refine v_objInit hX w_1_63 w_1_35 w_1_36 (by decide) (by decide) dX8_init_1 ?_
  refine v_aload_n hX dX8_init_4 (i := 0) rfl rfl ?_
  refine v_new hX (ci := 5) bc_5 (by decide) in_5 tyX6_ok dv_5 w_1_64 w_1_65 w_1_4 dX8_init_5 (by omega) (by omega) ?_
  refine v_dup hX dX8_init_8 rfl ?_
  refine v_callI hX (n := 0) (host := "AssembleLines") (c_Names_init' (S := n_O S z 5) (z := z + 1) (a := z) (by simp (disch := omega) only [q_K_s_I, q_K_s_J, q_K_s_P, q_K_s_A, q_K_s_B, q_K_s_C, q_K_r_A, q_K_r_B, y_K_n_O, x_K_n_O, y_K_n_A, x_K_n_A]) (by omega)) (Or.inl w_1_66) w_1_67 w_1_4 w_1_68 rfl (by decide +kernel) rfl ⟨by decide, by decide⟩ ⟨by omega, by omega⟩ (Nat.le_of_ble_eq_true rfl) rfl dX8_init_9 (fun _ _ _ h => h) ?_
  rintro r1 S1 z1 ⟨rfl, rfl, i1⟩
  have ea := i1.1 a (by omega) (by omega)
  have k1 : m_K S1 a = 6 := ea.1.trans (by simp (disch := omega) only [q_K_s_I, q_K_s_J, q_K_s_P, q_K_s_A, q_K_s_B, q_K_s_C, q_K_r_A, q_K_r_B, y_K_n_O, x_K_n_O, y_K_n_A, x_K_n_A, hK])
  refine v_putP hX (ci := 6) (k := 1) (f := 601) (by simp (disch := omega) only [q_K_s_I, q_K_s_J, q_K_s_P, q_K_s_A, q_K_s_B, q_K_s_C, q_K_r_A, q_K_r_B, y_K_n_O, x_K_n_O, y_K_n_A, x_K_n_A, k1]) bc_6 (by decide) (by decide) in_6 tyX8_ok nmX8 w_1_193 (Or.inr ⟨rfl, hI rfl, rfl⟩) rfl rfl dX8_init_12 rfl rfl ?_
  refine v_aload_n hX dX8_init_15 (i := 0) rfl rfl ?_
  refine v_new hX (ci := 2) bc_2 (by decide) in_2 tyX3_ok dv_2 w_1_99 w_1_100 w_1_6 dX8_init_16 (by omega) (by omega) ?_
  refine v_dup hX dX8_init_19 rfl ?_
  refine v_aload_n hX dX8_init_20 (i := 0) rfl rfl ?_
  refine v_get hX (ci := 6) (k := 1) (by simp (disch := omega) only [q_K_s_I, q_K_s_J, q_K_s_P, q_K_s_A, q_K_s_B, q_K_s_C, q_K_r_A, q_K_r_B, y_K_n_O, x_K_n_O, y_K_n_A, x_K_n_A, k1]) bc_6 (by decide) (by decide) in_6 w_1_193 dX8_init_21 (mvP (f := 601) (q := z) rfl rfl (by simp (disch := omega) only [q_P_s_I, q_P_s_J, q_P_s_A, q_P_s_B, q_P_s_C, q_P_n_A, q_P_r_A, q_P_r_B, y_P_s_P, x_P_s_P, y_P_n_O, x_P_n_O, k1])) ?_
  refine v_callI hX (n := 1) (host := "AssembleLines") (c_Expr_init' (S := n_O (s_P S1 601 a (some z)) (z + 5) 2) (z := z + 6) (a := z + 5) (n := z) (by simp (disch := omega) only [q_K_s_I, q_K_s_J, q_K_s_P, q_K_s_A, q_K_s_B, q_K_s_C, q_K_r_A, q_K_r_B, y_K_n_O, x_K_n_O, y_K_n_A, x_K_n_A]) (by omega)) (Or.inl w_1_101) w_1_102 w_1_6 w_1_103 rfl (by decide +kernel) rfl ⟨by decide, by decide⟩ ⟨by omega, by omega⟩ (Nat.le_of_ble_eq_true rfl) rfl dX8_init_24 (fun _ _ _ h => h) ?_
  rintro r2 S2 z2 ⟨rfl, rfl, i2⟩
  have eb := i2.1 a (by omega) (by omega)
  have k2 : m_K S2 a = 6 := eb.1.trans (by simp (disch := omega) only [q_K_s_I, q_K_s_J, q_K_s_P, q_K_s_A, q_K_s_B, q_K_s_C, q_K_r_A, q_K_r_B, y_K_n_O, x_K_n_O, y_K_n_A, x_K_n_A, k1])
  refine v_putP hX (ci := 6) (k := 2) (f := 602) (by simp (disch := omega) only [q_K_s_I, q_K_s_J, q_K_s_P, q_K_s_A, q_K_s_B, q_K_s_C, q_K_r_A, q_K_r_B, y_K_n_O, x_K_n_O, y_K_n_A, x_K_n_A, k2]) bc_6 (by decide) (by decide) in_6 tyX8_ok nmX8 w_1_196 (Or.inr ⟨rfl, hI rfl, rfl⟩) rfl rfl dX8_init_27 rfl rfl ?_
  refine v_aload_n hX dX8_init_30 (i := 0) rfl rfl ?_
  refine v_sipush hX (v := (401)) dX8_init_31 (by decide) ?_
  refine v_anew hX (kd := 17) (t0 := 5) (C := RX10) (N := 401) (Or.inr rfl) (fun _ => rfl) w_1_132 (List.mem_of_getElem? (i := 0) rfl) dX8_init_34 (by decide) (by decide) (by decide) (by omega) (by omega) ?_
  refine v_putP hX (ci := 6) (k := 3) (f := 603) (by simp (disch := omega) only [q_K_s_I, q_K_s_J, q_K_s_P, q_K_s_A, q_K_s_B, q_K_s_C, q_K_r_A, q_K_r_B, y_K_n_O, x_K_n_O, y_K_n_A, x_K_n_A, k2]) bc_6 (by decide) (by decide) in_6 tyX8_ok nmX8 w_1_198 (Or.inr ⟨rfl, hI rfl, rfl⟩) rfl rfl dX8_init_37 rfl rfl ?_
  refine v_aload_n hX dX8_init_40 (i := 0) rfl rfl ?_
  refine v_aload_n hX dX8_init_41 (i := 1) rfl rfl ?_
  refine v_putP hX (ci := 6) (k := 0) (f := 600) (by simp (disch := omega) only [q_K_s_I, q_K_s_J, q_K_s_P, q_K_s_A, q_K_s_B, q_K_s_C, q_K_r_A, q_K_r_B, y_K_n_O, x_K_n_O, y_K_n_A, x_K_n_A, k2]) bc_6 (by decide) (by decide) in_6 tyX8_ok nmX8 w_1_192 (Or.inr ⟨rfl, hI rfl, rfl⟩) rfl rfl dX8_init_42 rfl rfl ?_
  refine v_iconst hX (v := nI 0) dX8_init_45 (by decide) ?_
  refine v_istore_n hX (lv' := [(2, .int (nI 0)), (0, .ref a), (1, .ref er)]) dX8_init_46 (i := 2) rfl (by rw [hnL]; decide) rfl ?_
  change b_V X (s_P (s_P (n_A (s_P S2 602 a (some (z + 5))) (z + 10) 17 401) 603 a (some (z + 10))) 600 a (some er)) (z + 11) 11 13717 47 _ _
  refine prog_loop hX hE hnL hlt (by simp (disch := omega) only [q_K_s_I, q_K_s_J, q_K_s_P, q_K_s_A, q_K_s_B, q_K_s_C, q_K_r_A, q_K_r_B, y_K_n_O, x_K_n_O, y_K_n_A, x_K_n_A, k2]) (by simp (disch := omega) only [q_P_s_I, q_P_s_J, q_P_s_A, q_P_s_B, q_P_s_C, q_P_n_A, q_P_r_A, q_P_r_B, y_P_s_P, x_P_s_P, y_P_n_O, x_P_n_O]) (fun Si hv => ⟨rfl, rfl, ?_⟩) 401 0 _ rfl ⟨fun b _ _ => b_eq.rf _ _, (by simp (disch := omega) only [q_K_s_I, q_K_s_J, q_K_s_P, q_K_s_A, q_K_s_B, q_K_s_C, q_K_r_A, q_K_r_B, y_K_n_O, x_K_n_O, y_K_n_A, x_K_n_A]), (by simp (disch := omega) only [q_L_s_I, q_L_s_J, q_L_s_P, q_L_s_A, q_L_s_B, q_L_s_C, q_L_n_O, q_L_r_A, q_L_r_B, y_L_n_A, x_L_n_A]), fun j hj => absurd hj (by omega)⟩
  have s2 : ∀ b, b < z + 10 → b ≠ a → b_eq S2 Si b := fun b g1 g2 => ((e_s_P _ _ _ _ g2).tr ((e_n_A _ _ _ _ (by omega)).tr ((e_s_P _ _ _ _ g2).tr (e_s_P _ _ _ _ g2)))).tr (hv.1 b (by omega) (by omega))
  have s1 : ∀ b, b < z + 5 → b ≠ a → b_eq S1 Si b := fun b g1 g2 => ((e_s_P _ _ _ _ g2).tr ((e_n_O _ _ _ (by omega)).tr (i2.1 b (by omega) (by omega)))).tr (s2 b (by omega) g2)
  have ec := hv.1 a (by omega) (by omega)
  refine ⟨fun b g1 g2 => ((e_n_O _ _ _ (by omega)).tr (i1.1 b (by omega) (by omega))).tr (s1 b (by omega) g2), ec.1.trans (by simp (disch := omega) only [q_K_s_I, q_K_s_J, q_K_s_P, q_K_s_A, q_K_s_B, q_K_s_C, q_K_r_A, q_K_r_B, y_K_n_O, x_K_n_O, y_K_n_A, x_K_n_A, k2]), fun f => (ec.2.1 f).trans ?_, ⟨(ec.2.2.2.1 _).trans (by simp (disch := omega) only [q_P_s_I, q_P_s_J, q_P_s_A, q_P_s_B, q_P_s_C, q_P_n_A, q_P_r_A, q_P_r_B, y_P_s_P, x_P_s_P, y_P_n_O, x_P_n_O]), (ec.2.2.2.1 _).trans ?_, (ec.2.2.2.1 _).trans (by simp (disch := omega) only [q_P_s_I, q_P_s_J, q_P_s_A, q_P_s_B, q_P_s_C, q_P_n_A, q_P_r_A, q_P_r_B, y_P_s_P, x_P_s_P, y_P_n_O, x_P_n_O]), (ec.2.2.2.1 _).trans (by simp (disch := omega) only [q_P_s_I, q_P_s_J, q_P_s_A, q_P_s_B, q_P_s_C, q_P_n_A, q_P_r_A, q_P_r_B, y_P_s_P, x_P_s_P, y_P_n_O, x_P_n_O])⟩, ⟨_, _, i1, fun b g1 g2 => s1 b g2 (by omega)⟩, ⟨_, _, i2, fun f => ?_, fun b g1 g2 => s2 b g2 (by omega)⟩, hv.2.1, hv.2.2.1, hv.2.2.2⟩
  · rw [show m_I (s_P (s_P (n_A (s_P S2 602 a (some (z + 5))) (z + 10) 17 401) 603 a (some (z + 10))) 600 a (some er)) f a = m_I S2 f a from (by simp (disch := omega) only [q_I_s_J, q_I_s_P, q_I_s_A, q_I_s_B, q_I_s_C, q_I_n_A, q_I_r_A, q_I_r_B, y_I_s_I, x_I_s_I, y_I_n_O, x_I_n_O]), eb.2.1 f, show m_I (n_O (s_P S1 601 a (some z)) (z + 5) 2) f a = m_I S1 f a from (by simp (disch := omega) only [q_I_s_J, q_I_s_P, q_I_s_A, q_I_s_B, q_I_s_C, q_I_n_A, q_I_r_A, q_I_r_B, y_I_s_I, x_I_s_I, y_I_n_O, x_I_n_O]), ea.2.1 f]; simp (disch := omega) only [q_I_s_J, q_I_s_P, q_I_s_A, q_I_s_B, q_I_s_C, q_I_n_A, q_I_r_A, q_I_r_B, y_I_s_I, x_I_s_I, y_I_n_O, x_I_n_O]
  · rw [show m_P (s_P (s_P (n_A (s_P S2 602 a (some (z + 5))) (z + 10) 17 401) 603 a (some (z + 10))) 600 a (some er)) 601 a = m_P S2 601 a from (by simp (disch := omega) only [q_P_s_I, q_P_s_J, q_P_s_A, q_P_s_B, q_P_s_C, q_P_n_A, q_P_r_A, q_P_r_B, y_P_s_P, x_P_s_P, y_P_n_O, x_P_n_O]), eb.2.2.2.1 601]; simp (disch := omega) only [q_P_s_I, q_P_s_J, q_P_s_A, q_P_s_B, q_P_s_C, q_P_n_A, q_P_r_A, q_P_r_B, y_P_s_P, x_P_s_P, y_P_n_O, x_P_n_O]
  · simp (disch := omega) only [q_I_s_J, q_I_s_P, q_I_s_A, q_I_s_B, q_I_s_C, q_I_n_A, q_I_r_A, q_I_r_B, y_I_s_I, x_I_s_I, y_I_n_O, x_I_n_O]
