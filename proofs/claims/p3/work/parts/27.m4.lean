def iCall (S S' : b_M) (a z : Nat) : Prop := (∀ b, b < z → b ≠ a → b_eq S S' b) ∧ m_K S' a = 0 ∧ (∀ f, m_I S' f a = m_I S f a) ∧ (∀ f, m_J S' f a = m_J S f a) ∧ m_P S' 0 a = some z ∧ m_P S' 1 a = some z ∧ m_P S' 2 a = some (z + 1) ∧ m_P S' 3 a = some (z + 2) ∧ m_K S' z = 12 ∧ m_L S' z = 100 ∧ m_K S' (z + 1) = 13 ∧ m_L S' (z + 1) = 4 ∧ m_K S' (z + 2) = 13 ∧ m_L S' (z + 2) = 4
set_option maxRecDepth 100000 in
set_option maxHeartbeats 4000000 in
theorem iCall_of {S : b_M} {a z : Nat} (hK : m_K S a = 0) (hlt : a < z) : iCall S (s_P (n_A (s_P (n_A (s_P (s_P (n_A S z 12 100) 0 a (some z)) 1 a (some z)) (z + 1) 13 4) 2 a (some (z + 1))) (z + 1 + 1) 13 4) 3 a (some (z + 1 + 1))) a z := by
  refine ⟨fun b g1 g2 => ?_, ?_, fun f => ?_, fun f => ?_, ?_, ?_, ?_, ?_, ?_, ?_, ?_, ?_, ?_, ?_⟩
  · exact ((e_n_A _ _ _ _ (by omega)).tr ((e_s_P _ _ _ _ (by omega)).tr ((e_s_P _ _ _ _ (by omega)).tr ((e_n_A _ _ _ _ (by omega)).tr ((e_s_P _ _ _ _ (by omega)).tr ((e_n_A _ _ _ _ (by omega)).tr (e_s_P _ _ _ _ (by omega))))))))
  · simp (disch := omega) only [q_K_s_I, q_K_s_J, q_K_s_P, q_K_s_A, q_K_s_B, q_K_s_C, q_K_r_A, q_K_r_B, y_K_n_O, x_K_n_O, y_K_n_A, x_K_n_A, hK]
  · simp (disch := omega) only [q_I_s_J, q_I_s_P, q_I_s_A, q_I_s_B, q_I_s_C, q_I_n_A, q_I_r_A, q_I_r_B, y_I_s_I, x_I_s_I, y_I_n_O, x_I_n_O]
  · simp (disch := omega) only [q_J_s_I, q_J_s_P, q_J_s_A, q_J_s_B, q_J_s_C, q_J_n_A, q_J_r_A, q_J_r_B, y_J_s_J, x_J_s_J, y_J_n_O, x_J_n_O]
  · simp (disch := omega) only [q_P_s_I, q_P_s_J, q_P_s_A, q_P_s_B, q_P_s_C, q_P_n_A, q_P_r_A, q_P_r_B, y_P_s_P, x_P_s_P, y_P_n_O, x_P_n_O]
  · simp (disch := omega) only [q_P_s_I, q_P_s_J, q_P_s_A, q_P_s_B, q_P_s_C, q_P_n_A, q_P_r_A, q_P_r_B, y_P_s_P, x_P_s_P, y_P_n_O, x_P_n_O]
  · simp (disch := omega) only [q_P_s_I, q_P_s_J, q_P_s_A, q_P_s_B, q_P_s_C, q_P_n_A, q_P_r_A, q_P_r_B, y_P_s_P, x_P_s_P, y_P_n_O, x_P_n_O]
  · simp (disch := omega) only [q_P_s_I, q_P_s_J, q_P_s_A, q_P_s_B, q_P_s_C, q_P_n_A, q_P_r_A, q_P_r_B, y_P_s_P, x_P_s_P, y_P_n_O, x_P_n_O]
  · simp (disch := omega) only [q_K_s_I, q_K_s_J, q_K_s_P, q_K_s_A, q_K_s_B, q_K_s_C, q_K_r_A, q_K_r_B, y_K_n_O, x_K_n_O, y_K_n_A, x_K_n_A]
  · simp (disch := omega) only [q_L_s_I, q_L_s_J, q_L_s_P, q_L_s_A, q_L_s_B, q_L_s_C, q_L_n_O, q_L_r_A, q_L_r_B, y_L_n_A, x_L_n_A]
  · simp (disch := omega) only [q_K_s_I, q_K_s_J, q_K_s_P, q_K_s_A, q_K_s_B, q_K_s_C, q_K_r_A, q_K_r_B, y_K_n_O, x_K_n_O, y_K_n_A, x_K_n_A]
  · simp (disch := omega) only [q_L_s_I, q_L_s_J, q_L_s_P, q_L_s_A, q_L_s_B, q_L_s_C, q_L_n_O, q_L_r_A, q_L_r_B, y_L_n_A, x_L_n_A]
  · simp (disch := omega) only [q_K_s_I, q_K_s_J, q_K_s_P, q_K_s_A, q_K_s_B, q_K_s_C, q_K_r_A, q_K_r_B, y_K_n_O, x_K_n_O, y_K_n_A, x_K_n_A]
  · simp (disch := omega) only [q_L_s_I, q_L_s_J, q_L_s_P, q_L_s_A, q_L_s_B, q_L_s_C, q_L_n_O, q_L_r_A, q_L_r_B, y_L_n_A, x_L_n_A]
theorem c_Call_init' {kn : Nat → Nat} {B : Nat} {S : b_M} {z a : Nat} (hK : m_K S a = 0) (hlt : a < z) : b_C kn B yX1_init cX1_init 1 none 1 12 3 108 [.ref a] S z (fun r S' z' => r = none ∧ z' = z + 3 ∧ iCall S S' a z) (fun _ _ _ => False) := (c_Call_init hK hlt).mono (fun r S' z' ⟨h1, h2, h3⟩ => ⟨h1, h2, h3 ▸ iCall_of hK hlt⟩) (fun _ _ _ h => h)
def iMac (S S' : b_M) (a z : Nat) : Prop := (∀ b, b < z → b ≠ a → b_eq S S' b) ∧ m_K S' a = 4 ∧ (∀ f, m_I S' f a = m_I S f a) ∧ (∀ f, m_J S' f a = m_J S f a) ∧ m_P S' 400 a = some z ∧ m_P S' 401 a = some (z + 1) ∧ m_P S' 402 a = some (z + 2) ∧ m_K S' z = 14 ∧ m_L S' z = 12 ∧ m_K S' (z + 1) = 13 ∧ m_L S' (z + 1) = 12 ∧ m_K S' (z + 2) = 13 ∧ m_L S' (z + 2) = 12
set_option maxRecDepth 100000 in
set_option maxHeartbeats 4000000 in
theorem iMac_of {S : b_M} {a z : Nat} (hK : m_K S a = 4) (hlt : a < z) : iMac S (s_P (n_A (s_P (n_A (s_P (n_A S z 14 12) 400 a (some z)) (z + 1) 13 12) 401 a (some (z + 1))) (z + 1 + 1) 13 12) 402 a (some (z + 1 + 1))) a z := by
  refine ⟨fun b g1 g2 => ?_, ?_, fun f => ?_, fun f => ?_, ?_, ?_, ?_, ?_, ?_, ?_, ?_, ?_, ?_⟩
  · exact ((e_n_A _ _ _ _ (by omega)).tr ((e_s_P _ _ _ _ (by omega)).tr ((e_n_A _ _ _ _ (by omega)).tr ((e_s_P _ _ _ _ (by omega)).tr ((e_n_A _ _ _ _ (by omega)).tr (e_s_P _ _ _ _ (by omega)))))))
  · simp (disch := omega) only [q_K_s_I, q_K_s_J, q_K_s_P, q_K_s_A, q_K_s_B, q_K_s_C, q_K_r_A, q_K_r_B, y_K_n_O, x_K_n_O, y_K_n_A, x_K_n_A, hK]
  · simp (disch := omega) only [q_I_s_J, q_I_s_P, q_I_s_A, q_I_s_B, q_I_s_C, q_I_n_A, q_I_r_A, q_I_r_B, y_I_s_I, x_I_s_I, y_I_n_O, x_I_n_O]
  · simp (disch := omega) only [q_J_s_I, q_J_s_P, q_J_s_A, q_J_s_B, q_J_s_C, q_J_n_A, q_J_r_A, q_J_r_B, y_J_s_J, x_J_s_J, y_J_n_O, x_J_n_O]
  · simp (disch := omega) only [q_P_s_I, q_P_s_J, q_P_s_A, q_P_s_B, q_P_s_C, q_P_n_A, q_P_r_A, q_P_r_B, y_P_s_P, x_P_s_P, y_P_n_O, x_P_n_O]
  · simp (disch := omega) only [q_P_s_I, q_P_s_J, q_P_s_A, q_P_s_B, q_P_s_C, q_P_n_A, q_P_r_A, q_P_r_B, y_P_s_P, x_P_s_P, y_P_n_O, x_P_n_O]
  · simp (disch := omega) only [q_P_s_I, q_P_s_J, q_P_s_A, q_P_s_B, q_P_s_C, q_P_n_A, q_P_r_A, q_P_r_B, y_P_s_P, x_P_s_P, y_P_n_O, x_P_n_O]
  · simp (disch := omega) only [q_K_s_I, q_K_s_J, q_K_s_P, q_K_s_A, q_K_s_B, q_K_s_C, q_K_r_A, q_K_r_B, y_K_n_O, x_K_n_O, y_K_n_A, x_K_n_A]
  · simp (disch := omega) only [q_L_s_I, q_L_s_J, q_L_s_P, q_L_s_A, q_L_s_B, q_L_s_C, q_L_n_O, q_L_r_A, q_L_r_B, y_L_n_A, x_L_n_A]
  · simp (disch := omega) only [q_K_s_I, q_K_s_J, q_K_s_P, q_K_s_A, q_K_s_B, q_K_s_C, q_K_r_A, q_K_r_B, y_K_n_O, x_K_n_O, y_K_n_A, x_K_n_A]
  · simp (disch := omega) only [q_L_s_I, q_L_s_J, q_L_s_P, q_L_s_A, q_L_s_B, q_L_s_C, q_L_n_O, q_L_r_A, q_L_r_B, y_L_n_A, x_L_n_A]
  · simp (disch := omega) only [q_K_s_I, q_K_s_J, q_K_s_P, q_K_s_A, q_K_s_B, q_K_s_C, q_K_r_A, q_K_r_B, y_K_n_O, x_K_n_O, y_K_n_A, x_K_n_A]
  · simp (disch := omega) only [q_L_s_I, q_L_s_J, q_L_s_P, q_L_s_A, q_L_s_B, q_L_s_C, q_L_n_O, q_L_r_A, q_L_r_B, y_L_n_A, x_L_n_A]
theorem c_Macros_init' {kn : Nat → Nat} {B : Nat} {S : b_M} {z a : Nat} (hK : m_K S a = 4) (hlt : a < z) : b_C kn B yX5_init cX5_init 1 none 1 12 3 36 [.ref a] S z (fun r S' z' => r = none ∧ z' = z + 3 ∧ iMac S S' a z) (fun _ _ _ => False) := (c_Macros_init hK hlt).mono (fun r S' z' ⟨h1, h2, h3⟩ => ⟨h1, h2, h3 ▸ iMac_of hK hlt⟩) (fun _ _ _ h => h)
def iScn (S S' : b_M) (a z : Nat) : Prop := (∀ b, b < z → b ≠ a → b_eq S S' b) ∧ m_K S' a = 7 ∧ (∀ f, m_I S' f a = m_I S f a) ∧ (∀ f, m_J S' f a = m_J S f a) ∧ m_P S' 700 a = some z ∧ m_K S' z = 12 ∧ m_L S' z = 0
set_option maxRecDepth 100000 in
set_option maxHeartbeats 4000000 in
theorem iScn_of {S : b_M} {a z : Nat} (hK : m_K S a = 7) (hlt : a < z) : iScn S (s_P (n_A S z 12 0) 700 a (some z)) a z := by
  refine ⟨fun b g1 g2 => ?_, ?_, fun f => ?_, fun f => ?_, ?_, ?_, ?_⟩
  · exact ((e_n_A _ _ _ _ (by omega)).tr (e_s_P _ _ _ _ (by omega)))
  · simp (disch := omega) only [q_K_s_I, q_K_s_J, q_K_s_P, q_K_s_A, q_K_s_B, q_K_s_C, q_K_r_A, q_K_r_B, y_K_n_O, x_K_n_O, y_K_n_A, x_K_n_A, hK]
  · simp (disch := omega) only [q_I_s_J, q_I_s_P, q_I_s_A, q_I_s_B, q_I_s_C, q_I_n_A, q_I_r_A, q_I_r_B, y_I_s_I, x_I_s_I, y_I_n_O, x_I_n_O]
  · simp (disch := omega) only [q_J_s_I, q_J_s_P, q_J_s_A, q_J_s_B, q_J_s_C, q_J_n_A, q_J_r_A, q_J_r_B, y_J_s_J, x_J_s_J, y_J_n_O, x_J_n_O]
  · simp (disch := omega) only [q_P_s_I, q_P_s_J, q_P_s_A, q_P_s_B, q_P_s_C, q_P_n_A, q_P_r_A, q_P_r_B, y_P_s_P, x_P_s_P, y_P_n_O, x_P_n_O]
  · simp (disch := omega) only [q_K_s_I, q_K_s_J, q_K_s_P, q_K_s_A, q_K_s_B, q_K_s_C, q_K_r_A, q_K_r_B, y_K_n_O, x_K_n_O, y_K_n_A, x_K_n_A]
  · simp (disch := omega) only [q_L_s_I, q_L_s_J, q_L_s_P, q_L_s_A, q_L_s_B, q_L_s_C, q_L_n_O, q_L_r_A, q_L_r_B, y_L_n_A, x_L_n_A]
theorem c_Scanner_init' {kn : Nat → Nat} {B : Nat} {S : b_M} {z a : Nat} (hK : m_K S a = 7) (hlt : a < z) : b_C kn B yX9_init cX9_init 1 none 1 12 1 0 [.ref a] S z (fun r S' z' => r = none ∧ z' = z + 1 ∧ iScn S S' a z) (fun _ _ _ => False) := (c_Scanner_init hK hlt).mono (fun r S' z' ⟨h1, h2, h3⟩ => ⟨h1, h2, h3 ▸ iScn_of hK hlt⟩) (fun _ _ _ h => h)
def iErr (S S' : b_M) (a z : Nat) : Prop := (∀ b, b < z → b ≠ a → b_eq S S' b) ∧ m_K S' a = 1 ∧ (∀ f, m_I S' f a = m_I S f a) ∧ (∀ f, m_J S' f a = m_J S f a) ∧ m_P S' 100 a = some z ∧ m_P S' 101 a = some (z + 1) ∧ m_K S' z = 13 ∧ m_L S' z = 50 ∧ m_K S' (z + 1) = 13 ∧ m_L S' (z + 1) = 50
set_option maxRecDepth 100000 in
set_option maxHeartbeats 4000000 in
theorem iErr_of {S : b_M} {a z : Nat} (hK : m_K S a = 1) (hlt : a < z) : iErr S (s_P (n_A (s_P (n_A S z 13 50) 100 a (some z)) (z + 1) 13 50) 101 a (some (z + 1))) a z := by
  refine ⟨fun b g1 g2 => ?_, ?_, fun f => ?_, fun f => ?_, ?_, ?_, ?_, ?_, ?_, ?_⟩
  · exact ((e_n_A _ _ _ _ (by omega)).tr ((e_s_P _ _ _ _ (by omega)).tr ((e_n_A _ _ _ _ (by omega)).tr (e_s_P _ _ _ _ (by omega)))))
  · simp (disch := omega) only [q_K_s_I, q_K_s_J, q_K_s_P, q_K_s_A, q_K_s_B, q_K_s_C, q_K_r_A, q_K_r_B, y_K_n_O, x_K_n_O, y_K_n_A, x_K_n_A, hK]
  · simp (disch := omega) only [q_I_s_J, q_I_s_P, q_I_s_A, q_I_s_B, q_I_s_C, q_I_n_A, q_I_r_A, q_I_r_B, y_I_s_I, x_I_s_I, y_I_n_O, x_I_n_O]
  · simp (disch := omega) only [q_J_s_I, q_J_s_P, q_J_s_A, q_J_s_B, q_J_s_C, q_J_n_A, q_J_r_A, q_J_r_B, y_J_s_J, x_J_s_J, y_J_n_O, x_J_n_O]
  · simp (disch := omega) only [q_P_s_I, q_P_s_J, q_P_s_A, q_P_s_B, q_P_s_C, q_P_n_A, q_P_r_A, q_P_r_B, y_P_s_P, x_P_s_P, y_P_n_O, x_P_n_O]
  · simp (disch := omega) only [q_P_s_I, q_P_s_J, q_P_s_A, q_P_s_B, q_P_s_C, q_P_n_A, q_P_r_A, q_P_r_B, y_P_s_P, x_P_s_P, y_P_n_O, x_P_n_O]
  · simp (disch := omega) only [q_K_s_I, q_K_s_J, q_K_s_P, q_K_s_A, q_K_s_B, q_K_s_C, q_K_r_A, q_K_r_B, y_K_n_O, x_K_n_O, y_K_n_A, x_K_n_A]
  · simp (disch := omega) only [q_L_s_I, q_L_s_J, q_L_s_P, q_L_s_A, q_L_s_B, q_L_s_C, q_L_n_O, q_L_r_A, q_L_r_B, y_L_n_A, x_L_n_A]
  · simp (disch := omega) only [q_K_s_I, q_K_s_J, q_K_s_P, q_K_s_A, q_K_s_B, q_K_s_C, q_K_r_A, q_K_r_B, y_K_n_O, x_K_n_O, y_K_n_A, x_K_n_A]
  · simp (disch := omega) only [q_L_s_I, q_L_s_J, q_L_s_P, q_L_s_A, q_L_s_B, q_L_s_C, q_L_n_O, q_L_r_A, q_L_r_B, y_L_n_A, x_L_n_A]
theorem c_Errors_init' {kn : Nat → Nat} {B : Nat} {S : b_M} {z a : Nat} (hK : m_K S a = 1) (hlt : a < z) : b_C kn B yX2_init cX2_init 1 none 1 12 2 100 [.ref a] S z (fun r S' z' => r = none ∧ z' = z + 2 ∧ iErr S S' a z) (fun _ _ _ => False) := (c_Errors_init hK hlt).mono (fun r S' z' ⟨h1, h2, h3⟩ => ⟨h1, h2, h3 ▸ iErr_of hK hlt⟩) (fun _ _ _ h => h)
def lInv (S0 Si : b_M) (z i : Nat) : Prop := (∀ b, b < z + 3 → b ≠ z → b_eq S0 Si b) ∧ m_K Si z = 16 ∧ m_L Si z = 7 ∧ ∀ j, j < i → m_C Si z j = some (z + 3 + 4 * j) ∧ ∃ S1 S2, iCall S1 S2 (z + 3 + 4 * j) (z + 3 + 4 * j + 1) ∧ (∀ f, m_I S1 f (z + 3 + 4 * j) = 0) ∧ ∀ b, z + 3 + 4 * j ≤ b → b < z + 3 + 4 * j + 4 → b_eq S2 Si b
set_option maxRecDepth 100000 in
set_option maxHeartbeats 4000000 in
theorem lines_loop {X : b_T} (hX : b_X X cX4_init RX4 2 32 31 1068) {S0 : b_M} {z a : Nat} {post : Option Value → b_M → Nat → Prop} {px : String → b_M → Nat → Prop} (hE : b_End X none 31 1068 post px) (hnL : b_n X = 2) (hlt : a < z) (hK : m_K S0 a = 3) (hP : m_P S0 300 a = some z) (hp : ∀ Si, lInv S0 Si z 7 → post none Si (z + 31)) :
    ∀ (n i : Nat) (Si : b_M), i + n = 7 → lInv S0 Si z i → b_V X Si (z + 3 + 4 * i) (3 + 4 * i) (263 + 115 * i) 39 [(1, .int (nI i)), (0, .ref a)] [] := by
  intro n
  induction n with
  | zero =>
    intro i Si h1 hv
    have e1 : i = 7 := by omega
    subst e1
    have e := hv.1 a (by omega) (by omega)
    have hK' : m_K Si a = 3 := e.1.trans hK
    have hP' : m_P Si 300 a = some z := (e.2.2.2.1 300).trans hP
    refine v_iload_n hX dX4_init_39 (i := 1) rfl rfl ?_
    refine v_aload_n hX dX4_init_40 (i := 0) rfl rfl ?_
    refine v_get hX (ci := 3) (k := 0) (by simp (disch := omega) only [q_K_s_I, q_K_s_J, q_K_s_P, q_K_s_A, q_K_s_B, q_K_s_C, q_K_r_A, q_K_r_B, y_K_n_O, x_K_n_O, y_K_n_A, x_K_n_A, hK', hP']) bc_3 (by decide) (by decide) in_3 w_2_76 dX4_init_41 (mvP (f := 300) (q := z) rfl rfl (by simp (disch := omega) only [q_P_s_I, q_P_s_J, q_P_s_A, q_P_s_B, q_P_s_C, q_P_n_A, q_P_r_A, q_P_r_B, y_P_s_P, x_P_s_P, y_P_n_O, x_P_n_O, hK', hP'])) ?_
    refine v_alen hX (hv.2.1) (by decide) (t0 := 4) rfl dX4_init_44 ?_
    rw [hv.2.2.1]
    refine v_icmp_ge hX (tgt := 67) dX4_init_45 (by decide) (fun h => ?_) (fun h => ?_)
    · exact v_return hX hE dX4_init_67 (by omega) (by omega) (hp Si hv)
    · exact absurd (Int32.le_refl _) h
  | succ n ih =>
    intro i Si h1 hv
    have e := hv.1 a (by omega) (by omega)
    have hK' : m_K Si a = 3 := e.1.trans hK
    have hP' : m_P Si 300 a = some z := (e.2.2.2.1 300).trans hP
    refine v_iload_n hX dX4_init_39 (i := 1) rfl rfl ?_
    refine v_aload_n hX dX4_init_40 (i := 0) rfl rfl ?_
    refine v_get hX (ci := 3) (k := 0) (by simp (disch := omega) only [q_K_s_I, q_K_s_J, q_K_s_P, q_K_s_A, q_K_s_B, q_K_s_C, q_K_r_A, q_K_r_B, y_K_n_O, x_K_n_O, y_K_n_A, x_K_n_A, hK', hP']) bc_3 (by decide) (by decide) in_3 w_2_76 dX4_init_41 (mvP (f := 300) (q := z) rfl rfl (by simp (disch := omega) only [q_P_s_I, q_P_s_J, q_P_s_A, q_P_s_B, q_P_s_C, q_P_n_A, q_P_r_A, q_P_r_B, y_P_s_P, x_P_s_P, y_P_n_O, x_P_n_O, hK', hP'])) ?_
    refine v_alen hX (hv.2.1) (by decide) (t0 := 4) rfl dX4_init_44 ?_
    rw [hv.2.2.1]
    refine v_icmp_ge hX (tgt := 67) dX4_init_45 (by decide) (fun h => ?_) (fun h => ?_)
    · exact absurd h (nI_ge (by omega) (by decide))
    refine v_aload_n hX dX4_init_48 (i := 0) rfl rfl ?_
    refine v_get hX (ci := 3) (k := 0) (by simp (disch := omega) only [q_K_s_I, q_K_s_J, q_K_s_P, q_K_s_A, q_K_s_B, q_K_s_C, q_K_r_A, q_K_r_B, y_K_n_O, x_K_n_O, y_K_n_A, x_K_n_A, hK', hP']) bc_3 (by decide) (by decide) in_3 w_2_76 dX4_init_49 (mvP (f := 300) (q := z) rfl rfl (by simp (disch := omega) only [q_P_s_I, q_P_s_J, q_P_s_A, q_P_s_B, q_P_s_C, q_P_n_A, q_P_r_A, q_P_r_B, y_P_s_P, x_P_s_P, y_P_n_O, x_P_n_O, hK', hP'])) ?_
    refine v_iload_n hX dX4_init_52 (i := 1) rfl rfl ?_
    refine v_new hX (ci := 0) bc_0 (by decide) in_0 tyX1_ok dv_0 w_2_41 w_2_43 w_1_14 dX4_init_53 (by omega) (by omega) ?_
    refine v_dup hX dX4_init_56 rfl ?_
    refine v_callI hX (n := 0) (host := "AssembleLines") (c_Call_init' (S := n_O Si (z + 3 + 4 * i) 0) (z := z + 3 + 4 * i + 1) (a := z + 3 + 4 * i) (by simp (disch := omega) only [q_K_s_I, q_K_s_J, q_K_s_P, q_K_s_A, q_K_s_B, q_K_s_C, q_K_r_A, q_K_r_B, y_K_n_O, x_K_n_O, y_K_n_A, x_K_n_A]) (by omega)) (Or.inr (List.mem_of_getElem? (i := 4) rfl)) w_2_45 w_1_14 w_2_46 rfl (by decide +kernel) rfl ⟨by decide, by decide⟩ ⟨by omega, by omega⟩ (Nat.le_of_ble_eq_true rfl) rfl dX4_init_57 (fun _ _ _ h => h) ?_
    rintro r1 S1 z1 ⟨rfl, rfl, i1⟩
    have ez := i1.1 z (by omega) (by omega)
    have kz : m_K S1 z = 16 := ez.1.trans (by simp (disch := omega) only [q_K_s_I, q_K_s_J, q_K_s_P, q_K_s_A, q_K_s_B, q_K_s_C, q_K_r_A, q_K_r_B, y_K_n_O, x_K_n_O, y_K_n_A, x_K_n_A, hv.2.1])
    have lz : m_L S1 z = 7 := ez.2.2.2.2.1.trans (by simp (disch := omega) only [q_L_s_I, q_L_s_J, q_L_s_P, q_L_s_A, q_L_s_B, q_L_s_C, q_L_n_O, q_L_r_A, q_L_r_B, y_L_n_A, x_L_n_A, hv.2.2.1])
    refine v_aast hX (kd := 16) (t0 := 4) (C := RX1) (ci := 0) (Or.inl rfl) (fun _ => rfl) kz (by rw [lz]; exact vp_in_nI (by omega) (by decide)) i1.2.1 (by decide) bc_0 dX4_init_60 ?_
    rw [nI_clamp (by omega)]
    refine v_iinc hX (v := nI (i + 1)) (lv' := [(1, .int (nI (i + 1))), (0, .ref a)]) dX4_init_61 rfl (nI_succ i).symm (by rw [hnL]; decide) rfl ?_
    refine v_goto hX (tgt := 39) dX4_init_64 (by decide) ?_
    refine v_widen (c1 := 3 + 4 * (i + 1)) (s1 := 263 + 115 * (i + 1)) (by omega) (by omega) ?_
    rw [show z + 3 + 4 * i + 1 + 3 = z + 3 + 4 * (i + 1) by omega]
    have fr : ∀ b, b < z + 3 + 4 * i → b ≠ z → b_eq Si (s_C S1 z i (some (z + 3 + 4 * i))) b := fun b g1 g2 => ((e_n_O _ _ _ (by omega)).tr (i1.1 b (by omega) (by omega))).tr (e_s_C _ _ _ _ (by omega))
    refine ih (i + 1) _ (by omega) ⟨fun b g1 g2 => (hv.1 b g1 g2).tr (fr b (by omega) g2), ?_, ?_, ?_⟩
    · simp (disch := omega) only [q_K_s_I, q_K_s_J, q_K_s_P, q_K_s_A, q_K_s_B, q_K_s_C, q_K_r_A, q_K_r_B, y_K_n_O, x_K_n_O, y_K_n_A, x_K_n_A, kz]
    · simp (disch := omega) only [q_L_s_I, q_L_s_J, q_L_s_P, q_L_s_A, q_L_s_B, q_L_s_C, q_L_n_O, q_L_r_A, q_L_r_B, y_L_n_A, x_L_n_A, lz]
    · intro j hj
      by_cases g : j = i
      · subst g
        exact ⟨by simp (disch := omega) only [q_C_s_I, q_C_s_J, q_C_s_P, q_C_s_A, q_C_s_B, q_C_n_O, q_C_r_A, q_C_r_B, y_C_s_C, x_C_s_C, y_C_n_A, x_C_n_A], _, _, i1, fun f => by simp (disch := omega) only [q_I_s_J, q_I_s_P, q_I_s_A, q_I_s_B, q_I_s_C, q_I_n_A, q_I_r_A, q_I_r_B, y_I_s_I, x_I_s_I, y_I_n_O, x_I_n_O], fun b g1 g2 => e_s_C _ _ _ _ (by omega)⟩
      · obtain ⟨g1, A1, A2, g2, g3, g4⟩ := hv.2.2.2 j (by omega)
        refine ⟨?_, A1, A2, g2, g3, fun b b1 b2 => (g4 b b1 b2).tr (fr b (by omega) (by omega))⟩
        rw [x_C_s_C _ _ _ _ _ _ (Or.inr g), ez.2.2.2.2.2.2.2 j]
        simp (disch := omega) only [q_C_s_I, q_C_s_J, q_C_s_P, q_C_s_A, q_C_s_B, q_C_n_O, q_C_r_A, q_C_r_B, y_C_s_C, x_C_s_C, y_C_n_A, x_C_n_A, g1]
/-- what Lines' constructor leaves: the calls' array at z, two texts, the calls behind them -/
def iLines (S S' : b_M) (a z : Nat) : Prop := (∀ b, b < z → b ≠ a → b_eq S S' b) ∧ m_K S' a = 3 ∧ (∀ f, m_I S' f a = m_I S f a) ∧ (m_P S' 300 a = some z ∧ m_P S' 302 a = some (z + 1) ∧ m_P S' 304 a = some (z + 2) ∧ m_P S' 305 a = some (z + 1)) ∧ (m_K S' (z + 1) = 12 ∧ m_L S' (z + 1) = 0 ∧ m_K S' (z + 2) = 12 ∧ m_L S' (z + 2) = 256) ∧ m_K S' z = 16 ∧ m_L S' z = 7 ∧ ∀ j, j < 7 → m_C S' z j = some (z + 3 + 4 * j) ∧ ∃ S1 S2, iCall S1 S2 (z + 3 + 4 * j) (z + 3 + 4 * j + 1) ∧ (∀ f, m_I S1 f (z + 3 + 4 * j) = 0) ∧ ∀ b, z + 3 + 4 * j ≤ b → b < z + 3 + 4 * j + 4 → b_eq S2 S' b
set_option maxRecDepth 100000 in
set_option maxHeartbeats 4000000 in
theorem c_Lines_init {kn : Nat → Nat} {B : Nat} {S : b_M} {z a : Nat} (hK : m_K S a = 3) (hlt : a < z) : b_C kn B yX4_init cX4_init 2 none 2 32 31 1068 [.ref a] S z (fun r S' z' => r = none ∧ z' = z + 31 ∧ iLines S S' a z) (fun _ _ _ => False) := by
  refine b_enter (by decide) (Nat.le_of_ble_eq_true rfl) ?_
  intro X hX hE hnL hkn hB hI
  subst hkn; subst hB
  change b_V X S z 0 0 0 [(0, .ref a)] []
  refine v_aload_n hX dX4_init_0 (i := 0) rfl rfl ?_
  refine v_objInit hX w_2_40 w_1_35 w_1_36 (by decide) (by decide) dX4_init_1 ?_
  refine v_aload_n hX dX4_init_4 (i := 0) rfl rfl ?_
  refine v_bipush hX (v := (7)) dX4_init_5 (by decide) ?_
  refine v_anew hX (kd := 16) (t0 := 4) (C := RX1) (N := 7) (Or.inl rfl) (fun _ => rfl) w_2_41 (List.mem_of_getElem? (i := 1) rfl) dX4_init_7 (by decide) (by decide) (by decide) (by omega) (by omega) ?_
  refine v_putP hX (ci := 3) (k := 0) (f := 300) (by simp (disch := omega) only [q_K_s_I, q_K_s_J, q_K_s_P, q_K_s_A, q_K_s_B, q_K_s_C, q_K_r_A, q_K_r_B, y_K_n_O, x_K_n_O, y_K_n_A, x_K_n_A, hK]) bc_3 (by decide) (by decide) in_3 tyX4_ok nmX4 w_2_76 (Or.inr ⟨rfl, hI rfl, rfl⟩) rfl rfl dX4_init_10 rfl rfl ?_
  refine v_aload_n hX dX4_init_13 (i := 0) rfl rfl ?_
  refine v_iconst hX (v := (0)) dX4_init_14 (by decide) ?_
  refine v_newa_b hX (N := 0) w_1_56 dX4_init_15 (by decide) (by decide) (by decide) (by omega) (by omega) ?_
  refine v_putP hX (ci := 3) (k := 2) (f := 302) (by simp (disch := omega) only [q_K_s_I, q_K_s_J, q_K_s_P, q_K_s_A, q_K_s_B, q_K_s_C, q_K_r_A, q_K_r_B, y_K_n_O, x_K_n_O, y_K_n_A, x_K_n_A, hK]) bc_3 (by decide) (by decide) in_3 tyX4_ok nmX4 w_2_78 (Or.inl rfl) rfl rfl dX4_init_17 rfl rfl ?_
  refine v_aload_n hX dX4_init_20 (i := 0) rfl rfl ?_
  refine v_sipush hX (v := (256)) dX4_init_21 (by decide) ?_
  refine v_newa_b hX (N := 256) w_1_56 dX4_init_24 (by decide) (by decide) (by decide) (by omega) (by omega) ?_
  refine v_putP hX (ci := 3) (k := 4) (f := 304) (by simp (disch := omega) only [q_K_s_I, q_K_s_J, q_K_s_P, q_K_s_A, q_K_s_B, q_K_s_C, q_K_r_A, q_K_r_B, y_K_n_O, x_K_n_O, y_K_n_A, x_K_n_A, hK]) bc_3 (by decide) (by decide) in_3 tyX4_ok nmX4 w_2_80 (Or.inl rfl) rfl rfl dX4_init_26 rfl rfl ?_
  refine v_aload_n hX dX4_init_29 (i := 0) rfl rfl ?_
  refine v_aload_n hX dX4_init_30 (i := 0) rfl rfl ?_
  refine v_get hX (ci := 3) (k := 2) (by simp (disch := omega) only [q_K_s_I, q_K_s_J, q_K_s_P, q_K_s_A, q_K_s_B, q_K_s_C, q_K_r_A, q_K_r_B, y_K_n_O, x_K_n_O, y_K_n_A, x_K_n_A, hK]) bc_3 (by decide) (by decide) in_3 w_2_78 dX4_init_31 (mvP (f := 302) (q := (z + 1)) rfl rfl (by simp (disch := omega) only [q_P_s_I, q_P_s_J, q_P_s_A, q_P_s_B, q_P_s_C, q_P_n_A, q_P_r_A, q_P_r_B, y_P_s_P, x_P_s_P, y_P_n_O, x_P_n_O, hK])) ?_
  refine v_putP hX (ci := 3) (k := 5) (f := 305) (by simp (disch := omega) only [q_K_s_I, q_K_s_J, q_K_s_P, q_K_s_A, q_K_s_B, q_K_s_C, q_K_r_A, q_K_r_B, y_K_n_O, x_K_n_O, y_K_n_A, x_K_n_A, hK]) bc_3 (by decide) (by decide) in_3 tyX4_ok nmX4 w_2_81 (Or.inl rfl) rfl rfl dX4_init_34 rfl rfl ?_
  refine v_iconst hX (v := nI 0) dX4_init_37 (by decide) ?_
  refine v_istore_n hX (lv' := [(1, .int (nI 0)), (0, .ref a)]) dX4_init_38 (i := 1) rfl (by rw [hnL]; decide) rfl ?_
  change b_V X (s_P (s_P (n_A (s_P (n_A (s_P (n_A S z 16 7) 300 a (some z)) (z + 1) 12 0) 302 a (some (z + 1))) (z + 1 + 1) 12 256) 304 a (some (z + 1 + 1))) 305 a (some (z + 1))) (z + 3) 3 263 39 _ _
  refine lines_loop hX hE hnL hlt (by simp (disch := omega) only [q_K_s_I, q_K_s_J, q_K_s_P, q_K_s_A, q_K_s_B, q_K_s_C, q_K_r_A, q_K_r_B, y_K_n_O, x_K_n_O, y_K_n_A, x_K_n_A, hK]) (by simp (disch := omega) only [q_P_s_I, q_P_s_J, q_P_s_A, q_P_s_B, q_P_s_C, q_P_n_A, q_P_r_A, q_P_r_B, y_P_s_P, x_P_s_P, y_P_n_O, x_P_n_O]) (fun Si hv => ⟨rfl, rfl, ?_⟩) 7 0 _ rfl ⟨fun b _ _ => b_eq.rf _ _, (by simp (disch := omega) only [q_K_s_I, q_K_s_J, q_K_s_P, q_K_s_A, q_K_s_B, q_K_s_C, q_K_r_A, q_K_r_B, y_K_n_O, x_K_n_O, y_K_n_A, x_K_n_A]), (by simp (disch := omega) only [q_L_s_I, q_L_s_J, q_L_s_P, q_L_s_A, q_L_s_B, q_L_s_C, q_L_n_O, q_L_r_A, q_L_r_B, y_L_n_A, x_L_n_A]), fun j hj => absurd hj (by omega)⟩
  have ec := hv.1 a (by omega) (by omega)
  have e1 := hv.1 (z + 1) (by omega) (by omega)
  have e2 := hv.1 (z + 2) (by omega) (by omega)
  refine ⟨fun b g1 g2 => b_eq.tr ((e_n_A _ _ _ _ (by omega)).tr ((e_s_P _ _ _ _ (by omega)).tr ((e_n_A _ _ _ _ (by omega)).tr ((e_s_P _ _ _ _ (by omega)).tr ((e_n_A _ _ _ _ (by omega)).tr ((e_s_P _ _ _ _ (by omega)).tr (e_s_P _ _ _ _ (by omega)))))))) (hv.1 b (by omega) (by omega)), ec.1.trans (by simp (disch := omega) only [q_K_s_I, q_K_s_J, q_K_s_P, q_K_s_A, q_K_s_B, q_K_s_C, q_K_r_A, q_K_r_B, y_K_n_O, x_K_n_O, y_K_n_A, x_K_n_A, hK]), fun f => (ec.2.1 f).trans (by simp (disch := omega) only [q_I_s_J, q_I_s_P, q_I_s_A, q_I_s_B, q_I_s_C, q_I_n_A, q_I_r_A, q_I_r_B, y_I_s_I, x_I_s_I, y_I_n_O, x_I_n_O]), ⟨(ec.2.2.2.1 _).trans (by simp (disch := omega) only [q_P_s_I, q_P_s_J, q_P_s_A, q_P_s_B, q_P_s_C, q_P_n_A, q_P_r_A, q_P_r_B, y_P_s_P, x_P_s_P, y_P_n_O, x_P_n_O]), (ec.2.2.2.1 _).trans (by simp (disch := omega) only [q_P_s_I, q_P_s_J, q_P_s_A, q_P_s_B, q_P_s_C, q_P_n_A, q_P_r_A, q_P_r_B, y_P_s_P, x_P_s_P, y_P_n_O, x_P_n_O]), (ec.2.2.2.1 _).trans (by simp (disch := omega) only [q_P_s_I, q_P_s_J, q_P_s_A, q_P_s_B, q_P_s_C, q_P_n_A, q_P_r_A, q_P_r_B, y_P_s_P, x_P_s_P, y_P_n_O, x_P_n_O]), (ec.2.2.2.1 _).trans (by simp (disch := omega) only [q_P_s_I, q_P_s_J, q_P_s_A, q_P_s_B, q_P_s_C, q_P_n_A, q_P_r_A, q_P_r_B, y_P_s_P, x_P_s_P, y_P_n_O, x_P_n_O])⟩, ⟨e1.1.trans (by simp (disch := omega) only [q_K_s_I, q_K_s_J, q_K_s_P, q_K_s_A, q_K_s_B, q_K_s_C, q_K_r_A, q_K_r_B, y_K_n_O, x_K_n_O, y_K_n_A, x_K_n_A]), e1.2.2.2.2.1.trans (by simp (disch := omega) only [q_L_s_I, q_L_s_J, q_L_s_P, q_L_s_A, q_L_s_B, q_L_s_C, q_L_n_O, q_L_r_A, q_L_r_B, y_L_n_A, x_L_n_A]), e2.1.trans (by simp (disch := omega) only [q_K_s_I, q_K_s_J, q_K_s_P, q_K_s_A, q_K_s_B, q_K_s_C, q_K_r_A, q_K_r_B, y_K_n_O, x_K_n_O, y_K_n_A, x_K_n_A]), e2.2.2.2.2.1.trans (by simp (disch := omega) only [q_L_s_I, q_L_s_J, q_L_s_P, q_L_s_A, q_L_s_B, q_L_s_C, q_L_n_O, q_L_r_A, q_L_r_B, y_L_n_A, x_L_n_A])⟩, hv.2.1, hv.2.2.1, hv.2.2.2⟩
