/-! ===== reading through writes ===== -/
theorem y_I_s_I (S : b_M) (f a : Nat) (v : Int32) : m_I (s_I S f a v) f a = v := by rw [q_I_s_I, if_pos ⟨rfl, rfl⟩]
theorem x_I_s_I (S : b_M) (f a : Nat) (v : Int32) (g b : Nat) (h : g ≠ f ∨ b ≠ a) : m_I (s_I S f a v) g b = m_I S g b := by rw [q_I_s_I, if_neg (fun q => h.elim (fun h => h q.1) (fun h => h q.2))]
theorem y_J_s_J (S : b_M) (f a : Nat) (v : Int64) : m_J (s_J S f a v) f a = v := by rw [q_J_s_J, if_pos ⟨rfl, rfl⟩]
theorem x_J_s_J (S : b_M) (f a : Nat) (v : Int64) (g b : Nat) (h : g ≠ f ∨ b ≠ a) : m_J (s_J S f a v) g b = m_J S g b := by rw [q_J_s_J, if_neg (fun q => h.elim (fun h => h q.1) (fun h => h q.2))]
theorem y_P_s_P (S : b_M) (f a : Nat) (v : Option Nat) : m_P (s_P S f a v) f a = v := by rw [q_P_s_P, if_pos ⟨rfl, rfl⟩]
theorem x_P_s_P (S : b_M) (f a : Nat) (v : Option Nat) (g b : Nat) (h : g ≠ f ∨ b ≠ a) : m_P (s_P S f a v) g b = m_P S g b := by rw [q_P_s_P, if_neg (fun q => h.elim (fun h => h q.1) (fun h => h q.2))]
theorem y_A_s_A (S : b_M) (a i : Nat) (v : Int32) : m_A (s_A S a i v) a i = v := by rw [q_A_s_A, if_pos ⟨rfl, rfl⟩]
theorem x_A_s_A (S : b_M) (a i : Nat) (v : Int32) (b j : Nat) (h : b ≠ a ∨ j ≠ i) : m_A (s_A S a i v) b j = m_A S b j := by rw [q_A_s_A, if_neg (fun q => h.elim (fun h => h q.1) (fun h => h q.2))]
theorem y_B_s_B (S : b_M) (a i : Nat) (v : Int64) : m_B (s_B S a i v) a i = v := by rw [q_B_s_B, if_pos ⟨rfl, rfl⟩]
theorem x_B_s_B (S : b_M) (a i : Nat) (v : Int64) (b j : Nat) (h : b ≠ a ∨ j ≠ i) : m_B (s_B S a i v) b j = m_B S b j := by rw [q_B_s_B, if_neg (fun q => h.elim (fun h => h q.1) (fun h => h q.2))]
theorem y_C_s_C (S : b_M) (a i : Nat) (v : Option Nat) : m_C (s_C S a i v) a i = v := by rw [q_C_s_C, if_pos ⟨rfl, rfl⟩]
theorem x_C_s_C (S : b_M) (a i : Nat) (v : Option Nat) (b j : Nat) (h : b ≠ a ∨ j ≠ i) : m_C (s_C S a i v) b j = m_C S b j := by rw [q_C_s_C, if_neg (fun q => h.elim (fun h => h q.1) (fun h => h q.2))]
theorem y_K_n_O (S : b_M) (a k : Nat) : m_K (n_O S a k) a = k := by rw [q_K_n_O, if_pos rfl]
theorem x_K_n_O (S : b_M) (a k : Nat) (b : Nat) (h : b ≠ a) : m_K (n_O S a k) b = m_K S b := by rw [q_K_n_O, if_neg h]
theorem y_I_n_O (S : b_M) (a k : Nat) (g : Nat) : m_I (n_O S a k) g a = 0 := by rw [q_I_n_O, if_pos rfl]
theorem x_I_n_O (S : b_M) (a k : Nat) (g b : Nat) (h : b ≠ a) : m_I (n_O S a k) g b = m_I S g b := by rw [q_I_n_O, if_neg h]
theorem y_J_n_O (S : b_M) (a k : Nat) (g : Nat) : m_J (n_O S a k) g a = 0 := by rw [q_J_n_O, if_pos rfl]
theorem x_J_n_O (S : b_M) (a k : Nat) (g b : Nat) (h : b ≠ a) : m_J (n_O S a k) g b = m_J S g b := by rw [q_J_n_O, if_neg h]
theorem y_P_n_O (S : b_M) (a k : Nat) (g : Nat) : m_P (n_O S a k) g a = none := by rw [q_P_n_O, if_pos rfl]
theorem x_P_n_O (S : b_M) (a k : Nat) (g b : Nat) (h : b ≠ a) : m_P (n_O S a k) g b = m_P S g b := by rw [q_P_n_O, if_neg h]
theorem y_K_n_A (S : b_M) (a k n : Nat) : m_K (n_A S a k n) a = k := by rw [q_K_n_A, if_pos rfl]
theorem x_K_n_A (S : b_M) (a k n : Nat) (b : Nat) (h : b ≠ a) : m_K (n_A S a k n) b = m_K S b := by rw [q_K_n_A, if_neg h]
theorem y_L_n_A (S : b_M) (a k n : Nat) : m_L (n_A S a k n) a = n := by rw [q_L_n_A, if_pos rfl]
theorem x_L_n_A (S : b_M) (a k n : Nat) (b : Nat) (h : b ≠ a) : m_L (n_A S a k n) b = m_L S b := by rw [q_L_n_A, if_neg h]
theorem y_A_n_A (S : b_M) (a k n : Nat) (j : Nat) : m_A (n_A S a k n) a j = 0 := by rw [q_A_n_A, if_pos rfl]
theorem x_A_n_A (S : b_M) (a k n : Nat) (b j : Nat) (h : b ≠ a) : m_A (n_A S a k n) b j = m_A S b j := by rw [q_A_n_A, if_neg h]
theorem y_B_n_A (S : b_M) (a k n : Nat) (j : Nat) : m_B (n_A S a k n) a j = 0 := by rw [q_B_n_A, if_pos rfl]
theorem x_B_n_A (S : b_M) (a k n : Nat) (b j : Nat) (h : b ≠ a) : m_B (n_A S a k n) b j = m_B S b j := by rw [q_B_n_A, if_neg h]
theorem y_C_n_A (S : b_M) (a k n : Nat) (j : Nat) : m_C (n_A S a k n) a j = none := by rw [q_C_n_A, if_pos rfl]
theorem x_C_n_A (S : b_M) (a k n : Nat) (b j : Nat) (h : b ≠ a) : m_C (n_A S a k n) b j = m_C S b j := by rw [q_C_n_A, if_neg h]
theorem y_A_r_A (S : b_M) (a : Nat) (g : Nat → Int32) (j : Nat) : m_A (r_A S a g) a j = g j := by rw [q_A_r_A, if_pos rfl]
theorem x_A_r_A (S : b_M) (a : Nat) (g : Nat → Int32) (b j : Nat) (h : b ≠ a) : m_A (r_A S a g) b j = m_A S b j := by rw [q_A_r_A, if_neg h]
theorem y_B_r_B (S : b_M) (a : Nat) (g : Nat → Int64) (j : Nat) : m_B (r_B S a g) a j = g j := by rw [q_B_r_B, if_pos rfl]
theorem x_B_r_B (S : b_M) (a : Nat) (g : Nat → Int64) (b j : Nat) (h : b ≠ a) : m_B (r_B S a g) b j = m_B S b j := by rw [q_B_r_B, if_neg h]
/-- a cell that stays as it is -/
def b_eq (S S' : b_M) (b : Nat) : Prop := m_K S' b = m_K S b ∧ (∀ f, m_I S' f b = m_I S f b) ∧ (∀ f, m_J S' f b = m_J S f b) ∧ (∀ f, m_P S' f b = m_P S f b) ∧ m_L S' b = m_L S b ∧ (∀ i, m_A S' b i = m_A S b i) ∧ (∀ i, m_B S' b i = m_B S b i) ∧ ∀ i, m_C S' b i = m_C S b i
theorem b_eq.rf (S : b_M) (b : Nat) : b_eq S S b := ⟨rfl, fun _ => rfl, fun _ => rfl, fun _ => rfl, rfl, fun _ => rfl, fun _ => rfl, fun _ => rfl⟩
theorem b_eq.tr {S S1 S2 : b_M} {b : Nat} (h : b_eq S S1 b) (g : b_eq S1 S2 b) : b_eq S S2 b := by
  obtain ⟨h1, h2, h3, h4, h5, h6, h7, h8⟩ := h
  obtain ⟨g1, g2, g3, g4, g5, g6, g7, g8⟩ := g
  exact ⟨g1.trans h1, fun f => (g2 f).trans (h2 f), fun f => (g3 f).trans (h3 f), fun f => (g4 f).trans (h4 f), g5.trans h5, fun f => (g6 f).trans (h6 f), fun f => (g7 f).trans (h7 f), fun f => (g8 f).trans (h8 f)⟩
theorem e_s_I (S : b_M) (f a : Nat) (v : Int32) {b : Nat} (h : b ≠ a) : b_eq S (s_I S f a v) b := ⟨rfl, fun g9 => x_I_s_I _ _ _ _ _ _ (Or.inr h), fun _ => rfl, fun _ => rfl, rfl, fun _ => rfl, fun _ => rfl, fun _ => rfl⟩
theorem e_s_J (S : b_M) (f a : Nat) (v : Int64) {b : Nat} (h : b ≠ a) : b_eq S (s_J S f a v) b := ⟨rfl, fun _ => rfl, fun g9 => x_J_s_J _ _ _ _ _ _ (Or.inr h), fun _ => rfl, rfl, fun _ => rfl, fun _ => rfl, fun _ => rfl⟩
theorem e_s_P (S : b_M) (f a : Nat) (v : Option Nat) {b : Nat} (h : b ≠ a) : b_eq S (s_P S f a v) b := ⟨rfl, fun _ => rfl, fun _ => rfl, fun g9 => x_P_s_P _ _ _ _ _ _ (Or.inr h), rfl, fun _ => rfl, fun _ => rfl, fun _ => rfl⟩
theorem e_s_A (S : b_M) (a i : Nat) (v : Int32) {b : Nat} (h : b ≠ a) : b_eq S (s_A S a i v) b := ⟨rfl, fun _ => rfl, fun _ => rfl, fun _ => rfl, rfl, fun g9 => x_A_s_A _ _ _ _ _ _ (Or.inl h), fun _ => rfl, fun _ => rfl⟩
theorem e_s_B (S : b_M) (a i : Nat) (v : Int64) {b : Nat} (h : b ≠ a) : b_eq S (s_B S a i v) b := ⟨rfl, fun _ => rfl, fun _ => rfl, fun _ => rfl, rfl, fun _ => rfl, fun g9 => x_B_s_B _ _ _ _ _ _ (Or.inl h), fun _ => rfl⟩
theorem e_s_C (S : b_M) (a i : Nat) (v : Option Nat) {b : Nat} (h : b ≠ a) : b_eq S (s_C S a i v) b := ⟨rfl, fun _ => rfl, fun _ => rfl, fun _ => rfl, rfl, fun _ => rfl, fun _ => rfl, fun g9 => x_C_s_C _ _ _ _ _ _ (Or.inl h)⟩
theorem e_n_O (S : b_M) (a k : Nat) {b : Nat} (h : b ≠ a) : b_eq S (n_O S a k) b := ⟨x_K_n_O _ _ _ _ h, fun g9 => x_I_n_O _ _ _ _ _ h, fun g9 => x_J_n_O _ _ _ _ _ h, fun g9 => x_P_n_O _ _ _ _ _ h, rfl, fun _ => rfl, fun _ => rfl, fun _ => rfl⟩
theorem e_n_A (S : b_M) (a k n : Nat) {b : Nat} (h : b ≠ a) : b_eq S (n_A S a k n) b := ⟨x_K_n_A _ _ _ _ _ h, fun _ => rfl, fun _ => rfl, fun _ => rfl, x_L_n_A _ _ _ _ _ h, fun g9 => x_A_n_A _ _ _ _ _ _ h, fun g9 => x_B_n_A _ _ _ _ _ _ h, fun g9 => x_C_n_A _ _ _ _ _ _ h⟩
theorem e_r_A (S : b_M) (a : Nat) (g : Nat → Int32) {b : Nat} (h : b ≠ a) : b_eq S (r_A S a g) b := ⟨rfl, fun _ => rfl, fun _ => rfl, fun _ => rfl, rfl, fun g9 => x_A_r_A _ _ _ _ _ h, fun _ => rfl, fun _ => rfl⟩
theorem e_r_B (S : b_M) (a : Nat) (g : Nat → Int64) {b : Nat} (h : b ≠ a) : b_eq S (r_B S a g) b := ⟨rfl, fun _ => rfl, fun _ => rfl, fun _ => rfl, rfl, fun _ => rfl, fun g9 => x_B_r_B _ _ _ _ _ h, fun _ => rfl⟩
theorem mvI {S : b_M} {ci a k f : Nat} (hy : m_Y ci k = 1) (hf : 100 * ci + k = f) : m_V S ci a k = .int (m_I S f a) := by subst hf; simp [m_V, hy]
theorem mvJ {S : b_M} {ci a k f : Nat} (hy : m_Y ci k = 2) (hf : 100 * ci + k = f) : m_V S ci a k = .long (m_J S f a) := by subst hf; simp [m_V, hy]
theorem mvP {S : b_M} {ci a k f q : Nat} (hy : m_Y ci k = 0) (hf : 100 * ci + k = f) (hp : m_P S f a = some q) : m_V S ci a k = .ref q := by subst hf; simp [m_V, hy, hp, va_rf]
theorem mvN {S : b_M} {ci a k f : Nat} (hy : m_Y ci k = 0) (hf : 100 * ci + k = f) (hp : m_P S f a = none) : m_V S ci a k = .null := by subst hf; simp [m_V, hy, hp, va_rf]
