/-! ===== the reference: its structure, and what a method may change ===== -/
def mS (S : b_M) (x : Nat) : Prop := m_K S x = 11 ∧ ∀ j, j < 39 → m_P S (mTab.getD j (0, 0, 0)).1 x = some (x + 1 + j) ∧ m_K S (x + 1 + j) = (mTab.getD j (0, 0, 0)).2.1 ∧ m_L S (x + 1 + j) = (mTab.getD j (0, 0, 0)).2.2
theorem ms_kx {S : b_M} {x : Nat} (h : mS S x) : m_K S x = 11 := h.1
/-- only these int fields, long fields and arrays (by their offsets) of the object at x have changed -/
def mFr (Fs Js As : List Nat) (S S' : b_M) (x : Nat) : Prop := (∀ b, b ≠ x → (∀ j ∈ As, b ≠ x + j) → b_eq S S' b) ∧ ((∀ b i, m_C S' b i = m_C S b i) ∧ ∀ b, b ≠ x → (∀ f, m_I S' f b = m_I S f b) ∧ ∀ f, m_P S' f b = m_P S f b) ∧ (∀ f, m_P S' f x = m_P S f x) ∧ (∀ f, f ∉ Fs → m_I S' f x = m_I S f x) ∧ (∀ f, f ∉ Js → m_J S' f x = m_J S f x) ∧ (∀ b, m_K S' b = m_K S b) ∧ ∀ b, m_L S' b = m_L S b
theorem mFr.rf {Fs Js As : List Nat} (S : b_M) (x : Nat) : mFr Fs Js As S S x := ⟨fun b _ _ => b_eq.rf _ _, ⟨fun _ _ => rfl, fun _ _ => ⟨fun _ => rfl, fun _ => rfl⟩⟩, fun _ => rfl, fun _ _ => rfl, fun _ _ => rfl, fun _ => rfl, fun _ => rfl⟩
theorem mFr.tr {Fs Js As : List Nat} {S S1 S2 : b_M} {x : Nat} (h : mFr Fs Js As S S1 x) (g : mFr Fs Js As S1 S2 x) : mFr Fs Js As S S2 x := ⟨fun b h1 h2 => (h.1 b h1 h2).tr (g.1 b h1 h2), ⟨fun b i => (g.2.1.1 b i).trans (h.2.1.1 b i), fun b hb => ⟨fun f => ((g.2.1.2 b hb).1 f).trans ((h.2.1.2 b hb).1 f), fun f => ((g.2.1.2 b hb).2 f).trans ((h.2.1.2 b hb).2 f)⟩⟩, fun f => (g.2.2.1 f).trans (h.2.2.1 f), fun f hf => (g.2.2.2.1 f hf).trans (h.2.2.2.1 f hf), fun f hf => (g.2.2.2.2.1 f hf).trans (h.2.2.2.2.1 f hf), fun b => (g.2.2.2.2.2.1 b).trans (h.2.2.2.2.2.1 b), fun b => (g.2.2.2.2.2.2 b).trans (h.2.2.2.2.2.2 b)⟩
theorem mFr.mono {Fs Js As Fs' Js' As' : List Nat} {S S' : b_M} {x : Nat} (h : mFr Fs Js As S S' x) (h1 : ∀ q ∈ Fs, q ∈ Fs') (h2 : ∀ q ∈ Js, q ∈ Js') (h3 : ∀ q ∈ As, q ∈ As') : mFr Fs' Js' As' S S' x := ⟨fun b a1 a2 => h.1 b a1 (fun j hj => a2 j (h3 j hj)), h.2.1, h.2.2.1, fun f hf => h.2.2.2.1 f (fun q => hf (h1 f q)), fun f hf => h.2.2.2.2.1 f (fun q => hf (h2 f q)), h.2.2.2.2.2.1, h.2.2.2.2.2.2⟩
theorem mFr.sI {Fs Js As : List Nat} {S S1 : b_M} {x f : Nat} {v : Int32} (h : mFr Fs Js As S S1 x) (hf : f ∈ Fs) : mFr Fs Js As S (s_I S1 f x v) x := ⟨fun b h1 h2 => (h.1 b h1 h2).tr (e_s_I _ _ _ _ h1), ⟨fun b i => h.2.1.1 b i, fun b hb => ⟨fun g => by rw [x_I_s_I _ _ _ _ _ _ (Or.inr hb)]; exact (h.2.1.2 b hb).1 g, fun g => (h.2.1.2 b hb).2 g⟩⟩, h.2.2.1, fun g hg => by rw [x_I_s_I _ _ _ _ _ _ (Or.inl (fun q : g = f => hg (by rw [q]; exact hf)))]; exact h.2.2.2.1 g hg, h.2.2.2.2.1, h.2.2.2.2.2.1, h.2.2.2.2.2.2⟩
theorem mFr.sJ {Fs Js As : List Nat} {S S1 : b_M} {x f : Nat} {v : Int64} (h : mFr Fs Js As S S1 x) (hf : f ∈ Js) : mFr Fs Js As S (s_J S1 f x v) x := ⟨fun b h1 h2 => (h.1 b h1 h2).tr (e_s_J _ _ _ _ h1), h.2.1, h.2.2.1, h.2.2.2.1, fun g hg => by rw [x_J_s_J _ _ _ _ _ _ (Or.inl (fun q : g = f => hg (by rw [q]; exact hf)))]; exact h.2.2.2.2.1 g hg, h.2.2.2.2.2.1, h.2.2.2.2.2.2⟩
theorem mFr.sA {Fs Js As : List Nat} {S S1 : b_M} {x j i : Nat} {v : Int32} (h : mFr Fs Js As S S1 x) (hj : j ∈ As) : mFr Fs Js As S (s_A S1 (x + j) i v) x := ⟨fun b h1 h2 => (h.1 b h1 h2).tr (e_s_A _ _ _ _ (h2 j hj)), h.2⟩
theorem mFr.sB {Fs Js As : List Nat} {S S1 : b_M} {x j i : Nat} {v : Int64} (h : mFr Fs Js As S S1 x) (hj : j ∈ As) : mFr Fs Js As S (s_B S1 (x + j) i v) x := ⟨fun b h1 h2 => (h.1 b h1 h2).tr (e_s_B _ _ _ _ (h2 j hj)), h.2⟩
theorem mFr.keep {Fs Js As : List Nat} {S S1 : b_M} {x : Nat} (h : mFr Fs Js As S S1 x) (g : mS S x) : mS S1 x := ⟨(h.2.2.2.2.2.1 x).trans g.1, fun j hj => ⟨(h.2.2.1 _).trans (g.2 j hj).1, (h.2.2.2.2.2.1 _).trans (g.2 j hj).2.1, (h.2.2.2.2.2.2 _).trans (g.2 j hj).2.2⟩⟩
theorem ms_p_1100 {S : b_M} {x : Nat} (h : mS S x) : m_P S 1100 x = some (x + 1) := (h.2 0 (by decide)).1
theorem ms_k_1100 {S : b_M} {x : Nat} (h : mS S x) : m_K S (x + 1) = 14 := (h.2 0 (by decide)).2.1
theorem ms_l_1100 {S : b_M} {x : Nat} (h : mS S x) : m_L S (x + 1) = 7 := (h.2 0 (by decide)).2.2
theorem ms_p_1101 {S : b_M} {x : Nat} (h : mS S x) : m_P S 1101 x = some (x + 2) := (h.2 1 (by decide)).1
theorem ms_k_1101 {S : b_M} {x : Nat} (h : mS S x) : m_K S (x + 2) = 14 := (h.2 1 (by decide)).2.1
theorem ms_l_1101 {S : b_M} {x : Nat} (h : mS S x) : m_L S (x + 2) = 6 := (h.2 1 (by decide)).2.2
theorem ms_p_1104 {S : b_M} {x : Nat} (h : mS S x) : m_P S 1104 x = some (x + 3) := (h.2 2 (by decide)).1
theorem ms_k_1104 {S : b_M} {x : Nat} (h : mS S x) : m_K S (x + 3) = 13 := (h.2 2 (by decide)).2.1
theorem ms_l_1104 {S : b_M} {x : Nat} (h : mS S x) : m_L S (x + 3) = 4200 := (h.2 2 (by decide)).2.2
theorem ms_p_1106 {S : b_M} {x : Nat} (h : mS S x) : m_P S 1106 x = some (x + 4) := (h.2 3 (by decide)).1
theorem ms_k_1106 {S : b_M} {x : Nat} (h : mS S x) : m_K S (x + 4) = 13 := (h.2 3 (by decide)).2.1
theorem ms_l_1106 {S : b_M} {x : Nat} (h : mS S x) : m_L S (x + 4) = 4200 := (h.2 3 (by decide)).2.2
theorem ms_p_1111 {S : b_M} {x : Nat} (h : mS S x) : m_P S 1111 x = some (x + 5) := (h.2 4 (by decide)).1
theorem ms_k_1111 {S : b_M} {x : Nat} (h : mS S x) : m_K S (x + 5) = 13 := (h.2 4 (by decide)).2.1
theorem ms_l_1111 {S : b_M} {x : Nat} (h : mS S x) : m_L S (x + 5) = 8400 := (h.2 4 (by decide)).2.2
theorem ms_p_1115 {S : b_M} {x : Nat} (h : mS S x) : m_P S 1115 x = some (x + 6) := (h.2 5 (by decide)).1
theorem ms_k_1115 {S : b_M} {x : Nat} (h : mS S x) : m_K S (x + 6) = 14 := (h.2 5 (by decide)).2.1
theorem ms_l_1115 {S : b_M} {x : Nat} (h : mS S x) : m_L S (x + 6) = 12 := (h.2 5 (by decide)).2.2
theorem ms_p_1116 {S : b_M} {x : Nat} (h : mS S x) : m_P S 1116 x = some (x + 7) := (h.2 6 (by decide)).1
theorem ms_k_1116 {S : b_M} {x : Nat} (h : mS S x) : m_K S (x + 7) = 13 := (h.2 6 (by decide)).2.1
theorem ms_l_1116 {S : b_M} {x : Nat} (h : mS S x) : m_L S (x + 7) = 12 := (h.2 6 (by decide)).2.2
theorem ms_p_1117 {S : b_M} {x : Nat} (h : mS S x) : m_P S 1117 x = some (x + 8) := (h.2 7 (by decide)).1
theorem ms_k_1117 {S : b_M} {x : Nat} (h : mS S x) : m_K S (x + 8) = 13 := (h.2 7 (by decide)).2.1
theorem ms_l_1117 {S : b_M} {x : Nat} (h : mS S x) : m_L S (x + 8) = 12 := (h.2 7 (by decide)).2.2
theorem ms_p_1118 {S : b_M} {x : Nat} (h : mS S x) : m_P S 1118 x = some (x + 9) := (h.2 8 (by decide)).1
theorem ms_k_1118 {S : b_M} {x : Nat} (h : mS S x) : m_K S (x + 9) = 13 := (h.2 8 (by decide)).2.1
theorem ms_l_1118 {S : b_M} {x : Nat} (h : mS S x) : m_L S (x + 9) = 4200 := (h.2 8 (by decide)).2.2
theorem ms_p_1119 {S : b_M} {x : Nat} (h : mS S x) : m_P S 1119 x = some (x + 10) := (h.2 9 (by decide)).1
theorem ms_k_1119 {S : b_M} {x : Nat} (h : mS S x) : m_K S (x + 10) = 13 := (h.2 9 (by decide)).2.1
theorem ms_l_1119 {S : b_M} {x : Nat} (h : mS S x) : m_L S (x + 10) = 4200 := (h.2 9 (by decide)).2.2
theorem ms_p_1121 {S : b_M} {x : Nat} (h : mS S x) : m_P S 1121 x = some (x + 11) := (h.2 10 (by decide)).1
theorem ms_k_1121 {S : b_M} {x : Nat} (h : mS S x) : m_K S (x + 11) = 13 := (h.2 10 (by decide)).2.1
theorem ms_l_1121 {S : b_M} {x : Nat} (h : mS S x) : m_L S (x + 11) = 7 := (h.2 10 (by decide)).2.2
theorem ms_p_1122 {S : b_M} {x : Nat} (h : mS S x) : m_P S 1122 x = some (x + 12) := (h.2 11 (by decide)).1
theorem ms_k_1122 {S : b_M} {x : Nat} (h : mS S x) : m_K S (x + 12) = 13 := (h.2 11 (by decide)).2.1
theorem ms_l_1122 {S : b_M} {x : Nat} (h : mS S x) : m_L S (x + 12) = 7 := (h.2 11 (by decide)).2.2
theorem ms_p_1123 {S : b_M} {x : Nat} (h : mS S x) : m_P S 1123 x = some (x + 13) := (h.2 12 (by decide)).1
theorem ms_k_1123 {S : b_M} {x : Nat} (h : mS S x) : m_K S (x + 13) = 13 := (h.2 12 (by decide)).2.1
theorem ms_l_1123 {S : b_M} {x : Nat} (h : mS S x) : m_L S (x + 13) = 7 := (h.2 12 (by decide)).2.2
theorem ms_p_1124 {S : b_M} {x : Nat} (h : mS S x) : m_P S 1124 x = some (x + 14) := (h.2 13 (by decide)).1
theorem ms_k_1124 {S : b_M} {x : Nat} (h : mS S x) : m_K S (x + 14) = 13 := (h.2 13 (by decide)).2.1
theorem ms_l_1124 {S : b_M} {x : Nat} (h : mS S x) : m_L S (x + 14) = 28 := (h.2 13 (by decide)).2.2
theorem ms_p_1125 {S : b_M} {x : Nat} (h : mS S x) : m_P S 1125 x = some (x + 15) := (h.2 14 (by decide)).1
theorem ms_k_1125 {S : b_M} {x : Nat} (h : mS S x) : m_K S (x + 15) = 13 := (h.2 14 (by decide)).2.1
theorem ms_l_1125 {S : b_M} {x : Nat} (h : mS S x) : m_L S (x + 15) = 28 := (h.2 14 (by decide)).2.2
theorem ms_p_1126 {S : b_M} {x : Nat} (h : mS S x) : m_P S 1126 x = some (x + 16) := (h.2 15 (by decide)).1
theorem ms_k_1126 {S : b_M} {x : Nat} (h : mS S x) : m_K S (x + 16) = 13 := (h.2 15 (by decide)).2.1
theorem ms_l_1126 {S : b_M} {x : Nat} (h : mS S x) : m_L S (x + 16) = 8400 := (h.2 15 (by decide)).2.2
theorem ms_p_1129 {S : b_M} {x : Nat} (h : mS S x) : m_P S 1129 x = some (x + 17) := (h.2 16 (by decide)).1
theorem ms_k_1129 {S : b_M} {x : Nat} (h : mS S x) : m_K S (x + 17) = 13 := (h.2 16 (by decide)).2.1
theorem ms_l_1129 {S : b_M} {x : Nat} (h : mS S x) : m_L S (x + 17) = 400 := (h.2 16 (by decide)).2.2
theorem ms_p_1130 {S : b_M} {x : Nat} (h : mS S x) : m_P S 1130 x = some (x + 18) := (h.2 17 (by decide)).1
theorem ms_k_1130 {S : b_M} {x : Nat} (h : mS S x) : m_K S (x + 18) = 13 := (h.2 17 (by decide)).2.1
theorem ms_l_1130 {S : b_M} {x : Nat} (h : mS S x) : m_L S (x + 18) = 400 := (h.2 17 (by decide)).2.2
theorem ms_p_1131 {S : b_M} {x : Nat} (h : mS S x) : m_P S 1131 x = some (x + 19) := (h.2 18 (by decide)).1
theorem ms_k_1131 {S : b_M} {x : Nat} (h : mS S x) : m_K S (x + 19) = 13 := (h.2 18 (by decide)).2.1
theorem ms_l_1131 {S : b_M} {x : Nat} (h : mS S x) : m_L S (x + 19) = 400 := (h.2 18 (by decide)).2.2
theorem ms_p_1132 {S : b_M} {x : Nat} (h : mS S x) : m_P S 1132 x = some (x + 20) := (h.2 19 (by decide)).1
theorem ms_k_1132 {S : b_M} {x : Nat} (h : mS S x) : m_K S (x + 20) = 13 := (h.2 19 (by decide)).2.1
theorem ms_l_1132 {S : b_M} {x : Nat} (h : mS S x) : m_L S (x + 20) = 400 := (h.2 19 (by decide)).2.2
theorem ms_p_1133 {S : b_M} {x : Nat} (h : mS S x) : m_P S 1133 x = some (x + 21) := (h.2 20 (by decide)).1
theorem ms_k_1133 {S : b_M} {x : Nat} (h : mS S x) : m_K S (x + 21) = 13 := (h.2 20 (by decide)).2.1
theorem ms_l_1133 {S : b_M} {x : Nat} (h : mS S x) : m_L S (x + 21) = 400 := (h.2 20 (by decide)).2.2
theorem ms_p_1134 {S : b_M} {x : Nat} (h : mS S x) : m_P S 1134 x = some (x + 22) := (h.2 21 (by decide)).1
theorem ms_k_1134 {S : b_M} {x : Nat} (h : mS S x) : m_K S (x + 22) = 13 := (h.2 21 (by decide)).2.1
theorem ms_l_1134 {S : b_M} {x : Nat} (h : mS S x) : m_L S (x + 22) = 400 := (h.2 21 (by decide)).2.2
theorem ms_p_1135 {S : b_M} {x : Nat} (h : mS S x) : m_P S 1135 x = some (x + 23) := (h.2 22 (by decide)).1
theorem ms_k_1135 {S : b_M} {x : Nat} (h : mS S x) : m_K S (x + 23) = 13 := (h.2 22 (by decide)).2.1
theorem ms_l_1135 {S : b_M} {x : Nat} (h : mS S x) : m_L S (x + 23) = 400 := (h.2 22 (by decide)).2.2
theorem ms_p_1136 {S : b_M} {x : Nat} (h : mS S x) : m_P S 1136 x = some (x + 24) := (h.2 23 (by decide)).1
theorem ms_k_1136 {S : b_M} {x : Nat} (h : mS S x) : m_K S (x + 24) = 14 := (h.2 23 (by decide)).2.1
theorem ms_l_1136 {S : b_M} {x : Nat} (h : mS S x) : m_L S (x + 24) = 400 := (h.2 23 (by decide)).2.2
theorem ms_p_1137 {S : b_M} {x : Nat} (h : mS S x) : m_P S 1137 x = some (x + 25) := (h.2 24 (by decide)).1
theorem ms_k_1137 {S : b_M} {x : Nat} (h : mS S x) : m_K S (x + 25) = 15 := (h.2 24 (by decide)).2.1
theorem ms_l_1137 {S : b_M} {x : Nat} (h : mS S x) : m_L S (x + 25) = 400 := (h.2 24 (by decide)).2.2
theorem ms_p_1138 {S : b_M} {x : Nat} (h : mS S x) : m_P S 1138 x = some (x + 26) := (h.2 25 (by decide)).1
theorem ms_k_1138 {S : b_M} {x : Nat} (h : mS S x) : m_K S (x + 26) = 13 := (h.2 25 (by decide)).2.1
theorem ms_l_1138 {S : b_M} {x : Nat} (h : mS S x) : m_L S (x + 26) = 400 := (h.2 25 (by decide)).2.2
theorem ms_p_1142 {S : b_M} {x : Nat} (h : mS S x) : m_P S 1142 x = some (x + 27) := (h.2 26 (by decide)).1
theorem ms_k_1142 {S : b_M} {x : Nat} (h : mS S x) : m_K S (x + 27) = 13 := (h.2 26 (by decide)).2.1
theorem ms_l_1142 {S : b_M} {x : Nat} (h : mS S x) : m_L S (x + 27) = 3200 := (h.2 26 (by decide)).2.2
theorem ms_p_1143 {S : b_M} {x : Nat} (h : mS S x) : m_P S 1143 x = some (x + 28) := (h.2 27 (by decide)).1
theorem ms_k_1143 {S : b_M} {x : Nat} (h : mS S x) : m_K S (x + 28) = 13 := (h.2 27 (by decide)).2.1
theorem ms_l_1143 {S : b_M} {x : Nat} (h : mS S x) : m_L S (x + 28) = 3200 := (h.2 27 (by decide)).2.2
theorem ms_p_1144 {S : b_M} {x : Nat} (h : mS S x) : m_P S 1144 x = some (x + 29) := (h.2 28 (by decide)).1
theorem ms_k_1144 {S : b_M} {x : Nat} (h : mS S x) : m_K S (x + 29) = 13 := (h.2 28 (by decide)).2.1
theorem ms_l_1144 {S : b_M} {x : Nat} (h : mS S x) : m_L S (x + 29) = 60000 := (h.2 28 (by decide)).2.2
theorem ms_p_1146 {S : b_M} {x : Nat} (h : mS S x) : m_P S 1146 x = some (x + 30) := (h.2 29 (by decide)).1
theorem ms_k_1146 {S : b_M} {x : Nat} (h : mS S x) : m_K S (x + 30) = 13 := (h.2 29 (by decide)).2.1
theorem ms_l_1146 {S : b_M} {x : Nat} (h : mS S x) : m_L S (x + 30) = 9 := (h.2 29 (by decide)).2.2
theorem ms_p_1147 {S : b_M} {x : Nat} (h : mS S x) : m_P S 1147 x = some (x + 31) := (h.2 30 (by decide)).1
theorem ms_k_1147 {S : b_M} {x : Nat} (h : mS S x) : m_K S (x + 31) = 13 := (h.2 30 (by decide)).2.1
theorem ms_l_1147 {S : b_M} {x : Nat} (h : mS S x) : m_L S (x + 31) = 9 := (h.2 30 (by decide)).2.2
theorem ms_p_1149 {S : b_M} {x : Nat} (h : mS S x) : m_P S 1149 x = some (x + 32) := (h.2 31 (by decide)).1
theorem ms_k_1149 {S : b_M} {x : Nat} (h : mS S x) : m_K S (x + 32) = 14 := (h.2 31 (by decide)).2.1
theorem ms_l_1149 {S : b_M} {x : Nat} (h : mS S x) : m_L S (x + 32) = 400 := (h.2 31 (by decide)).2.2
theorem ms_p_1150 {S : b_M} {x : Nat} (h : mS S x) : m_P S 1150 x = some (x + 33) := (h.2 32 (by decide)).1
theorem ms_k_1150 {S : b_M} {x : Nat} (h : mS S x) : m_K S (x + 33) = 13 := (h.2 32 (by decide)).2.1
theorem ms_l_1150 {S : b_M} {x : Nat} (h : mS S x) : m_L S (x + 33) = 400 := (h.2 32 (by decide)).2.2
theorem ms_p_1151 {S : b_M} {x : Nat} (h : mS S x) : m_P S 1151 x = some (x + 34) := (h.2 33 (by decide)).1
theorem ms_k_1151 {S : b_M} {x : Nat} (h : mS S x) : m_K S (x + 34) = 13 := (h.2 33 (by decide)).2.1
theorem ms_l_1151 {S : b_M} {x : Nat} (h : mS S x) : m_L S (x + 34) = 400 := (h.2 33 (by decide)).2.2
theorem ms_p_1152 {S : b_M} {x : Nat} (h : mS S x) : m_P S 1152 x = some (x + 35) := (h.2 34 (by decide)).1
theorem ms_k_1152 {S : b_M} {x : Nat} (h : mS S x) : m_K S (x + 35) = 13 := (h.2 34 (by decide)).2.1
theorem ms_l_1152 {S : b_M} {x : Nat} (h : mS S x) : m_L S (x + 35) = 1021 := (h.2 34 (by decide)).2.2
theorem ms_p_1155 {S : b_M} {x : Nat} (h : mS S x) : m_P S 1155 x = some (x + 36) := (h.2 35 (by decide)).1
theorem ms_k_1155 {S : b_M} {x : Nat} (h : mS S x) : m_K S (x + 36) = 13 := (h.2 35 (by decide)).2.1
theorem ms_l_1155 {S : b_M} {x : Nat} (h : mS S x) : m_L S (x + 36) = 50 := (h.2 35 (by decide)).2.2
theorem ms_p_1156 {S : b_M} {x : Nat} (h : mS S x) : m_P S 1156 x = some (x + 37) := (h.2 36 (by decide)).1
theorem ms_k_1156 {S : b_M} {x : Nat} (h : mS S x) : m_K S (x + 37) = 13 := (h.2 36 (by decide)).2.1
theorem ms_l_1156 {S : b_M} {x : Nat} (h : mS S x) : m_L S (x + 37) = 50 := (h.2 36 (by decide)).2.2
theorem ms_p_1161 {S : b_M} {x : Nat} (h : mS S x) : m_P S 1161 x = some (x + 38) := (h.2 37 (by decide)).1
theorem ms_k_1161 {S : b_M} {x : Nat} (h : mS S x) : m_K S (x + 38) = 13 := (h.2 37 (by decide)).2.1
theorem ms_l_1161 {S : b_M} {x : Nat} (h : mS S x) : m_L S (x + 38) = 65536 := (h.2 37 (by decide)).2.2
theorem ms_p_1171 {S : b_M} {x : Nat} (h : mS S x) : m_P S 1171 x = some (x + 39) := (h.2 38 (by decide)).1
theorem ms_k_1171 {S : b_M} {x : Nat} (h : mS S x) : m_K S (x + 39) = 15 := (h.2 38 (by decide)).2.1
theorem ms_l_1171 {S : b_M} {x : Nat} (h : mS S x) : m_L S (x + 39) = 400 := (h.2 38 (by decide)).2.2
/-- a packed name of n letters -/
def wb (n w : Int) : Prop := 0 ≤ n ∧ 0 ≤ w ∧ w < 1152921504606846976 ∧ (n < 10 → w < 64 ^ n.toNat)
theorem wb_0 : wb 0 0 := ⟨by decide, by decide, by decide, fun _ => by decide⟩
theorem wb_step {n w c : Int} (h : wb n w) (hn : n < 10) (hc : 0 ≤ c ∧ c ≤ 37) : wb (n + 1) (64 * w + c) := by
  obtain ⟨h1, h2, h3, h4⟩ := h
  have h5 := h4 hn
  rcases (show n = 0 ∨ n = 1 ∨ n = 2 ∨ n = 3 ∨ n = 4 ∨ n = 5 ∨ n = 6 ∨ n = 7 ∨ n = 8 ∨ n = 9 by omega) with e | e | e | e | e | e | e | e | e | e <;> subst e <;> simp at h5 <;> refine ⟨by omega, by omega, by omega, fun _ => ?_⟩ <;> simp <;> omega
theorem wb_more {n w : Int} (h : wb n w) (hn : 10 ≤ n) : wb (n + 1) w := ⟨by have := h.1; omega, h.2.1, h.2.2.1, fun q => by omega⟩
theorem wb_lt {n w : Int} (h : wb n w) : 0 ≤ w ∧ w < 1152921504606846976 := ⟨h.2.1, h.2.2.1⟩
set_option maxRecDepth 100000 in
set_option maxHeartbeats 4000000 in
theorem k_within {kn : Nat → Nat} {B : Nat} {S : b_M} {z x : Nat} {v : Int} {a : Int} {b : Int} (b_v : -2147483648 ≤ v ∧ v < 2147483648) (b_a : -2147483648 ≤ a ∧ a < 2147483648) (b_b : -2147483648 ≤ b ∧ b < 2147483648) : b_C kn B yX13_within cX13_within 3 (some .boolean) 0 0 0 0 [.int (iI v), .int (iI a), .int (iI b)] S z (fun r S' z' => z = z' ∧ S = S' ∧ ∃ q : Int, r = some (.int (iI q)) ∧ (-2147483648 ≤ q ∧ q < 2147483648) ∧ ((q = 1 ∧ a ≤ v ∧ v ≤ b) ∨ (q = 0 ∧ ¬ (a ≤ v ∧ v ≤ b)))) (fun _ _ _ => False) := by
  refine b_enter (by decide) (Nat.le_of_ble_eq_true rfl) ?_
  intro X hX hE hnL hkn hB hI_
  subst hkn; subst hB
  clear hI_
  change b_V X S z 0 0 0 [(0, .int (iI v)), (1, .int (iI a)), (2, .int (iI b))] []
  refine v_iload_n hX dX13_within_0 (i := 0) rfl rfl ?_
  refine v_iload_n hX dX13_within_1 (i := 1) rfl rfl ?_
  refine u_icmp_lt hX (tgt := 14) dX13_within_2 (by decide) ⟨by omega, by omega⟩ ⟨by omega, by omega⟩ (fun h1_ => ?_) (fun h1_ => ?_)
  ·
    refine v_iconst hX (v := iI 0) dX13_within_14 rfl ?_
    exact v_zreturn hX (nar_b (by omega)) hE dX13_within_15 (by omega) (by omega) ⟨rfl, rfl, 0, rfl, ⟨by omega, by omega⟩, (by omega)⟩
  ·
    refine v_iload_n hX dX13_within_5 (i := 0) rfl rfl ?_
    refine v_iload_n hX dX13_within_6 (i := 2) rfl rfl ?_
    refine u_icmp_gt hX (tgt := 14) dX13_within_7 (by decide) ⟨by omega, by omega⟩ ⟨by omega, by omega⟩ (fun h2_ => ?_) (fun h2_ => ?_)
    ·
      refine v_iconst hX (v := iI 0) dX13_within_14 rfl ?_
      exact v_zreturn hX (nar_b (by omega)) hE dX13_within_15 (by omega) (by omega) ⟨rfl, rfl, 0, rfl, ⟨by omega, by omega⟩, (by omega)⟩
    ·
      refine v_iconst hX (v := iI 1) dX13_within_10 rfl ?_
      refine v_goto hX (tgt := 15) dX13_within_11 (by decide) ?_
      exact v_zreturn hX (nar_b (by omega)) hE dX13_within_15 (by omega) (by omega) ⟨rfl, rfl, 1, rfl, ⟨by omega, by omega⟩, (by omega)⟩
set_option maxRecDepth 100000 in
set_option maxHeartbeats 4000000 in
theorem k_isSmall {kn : Nat → Nat} {B : Nat} {S : b_M} {z x : Nat} {c : Int} (b_c : -2147483648 ≤ c ∧ c < 2147483648) : b_C kn B yX13_isSmall cX13_isSmall 1 (some .boolean) 1 22 0 0 [.int (iI c)] S z (fun r S' z' => z = z' ∧ S = S' ∧ ∃ q : Int, r = some (.int (iI q)) ∧ (-2147483648 ≤ q ∧ q < 2147483648) ∧ ((q = 1 ∧ (97 ≤ c ∧ c ≤ 122)) ∨ (q = 0 ∧ ¬ (97 ≤ c ∧ c ≤ 122)))) (fun _ _ _ => False) := by
  refine b_enter (by decide) (Nat.le_of_ble_eq_true rfl) ?_
  intro X hX hE hnL hkn hB hI_
  subst hkn; subst hB
  clear hI_
  change b_V X S z 0 0 0 [(0, .int (iI c))] []
  refine v_iload_n hX dX13_isSmall_0 (i := 0) rfl rfl ?_
  refine v_bipush hX (v := iI 97) dX13_isSmall_1 (by decide) ?_
  refine v_bipush hX (v := iI 122) dX13_isSmall_3 (by decide) ?_
  refine v_callS hX (n := 3) (k_within (S := S) (x := 0) (v := c) (a := 97) (b := 122) ⟨by omega, by omega⟩ ⟨by omega, by omega⟩ ⟨by omega, by omega⟩) w_6_210 w_6_211 w_1_16 w_6_212 (by decide +kernel) rfl ⟨by decide, by decide⟩ ⟨by omega, by omega⟩ (Nat.le_of_ble_eq_true rfl) rfl dX13_isSmall_5 (fun _ _ _ q => q) ?_
  rintro r1_ S1_ z1_ ⟨rfl, rfl, v2_, rfl, b_v2_, q1_⟩
  exact v_zreturn hX (nar_b (by omega)) hE dX13_isSmall_8 (by omega) (by omega) ⟨rfl, rfl, v2_, rfl, ⟨by omega, by omega⟩, (by omega)⟩
set_option maxRecDepth 100000 in
set_option maxHeartbeats 4000000 in
theorem k_isDigit {kn : Nat → Nat} {B : Nat} {S : b_M} {z x : Nat} {c : Int} (b_c : -2147483648 ≤ c ∧ c < 2147483648) : b_C kn B yX13_isDigit cX13_isDigit 1 (some .boolean) 1 22 0 0 [.int (iI c)] S z (fun r S' z' => z = z' ∧ S = S' ∧ ∃ q : Int, r = some (.int (iI q)) ∧ (-2147483648 ≤ q ∧ q < 2147483648) ∧ ((q = 1 ∧ (48 ≤ c ∧ c ≤ 57)) ∨ (q = 0 ∧ ¬ (48 ≤ c ∧ c ≤ 57)))) (fun _ _ _ => False) := by
  refine b_enter (by decide) (Nat.le_of_ble_eq_true rfl) ?_
  intro X hX hE hnL hkn hB hI_
  subst hkn; subst hB
  clear hI_
  change b_V X S z 0 0 0 [(0, .int (iI c))] []
  refine v_iload_n hX dX13_isDigit_0 (i := 0) rfl rfl ?_
  refine v_bipush hX (v := iI 48) dX13_isDigit_1 (by decide) ?_
  refine v_bipush hX (v := iI 57) dX13_isDigit_3 (by decide) ?_
  refine v_callS hX (n := 3) (k_within (S := S) (x := 0) (v := c) (a := 48) (b := 57) ⟨by omega, by omega⟩ ⟨by omega, by omega⟩ ⟨by omega, by omega⟩) w_6_210 w_6_211 w_1_16 w_6_212 (by decide +kernel) rfl ⟨by decide, by decide⟩ ⟨by omega, by omega⟩ (Nat.le_of_ble_eq_true rfl) rfl dX13_isDigit_5 (fun _ _ _ q => q) ?_
  rintro r1_ S1_ z1_ ⟨rfl, rfl, v2_, rfl, b_v2_, q1_⟩
  exact v_zreturn hX (nar_b (by omega)) hE dX13_isDigit_8 (by omega) (by omega) ⟨rfl, rfl, v2_, rfl, ⟨by omega, by omega⟩, (by omega)⟩
set_option maxRecDepth 100000 in
set_option maxHeartbeats 4000000 in
theorem k_isStart {kn : Nat → Nat} {B : Nat} {S : b_M} {z x : Nat} {c : Int} (b_c : -2147483648 ≤ c ∧ c < 2147483648) : b_C kn B yX13_isStart cX13_isStart 1 (some .boolean) 2 42 0 0 [.int (iI c)] S z (fun r S' z' => z = z' ∧ S = S' ∧ ∃ q : Int, r = some (.int (iI q)) ∧ (-2147483648 ≤ q ∧ q < 2147483648) ∧ ((q = 1 ∧ ((97 ≤ c ∧ c ≤ 122) ∨ c = 95)) ∨ (q = 0 ∧ ¬ ((97 ≤ c ∧ c ≤ 122) ∨ c = 95)))) (fun _ _ _ => False) := by
  refine b_enter (by decide) (Nat.le_of_ble_eq_true rfl) ?_
  intro X hX hE hnL hkn hB hI_
  subst hkn; subst hB
  clear hI_
  change b_V X S z 0 0 0 [(0, .int (iI c))] []
  refine v_iload_n hX dX13_isStart_0 (i := 0) rfl rfl ?_
  refine v_callS hX (n := 1) (k_isSmall (S := S) (x := 0) (c := c) ⟨by omega, by omega⟩) w_6_239 w_7_0 w_1_16 w_7_1 (by decide +kernel) rfl ⟨by decide, by decide⟩ ⟨by omega, by omega⟩ (Nat.le_of_ble_eq_true rfl) rfl dX13_isStart_1 (fun _ _ _ q => q) ?_
  rintro r1_ S1_ z1_ ⟨rfl, rfl, v2_, rfl, b_v2_, q1_⟩
  refine u_if_ne hX (tgt := 13) dX13_isStart_4 (by decide) ⟨by omega, by omega⟩ (fun h3_ => ?_) (fun h3_ => ?_)
  ·
    refine v_iconst hX (v := iI 1) dX13_isStart_13 rfl ?_
    refine v_goto hX (tgt := 18) dX13_isStart_14 (by decide) ?_
    exact v_zreturn hX (nar_b (by omega)) hE dX13_isStart_18 (by omega) (by omega) ⟨rfl, rfl, 1, rfl, ⟨by omega, by omega⟩, (by omega)⟩
  ·
    refine v_iload_n hX dX13_isStart_7 (i := 0) rfl rfl ?_
    refine v_bipush hX (v := iI 95) dX13_isStart_8 (by decide) ?_
    refine u_icmp_ne hX (tgt := 17) dX13_isStart_10 (by decide) ⟨by omega, by omega⟩ ⟨by omega, by omega⟩ (fun h4_ => ?_) (fun h4_ => ?_)
    ·
      refine v_iconst hX (v := iI 0) dX13_isStart_17 rfl ?_
      exact v_zreturn hX (nar_b (by omega)) hE dX13_isStart_18 (by omega) (by omega) ⟨rfl, rfl, 0, rfl, ⟨by omega, by omega⟩, (by omega)⟩
    ·
      refine v_iconst hX (v := iI 1) dX13_isStart_13 rfl ?_
      refine v_goto hX (tgt := 18) dX13_isStart_14 (by decide) ?_
      exact v_zreturn hX (nar_b (by omega)) hE dX13_isStart_18 (by omega) (by omega) ⟨rfl, rfl, 1, rfl, ⟨by omega, by omega⟩, (by omega)⟩
set_option maxRecDepth 100000 in
set_option maxHeartbeats 4000000 in
theorem k_isPart {kn : Nat → Nat} {B : Nat} {S : b_M} {z x : Nat} {c : Int} (b_c : -2147483648 ≤ c ∧ c < 2147483648) : b_C kn B yX13_isPart cX13_isPart 1 (some .boolean) 3 62 0 0 [.int (iI c)] S z (fun r S' z' => z = z' ∧ S = S' ∧ ∃ q : Int, r = some (.int (iI q)) ∧ (-2147483648 ≤ q ∧ q < 2147483648) ∧ ((q = 1 ∧ ((97 ≤ c ∧ c ≤ 122) ∨ c = 95 ∨ (48 ≤ c ∧ c ≤ 57))) ∨ (q = 0 ∧ ¬ ((97 ≤ c ∧ c ≤ 122) ∨ c = 95 ∨ (48 ≤ c ∧ c ≤ 57))))) (fun _ _ _ => False) := by
  refine b_enter (by decide) (Nat.le_of_ble_eq_true rfl) ?_
  intro X hX hE hnL hkn hB hI_
  subst hkn; subst hB
  clear hI_
  change b_V X S z 0 0 0 [(0, .int (iI c))] []
  refine v_iload_n hX dX13_isPart_0 (i := 0) rfl rfl ?_
  refine v_callS hX (n := 1) (k_isStart (S := S) (x := 0) (c := c) ⟨by omega, by omega⟩) w_6_236 w_6_237 w_1_16 w_6_238 (by decide +kernel) rfl ⟨by decide, by decide⟩ ⟨by omega, by omega⟩ (Nat.le_of_ble_eq_true rfl) rfl dX13_isPart_1 (fun _ _ _ q => q) ?_
  rintro r1_ S1_ z1_ ⟨rfl, rfl, v2_, rfl, b_v2_, q1_⟩
  refine u_if_ne hX (tgt := 14) dX13_isPart_4 (by decide) ⟨by omega, by omega⟩ (fun h3_ => ?_) (fun h3_ => ?_)
  ·
    refine v_iconst hX (v := iI 1) dX13_isPart_14 rfl ?_
    refine v_goto hX (tgt := 19) dX13_isPart_15 (by decide) ?_
    exact v_zreturn hX (nar_b (by omega)) hE dX13_isPart_19 (by omega) (by omega) ⟨rfl, rfl, 1, rfl, ⟨by omega, by omega⟩, (by omega)⟩
  ·
    refine v_iload_n hX dX13_isPart_7 (i := 0) rfl rfl ?_
    refine v_callS hX (n := 1) (k_isDigit (S := S) (x := 0) (c := c) ⟨by omega, by omega⟩) w_7_2 w_7_3 w_1_16 w_7_4 (by decide +kernel) rfl ⟨by decide, by decide⟩ ⟨by omega, by omega⟩ (Nat.le_of_ble_eq_true rfl) rfl dX13_isPart_8 (fun _ _ _ q => q) ?_
    rintro r4_ S4_ z4_ ⟨rfl, rfl, v5_, rfl, b_v5_, q4_⟩
    refine u_if_eq hX (tgt := 18) dX13_isPart_11 (by decide) ⟨by omega, by omega⟩ (fun h6_ => ?_) (fun h6_ => ?_)
    ·
      refine v_iconst hX (v := iI 0) dX13_isPart_18 rfl ?_
      exact v_zreturn hX (nar_b (by omega)) hE dX13_isPart_19 (by omega) (by omega) ⟨rfl, rfl, 0, rfl, ⟨by omega, by omega⟩, (by omega)⟩
    ·
      refine v_iconst hX (v := iI 1) dX13_isPart_14 rfl ?_
      refine v_goto hX (tgt := 19) dX13_isPart_15 (by decide) ?_
      exact v_zreturn hX (nar_b (by omega)) hE dX13_isPart_19 (by omega) (by omega) ⟨rfl, rfl, 1, rfl, ⟨by omega, by omega⟩, (by omega)⟩
set_option maxRecDepth 100000 in
set_option maxHeartbeats 4000000 in
theorem k_codeOf {kn : Nat → Nat} {B : Nat} {S : b_M} {z x : Nat} {c : Int} (b_c : -2147483648 ≤ c ∧ c < 2147483648) (p : -1000 ≤ c) : b_C kn B yX13_codeOf cX13_codeOf 1 (some .int) 2 42 0 0 [.int (iI c)] S z (fun r S' z' => z = z' ∧ S = S' ∧ ∃ q : Int, r = some (.int (iI q)) ∧ (-2147483648 ≤ q ∧ q < 2147483648) ∧ ((c = 95 ∧ q = 37) ∨ (c ≠ 95 ∧ (48 ≤ c ∧ c ≤ 57) ∧ q = c - 21) ∨ (c ≠ 95 ∧ ¬ (48 ≤ c ∧ c ≤ 57) ∧ q = c - 96))) (fun _ _ _ => False) := by
  refine b_enter (by decide) (Nat.le_of_ble_eq_true rfl) ?_
  intro X hX hE hnL hkn hB hI_
  subst hkn; subst hB
  clear hI_
  change b_V X S z 0 0 0 [(0, .int (iI c))] []
  refine v_iload_n hX dX13_codeOf_0 (i := 0) rfl rfl ?_
  refine v_bipush hX (v := iI 95) dX13_codeOf_1 (by decide) ?_
  refine u_icmp_ne hX (tgt := 11) dX13_codeOf_3 (by decide) ⟨by omega, by omega⟩ ⟨by omega, by omega⟩ (fun h1_ => ?_) (fun h1_ => ?_)
  ·
    refine v_iload_n hX dX13_codeOf_11 (i := 0) rfl rfl ?_
    refine v_callS hX (n := 1) (k_isDigit (S := S) (x := 0) (c := c) ⟨by omega, by omega⟩) w_7_2 w_7_3 w_1_16 w_7_4 (by decide +kernel) rfl ⟨by decide, by decide⟩ ⟨by omega, by omega⟩ (Nat.le_of_ble_eq_true rfl) rfl dX13_codeOf_12 (fun _ _ _ q => q) ?_
    rintro r2_ S2_ z2_ ⟨rfl, rfl, v3_, rfl, b_v3_, q2_⟩
    refine u_if_eq hX (tgt := 25) dX13_codeOf_15 (by decide) ⟨by omega, by omega⟩ (fun h4_ => ?_) (fun h4_ => ?_)
    ·
      refine v_iload_n hX dX13_codeOf_25 (i := 0) rfl rfl ?_
      refine v_bipush hX (v := iI 96) dX13_codeOf_26 (by decide) ?_
      refine u_isub hX dX13_codeOf_28 ?_
      exact v_ireturn hX hE dX13_codeOf_29 (by omega) (by omega) ⟨rfl, rfl, (c - 96), rfl, ⟨by omega, by omega⟩, (by omega)⟩
    ·
      refine v_iload_n hX dX13_codeOf_18 (i := 0) rfl rfl ?_
      refine v_bipush hX (v := iI 21) dX13_codeOf_19 (by decide) ?_
      refine u_isub hX dX13_codeOf_21 ?_
      refine v_goto hX (tgt := 29) dX13_codeOf_22 (by decide) ?_
      exact v_ireturn hX hE dX13_codeOf_29 (by omega) (by omega) ⟨rfl, rfl, (c - 21), rfl, ⟨by omega, by omega⟩, (by omega)⟩
  ·
    refine v_bipush hX (v := iI 37) dX13_codeOf_6 (by decide) ?_
    refine v_goto hX (tgt := 29) dX13_codeOf_8 (by decide) ?_
    exact v_ireturn hX hE dX13_codeOf_29 (by omega) (by omega) ⟨rfl, rfl, 37, rfl, ⟨by omega, by omega⟩, (by omega)⟩
set_option maxRecDepth 100000 in
set_option maxHeartbeats 4000000 in
theorem k_isReg {kn : Nat → Nat} {B : Nat} {S : b_M} {z x : Nat} {v : Int} (b_v : -9223372036854775808 ≤ v ∧ v < 9223372036854775808) : b_C kn B yX13_isRegisterName cX13_isRegisterName 2 (some .boolean) 0 0 0 0 [.long (jJ v)] S z (fun r S' z' => z = z' ∧ S = S' ∧ ∃ q : Int, r = some (.int (iI q)) ∧ (-2147483648 ≤ q ∧ q < 2147483648) ∧ ((q = 1 ∧ 1179 ≤ v ∧ v ≤ 1186) ∨ (q = 0 ∧ ¬ (1179 ≤ v ∧ v ≤ 1186)))) (fun _ _ _ => False) := by
  refine b_enter (by decide) (Nat.le_of_ble_eq_true rfl) ?_
  intro X hX hE hnL hkn hB hI_
  subst hkn; subst hB
  clear hI_
  change b_V X S z 0 0 0 [(0, .long (jJ v))] []
  refine v_lload_n hX dX13_isRegisterName_0 (i := 0) rfl rfl ?_
  refine v_ldc2 hX (v := jJ 1179) dX13_isRegisterName_1 (show Cond.constantLong _ _ (jJ 1179) ∈ b_Ws from w_7_48) ?_
  refine u_lcmp hX dX13_isRegisterName_4 ⟨by omega, by omega⟩ ⟨by omega, by omega⟩ (fun v1_ b_v1_ c_v1_ => ?_)
  refine u_if_lt hX (tgt := 20) dX13_isRegisterName_5 (by decide) ⟨by omega, by omega⟩ (fun h2_ => ?_) (fun h2_ => ?_)
  ·
    refine v_iconst hX (v := iI 0) dX13_isRegisterName_20 rfl ?_
    exact v_zreturn hX (nar_b (by omega)) hE dX13_isRegisterName_21 (by omega) (by omega) ⟨rfl, rfl, 0, rfl, ⟨by omega, by omega⟩, (by omega)⟩
  ·
    refine v_lload_n hX dX13_isRegisterName_8 (i := 0) rfl rfl ?_
    refine v_ldc2 hX (v := jJ 1186) dX13_isRegisterName_9 (show Cond.constantLong _ _ (jJ 1186) ∈ b_Ws from w_7_49) ?_
    refine u_lcmp hX dX13_isRegisterName_12 ⟨by omega, by omega⟩ ⟨by omega, by omega⟩ (fun v3_ b_v3_ c_v3_ => ?_)
    refine u_if_gt hX (tgt := 20) dX13_isRegisterName_13 (by decide) ⟨by omega, by omega⟩ (fun h4_ => ?_) (fun h4_ => ?_)
    ·
      refine v_iconst hX (v := iI 0) dX13_isRegisterName_20 rfl ?_
      exact v_zreturn hX (nar_b (by omega)) hE dX13_isRegisterName_21 (by omega) (by omega) ⟨rfl, rfl, 0, rfl, ⟨by omega, by omega⟩, (by omega)⟩
    ·
      refine v_iconst hX (v := iI 1) dX13_isRegisterName_16 rfl ?_
      refine v_goto hX (tgt := 21) dX13_isRegisterName_17 (by decide) ?_
      exact v_zreturn hX (nar_b (by omega)) hE dX13_isRegisterName_21 (by omega) (by omega) ⟨rfl, rfl, 1, rfl, ⟨by omega, by omega⟩, (by omega)⟩
set_option maxRecDepth 100000 in
set_option maxHeartbeats 4000000 in
theorem k_chainOf {kn : Nat → Nat} {B : Nat} {S : b_M} {z x : Nat} {v : Int} (b_v : -9223372036854775808 ≤ v ∧ v < 9223372036854775808) (p : 0 ≤ v) : b_C kn B yX13_chainOf cX13_chainOf 2 (some .int) 0 0 0 0 [.long (jJ v)] S z (fun r S' z' => z = z' ∧ S = S' ∧ ∃ q : Int, r = some (.int (iI q)) ∧ (-2147483648 ≤ q ∧ q < 2147483648) ∧ (0 ≤ q ∧ q < 1021)) (fun _ _ _ => False) := by
  refine b_enter (by decide) (Nat.le_of_ble_eq_true rfl) ?_
  intro X hX hE hnL hkn hB hI_
  subst hkn; subst hB
  clear hI_
  change b_V X S z 0 0 0 [(0, .long (jJ v))] []
  refine v_lload_n hX dX13_chainOf_0 (i := 0) rfl rfl ?_
  refine v_ldc2 hX (v := jJ 1021) dX13_chainOf_1 (show Cond.constantLong _ _ (jJ 1021) ∈ b_Ws from w_7_97) ?_
  refine u_lrem hX dX13_chainOf_4 ⟨by omega, by omega⟩ (by omega) ⟨by omega, by omega⟩ (by omega) ?_
  refine u_l2i hX dX13_chainOf_5 ?_
  exact v_ireturn hX hE dX13_chainOf_6 (by omega) (by omega) ⟨rfl, rfl, (v % 1021), rfl, ⟨by omega, by omega⟩, (by omega)⟩
set_option maxRecDepth 100000 in
set_option maxHeartbeats 4000000 in
theorem k_now {kn : Nat → Nat} {B : Nat} {S : b_M} {z x : Nat} {at_ : Int} {ls : Int} (h : mS S x) (e_at_ : m_I S 1108 x = iI at_) (b_at_ : -2147483648 ≤ at_ ∧ at_ < 2147483648) (e_ls : m_I S 1107 x = iI ls) (b_ls : -2147483648 ≤ ls ∧ ls < 2147483648) (p : 0 ≤ at_ ∧ ls ≤ 8400) : b_C kn B yX13_now cX13_now 1 (some .int) 0 0 0 0 [.ref x] S z (fun r S' z' => z = z' ∧ S = S' ∧ ∃ v : Int, r = some (.int (iI v)) ∧ (-2147483648 ≤ v ∧ v < 2147483648) ∧ ((at_ < ls ∧ v = rAt S (x + 5) at_) ∨ (ls ≤ at_ ∧ v = -1))) (fun _ _ _ => False) := by
  refine b_enter (by decide) (Nat.le_of_ble_eq_true rfl) ?_
  intro X hX hE hnL hkn hB hI_
  subst hkn; subst hB
  clear hI_
  change b_V X S z 0 0 0 [(0, .ref x)] []
  refine v_aload_n hX dX13_now_0 (i := 0) rfl rfl ?_
  refine v_get hX (ci := 11) (k := 8) (ms_kx h) bc_11 (by decide) (by decide) in_11 w_5_224 dX13_now_1 (mvF (f := 1108) (v := iI at_) rfl rfl (by simp (disch := omega) only [q_I_s_J, q_I_s_P, q_I_s_A, q_I_s_B, q_I_s_C, q_I_n_A, q_I_r_A, q_I_r_B, y_I_s_I, x_I_s_I, y_I_n_O, x_I_n_O, e_at_, e_ls])) ?_
  refine v_aload_n hX dX13_now_4 (i := 0) rfl rfl ?_
  refine v_get hX (ci := 11) (k := 7) (ms_kx h) bc_11 (by decide) (by decide) in_11 w_5_223 dX13_now_5 (mvF (f := 1107) (v := iI ls) rfl rfl (by simp (disch := omega) only [q_I_s_J, q_I_s_P, q_I_s_A, q_I_s_B, q_I_s_C, q_I_n_A, q_I_r_A, q_I_r_B, y_I_s_I, x_I_s_I, y_I_n_O, x_I_n_O, e_at_, e_ls])) ?_
  refine u_icmp_ge hX (tgt := 23) dX13_now_8 (by decide) ⟨by omega, by omega⟩ ⟨by omega, by omega⟩ (fun h1_ => ?_) (fun h1_ => ?_)
  ·
    refine v_iconst hX (v := iI (-1)) dX13_now_23 rfl ?_
    exact v_ireturn hX hE dX13_now_24 (by omega) (by omega) ⟨rfl, rfl, (-1), rfl, ⟨by omega, by omega⟩, (by omega)⟩
  ·
    refine v_aload_n hX dX13_now_11 (i := 0) rfl rfl ?_
    refine v_get hX (ci := 11) (k := 11) (ms_kx h) bc_11 (by decide) (by decide) in_11 w_5_227 dX13_now_12 (mvP (f := 1111) (q := (x + 5)) rfl rfl (ms_p_1111 h)) ?_
    refine v_aload_n hX dX13_now_15 (i := 0) rfl rfl ?_
    refine v_get hX (ci := 11) (k := 8) (ms_kx h) bc_11 (by decide) (by decide) in_11 w_5_224 dX13_now_16 (mvF (f := 1108) (v := iI at_) rfl rfl (by simp (disch := omega) only [q_I_s_J, q_I_s_P, q_I_s_A, q_I_s_B, q_I_s_C, q_I_n_A, q_I_r_A, q_I_r_B, y_I_s_I, x_I_s_I, y_I_n_O, x_I_n_O, e_at_, e_ls])) ?_
    refine u_iald hX (L := 8400) (ms_k_1111 h) (ms_l_1111 h) ⟨by omega, by omega⟩ (by decide) dX13_now_19 (fun v2_ e_v2_ b_v2_ => ?_)
    refine v_goto hX (tgt := 24) dX13_now_20 (by decide) ?_
    exact v_ireturn hX hE dX13_now_24 (by omega) (by omega) ⟨rfl, rfl, v2_, rfl, ⟨by omega, by omega⟩, (by omega)⟩
set_option maxRecDepth 100000 in
set_option maxHeartbeats 4000000 in
theorem k_passBlanks {kn : Nat → Nat} {B : Nat} {S : b_M} {z x : Nat} {at_ : Int} {ls : Int} (h : mS S x) (e_at_ : m_I S 1108 x = iI at_) (b_at_ : -2147483648 ≤ at_ ∧ at_ < 2147483648) (e_ls : m_I S 1107 x = iI ls) (b_ls : -2147483648 ≤ ls ∧ ls < 2147483648) (p : 0 ≤ at_ ∧ ls ≤ 8400) : b_C kn B yX13_passBlanks cX13_passBlanks 1 none 1 20 0 0 [.ref x] S z (fun r S' z' => z = z' ∧ mFr [1108] [] [] S S' x ∧ ∃ a1 : Int, r = none ∧ m_I S' 1108 x = iI a1 ∧ (-2147483648 ≤ a1 ∧ a1 < 2147483648) ∧ (at_ ≤ a1 ∧ (a1 = at_ ∨ a1 ≤ ls)) ∧ (∀ j : Int, at_ ≤ j → j < a1 → rAt S (x + 5) j = 32)) (fun _ _ _ => False) := by
  refine b_enter (by decide) (Nat.le_of_ble_eq_true rfl) ?_
  intro X hX hE hnL hkn hB hI_
  subst hkn; subst hB
  clear hI_
  have L0 : ∀ (n0 : Nat) (S0c : b_M) (a0 : Int), mFr [1108] [] [] S S0c x → m_I S0c 1108 x = iI a0 → (-2147483648 ≤ a0 ∧ a0 < 2147483648) → (at_ ≤ a0 ∧ (a0 = at_ ∨ a0 ≤ ls)) → (∀ j : Int, at_ ≤ j → j < a0 → rAt S (x + 5) j = 32) → (ls - a0).toNat = n0 → b_V X S0c z 0 0 0 [(0, .ref x)] [] := by
    intro n0
    induction n0 using Nat.strongRecOn with
    | _ n0 ih0 =>
    intro S0c a0 fr0 e_a0 b_a0 p0_0 p0_1 hm0
    have h0c : mS S0c x := fr0.keep h
    have hc0_5 : ∀ i, rAt S0c (x + 5) i = rAt S (x + 5) i := fun i => (fr0.1 (x + 5) (by omega) (fun j hj => absurd hj List.not_mem_nil)).rA i
    have e0_ls : m_I S0c 1107 x = iI ls := (fr0.2.2.2.1 1107 (by decide)).trans e_ls
    refine v_aload_n hX dX13_passBlanks_0 (i := 0) rfl rfl ?_
    refine v_callV hX (n := 0) (k_now (S := S0c) (x := x) (at_ := a0) (ls := ls) h0c (by simp (disch := omega) only [q_I_s_J, q_I_s_P, q_I_s_A, q_I_s_B, q_I_s_C, q_I_n_A, q_I_r_A, q_I_r_B, y_I_s_I, x_I_s_I, y_I_n_O, x_I_n_O, e0_ls, e_a0]) ⟨by omega, by omega⟩ (by simp (disch := omega) only [q_I_s_J, q_I_s_P, q_I_s_A, q_I_s_B, q_I_s_C, q_I_n_A, q_I_r_A, q_I_r_B, y_I_s_I, x_I_s_I, y_I_n_O, x_I_n_O, e0_ls, e_a0]) ⟨by omega, by omega⟩ (by omega)) (ms_kx h0c) bc_11 (by decide) w_7_29 w_7_31 (bw_p (q := (yX13_now, 72)) (List.mem_of_getElem? (i := 51) rfl) rfl) w_1_16 w_7_32 (by decide +kernel) rfl ⟨by decide, by decide⟩ ⟨by omega, by omega⟩ (Nat.le_of_ble_eq_true rfl) rfl dX13_passBlanks_1 (fun _ _ _ q => q) ?_
    rintro r1_ S1_ z1_ ⟨rfl, rfl, v2_, rfl, b_v2_, q1_⟩
    try simp (disch := omega) only [rA_I, rA_J, rA_B, rA_A, lA_I, lA_J, lA_A, lA_B, hc0_5] at q1_
    refine v_bipush hX (v := iI 32) dX13_passBlanks_4 (by decide) ?_
    refine u_icmp_ne hX (tgt := 22) dX13_passBlanks_6 (by decide) ⟨by omega, by omega⟩ ⟨by omega, by omega⟩ (fun h3_ => ?_) (fun h3_ => ?_)
    ·
      exact v_return hX hE dX13_passBlanks_22 (by omega) (by omega) ⟨rfl, fr0, a0, rfl, (by simp (disch := omega) only [q_I_s_J, q_I_s_P, q_I_s_A, q_I_s_B, q_I_s_C, q_I_n_A, q_I_r_A, q_I_r_B, y_I_s_I, x_I_s_I, y_I_n_O, x_I_n_O, e0_ls, e_a0]), ⟨by omega, by omega⟩, (by omega), p0_1⟩
    ·
      refine v_aload_n hX dX13_passBlanks_9 (i := 0) rfl rfl ?_
      refine v_dup hX dX13_passBlanks_10 rfl ?_
      refine v_get hX (ci := 11) (k := 8) (ms_kx h0c) bc_11 (by decide) (by decide) in_11 w_5_224 dX13_passBlanks_11 (mvF (f := 1108) (v := iI a0) rfl rfl (by simp (disch := omega) only [q_I_s_J, q_I_s_P, q_I_s_A, q_I_s_B, q_I_s_C, q_I_n_A, q_I_r_A, q_I_r_B, y_I_s_I, x_I_s_I, y_I_n_O, x_I_n_O, e0_ls, e_a0])) ?_
      refine v_iconst hX (v := iI 1) dX13_passBlanks_14 rfl ?_
      refine u_iadd hX dX13_passBlanks_15 ?_
      refine v_putI hX (ci := 11) (k := 8) (f := 1108) (ms_kx h0c) bc_11 (by decide) (by decide) in_11 tyX13_ok nmX13 w_5_224 (Or.inl rfl) rfl rfl dX13_passBlanks_16 rfl rfl ?_
      refine v_goto hX (tgt := 0) dX13_passBlanks_19 (by decide) ?_
      exact ih0 _ (by omega) _ (a0 + 1) (fr0.sI (by decide)) (by simp (disch := omega) only [q_I_s_J, q_I_s_P, q_I_s_A, q_I_s_B, q_I_s_C, q_I_n_A, q_I_r_A, q_I_r_B, y_I_s_I, x_I_s_I, y_I_n_O, x_I_n_O, e0_ls, e_a0]) ⟨by omega, by omega⟩ (by omega) (fun j g1 g2 => by rcases (show j < a0 ∨ j = a0 by omega) with g | g; exact p0_1 j g1 g; rw [g]; omega) rfl
  change b_V X S z 0 0 0 [(0, .ref x)] []
  exact L0 _ _ at_ (mFr.rf _ _) (by simp (disch := omega) only [q_I_s_J, q_I_s_P, q_I_s_A, q_I_s_B, q_I_s_C, q_I_n_A, q_I_r_A, q_I_r_B, y_I_s_I, x_I_s_I, y_I_n_O, x_I_n_O, e_at_, e_ls]) ⟨by omega, by omega⟩ (by omega) (fun j g1 g2 => absurd g2 (by omega)) rfl
set_option maxRecDepth 100000 in
set_option maxHeartbeats 4000000 in
theorem k_takeName {kn : Nat → Nat} {B : Nat} {S : b_M} {z x : Nat} {at_ : Int} {ls : Int} {bd : Int} (h : mS S x) (e_at_ : m_I S 1108 x = iI at_) (b_at_ : -2147483648 ≤ at_ ∧ at_ < 2147483648) (e_ls : m_I S 1107 x = iI ls) (b_ls : -2147483648 ≤ ls ∧ ls < 2147483648) (e_bd : m_I S 1110 x = iI bd) (b_bd : -2147483648 ≤ bd ∧ bd < 2147483648) (p : 0 ≤ at_ ∧ ls ≤ 8400 ∧ (bd = 0 ∨ bd = 1)) : b_C kn B yX13_takeName cX13_takeName 4 (some .long) 4 82 0 0 [.ref x] S z (fun r S' z' => z = z' ∧ mFr [1108, 1110] [] [] S S' x ∧ ∃ w1 a1 b1 : Int, r = some (.long (jJ w1)) ∧ (-9223372036854775808 ≤ w1 ∧ w1 < 9223372036854775808) ∧ m_I S' 1108 x = iI a1 ∧ (-2147483648 ≤ a1 ∧ a1 < 2147483648) ∧ m_I S' 1110 x = iI b1 ∧ (-2147483648 ≤ b1 ∧ b1 < 2147483648) ∧ (0 ≤ w1 ∧ w1 < 1152921504606846976 ∧ at_ ≤ a1 ∧ (a1 = at_ ∨ a1 ≤ ls) ∧ (b1 = 0 ∨ b1 = 1) ∧ (b1 = 0 → bd = 0) ∧ (b1 = 0 → at_ < a1 ∧ a1 ≤ at_ + 10))) (fun _ _ _ => False) := by
  refine b_enter (by decide) (Nat.le_of_ble_eq_true rfl) ?_
  intro X hX hE hnL hkn hB hI_
  subst hkn; subst hB
  clear hI_
  have L78 : ∀ (S78c : b_M) (a0 : Int) (n : Int) (w : Int) (bb : Int), mFr [1108, 1110] [] [] S S78c x → m_I S78c 1108 x = iI a0 → (-2147483648 ≤ a0 ∧ a0 < 2147483648) → (at_ ≤ a0 ∧ (a0 = at_ ∨ a0 ≤ ls) ∧ n = a0 - at_ ∧ 0 ≤ w ∧ w < 1152921504606846976) → ((bb = 0 ∨ bb = 1) ∧ (bb = 0 → bd = 0 ∧ 0 < n ∧ n ≤ 10)) → b_V X S78c z 0 0 78 [(3, .int (iI n)), (1, .long (jJ w)), (0, .ref x)] [.int (iI bb), .ref x] := by
    intro S78c a0 n w bb fr78 e_a0 b_a0 p78_0 p78_1
    have h78c : mS S78c x := fr78.keep h
    have hc78_5 : ∀ i, rAt S78c (x + 5) i = rAt S (x + 5) i := fun i => (fr78.1 (x + 5) (by omega) (fun j hj => absurd hj List.not_mem_nil)).rA i
    have e78_ls : m_I S78c 1107 x = iI ls := (fr78.2.2.2.1 1107 (by decide)).trans e_ls
    refine v_putI hX (ci := 11) (k := 10) (f := 1110) (ms_kx h78c) bc_11 (by decide) (by decide) in_11 tyX13_ok nmX13 w_5_226 (Or.inl rfl) (nar_b (by omega)) (fit_b (by omega)) dX13_takeName_78 rfl rfl ?_
    refine v_lload_n hX dX13_takeName_81 (i := 1) rfl rfl ?_
    exact v_lreturn hX hE dX13_takeName_82 (by omega) (by omega) ⟨rfl, (fr78.sI (by decide)), w, a0, bb, rfl, ⟨by omega, by omega⟩, (by simp (disch := omega) only [q_I_s_J, q_I_s_P, q_I_s_A, q_I_s_B, q_I_s_C, q_I_n_A, q_I_r_A, q_I_r_B, y_I_s_I, x_I_s_I, y_I_n_O, x_I_n_O, e78_ls, e_a0]), ⟨by omega, by omega⟩, (by simp (disch := omega) only [q_I_s_J, q_I_s_P, q_I_s_A, q_I_s_B, q_I_s_C, q_I_n_A, q_I_r_A, q_I_r_B, y_I_s_I, x_I_s_I, y_I_n_O, x_I_n_O, e78_ls, e_a0]), ⟨by omega, by omega⟩, (by omega)⟩
  have L4 : ∀ (n4 : Nat) (S4c : b_M) (a0 : Int) (b0 : Int) (n : Int) (w : Int), mFr [1108, 1110] [] [] S S4c x → m_I S4c 1108 x = iI a0 → m_I S4c 1110 x = iI b0 → (-2147483648 ≤ a0 ∧ a0 < 2147483648) → (-2147483648 ≤ b0 ∧ b0 < 2147483648) → (at_ ≤ a0 ∧ (a0 = at_ ∨ a0 ≤ ls) ∧ n = a0 - at_ ∧ b0 = bd ∧ n < 2147483648) → (wb n w) → (ls - a0).toNat = n4 → b_V X S4c z 0 0 4 [(3, .int (iI n)), (1, .long (jJ w)), (0, .ref x)] [] := by
    intro n4
    induction n4 using Nat.strongRecOn with
    | _ n4 ih4 =>
    intro S4c a0 b0 n w fr4 e_a0 e_b0 b_a0 b_b0 p4_0 p4_1 hm4
    have h4c : mS S4c x := fr4.keep h
    have hc4_5 : ∀ i, rAt S4c (x + 5) i = rAt S (x + 5) i := fun i => (fr4.1 (x + 5) (by omega) (fun j hj => absurd hj List.not_mem_nil)).rA i
    have e4_ls : m_I S4c 1107 x = iI ls := (fr4.2.2.2.1 1107 (by decide)).trans e_ls
    refine v_aload_n hX dX13_takeName_4 (i := 0) rfl rfl ?_
    refine v_callV hX (n := 0) (k_now (S := S4c) (x := x) (at_ := a0) (ls := ls) h4c (by simp (disch := omega) only [q_I_s_J, q_I_s_P, q_I_s_A, q_I_s_B, q_I_s_C, q_I_n_A, q_I_r_A, q_I_r_B, y_I_s_I, x_I_s_I, y_I_n_O, x_I_n_O, e4_ls, e_a0, e_b0]) ⟨by omega, by omega⟩ (by simp (disch := omega) only [q_I_s_J, q_I_s_P, q_I_s_A, q_I_s_B, q_I_s_C, q_I_n_A, q_I_r_A, q_I_r_B, y_I_s_I, x_I_s_I, y_I_n_O, x_I_n_O, e4_ls, e_a0, e_b0]) ⟨by omega, by omega⟩ (by omega)) (ms_kx h4c) bc_11 (by decide) w_7_29 w_7_31 (bw_p (q := (yX13_now, 72)) (List.mem_of_getElem? (i := 51) rfl) rfl) w_1_16 w_7_32 (by decide +kernel) rfl ⟨by decide, by decide⟩ ⟨by omega, by omega⟩ (Nat.le_of_ble_eq_true rfl) rfl dX13_takeName_5 (fun _ _ _ q => q) ?_
    rintro r1_ S1_ z1_ ⟨rfl, rfl, v2_, rfl, b_v2_, q1_⟩
    try simp (disch := omega) only [rA_I, rA_J, rA_B, rA_A, lA_I, lA_J, lA_A, lA_B, hc4_5] at q1_
    refine v_callS hX (n := 1) (k_isPart (S := S4c) (x := 0) (c := v2_) ⟨by omega, by omega⟩) w_6_233 w_6_234 w_1_16 w_6_235 (by decide +kernel) rfl ⟨by decide, by decide⟩ ⟨by omega, by omega⟩ (Nat.le_of_ble_eq_true rfl) rfl dX13_takeName_8 (fun _ _ _ q => q) ?_
    rintro r3_ S3_ z3_ ⟨rfl, rfl, v4_, rfl, b_v4_, q3_⟩
    refine u_if_eq hX (tgt := 55) dX13_takeName_11 (by decide) ⟨by omega, by omega⟩ (fun h5_ => ?_) (fun h5_ => ?_)
    ·
      have wl_ := wb_lt p4_1
      refine v_aload_n hX dX13_takeName_55 (i := 0) rfl rfl ?_
      refine v_aload_n hX dX13_takeName_56 (i := 0) rfl rfl ?_
      refine v_get hX (ci := 11) (k := 10) (ms_kx h4c) bc_11 (by decide) (by decide) in_11 w_5_226 dX13_takeName_57 (mvF (f := 1110) (v := iI b0) rfl rfl (by simp (disch := omega) only [q_I_s_J, q_I_s_P, q_I_s_A, q_I_s_B, q_I_s_C, q_I_n_A, q_I_r_A, q_I_r_B, y_I_s_I, x_I_s_I, y_I_n_O, x_I_n_O, e4_ls, e_a0, e_b0])) ?_
      refine u_if_ne hX (tgt := 73) dX13_takeName_60 (by decide) ⟨by omega, by omega⟩ (fun h6_ => ?_) (fun h6_ => ?_)
      ·
        refine v_iconst hX (v := iI 1) dX13_takeName_73 rfl ?_
        refine v_goto hX (tgt := 78) dX13_takeName_74 (by decide) ?_
        exact L78 _ a0 n w 1 fr4 (by simp (disch := omega) only [q_I_s_J, q_I_s_P, q_I_s_A, q_I_s_B, q_I_s_C, q_I_n_A, q_I_r_A, q_I_r_B, y_I_s_I, x_I_s_I, y_I_n_O, x_I_n_O, e4_ls, e_a0, e_b0]) ⟨by omega, by omega⟩ (by omega) (by omega)
      ·
        refine v_iload_n hX dX13_takeName_63 (i := 3) rfl rfl ?_
        refine v_bipush hX (v := iI 10) dX13_takeName_64 (by decide) ?_
        refine u_icmp_gt hX (tgt := 73) dX13_takeName_66 (by decide) ⟨by omega, by omega⟩ ⟨by omega, by omega⟩ (fun h7_ => ?_) (fun h7_ => ?_)
        ·
          refine v_iconst hX (v := iI 1) dX13_takeName_73 rfl ?_
          refine v_goto hX (tgt := 78) dX13_takeName_74 (by decide) ?_
          exact L78 _ a0 n w 1 fr4 (by simp (disch := omega) only [q_I_s_J, q_I_s_P, q_I_s_A, q_I_s_B, q_I_s_C, q_I_n_A, q_I_r_A, q_I_r_B, y_I_s_I, x_I_s_I, y_I_n_O, x_I_n_O, e4_ls, e_a0, e_b0]) ⟨by omega, by omega⟩ (by omega) (by omega)
        ·
          refine v_iload_n hX dX13_takeName_69 (i := 3) rfl rfl ?_
          refine u_if_ne hX (tgt := 77) dX13_takeName_70 (by decide) ⟨by omega, by omega⟩ (fun h8_ => ?_) (fun h8_ => ?_)
          ·
            refine v_iconst hX (v := iI 0) dX13_takeName_77 rfl ?_
            exact L78 _ a0 n w 0 fr4 (by simp (disch := omega) only [q_I_s_J, q_I_s_P, q_I_s_A, q_I_s_B, q_I_s_C, q_I_n_A, q_I_r_A, q_I_r_B, y_I_s_I, x_I_s_I, y_I_n_O, x_I_n_O, e4_ls, e_a0, e_b0]) ⟨by omega, by omega⟩ (by omega) (by omega)
          ·
            refine v_iconst hX (v := iI 1) dX13_takeName_73 rfl ?_
            refine v_goto hX (tgt := 78) dX13_takeName_74 (by decide) ?_
            exact L78 _ a0 n w 1 fr4 (by simp (disch := omega) only [q_I_s_J, q_I_s_P, q_I_s_A, q_I_s_B, q_I_s_C, q_I_n_A, q_I_r_A, q_I_r_B, y_I_s_I, x_I_s_I, y_I_n_O, x_I_n_O, e4_ls, e_a0, e_b0]) ⟨by omega, by omega⟩ (by omega) (by omega)
    ·
      refine v_iload_n hX dX13_takeName_14 (i := 3) rfl rfl ?_
      refine v_bipush hX (v := iI 10) dX13_takeName_15 (by decide) ?_
      refine u_icmp_ge hX (tgt := 37) dX13_takeName_17 (by decide) ⟨by omega, by omega⟩ ⟨by omega, by omega⟩ (fun h9_ => ?_) (fun h9_ => ?_)
      ·
        refine v_lload_n hX dX13_takeName_37 (i := 1) rfl rfl ?_
        refine v_lstore_n hX (lv' := [(1, .long (jJ w)), (3, .int (iI n)), (0, .ref x)]) dX13_takeName_38 (i := 1) rfl (by rw [hnL]; decide) rfl ?_
        refine v_iinc hX (v := iI (n + 1)) (lv' := [(3, .int (iI (n + 1))), (1, .long (jJ w)), (0, .ref x)]) dX13_takeName_39 rfl (iI_add _ _) (by rw [hnL]; decide) rfl ?_
        refine v_aload_n hX dX13_takeName_42 (i := 0) rfl rfl ?_
        refine v_dup hX dX13_takeName_43 rfl ?_
        refine v_get hX (ci := 11) (k := 8) (ms_kx h4c) bc_11 (by decide) (by decide) in_11 w_5_224 dX13_takeName_44 (mvF (f := 1108) (v := iI a0) rfl rfl (by simp (disch := omega) only [q_I_s_J, q_I_s_P, q_I_s_A, q_I_s_B, q_I_s_C, q_I_n_A, q_I_r_A, q_I_r_B, y_I_s_I, x_I_s_I, y_I_n_O, x_I_n_O, e4_ls, e_a0, e_b0])) ?_
        refine v_iconst hX (v := iI 1) dX13_takeName_47 rfl ?_
        refine u_iadd hX dX13_takeName_48 ?_
        refine v_putI hX (ci := 11) (k := 8) (f := 1108) (ms_kx h4c) bc_11 (by decide) (by decide) in_11 tyX13_ok nmX13 w_5_224 (Or.inl rfl) rfl rfl dX13_takeName_49 rfl rfl ?_
        refine v_goto hX (tgt := 4) dX13_takeName_52 (by decide) ?_
        exact ih4 _ (by omega) _ (a0 + 1) b0 (n + 1) w (fr4.sI (by decide)) (by simp (disch := omega) only [q_I_s_J, q_I_s_P, q_I_s_A, q_I_s_B, q_I_s_C, q_I_n_A, q_I_r_A, q_I_r_B, y_I_s_I, x_I_s_I, y_I_n_O, x_I_n_O, e4_ls, e_a0, e_b0]) (by simp (disch := omega) only [q_I_s_J, q_I_s_P, q_I_s_A, q_I_s_B, q_I_s_C, q_I_n_A, q_I_r_A, q_I_r_B, y_I_s_I, x_I_s_I, y_I_n_O, x_I_n_O, e4_ls, e_a0, e_b0]) ⟨by omega, by omega⟩ ⟨by omega, by omega⟩ (by omega) (wb_more p4_1 (by omega)) rfl
      ·
        refine v_ldc2 hX (v := jJ 64) dX13_takeName_20 (show Cond.constantLong _ _ (jJ 64) ∈ b_Ws from w_7_41) ?_
        refine v_lload_n hX dX13_takeName_23 (i := 1) rfl rfl ?_
        refine u_lmul hX dX13_takeName_24 ?_
        refine v_aload_n hX dX13_takeName_25 (i := 0) rfl rfl ?_
        refine v_callV hX (n := 0) (k_now (S := S4c) (x := x) (at_ := a0) (ls := ls) h4c (by simp (disch := omega) only [q_I_s_J, q_I_s_P, q_I_s_A, q_I_s_B, q_I_s_C, q_I_n_A, q_I_r_A, q_I_r_B, y_I_s_I, x_I_s_I, y_I_n_O, x_I_n_O, e4_ls, e_a0, e_b0]) ⟨by omega, by omega⟩ (by simp (disch := omega) only [q_I_s_J, q_I_s_P, q_I_s_A, q_I_s_B, q_I_s_C, q_I_n_A, q_I_r_A, q_I_r_B, y_I_s_I, x_I_s_I, y_I_n_O, x_I_n_O, e4_ls, e_a0, e_b0]) ⟨by omega, by omega⟩ (by omega)) (ms_kx h4c) bc_11 (by decide) w_7_29 w_7_31 (bw_p (q := (yX13_now, 72)) (List.mem_of_getElem? (i := 51) rfl) rfl) w_1_16 w_7_32 (by decide +kernel) rfl ⟨by decide, by decide⟩ ⟨by omega, by omega⟩ (Nat.le_of_ble_eq_true rfl) rfl dX13_takeName_26 (fun _ _ _ q => q) ?_
        rintro r10_ S10_ z10_ ⟨rfl, rfl, v11_, rfl, b_v11_, q10_⟩
        try simp (disch := omega) only [rA_I, rA_J, rA_B, rA_A, lA_I, lA_J, lA_A, lA_B, hc4_5] at q10_
        refine v_callS hX (n := 1) (k_codeOf (S := S4c) (x := 0) (c := v11_) ⟨by omega, by omega⟩ (by omega)) w_7_42 w_7_43 w_1_16 w_7_44 (by decide +kernel) rfl ⟨by decide, by decide⟩ ⟨by omega, by omega⟩ (Nat.le_of_ble_eq_true rfl) rfl dX13_takeName_29 (fun _ _ _ q => q) ?_
        rintro r12_ S12_ z12_ ⟨rfl, rfl, v13_, rfl, b_v13_, q12_⟩
        refine u_i2l hX dX13_takeName_32 ⟨by omega, by omega⟩ ?_
        refine u_ladd hX dX13_takeName_33 ?_
        refine v_goto hX (tgt := 38) dX13_takeName_34 (by decide) ?_
        refine v_lstore_n hX (lv' := [(1, .long (jJ ((64 * w) + v13_))), (3, .int (iI n)), (0, .ref x)]) dX13_takeName_38 (i := 1) rfl (by rw [hnL]; decide) rfl ?_
        refine v_iinc hX (v := iI (n + 1)) (lv' := [(3, .int (iI (n + 1))), (1, .long (jJ ((64 * w) + v13_))), (0, .ref x)]) dX13_takeName_39 rfl (iI_add _ _) (by rw [hnL]; decide) rfl ?_
        refine v_aload_n hX dX13_takeName_42 (i := 0) rfl rfl ?_
        refine v_dup hX dX13_takeName_43 rfl ?_
        refine v_get hX (ci := 11) (k := 8) (ms_kx h4c) bc_11 (by decide) (by decide) in_11 w_5_224 dX13_takeName_44 (mvF (f := 1108) (v := iI a0) rfl rfl (by simp (disch := omega) only [q_I_s_J, q_I_s_P, q_I_s_A, q_I_s_B, q_I_s_C, q_I_n_A, q_I_r_A, q_I_r_B, y_I_s_I, x_I_s_I, y_I_n_O, x_I_n_O, e4_ls, e_a0, e_b0])) ?_
        refine v_iconst hX (v := iI 1) dX13_takeName_47 rfl ?_
        refine u_iadd hX dX13_takeName_48 ?_
        refine v_putI hX (ci := 11) (k := 8) (f := 1108) (ms_kx h4c) bc_11 (by decide) (by decide) in_11 tyX13_ok nmX13 w_5_224 (Or.inl rfl) rfl rfl dX13_takeName_49 rfl rfl ?_
        refine v_goto hX (tgt := 4) dX13_takeName_52 (by decide) ?_
        exact ih4 _ (by omega) _ (a0 + 1) b0 (n + 1) ((64 * w) + v13_) (fr4.sI (by decide)) (by simp (disch := omega) only [q_I_s_J, q_I_s_P, q_I_s_A, q_I_s_B, q_I_s_C, q_I_n_A, q_I_r_A, q_I_r_B, y_I_s_I, x_I_s_I, y_I_n_O, x_I_n_O, e4_ls, e_a0, e_b0]) (by simp (disch := omega) only [q_I_s_J, q_I_s_P, q_I_s_A, q_I_s_B, q_I_s_C, q_I_n_A, q_I_r_A, q_I_r_B, y_I_s_I, x_I_s_I, y_I_n_O, x_I_n_O, e4_ls, e_a0, e_b0]) ⟨by omega, by omega⟩ ⟨by omega, by omega⟩ (by omega) (wb_step p4_1 (by omega) (by omega)) rfl
  change b_V X S z 0 0 0 [(0, .ref x)] []
  refine v_lconst hX (v := jJ 0) dX13_takeName_0 rfl ?_
  refine v_lstore_n hX (lv' := [(1, .long (jJ 0)), (0, .ref x)]) dX13_takeName_1 (i := 1) rfl (by rw [hnL]; decide) rfl ?_
  refine v_iconst hX (v := iI 0) dX13_takeName_2 rfl ?_
  refine v_istore_n hX (lv' := [(3, .int (iI 0)), (1, .long (jJ 0)), (0, .ref x)]) dX13_takeName_3 (i := 3) rfl (by rw [hnL]; decide) rfl ?_
  exact L4 _ _ at_ bd 0 0 (mFr.rf _ _) (by simp (disch := omega) only [q_I_s_J, q_I_s_P, q_I_s_A, q_I_s_B, q_I_s_C, q_I_n_A, q_I_r_A, q_I_r_B, y_I_s_I, x_I_s_I, y_I_n_O, x_I_n_O, e_at_, e_ls, e_bd]) (by simp (disch := omega) only [q_I_s_J, q_I_s_P, q_I_s_A, q_I_s_B, q_I_s_C, q_I_n_A, q_I_r_A, q_I_r_B, y_I_s_I, x_I_s_I, y_I_n_O, x_I_n_O, e_at_, e_ls, e_bd]) ⟨by omega, by omega⟩ ⟨by omega, by omega⟩ (by omega) wb_0 rfl
set_option maxRecDepth 100000 in
set_option maxHeartbeats 4000000 in
theorem k_findMacro {kn : Nat → Nat} {B : Nat} {S : b_M} {z x : Nat} {v : Int} {mc_ : Int} (h : mS S x) (e_mc_ : m_I S 1112 x = iI mc_) (b_mc_ : -2147483648 ≤ mc_ ∧ mc_ < 2147483648) (b_v : -9223372036854775808 ≤ v ∧ v < 9223372036854775808) (p : 0 ≤ mc_ ∧ mc_ ≤ 12) : b_C kn B yX13_findMacro cX13_findMacro 4 (some .int) 0 0 0 0 [.ref x, .long (jJ v)] S z (fun r S' z' => z = z' ∧ S = S' ∧ ∃ q : Int, r = some (.int (iI q)) ∧ (-2147483648 ≤ q ∧ q < 2147483648) ∧ (-1 ≤ q ∧ q < mc_)) (fun _ _ _ => False) := by
  refine b_enter (by decide) (Nat.le_of_ble_eq_true rfl) ?_
  intro X hX hE hnL hkn hB hI_
  subst hkn; subst hB
  clear hI_
  have L2 : ∀ (n2 : Nat) (i : Int), (0 ≤ i ∧ i ≤ mc_) → (mc_ - i).toNat = n2 → b_V X S z 0 0 2 [(3, .int (iI i)), (0, .ref x), (1, .long (jJ v))] [] := by
    intro n2
    induction n2 using Nat.strongRecOn with
    | _ n2 ih2 =>
    intro i p2_0 hm2
    refine v_iload_n hX dX13_findMacro_2 (i := 3) rfl rfl ?_
    refine v_aload_n hX dX13_findMacro_3 (i := 0) rfl rfl ?_
    refine v_get hX (ci := 11) (k := 12) (ms_kx h) bc_11 (by decide) (by decide) in_11 w_5_228 dX13_findMacro_4 (mvF (f := 1112) (v := iI mc_) rfl rfl (by simp (disch := omega) only [q_I_s_J, q_I_s_P, q_I_s_A, q_I_s_B, q_I_s_C, q_I_n_A, q_I_r_A, q_I_r_B, y_I_s_I, x_I_s_I, y_I_n_O, x_I_n_O, e_mc_])) ?_
    refine u_icmp_ge hX (tgt := 29) dX13_findMacro_7 (by decide) ⟨by omega, by omega⟩ ⟨by omega, by omega⟩ (fun h1_ => ?_) (fun h1_ => ?_)
    ·
      refine v_iconst hX (v := iI (-1)) dX13_findMacro_29 rfl ?_
      exact v_ireturn hX hE dX13_findMacro_30 (by omega) (by omega) ⟨rfl, rfl, (-1), rfl, ⟨by omega, by omega⟩, (by omega)⟩
    ·
      refine v_aload_n hX dX13_findMacro_10 (i := 0) rfl rfl ?_
      refine v_get hX (ci := 11) (k := 15) (ms_kx h) bc_11 (by decide) (by decide) in_11 w_5_231 dX13_findMacro_11 (mvP (f := 1115) (q := (x + 6)) rfl rfl (ms_p_1115 h)) ?_
      refine v_iload_n hX dX13_findMacro_14 (i := 3) rfl rfl ?_
      refine u_lald hX (L := 12) (ms_k_1115 h) (ms_l_1115 h) ⟨by omega, by omega⟩ (by decide) dX13_findMacro_15 (fun v2_ e_v2_ b_v2_ => ?_)
      refine v_lload_n hX dX13_findMacro_16 (i := 1) rfl rfl ?_
      refine u_lcmp hX dX13_findMacro_17 ⟨by omega, by omega⟩ ⟨by omega, by omega⟩ (fun v3_ b_v3_ c_v3_ => ?_)
      refine u_if_ne hX (tgt := 23) dX13_findMacro_18 (by decide) ⟨by omega, by omega⟩ (fun h4_ => ?_) (fun h4_ => ?_)
      ·
        refine v_iinc hX (v := iI (i + 1)) (lv' := [(3, .int (iI (i + 1))), (0, .ref x), (1, .long (jJ v))]) dX13_findMacro_23 rfl (iI_add _ _) (by rw [hnL]; decide) rfl ?_
        refine v_goto hX (tgt := 2) dX13_findMacro_26 (by decide) ?_
        exact ih2 _ (by omega) (i + 1) (by omega) rfl
      ·
        refine v_iload_n hX dX13_findMacro_21 (i := 3) rfl rfl ?_
        exact v_ireturn hX hE dX13_findMacro_22 (by omega) (by omega) ⟨rfl, rfl, i, rfl, ⟨by omega, by omega⟩, (by omega)⟩
  change b_V X S z 0 0 0 [(0, .ref x), (1, .long (jJ v))] []
  refine v_iconst hX (v := iI 0) dX13_findMacro_0 rfl ?_
  refine v_istore_n hX (lv' := [(3, .int (iI 0)), (0, .ref x), (1, .long (jJ v))]) dX13_findMacro_1 (i := 3) rfl (by rw [hnL]; decide) rfl ?_
  exact L2 _ 0 (by omega) rfl
set_option maxRecDepth 100000 in
set_option maxHeartbeats 4000000 in
theorem k_findLabel {kn : Nat → Nat} {B : Nat} {S : b_M} {z x : Nat} {v : Int} {st_ : Int} (h : mS S x) (e_st_ : m_I S 1128 x = iI st_) (b_st_ : -2147483648 ≤ st_ ∧ st_ < 2147483648) (b_v : -9223372036854775808 ≤ v ∧ v < 9223372036854775808) (p : 0 ≤ st_ ∧ st_ ≤ 400) : b_C kn B yX13_findLabel cX13_findLabel 4 (some .int) 0 0 0 0 [.ref x, .long (jJ v)] S z (fun r S' z' => z = z' ∧ S = S' ∧ ∃ q : Int, r = some (.int (iI q)) ∧ (-2147483648 ≤ q ∧ q < 2147483648) ∧ (-1 ≤ q ∧ q < st_)) (fun _ _ _ => False) := by
  refine b_enter (by decide) (Nat.le_of_ble_eq_true rfl) ?_
  intro X hX hE hnL hkn hB hI_
  subst hkn; subst hB
  clear hI_
  have L2 : ∀ (n2 : Nat) (i : Int), (0 ≤ i ∧ i ≤ st_) → (st_ - i).toNat = n2 → b_V X S z 0 0 2 [(3, .int (iI i)), (0, .ref x), (1, .long (jJ v))] [] := by
    intro n2
    induction n2 using Nat.strongRecOn with
    | _ n2 ih2 =>
    intro i p2_0 hm2
    refine v_iload_n hX dX13_findLabel_2 (i := 3) rfl rfl ?_
    refine v_aload_n hX dX13_findLabel_3 (i := 0) rfl rfl ?_
    refine v_get hX (ci := 11) (k := 28) (ms_kx h) bc_11 (by decide) (by decide) in_11 w_6_4 dX13_findLabel_4 (mvF (f := 1128) (v := iI st_) rfl rfl (by simp (disch := omega) only [q_I_s_J, q_I_s_P, q_I_s_A, q_I_s_B, q_I_s_C, q_I_n_A, q_I_r_A, q_I_r_B, y_I_s_I, x_I_s_I, y_I_n_O, x_I_n_O, e_st_])) ?_
    refine u_icmp_ge hX (tgt := 29) dX13_findLabel_7 (by decide) ⟨by omega, by omega⟩ ⟨by omega, by omega⟩ (fun h1_ => ?_) (fun h1_ => ?_)
    ·
      refine v_iconst hX (v := iI (-1)) dX13_findLabel_29 rfl ?_
      exact v_ireturn hX hE dX13_findLabel_30 (by omega) (by omega) ⟨rfl, rfl, (-1), rfl, ⟨by omega, by omega⟩, (by omega)⟩
    ·
      refine v_aload_n hX dX13_findLabel_10 (i := 0) rfl rfl ?_
      refine v_get hX (ci := 11) (k := 36) (ms_kx h) bc_11 (by decide) (by decide) in_11 w_6_12 dX13_findLabel_11 (mvP (f := 1136) (q := (x + 24)) rfl rfl (ms_p_1136 h)) ?_
      refine v_iload_n hX dX13_findLabel_14 (i := 3) rfl rfl ?_
      refine u_lald hX (L := 400) (ms_k_1136 h) (ms_l_1136 h) ⟨by omega, by omega⟩ (by decide) dX13_findLabel_15 (fun v2_ e_v2_ b_v2_ => ?_)
      refine v_lload_n hX dX13_findLabel_16 (i := 1) rfl rfl ?_
      refine u_lcmp hX dX13_findLabel_17 ⟨by omega, by omega⟩ ⟨by omega, by omega⟩ (fun v3_ b_v3_ c_v3_ => ?_)
      refine u_if_ne hX (tgt := 23) dX13_findLabel_18 (by decide) ⟨by omega, by omega⟩ (fun h4_ => ?_) (fun h4_ => ?_)
      ·
        refine v_iinc hX (v := iI (i + 1)) (lv' := [(3, .int (iI (i + 1))), (0, .ref x), (1, .long (jJ v))]) dX13_findLabel_23 rfl (iI_add _ _) (by rw [hnL]; decide) rfl ?_
        refine v_goto hX (tgt := 2) dX13_findLabel_26 (by decide) ?_
        exact ih2 _ (by omega) (i + 1) (by omega) rfl
      ·
        refine v_iload_n hX dX13_findLabel_21 (i := 3) rfl rfl ?_
        exact v_ireturn hX hE dX13_findLabel_22 (by omega) (by omega) ⟨rfl, rfl, i, rfl, ⟨by omega, by omega⟩, (by omega)⟩
  change b_V X S z 0 0 0 [(0, .ref x), (1, .long (jJ v))] []
  refine v_iconst hX (v := iI 0) dX13_findLabel_0 rfl ?_
  refine v_istore_n hX (lv' := [(3, .int (iI 0)), (0, .ref x), (1, .long (jJ v))]) dX13_findLabel_1 (i := 3) rfl (by rw [hnL]; decide) rfl ?_
  exact L2 _ 0 (by omega) rfl
set_option maxRecDepth 100000 in
set_option maxHeartbeats 4000000 in
theorem k_wants {kn : Nat → Nat} {B : Nat} {S : b_M} {z x : Nat} {c : Int} {at_ : Int} {ls : Int} {bd : Int} (h : mS S x) (e_at_ : m_I S 1108 x = iI at_) (b_at_ : -2147483648 ≤ at_ ∧ at_ < 2147483648) (e_ls : m_I S 1107 x = iI ls) (b_ls : -2147483648 ≤ ls ∧ ls < 2147483648) (e_bd : m_I S 1110 x = iI bd) (b_bd : -2147483648 ≤ bd ∧ bd < 2147483648) (b_c : -2147483648 ≤ c ∧ c < 2147483648) (p : 0 ≤ at_ ∧ ls ≤ 8400 ∧ (bd = 0 ∨ bd = 1) ∧ 0 ≤ c) : b_C kn B yX13_wants cX13_wants 2 none 2 40 0 0 [.ref x, .int (iI c)] S z (fun r S' z' => z = z' ∧ mFr [1108, 1110] [] [] S S' x ∧ ∃ a1 b1 : Int, r = none ∧ m_I S' 1108 x = iI a1 ∧ (-2147483648 ≤ a1 ∧ a1 < 2147483648) ∧ m_I S' 1110 x = iI b1 ∧ (-2147483648 ≤ b1 ∧ b1 < 2147483648) ∧ (at_ ≤ a1 ∧ (a1 = at_ ∨ a1 ≤ ls) ∧ (b1 = 0 ∨ b1 = 1) ∧ (b1 = 0 → bd = 0))) (fun _ _ _ => False) := by
  refine b_enter (by decide) (Nat.le_of_ble_eq_true rfl) ?_
  intro X hX hE hnL hkn hB hI_
  subst hkn; subst hB
  clear hI_
  change b_V X S z 0 0 0 [(0, .ref x), (1, .int (iI c))] []
  refine v_aload_n hX dX13_wants_0 (i := 0) rfl rfl ?_
  refine v_callV hX (n := 0) (k_passBlanks (S := S) (x := x) (at_ := at_) (ls := ls) h (by simp (disch := omega) only [q_I_s_J, q_I_s_P, q_I_s_A, q_I_s_B, q_I_s_C, q_I_n_A, q_I_r_A, q_I_r_B, y_I_s_I, x_I_s_I, y_I_n_O, x_I_n_O, e_at_, e_ls, e_bd]) ⟨by omega, by omega⟩ (by simp (disch := omega) only [q_I_s_J, q_I_s_P, q_I_s_A, q_I_s_B, q_I_s_C, q_I_n_A, q_I_r_A, q_I_r_B, y_I_s_I, x_I_s_I, y_I_n_O, x_I_n_O, e_at_, e_ls, e_bd]) ⟨by omega, by omega⟩ (by omega)) (ms_kx h) bc_11 (by decide) w_7_25 w_7_27 (bw_p (q := (yX13_passBlanks, 72)) (List.mem_of_getElem? (i := 50) rfl) rfl) w_1_16 w_7_28 (by decide +kernel) rfl ⟨by decide, by decide⟩ ⟨by omega, by omega⟩ (Nat.le_of_ble_eq_true rfl) rfl dX13_wants_1 (fun _ _ _ q => q) ?_
  rintro r1_ S1_ z1_ ⟨rfl, f1_, v2_, rfl, e_v2_, b_v2_, q1_, q1_0⟩
  have e1_1107 : m_I S1_ 1107 x = iI ls := (f1_.2.2.2.1 1107 (by decide)).trans (by simp (disch := omega) only [q_I_s_J, q_I_s_P, q_I_s_A, q_I_s_B, q_I_s_C, q_I_n_A, q_I_r_A, q_I_r_B, y_I_s_I, x_I_s_I, y_I_n_O, x_I_n_O, e_at_, e_ls, e_bd])
  have e1_1110 : m_I S1_ 1110 x = iI bd := (f1_.2.2.2.1 1110 (by decide)).trans (by simp (disch := omega) only [q_I_s_J, q_I_s_P, q_I_s_A, q_I_s_B, q_I_s_C, q_I_n_A, q_I_r_A, q_I_r_B, y_I_s_I, x_I_s_I, y_I_n_O, x_I_n_O, e_at_, e_ls, e_bd])
  have h1_ : mS S1_ x := f1_.keep h
  have hc1_5 : ∀ i, rAt S1_ (x + 5) i = rAt S (x + 5) i := fun i => ((f1_.1 (x + 5) (by omega) (fun j hj => absurd hj List.not_mem_nil)).rA i).trans rfl
  refine v_aload_n hX dX13_wants_4 (i := 0) rfl rfl ?_
  refine v_callV hX (n := 0) (k_now (S := S1_) (x := x) (at_ := v2_) (ls := ls) h1_ (by simp (disch := omega) only [q_I_s_J, q_I_s_P, q_I_s_A, q_I_s_B, q_I_s_C, q_I_n_A, q_I_r_A, q_I_r_B, y_I_s_I, x_I_s_I, y_I_n_O, x_I_n_O, e1_1107, e1_1110, e_v2_]) ⟨by omega, by omega⟩ (by simp (disch := omega) only [q_I_s_J, q_I_s_P, q_I_s_A, q_I_s_B, q_I_s_C, q_I_n_A, q_I_r_A, q_I_r_B, y_I_s_I, x_I_s_I, y_I_n_O, x_I_n_O, e1_1107, e1_1110, e_v2_]) ⟨by omega, by omega⟩ (by omega)) (ms_kx h1_) bc_11 (by decide) w_7_29 w_7_31 (bw_p (q := (yX13_now, 72)) (List.mem_of_getElem? (i := 51) rfl) rfl) w_1_16 w_7_32 (by decide +kernel) rfl ⟨by decide, by decide⟩ ⟨by omega, by omega⟩ (Nat.le_of_ble_eq_true rfl) rfl dX13_wants_5 (fun _ _ _ q => q) ?_
  rintro r3_ S3_ z3_ ⟨rfl, rfl, v4_, rfl, b_v4_, q3_⟩
  try simp (disch := omega) only [rA_I, rA_J, rA_B, rA_A, lA_I, lA_J, lA_A, lA_B, hc1_5] at q3_
  refine v_iload_n hX dX13_wants_8 (i := 1) rfl rfl ?_
  refine u_icmp_ne hX (tgt := 25) dX13_wants_9 (by decide) ⟨by omega, by omega⟩ ⟨by omega, by omega⟩ (fun h5_ => ?_) (fun h5_ => ?_)
  ·
    refine v_aload_n hX dX13_wants_25 (i := 0) rfl rfl ?_
    refine v_iconst hX (v := iI 1) dX13_wants_26 rfl ?_
    refine v_putI hX (ci := 11) (k := 10) (f := 1110) (ms_kx h1_) bc_11 (by decide) (by decide) in_11 tyX13_ok nmX13 w_5_226 (Or.inl rfl) (nar_b (by omega)) (fit_b (by omega)) dX13_wants_27 rfl rfl ?_
    refine v_aload_n hX dX13_wants_30 (i := 0) rfl rfl ?_
    refine v_callV hX (n := 0) (k_passBlanks (S := (s_I S1_ 1110 x (iI 1))) (x := x) (at_ := v2_) (ls := ls) h1_ (by simp (disch := omega) only [q_I_s_J, q_I_s_P, q_I_s_A, q_I_s_B, q_I_s_C, q_I_n_A, q_I_r_A, q_I_r_B, y_I_s_I, x_I_s_I, y_I_n_O, x_I_n_O, e1_1107, e1_1110, e_v2_]) ⟨by omega, by omega⟩ (by simp (disch := omega) only [q_I_s_J, q_I_s_P, q_I_s_A, q_I_s_B, q_I_s_C, q_I_n_A, q_I_r_A, q_I_r_B, y_I_s_I, x_I_s_I, y_I_n_O, x_I_n_O, e1_1107, e1_1110, e_v2_]) ⟨by omega, by omega⟩ (by omega)) (ms_kx h1_) bc_11 (by decide) w_7_25 w_7_27 (bw_p (q := (yX13_passBlanks, 72)) (List.mem_of_getElem? (i := 50) rfl) rfl) w_1_16 w_7_28 (by decide +kernel) rfl ⟨by decide, by decide⟩ ⟨by omega, by omega⟩ (Nat.le_of_ble_eq_true rfl) rfl dX13_wants_31 (fun _ _ _ q => q) ?_
    rintro r6_ S6_ z6_ ⟨rfl, f6_, v7_, rfl, e_v7_, b_v7_, q6_, q6_0⟩
    try simp (disch := omega) only [rA_I, rA_J, rA_B, rA_A, lA_I, lA_J, lA_A, lA_B, hc1_5] at q6_0
    have e6_1107 : m_I S6_ 1107 x = iI ls := (f6_.2.2.2.1 1107 (by decide)).trans (by simp (disch := omega) only [q_I_s_J, q_I_s_P, q_I_s_A, q_I_s_B, q_I_s_C, q_I_n_A, q_I_r_A, q_I_r_B, y_I_s_I, x_I_s_I, y_I_n_O, x_I_n_O, e1_1107, e1_1110, e_v2_])
    have e6_1110 : m_I S6_ 1110 x = iI 1 := (f6_.2.2.2.1 1110 (by decide)).trans (by simp (disch := omega) only [q_I_s_J, q_I_s_P, q_I_s_A, q_I_s_B, q_I_s_C, q_I_n_A, q_I_r_A, q_I_r_B, y_I_s_I, x_I_s_I, y_I_n_O, x_I_n_O, e1_1107, e1_1110, e_v2_])
    have h6_ : mS S6_ x := f6_.keep h1_
    have hc6_5 : ∀ i, rAt S6_ (x + 5) i = rAt S (x + 5) i := fun i => ((f6_.1 (x + 5) (by omega) (fun j hj => absurd hj List.not_mem_nil)).rA i).trans (hc1_5 i)
    exact v_return hX hE dX13_wants_34 (by omega) (by omega) ⟨rfl, ((((mFr.rf _ _).tr (f1_.mono (by decide) (by decide) (by decide))).sI (by decide)).tr (f6_.mono (by decide) (by decide) (by decide))), v7_, 1, rfl, (by simp (disch := omega) only [q_I_s_J, q_I_s_P, q_I_s_A, q_I_s_B, q_I_s_C, q_I_n_A, q_I_r_A, q_I_r_B, y_I_s_I, x_I_s_I, y_I_n_O, x_I_n_O, e6_1107, e6_1110, e_v7_]), ⟨by omega, by omega⟩, (by simp (disch := omega) only [q_I_s_J, q_I_s_P, q_I_s_A, q_I_s_B, q_I_s_C, q_I_n_A, q_I_r_A, q_I_r_B, y_I_s_I, x_I_s_I, y_I_n_O, x_I_n_O, e6_1107, e6_1110, e_v7_]), ⟨by omega, by omega⟩, (by omega)⟩
  ·
    refine v_aload_n hX dX13_wants_12 (i := 0) rfl rfl ?_
    refine v_dup hX dX13_wants_13 rfl ?_
    refine v_get hX (ci := 11) (k := 8) (ms_kx h1_) bc_11 (by decide) (by decide) in_11 w_5_224 dX13_wants_14 (mvF (f := 1108) (v := iI v2_) rfl rfl (by simp (disch := omega) only [q_I_s_J, q_I_s_P, q_I_s_A, q_I_s_B, q_I_s_C, q_I_n_A, q_I_r_A, q_I_r_B, y_I_s_I, x_I_s_I, y_I_n_O, x_I_n_O, e1_1107, e1_1110, e_v2_])) ?_
    refine v_iconst hX (v := iI 1) dX13_wants_17 rfl ?_
    refine u_iadd hX dX13_wants_18 ?_
    refine v_putI hX (ci := 11) (k := 8) (f := 1108) (ms_kx h1_) bc_11 (by decide) (by decide) in_11 tyX13_ok nmX13 w_5_224 (Or.inl rfl) rfl rfl dX13_wants_19 rfl rfl ?_
    refine v_goto hX (tgt := 30) dX13_wants_22 (by decide) ?_
    refine v_aload_n hX dX13_wants_30 (i := 0) rfl rfl ?_
    refine v_callV hX (n := 0) (k_passBlanks (S := (s_I S1_ 1108 x (iI (v2_ + 1)))) (x := x) (at_ := (v2_ + 1)) (ls := ls) h1_ (by simp (disch := omega) only [q_I_s_J, q_I_s_P, q_I_s_A, q_I_s_B, q_I_s_C, q_I_n_A, q_I_r_A, q_I_r_B, y_I_s_I, x_I_s_I, y_I_n_O, x_I_n_O, e1_1107, e1_1110, e_v2_]) ⟨by omega, by omega⟩ (by simp (disch := omega) only [q_I_s_J, q_I_s_P, q_I_s_A, q_I_s_B, q_I_s_C, q_I_n_A, q_I_r_A, q_I_r_B, y_I_s_I, x_I_s_I, y_I_n_O, x_I_n_O, e1_1107, e1_1110, e_v2_]) ⟨by omega, by omega⟩ (by omega)) (ms_kx h1_) bc_11 (by decide) w_7_25 w_7_27 (bw_p (q := (yX13_passBlanks, 72)) (List.mem_of_getElem? (i := 50) rfl) rfl) w_1_16 w_7_28 (by decide +kernel) rfl ⟨by decide, by decide⟩ ⟨by omega, by omega⟩ (Nat.le_of_ble_eq_true rfl) rfl dX13_wants_31 (fun _ _ _ q => q) ?_
    rintro r8_ S8_ z8_ ⟨rfl, f8_, v9_, rfl, e_v9_, b_v9_, q8_, q8_0⟩
    try simp (disch := omega) only [rA_I, rA_J, rA_B, rA_A, lA_I, lA_J, lA_A, lA_B, hc1_5] at q8_0
    have e8_1107 : m_I S8_ 1107 x = iI ls := (f8_.2.2.2.1 1107 (by decide)).trans (by simp (disch := omega) only [q_I_s_J, q_I_s_P, q_I_s_A, q_I_s_B, q_I_s_C, q_I_n_A, q_I_r_A, q_I_r_B, y_I_s_I, x_I_s_I, y_I_n_O, x_I_n_O, e1_1107, e1_1110, e_v2_])
    have e8_1110 : m_I S8_ 1110 x = iI bd := (f8_.2.2.2.1 1110 (by decide)).trans (by simp (disch := omega) only [q_I_s_J, q_I_s_P, q_I_s_A, q_I_s_B, q_I_s_C, q_I_n_A, q_I_r_A, q_I_r_B, y_I_s_I, x_I_s_I, y_I_n_O, x_I_n_O, e1_1107, e1_1110, e_v2_])
    have h8_ : mS S8_ x := f8_.keep h1_
    have hc8_5 : ∀ i, rAt S8_ (x + 5) i = rAt S (x + 5) i := fun i => ((f8_.1 (x + 5) (by omega) (fun j hj => absurd hj List.not_mem_nil)).rA i).trans (hc1_5 i)
    exact v_return hX hE dX13_wants_34 (by omega) (by omega) ⟨rfl, ((((mFr.rf _ _).tr (f1_.mono (by decide) (by decide) (by decide))).sI (by decide)).tr (f8_.mono (by decide) (by decide) (by decide))), v9_, bd, rfl, (by simp (disch := omega) only [q_I_s_J, q_I_s_P, q_I_s_A, q_I_s_B, q_I_s_C, q_I_n_A, q_I_r_A, q_I_r_B, y_I_s_I, x_I_s_I, y_I_n_O, x_I_n_O, e8_1107, e8_1110, e_v9_]), ⟨by omega, by omega⟩, (by simp (disch := omega) only [q_I_s_J, q_I_s_P, q_I_s_A, q_I_s_B, q_I_s_C, q_I_n_A, q_I_r_A, q_I_r_B, y_I_s_I, x_I_s_I, y_I_n_O, x_I_n_O, e8_1107, e8_1110, e_v9_]), ⟨by omega, by omega⟩, (by omega)⟩
set_option maxRecDepth 100000 in
set_option maxHeartbeats 4000000 in
theorem k_isHex {kn : Nat → Nat} {B : Nat} {S : b_M} {z x : Nat} {c : Int} (h : mS S x) (b_c : -2147483648 ≤ c ∧ c < 2147483648) : b_C kn B yX13_isHex cX13_isHex 2 (some .boolean) 2 42 0 0 [.ref x, .int (iI c)] S z (fun r S' z' => z = z' ∧ S = S' ∧ ∃ q : Int, r = some (.int (iI q)) ∧ (-2147483648 ≤ q ∧ q < 2147483648) ∧ ((q = 1 ∧ ((48 ≤ c ∧ c ≤ 57) ∨ (97 ≤ c ∧ c ≤ 102))) ∨ (q = 0 ∧ ¬ ((48 ≤ c ∧ c ≤ 57) ∨ (97 ≤ c ∧ c ≤ 102))))) (fun _ _ _ => False) := by
  refine b_enter (by decide) (Nat.le_of_ble_eq_true rfl) ?_
  intro X hX hE hnL hkn hB hI_
  subst hkn; subst hB
  clear hI_
  change b_V X S z 0 0 0 [(0, .ref x), (1, .int (iI c))] []
  refine v_iload_n hX dX13_isHex_0 (i := 1) rfl rfl ?_
  refine v_callS hX (n := 1) (k_isDigit (S := S) (x := 0) (c := c) ⟨by omega, by omega⟩) w_7_2 w_7_3 w_1_16 w_7_4 (by decide +kernel) rfl ⟨by decide, by decide⟩ ⟨by omega, by omega⟩ (Nat.le_of_ble_eq_true rfl) rfl dX13_isHex_1 (fun _ _ _ q => q) ?_
  rintro r1_ S1_ z1_ ⟨rfl, rfl, v2_, rfl, b_v2_, q1_⟩
  refine u_if_ne hX (tgt := 18) dX13_isHex_4 (by decide) ⟨by omega, by omega⟩ (fun h3_ => ?_) (fun h3_ => ?_)
  ·
    refine v_iconst hX (v := iI 1) dX13_isHex_18 rfl ?_
    refine v_goto hX (tgt := 23) dX13_isHex_19 (by decide) ?_
    exact v_zreturn hX (nar_b (by omega)) hE dX13_isHex_23 (by omega) (by omega) ⟨rfl, rfl, 1, rfl, ⟨by omega, by omega⟩, (by omega)⟩
  ·
    refine v_iload_n hX dX13_isHex_7 (i := 1) rfl rfl ?_
    refine v_bipush hX (v := iI 97) dX13_isHex_8 (by decide) ?_
    refine v_bipush hX (v := iI 102) dX13_isHex_10 (by decide) ?_
    refine v_callS hX (n := 3) (k_within (S := S) (x := 0) (v := c) (a := 97) (b := 102) ⟨by omega, by omega⟩ ⟨by omega, by omega⟩ ⟨by omega, by omega⟩) w_6_210 w_6_211 w_1_16 w_6_212 (by decide +kernel) rfl ⟨by decide, by decide⟩ ⟨by omega, by omega⟩ (Nat.le_of_ble_eq_true rfl) rfl dX13_isHex_12 (fun _ _ _ q => q) ?_
    rintro r4_ S4_ z4_ ⟨rfl, rfl, v5_, rfl, b_v5_, q4_⟩
    refine u_if_eq hX (tgt := 22) dX13_isHex_15 (by decide) ⟨by omega, by omega⟩ (fun h6_ => ?_) (fun h6_ => ?_)
    ·
      refine v_iconst hX (v := iI 0) dX13_isHex_22 rfl ?_
      exact v_zreturn hX (nar_b (by omega)) hE dX13_isHex_23 (by omega) (by omega) ⟨rfl, rfl, 0, rfl, ⟨by omega, by omega⟩, (by omega)⟩
    ·
      refine v_iconst hX (v := iI 1) dX13_isHex_18 rfl ?_
      refine v_goto hX (tgt := 23) dX13_isHex_19 (by decide) ?_
      exact v_zreturn hX (nar_b (by omega)) hE dX13_isHex_23 (by omega) (by omega) ⟨rfl, rfl, 1, rfl, ⟨by omega, by omega⟩, (by omega)⟩
set_option maxRecDepth 100000 in
set_option maxHeartbeats 4000000 in
theorem k_isSign {kn : Nat → Nat} {B : Nat} {S : b_M} {z x : Nat} {at_ : Int} {ls : Int} (h : mS S x) (e_at_ : m_I S 1108 x = iI at_) (b_at_ : -2147483648 ≤ at_ ∧ at_ < 2147483648) (e_ls : m_I S 1107 x = iI ls) (b_ls : -2147483648 ≤ ls ∧ ls < 2147483648) (p : 0 ≤ at_ ∧ ls ≤ 8400) : b_C kn B yX13_isSign cX13_isSign 1 (some .boolean) 1 20 0 0 [.ref x] S z (fun r S' z' => z = z' ∧ S = S' ∧ ∃ q : Int, r = some (.int (iI q)) ∧ (-2147483648 ≤ q ∧ q < 2147483648) ∧ ((q = 0 ∨ q = 1) ∧ (q = 1 → at_ < ls ∧ (rAt S (x + 5) at_ = 43 ∨ rAt S (x + 5) at_ = 45)))) (fun _ _ _ => False) := by
  refine b_enter (by decide) (Nat.le_of_ble_eq_true rfl) ?_
  intro X hX hE hnL hkn hB hI_
  subst hkn; subst hB
  clear hI_
  change b_V X S z 0 0 0 [(0, .ref x)] []
  refine v_aload_n hX dX13_isSign_0 (i := 0) rfl rfl ?_
  refine v_callV hX (n := 0) (k_now (S := S) (x := x) (at_ := at_) (ls := ls) h (by simp (disch := omega) only [q_I_s_J, q_I_s_P, q_I_s_A, q_I_s_B, q_I_s_C, q_I_n_A, q_I_r_A, q_I_r_B, y_I_s_I, x_I_s_I, y_I_n_O, x_I_n_O, e_at_, e_ls]) ⟨by omega, by omega⟩ (by simp (disch := omega) only [q_I_s_J, q_I_s_P, q_I_s_A, q_I_s_B, q_I_s_C, q_I_n_A, q_I_r_A, q_I_r_B, y_I_s_I, x_I_s_I, y_I_n_O, x_I_n_O, e_at_, e_ls]) ⟨by omega, by omega⟩ (by omega)) (ms_kx h) bc_11 (by decide) w_7_29 w_7_31 (bw_p (q := (yX13_now, 72)) (List.mem_of_getElem? (i := 51) rfl) rfl) w_1_16 w_7_32 (by decide +kernel) rfl ⟨by decide, by decide⟩ ⟨by omega, by omega⟩ (Nat.le_of_ble_eq_true rfl) rfl dX13_isSign_1 (fun _ _ _ q => q) ?_
  rintro r1_ S1_ z1_ ⟨rfl, rfl, v2_, rfl, b_v2_, q1_⟩
  refine v_bipush hX (v := iI 43) dX13_isSign_4 (by decide) ?_
  refine u_icmp_eq hX (tgt := 18) dX13_isSign_6 (by decide) ⟨by omega, by omega⟩ ⟨by omega, by omega⟩ (fun h3_ => ?_) (fun h3_ => ?_)
  ·
    refine v_iconst hX (v := iI 1) dX13_isSign_18 rfl ?_
    refine v_goto hX (tgt := 23) dX13_isSign_19 (by decide) ?_
    exact v_zreturn hX (nar_b (by omega)) hE dX13_isSign_23 (by omega) (by omega) ⟨rfl, rfl, 1, rfl, ⟨by omega, by omega⟩, (by omega)⟩
  ·
    refine v_aload_n hX dX13_isSign_9 (i := 0) rfl rfl ?_
    refine v_callV hX (n := 0) (k_now (S := S) (x := x) (at_ := at_) (ls := ls) h (by simp (disch := omega) only [q_I_s_J, q_I_s_P, q_I_s_A, q_I_s_B, q_I_s_C, q_I_n_A, q_I_r_A, q_I_r_B, y_I_s_I, x_I_s_I, y_I_n_O, x_I_n_O, e_at_, e_ls]) ⟨by omega, by omega⟩ (by simp (disch := omega) only [q_I_s_J, q_I_s_P, q_I_s_A, q_I_s_B, q_I_s_C, q_I_n_A, q_I_r_A, q_I_r_B, y_I_s_I, x_I_s_I, y_I_n_O, x_I_n_O, e_at_, e_ls]) ⟨by omega, by omega⟩ (by omega)) (ms_kx h) bc_11 (by decide) w_7_29 w_7_31 (bw_p (q := (yX13_now, 72)) (List.mem_of_getElem? (i := 51) rfl) rfl) w_1_16 w_7_32 (by decide +kernel) rfl ⟨by decide, by decide⟩ ⟨by omega, by omega⟩ (Nat.le_of_ble_eq_true rfl) rfl dX13_isSign_10 (fun _ _ _ q => q) ?_
    rintro r4_ S4_ z4_ ⟨rfl, rfl, v5_, rfl, b_v5_, q4_⟩
    refine v_bipush hX (v := iI 45) dX13_isSign_13 (by decide) ?_
    refine u_icmp_ne hX (tgt := 22) dX13_isSign_15 (by decide) ⟨by omega, by omega⟩ ⟨by omega, by omega⟩ (fun h6_ => ?_) (fun h6_ => ?_)
    ·
      refine v_iconst hX (v := iI 0) dX13_isSign_22 rfl ?_
      exact v_zreturn hX (nar_b (by omega)) hE dX13_isSign_23 (by omega) (by omega) ⟨rfl, rfl, 0, rfl, ⟨by omega, by omega⟩, (by omega)⟩
    ·
      refine v_iconst hX (v := iI 1) dX13_isSign_18 rfl ?_
      refine v_goto hX (tgt := 23) dX13_isSign_19 (by decide) ?_
      exact v_zreturn hX (nar_b (by omega)) hE dX13_isSign_23 (by omega) (by omega) ⟨rfl, rfl, 1, rfl, ⟨by omega, by omega⟩, (by omega)⟩
