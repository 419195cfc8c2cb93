theorem z_I_s_J (S : b_M) (f a : Nat) (v : Int64) (x y : Nat) : m_I (s_J S f a v) x y = m_I S x y := Eq.trans rfl rfl
theorem z_I_s_A (S : b_M) (a i : Nat) (v : Int32) (x y : Nat) : m_I (s_A S a i v) x y = m_I S x y := Eq.trans rfl rfl
theorem z_I_s_B (S : b_M) (a i : Nat) (v : Int64) (x y : Nat) : m_I (s_B S a i v) x y = m_I S x y := Eq.trans rfl rfl
theorem z_J_s_I (S : b_M) (f a : Nat) (v : Int32) (x y : Nat) : m_J (s_I S f a v) x y = m_J S x y := Eq.trans rfl rfl
theorem z_J_s_A (S : b_M) (a i : Nat) (v : Int32) (x y : Nat) : m_J (s_A S a i v) x y = m_J S x y := Eq.trans rfl rfl
theorem z_J_s_B (S : b_M) (a i : Nat) (v : Int64) (x y : Nat) : m_J (s_B S a i v) x y = m_J S x y := Eq.trans rfl rfl
theorem zr_I (S : b_M) (f b : Nat) (v : Int32) (a : Nat) (i : Int) : rAt (s_I S f b v) a i = rAt S a i := Eq.trans rfl rfl
theorem zr_J (S : b_M) (f b : Nat) (v : Int64) (a : Nat) (i : Int) : rAt (s_J S f b v) a i = rAt S a i := Eq.trans rfl rfl
theorem zr_B (S : b_M) (b k : Nat) (v : Int64) (a : Nat) (i : Int) : rAt (s_B S b k v) a i = rAt S a i := Eq.trans rfl rfl
theorem zl_I (S : b_M) (f b : Nat) (v : Int32) (a : Nat) (i : Int) : lAt (s_I S f b v) a i = lAt S a i := Eq.trans rfl rfl
theorem zl_J (S : b_M) (f b : Nat) (v : Int64) (a : Nat) (i : Int) : lAt (s_J S f b v) a i = lAt S a i := Eq.trans rfl rfl
theorem zl_A (S : b_M) (b k : Nat) (v : Int32) (a : Nat) (i : Int) : lAt (s_A S b k v) a i = lAt S a i := Eq.trans rfl rfl
theorem z_I_s_P (S : b_M) (f a : Nat) (v : Option Nat) (x y : Nat) : m_I (s_P S f a v) x y = m_I S x y := Eq.trans rfl rfl
theorem z_P_s_I (S : b_M) (f a : Nat) (v : Int32) (x y : Nat) : m_P (s_I S f a v) x y = m_P S x y := Eq.trans rfl rfl
theorem z_P_s_J (S : b_M) (f a : Nat) (v : Int64) (x y : Nat) : m_P (s_J S f a v) x y = m_P S x y := Eq.trans rfl rfl
theorem z_P_s_A (S : b_M) (a i : Nat) (v : Int32) (x y : Nat) : m_P (s_A S a i v) x y = m_P S x y := Eq.trans rfl rfl
theorem z_P_s_B (S : b_M) (a i : Nat) (v : Int64) (x y : Nat) : m_P (s_B S a i v) x y = m_P S x y := Eq.trans rfl rfl
theorem zr_P (S : b_M) (f b : Nat) (v : Option Nat) (a : Nat) (i : Int) : rAt (s_P S f b v) a i = rAt S a i := Eq.trans rfl rfl
theorem fit_b {a : Int} (h : a = 0 ∨ a = 1) : fits .boolean (.int (iI a)) = true := by rcases h with rfl | rfl <;> rfl
