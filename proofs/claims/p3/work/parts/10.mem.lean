/-! ===== memory: kinds by address; int, long and reference fields by field number and address; arrays' lengths and rows ===== -/
abbrev b_M : Type := (Nat → Nat) × (Nat → Nat → Int32) × (Nat → Nat → Int64) × (Nat → Nat → Option Nat) × (Nat → Nat) × (Nat → Nat → Int32) × (Nat → Nat → Int64) × (Nat → Nat → Option Nat)
def m_K (S : b_M) : Nat → Nat := S.1
def m_I (S : b_M) : Nat → Nat → Int32 := S.2.1
def m_J (S : b_M) : Nat → Nat → Int64 := S.2.2.1
def m_P (S : b_M) : Nat → Nat → Option Nat := S.2.2.2.1
def m_L (S : b_M) : Nat → Nat := S.2.2.2.2.1
def m_A (S : b_M) : Nat → Nat → Int32 := S.2.2.2.2.2.1
def m_B (S : b_M) : Nat → Nat → Int64 := S.2.2.2.2.2.2.1
def m_C (S : b_M) : Nat → Nat → Option Nat := S.2.2.2.2.2.2.2
def u_2 {α : Type} (f : Nat → Nat → α) (i a : Nat) (v : α) : Nat → Nat → α := fun j b => if j = i ∧ b = a then v else f j b
def s_I (S : b_M) (f a : Nat) (v : Int32) : b_M := (m_K S, u_2 (m_I S) f a v, m_J S, m_P S, m_L S, m_A S, m_B S, m_C S)
def s_J (S : b_M) (f a : Nat) (v : Int64) : b_M := (m_K S, m_I S, u_2 (m_J S) f a v, m_P S, m_L S, m_A S, m_B S, m_C S)
def s_P (S : b_M) (f a : Nat) (v : Option Nat) : b_M := (m_K S, m_I S, m_J S, u_2 (m_P S) f a v, m_L S, m_A S, m_B S, m_C S)
def s_A (S : b_M) (a i : Nat) (v : Int32) : b_M := (m_K S, m_I S, m_J S, m_P S, m_L S, u_2 (m_A S) a i v, m_B S, m_C S)
def s_B (S : b_M) (a i : Nat) (v : Int64) : b_M := (m_K S, m_I S, m_J S, m_P S, m_L S, m_A S, u_2 (m_B S) a i v, m_C S)
def s_C (S : b_M) (a i : Nat) (v : Option Nat) : b_M := (m_K S, m_I S, m_J S, m_P S, m_L S, m_A S, m_B S, u_2 (m_C S) a i v)
def n_O (S : b_M) (a k : Nat) : b_M := (va_up (m_K S) a k, fun f b => if b = a then 0 else m_I S f b, fun f b => if b = a then 0 else m_J S f b, fun f b => if b = a then none else m_P S f b, m_L S, m_A S, m_B S, m_C S)
def n_A (S : b_M) (a k n : Nat) : b_M := (va_up (m_K S) a k, m_I S, m_J S, m_P S, va_up (m_L S) a n, fun b i => if b = a then 0 else m_A S b i, fun b i => if b = a then 0 else m_B S b i, fun b i => if b = a then none else m_C S b i)
def r_A (S : b_M) (a : Nat) (g : Nat → Int32) : b_M := (m_K S, m_I S, m_J S, m_P S, m_L S, fun b i => if b = a then g i else m_A S b i, m_B S, m_C S)
def r_B (S : b_M) (a : Nat) (g : Nat → Int64) : b_M := (m_K S, m_I S, m_J S, m_P S, m_L S, m_A S, fun b i => if b = a then g i else m_B S b i, m_C S)
theorem q_K_s_I (S : b_M) (f a : Nat) (v : Int32) (x : Nat) : m_K (s_I S f a v) x = m_K S x := rfl
theorem q_I_s_I (S : b_M) (f a : Nat) (v : Int32) (x y : Nat) : m_I (s_I S f a v) x y = if x = f ∧ y = a then v else m_I S x y := rfl
theorem q_J_s_I (S : b_M) (f a : Nat) (v : Int32) (x y : Nat) : m_J (s_I S f a v) x y = m_J S x y := rfl
theorem q_P_s_I (S : b_M) (f a : Nat) (v : Int32) (x y : Nat) : m_P (s_I S f a v) x y = m_P S x y := rfl
theorem q_L_s_I (S : b_M) (f a : Nat) (v : Int32) (x : Nat) : m_L (s_I S f a v) x = m_L S x := rfl
theorem q_A_s_I (S : b_M) (f a : Nat) (v : Int32) (x y : Nat) : m_A (s_I S f a v) x y = m_A S x y := rfl
theorem q_B_s_I (S : b_M) (f a : Nat) (v : Int32) (x y : Nat) : m_B (s_I S f a v) x y = m_B S x y := rfl
theorem q_C_s_I (S : b_M) (f a : Nat) (v : Int32) (x y : Nat) : m_C (s_I S f a v) x y = m_C S x y := rfl
theorem q_K_s_J (S : b_M) (f a : Nat) (v : Int64) (x : Nat) : m_K (s_J S f a v) x = m_K S x := rfl
theorem q_I_s_J (S : b_M) (f a : Nat) (v : Int64) (x y : Nat) : m_I (s_J S f a v) x y = m_I S x y := rfl
theorem q_J_s_J (S : b_M) (f a : Nat) (v : Int64) (x y : Nat) : m_J (s_J S f a v) x y = if x = f ∧ y = a then v else m_J S x y := rfl
theorem q_P_s_J (S : b_M) (f a : Nat) (v : Int64) (x y : Nat) : m_P (s_J S f a v) x y = m_P S x y := rfl
theorem q_L_s_J (S : b_M) (f a : Nat) (v : Int64) (x : Nat) : m_L (s_J S f a v) x = m_L S x := rfl
theorem q_A_s_J (S : b_M) (f a : Nat) (v : Int64) (x y : Nat) : m_A (s_J S f a v) x y = m_A S x y := rfl
theorem q_B_s_J (S : b_M) (f a : Nat) (v : Int64) (x y : Nat) : m_B (s_J S f a v) x y = m_B S x y := rfl
theorem q_C_s_J (S : b_M) (f a : Nat) (v : Int64) (x y : Nat) : m_C (s_J S f a v) x y = m_C S x y := rfl
theorem q_K_s_P (S : b_M) (f a : Nat) (v : Option Nat) (x : Nat) : m_K (s_P S f a v) x = m_K S x := rfl
theorem q_I_s_P (S : b_M) (f a : Nat) (v : Option Nat) (x y : Nat) : m_I (s_P S f a v) x y = m_I S x y := rfl
theorem q_J_s_P (S : b_M) (f a : Nat) (v : Option Nat) (x y : Nat) : m_J (s_P S f a v) x y = m_J S x y := rfl
theorem q_P_s_P (S : b_M) (f a : Nat) (v : Option Nat) (x y : Nat) : m_P (s_P S f a v) x y = if x = f ∧ y = a then v else m_P S x y := rfl
theorem q_L_s_P (S : b_M) (f a : Nat) (v : Option Nat) (x : Nat) : m_L (s_P S f a v) x = m_L S x := rfl
theorem q_A_s_P (S : b_M) (f a : Nat) (v : Option Nat) (x y : Nat) : m_A (s_P S f a v) x y = m_A S x y := rfl
theorem q_B_s_P (S : b_M) (f a : Nat) (v : Option Nat) (x y : Nat) : m_B (s_P S f a v) x y = m_B S x y := rfl
theorem q_C_s_P (S : b_M) (f a : Nat) (v : Option Nat) (x y : Nat) : m_C (s_P S f a v) x y = m_C S x y := rfl
theorem q_K_s_A (S : b_M) (a i : Nat) (v : Int32) (x : Nat) : m_K (s_A S a i v) x = m_K S x := rfl
theorem q_I_s_A (S : b_M) (a i : Nat) (v : Int32) (x y : Nat) : m_I (s_A S a i v) x y = m_I S x y := rfl
theorem q_J_s_A (S : b_M) (a i : Nat) (v : Int32) (x y : Nat) : m_J (s_A S a i v) x y = m_J S x y := rfl
theorem q_P_s_A (S : b_M) (a i : Nat) (v : Int32) (x y : Nat) : m_P (s_A S a i v) x y = m_P S x y := rfl
theorem q_L_s_A (S : b_M) (a i : Nat) (v : Int32) (x : Nat) : m_L (s_A S a i v) x = m_L S x := rfl
theorem q_A_s_A (S : b_M) (a i : Nat) (v : Int32) (x y : Nat) : m_A (s_A S a i v) x y = if x = a ∧ y = i then v else m_A S x y := rfl
theorem q_B_s_A (S : b_M) (a i : Nat) (v : Int32) (x y : Nat) : m_B (s_A S a i v) x y = m_B S x y := rfl
theorem q_C_s_A (S : b_M) (a i : Nat) (v : Int32) (x y : Nat) : m_C (s_A S a i v) x y = m_C S x y := rfl
theorem q_K_s_B (S : b_M) (a i : Nat) (v : Int64) (x : Nat) : m_K (s_B S a i v) x = m_K S x := rfl
theorem q_I_s_B (S : b_M) (a i : Nat) (v : Int64) (x y : Nat) : m_I (s_B S a i v) x y = m_I S x y := rfl
theorem q_J_s_B (S : b_M) (a i : Nat) (v : Int64) (x y : Nat) : m_J (s_B S a i v) x y = m_J S x y := rfl
theorem q_P_s_B (S : b_M) (a i : Nat) (v : Int64) (x y : Nat) : m_P (s_B S a i v) x y = m_P S x y := rfl
theorem q_L_s_B (S : b_M) (a i : Nat) (v : Int64) (x : Nat) : m_L (s_B S a i v) x = m_L S x := rfl
theorem q_A_s_B (S : b_M) (a i : Nat) (v : Int64) (x y : Nat) : m_A (s_B S a i v) x y = m_A S x y := rfl
theorem q_B_s_B (S : b_M) (a i : Nat) (v : Int64) (x y : Nat) : m_B (s_B S a i v) x y = if x = a ∧ y = i then v else m_B S x y := rfl
theorem q_C_s_B (S : b_M) (a i : Nat) (v : Int64) (x y : Nat) : m_C (s_B S a i v) x y = m_C S x y := rfl
theorem q_K_s_C (S : b_M) (a i : Nat) (v : Option Nat) (x : Nat) : m_K (s_C S a i v) x = m_K S x := rfl
theorem q_I_s_C (S : b_M) (a i : Nat) (v : Option Nat) (x y : Nat) : m_I (s_C S a i v) x y = m_I S x y := rfl
theorem q_J_s_C (S : b_M) (a i : Nat) (v : Option Nat) (x y : Nat) : m_J (s_C S a i v) x y = m_J S x y := rfl
theorem q_P_s_C (S : b_M) (a i : Nat) (v : Option Nat) (x y : Nat) : m_P (s_C S a i v) x y = m_P S x y := rfl
theorem q_L_s_C (S : b_M) (a i : Nat) (v : Option Nat) (x : Nat) : m_L (s_C S a i v) x = m_L S x := rfl
theorem q_A_s_C (S : b_M) (a i : Nat) (v : Option Nat) (x y : Nat) : m_A (s_C S a i v) x y = m_A S x y := rfl
theorem q_B_s_C (S : b_M) (a i : Nat) (v : Option Nat) (x y : Nat) : m_B (s_C S a i v) x y = m_B S x y := rfl
theorem q_C_s_C (S : b_M) (a i : Nat) (v : Option Nat) (x y : Nat) : m_C (s_C S a i v) x y = if x = a ∧ y = i then v else m_C S x y := rfl
theorem q_K_n_O (S : b_M) (a k : Nat) (x : Nat) : m_K (n_O S a k) x = if x = a then k else m_K S x := rfl
theorem q_I_n_O (S : b_M) (a k : Nat) (x y : Nat) : m_I (n_O S a k) x y = if y = a then 0 else m_I S x y := rfl
theorem q_J_n_O (S : b_M) (a k : Nat) (x y : Nat) : m_J (n_O S a k) x y = if y = a then 0 else m_J S x y := rfl
theorem q_P_n_O (S : b_M) (a k : Nat) (x y : Nat) : m_P (n_O S a k) x y = if y = a then none else m_P S x y := rfl
theorem q_L_n_O (S : b_M) (a k : Nat) (x : Nat) : m_L (n_O S a k) x = m_L S x := rfl
theorem q_A_n_O (S : b_M) (a k : Nat) (x y : Nat) : m_A (n_O S a k) x y = m_A S x y := rfl
theorem q_B_n_O (S : b_M) (a k : Nat) (x y : Nat) : m_B (n_O S a k) x y = m_B S x y := rfl
theorem q_C_n_O (S : b_M) (a k : Nat) (x y : Nat) : m_C (n_O S a k) x y = m_C S x y := rfl
theorem q_K_n_A (S : b_M) (a k n : Nat) (x : Nat) : m_K (n_A S a k n) x = if x = a then k else m_K S x := rfl
theorem q_I_n_A (S : b_M) (a k n : Nat) (x y : Nat) : m_I (n_A S a k n) x y = m_I S x y := rfl
theorem q_J_n_A (S : b_M) (a k n : Nat) (x y : Nat) : m_J (n_A S a k n) x y = m_J S x y := rfl
theorem q_P_n_A (S : b_M) (a k n : Nat) (x y : Nat) : m_P (n_A S a k n) x y = m_P S x y := rfl
theorem q_L_n_A (S : b_M) (a k n : Nat) (x : Nat) : m_L (n_A S a k n) x = if x = a then n else m_L S x := rfl
theorem q_A_n_A (S : b_M) (a k n : Nat) (x y : Nat) : m_A (n_A S a k n) x y = if x = a then 0 else m_A S x y := rfl
theorem q_B_n_A (S : b_M) (a k n : Nat) (x y : Nat) : m_B (n_A S a k n) x y = if x = a then 0 else m_B S x y := rfl
theorem q_C_n_A (S : b_M) (a k n : Nat) (x y : Nat) : m_C (n_A S a k n) x y = if x = a then none else m_C S x y := rfl
theorem q_K_r_A (S : b_M) (a : Nat) (g : Nat → Int32) (x : Nat) : m_K (r_A S a g) x = m_K S x := rfl
theorem q_I_r_A (S : b_M) (a : Nat) (g : Nat → Int32) (x y : Nat) : m_I (r_A S a g) x y = m_I S x y := rfl
theorem q_J_r_A (S : b_M) (a : Nat) (g : Nat → Int32) (x y : Nat) : m_J (r_A S a g) x y = m_J S x y := rfl
theorem q_P_r_A (S : b_M) (a : Nat) (g : Nat → Int32) (x y : Nat) : m_P (r_A S a g) x y = m_P S x y := rfl
theorem q_L_r_A (S : b_M) (a : Nat) (g : Nat → Int32) (x : Nat) : m_L (r_A S a g) x = m_L S x := rfl
theorem q_A_r_A (S : b_M) (a : Nat) (g : Nat → Int32) (x y : Nat) : m_A (r_A S a g) x y = if x = a then g y else m_A S x y := rfl
theorem q_B_r_A (S : b_M) (a : Nat) (g : Nat → Int32) (x y : Nat) : m_B (r_A S a g) x y = m_B S x y := rfl
theorem q_C_r_A (S : b_M) (a : Nat) (g : Nat → Int32) (x y : Nat) : m_C (r_A S a g) x y = m_C S x y := rfl
theorem q_K_r_B (S : b_M) (a : Nat) (g : Nat → Int64) (x : Nat) : m_K (r_B S a g) x = m_K S x := rfl
theorem q_I_r_B (S : b_M) (a : Nat) (g : Nat → Int64) (x y : Nat) : m_I (r_B S a g) x y = m_I S x y := rfl
theorem q_J_r_B (S : b_M) (a : Nat) (g : Nat → Int64) (x y : Nat) : m_J (r_B S a g) x y = m_J S x y := rfl
theorem q_P_r_B (S : b_M) (a : Nat) (g : Nat → Int64) (x y : Nat) : m_P (r_B S a g) x y = m_P S x y := rfl
theorem q_L_r_B (S : b_M) (a : Nat) (g : Nat → Int64) (x : Nat) : m_L (r_B S a g) x = m_L S x := rfl
theorem q_A_r_B (S : b_M) (a : Nat) (g : Nat → Int64) (x y : Nat) : m_A (r_B S a g) x y = m_A S x y := rfl
theorem q_B_r_B (S : b_M) (a : Nat) (g : Nat → Int64) (x y : Nat) : m_B (r_B S a g) x y = if x = a then g y else m_B S x y := rfl
theorem q_C_r_B (S : b_M) (a : Nat) (g : Nat → Int64) (x y : Nat) : m_C (r_B S a g) x y = m_C S x y := rfl
/-- the types of the fields, by the class's number -/
def m_T (ci k : Nat) : FieldType := match ci with
  | 0 => tyX1 k
  | 1 => tyX2 k
  | 2 => tyX3 k
  | 3 => tyX4 k
  | 4 => tyX5 k
  | 5 => tyX6 k
  | 6 => tyX8 k
  | 7 => tyX9 k
  | 8 => tyX10 k
  | 9 => tyX11 k
  | 10 => tyX12 k
  | _ => tyX13 k
def m_Y (ci k : Nat) : Nat := match m_T ci k with
  | .long => 2
  | .object _ => 0
  | .array _ => 0
  | _ => 1
def m_N (ci : Nat) : Nat := match vwCl[ci]? with
  | some r => r.2.2
  | none => 0
def m_V (S : b_M) (ci a k : Nat) : Value := if m_Y ci k = 1 then .int (m_I S (100 * ci + k) a) else if m_Y ci k = 2 then .long (m_J S (100 * ci + k) a) else va_rf (m_P S (100 * ci + k) a)
def m_E (S : b_M) (a : Nat) : Nat → Value := fun j => if m_K S a = 14 then .long (m_B S a j) else if m_K S a < 16 then .int (m_A S a j) else va_rf (m_C S a j)
def b_At (D : va_G) (cy : Nat → ClassId) (S : b_M) (a : Nat) (H : Heap) : Prop := (m_K S a < 12 → t_OB a (D.1 (m_K S a)) (m_N (m_K S a)) (D.2 (m_K S a)) H (m_V S (m_K S a) a)) ∧ (12 ≤ m_K S a → H[a]? = some (arrV (cy (m_K S a)) (m_L S a) (m_E S a)))
/-- the heap holds the memory: every cell of a known kind, from B on; z cells in all -/
def b_R (D : va_G) (cy : Nat → ClassId) (B : Nat) (S : b_M) (z : Nat) (H : Heap) : Prop := H.size = z ∧ ∀ a, m_K S a < 18 → B ≤ a ∧ b_At D cy S a H
abbrev b_Tys (cy : Nat → ClassId) : List (ClassId × FieldType) := [(cy 12, .byte), (cy 13, .int), (cy 14, .long), (cy 15, .boolean), (cy 16, .object RX1), (cy 17, .object RX10)]
theorem b_At.lt {D : va_G} {cy : Nat → ClassId} {S : b_M} {a : Nat} {H : Heap} (h : b_At D cy S a H) : a < H.size := by
  rcases Nat.lt_or_ge (m_K S a) 12 with q | q
  · obtain ⟨cell, h1, -⟩ := h.1 q
    exact (Array.getElem?_eq_some_iff.mp h1).1
  · exact (Array.getElem?_eq_some_iff.mp (h.2 q)).1
theorem b_At.kept {D : va_G} {cy : Nat → ClassId} {S S' : b_M} {a : Nat} {H H' : Heap} (h : b_At D cy S a H) (hH : H'[a]? = H[a]?) (hK : m_K S' a = m_K S a) (hI : ∀ f, m_I S' f a = m_I S f a) (hJ : ∀ f, m_J S' f a = m_J S f a) (hP : ∀ f, m_P S' f a = m_P S f a) (hL : m_L S' a = m_L S a) (hA : ∀ i, m_A S' a i = m_A S a i) (hB : ∀ i, m_B S' a i = m_B S a i) (hC : ∀ i, m_C S' a i = m_C S a i) : b_At D cy S' a H' := by
  refine ⟨fun q => ?_, fun q => ?_⟩
  · rw [hK] at q ⊢
    refine ((h.1 q).kept hH).to (fun k _ => ?_)
    simp only [m_V, hI, hJ, hP]
  · rw [hK] at q
    rw [hH, h.2 q, hK, hL]
    congr 2
    funext j
    simp only [m_E, hK, hA, hB, hC]
