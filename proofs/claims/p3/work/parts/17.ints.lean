/-! ===== ints and longs as Int ===== -/
def iI (v : Int) : Int32 := Int32.ofInt v
def jJ (v : Int) : Int64 := Int64.ofInt v
abbrev i32 (v : Int) : Prop := -2147483648 ≤ v ∧ v < 2147483648
abbrev i64 (v : Int) : Prop := -9223372036854775808 ≤ v ∧ v < 9223372036854775808
theorem iI_to {v : Int} (h : (-2147483648 ≤ v ∧ v < 2147483648)) : (iI v).toInt = v := Int32.toInt_ofInt_of_le (by have := h.1; omega) (by have := h.2; omega)
theorem jJ_to {v : Int} (h : (-9223372036854775808 ≤ v ∧ v < 9223372036854775808)) : (jJ v).toInt = v := Int64.toInt_ofInt_of_le (by have := h.1; omega) (by have := h.2; omega)
theorem iI_b (x : Int32) : (-2147483648 ≤ x.toInt ∧ x.toInt < 2147483648) := ⟨by have := Int32.le_toInt x; omega, by have := Int32.toInt_lt x; omega⟩
theorem jJ_b (x : Int64) : (-9223372036854775808 ≤ x.toInt ∧ x.toInt < 9223372036854775808) := ⟨by have := Int64.le_toInt x; omega, by have := Int64.toInt_lt x; omega⟩
theorem iI_of (x : Int32) : iI x.toInt = x := Int32.ofInt_toInt x
theorem jJ_of (x : Int64) : jJ x.toInt = x := Int64.ofInt_toInt x
theorem i_ex (x : Int32) : ∃ v : Int, x = iI v ∧ (-2147483648 ≤ v ∧ v < 2147483648) := ⟨x.toInt, (iI_of x).symm, iI_b x⟩
theorem j_ex (x : Int64) : ∃ v : Int, x = jJ v ∧ (-9223372036854775808 ≤ v ∧ v < 9223372036854775808) := ⟨x.toInt, (jJ_of x).symm, jJ_b x⟩
theorem iI_add (a b : Int) : iI a + iI b = iI (a + b) := (Int32.ofInt_add a b).symm
theorem iI_sub (a b : Int) : iI a - iI b = iI (a - b) := (Int32.ofInt_sub a b).symm
theorem iI_mul (a b : Int) : iI a * iI b = iI (a * b) := (Int32.ofInt_mul a b).symm
theorem iI_neg (a : Int) : -iI a = iI (-a) := (Int32.ofInt_neg a).symm
theorem jJ_add (a b : Int) : jJ a + jJ b = jJ (a + b) := (Int64.ofInt_add a b).symm
theorem jJ_sub (a b : Int) : jJ a - jJ b = jJ (a - b) := (Int64.ofInt_sub a b).symm
theorem jJ_mul (a b : Int) : jJ a * jJ b = jJ (a * b) := (Int64.ofInt_mul a b).symm
theorem jJ_neg (a : Int) : -jJ a = jJ (-a) := (Int64.ofInt_neg a).symm
theorem iI_lt {a b : Int} (ha : (-2147483648 ≤ a ∧ a < 2147483648)) (hb : (-2147483648 ≤ b ∧ b < 2147483648)) : iI a < iI b ↔ a < b := by rw [Int32.lt_iff_toInt_lt, iI_to ha, iI_to hb]
theorem iI_le {a b : Int} (ha : (-2147483648 ≤ a ∧ a < 2147483648)) (hb : (-2147483648 ≤ b ∧ b < 2147483648)) : iI a ≤ iI b ↔ a ≤ b := by rw [Int32.le_iff_toInt_le, iI_to ha, iI_to hb]
theorem iI_eq {a b : Int} (ha : (-2147483648 ≤ a ∧ a < 2147483648)) (hb : (-2147483648 ≤ b ∧ b < 2147483648)) : iI a = iI b ↔ a = b := by rw [← Int32.toInt_inj, iI_to ha, iI_to hb]
theorem iI_0 : (0 : Int32) = iI 0 := rfl
theorem jJ_lt {a b : Int} (ha : (-9223372036854775808 ≤ a ∧ a < 9223372036854775808)) (hb : (-9223372036854775808 ≤ b ∧ b < 9223372036854775808)) : jJ a < jJ b ↔ a < b := by rw [Int64.lt_iff_toInt_lt, jJ_to ha, jJ_to hb]
theorem jJ_eq {a b : Int} (ha : (-9223372036854775808 ≤ a ∧ a < 9223372036854775808)) (hb : (-9223372036854775808 ≤ b ∧ b < 9223372036854775808)) : jJ a = jJ b ↔ a = b := by rw [← Int64.toInt_inj, jJ_to ha, jJ_to hb]
theorem iI_div {a b : Int} (ha : (-2147483648 ≤ a ∧ a < 2147483648)) (h0 : 0 ≤ a) (hb : (-2147483648 ≤ b ∧ b < 2147483648)) (h1 : 0 < b) : iI a / iI b = iI (a / b) := by
  have h2 : (0 : Int) ≤ a / b := Int.ediv_nonneg h0 (by omega)
  have h3 : a / b ≤ a := Int.ediv_le_self _ h0
  rw [← Int32.toInt_inj, Int32.toInt_div_of_ne_right _ _ (by intro h; have h4 := congrArg Int32.toInt h; rw [iI_to hb] at h4; have h5 : ((-1 : Int32)).toInt = -1 := by decide
                                                             omega), iI_to ha, iI_to hb, iI_to ⟨by omega, by omega⟩, Int.tdiv_eq_ediv_of_nonneg h0]
theorem iI_rem {a b : Int} (ha : (-2147483648 ≤ a ∧ a < 2147483648)) (h0 : 0 ≤ a) (hb : (-2147483648 ≤ b ∧ b < 2147483648)) (h1 : 0 < b) : iI a - iI a / iI b * iI b = iI (a % b) := by
  rw [iI_div ha h0 hb h1, iI_mul, iI_sub]
  congr 1
  have := Int.mul_ediv_add_emod a b
  rw [Int.mul_comm] at this
  omega
theorem jJ_div {a b : Int} (ha : (-9223372036854775808 ≤ a ∧ a < 9223372036854775808)) (h0 : 0 ≤ a) (hb : (-9223372036854775808 ≤ b ∧ b < 9223372036854775808)) (h1 : 0 < b) : jJ a / jJ b = jJ (a / b) := by
  have h2 : (0 : Int) ≤ a / b := Int.ediv_nonneg h0 (by omega)
  have h3 : a / b ≤ a := Int.ediv_le_self _ h0
  rw [← Int64.toInt_inj, Int64.toInt_div_of_ne_right _ _ (by intro h; have h4 := congrArg Int64.toInt h; rw [jJ_to hb] at h4; have h5 : ((-1 : Int64)).toInt = -1 := by decide
                                                             omega), jJ_to ha, jJ_to hb, jJ_to ⟨by omega, by omega⟩, Int.tdiv_eq_ediv_of_nonneg h0]
theorem jJ_rem {a b : Int} (ha : (-9223372036854775808 ≤ a ∧ a < 9223372036854775808)) (h0 : 0 ≤ a) (hb : (-9223372036854775808 ≤ b ∧ b < 9223372036854775808)) (h1 : 0 < b) : jJ a - jJ a / jJ b * jJ b = jJ (a % b) := by
  rw [jJ_div ha h0 hb h1, jJ_mul, jJ_sub]
  congr 1
  have := Int.mul_ediv_add_emod a b
  rw [Int.mul_comm] at this
  omega
theorem iI_l {a : Int} (ha : (-2147483648 ≤ a ∧ a < 2147483648)) : (iI a).toInt64 = jJ a := by
  rw [← Int64.toInt_inj, Int32.toInt_toInt64, iI_to ha, jJ_to ⟨by have := ha.1; omega, by have := ha.2; omega⟩]
theorem jJ_i (a : Int) : (jJ a).toInt32 = iI a := Int64.toInt32_ofInt
theorem iI_clamp {a : Int} (ha : (-2147483648 ≤ a ∧ a < 2147483648)) : (iI a).toNatClampNeg = a.toNat := Int32.toNatClampNeg_ofInt_of_le (by have := ha.1; omega) (by have := ha.2; omega)
theorem iI_in {a : Int} {L : Nat} (h : 0 ≤ a ∧ a < (L : Int)) (hL : (L : Int) < 2147483648) : vp_in (iI a) L := by
  have ha : (-2147483648 ≤ a ∧ a < 2147483648) := ⟨by omega, by omega⟩
  intro q
  rcases q with q | q
  · rw [iI_0, iI_lt ha ⟨by decide, by decide⟩] at q; omega
  · rw [iI_clamp ha] at q; omega
theorem nI_iI (n : Nat) : nI n = iI (n : Int) := rfl
theorem nar_b {a : Int} (h : a = 0 ∨ a = 1) : narrow .boolean (.int (iI a)) = .int (iI a) := by rcases h with rfl | rfl <;> rfl
theorem lg_ex {a b : Int} (ha : (-9223372036854775808 ≤ a ∧ a < 9223372036854775808)) (hb : (-9223372036854775808 ≤ b ∧ b < 9223372036854775808)) : ∃ r : Int, lg_cmp (jJ a) (jJ b) = iI r ∧ (-2147483648 ≤ r ∧ r < 2147483648) ∧ (0 < r ↔ b < a) ∧ (r < 0 ↔ a < b) ∧ (r = 0 ↔ a = b) := by
  unfold lg_cmp
  by_cases h1 : b < a
  · exact ⟨1, by rw [if_pos ((jJ_lt hb ha).mpr h1)]; rfl, by decide, by omega, by omega, by omega⟩
  · by_cases h2 : a = b
    · exact ⟨0, by rw [if_neg (fun q => h1 ((jJ_lt hb ha).mp q)), if_pos ((jJ_eq ha hb).mpr h2)]; rfl, by decide, by omega, by omega, by omega⟩
    · exact ⟨-1, by rw [if_neg (fun q => h1 ((jJ_lt hb ha).mp q)), if_neg (fun q => h2 ((jJ_eq ha hb).mp q))]; rfl, by decide, by omega, by omega, by omega⟩
/-- an array's int, as Int -/
def rAt (S : b_M) (a : Nat) (i : Int) : Int := (m_A S a i.toNat).toInt
def lAt (S : b_M) (a : Nat) (i : Int) : Int := (m_B S a i.toNat).toInt
theorem rA_I (S : b_M) (f b : Nat) (v : Int32) (a : Nat) (i : Int) : rAt (s_I S f b v) a i = rAt S a i := rfl
theorem rA_J (S : b_M) (f b : Nat) (v : Int64) (a : Nat) (i : Int) : rAt (s_J S f b v) a i = rAt S a i := rfl
theorem rA_B (S : b_M) (b k : Nat) (v : Int64) (a : Nat) (i : Int) : rAt (s_B S b k v) a i = rAt S a i := rfl
theorem rA_A (S : b_M) (b k : Nat) (v : Int32) (a : Nat) (i : Int) (h : a ≠ b) : rAt (s_A S b k v) a i = rAt S a i := by unfold rAt; rw [x_A_s_A _ _ _ _ _ _ (Or.inl h)]
theorem rA_y (S : b_M) (a : Nat) (k i v : Int) (hv : (-2147483648 ≤ v ∧ v < 2147483648)) (h : i = k) : rAt (s_A S a k.toNat (iI v)) a i = v := by subst h; unfold rAt; rw [y_A_s_A, iI_to hv]
theorem rA_x (S : b_M) (a : Nat) (k i : Int) (v : Int32) (h : 0 ≤ i ∧ 0 ≤ k ∧ i ≠ k) : rAt (s_A S a k.toNat v) a i = rAt S a i := by unfold rAt; rw [x_A_s_A _ _ _ _ _ _ (Or.inr (by omega))]
theorem lA_I (S : b_M) (f b : Nat) (v : Int32) (a : Nat) (i : Int) : lAt (s_I S f b v) a i = lAt S a i := rfl
theorem lA_J (S : b_M) (f b : Nat) (v : Int64) (a : Nat) (i : Int) : lAt (s_J S f b v) a i = lAt S a i := rfl
theorem lA_A (S : b_M) (b k : Nat) (v : Int32) (a : Nat) (i : Int) : lAt (s_A S b k v) a i = lAt S a i := rfl
theorem lA_B (S : b_M) (b k : Nat) (v : Int64) (a : Nat) (i : Int) (h : a ≠ b) : lAt (s_B S b k v) a i = lAt S a i := by unfold lAt; rw [x_B_s_B _ _ _ _ _ _ (Or.inl h)]
theorem b_eq.rA {S S' : b_M} {a : Nat} (h : b_eq S S' a) (i : Int) : rAt S' a i = rAt S a i := by unfold rAt; rw [h.2.2.2.2.2.1]
theorem b_eq.lA {S S' : b_M} {a : Nat} (h : b_eq S S' a) (i : Int) : lAt S' a i = lAt S a i := by unfold lAt; rw [h.2.2.2.2.2.2.1]
section BINTS
variable {X : b_T} {cc : ByteArray} {own : String} {fr lo mc ms : Nat} {S : b_M} {z ce sl pc : Nat} {lv : List (Nat × Value)} {st : List Value}
theorem u_iadd (hX : b_X X cc own fr lo mc ms) {a b : Int} (d : decode cc pc = .ok (.iadd, 1)) (k : b_V X S z ce sl (pc + 1) lv (.int (iI (a + b)) :: st)) : b_V X S z ce sl pc lv (.int (iI b) :: .int (iI a) :: st) := v_iadd hX d (by rw [iI_add]; exact k)
theorem u_isub (hX : b_X X cc own fr lo mc ms) {a b : Int} (d : decode cc pc = .ok (.isub, 1)) (k : b_V X S z ce sl (pc + 1) lv (.int (iI (a - b)) :: st)) : b_V X S z ce sl pc lv (.int (iI b) :: .int (iI a) :: st) := v_isub hX d (by rw [iI_sub]; exact k)
theorem u_imul (hX : b_X X cc own fr lo mc ms) {a b : Int} (d : decode cc pc = .ok (.imul, 1)) (k : b_V X S z ce sl (pc + 1) lv (.int (iI (a * b)) :: st)) : b_V X S z ce sl pc lv (.int (iI b) :: .int (iI a) :: st) := v_imul hX d (by rw [iI_mul]; exact k)
theorem u_ineg (hX : b_X X cc own fr lo mc ms) {a : Int} (d : decode cc pc = .ok (.ineg, 1)) (k : b_V X S z ce sl (pc + 1) lv (.int (iI (-a)) :: st)) : b_V X S z ce sl pc lv (.int (iI a) :: st) := v_ineg hX d (by rw [iI_neg]; exact k)
theorem u_ladd (hX : b_X X cc own fr lo mc ms) {a b : Int} (d : decode cc pc = .ok (.ladd, 1)) (k : b_V X S z ce sl (pc + 1) lv (.long (jJ (a + b)) :: st)) : b_V X S z ce sl pc lv (.long (jJ b) :: .long (jJ a) :: st) := v_ladd hX d (by rw [jJ_add]; exact k)
theorem u_lsub (hX : b_X X cc own fr lo mc ms) {a b : Int} (d : decode cc pc = .ok (.lsub, 1)) (k : b_V X S z ce sl (pc + 1) lv (.long (jJ (a - b)) :: st)) : b_V X S z ce sl pc lv (.long (jJ b) :: .long (jJ a) :: st) := v_lsub hX d (by rw [jJ_sub]; exact k)
theorem u_lmul (hX : b_X X cc own fr lo mc ms) {a b : Int} (d : decode cc pc = .ok (.lmul, 1)) (k : b_V X S z ce sl (pc + 1) lv (.long (jJ (a * b)) :: st)) : b_V X S z ce sl pc lv (.long (jJ b) :: .long (jJ a) :: st) := v_lmul hX d (by rw [jJ_mul]; exact k)
theorem u_lneg (hX : b_X X cc own fr lo mc ms) {a : Int} (d : decode cc pc = .ok (.lneg, 1)) (k : b_V X S z ce sl (pc + 1) lv (.long (jJ (-a)) :: st)) : b_V X S z ce sl pc lv (.long (jJ a) :: st) := v_lneg hX d (by rw [jJ_neg]; exact k)
theorem u_idiv (hX : b_X X cc own fr lo mc ms) {a b : Int} (d : decode cc pc = .ok (.idiv, 1)) (ha : (-2147483648 ≤ a ∧ a < 2147483648)) (h0 : 0 ≤ a) (hb : (-2147483648 ≤ b ∧ b < 2147483648)) (h1 : 0 < b) (k : b_V X S z ce sl (pc + 1) lv (.int (iI (a / b)) :: st)) : b_V X S z ce sl pc lv (.int (iI b) :: .int (iI a) :: st) := v_idiv hX d (fun q => by rw [iI_0, iI_eq hb ⟨by decide, by decide⟩] at q; omega) (by rw [iI_div ha h0 hb h1]; exact k)
theorem u_irem (hX : b_X X cc own fr lo mc ms) {a b : Int} (d : decode cc pc = .ok (.irem, 1)) (ha : (-2147483648 ≤ a ∧ a < 2147483648)) (h0 : 0 ≤ a) (hb : (-2147483648 ≤ b ∧ b < 2147483648)) (h1 : 0 < b) (k : b_V X S z ce sl (pc + 1) lv (.int (iI (a % b)) :: st)) : b_V X S z ce sl pc lv (.int (iI b) :: .int (iI a) :: st) := v_irem hX d (fun q => by rw [iI_0, iI_eq hb ⟨by decide, by decide⟩] at q; omega) (by rw [iI_rem ha h0 hb h1]; exact k)
theorem u_lrem (hX : b_X X cc own fr lo mc ms) {a b : Int} (d : decode cc pc = .ok (.lrem, 1)) (ha : (-9223372036854775808 ≤ a ∧ a < 9223372036854775808)) (h0 : 0 ≤ a) (hb : (-9223372036854775808 ≤ b ∧ b < 9223372036854775808)) (h1 : 0 < b) (k : b_V X S z ce sl (pc + 1) lv (.long (jJ (a % b)) :: st)) : b_V X S z ce sl pc lv (.long (jJ b) :: .long (jJ a) :: st) := v_lrem hX d (fun q => by have q : jJ b = jJ 0 := q; rw [jJ_eq hb ⟨by decide, by decide⟩] at q; omega) (by rw [jJ_rem ha h0 hb h1]; exact k)
theorem u_i2l (hX : b_X X cc own fr lo mc ms) {a : Int} (d : decode cc pc = .ok (.i2l, 1)) (ha : (-2147483648 ≤ a ∧ a < 2147483648)) (k : b_V X S z ce sl (pc + 1) lv (.long (jJ a) :: st)) : b_V X S z ce sl pc lv (.int (iI a) :: st) := v_i2l hX d (by rw [iI_l ha]; exact k)
theorem u_l2i (hX : b_X X cc own fr lo mc ms) {a : Int} (d : decode cc pc = .ok (.l2i, 1)) (k : b_V X S z ce sl (pc + 1) lv (.int (iI a) :: st)) : b_V X S z ce sl pc lv (.long (jJ a) :: st) := v_l2i hX d (by rw [jJ_i]; exact k)
theorem u_iand (hX : b_X X cc own fr lo mc ms) {x y : Int32} (d : decode cc pc = .ok (.iand, 1)) (k : ∀ v : Int, (-2147483648 ≤ v ∧ v < 2147483648) → b_V X S z ce sl (pc + 1) lv (.int (iI v) :: st)) : b_V X S z ce sl pc lv (.int y :: .int x :: st) := v_iand hX d (by obtain ⟨v, e, h⟩ := i_ex (x &&& y); rw [e]; exact k v h)
theorem u_ior (hX : b_X X cc own fr lo mc ms) {x y : Int32} (d : decode cc pc = .ok (.ior, 1)) (k : ∀ v : Int, (-2147483648 ≤ v ∧ v < 2147483648) → b_V X S z ce sl (pc + 1) lv (.int (iI v) :: st)) : b_V X S z ce sl pc lv (.int y :: .int x :: st) := v_ior hX d (by obtain ⟨v, e, h⟩ := i_ex (x ||| y); rw [e]; exact k v h)
theorem u_ishl (hX : b_X X cc own fr lo mc ms) {x y : Int32} (d : decode cc pc = .ok (.ishl, 1)) (k : ∀ v : Int, (-2147483648 ≤ v ∧ v < 2147483648) → b_V X S z ce sl (pc + 1) lv (.int (iI v) :: st)) : b_V X S z ce sl pc lv (.int y :: .int x :: st) := v_ishl hX d (by obtain ⟨v, e, h⟩ := i_ex (x <<< (y &&& 31)); rw [e]; exact k v h)
theorem u_ishr (hX : b_X X cc own fr lo mc ms) {x y : Int32} (d : decode cc pc = .ok (.ishr, 1)) (k : ∀ v : Int, (-2147483648 ≤ v ∧ v < 2147483648) → b_V X S z ce sl (pc + 1) lv (.int (iI v) :: st)) : b_V X S z ce sl pc lv (.int y :: .int x :: st) := v_ishr hX d (by obtain ⟨v, e, h⟩ := i_ex (x >>> (y &&& 31)); rw [e]; exact k v h)
theorem u_i2b (hX : b_X X cc own fr lo mc ms) {x : Int32} (d : decode cc pc = .ok (.i2b, 1)) (k : ∀ v : Int, (-2147483648 ≤ v ∧ v < 2147483648) → b_V X S z ce sl (pc + 1) lv (.int (iI v) :: st)) : b_V X S z ce sl pc lv (.int x :: st) := v_i2b hX d (by obtain ⟨v, e, h⟩ := i_ex (x.toInt8.toInt32); rw [e]; exact k v h)
theorem u_i2c (hX : b_X X cc own fr lo mc ms) {x : Int32} (d : decode cc pc = .ok (.i2c, 1)) (k : ∀ v : Int, (-2147483648 ≤ v ∧ v < 2147483648) → b_V X S z ce sl (pc + 1) lv (.int (iI v) :: st)) : b_V X S z ce sl pc lv (.int x :: st) := v_i2c hX d (by obtain ⟨v, e, h⟩ := i_ex ((x.toUInt32 % 65536).toInt32); rw [e]; exact k v h)
theorem u_lcmp (hX : b_X X cc own fr lo mc ms) {a b : Int} (d : decode cc pc = .ok (.lcmp, 1)) (ha : (-9223372036854775808 ≤ a ∧ a < 9223372036854775808)) (hb : (-9223372036854775808 ≤ b ∧ b < 9223372036854775808)) (k : ∀ r : Int, (-2147483648 ≤ r ∧ r < 2147483648) → (0 < r ↔ b < a) ∧ (r < 0 ↔ a < b) ∧ (r = 0 ↔ a = b) → b_V X S z ce sl (pc + 1) lv (.int (iI r) :: st)) : b_V X S z ce sl pc lv (.long (jJ b) :: .long (jJ a) :: st) := v_lcmp hX d (by obtain ⟨r, e, h1, h2⟩ := lg_ex ha hb; rw [e]; exact k r h1 h2)
theorem u_if_eq (hX : b_X X cc own fr lo mc ms) {a : Int} {off : Int} {tgt : Nat} (d : decode cc pc = .ok (.ifCond .eq off, 3)) (ht : (pc : Int) + off = (tgt : Int)) (ha : (-2147483648 ≤ a ∧ a < 2147483648)) (kt : a = 0 → b_V X S z ce sl tgt lv st) (kf : ¬ (a = 0) → b_V X S z ce sl (pc + 3) lv st) : b_V X S z ce sl pc lv (.int (iI a) :: st) := v_if_eq hX d ht (fun h => kt ((iI_eq ha ⟨by decide, by decide⟩).mp h)) (fun h => kf (fun q => h ((iI_eq ha ⟨by decide, by decide⟩).mpr q)))
theorem u_icmp_eq (hX : b_X X cc own fr lo mc ms) {a b : Int} {off : Int} {tgt : Nat} (d : decode cc pc = .ok (.if_icmp .eq off, 3)) (ht : (pc : Int) + off = (tgt : Int)) (ha : (-2147483648 ≤ a ∧ a < 2147483648)) (hb : (-2147483648 ≤ b ∧ b < 2147483648)) (kt : a = b → b_V X S z ce sl tgt lv st) (kf : ¬ (a = b) → b_V X S z ce sl (pc + 3) lv st) : b_V X S z ce sl pc lv (.int (iI b) :: .int (iI a) :: st) := v_icmp_eq hX d ht (fun h => kt ((iI_eq ha hb).mp h)) (fun h => kf (fun q => h ((iI_eq ha hb).mpr q)))
theorem u_if_ne (hX : b_X X cc own fr lo mc ms) {a : Int} {off : Int} {tgt : Nat} (d : decode cc pc = .ok (.ifCond .ne off, 3)) (ht : (pc : Int) + off = (tgt : Int)) (ha : (-2147483648 ≤ a ∧ a < 2147483648)) (kt : a ≠ 0 → b_V X S z ce sl tgt lv st) (kf : ¬ (a ≠ 0) → b_V X S z ce sl (pc + 3) lv st) : b_V X S z ce sl pc lv (.int (iI a) :: st) := v_if_ne hX d ht (fun h => kt (fun q => h ((iI_eq ha ⟨by decide, by decide⟩).mpr q))) (fun h => kf (fun q => q ((iI_eq ha ⟨by decide, by decide⟩).mp h)))
theorem u_icmp_ne (hX : b_X X cc own fr lo mc ms) {a b : Int} {off : Int} {tgt : Nat} (d : decode cc pc = .ok (.if_icmp .ne off, 3)) (ht : (pc : Int) + off = (tgt : Int)) (ha : (-2147483648 ≤ a ∧ a < 2147483648)) (hb : (-2147483648 ≤ b ∧ b < 2147483648)) (kt : a ≠ b → b_V X S z ce sl tgt lv st) (kf : ¬ (a ≠ b) → b_V X S z ce sl (pc + 3) lv st) : b_V X S z ce sl pc lv (.int (iI b) :: .int (iI a) :: st) := v_icmp_ne hX d ht (fun h => kt (fun q => h ((iI_eq ha hb).mpr q))) (fun h => kf (fun q => q ((iI_eq ha hb).mp h)))
theorem u_if_lt (hX : b_X X cc own fr lo mc ms) {a : Int} {off : Int} {tgt : Nat} (d : decode cc pc = .ok (.ifCond .lt off, 3)) (ht : (pc : Int) + off = (tgt : Int)) (ha : (-2147483648 ≤ a ∧ a < 2147483648)) (kt : a < 0 → b_V X S z ce sl tgt lv st) (kf : ¬ (a < 0) → b_V X S z ce sl (pc + 3) lv st) : b_V X S z ce sl pc lv (.int (iI a) :: st) := v_if_lt hX d ht (fun h => kt ((iI_lt ha ⟨by decide, by decide⟩).mp h)) (fun h => kf (fun q => h ((iI_lt ha ⟨by decide, by decide⟩).mpr q)))
theorem u_icmp_lt (hX : b_X X cc own fr lo mc ms) {a b : Int} {off : Int} {tgt : Nat} (d : decode cc pc = .ok (.if_icmp .lt off, 3)) (ht : (pc : Int) + off = (tgt : Int)) (ha : (-2147483648 ≤ a ∧ a < 2147483648)) (hb : (-2147483648 ≤ b ∧ b < 2147483648)) (kt : a < b → b_V X S z ce sl tgt lv st) (kf : ¬ (a < b) → b_V X S z ce sl (pc + 3) lv st) : b_V X S z ce sl pc lv (.int (iI b) :: .int (iI a) :: st) := v_icmp_lt hX d ht (fun h => kt ((iI_lt ha hb).mp h)) (fun h => kf (fun q => h ((iI_lt ha hb).mpr q)))
theorem u_if_ge (hX : b_X X cc own fr lo mc ms) {a : Int} {off : Int} {tgt : Nat} (d : decode cc pc = .ok (.ifCond .ge off, 3)) (ht : (pc : Int) + off = (tgt : Int)) (ha : (-2147483648 ≤ a ∧ a < 2147483648)) (kt : 0 ≤ a → b_V X S z ce sl tgt lv st) (kf : ¬ (0 ≤ a) → b_V X S z ce sl (pc + 3) lv st) : b_V X S z ce sl pc lv (.int (iI a) :: st) := v_if_ge hX d ht (fun h => kt ((iI_le ⟨by decide, by decide⟩ ha).mp h)) (fun h => kf (fun q => h ((iI_le ⟨by decide, by decide⟩ ha).mpr q)))
theorem u_icmp_ge (hX : b_X X cc own fr lo mc ms) {a b : Int} {off : Int} {tgt : Nat} (d : decode cc pc = .ok (.if_icmp .ge off, 3)) (ht : (pc : Int) + off = (tgt : Int)) (ha : (-2147483648 ≤ a ∧ a < 2147483648)) (hb : (-2147483648 ≤ b ∧ b < 2147483648)) (kt : b ≤ a → b_V X S z ce sl tgt lv st) (kf : ¬ (b ≤ a) → b_V X S z ce sl (pc + 3) lv st) : b_V X S z ce sl pc lv (.int (iI b) :: .int (iI a) :: st) := v_icmp_ge hX d ht (fun h => kt ((iI_le hb ha).mp h)) (fun h => kf (fun q => h ((iI_le hb ha).mpr q)))
theorem u_if_gt (hX : b_X X cc own fr lo mc ms) {a : Int} {off : Int} {tgt : Nat} (d : decode cc pc = .ok (.ifCond .gt off, 3)) (ht : (pc : Int) + off = (tgt : Int)) (ha : (-2147483648 ≤ a ∧ a < 2147483648)) (kt : 0 < a → b_V X S z ce sl tgt lv st) (kf : ¬ (0 < a) → b_V X S z ce sl (pc + 3) lv st) : b_V X S z ce sl pc lv (.int (iI a) :: st) := v_if_gt hX d ht (fun h => kt ((iI_lt ⟨by decide, by decide⟩ ha).mp h)) (fun h => kf (fun q => h ((iI_lt ⟨by decide, by decide⟩ ha).mpr q)))
theorem u_icmp_gt (hX : b_X X cc own fr lo mc ms) {a b : Int} {off : Int} {tgt : Nat} (d : decode cc pc = .ok (.if_icmp .gt off, 3)) (ht : (pc : Int) + off = (tgt : Int)) (ha : (-2147483648 ≤ a ∧ a < 2147483648)) (hb : (-2147483648 ≤ b ∧ b < 2147483648)) (kt : b < a → b_V X S z ce sl tgt lv st) (kf : ¬ (b < a) → b_V X S z ce sl (pc + 3) lv st) : b_V X S z ce sl pc lv (.int (iI b) :: .int (iI a) :: st) := v_icmp_gt hX d ht (fun h => kt ((iI_lt hb ha).mp h)) (fun h => kf (fun q => h ((iI_lt hb ha).mpr q)))
theorem u_if_le (hX : b_X X cc own fr lo mc ms) {a : Int} {off : Int} {tgt : Nat} (d : decode cc pc = .ok (.ifCond .le off, 3)) (ht : (pc : Int) + off = (tgt : Int)) (ha : (-2147483648 ≤ a ∧ a < 2147483648)) (kt : a ≤ 0 → b_V X S z ce sl tgt lv st) (kf : ¬ (a ≤ 0) → b_V X S z ce sl (pc + 3) lv st) : b_V X S z ce sl pc lv (.int (iI a) :: st) := v_if_le hX d ht (fun h => kt ((iI_le ha ⟨by decide, by decide⟩).mp h)) (fun h => kf (fun q => h ((iI_le ha ⟨by decide, by decide⟩).mpr q)))
theorem u_icmp_le (hX : b_X X cc own fr lo mc ms) {a b : Int} {off : Int} {tgt : Nat} (d : decode cc pc = .ok (.if_icmp .le off, 3)) (ht : (pc : Int) + off = (tgt : Int)) (ha : (-2147483648 ≤ a ∧ a < 2147483648)) (hb : (-2147483648 ≤ b ∧ b < 2147483648)) (kt : a ≤ b → b_V X S z ce sl tgt lv st) (kf : ¬ (a ≤ b) → b_V X S z ce sl (pc + 3) lv st) : b_V X S z ce sl pc lv (.int (iI b) :: .int (iI a) :: st) := v_icmp_le hX d ht (fun h => kt ((iI_le ha hb).mp h)) (fun h => kf (fun q => h ((iI_le ha hb).mpr q)))
theorem u_iald (hX : b_X X cc own fr lo mc ms) {a L : Nat} {t : Int} (hk : m_K S a = 13) (hL : m_L S a = L) (hi : 0 ≤ t ∧ t < (L : Int)) (hl : (L : Int) < 2147483648) (d : decode cc pc = .ok (.iaload, 1)) (kk : ∀ v : Int, v = rAt S a t → (-2147483648 ≤ v ∧ v < 2147483648) → b_V X S z ce sl (pc + 1) lv (.int (iI v) :: st)) : b_V X S z ce sl pc lv (.int (iI t) :: .ref a :: st) := v_iald hX hk (by rw [hL]; exact iI_in hi hl) d (by rw [iI_clamp ⟨by omega, by omega⟩, ← iI_of (m_A S a t.toNat)]; exact kk _ rfl (iI_b _))
theorem u_bald (hX : b_X X cc own fr lo mc ms) {a L : Nat} {t : Int} (hk : m_K S a = 12) (hL : m_L S a = L) (hi : 0 ≤ t ∧ t < (L : Int)) (hl : (L : Int) < 2147483648) (d : decode cc pc = .ok (.baload, 1)) (kk : ∀ v : Int, v = rAt S a t → (-2147483648 ≤ v ∧ v < 2147483648) → b_V X S z ce sl (pc + 1) lv (.int (iI v) :: st)) : b_V X S z ce sl pc lv (.int (iI t) :: .ref a :: st) := v_bald hX hk (by rw [hL]; exact iI_in hi hl) d (by rw [iI_clamp ⟨by omega, by omega⟩, ← iI_of (m_A S a t.toNat)]; exact kk _ rfl (iI_b _))
theorem u_zald (hX : b_X X cc own fr lo mc ms) {a L : Nat} {t : Int} (hk : m_K S a = 15) (hL : m_L S a = L) (hi : 0 ≤ t ∧ t < (L : Int)) (hl : (L : Int) < 2147483648) (d : decode cc pc = .ok (.baload, 1)) (kk : ∀ v : Int, v = rAt S a t → (-2147483648 ≤ v ∧ v < 2147483648) → b_V X S z ce sl (pc + 1) lv (.int (iI v) :: st)) : b_V X S z ce sl pc lv (.int (iI t) :: .ref a :: st) := v_zald hX hk (by rw [hL]; exact iI_in hi hl) d (by rw [iI_clamp ⟨by omega, by omega⟩, ← iI_of (m_A S a t.toNat)]; exact kk _ rfl (iI_b _))
theorem u_lald (hX : b_X X cc own fr lo mc ms) {a L : Nat} {t : Int} (hk : m_K S a = 14) (hL : m_L S a = L) (hi : 0 ≤ t ∧ t < (L : Int)) (hl : (L : Int) < 2147483648) (d : decode cc pc = .ok (.laload, 1)) (kk : ∀ v : Int, v = lAt S a t → (-9223372036854775808 ≤ v ∧ v < 9223372036854775808) → b_V X S z ce sl (pc + 1) lv (.long (jJ v) :: st)) : b_V X S z ce sl pc lv (.int (iI t) :: .ref a :: st) := v_lald hX hk (by rw [hL]; exact iI_in hi hl) d (by rw [iI_clamp ⟨by omega, by omega⟩, ← jJ_of (m_B S a t.toNat)]; exact kk _ rfl (jJ_b _))
theorem u_iast (hX : b_X X cc own fr lo mc ms) {a L : Nat} {t : Int} {x : Int32} (hk : m_K S a = 13) (hL : m_L S a = L) (hi : 0 ≤ t ∧ t < (L : Int)) (hl : (L : Int) < 2147483648) (d : decode cc pc = .ok (.iastore, 1)) (kk : b_V X (s_A S a t.toNat x) z ce sl (pc + 1) lv st) : b_V X S z ce sl pc lv (.int x :: .int (iI t) :: .ref a :: st) := v_iast hX hk (by rw [hL]; exact iI_in hi hl) d (by rw [iI_clamp ⟨by omega, by omega⟩]; exact kk)
theorem u_bast (hX : b_X X cc own fr lo mc ms) {a L : Nat} {t : Int} {x : Int32} (hk : m_K S a = 12) (hL : m_L S a = L) (hi : 0 ≤ t ∧ t < (L : Int)) (hl : (L : Int) < 2147483648) (d : decode cc pc = .ok (.bastore, 1)) (kk : b_V X (s_A S a t.toNat x.toInt8.toInt32) z ce sl (pc + 1) lv st) : b_V X S z ce sl pc lv (.int x :: .int (iI t) :: .ref a :: st) := v_bast hX hk (by rw [hL]; exact iI_in hi hl) d (by rw [iI_clamp ⟨by omega, by omega⟩]; exact kk)
theorem u_zast (hX : b_X X cc own fr lo mc ms) {a L : Nat} {t v : Int} (hk : m_K S a = 15) (hL : m_L S a = L) (hi : 0 ≤ t ∧ t < (L : Int)) (hl : (L : Int) < 2147483648) (hv : v = 0 ∨ v = 1) (d : decode cc pc = .ok (.bastore, 1)) (kk : b_V X (s_A S a t.toNat (iI v)) z ce sl (pc + 1) lv st) : b_V X S z ce sl pc lv (.int (iI v) :: .int (iI t) :: .ref a :: st) := v_zast hX hk (by rw [hL]; exact iI_in hi hl) (nar_b hv) d (by rw [iI_clamp ⟨by omega, by omega⟩]; exact kk)
theorem u_last (hX : b_X X cc own fr lo mc ms) {a L : Nat} {t : Int} {x : Int64} (hk : m_K S a = 14) (hL : m_L S a = L) (hi : 0 ≤ t ∧ t < (L : Int)) (hl : (L : Int) < 2147483648) (d : decode cc pc = .ok (.lastore, 1)) (kk : b_V X (s_B S a t.toNat x) z ce sl (pc + 1) lv st) : b_V X S z ce sl pc lv (.long x :: .int (iI t) :: .ref a :: st) := v_last hX hk (by rw [hL]; exact iI_in hi hl) d (by rw [iI_clamp ⟨by omega, by omega⟩]; exact kk)
theorem mvF {S : b_M} {ci a k f : Nat} {v : Int32} (hy : m_Y ci k = 1) (hf : 100 * ci + k = f) (hv : m_I S f a = v) : m_V S ci a k = .int v := by subst hf; simp [m_V, hy, hv]
theorem mvG {S : b_M} {ci a k f : Nat} {v : Int64} (hy : m_Y ci k = 2) (hf : 100 * ci + k = f) (hv : m_J S f a = v) : m_V S ci a k = .long v := by subst hf; simp [m_V, hy, hv]
end BINTS
/-- writing twice -/
theorem s_I_2 (S : b_M) (f a : Nat) (v w : Int32) : s_I (s_I S f a v) f a w = s_I S f a w := by
  unfold s_I u_2
  simp only [m_K, m_I, m_J, m_P, m_L, m_A, m_B, m_C]
  congr 2
  funext j b
  by_cases h : j = f ∧ b = a <;> simp [h]
theorem s_I_id (S : b_M) (f a : Nat) (v : Int32) (h : m_I S f a = v) : s_I S f a v = S := by
  subst h
  unfold s_I u_2
  simp only [m_K, m_I, m_J, m_P, m_L, m_A, m_B, m_C]
  have e : (fun j b => if j = f ∧ b = a then S.2.1 f a else S.2.1 j b) = S.2.1 := by
    funext j b
    by_cases h : j = f ∧ b = a
    · rw [if_pos h, h.1, h.2]
    · rw [if_neg h]
  rw [e]
