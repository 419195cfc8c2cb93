section BMORE
variable {X : b_T} {cc : ByteArray} {own : String} {fr lo mc ms : Nat} {S : b_M} {z ce sl pc : Nat} {lv : List (Nat × Value)} {st : List Value}
theorem v_fresh (k : (∀ b, m_K S b < 18 → b < z) → b_V X S z ce sl pc lv st) : b_V X S z ce sl pc lv st := by
  obtain ⟨p, l, e, R, s, m, args, below, meth, c, Q, D, cy, kn, B, nL⟩ := X
  intro H locs ls hR hS hl
  exact k (fun b hb => by
    have h1 := (hR.2 b hb).2.lt
    rw [hR.1] at h1
    exact h1) H locs ls hR hS hl
theorem b_ord : ∀ i, i < 17 → ∀ j, j < 17 → ([0, 1, 2, 3, 4, 5, 6, 7, 8, 9, 10, 11, 12, 13, 14, 15, 16] : List Int32).getD i 0 = ([0, 1, 2, 3, 4, 5, 6, 7, 8, 9, 10, 11, 12, 13, 14, 15, 16] : List Int32).getD j 0 → i = j := by decide
theorem v_inj (hX : b_X X cc own fr lo mc ms) (k : (∀ i j, i < 17 → j < 17 → b_kn X i = b_kn X j → i = j) → b_V X S z ce sl pc lv st) : b_V X S z ce sl pc lv st := by
  obtain ⟨p, l, e, R, s, m, args, below, meth, c, Q, D, cy, kn, B, nL⟩ := X
  obtain ⟨hx, hb, hml, hown, hts, ⟨hK, hB, hZ, hZ9⟩, hR0, hst0⟩ := id hX
  refine k (fun i j hi hj hij => ?_)
  have hij : kn i = kn j := hij
  have h1 := (hZ.2.2.2.1 i hi).2.2.1 _ (List.mem_cons_self)
  have h2 := (hZ.2.2.2.1 j hj).2.2.1 _ (List.mem_cons_self)
  obtain ⟨cf, kk, i0, f, cell, a1, a2, a3, a4, a5, a6⟩ := h1
  obtain ⟨cf', kk', i0', f', cell', b1, b2, b3, b4, b5, b6⟩ := h2
  cases a1.symm.trans b1
  rw [hij] at a3
  cases a3.symm.trans b3
  have h9 := a5.symm.trans b5
  exact b_ord i hi j hj (Value.int.inj (Option.some.inj h9))
def oI (k i : Nat) : Int := ((b_oF.getD k ("", "", "", [])).2.2.2.getD i 0).toInt
theorem oI_eq (k i : Nat) : (b_oF.getD k ("", "", "", [])).2.2.2.getD i 0 = iI (oI k i) := (iI_of _).symm
theorem oI_b : ∀ k, k < 5 → ∀ i, i < 17 → 0 ≤ oI k i ∧ oI k i ≤ 16 := by decide +kernel
theorem oI_z : ∀ i, i < 17 → oI 1 i = 0 ∨ oI 1 i = 1 := by decide +kernel
theorem oI_ord : ∀ i, i < 17 → oI 0 i = (i : Int) := by decide +kernel
theorem w_getO (hX : b_X X cc own fr lo mc ms) {i idx k : Nat} (hi : i < 17) (hq : b_oF.getD k ("", "", "", []) ∈ b_oF) (hlink : Cond.fieldLink own idx (b_oF.getD k ("", "", "", [])).1 (b_oF.getD k ("", "", "", [])).2.1 (b_oF.getD k ("", "", "", [])).2.2.1 ∈ b_Ws) (d : decode cc pc = .ok (.getfield idx, 3)) (kk : b_V X S z ce sl (pc + 3) lv (.int (iI (oI k i)) :: st)) : b_V X S z ce sl pc lv (.ref (b_kn X i) :: st) :=
  v_getO hX hi hq hlink d (by rw [oI_eq]; exact kk)
def slI (i : Nat) : Int := (b_sl.getD i 0 : Nat)
theorem slI_b : ∀ i, i < 17 → 0 ≤ slI i ∧ slI i ≤ 6 := by decide +kernel
theorem w_tlenB (hX : b_X X cc own fr lo mc ms) {i : Nat} (hi : i < 17) (d : decode cc pc = .ok (.arraylength, 1)) (kk : b_V X S z ce sl (pc + 1) lv (.int (iI (slI i)) :: st)) : b_V X S z ce sl pc lv (.ref (b_kn X (40 + i)) :: st) := v_tlenB hX hi d kk
theorem w_tbB (hX : b_X X cc own fr lo mc ms) {k : Nat} {t : Int} (hk : k < 17) (hi : 0 ≤ t ∧ t < slI k) (d : decode cc pc = .ok (.baload, 1)) (kk : ∀ v : Int, (-2147483648 ≤ v ∧ v < 2147483648) → b_V X S z ce sl (pc + 1) lv (.int (iI v) :: st)) : b_V X S z ce sl pc lv (.int (iI t) :: .ref (b_kn X (40 + k)) :: st) := by
  have hb := slI_b k hk
  refine v_tbB hX hk (iI_in (L := b_sl.getD k 0) hi (by show slI k < _; omega)) d ?_
  obtain ⟨v, e, b⟩ := i_ex ((b_sb.getD k []).getD (iI t).toNatClampNeg 0)
  rw [e]
  exact kk v b
def sW (i : Nat) : Int := (b_sw.getD i 0).toInt
theorem sW_b : ∀ i, i < 17 → 0 ≤ sW i ∧ sW i ≤ 14 := by decide +kernel
theorem sW_3 : ∀ i, i < 17 → i ≠ 3 → sW i ≠ 8 := by decide +kernel
theorem w_tiW (hX : b_X X cc own fr lo mc ms) {i : Nat} (hi : i < 17) (d : decode cc pc = .ok (.iaload, 1)) (kk : b_V X S z ce sl (pc + 1) lv (.int (iI (sW i)) :: st)) : b_V X S z ce sl pc lv (.int (iI (i : Int)) :: .ref (b_kn X 18) :: st) := by
  refine v_tiW hX (iI_in (L := 17) ⟨by omega, by omega⟩ (by decide)) d ?_
  rw [iI_clamp ⟨by omega, by omega⟩, show ((i : Int)).toNat = i from by omega, show b_sw.getD i 0 = iI (sW i) from (iI_of _).symm]
  exact kk
theorem w_lookup (hX : b_X X cc own fr lo mc ms) {dflt : Int} {ps : Array (Int × Int)} {len : Nat} {x : Int32} {off : Int} {tgt : Nat} (d : decode cc pc = .ok (.lookupswitch dflt ps, len)) (hp : (ps.toList.zip (ps.toList.drop 1)).all (fun (a, next) => a.1 < next.1) = true) (ho : Op.lookupswitch.offset ps.toList dflt x.toInt = off) (ht : (pc : Int) + off = (tgt : Int)) (k : b_V X S z ce sl tgt lv st) : b_V X S z ce sl pc lv (.int x :: st) := by
  obtain ⟨p, l, e, R, s, m, args, below, meth, c, Q, D, cy, kn, B, nL⟩ := X
  intro H locs ls hR hS hl
  exact lv_lookup hX.1 hX.2.1 d hp ho ht (k H locs ls hR hS hl)
theorem u_mmin (hX : b_X X cc own fr lo mc ms) {idx : Nat} {a b : Int} (w1 : Cond.methodLink own idx Lib.Math.min.name ∈ b_Ws) (w2 : Cond.static Lib.Math.min.name ∈ b_Ws) (w3 : Cond.initialized "java/lang/Math" ∈ b_Ws) (w4 : Cond.code Lib.Math.min.name Lib.Math.min.code 2 (some .int) ∈ b_Ws) (hfr : 1 ≤ fr) (hlo : (st.map fun v => v.category).sum + 13 ≤ lo) (hc : ce ≤ mc) (hs : sl ≤ ms) (ha : -2147483648 ≤ a ∧ a < 2147483648) (hb : -2147483648 ≤ b ∧ b < 2147483648) (d : decode cc pc = .ok (.invokestatic idx, 3)) (kk : ∀ q : Int, ((q = a ∨ q = b) ∧ q ≤ a ∧ q ≤ b) → (-2147483648 ≤ q ∧ q < 2147483648) → b_V X S z ce sl (pc + 3) lv (.int (iI q) :: st)) : b_V X S z ce sl pc lv (.int (iI b) :: .int (iI a) :: st) := by
  refine v_mmin hX w1 w2 w3 w4 hfr hlo hc hs d ?_
  by_cases h : iI b < iI a
  · rw [if_pos h]
    have h1 := Int32.lt_iff_toInt_lt.mp h
    rw [iI_to ha, iI_to hb] at h1
    exact kk b ⟨Or.inr rfl, by omega, by omega⟩ hb
  · rw [if_neg h]
    have h1 : ¬ (iI b).toInt < (iI a).toInt := fun q => h (Int32.lt_iff_toInt_lt.mpr q)
    rw [iI_to ha, iI_to hb] at h1
    exact kk a ⟨Or.inl rfl, by omega, by omega⟩ ha
theorem u_mmax (hX : b_X X cc own fr lo mc ms) {idx : Nat} {a b : Int} (w1 : Cond.methodLink own idx Lib.Math.max.name ∈ b_Ws) (w2 : Cond.static Lib.Math.max.name ∈ b_Ws) (w3 : Cond.initialized "java/lang/Math" ∈ b_Ws) (w4 : Cond.code Lib.Math.max.name Lib.Math.max.code 2 (some .int) ∈ b_Ws) (hfr : 1 ≤ fr) (hlo : (st.map fun v => v.category).sum + 13 ≤ lo) (hc : ce ≤ mc) (hs : sl ≤ ms) (ha : -2147483648 ≤ a ∧ a < 2147483648) (hb : -2147483648 ≤ b ∧ b < 2147483648) (d : decode cc pc = .ok (.invokestatic idx, 3)) (kk : ∀ q : Int, ((q = a ∨ q = b) ∧ a ≤ q ∧ b ≤ q) → (-2147483648 ≤ q ∧ q < 2147483648) → b_V X S z ce sl (pc + 3) lv (.int (iI q) :: st)) : b_V X S z ce sl pc lv (.int (iI b) :: .int (iI a) :: st) := by
  refine v_mmax hX w1 w2 w3 w4 hfr hlo hc hs d ?_
  by_cases h : iI a < iI b
  · rw [if_pos h]
    have h1 := Int32.lt_iff_toInt_lt.mp h
    rw [iI_to ha, iI_to hb] at h1
    exact kk b ⟨Or.inr rfl, by omega, by omega⟩ hb
  · rw [if_neg h]
    have h1 : ¬ (iI a).toInt < (iI b).toInt := fun q => h (Int32.lt_iff_toInt_lt.mpr q)
    rw [iI_to ha, iI_to hb] at h1
    exact kk a ⟨Or.inl rfl, by omega, by omega⟩ ha
theorem u_mmaxL (hX : b_X X cc own fr lo mc ms) {idx : Nat} {a b : Int} (w1 : Cond.methodLink own idx Lib.MathLoose.max_long.x ∈ b_Ws) (w2 : Cond.static Lib.MathLoose.max_long.x ∈ b_Ws) (w3 : Cond.initialized "java/lang/Math" ∈ b_Ws) (w4 : Cond.code Lib.MathLoose.max_long.x Lib.MathLoose.max_long.code 4 (some .long) ∈ b_Ws) (hfr : 1 ≤ fr) (hlo : (st.map fun v => v.category).sum + 15 ≤ lo) (hc : ce ≤ mc) (hs : sl ≤ ms) (ha : -9223372036854775808 ≤ a ∧ a < 9223372036854775808) (hb : -9223372036854775808 ≤ b ∧ b < 9223372036854775808) (d : decode cc pc = .ok (.invokestatic idx, 3)) (kk : ∀ q : Int, ((q = a ∨ q = b) ∧ a ≤ q ∧ b ≤ q) → (-9223372036854775808 ≤ q ∧ q < 9223372036854775808) → b_V X S z ce sl (pc + 3) lv (.long (jJ q) :: st)) : b_V X S z ce sl pc lv (.long (jJ b) :: .long (jJ a) :: st) := by
  have h9 : b_V X S z ce sl (pc + 3) lv (.long (if jJ b < jJ a then jJ a else jJ b) :: st) := by
    by_cases h : jJ b < jJ a
    · rw [if_pos h]
      have h1 := Int64.lt_iff_toInt_lt.mp h
      rw [jJ_to ha, jJ_to hb] at h1
      exact kk a ⟨Or.inl rfl, by omega, by omega⟩ ha
    · rw [if_neg h]
      have h1 : ¬ (jJ b).toInt < (jJ a).toInt := fun q => h (Int64.lt_iff_toInt_lt.mpr q)
      rw [jJ_to ha, jJ_to hb] at h1
      exact kk b ⟨Or.inr rfl, by omega, by omega⟩ hb
  obtain ⟨p, l, e, R, s, m, args, below, meth, c, Q, D, cy, kn, B, nL⟩ := X
  intro H locs ls hR hS hl
  obtain ⟨hx, hb, hml, hown, hts, hG, hR0, hst0⟩ := hX
  subst hR0
  exact va_mmax_long hx hb (hml.trans hl.1.symm) hown (hts _ w1) (hts _ w2) (hts _ w3) (hts _ w4) hfr hlo hc hs d (h9 H locs ls hR hS hl)
theorem u_mabsL (hX : b_X X cc own fr lo mc ms) {idx : Nat} {a : Int64} (w1 : Cond.methodLink own idx Lib.MathLoose.abs_long.x ∈ b_Ws) (w2 : Cond.static Lib.MathLoose.abs_long.x ∈ b_Ws) (w3 : Cond.initialized "java/lang/Math" ∈ b_Ws) (w4 : Cond.code Lib.MathLoose.abs_long.x Lib.MathLoose.abs_long.code 2 (some .long) ∈ b_Ws) (hfr : 1 ≤ fr) (hlo : (st.map fun v => v.category).sum + 13 ≤ lo) (hc : ce ≤ mc) (hs : sl ≤ ms) (d : decode cc pc = .ok (.invokestatic idx, 3)) (kk : ∀ q : Int, True → (-9223372036854775808 ≤ q ∧ q < 9223372036854775808) → b_V X S z ce sl (pc + 3) lv (.long (jJ q) :: st)) : b_V X S z ce sl pc lv (.long a :: st) := by
  have h9 : b_V X S z ce sl (pc + 3) lv (.long (if 0 < a then a else -a) :: st) := by
    obtain ⟨v, e, h⟩ := j_ex (if 0 < a then a else -a)
    rw [e]
    exact kk v trivial h
  obtain ⟨p, l, e, R, s, m, args, below, meth, c, Q, D, cy, kn, B, nL⟩ := X
  intro H locs ls hR hS hl
  obtain ⟨hx, hb, hml, hown, hts, hG, hR0, hst0⟩ := hX
  subst hR0
  exact va_mabs_long hx hb (hml.trans hl.1.symm) hown (hts _ w1) (hts _ w2) (hts _ w3) (hts _ w4) hfr hlo hc hs d (h9 H locs ls hR hS hl)
end BMORE
