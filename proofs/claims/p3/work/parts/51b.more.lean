section BMORE
variable {X : b_T} {cc : ByteArray} {own : String} {fr lo mc ms : Nat} {S : b_M} {z ce sl pc : Nat} {lv : List (Nat × Value)} {st : List Value}
theorem v_fresh (k : (∀ b, m_K S b < 18 → b < z) → b_V X S z ce sl pc lv st) : b_V X S z ce sl pc lv st := by
  obtain ⟨p, l, e, R, s, m, args, below, meth, c, Q, D, cy, kn, B, nL⟩ := X
  intro H locs ls hR hS hl
  exact k (fun b hb => by
    have h1 := (hR.2 b hb).2.lt
    rw [hR.1] at h1
    exact h1) H locs ls hR hS hl
theorem b_ord : ∀ i, i < 17 → ∀ j, j < 17 → ([0, 1, 2, 3, 4, 5, 6, 7, 8, 9, 10, 11, 12, 13, 14, 15, 16] : List Int32).getD i 0 = ([0, 1, 2, 3, 4, 5, 6, 7, 8, 9, 10, 11, 12, 13, 14, 15, 16] : List Int32).getD j 0 → i = j := by decide
theorem v_inj (hX : b_X X cc own fr lo mc ms) (k : (∀ i j, i < 17 → j < 17 → b_kn X i = b_kn X j → i = j) → b_V X S z ce sl pc lv st) : b_V X S z ce sl pc lv st := by
  obtain ⟨p, l, e, R, s, m, args, below, meth, c, Q, D, cy, kn, B, nL⟩ := X
  obtain ⟨hx, hb, hml, hown, hts, ⟨hK, hB, hZ, hZ9⟩, hR0, hst0⟩ := id hX
  refine k (fun i j hi hj hij => ?_)
  have hij : kn i = kn j := hij
  have h1 := (hZ.2.2.2.1 i hi).2.2.1 _ (List.mem_cons_self)
  have h2 := (hZ.2.2.2.1 j hj).2.2.1 _ (List.mem_cons_self)
  obtain ⟨cf, kk, i0, f, cell, a1, a2, a3, a4, a5, a6⟩ := h1
  obtain ⟨cf', kk', i0', f', cell', b1, b2, b3, b4, b5, b6⟩ := h2
  cases a1.symm.trans b1
  rw [hij] at a3
  cases a3.symm.trans b3
  have h9 := a5.symm.trans b5
  exact b_ord i hi j hj (by cases h9; rfl)
end BMORE
