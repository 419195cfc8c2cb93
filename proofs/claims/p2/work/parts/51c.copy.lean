theorem arrV_pairs (cI : ClassId) (N at_ : Nat) : ∀ (vs : List (Value × Nat)) (f : Nat → Value), ∃ f' : Nat → Value, (arrV cI N f).storePairs at_ vs = arrV cI N f' ∧ ∀ j, f' j = f j ∨ ∃ q ∈ vs, f' j = q.1
  | [], f => ⟨f, rfl, fun _ => Or.inl rfl⟩
  | q :: r, f => by
    obtain ⟨f', e, h⟩ := arrV_pairs cI N at_ r (updV f (at_ + q.2) q.1)
    refine ⟨f', ?_, fun j => ?_⟩
    · show ((arrV cI N f).setSlot (at_ + q.2) q.1).storePairs at_ r = _
      rw [arrV_store]
      exact e
    · rcases h j with h1 | ⟨p, hp, h1⟩
      · rw [h1]
        unfold updV
        split
        · exact Or.inr ⟨q, List.mem_cons_self, rfl⟩
        · exact Or.inl rfl
      · exact Or.inr ⟨p, List.mem_cons_of_mem _ hp, h1⟩
theorem arrV_getD (cI : ClassId) {N j : Nat} (f : Nat → Value) (hj : j < N) : (arrV cI N f).slots.getD j .null = f j := by
  rw [Array.getD_eq_getD_getElem?, arrV_read cI f hj]
  rfl
section BCOPY
variable {X : b_T} {cc : ByteArray} {own : String} {fr lo mc ms : Nat} {S : b_M} {z ce sl pc : Nat} {lv : List (Nat × Value)} {st : List Value}
theorem w_acopyB (hX : b_X X cc own fr lo mc ms) {idx src dst : Nat} {n : Int} (hk1 : m_K S src = 12) (hk2 : m_K S dst = 12) (hn : (0 ≤ n ∧ n ≤ (m_L S src : Int)) ∧ n ≤ (m_L S dst : Int) ∧ n < 2147483648) (hy : ∀ i, fits .byte (.int (m_A S src i)) = true)
    (w1 : Cond.methodLink own idx arraycopyName ∈ b_Ws) (w2 : Cond.native arraycopyName ∈ b_Ws) (w3 : Cond.static arraycopyName ∈ b_Ws) (w4 : Cond.initialized "java/lang/System" ∈ b_Ws) (hfr : 1 ≤ fr) (hlo : (st.map fun v => v.category).sum + 18 ≤ lo) (d : decode cc pc = .ok (.invokestatic idx, 3))
    (kk : ∀ g : Nat → Int32, (∀ i, g i = m_A S dst i ∨ ∃ j, g i = m_A S src j) → b_V X (r_A S dst g) z ce sl (pc + 3) lv st) : b_V X S z ce sl pc lv (.int (iI n) :: .int (iI 0) :: .ref dst :: .int (iI 0) :: .ref src :: st) := by
  obtain ⟨p, l, e, R, s, m, args, below, meth, c, Q, D, cy, kn, B, nL⟩ := X
  intro H locs ls hR hS hl T hT X1
  obtain ⟨hx, hb, hml, hown, hts, ⟨hK, hB, hZ⟩, hR0, hst0⟩ := hX
  subst hR0
  obtain ⟨-, -, h1⟩ := hR.2 src (by rw [hk1]; omega)
  obtain ⟨hBa, -, h2⟩ := hR.2 dst (by rw [hk2]; omega)
  have h1 := h1 (by rw [hk1]; omega)
  have h2 := h2 (by rw [hk2]; omega)
  rw [hk1] at h1
  rw [hk2] at h2
  obtain ⟨-, ks, hks, comp, hkind⟩ := (hK.2 0 _ rfl).1 (m_L S src) (m_E S src)
  have hn3 : (iI n).toNatClampNeg = n.toNat := iI_clamp ⟨by omega, by omega⟩
  have hn4 : (iI n).toInt = n := iI_to ⟨by omega, by omega⟩
  have hn5 : ¬ iI n < 0 := fun q => by
    have h8 := Int32.lt_iff_toInt_lt.mp q
    have h9 : (0 : Int32).toInt = 0 := by decide
    rw [hn4, h9] at h8
    omega
  have hkind : ks.kind = .array comp .byte := hkind
  have h03 : (iI 0).toNatClampNeg = 0 := by decide
  have h04 : (iI 0).toInt = 0 := by decide
  have hE1 : ∀ j, m_E S src j = .int (m_A S src j) := fun j => by simp [m_E, hk1]
  have hE2 : ∀ j, m_E S dst j = .int (m_A S dst j) := fun j => by simp [m_E, hk2]
  have hval : ∀ i, i < (iI n).toNatClampNeg → (arrV (cy 12) (m_L S src) (m_E S src)).slots.getD ((iI 0).toNatClampNeg + i) .null = .int (m_A S src i) := fun i hi => by
    rw [h03, Nat.zero_add, arrV_getD _ _ (by omega), hE1]
  obtain ⟨vm', X2, step⟩ := X1.arraycopy (g := F0 m pc ls (.int (iI n) :: .int (iI 0) :: .ref dst :: .int (iI 0) :: .ref src :: st)) (rest := st) (src := src) (dst := dst) (srcPos := iI 0) (destPos := iI 0) (n := iI n) (cs := arrV (cy 12) (m_L S src) (m_E S src)) (cd := arrV (cy 12) (m_L S dst) (m_E S dst)) hx hown (hts _ w1) (hts _ w2) (hts _ w3) (hts _ w4) (by rw [hT]; exact h1) (by rw [hT]; exact h2) (fun k q => by cases q) (fun k q => by cases q) (fun q => by cases q) (fun q => by cases q) hks hks hkind hkind (by decide) (by decide) (by decide) hn5 (by rw [arrV_size, hn4, h04]; omega) (by rw [arrV_size, hn4, h04]; omega) (fun vm1 _ i hi => by
      rw [hval i hi]
      exact ⟨hy _, trivial⟩) rfl (hl.1.trans hml.symm) rfl (by rw [hb]; exact d) hfr (by show 2 * 0 + _ + (7 + 11) ≤ lo; omega)
  obtain ⟨f', e', hf'⟩ := arrV_pairs (cy 12) (m_L S dst) (iI 0).toNatClampNeg ((arrV (cy 12) (m_L S src) (m_E S src)).stretch (iI 0).toNatClampNeg (iI n).toNatClampNeg).zipIdx (m_E S dst)
  have hall : ∀ j, ∃ v : Int32, f' j = .int v ∧ (v = m_A S dst j ∨ ∃ k, v = m_A S src k) := fun j => by
    rcases hf' j with h9 | ⟨q, hq, h9⟩
    · exact ⟨_, h9.trans (hE2 j), Or.inl rfl⟩
    · have hq1 : q.1 ∈ (arrV (cy 12) (m_L S src) (m_E S src)).stretch (iI 0).toNatClampNeg (iI n).toNatClampNeg := (List.mem_zipIdx' hq).2 ▸ List.getElem_mem _
      obtain ⟨k, hk, e9⟩ := List.mem_map.mp hq1
      have hk := List.mem_range.mp hk
      rw [hval k hk] at e9
      exact ⟨_, h9.trans e9.symm, Or.inr ⟨k, rfl⟩⟩
  have hcell : (arrV (cy 12) (m_L S dst) (m_E S dst)).storeRun (iI 0).toNatClampNeg ((arrV (cy 12) (m_L S src) (m_E S src)).stretch (iI 0).toNatClampNeg (iI n).toNatClampNeg) = arrV (cy 12) (m_L S dst) f' := e'
  have hlt : dst < T.heap.size := (Array.getElem?_eq_some_iff.mp (by rw [hT]; exact h2)).1
  have ha : ((T.setVm vm').setCell dst (copied (arrV (cy 12) (m_L S src) (m_E S src)) (arrV (cy 12) (m_L S dst) (m_E S dst)) (iI 0) (iI 0) (iI n))).heap[dst]? = some (arrV (cy 12) (m_L S dst) f') := by
    rw [← hcell]
    exact heapAt_setCell_self _ hlt
  have hz : ((T.setVm vm').setCell dst (copied (arrV (cy 12) (m_L S src) (m_E S src)) (arrV (cy 12) (m_L S dst) (m_E S dst)) (iI 0) (iI 0) (iI n))).heap.size = H.size := by rw [size_setCell, ← hT]; rfl
  have hq : ∀ q, q ≠ dst → ((T.setVm vm').setCell dst (copied (arrV (cy 12) (m_L S src) (m_E S src)) (arrV (cy 12) (m_L S dst) (m_E S dst)) (iI 0) (iI 0) (iI n))).heap[q]? = H[q]? := fun q hq => by rw [heapAt_setCell_ne _ (Ne.symm hq), ← hT]; rfl
  have hk9 := kk (fun j => Classical.choose (hall j)) (fun j => (Classical.choose_spec (hall j)).2) _ (locs ++ ((arrV (cy 12) (m_L S src) (m_E S src)).stretch (iI 0).toNatClampNeg (iI n).toNatClampNeg).zipIdx.map fun q => ⟨dst, (iI 0).toNatClampNeg + q.2⟩) ls (hR.arr (S' := r_A S dst (fun j => Classical.choose (hall j))) hk2 (by omega) ⟨fun _ => rfl, fun _ _ => rfl, fun _ _ => rfl, fun _ _ => rfl, fun _ => rfl, fun b hb => by
      have h9 := e_r_A S dst (fun j => Classical.choose (hall j)) hb
      exact ⟨h9.2.2.2.2.2.1, h9.2.2.2.2.2.2.1, h9.2.2.2.2.2.2.2⟩⟩ hz hq (by
      rw [ha]
      congr 2
      funext j
      rw [(Classical.choose_spec (hall j)).1]
      simp [m_E, hk2, show m_K (r_A S dst (fun j => Classical.choose (hall j))) dst = m_K S dst from rfl, q_A_r_A])) ⟨by rw [hz]; exact hS.1, fun q g1 g2 => (hq q (fun e9 => g2 (by rw [e9]; exact hBa))).trans (hS.2.1 q g1 g2), fun l9 hl9 => (List.mem_append.mp hl9).elim (hS.2.2 l9) (fun h9 => by
      obtain ⟨q, hq9, rfl⟩ := List.mem_map.mp h9
      exact hBa)⟩ hl
  obtain ⟨t, a1, b1⟩ := hk9 ((T.setVm vm').setCell dst _) rfl X2
  exact ⟨t, step t a1, b1⟩
theorem w_acopyL (hX : b_X X cc own fr lo mc ms) {idx src dst : Nat} {n : Int} (hk1 : m_K S src = 14) (hk2 : m_K S dst = 14) (hn : (0 ≤ n ∧ n ≤ (m_L S src : Int)) ∧ n ≤ (m_L S dst : Int) ∧ n < 2147483648)
    (w1 : Cond.methodLink own idx arraycopyName ∈ b_Ws) (w2 : Cond.native arraycopyName ∈ b_Ws) (w3 : Cond.static arraycopyName ∈ b_Ws) (w4 : Cond.initialized "java/lang/System" ∈ b_Ws) (hfr : 1 ≤ fr) (hlo : (st.map fun v => v.category).sum + 18 ≤ lo) (d : decode cc pc = .ok (.invokestatic idx, 3))
    (kk : ∀ g : Nat → Int64, (∀ i, g i = m_B S dst i ∨ ∃ j, g i = m_B S src j) → b_V X (r_B S dst g) z ce sl (pc + 3) lv st) : b_V X S z ce sl pc lv (.int (iI n) :: .int (iI 0) :: .ref dst :: .int (iI 0) :: .ref src :: st) := by
  obtain ⟨p, l, e, R, s, m, args, below, meth, c, Q, D, cy, kn, B, nL⟩ := X
  intro H locs ls hR hS hl T hT X1
  obtain ⟨hx, hb, hml, hown, hts, ⟨hK, hB, hZ⟩, hR0, hst0⟩ := hX
  subst hR0
  obtain ⟨-, -, h1⟩ := hR.2 src (by rw [hk1]; omega)
  obtain ⟨hBa, -, h2⟩ := hR.2 dst (by rw [hk2]; omega)
  have h1 := h1 (by rw [hk1]; omega)
  have h2 := h2 (by rw [hk2]; omega)
  rw [hk1] at h1
  rw [hk2] at h2
  obtain ⟨-, ks, hks, comp, hkind⟩ := (hK.2 2 _ rfl).1 (m_L S src) (m_E S src)
  have hn3 : (iI n).toNatClampNeg = n.toNat := iI_clamp ⟨by omega, by omega⟩
  have hn4 : (iI n).toInt = n := iI_to ⟨by omega, by omega⟩
  have hn5 : ¬ iI n < 0 := fun q => by
    have h8 := Int32.lt_iff_toInt_lt.mp q
    have h9 : (0 : Int32).toInt = 0 := by decide
    rw [hn4, h9] at h8
    omega
  have hkind : ks.kind = .array comp .long := hkind
  have h03 : (iI 0).toNatClampNeg = 0 := by decide
  have h04 : (iI 0).toInt = 0 := by decide
  have hE1 : ∀ j, m_E S src j = .long (m_B S src j) := fun j => by simp [m_E, hk1]
  have hE2 : ∀ j, m_E S dst j = .long (m_B S dst j) := fun j => by simp [m_E, hk2]
  have hval : ∀ i, i < (iI n).toNatClampNeg → (arrV (cy 14) (m_L S src) (m_E S src)).slots.getD ((iI 0).toNatClampNeg + i) .null = .long (m_B S src i) := fun i hi => by
    rw [h03, Nat.zero_add, arrV_getD _ _ (by omega), hE1]
  obtain ⟨vm', X2, step⟩ := X1.arraycopy (g := F0 m pc ls (.int (iI n) :: .int (iI 0) :: .ref dst :: .int (iI 0) :: .ref src :: st)) (rest := st) (src := src) (dst := dst) (srcPos := iI 0) (destPos := iI 0) (n := iI n) (cs := arrV (cy 14) (m_L S src) (m_E S src)) (cd := arrV (cy 14) (m_L S dst) (m_E S dst)) hx hown (hts _ w1) (hts _ w2) (hts _ w3) (hts _ w4) (by rw [hT]; exact h1) (by rw [hT]; exact h2) (fun k q => by cases q) (fun k q => by cases q) (fun q => by cases q) (fun q => by cases q) hks hks hkind hkind (by decide) (by decide) (by decide) hn5 (by rw [arrV_size, hn4, h04]; omega) (by rw [arrV_size, hn4, h04]; omega) (fun vm1 _ i hi => by
      rw [hval i hi]
      exact ⟨rfl, trivial⟩) rfl (hl.1.trans hml.symm) rfl (by rw [hb]; exact d) hfr (by show 2 * 0 + _ + (7 + 11) ≤ lo; omega)
  obtain ⟨f', e', hf'⟩ := arrV_pairs (cy 14) (m_L S dst) (iI 0).toNatClampNeg ((arrV (cy 14) (m_L S src) (m_E S src)).stretch (iI 0).toNatClampNeg (iI n).toNatClampNeg).zipIdx (m_E S dst)
  have hall : ∀ j, ∃ v : Int64, f' j = .long v ∧ (v = m_B S dst j ∨ ∃ k, v = m_B S src k) := fun j => by
    rcases hf' j with h9 | ⟨q, hq, h9⟩
    · exact ⟨_, h9.trans (hE2 j), Or.inl rfl⟩
    · have hq1 : q.1 ∈ (arrV (cy 14) (m_L S src) (m_E S src)).stretch (iI 0).toNatClampNeg (iI n).toNatClampNeg := (List.mem_zipIdx' hq).2 ▸ List.getElem_mem _
      obtain ⟨k, hk, e9⟩ := List.mem_map.mp hq1
      have hk := List.mem_range.mp hk
      rw [hval k hk] at e9
      exact ⟨_, h9.trans e9.symm, Or.inr ⟨k, rfl⟩⟩
  have hcell : (arrV (cy 14) (m_L S dst) (m_E S dst)).storeRun (iI 0).toNatClampNeg ((arrV (cy 14) (m_L S src) (m_E S src)).stretch (iI 0).toNatClampNeg (iI n).toNatClampNeg) = arrV (cy 14) (m_L S dst) f' := e'
  have hlt : dst < T.heap.size := (Array.getElem?_eq_some_iff.mp (by rw [hT]; exact h2)).1
  have ha : ((T.setVm vm').setCell dst (copied (arrV (cy 14) (m_L S src) (m_E S src)) (arrV (cy 14) (m_L S dst) (m_E S dst)) (iI 0) (iI 0) (iI n))).heap[dst]? = some (arrV (cy 14) (m_L S dst) f') := by
    rw [← hcell]
    exact heapAt_setCell_self _ hlt
  have hz : ((T.setVm vm').setCell dst (copied (arrV (cy 14) (m_L S src) (m_E S src)) (arrV (cy 14) (m_L S dst) (m_E S dst)) (iI 0) (iI 0) (iI n))).heap.size = H.size := by rw [size_setCell, ← hT]; rfl
  have hq : ∀ q, q ≠ dst → ((T.setVm vm').setCell dst (copied (arrV (cy 14) (m_L S src) (m_E S src)) (arrV (cy 14) (m_L S dst) (m_E S dst)) (iI 0) (iI 0) (iI n))).heap[q]? = H[q]? := fun q hq => by rw [heapAt_setCell_ne _ (Ne.symm hq), ← hT]; rfl
  have hk9 := kk (fun j => Classical.choose (hall j)) (fun j => (Classical.choose_spec (hall j)).2) _ (locs ++ ((arrV (cy 14) (m_L S src) (m_E S src)).stretch (iI 0).toNatClampNeg (iI n).toNatClampNeg).zipIdx.map fun q => ⟨dst, (iI 0).toNatClampNeg + q.2⟩) ls (hR.arr (S' := r_B S dst (fun j => Classical.choose (hall j))) hk2 (by omega) ⟨fun _ => rfl, fun _ _ => rfl, fun _ _ => rfl, fun _ _ => rfl, fun _ => rfl, fun b hb => by
      have h9 := e_r_B S dst (fun j => Classical.choose (hall j)) hb
      exact ⟨h9.2.2.2.2.2.1, h9.2.2.2.2.2.2.1, h9.2.2.2.2.2.2.2⟩⟩ hz hq (by
      rw [ha]
      congr 2
      funext j
      rw [(Classical.choose_spec (hall j)).1]
      simp [m_E, hk2, show m_K (r_B S dst (fun j => Classical.choose (hall j))) dst = m_K S dst from rfl, q_B_r_B])) ⟨by rw [hz]; exact hS.1, fun q g1 g2 => (hq q (fun e9 => g2 (by rw [e9]; exact hBa))).trans (hS.2.1 q g1 g2), fun l9 hl9 => (List.mem_append.mp hl9).elim (hS.2.2 l9) (fun h9 => by
      obtain ⟨q, hq9, rfl⟩ := List.mem_map.mp h9
      exact hBa)⟩ hl
  obtain ⟨t, a1, b1⟩ := hk9 ((T.setVm vm').setCell dst _) rfl X2
  exact ⟨t, step t a1, b1⟩
end BCOPY
