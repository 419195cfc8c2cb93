/-! ===== groups ===== -/
def lT (S : b_M) (x : Nat) : Int := match m_P S 204 (x + 11) with
  | some t => (m_L S t : Int)
  | none => 0
def lM (S : b_M) (x : Nat) : Int := match m_P S 304 (x + 425) with
  | some t => (m_L S t : Int)
  | none => 0
def lA (S : b_M) (x : Nat) : Int := lT S x + lM S x
theorem lT_at {S : b_M} {x t : Nat} (e : m_P S 204 (x + 11) = some t) : lT S x = (m_L S t : Int) := by unfold lT; rw [e]
theorem lM_at {S : b_M} {x t : Nat} (e : m_P S 304 (x + 425) = some t) : lM S x = (m_L S t : Int) := by unfold lM; rw [e]
/-- a power of two from 256 to 2097152 -/
def isP (L : Int) : Prop := ∃ k : Nat, k ≤ 13 ∧ L = 256 * 2 ^ k
theorem isP_b {L : Int} (h : isP L) : 256 ≤ L ∧ L ≤ 2097152 := by
  obtain ⟨k, hk, rfl⟩ := h
  have h1 : ∀ k, k ≤ 13 → (256 : Int) ≤ 256 * 2 ^ k ∧ (256 : Int) * 2 ^ k ≤ 2097152 := by decide
  exact h1 k hk
theorem isP_2 {L : Int} (h : isP L) (hl : L < 2097152) : isP (L * 2) := by
  obtain ⟨k, hk, rfl⟩ := h
  have h1 : ∀ k, k ≤ 13 → (256 : Int) * 2 ^ k < 2097152 → k ≤ 12 := by decide
  have h2 := h1 k hk hl
  exact ⟨k + 1, by omega, by rw [Int.pow_succ]; omega⟩
/-- where a row may be written: in the object, or among what was made since w -/
abbrev inW (x w a : Nat) : Prop := (x ≤ a ∧ a < x + 457) ∨ w ≤ a
theorem cFr.kl {Fs Ps As : List Nat} {w : Nat} {S S1 : b_M} {x a k : Nat} (f : cFr Fs Ps As w S S1 x) (h : m_K S a = k) (hk : k < 18) : m_K S1 a = k ∧ m_L S1 a = m_L S a := by
  have h1 := f.2.2.2.2 a (by rw [h]; exact hk)
  exact ⟨h1.1.trans h, h1.2.1⟩
/-- names -/
def gN (S : b_M) (x : Nat) : Prop := nOk S x ∧ ∃ la se : Int, m_I S 504 (x + 6) = iI la ∧ m_I S 505 (x + 6) = iI se ∧ 0 ≤ la ∧ la ≤ 400 ∧ 0 ≤ se ∧ se ≤ 400
theorem gN.fr {Fs Ps As : List Nat} {w : Nat} {S S1 : b_M} {x : Nat} (h : gN S x) (g : cS S x) (f : cFr Fs Ps As w S S1 x) (hd : (504 ∉ Fs ∧ 505 ∉ Fs) ∧ 7 ∉ As ∧ 8 ∉ As) : gN S1 x := by
  obtain ⟨h1, la, se, e1, e2, p⟩ := h
  exact ⟨h1.fr g f hd.2, la, se, (f.2.1 504 hd.1.1 _).trans e1, (f.2.1 505 hd.1.2 _).trans e2, p⟩
/-- errors -/
def gR (S : b_M) (x : Nat) : Prop := ∃ t : Int, m_I S 102 (x + 2) = iI t ∧ 0 ≤ t ∧ t ≤ 50
theorem gR.fr {Fs Ps As : List Nat} {w : Nat} {S S1 : b_M} {x : Nat} (h : gR S x) (_ : cS S x) (f : cFr Fs Ps As w S S1 x) (hd : 102 ∉ Fs) : gR S1 x := by
  obtain ⟨t, e, p⟩ := h
  exact ⟨t, (f.2.1 102 hd _).trans e, p⟩
/-- the program's statements -/
def gP (S : b_M) (x : Nat) : Prop := ∃ t : Int, m_I S 604 (x + 5) = iI t ∧ 0 ≤ t ∧ t ≤ 400
theorem gP.fr {Fs Ps As : List Nat} {w : Nat} {S S1 : b_M} {x : Nat} (h : gP S x) (_ : cS S x) (f : cFr Fs Ps As w S S1 x) (hd : 604 ∉ Fs) : gP S1 x := by
  obtain ⟨t, e, p⟩ := h
  exact ⟨t, (f.2.1 604 hd _).trans e, p⟩
/-- expressions and their terms -/
def eI (S : b_M) (x w : Nat) : Prop := eF S x (lT S x) ∧ (256 ≤ lT S x ∧ lT S x ≤ 65536) ∧ ∃ (tm : Nat) (he ht : Int), m_P S 204 (x + 11) = some tm ∧ m_K S tm = 14 ∧ inW x w tm ∧ m_I S 205 (x + 11) = iI he ∧ m_I S 206 (x + 11) = iI ht ∧ 0 ≤ he ∧ he ≤ 3208 ∧ 0 ≤ ht ∧ ht ≤ lT S x
theorem lT.fr {Fs Ps As : List Nat} {w w' : Nat} {S S1 : b_M} {x : Nat} (h : eI S x w') (f : cFr Fs Ps As w S S1 x) (hd : 204 ∉ Ps) : lT S1 x = lT S x := by
  obtain ⟨-, -, tm, he, ht, e1, k1, -⟩ := h
  rw [lT_at e1, lT_at ((f.2.2.1 204 hd _).trans e1), (f.kl k1 (by decide)).2]
theorem eI.fr {Fs Ps As : List Nat} {w w' : Nat} {S S1 : b_M} {x : Nat} (h : eI S x w') (g : cS S x) (f : cFr Fs Ps As w S S1 x) (hd : (205 ∉ Fs ∧ 206 ∉ Fs) ∧ 204 ∉ Ps ∧ 14 ∉ As) : eI S1 x w' := by
  have hl := lT.fr h f hd.2.1
  obtain ⟨h1, h2, tm, he, ht, e1, k1, p1, e2, e3, p⟩ := h
  rw [← hl] at h1 h2 p
  exact ⟨h1.fr g f hd.2.2, h2, tm, he, ht, (f.2.2.1 204 hd.2.1 _).trans e1, (f.kl k1 (by decide)).1, p1, (f.2.1 205 hd.1.1 _).trans e2, (f.2.1 206 hd.1.2 _).trans e3, p⟩
/-- the row in which lines are put together -/
def hM (S : b_M) (x w : Nat) : Prop := isP (lM S x) ∧ ∃ md : Nat, m_P S 304 (x + 425) = some md ∧ m_K S md = 12 ∧ inW x w md
theorem lM.fr {Fs Ps As : List Nat} {w w' : Nat} {S S1 : b_M} {x : Nat} (h : hM S x w') (f : cFr Fs Ps As w S S1 x) (hd : 304 ∉ Ps) : lM S1 x = lM S x := by
  obtain ⟨-, md, e1, k1, -⟩ := h
  rw [lM_at e1, lM_at ((f.2.2.1 304 hd _).trans e1), (f.kl k1 (by decide)).2]
theorem hM.fr {Fs Ps As : List Nat} {w w' : Nat} {S S1 : b_M} {x : Nat} (h : hM S x w') (_ : cS S x) (f : cFr Fs Ps As w S S1 x) (hd : 304 ∉ Ps) : hM S1 x w' := by
  have hl := lM.fr h f hd
  obtain ⟨h1, md, e1, k1, p1⟩ := h
  rw [← hl] at h1
  exact ⟨h1, md, (f.2.2.1 304 hd _).trans e1, (f.kl k1 (by decide)).1, p1⟩
theorem lA.fr {Fs Ps As : List Nat} {w w' w2 : Nat} {S S1 : b_M} {x : Nat} (h : eI S x w') (h2 : hM S x w2) (f : cFr Fs Ps As w S S1 x) (hd : 204 ∉ Ps ∧ 304 ∉ Ps) : lA S1 x = lA S x := by
  unfold lA
  rw [lT.fr h f hd.1, lM.fr h2 f hd.2]
theorem lA_le {S : b_M} {x w w2 : Nat} (h : eI S x w) (h2 : hM S x w2) : lA S x ≤ 2162688 := by
  have h1 := isP_b h2.1
  have h3 := h.2.1
  unfold lA
  omega
/-- the scanner, within lo and hi of its row -/
def sI (S : b_M) (x : Nat) (lo hi : Int) : Prop := ∃ (bv L : Nat) (at_ to_ wf wt : Int), m_P S 700 (x + 419) = some bv ∧ m_K S bv = 12 ∧ m_L S bv = L ∧ m_I S 701 (x + 419) = iI at_ ∧ m_I S 702 (x + 419) = iI to_ ∧ m_I S 703 (x + 419) = iI wf ∧ m_I S 704 (x + 419) = iI wt ∧ 0 ≤ lo ∧ lo ≤ at_ ∧ at_ ≤ to_ ∧ to_ ≤ hi ∧ hi ≤ (L : Int) ∧ (L : Int) ≤ 2097152 ∧ 0 ≤ wf ∧ wf ≤ wt ∧ wt < 2147483648
theorem sI.fr {Fs Ps As : List Nat} {w : Nat} {S S1 : b_M} {x : Nat} {lo hi : Int} (h : sI S x lo hi) (_ : cS S x) (f : cFr Fs Ps As w S S1 x) (hd : (701 ∉ Fs ∧ 702 ∉ Fs ∧ 703 ∉ Fs ∧ 704 ∉ Fs) ∧ 700 ∉ Ps) : sI S1 x lo hi := by
  obtain ⟨bv, L, at_, to_, wf, wt, e1, k1, l1, e2, e3, e4, e5, p⟩ := h
  have hk := f.kl k1 (by decide)
  exact ⟨bv, L, at_, to_, wf, wt, (f.2.2.1 700 hd.2 _).trans e1, hk.1, hk.2.trans l1, (f.2.1 701 hd.1.1 _).trans e2, (f.2.1 702 hd.1.2.1 _).trans e3, (f.2.1 703 hd.1.2.2.1 _).trans e4, (f.2.1 704 hd.1.2.2.2 _).trans e5, p⟩
/-- a row of a call -/
theorem isC_kk {S : b_M} {x a : Nat} (h : cS S x) (g : isC x a) : m_K S (a + 1) = 12 ∧ m_L S (a + 1) = 100 := by
  obtain ⟨j, hj, rfl⟩ := g
  exact (h.2.2.2.2 j hj).2.2.2.2.2.1
theorem isC_kf {S : b_M} {x a : Nat} (h : cS S x) (g : isC x a) : m_K S (a + 2) = 13 ∧ m_L S (a + 2) = 4 := by
  obtain ⟨j, hj, rfl⟩ := g
  exact (h.2.2.2.2 j hj).2.2.2.2.2.2.1
theorem isC_kt {S : b_M} {x a : Nat} (h : cS S x) (g : isC x a) : m_K S (a + 3) = 13 ∧ m_L S (a + 3) = 4 := by
  obtain ⟨j, hj, rfl⟩ := g
  exact (h.2.2.2.2 j hj).2.2.2.2.2.2.2
theorem oOk.fr' {kn : Nat → Nat} {Fs Ps As : List Nat} {w : Nat} {S S1 : b_M} {x : Nat} (h : oOk kn S x) (g : cS S x) (f : cFr Fs Ps As w S S1 x) (hd : 800 ∉ Ps) : oOk kn S1 x := oOk.fr h g f hd
theorem c_ex (x : Int32) : ∃ v : Int, (x.toUInt32 % 65536).toInt32 = iI v ∧ (-2147483648 ≤ v ∧ v < 2147483648) ∧ narrow .char (.int (iI v)) = .int (iI v) := by
  refine ⟨((x.toUInt32 % 65536).toInt32).toInt, (iI_of _).symm, iI_b _, ?_⟩
  rw [iI_of]
  have h : (x.toUInt32 % 65536).toUInt16.toUInt32 = x.toUInt32 % 65536 := by
    apply UInt32.toNat_inj.mp
    simp
  show Value.int (((x.toUInt32 % 65536).toUInt16.toUInt32).toInt32) = _
  rw [h]
theorem r_shr0 (a : Int) : iI a >>> (iI 0 &&& 31) = iI a := by
  have h : (iI 0 &&& 31 : Int32) = 0 := by decide
  rw [h]
  simp
set_option maxRecDepth 100000 in
set_option maxHeartbeats 4000000 in
theorem g_isPlain {kn : Nat → Nat} {B : Nat} {S : b_M} {z x w : Nat} {lo : Int} {hi : Int} (h : cS S x) (g_sI : sI S x lo hi) : b_C kn B yX9_isPlain cX9_isPlain 2 (some .boolean) 0 0 0 0 [.ref (x + 419)] S z (fun r S' z' => z = z' ∧ S = S' ∧ ∃ q : Int, r = some (.int (iI q)) ∧ (q = 0 ∨ q = 1) ∧ (True)) (fun _ _ _ => False) := by
  obtain ⟨bv, L, at_, to_, wf, wt, e1, k1, l1, e2, e3, e4, e5, p1, p2, p3, p4, p5, p6, p7, p8, p9⟩ := g_sI
  refine (t_isPlain (w := w) (bv := bv) (Lbv := L) h e2 ⟨by omega, by omega⟩ e3 ⟨by omega, by omega⟩ e1 k1 l1 (by omega) (by omega)).mono ?_ (fun _ _ _ h => h)
  rintro r S1 z1 ⟨rfl, rfl, q_, rfl, bq, pq⟩
  exact ⟨rfl, rfl, q_, rfl, bq, trivial⟩
set_option maxRecDepth 100000 in
set_option maxHeartbeats 4000000 in
theorem g_left {kn : Nat → Nat} {B : Nat} {S : b_M} {z x w : Nat} {lo : Int} {hi : Int} (h : cS S x) (g_sI : sI S x lo hi) : b_C kn B yX9_left cX9_left 1 (some .int) 0 0 0 0 [.ref (x + 419)] S z (fun r S' z' => z = z' ∧ S = S' ∧ ∃ q : Int, r = some (.int (iI q)) ∧ (-2147483648 ≤ q ∧ q < 2147483648) ∧ (0 ≤ q ∧ q ≤ 2097152)) (fun _ _ _ => False) := by
  obtain ⟨bv, L, at_, to_, wf, wt, e1, k1, l1, e2, e3, e4, e5, p1, p2, p3, p4, p5, p6, p7, p8, p9⟩ := g_sI
  refine (t_left (w := w) h e2 ⟨by omega, by omega⟩ e3 ⟨by omega, by omega⟩ (by omega)).mono ?_ (fun _ _ _ h => h)
  rintro r S1 z1 ⟨rfl, rfl, q_, rfl, bq, pq⟩
  exact ⟨rfl, rfl, q_, rfl, bq, (by omega)⟩
set_option maxRecDepth 100000 in
set_option maxHeartbeats 4000000 in
theorem g_passBlanks {kn : Nat → Nat} {B : Nat} {S : b_M} {z x w : Nat} {lo : Int} {hi : Int} (h : cS S x) (g_sI : sI S x lo hi) : b_C kn B yX9_passBlanks cX9_passBlanks 1 none 0 0 0 0 [.ref (x + 419)] S z (fun r S' z' => z = z' ∧ cFr [701] [] [] w S S' x ∧ r = none ∧ (True) ∧ (sI S' x lo hi)) (fun _ _ _ => False) := by
  obtain ⟨bv, L, at_, to_, wf, wt, e1, k1, l1, e2, e3, e4, e5, p1, p2, p3, p4, p5, p6, p7, p8, p9⟩ := g_sI
  refine (t_passBlanks (w := w) (bv := bv) (Lbv := L) h e2 ⟨by omega, by omega⟩ e3 ⟨by omega, by omega⟩ e1 k1 l1 (by omega) (by omega)).mono ?_ (fun _ _ _ h => h)
  rintro r S1 z1 ⟨rfl, f, a1, rfl, e_a1, b_a1, pq⟩
  have hk := f.kl k1 (by decide)
  exact ⟨rfl, f, rfl, trivial, ⟨bv, L, a1, to_, wf, wt, (f.2.2.1 700 (by decide) _).trans e1, hk.1, hk.2.trans l1, e_a1, (f.2.1 702 (by decide) _).trans e3, (f.2.1 703 (by decide) _).trans e4, (f.2.1 704 (by decide) _).trans e5, by omega, by omega, by omega, by omega, by omega, by omega, by omega, by omega, by omega⟩⟩
set_option maxRecDepth 100000 in
set_option maxHeartbeats 4000000 in
theorem g_isAtEnd {kn : Nat → Nat} {B : Nat} {S : b_M} {z x w : Nat} {lo : Int} {hi : Int} (h : cS S x) (g_sI : sI S x lo hi) : b_C kn B yX9_isAtEnd cX9_isAtEnd 1 (some .boolean) 1 20 0 0 [.ref (x + 419)] S z (fun r S' z' => z = z' ∧ cFr [701] [] [] w S S' x ∧ ∃ q : Int, r = some (.int (iI q)) ∧ (q = 0 ∨ q = 1) ∧ (True) ∧ (sI S' x lo hi)) (fun _ _ _ => False) := by
  obtain ⟨bv, L, at_, to_, wf, wt, e1, k1, l1, e2, e3, e4, e5, p1, p2, p3, p4, p5, p6, p7, p8, p9⟩ := g_sI
  refine (t_isAtEnd (w := w) (bv := bv) (Lbv := L) h e2 ⟨by omega, by omega⟩ e3 ⟨by omega, by omega⟩ e1 k1 l1 (by omega) (by omega)).mono ?_ (fun _ _ _ h => h)
  rintro r S1 z1 ⟨rfl, f, q_, a1, rfl, bq, e_a1, b_a1, pq⟩
  have hk := f.kl k1 (by decide)
  exact ⟨rfl, f, q_, rfl, bq, trivial, ⟨bv, L, a1, to_, wf, wt, (f.2.2.1 700 (by decide) _).trans e1, hk.1, hk.2.trans l1, e_a1, (f.2.1 702 (by decide) _).trans e3, (f.2.1 703 (by decide) _).trans e4, (f.2.1 704 (by decide) _).trans e5, by omega, by omega, by omega, by omega, by omega, by omega, by omega, by omega, by omega⟩⟩
set_option maxRecDepth 100000 in
set_option maxHeartbeats 4000000 in
theorem g_takes {kn : Nat → Nat} {B : Nat} {S : b_M} {z x w : Nat} {c : Int} {lo : Int} {hi : Int} (h : cS S x) (b_c : -2147483648 ≤ c ∧ c < 2147483648) (g_sI : sI S x lo hi) : b_C kn B yX9_takes cX9_takes 2 (some .boolean) 1 20 0 0 [.ref (x + 419), .int (iI c)] S z (fun r S' z' => z = z' ∧ cFr [701] [] [] w S S' x ∧ ∃ q : Int, r = some (.int (iI q)) ∧ (q = 0 ∨ q = 1) ∧ (True) ∧ (sI S' x lo hi)) (fun _ _ _ => False) := by
  obtain ⟨bv, L, at_, to_, wf, wt, e1, k1, l1, e2, e3, e4, e5, p1, p2, p3, p4, p5, p6, p7, p8, p9⟩ := g_sI
  refine (t_takes (w := w) (bv := bv) (Lbv := L) (c := c) h e2 ⟨by omega, by omega⟩ e3 ⟨by omega, by omega⟩ e1 k1 l1 (by omega) b_c (by omega)).mono ?_ (fun _ _ _ h => h)
  rintro r S1 z1 ⟨rfl, f, q_, a1, rfl, bq, e_a1, b_a1, pq⟩
  have hk := f.kl k1 (by decide)
  exact ⟨rfl, f, q_, rfl, bq, trivial, ⟨bv, L, a1, to_, wf, wt, (f.2.2.1 700 (by decide) _).trans e1, hk.1, hk.2.trans l1, e_a1, (f.2.1 702 (by decide) _).trans e3, (f.2.1 703 (by decide) _).trans e4, (f.2.1 704 (by decide) _).trans e5, by omega, by omega, by omega, by omega, by omega, by omega, by omega, by omega, by omega⟩⟩
set_option maxRecDepth 100000 in
set_option maxHeartbeats 4000000 in
theorem g_readSign {kn : Nat → Nat} {B : Nat} {S : b_M} {z x w : Nat} {lo : Int} {hi : Int} (h : cS S x) (g_sI : sI S x lo hi) : b_C kn B yX9_readSign cX9_readSign 1 (some .int) 2 41 0 0 [.ref (x + 419)] S z (fun r S' z' => z = z' ∧ cFr [701] [] [] w S S' x ∧ ∃ q : Int, r = some (.int (iI q)) ∧ (-2147483648 ≤ q ∧ q < 2147483648) ∧ (-1 ≤ q ∧ q ≤ 1) ∧ (sI S' x lo hi)) (fun _ _ _ => False) := by
  obtain ⟨bv, L, at_, to_, wf, wt, e1, k1, l1, e2, e3, e4, e5, p1, p2, p3, p4, p5, p6, p7, p8, p9⟩ := g_sI
  refine (t_readSign (w := w) (bv := bv) (Lbv := L) h e2 ⟨by omega, by omega⟩ e3 ⟨by omega, by omega⟩ e1 k1 l1 (by omega) (by omega)).mono ?_ (fun _ _ _ h => h)
  rintro r S1 z1 ⟨rfl, f, q_, a1, rfl, bq, e_a1, b_a1, pq⟩
  have hk := f.kl k1 (by decide)
  exact ⟨rfl, f, q_, rfl, bq, (by omega), ⟨bv, L, a1, to_, wf, wt, (f.2.2.1 700 (by decide) _).trans e1, hk.1, hk.2.trans l1, e_a1, (f.2.1 702 (by decide) _).trans e3, (f.2.1 703 (by decide) _).trans e4, (f.2.1 704 (by decide) _).trans e5, by omega, by omega, by omega, by omega, by omega, by omega, by omega, by omega, by omega⟩⟩
set_option maxRecDepth 100000 in
set_option maxHeartbeats 4000000 in
theorem g_readName {kn : Nat → Nat} {B : Nat} {S : b_M} {z x w : Nat} {lo : Int} {hi : Int} (h : cS S x) (g_sI : sI S x lo hi) : b_C kn B yX9_readName cX9_readName 4 (some .long) 1 21 0 0 [.ref (x + 419)] S z (fun r S' z' => z = z' ∧ cFr [701, 703, 704] [] [] w S S' x ∧ ∃ q : Int, r = some (.long (jJ q)) ∧ (-9223372036854775808 ≤ q ∧ q < 9223372036854775808) ∧ (True) ∧ (sI S' x lo hi)) (fun _ _ _ => False) := by
  obtain ⟨bv, L, at_, to_, wf, wt, e1, k1, l1, e2, e3, e4, e5, p1, p2, p3, p4, p5, p6, p7, p8, p9⟩ := g_sI
  refine (t_readName (w := w) (bv := bv) (Lbv := L) h e2 ⟨by omega, by omega⟩ e3 ⟨by omega, by omega⟩ e1 k1 l1 (by omega) (by omega)).mono ?_ (fun _ _ _ h => h)
  rintro r S1 z1 ⟨rfl, f, q_, a1, f1, t1, rfl, bq, e_a1, b_a1, e_f1, b_f1, e_t1, b_t1, pq⟩
  have hk := f.kl k1 (by decide)
  exact ⟨rfl, f, q_, rfl, bq, trivial, ⟨bv, L, a1, to_, f1, t1, (f.2.2.1 700 (by decide) _).trans e1, hk.1, hk.2.trans l1, e_a1, (f.2.1 702 (by decide) _).trans e3, e_f1, e_t1, by omega, by omega, by omega, by omega, by omega, by omega, by omega, by omega, by omega⟩⟩
set_option maxRecDepth 100000 in
set_option maxHeartbeats 4000000 in
theorem g_readLabel {kn : Nat → Nat} {B : Nat} {S : b_M} {z x w : Nat} {lo : Int} {hi : Int} (h : cS S x) (g_sI : sI S x lo hi) : b_C kn B yX9_readLabel cX9_readLabel 4 (some .long) 2 44 0 0 [.ref (x + 419)] S z (fun r S' z' => z = z' ∧ cFr [701, 703, 704] [] [] w S S' x ∧ ∃ q : Int, r = some (.long (jJ q)) ∧ (-9223372036854775808 ≤ q ∧ q < 9223372036854775808) ∧ (True) ∧ (sI S' x lo hi)) (fun _ _ _ => False) := by
  obtain ⟨bv, L, at_, to_, wf, wt, e1, k1, l1, e2, e3, e4, e5, p1, p2, p3, p4, p5, p6, p7, p8, p9⟩ := g_sI
  refine (t_readLabel (w := w) (bv := bv) (Lbv := L) h e2 ⟨by omega, by omega⟩ e3 ⟨by omega, by omega⟩ e1 k1 l1 (by omega) (by omega)).mono ?_ (fun _ _ _ h => h)
  rintro r S1 z1 ⟨rfl, f, q_, a1, f1, t1, rfl, bq, e_a1, b_a1, e_f1, b_f1, e_t1, b_t1, pq⟩
  have hk := f.kl k1 (by decide)
  exact ⟨rfl, f, q_, rfl, bq, trivial, ⟨bv, L, a1, to_, f1, t1, (f.2.2.1 700 (by decide) _).trans e1, hk.1, hk.2.trans l1, e_a1, (f.2.1 702 (by decide) _).trans e3, e_f1, e_t1, by omega, by omega, by omega, by omega, by omega, by omega, by omega, by omega, by omega⟩⟩
set_option maxRecDepth 100000 in
set_option maxHeartbeats 4000000 in
theorem g_readOperation {kn : Nat → Nat} {B : Nat} {S : b_M} {z x w : Nat} {lo : Int} {hi : Int} (h : cS S x) (g_sI : sI S x lo hi) : b_C kn B yX9_readOperation cX9_readOperation 2 (some .boolean) 2 44 0 0 [.ref (x + 419)] S z (fun r S' z' => z = z' ∧ cFr [701, 703, 704] [] [] w S S' x ∧ ∃ q : Int, r = some (.int (iI q)) ∧ (q = 0 ∨ q = 1) ∧ (True) ∧ (sI S' x lo hi)) (fun _ _ _ => False) := by
  obtain ⟨bv, L, at_, to_, wf, wt, e1, k1, l1, e2, e3, e4, e5, p1, p2, p3, p4, p5, p6, p7, p8, p9⟩ := g_sI
  refine (t_readOperation (w := w) (bv := bv) (Lbv := L) h e2 ⟨by omega, by omega⟩ e3 ⟨by omega, by omega⟩ e1 k1 l1 (by omega) (by omega)).mono ?_ (fun _ _ _ h => h)
  rintro r S1 z1 ⟨rfl, f, q_, a1, f1, t1, rfl, bq, e_a1, b_a1, e_f1, b_f1, e_t1, b_t1, pq⟩
  have hk := f.kl k1 (by decide)
  exact ⟨rfl, f, q_, rfl, bq, trivial, ⟨bv, L, a1, to_, f1, t1, (f.2.2.1 700 (by decide) _).trans e1, hk.1, hk.2.trans l1, e_a1, (f.2.1 702 (by decide) _).trans e3, e_f1, e_t1, by omega, by omega, by omega, by omega, by omega, by omega, by omega, by omega, by omega⟩⟩
set_option maxRecDepth 100000 in
set_option maxHeartbeats 4000000 in
theorem g_readOperand {kn : Nat → Nat} {B : Nat} {S : b_M} {z x w : Nat} {lo : Int} {hi : Int} (h : cS S x) (g_sI : sI S x lo hi) : b_C kn B yX9_readOperand cX9_readOperand 1 none 1 20 0 0 [.ref (x + 419)] S z (fun r S' z' => z = z' ∧ cFr [701, 703, 704] [] [] w S S' x ∧ ∃ f1 t1 : Int, r = none ∧ m_I S' 703 (x + 419) = iI f1 ∧ (-2147483648 ≤ f1 ∧ f1 < 2147483648) ∧ m_I S' 704 (x + 419) = iI t1 ∧ (-2147483648 ≤ t1 ∧ t1 < 2147483648) ∧ (lo ≤ f1 ∧ f1 ≤ t1 ∧ t1 ≤ hi) ∧ (sI S' x lo hi)) (fun _ _ _ => False) := by
  obtain ⟨bv, L, at_, to_, wf, wt, e1, k1, l1, e2, e3, e4, e5, p1, p2, p3, p4, p5, p6, p7, p8, p9⟩ := g_sI
  refine (t_readOperand (w := w) (bv := bv) (Lbv := L) h e2 ⟨by omega, by omega⟩ e3 ⟨by omega, by omega⟩ e1 k1 l1 (by omega) (by omega)).mono ?_ (fun _ _ _ h => h)
  rintro r S1 z1 ⟨rfl, f, a1, f1, t1, rfl, e_a1, b_a1, e_f1, b_f1, e_t1, b_t1, pq⟩
  have hk := f.kl k1 (by decide)
  exact ⟨rfl, f, f1, t1, rfl, e_f1, b_f1, e_t1, b_t1, (by omega), ⟨bv, L, a1, to_, f1, t1, (f.2.2.1 700 (by decide) _).trans e1, hk.1, hk.2.trans l1, e_a1, (f.2.1 702 (by decide) _).trans e3, e_f1, e_t1, by omega, by omega, by omega, by omega, by omega, by omega, by omega, by omega, by omega⟩⟩
set_option maxRecDepth 100000 in
set_option maxHeartbeats 4000000 in
theorem g_readNumber {kn : Nat → Nat} {B : Nat} {S : b_M} {z x w : Nat} {lo : Int} {hi : Int} (h : cS S x) (g_sI : sI S x lo hi) : b_C kn B yX9_readNumber cX9_readNumber 7 (some .long) 1 20 0 0 [.ref (x + 419)] S z (fun r S' z' => z = z' ∧ cFr [701] [] [] w S S' x ∧ ∃ q : Int, r = some (.long (jJ q)) ∧ (-9223372036854775808 ≤ q ∧ q < 9223372036854775808) ∧ (True) ∧ (sI S' x lo hi)) (fun _ _ _ => False) := by
  obtain ⟨bv, L, at_, to_, wf, wt, e1, k1, l1, e2, e3, e4, e5, p1, p2, p3, p4, p5, p6, p7, p8, p9⟩ := g_sI
  refine (t_readNumber (w := w) (bv := bv) (Lbv := L) h e2 ⟨by omega, by omega⟩ e3 ⟨by omega, by omega⟩ e1 k1 l1 (by omega) (by omega)).mono ?_ (fun _ _ _ h => h)
  rintro r S1 z1 ⟨rfl, f, q_, a1, rfl, bq, e_a1, b_a1, pq⟩
  have hk := f.kl k1 (by decide)
  exact ⟨rfl, f, q_, rfl, bq, trivial, ⟨bv, L, a1, to_, wf, wt, (f.2.2.1 700 (by decide) _).trans e1, hk.1, hk.2.trans l1, e_a1, (f.2.1 702 (by decide) _).trans e3, (f.2.1 703 (by decide) _).trans e4, (f.2.1 704 (by decide) _).trans e5, by omega, by omega, by omega, by omega, by omega, by omega, by omega, by omega, by omega⟩⟩
set_option maxRecDepth 100000 in
set_option maxHeartbeats 4000000 in
theorem g_start {kn : Nat → Nat} {B : Nat} {S : b_M} {z x w : Nat} {f_ : Int} {l_ : Int} {src : Nat} {Ls : Nat} (h : cS S x) (b_f_ : -2147483648 ≤ f_ ∧ f_ < 2147483648) (b_l_ : -2147483648 ≤ l_ ∧ l_ < 2147483648) (k_src : m_K S src = 12) (l_src : m_L S src = Ls) (c_src : (Ls : Int) ≤ 2097152) (g_ : ∃ lo9 hi9, sI S x lo9 hi9) (p : 0 ≤ f_ ∧ f_ ≤ l_ ∧ l_ ≤ (Ls : Int)) : b_C kn B yX9_start cX9_start 4 none 0 0 0 0 [.ref (x + 419), .ref src, .int (iI f_), .int (iI l_)] S z (fun r S' z' => z = z' ∧ cFr [701, 702] [700] [] w S S' x ∧ r = none ∧ (True) ∧ (sI S' x f_ l_)) (fun _ _ _ => False) := by
  obtain ⟨lo9, hi9, bv, L, at_, to_, wf, wt, e1, k1, l1, e2, e3, e4, e5, p1, p2, p3, p4, p5, p6, p7, p8, p9⟩ := g_
  refine (t_start (w := w) (src := src) (f_ := f_) (l_ := l_) h b_f_ b_l_ k_src l_src c_src (by omega)).mono ?_ (fun _ _ _ h => h)
  rintro r S1 z1 ⟨rfl, f, a1, t1, bv1, Lbv1, rfl, e_a1, b_a1, e_t1, b_t1, e_bv1, k_bv1, l_bv1, c_bv1, pq⟩
  obtain ⟨rfl, rfl, q1, q2, q3⟩ := pq
  exact ⟨rfl, f, rfl, trivial, ⟨_, _, a1, t1, wf, wt, e_bv1, k_bv1, l_bv1, e_a1, e_t1, (f.2.1 703 (by decide) _).trans e4, (f.2.1 704 (by decide) _).trans e5, by omega, by omega, by omega, by omega, by omega, by omega, by omega, by omega, by omega⟩⟩
set_option maxRecDepth 100000 in
set_option maxHeartbeats 4000000 in
theorem j_coder {kn : Nat → Nat} {B : Nat} {S : b_M} {z x w : Nat} {i : Nat} (h : cS S x) (o_i : i < 17) : b_C kn B yJ0_coder_7d493 cJ0_coder_7d493 1 (some .byte) 0 0 0 0 [.ref (kn (20 + i))] S z (fun r S' z' => z = z' ∧ S = S' ∧ ∃ q : Int, r = some (.int (iI q)) ∧ (-2147483648 ≤ q ∧ q < 2147483648) ∧ (q = 0)) (fun _ _ _ => False) := by
  refine b_enter (by decide) (Nat.le_of_ble_eq_true rfl) ?_
  intro X hX hE hnL hkn hB hI_
  subst hkn; subst hB
  clear hI_
  change b_V X S z 0 0 0 [(0, .ref (b_kn X (20 + i)))] []
  refine v_getsC hX w_3_205 dJ0_coder_7d493_0 ?_
  change b_V _ _ _ _ _ _ _ (.int (iI 1) :: _)
  refine u_if_eq hX (tgt := 13) dJ0_coder_7d493_3 (by decide) ⟨by omega, by omega⟩ (fun q => absurd q (by decide)) (fun _ => ?_)
  refine v_aload_n hX dJ0_coder_7d493_6 (i := 0) rfl rfl ?_
  refine v_getCo hX (by omega) w_7_239 dJ0_coder_7d493_7 ?_
  change b_V _ _ _ _ _ _ _ (.int (iI 0) :: _)
  refine v_goto hX (tgt := 14) dJ0_coder_7d493_10 (by decide) ?_
  exact v_zreturn hX rfl hE dJ0_coder_7d493_14 (by omega) (by omega) ⟨rfl, rfl, 0, rfl, ⟨by omega, by omega⟩, (by omega)⟩
set_option maxRecDepth 100000 in
set_option maxHeartbeats 4000000 in
theorem j_isLatin1 {kn : Nat → Nat} {B : Nat} {S : b_M} {z x w : Nat} {i : Nat} (h : cS S x) (o_i : i < 17) : b_C kn B yJ0_isLatin1_aae02 cJ0_isLatin1_aae02 1 (some .boolean) 0 0 0 0 [.ref (kn (20 + i))] S z (fun r S' z' => z = z' ∧ S = S' ∧ ∃ q : Int, r = some (.int (iI q)) ∧ (q = 0 ∨ q = 1) ∧ (q = 1)) (fun _ _ _ => False) := by
  refine b_enter (by decide) (Nat.le_of_ble_eq_true rfl) ?_
  intro X hX hE hnL hkn hB hI_
  subst hkn; subst hB
  clear hI_
  change b_V X S z 0 0 0 [(0, .ref (b_kn X (20 + i)))] []
  refine v_getsC hX w_3_205 dJ0_isLatin1_aae02_0 ?_
  change b_V _ _ _ _ _ _ _ (.int (iI 1) :: _)
  refine u_if_eq hX (tgt := 17) dJ0_isLatin1_aae02_3 (by decide) ⟨by omega, by omega⟩ (fun q => absurd q (by decide)) (fun _ => ?_)
  refine v_aload_n hX dJ0_isLatin1_aae02_6 (i := 0) rfl rfl ?_
  refine v_getCo hX (by omega) w_7_239 dJ0_isLatin1_aae02_7 ?_
  change b_V _ _ _ _ _ _ _ (.int (iI 0) :: _)
  refine u_if_ne hX (tgt := 17) dJ0_isLatin1_aae02_10 (by decide) ⟨by omega, by omega⟩ (fun q => absurd q (by decide)) (fun _ => ?_)
  refine v_iconst hX (v := iI 1) dJ0_isLatin1_aae02_13 rfl ?_
  refine v_goto hX (tgt := 18) dJ0_isLatin1_aae02_14 (by decide) ?_
  exact v_zreturn hX (nar_b (by omega)) hE dJ0_isLatin1_aae02_18 (by omega) (by omega) ⟨rfl, rfl, 1, rfl, (by omega), (by omega)⟩
set_option maxRecDepth 100000 in
set_option maxHeartbeats 4000000 in
theorem j_isEmpty {kn : Nat → Nat} {B : Nat} {S : b_M} {z x w : Nat} {i : Nat} (h : cS S x) (o_i : i < 17) : b_C kn B yJ0_isEmpty_aae02 cJ0_isEmpty_aae02 1 (some .boolean) 0 0 0 0 [.ref (kn (20 + i))] S z (fun r S' z' => z = z' ∧ S = S' ∧ ∃ q : Int, r = some (.int (iI q)) ∧ (q = 0 ∨ q = 1) ∧ (True)) (fun _ _ _ => False) := by
  refine b_enter (by decide) (Nat.le_of_ble_eq_true rfl) ?_
  intro X hX hE hnL hkn hB hI_
  subst hkn; subst hB
  clear hI_
  change b_V X S z 0 0 0 [(0, .ref (b_kn X (20 + i)))] []
  refine v_aload_n hX dJ0_isEmpty_aae02_0 (i := 0) rfl rfl ?_
  refine v_getVa hX (by omega) w_7_238 dJ0_isEmpty_aae02_1 ?_
  refine w_tlenB hX (i := i) (by omega) dJ0_isEmpty_aae02_4 ?_
  have b1_ := slI_b i (by omega)
  refine u_if_ne hX (tgt := 12) dJ0_isEmpty_aae02_5 (by decide) ⟨by omega, by omega⟩ (fun h2_ => ?_) (fun h2_ => ?_)
  ·
    refine v_iconst hX (v := iI 0) dJ0_isEmpty_aae02_12 rfl ?_
    exact v_zreturn hX (nar_b (by omega)) hE dJ0_isEmpty_aae02_13 (by omega) (by omega) ⟨rfl, rfl, 0, rfl, (by omega), trivial⟩
  ·
    refine v_iconst hX (v := iI 1) dJ0_isEmpty_aae02_8 rfl ?_
    refine v_goto hX (tgt := 13) dJ0_isEmpty_aae02_9 (by decide) ?_
    exact v_zreturn hX (nar_b (by omega)) hE dJ0_isEmpty_aae02_13 (by omega) (by omega) ⟨rfl, rfl, 1, rfl, (by omega), trivial⟩
set_option maxRecDepth 100000 in
set_option maxHeartbeats 4000000 in
theorem j_length {kn : Nat → Nat} {B : Nat} {S : b_M} {z x w : Nat} {i : Nat} (h : cS S x) (o_i : i < 17) : b_C kn B yJ0_length_8abf5 cJ0_length_8abf5 1 (some .int) 1 20 0 0 [.ref (kn (20 + i))] S z (fun r S' z' => z = z' ∧ S = S' ∧ ∃ q : Int, r = some (.int (iI q)) ∧ (-2147483648 ≤ q ∧ q < 2147483648) ∧ (q = slI i ∧ 0 ≤ q ∧ q ≤ 6)) (fun _ _ _ => False) := by
  refine b_enter (by decide) (Nat.le_of_ble_eq_true rfl) ?_
  intro X hX hE hnL hkn hB hI_
  subst hkn; subst hB
  clear hI_
  change b_V X S z 0 0 0 [(0, .ref (b_kn X (20 + i)))] []
  refine v_aload_n hX dJ0_length_8abf5_0 (i := 0) rfl rfl ?_
  refine v_getVa hX (by omega) w_7_238 dJ0_length_8abf5_1 ?_
  refine w_tlenB hX (i := i) (by omega) dJ0_length_8abf5_4 ?_
  have b1_ := slI_b i (by omega)
  refine v_aload_n hX dJ0_length_8abf5_5 (i := 0) rfl rfl ?_
  refine v_callT hX (n := 0) (by omega) rfl (j_coder (S := S) (x := x) (w := w) (i := i) h (by omega)) w_3_201 w_3_202 w_3_203 w_1_22 w_3_204 (by decide +kernel) rfl ⟨by decide, by decide⟩ ⟨by omega, by omega⟩ (Nat.le_of_ble_eq_true rfl) rfl dJ0_length_8abf5_6 (fun _ _ _ q => q) ?_
  rintro r2_ S2_ z2_ ⟨rfl, rfl, v3_, rfl, b_v3_, q2_⟩
  obtain rfl : v3_ = 0 := by omega
  refine v_ishr hX dJ0_length_8abf5_9 ?_
  rw [r_shr0]
  exact v_ireturn hX hE dJ0_length_8abf5_10 (by omega) (by omega) ⟨rfl, rfl, (slI i), rfl, ⟨by omega, by omega⟩, (by omega)⟩
set_option maxRecDepth 100000 in
set_option maxHeartbeats 4000000 in
theorem j_ckN {kn : Nat → Nat} {B : Nat} {S : b_M} {z x w : Nat} {t : Int} {n : Int} (h : cS S x) (b_t : -2147483648 ≤ t ∧ t < 2147483648) (b_n : -2147483648 ≤ n ∧ n < 2147483648) (p : 0 ≤ t ∧ t < n) : b_C kn B yJ3_checkIndex_8e157 cJ3_checkIndex_8e157 3 (some .int) 0 0 0 0 [.int (iI t), .int (iI n), .null] S z (fun r S' z' => z = z' ∧ S = S' ∧ ∃ q : Int, r = some (.int (iI q)) ∧ (-2147483648 ≤ q ∧ q < 2147483648) ∧ (True)) (fun _ _ _ => False) := by
  refine b_enter (by decide) (Nat.le_of_ble_eq_true rfl) ?_
  intro X hX hE hnL hkn hB hI_
  subst hkn; subst hB
  clear hI_
  change b_V X S z 0 0 0 [(0, .int (iI t)), (1, .int (iI n)), (2, .null)] []
  refine v_iload_n hX dJ3_checkIndex_8e157_0 (i := 0) rfl rfl ?_
  refine u_if_lt hX (tgt := 9) dJ3_checkIndex_8e157_1 (by decide) ⟨by omega, by omega⟩ (fun h1_ => ?_) (fun h1_ => ?_)
  ·
    exact False.elim (by omega)
  ·
    refine v_iload_n hX dJ3_checkIndex_8e157_4 (i := 0) rfl rfl ?_
    refine v_iload_n hX dJ3_checkIndex_8e157_5 (i := 1) rfl rfl ?_
    refine u_icmp_lt hX (tgt := 16) dJ3_checkIndex_8e157_6 (by decide) ⟨by omega, by omega⟩ ⟨by omega, by omega⟩ (fun h2_ => ?_) (fun h2_ => ?_)
    ·
      refine v_iload_n hX dJ3_checkIndex_8e157_16 (i := 0) rfl rfl ?_
      exact v_ireturn hX hE dJ3_checkIndex_8e157_17 (by omega) (by omega) ⟨rfl, rfl, t, rfl, ⟨by omega, by omega⟩, trivial⟩
    ·
      exact False.elim (by omega)
set_option maxRecDepth 100000 in
set_option maxHeartbeats 4000000 in
theorem j_ckR {kn : Nat → Nat} {B : Nat} {S : b_M} {z x w : Nat} {t : Int} {n : Int} {rr : Nat} (h : cS S x) (b_t : -2147483648 ≤ t ∧ t < 2147483648) (b_n : -2147483648 ≤ n ∧ n < 2147483648) (p : 0 ≤ t ∧ t < n) : b_C kn B yJ3_checkIndex_8e157 cJ3_checkIndex_8e157 3 (some .int) 0 0 0 0 [.int (iI t), .int (iI n), .ref rr] S z (fun r S' z' => z = z' ∧ S = S' ∧ ∃ q : Int, r = some (.int (iI q)) ∧ (-2147483648 ≤ q ∧ q < 2147483648) ∧ (True)) (fun _ _ _ => False) := by
  refine b_enter (by decide) (Nat.le_of_ble_eq_true rfl) ?_
  intro X hX hE hnL hkn hB hI_
  subst hkn; subst hB
  clear hI_
  change b_V X S z 0 0 0 [(0, .int (iI t)), (1, .int (iI n)), (2, .ref rr)] []
  refine v_iload_n hX dJ3_checkIndex_8e157_0 (i := 0) rfl rfl ?_
  refine u_if_lt hX (tgt := 9) dJ3_checkIndex_8e157_1 (by decide) ⟨by omega, by omega⟩ (fun h1_ => ?_) (fun h1_ => ?_)
  ·
    exact False.elim (by omega)
  ·
    refine v_iload_n hX dJ3_checkIndex_8e157_4 (i := 0) rfl rfl ?_
    refine v_iload_n hX dJ3_checkIndex_8e157_5 (i := 1) rfl rfl ?_
    refine u_icmp_lt hX (tgt := 16) dJ3_checkIndex_8e157_6 (by decide) ⟨by omega, by omega⟩ ⟨by omega, by omega⟩ (fun h2_ => ?_) (fun h2_ => ?_)
    ·
      refine v_iload_n hX dJ3_checkIndex_8e157_16 (i := 0) rfl rfl ?_
      exact v_ireturn hX hE dJ3_checkIndex_8e157_17 (by omega) (by omega) ⟨rfl, rfl, t, rfl, ⟨by omega, by omega⟩, trivial⟩
    ·
      exact False.elim (by omega)
set_option maxRecDepth 100000 in
set_option maxHeartbeats 4000000 in
theorem j_check {kn : Nat → Nat} {B : Nat} {S : b_M} {z x w : Nat} {t : Int} {n : Int} (h : cS S x) (b_t : -2147483648 ≤ t ∧ t < 2147483648) (b_n : -2147483648 ≤ n ∧ n < 2147483648) (p : 0 ≤ t ∧ t < n) : b_C kn B yJ0_checkIndex_df160 cJ0_checkIndex_df160 2 none 1 22 0 0 [.int (iI t), .int (iI n)] S z (fun r S' z' => z = z' ∧ S = S' ∧ r = none ∧ (True)) (fun _ _ _ => False) := by
  refine b_enter (by decide) (Nat.le_of_ble_eq_true rfl) ?_
  intro X hX hE hnL hkn hB hI_
  subst hkn; subst hB
  clear hI_
  change b_V X S z 0 0 0 [(0, .int (iI t)), (1, .int (iI n))] []
  refine v_iload_n hX dJ0_checkIndex_df160_0 (i := 0) rfl rfl ?_
  refine v_iload_n hX dJ0_checkIndex_df160_1 (i := 1) rfl rfl ?_
  refine v_getsQ hX w_3_221 dJ0_checkIndex_df160_2 ?_
  rintro (_ | t9)
  ·
    change b_V _ _ _ _ _ _ _ (.null :: _)
    refine v_callS hX (n := 3) (j_ckN (S := S) (x := x) (w := w) (t := t) (n := n) h ⟨by omega, by omega⟩ ⟨by omega, by omega⟩ (by omega)) w_3_223 w_3_224 w_1_24 w_3_225 (by decide +kernel) rfl ⟨by decide, by decide⟩ ⟨by omega, by omega⟩ (Nat.le_of_ble_eq_true rfl) rfl dJ0_checkIndex_df160_5 (fun _ _ _ q => q) ?_
    rintro r1_ S1_ z1_ ⟨rfl, rfl, v2_, rfl, b_v2_, q1_⟩
    refine v_pop hX dJ0_checkIndex_df160_8 rfl ?_
    exact v_return hX hE dJ0_checkIndex_df160_9 (by omega) (by omega) ⟨rfl, rfl, rfl, trivial⟩
  ·
    change b_V _ _ _ _ _ _ _ (.ref t9 :: _)
    refine v_callS hX (n := 3) (j_ckR (S := S) (x := x) (w := w) (t := t) (n := n) (rr := t9) h ⟨by omega, by omega⟩ ⟨by omega, by omega⟩ (by omega)) w_3_223 w_3_224 w_1_24 w_3_225 (by decide +kernel) rfl ⟨by decide, by decide⟩ ⟨by omega, by omega⟩ (Nat.le_of_ble_eq_true rfl) rfl dJ0_checkIndex_df160_5 (fun _ _ _ q => q) ?_
    rintro r3_ S3_ z3_ ⟨rfl, rfl, v4_, rfl, b_v4_, q3_⟩
    refine v_pop hX dJ0_checkIndex_df160_8 rfl ?_
    exact v_return hX hE dJ0_checkIndex_df160_9 (by omega) (by omega) ⟨rfl, rfl, rfl, trivial⟩
set_option maxRecDepth 100000 in
set_option maxHeartbeats 4000000 in
theorem j_charAtL {kn : Nat → Nat} {B : Nat} {S : b_M} {z x w : Nat} {t : Int} {bi : Nat} (h : cS S x) (o_bi : bi < 17) (b_t : -2147483648 ≤ t ∧ t < 2147483648) (p : 0 ≤ t ∧ t < slI bi) : b_C kn B yJ1_charAt_3b067 cJ1_charAt_3b067 2 (some .char) 2 43 0 0 [.ref (kn (40 + bi)), .int (iI t)] S z (fun r S' z' => z = z' ∧ S = S' ∧ ∃ q : Int, r = some (.int (iI q)) ∧ (-2147483648 ≤ q ∧ q < 2147483648) ∧ (True) ∧ (narrow .char (.int (iI q)) = .int (iI q))) (fun _ _ _ => False) := by
  refine b_enter (by decide) (Nat.le_of_ble_eq_true rfl) ?_
  intro X hX hE hnL hkn hB hI_
  subst hkn; subst hB
  clear hI_
  change b_V X S z 0 0 0 [(0, .ref (b_kn X (40 + bi))), (1, .int (iI t))] []
  refine v_iload_n hX dJ1_charAt_3b067_0 (i := 1) rfl rfl ?_
  refine v_aload_n hX dJ1_charAt_3b067_1 (i := 0) rfl rfl ?_
  refine w_tlenB hX (i := bi) (by omega) dJ1_charAt_3b067_2 ?_
  have b1_ := slI_b bi (by omega)
  refine v_callS hX (n := 2) (j_check (S := S) (x := x) (w := w) (t := t) (n := (slI bi)) h ⟨by omega, by omega⟩ ⟨by omega, by omega⟩ (by omega)) w_3_218 w_3_219 w_1_22 w_3_220 (by decide +kernel) rfl ⟨by decide, by decide⟩ ⟨by omega, by omega⟩ (Nat.le_of_ble_eq_true rfl) rfl dJ1_charAt_3b067_3 (fun _ _ _ q => q) ?_
  rintro r2_ S2_ z2_ ⟨rfl, rfl, rfl, q2_⟩
  refine v_aload_n hX dJ1_charAt_3b067_6 (i := 0) rfl rfl ?_
  refine v_iload_n hX dJ1_charAt_3b067_7 (i := 1) rfl rfl ?_
  refine w_tbB hX (k := bi) (t := t) (by omega) ⟨by omega, by omega⟩ dJ1_charAt_3b067_8 (fun v3_ b_v3_ => ?_)
  refine v_sipush hX (v := iI 255) dJ1_charAt_3b067_9 (by decide) ?_
  refine u_iand hX dJ1_charAt_3b067_12 (fun v4_ b_v4_ => ?_)
  refine v_i2c hX dJ1_charAt_3b067_13 ?_
  obtain ⟨v5_, e_v5_, b_v5_, n_v5_⟩ := c_ex (iI v4_)
  rw [e_v5_]
  exact v_zreturn hX n_v5_ hE dJ1_charAt_3b067_14 (by omega) (by omega) ⟨rfl, rfl, v5_, rfl, ⟨by omega, by omega⟩, trivial, n_v5_⟩
set_option maxRecDepth 100000 in
set_option maxHeartbeats 4000000 in
theorem j_charAt {kn : Nat → Nat} {B : Nat} {S : b_M} {z x w : Nat} {t : Int} {i : Nat} (h : cS S x) (b_t : -2147483648 ≤ t ∧ t < 2147483648) (o_i : i < 17) (p : 0 ≤ t ∧ t < slI i) : b_C kn B yJ0_charAt_5068e cJ0_charAt_5068e 2 (some .char) 3 64 0 0 [.ref (kn (20 + i)), .int (iI t)] S z (fun r S' z' => z = z' ∧ S = S' ∧ ∃ q : Int, r = some (.int (iI q)) ∧ (-2147483648 ≤ q ∧ q < 2147483648) ∧ (True)) (fun _ _ _ => False) := by
  refine b_enter (by decide) (Nat.le_of_ble_eq_true rfl) ?_
  intro X hX hE hnL hkn hB hI_
  subst hkn; subst hB
  clear hI_
  change b_V X S z 0 0 0 [(0, .ref (b_kn X (20 + i))), (1, .int (iI t))] []
  refine v_aload_n hX dJ0_charAt_5068e_0 (i := 0) rfl rfl ?_
  refine v_callT hX (n := 0) (by omega) rfl (j_isLatin1 (S := S) (x := x) (w := w) (i := i) h (by omega)) w_3_211 w_3_212 w_3_213 w_1_22 w_3_214 (by decide +kernel) rfl ⟨by decide, by decide⟩ ⟨by omega, by omega⟩ (Nat.le_of_ble_eq_true rfl) rfl dJ0_charAt_5068e_1 (fun _ _ _ q => q) ?_
  rintro r1_ S1_ z1_ ⟨rfl, rfl, v2_, rfl, b_v2_, q1_⟩
  refine u_if_eq hX (tgt := 16) dJ0_charAt_5068e_4 (by decide) ⟨by omega, by omega⟩ (fun h3_ => ?_) (fun h3_ => ?_)
  ·
    exact False.elim (by omega)
  ·
    refine v_aload_n hX dJ0_charAt_5068e_7 (i := 0) rfl rfl ?_
    refine v_getVa hX (by omega) w_7_238 dJ0_charAt_5068e_8 ?_
    refine v_iload_n hX dJ0_charAt_5068e_11 (i := 1) rfl rfl ?_
    refine v_callS hX (n := 2) (j_charAtL (S := S) (x := x) (w := w) (bi := i) (t := t) h (by omega) ⟨by omega, by omega⟩ (by omega)) w_3_215 w_3_216 w_1_23 w_3_217 (by decide +kernel) rfl ⟨by decide, by decide⟩ ⟨by omega, by omega⟩ (Nat.le_of_ble_eq_true rfl) rfl dJ0_charAt_5068e_12 (fun _ _ _ q => q) ?_
    rintro r4_ S4_ z4_ ⟨rfl, rfl, v5_, rfl, b_v5_, q4_, q4_0⟩
    exact v_zreturn hX q4_0 hE dJ0_charAt_5068e_15 (by omega) (by omega) ⟨rfl, rfl, v5_, rfl, ⟨by omega, by omega⟩, trivial⟩
set_option maxRecDepth 100000 in
set_option maxHeartbeats 4000000 in
theorem j_ordinal {kn : Nat → Nat} {B : Nat} {S : b_M} {z x w : Nat} {i : Nat} (h : cS S x) (o_i : i < 17) : b_C kn B yJx29ce0_ordinal_8abf5 cJx29ce0_ordinal_8abf5 1 (some .int) 0 0 0 0 [.ref (kn i)] S z (fun r S' z' => z = z' ∧ S = S' ∧ ∃ q : Int, r = some (.int (iI q)) ∧ (-2147483648 ≤ q ∧ q < 2147483648) ∧ (q = (i : Int))) (fun _ _ _ => False) := by
  refine b_enter (by decide) (Nat.le_of_ble_eq_true rfl) ?_
  intro X hX hE hnL hkn hB hI_
  subst hkn; subst hB
  clear hI_
  change b_V X S z 0 0 0 [(0, .ref (b_kn X i))] []
  refine v_aload_n hX dJx29ce0_ordinal_8abf5_0 (i := 0) rfl rfl ?_
  refine w_getO hX (i := i) (k := 0) (by omega) (by decide) w_8_0 dJx29ce0_ordinal_8abf5_1 ?_
  rw [oI_ord i (by omega)]
  exact v_ireturn hX hE dJx29ce0_ordinal_8abf5_4 (by omega) (by omega) ⟨rfl, rfl, (i : Int), rfl, ⟨by omega, by omega⟩, (by omega)⟩
set_option maxRecDepth 100000 in
set_option maxHeartbeats 4000000 in
theorem t_spells {kn : Nat → Nat} {B : Nat} {S : b_M} {z x w : Nat} {sp : Nat} {wf : Int} {wt : Int} {bv Lbv : Nat} (h : cS S x) (e_wf : m_I S 703 (x + 419) = iI wf) (b_wf : -2147483648 ≤ wf ∧ wf < 2147483648) (e_wt : m_I S 704 (x + 419) = iI wt) (b_wt : -2147483648 ≤ wt ∧ wt < 2147483648) (e_bv : m_P S 700 (x + 419) = some bv) (k_bv : m_K S bv = 12) (l_bv : m_L S bv = Lbv) (c_bv : (Lbv : Int) ≤ 2097152) (o_sp : sp < 17) (p : 0 ≤ wf ∧ wf ≤ wt) : b_C kn B yX9_spells cX9_spells 3 (some .boolean) 4 85 0 0 [.ref (x + 419), .ref (kn (20 + sp))] S z (fun r S' z' => z = z' ∧ S = S' ∧ ∃ q : Int, r = some (.int (iI q)) ∧ (q = 0 ∨ q = 1) ∧ (True)) (fun _ _ _ => False) := by
  refine b_enter (by decide) (Nat.le_of_ble_eq_true rfl) ?_
  intro X hX hE hnL hkn hB hI_
  subst hkn; subst hB
  clear hI_
  change b_V X S z 0 0 0 [(0, .ref (x + 419)), (1, .ref (b_kn X (20 + sp)))] []
  have L32 : ∀ (n32 : Nat) (i : Int), (0 ≤ i ∧ i ≤ slI sp ∧ slI sp ≤ 6 ∧ wt ≤ (Lbv : Int) ∧ wt - wf = slI sp) → (slI sp - i).toNat = n32 → b_V X S z 0 0 32 [(2, .int (iI i)), (0, .ref (x + 419)), (1, .ref (b_kn X (20 + sp)))] [] := by
    intro n32
    induction n32 using Nat.strongRecOn with
    | _ n32 ih32 =>
    intro i p32_0 hm32
    refine v_iload_n hX dX9_spells_32 (i := 2) rfl rfl ?_
    refine v_aload_n hX dX9_spells_33 (i := 1) rfl rfl ?_
    refine v_callT hX (n := 0) (by omega) rfl (j_length (S := S) (x := x) (w := w) (i := sp) h (by omega)) w_3_197 w_3_198 w_3_199 w_1_22 w_3_200 (by decide +kernel) rfl ⟨by decide, by decide⟩ ⟨by omega, by omega⟩ (Nat.le_of_ble_eq_true rfl) rfl dX9_spells_34 (fun _ _ _ q => q) ?_
    rintro r1_ S1_ z1_ ⟨rfl, rfl, v2_, rfl, b_v2_, q1_⟩
    refine u_icmp_ge hX (tgt := 67) dX9_spells_37 (by decide) ⟨by omega, by omega⟩ ⟨by omega, by omega⟩ (fun h3_ => ?_) (fun h3_ => ?_)
    ·
      refine v_iconst hX (v := iI 1) dX9_spells_67 rfl ?_
      exact v_zreturn hX (nar_b (by omega)) hE dX9_spells_68 (by omega) (by omega) ⟨rfl, rfl, 1, rfl, (by omega), trivial⟩
    ·
      refine v_aload_n hX dX9_spells_40 (i := 0) rfl rfl ?_
      refine v_get hX (ci := 7) (k := 0) (cs_k_419 h) bc_7 (by decide) (by decide) in_7 w_1_233 dX9_spells_41 (mvP (f := 700) (q := bv) rfl rfl (by simp (disch := omega) only [y_P_s_P, x_P_s_P, z_P_s_I, z_P_s_J, z_P_s_A, z_P_s_B, e_bv])) ?_
      refine v_aload_n hX dX9_spells_44 (i := 0) rfl rfl ?_
      refine v_get hX (ci := 7) (k := 3) (cs_k_419 h) bc_7 (by decide) (by decide) in_7 w_1_237 dX9_spells_45 (mvF (f := 703) (v := iI wf) rfl rfl (by simp (disch := omega) only [y_I_s_I, x_I_s_I, z_I_s_J, z_I_s_A, z_I_s_B, z_I_s_P, e_wf, e_wt])) ?_
      refine v_iload_n hX dX9_spells_48 (i := 2) rfl rfl ?_
      refine u_iadd hX dX9_spells_49 ?_
      refine u_bald hX (L := Lbv) k_bv l_bv ⟨by omega, by omega⟩ (by omega) dX9_spells_50 (fun v4_ e_v4_ b_v4_ => ?_)
      refine v_aload_n hX dX9_spells_51 (i := 1) rfl rfl ?_
      refine v_iload_n hX dX9_spells_52 (i := 2) rfl rfl ?_
      refine v_callT hX (n := 1) (by omega) rfl (j_charAt (S := S) (x := x) (w := w) (i := sp) (t := i) h ⟨by omega, by omega⟩ (by omega) (by omega)) w_3_207 w_3_208 w_3_209 w_1_22 w_3_210 (by decide +kernel) rfl ⟨by decide, by decide⟩ ⟨by omega, by omega⟩ (Nat.le_of_ble_eq_true rfl) rfl dX9_spells_53 (fun _ _ _ q => q) ?_
      rintro r5_ S5_ z5_ ⟨rfl, rfl, v6_, rfl, b_v6_, q5_⟩
      refine u_icmp_eq hX (tgt := 61) dX9_spells_56 (by decide) ⟨by omega, by omega⟩ ⟨by omega, by omega⟩ (fun h7_ => ?_) (fun h7_ => ?_)
      ·
        refine v_iinc hX (v := iI (i + 1)) (lv' := [(2, .int (iI (i + 1))), (0, .ref (x + 419)), (1, .ref (b_kn X (20 + sp)))]) dX9_spells_61 rfl (iI_add _ _) (by rw [hnL]; decide) rfl ?_
        refine v_goto hX (tgt := 32) dX9_spells_64 (by decide) ?_
        exact ih32 _ (by omega) (i + 1) (by omega) rfl
      ·
        refine v_iconst hX (v := iI 0) dX9_spells_59 rfl ?_
        exact v_zreturn hX (nar_b (by omega)) hE dX9_spells_60 (by omega) (by omega) ⟨rfl, rfl, 0, rfl, (by omega), trivial⟩
  refine v_aload_n hX dX9_spells_0 (i := 0) rfl rfl ?_
  refine v_get hX (ci := 7) (k := 4) (cs_k_419 h) bc_7 (by decide) (by decide) in_7 w_1_239 dX9_spells_1 (mvF (f := 704) (v := iI wt) rfl rfl (by simp (disch := omega) only [y_I_s_I, x_I_s_I, z_I_s_J, z_I_s_A, z_I_s_B, z_I_s_P, e_wf, e_wt])) ?_
  refine v_aload_n hX dX9_spells_4 (i := 0) rfl rfl ?_
  refine v_get hX (ci := 7) (k := 3) (cs_k_419 h) bc_7 (by decide) (by decide) in_7 w_1_237 dX9_spells_5 (mvF (f := 703) (v := iI wf) rfl rfl (by simp (disch := omega) only [y_I_s_I, x_I_s_I, z_I_s_J, z_I_s_A, z_I_s_B, z_I_s_P, e_wf, e_wt])) ?_
  refine u_isub hX dX9_spells_8 ?_
  refine v_aload_n hX dX9_spells_9 (i := 1) rfl rfl ?_
  refine v_callT hX (n := 0) (by omega) rfl (j_length (S := S) (x := x) (w := w) (i := sp) h (by omega)) w_3_197 w_3_198 w_3_199 w_1_22 w_3_200 (by decide +kernel) rfl ⟨by decide, by decide⟩ ⟨by omega, by omega⟩ (Nat.le_of_ble_eq_true rfl) rfl dX9_spells_10 (fun _ _ _ q => q) ?_
  rintro r8_ S8_ z8_ ⟨rfl, rfl, v9_, rfl, b_v9_, q8_⟩
  refine u_icmp_ne hX (tgt := 28) dX9_spells_13 (by decide) ⟨by omega, by omega⟩ ⟨by omega, by omega⟩ (fun h10_ => ?_) (fun h10_ => ?_)
  ·
    refine v_iconst hX (v := iI 0) dX9_spells_28 rfl ?_
    exact v_zreturn hX (nar_b (by omega)) hE dX9_spells_29 (by omega) (by omega) ⟨rfl, rfl, 0, rfl, (by omega), trivial⟩
  ·
    refine v_aload_n hX dX9_spells_16 (i := 0) rfl rfl ?_
    refine v_get hX (ci := 7) (k := 4) (cs_k_419 h) bc_7 (by decide) (by decide) in_7 w_1_239 dX9_spells_17 (mvF (f := 704) (v := iI wt) rfl rfl (by simp (disch := omega) only [y_I_s_I, x_I_s_I, z_I_s_J, z_I_s_A, z_I_s_B, z_I_s_P, e_wf, e_wt])) ?_
    refine v_aload_n hX dX9_spells_20 (i := 0) rfl rfl ?_
    refine v_get hX (ci := 7) (k := 0) (cs_k_419 h) bc_7 (by decide) (by decide) in_7 w_1_233 dX9_spells_21 (mvP (f := 700) (q := bv) rfl rfl (by simp (disch := omega) only [y_P_s_P, x_P_s_P, z_P_s_I, z_P_s_J, z_P_s_A, z_P_s_B, e_bv])) ?_
    refine u_alen hX (L := Lbv) (t0 := 0) (ty := .byte) k_bv ⟨by decide, by decide⟩ (fun _ => rfl) l_bv dX9_spells_24 ?_
    refine u_icmp_le hX (tgt := 30) dX9_spells_25 (by decide) ⟨by omega, by omega⟩ ⟨by omega, by omega⟩ (fun h11_ => ?_) (fun h11_ => ?_)
    ·
      refine v_iconst hX (v := iI 0) dX9_spells_30 rfl ?_
      refine v_istore_n hX (lv' := [(2, .int (iI 0)), (0, .ref (x + 419)), (1, .ref (b_kn X (20 + sp)))]) dX9_spells_31 (i := 2) rfl (by rw [hnL]; decide) rfl ?_
      exact L32 _ 0 (by omega) rfl
    ·
      refine v_iconst hX (v := iI 0) dX9_spells_28 rfl ?_
      exact v_zreturn hX (nar_b (by omega)) hE dX9_spells_29 (by omega) (by omega) ⟨rfl, rfl, 0, rfl, (by omega), trivial⟩
set_option maxRecDepth 100000 in
set_option maxHeartbeats 4000000 in
theorem g_spells {kn : Nat → Nat} {B : Nat} {S : b_M} {z x w : Nat} {sp : Nat} {lo : Int} {hi : Int} (h : cS S x) (o_sp : sp < 17) (g_sI : sI S x lo hi) : b_C kn B yX9_spells cX9_spells 3 (some .boolean) 4 85 0 0 [.ref (x + 419), .ref (kn (20 + sp))] S z (fun r S' z' => z = z' ∧ S = S' ∧ ∃ q : Int, r = some (.int (iI q)) ∧ (q = 0 ∨ q = 1) ∧ (True)) (fun _ _ _ => False) := by
  obtain ⟨bv, L, at_, to_, wf, wt, e1, k1, l1, e2, e3, e4, e5, p1, p2, p3, p4, p5, p6, p7, p8, p9⟩ := g_sI
  exact t_spells (w := w) h e4 ⟨by omega, by omega⟩ e5 ⟨by omega, by omega⟩ e1 k1 l1 (by omega) o_sp (by omega)
set_option maxRecDepth 100000 in
set_option maxHeartbeats 4000000 in
theorem g_spelledBy {kn : Nat → Nat} {B : Nat} {S : b_M} {z x w : Nat} {lo : Int} {hi : Int} (h : cS S x) (g_sI : sI S x lo hi) : b_C kn B yX7_spelledBy cX7_spelledBy 2 (some (.object "AssembleLines$Operation")) 5 107 0 0 [.ref (x + 419)] S z (fun r S' z' => z = z' ∧ S = S' ∧ ∃ q : Nat, r = some (.ref (kn q)) ∧ q < 17 ∧ (True)) (fun _ _ _ => False) := by
  refine b_enter (by decide) (Nat.le_of_ble_eq_true rfl) ?_
  intro X hX hE hnL hkn hB hI_
  subst hkn; subst hB
  clear hI_
  change b_V X S z 0 0 0 [(0, .ref (x + 419))] []
  have L2 : ∀ (n2 : Nat) (i : Int), (0 ≤ i ∧ i ≤ 17) → (17 - i).toNat = n2 → b_V X S z 0 0 2 [(1, .int (iI i)), (0, .ref (x + 419))] [] := by
    intro n2
    induction n2 using Nat.strongRecOn with
    | _ n2 ih2 =>
    intro i p2_0 hm2
    refine v_iload_n hX dX7_spelledBy_2 (i := 1) rfl rfl ?_
    refine v_getsA hX w_3_187 dX7_spelledBy_3 ?_
    refine v_tlenA hX dX7_spelledBy_6 ?_
    change b_V _ _ _ _ _ _ _ (.int (iI 17) :: _)
    refine u_icmp_ge hX (tgt := 51) dX7_spelledBy_7 (by decide) ⟨by omega, by omega⟩ ⟨by omega, by omega⟩ (fun h1_ => ?_) (fun h1_ => ?_)
    ·
      refine v_getsK hX (i := 1) (by decide) rfl w_4_5 dX7_spelledBy_51 ?_
      exact v_areturn hX (Or.inl ⟨_, rfl⟩) hE dX7_spelledBy_54 (by omega) (by omega) ⟨rfl, rfl, 1, rfl, (by omega), trivial⟩
    ·
      refine v_getsA hX w_3_187 dX7_spelledBy_10 ?_
      refine v_iload_n hX dX7_spelledBy_13 (i := 1) rfl rfl ?_
      refine v_taA hX (j := i.toNat) (iI_in ⟨by omega, by omega⟩ (by decide)) (iI_clamp ⟨by omega, by omega⟩) dX7_spelledBy_14 ?_
      refine v_getSp hX (by omega) w_7_237 dX7_spelledBy_15 ?_
      refine v_callT hX (n := 0) (by omega) rfl (j_isEmpty (S := S) (x := x) (w := w) (i := i.toNat) h (by omega)) w_3_189 w_3_190 w_3_191 w_1_22 w_3_192 (by decide +kernel) rfl ⟨by decide, by decide⟩ ⟨by omega, by omega⟩ (Nat.le_of_ble_eq_true rfl) rfl dX7_spelledBy_18 (fun _ _ _ q => q) ?_
      rintro r2_ S2_ z2_ ⟨rfl, rfl, v3_, rfl, b_v3_, q2_⟩
      refine u_if_ne hX (tgt := 45) dX7_spelledBy_21 (by decide) ⟨by omega, by omega⟩ (fun h4_ => ?_) (fun h4_ => ?_)
      ·
        refine v_iinc hX (v := iI (i + 1)) (lv' := [(1, .int (iI (i + 1))), (0, .ref (x + 419))]) dX7_spelledBy_45 rfl (iI_add _ _) (by rw [hnL]; decide) rfl ?_
        refine v_goto hX (tgt := 2) dX7_spelledBy_48 (by decide) ?_
        exact ih2 _ (by omega) (i + 1) (by omega) rfl
      ·
        refine v_aload_n hX dX7_spelledBy_24 (i := 0) rfl rfl ?_
        refine v_getsA hX w_3_187 dX7_spelledBy_25 ?_
        refine v_iload_n hX dX7_spelledBy_28 (i := 1) rfl rfl ?_
        refine v_taA hX (j := i.toNat) (iI_in ⟨by omega, by omega⟩ (by decide)) (iI_clamp ⟨by omega, by omega⟩) dX7_spelledBy_29 ?_
        refine v_getSp hX (by omega) w_7_237 dX7_spelledBy_30 ?_
        refine v_callV hX (n := 1) (g_spells (S := S) (x := x) (w := w) (sp := i.toNat) h (by omega) g_sI) (cs_k_419 h) bc_7 (by decide) w_3_193 w_3_194 w_3_195 w_1_11 w_3_196 (by decide +kernel) rfl ⟨by decide, by decide⟩ ⟨by omega, by omega⟩ (Nat.le_of_ble_eq_true rfl) rfl dX7_spelledBy_33 (fun _ _ _ q => q) ?_
        rintro r5_ S5_ z5_ ⟨rfl, rfl, v6_, rfl, b_v6_, q5_⟩
        refine u_if_eq hX (tgt := 45) dX7_spelledBy_36 (by decide) ⟨by omega, by omega⟩ (fun h7_ => ?_) (fun h7_ => ?_)
        ·
          refine v_iinc hX (v := iI (i + 1)) (lv' := [(1, .int (iI (i + 1))), (0, .ref (x + 419))]) dX7_spelledBy_45 rfl (iI_add _ _) (by rw [hnL]; decide) rfl ?_
          refine v_goto hX (tgt := 2) dX7_spelledBy_48 (by decide) ?_
          exact ih2 _ (by omega) (i + 1) (by omega) rfl
        ·
          refine v_getsA hX w_3_187 dX7_spelledBy_39 ?_
          refine v_iload_n hX dX7_spelledBy_42 (i := 1) rfl rfl ?_
          refine v_taA hX (j := i.toNat) (iI_in ⟨by omega, by omega⟩ (by decide)) (iI_clamp ⟨by omega, by omega⟩) dX7_spelledBy_43 ?_
          exact v_areturn hX (Or.inl ⟨_, rfl⟩) hE dX7_spelledBy_44 (by omega) (by omega) ⟨rfl, rfl, i.toNat, rfl, (by omega), trivial⟩
  refine v_iconst hX (v := iI 0) dX7_spelledBy_0 rfl ?_
  refine v_istore_n hX (lv' := [(1, .int (iI 0)), (0, .ref (x + 419))]) dX7_spelledBy_1 (i := 1) rfl (by rw [hnL]; decide) rfl ?_
  exact L2 _ 0 (by omega) rfl
