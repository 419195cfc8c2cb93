/-- the rows of calls -/
abbrev cRs : List Nat := [431, 432, 435, 436, 439, 440, 443, 444, 447, 448, 451, 452, 455, 456]
theorem cRs_in : ∀ j, j < 7 → (429 + 4 * j + 2) ∈ cRs ∧ (429 + 4 * j + 3) ∈ cRs := by decide
theorem isC_o {x a : Nat} (g : isC x a) : ∃ j, j < 7 ∧ a = x + (429 + 4 * j) := by
  obtain ⟨j, hj, rfl⟩ := g
  exact ⟨j, hj, by omega⟩
theorem cFr.sAc {Fs Ps As : List Nat} {w : Nat} {S S1 : b_M} {x a o i : Nat} {v : Int32} (h : cFr Fs Ps As w S S1 x) (g : isC x a) (ho : o = 2 ∨ o = 3) (hs : ∀ q ∈ cRs, q ∈ As) (hk : m_K S1 (a + o) = 13) : cFr Fs Ps As w S (s_A S1 (a + o) i v) x := by
  obtain ⟨j, hj, rfl⟩ := isC_o g
  have h1 := cRs_in j hj
  have e : x + (429 + 4 * j) + o = x + (429 + 4 * j + o) := by omega
  rw [e] at hk ⊢
  exact cFr.sA h (hs _ (by rcases ho with rfl | rfl; exact h1.1; exact h1.2)) (by omega) hk
theorem cFr.rowC {Fs Ps As : List Nat} {w : Nat} {S S1 : b_M} {x a : Nat} (f : cFr Fs Ps As w S S1 x) (h : cS S x) (g : isC x a) (hs : ∀ q ∈ cRs, q ∉ As) (i : Int) : rAt S1 (a + 2) i = rAt S (a + 2) i ∧ rAt S1 (a + 3) i = rAt S (a + 3) i := by
  have k2 := (isC_kf h g).1
  have k3 := (isC_kt h g).1
  obtain ⟨j, hj, rfl⟩ := isC_o g
  have h1 := cRs_in j hj
  have e2 : x + (429 + 4 * j) + 2 = x + (429 + 4 * j + 2) := by omega
  have e3 : x + (429 + 4 * j) + 3 = x + (429 + 4 * j + 3) := by omega
  rw [e2] at k2
  rw [e3] at k3
  rw [e2, e3]
  exact ⟨f.row k2 (by omega) (hs _ h1.1) i, f.row k3 (by omega) (hs _ h1.2) i⟩
theorem t_fillC {kn : Nat → Nat} {B : Nat} {S : b_M} {z x w a o : Nat} {v : Int} (h : cS S x) (g : isC x a) (ho : o = 2 ∨ o = 3) (b_v : -2147483648 ≤ v ∧ v < 2147483648) : b_C kn B yJ7_fill_53178 cJ7_fill_53178 4 none 0 0 0 0 [.ref (a + o), .int (iI v)] S z (fun r S' z' => z = z' ∧ cFr [] [] [431, 432, 435, 436, 439, 440, 443, 444, 447, 448, 451, 452, 455, 456] w S S' x ∧ r = none ∧ True ∧ (∀ i : Int, 0 ≤ i → i < 4 → rAt S' (a + o) i = v) ∧ ∀ q, q ≠ a + o → ∀ i, rAt S' q i = rAt S q i) (fun _ _ _ => False) := by
  have hk : m_K S (a + o) = 13 ∧ m_L S (a + o) = 4 := by rcases ho with rfl | rfl; exact isC_kf h g; exact isC_kt h g
  refine (c_fill (q := a + o) (v := iI v) hk.1 (by rw [hk.2]; decide)).mono ?_ (fun _ _ _ h => h)
  rintro r S1 z1 ⟨rfl, rfl, rfl⟩
  obtain ⟨j, hj, rfl⟩ := isC_o g
  have h1 := cRs_in j hj
  have e : x + (429 + 4 * j) + o = x + (429 + 4 * j + o) := by omega
  have hin : 429 + 4 * j + o ∈ cRs := by rcases ho with rfl | rfl; exact h1.1; exact h1.2
  refine ⟨rfl, ⟨⟨fun b h1 h2 => e_r_A _ _ _ (by omega), fun q b i hb => by
    by_cases e9 : b = x + (429 + 4 * j) + o
    · rw [e9] at hb; have hb' : m_K S (x + (429 + 4 * j) + o) = 12 := hb; omega
    · rw [x_A_r_A _ _ _ _ _ e9]; exact q b i hb⟩, fun _ _ _ => rfl, fun _ _ _ => rfl, fun p a9 c9 d9 i => ?_, fun b hb => ⟨rfl, rfl, fun _ => rfl⟩⟩, rfl, trivial, fun i a9 b9 => ?_, fun q hq i => ?_⟩
  · rw [x_A_r_A _ _ _ _ _ (fun q => d9 (by rw [show p = 429 + 4 * j + o by omega]; exact hin))]
  · unfold rAt
    rw [q_A_r_A, if_pos rfl, if_pos (by rw [hk.2]; omega), iI_to b_v]
  · unfold rAt
    rw [x_A_r_A _ _ _ _ _ hq]
/-- operands that were read within lo and hi -/
def opF (S : b_M) (x a : Nat) (lo hi : Int) : Prop := isC x a ∧ ∀ k : Int, 0 ≤ k → k < 4 → 0 ≤ rAt S (a + 2) k ∧ (rAt S (a + 3) k ≤ rAt S (a + 2) k ∨ (lo ≤ rAt S (a + 2) k ∧ rAt S (a + 3) k ≤ hi))
/-- the other calls' operands stay -/
def oRw (S S' : b_M) (x a : Nat) : Prop := ∀ b, isC x b → b ≠ a → ∀ k, rAt S' (b + 2) k = rAt S (b + 2) k ∧ rAt S' (b + 3) k = rAt S (b + 3) k
theorem isC_ne {x a b : Nat} (g : isC x a) (g2 : isC x b) (h : b ≠ a) : b + 2 ≠ a + 2 ∧ b + 2 ≠ a + 3 ∧ b + 3 ≠ a + 2 ∧ b + 3 ≠ a + 3 := by
  obtain ⟨i, hi, rfl⟩ := g
  obtain ⟨j, hj, rfl⟩ := g2
  omega
theorem opF.put {S : b_M} {x a : Nat} {lo hi i f1 t1 : Int} (h : opF S x a lo hi) (hi_ : 0 ≤ i ∧ i < 4) (b1 : -2147483648 ≤ f1 ∧ f1 < 2147483648) (b2 : -2147483648 ≤ t1 ∧ t1 < 2147483648) (hq : 0 ≤ lo ∧ lo ≤ f1 ∧ f1 ≤ t1 ∧ t1 ≤ hi) : opF (s_A (s_A S (a + 2) i.toNat (iI f1)) (a + 3) i.toNat (iI t1)) x a lo hi := by
  refine ⟨h.1, fun k h1 h2 => ?_⟩
  by_cases e : k = i
  · subst e
    rw [rA_y _ _ _ _ _ b2 rfl, rA_A _ _ _ _ _ _ (by omega), rA_y _ _ _ _ _ b1 rfl]
    exact ⟨by omega, Or.inr ⟨by omega, by omega⟩⟩
  · have g3 : rAt (s_A (s_A S (a + 2) i.toNat (iI f1)) (a + 3) i.toNat (iI t1)) (a + 3) k = rAt S (a + 3) k := by rw [rA_x _ _ _ _ _ ⟨h1, hi_.1, e⟩, rA_A _ _ _ _ _ _ (by omega)]
    have g2 : rAt (s_A (s_A S (a + 2) i.toNat (iI f1)) (a + 3) i.toNat (iI t1)) (a + 2) k = rAt S (a + 2) k := by rw [rA_A _ _ _ _ _ _ (by omega), rA_x _ _ _ _ _ ⟨h1, hi_.1, e⟩]
    rw [g2, g3]
    exact h.2 k h1 h2
theorem oRw.put {S S1 : b_M} {x a : Nat} {i : Nat} {v u : Int32} (h : oRw S S1 x a) (g : isC x a) : oRw S (s_A (s_A S1 (a + 2) i v) (a + 3) i u) x a := by
  intro b hb hn k
  have h9 := isC_ne g hb hn
  rw [rA_A _ _ _ _ _ _ h9.2.1, rA_A _ _ _ _ _ _ h9.1, rA_A _ _ _ _ _ _ h9.2.2.2, rA_A _ _ _ _ _ _ h9.2.2.1]
  exact h b hb hn k
theorem opF.fr {Fs Ps As : List Nat} {w : Nat} {S S1 : b_M} {x a : Nat} {lo hi : Int} (h : opF S x a lo hi) (g : cS S x) (f : cFr Fs Ps As w S S1 x) (hd : ∀ q ∈ cRs, q ∉ As) : opF S1 x a lo hi := ⟨h.1, fun k h1 h2 => by
  have h9 := f.rowC g h.1 hd k
  rw [h9.1, h9.2]
  exact h.2 k h1 h2⟩
theorem oRw.fr {Fs Ps As : List Nat} {w : Nat} {S0 S S1 : b_M} {x a : Nat} (h : oRw S0 S x a) (g : cS S x) (f : cFr Fs Ps As w S S1 x) (hd : ∀ q ∈ cRs, q ∉ As) : oRw S0 S1 x a := fun b hb hn k => by
  have h9 := f.rowC g hb hd k
  rw [h9.1, h9.2]
  exact h b hb hn k
/-- a call's operands are no longer than M -/
def opM (S : b_M) (x a : Nat) (L M : Int) : Prop := isC x a ∧ ∀ k : Int, 0 ≤ k → k < 4 → 0 ≤ rAt S (a + 2) k ∧ (rAt S (a + 3) k - rAt S (a + 2) k ≤ M ∨ L ≤ M)
theorem opM.fr {Fs Ps As : List Nat} {w : Nat} {S S1 : b_M} {x a : Nat} {L M : Int} (h : opM S x a L M) (g : cS S x) (f : cFr Fs Ps As w S S1 x) (hd : ∀ q ∈ cRs, q ∉ As) : opM S1 x a L M := ⟨h.1, fun k h1 h2 => by
  have h9 := f.rowC g h.1 hd k
  rw [h9.1, h9.2]
  exact h.2 k h1 h2⟩
/-- an open call -/
def oC (S : b_M) (x j : Nat) : Prop := ∃ (sr L : Nat) (nx un : Int), m_P S 1 (x + 429 + 4 * j) = some sr ∧ m_K S sr = 12 ∧ m_L S sr = L ∧ m_I S 5 (x + 429 + 4 * j) = iI nx ∧ m_I S 6 (x + 429 + 4 * j) = iI un ∧ (0 ≤ nx ∧ nx ≤ 5000) ∧ (0 ≤ un ∧ un ≤ 4097) ∧ (L : Int) ≤ 4096 ∧ ∀ k : Int, 0 ≤ k → k < 4 → 0 ≤ rAt S (x + 429 + 4 * j + 2) k ∧ (rAt S (x + 429 + 4 * j + 3) k - rAt S (x + 429 + 4 * j + 2) k ≤ 100 ∨ rAt S (x + 429 + 4 * j + 3) k - rAt S (x + 429 + 4 * j + 2) k ≤ 4096 - un ∨ (L : Int) ≤ 100)
def lO (S : b_M) (x : Nat) (dp : Int) : Prop := ∀ j : Nat, (j : Int) < dp → oC S x j
theorem m_mul {u : Int} (h0 : 0 ≤ u) (h1 : u ≤ 4096) : (4096 - u) * u ≤ 4194304 := by
  have h2 : 0 ≤ (u - 2048) * (u - 2048) := by
    by_cases h : 0 ≤ u - 2048
    · exact Int.mul_nonneg h h
    · have h3 : (u - 2048) * (u - 2048) = (2048 - u) * (2048 - u) := by
        rw [show u - 2048 = -(2048 - u) by omega, Int.neg_mul_neg]
      rw [h3]
      exact Int.mul_nonneg (by omega) (by omega)
  have h3 : (u - 2048) * (u - 2048) = 4194304 - (4096 - u) * u := by
    simp only [Int.sub_mul, Int.mul_sub]
    omega
  omega
theorem oC.use {S : b_M} {x j : Nat} (hj : j < 7) (h : oC S x j) : ∃ (sr L : Nat) (nx un M : Int), m_P S 1 (x + 429 + 4 * j) = some sr ∧ m_K S sr = 12 ∧ m_L S sr = L ∧ m_I S 5 (x + 429 + 4 * j) = iI nx ∧ m_I S 6 (x + 429 + 4 * j) = iI un ∧ (0 ≤ nx ∧ nx ≤ 5000) ∧ (0 ≤ un ∧ un ≤ 4097) ∧ (L : Int) ≤ 4096 ∧ (3 ≤ M ∧ M ≤ 5000) ∧ opM S x (x + 429 + 4 * j) (L : Int) M ∧ ∀ s : Int, nx ≤ s → s ≤ un → s ≤ 4096 → M * (s - nx) ≤ 4194304 := by
  obtain ⟨sr, L, nx, un, e1, k1, l1, e2, e3, p1, p2, p3, p4⟩ := h
  by_cases hu : un ≤ 3996
  · refine ⟨sr, L, nx, un, 4096 - un, e1, k1, l1, e2, e3, p1, p2, p3, by omega, ⟨⟨j, hj, rfl⟩, fun k h1 h2 => ?_⟩, fun s h1 h2 h3 => ?_⟩
    · have h9 := p4 k h1 h2
      omega
    · have h4 := m_mul (u := un) (by omega) (by omega)
      have h5 : (4096 - un) * (s - nx) ≤ (4096 - un) * un := Int.mul_le_mul_of_nonneg_left (by omega) (by omega)
      omega
  · refine ⟨sr, L, nx, un, 100, e1, k1, l1, e2, e3, p1, p2, p3, by omega, ⟨⟨j, hj, rfl⟩, fun k h1 h2 => ?_⟩, fun s h1 h2 h3 => by omega⟩
    have h9 := p4 k h1 h2
    omega
theorem oC.keep {Fs Ps As : List Nat} {w : Nat} {S S1 : b_M} {x j : Nat} (h : oC S x j) (hj : j < 7) (g : cS S x) (f : cFr Fs Ps As w S S1 x) (e1 : m_P S1 1 (x + 429 + 4 * j) = m_P S 1 (x + 429 + 4 * j)) (e5 : m_I S1 5 (x + 429 + 4 * j) = m_I S 5 (x + 429 + 4 * j)) (e6 : m_I S1 6 (x + 429 + 4 * j) = m_I S 6 (x + 429 + 4 * j)) (er : ∀ k, rAt S1 (x + 429 + 4 * j + 2) k = rAt S (x + 429 + 4 * j + 2) k ∧ rAt S1 (x + 429 + 4 * j + 3) k = rAt S (x + 429 + 4 * j + 3) k) : oC S1 x j := by
  obtain ⟨sr, L, nx, un, a1, k1, l1, a2, a3, p⟩ := h
  have hk := f.kl k1 (by decide)
  refine ⟨sr, L, nx, un, e1.trans a1, hk.1, hk.2.trans l1, e5.trans a2, e6.trans a3, p.1, p.2.1, p.2.2.1, fun k h1 h2 => ?_⟩
  rw [(er k).1, (er k).2]
  exact p.2.2.2 k h1 h2
theorem lO.fr {Fs Ps As : List Nat} {w : Nat} {S S1 : b_M} {x : Nat} {dp : Int} (h : lO S x dp) (hd : dp ≤ 7) (g : cS S x) (f : cFr Fs Ps As w S S1 x) (h1 : 1 ∉ Ps) (h5 : 5 ∉ Fs ∧ 6 ∉ Fs) (hr : ∀ q ∈ cRs, q ∉ As) : lO S1 x dp := fun j hj =>
  (h j hj).keep (by omega) g f (f.2.2.1 1 h1 _) (f.2.1 5 h5.1 _) (f.2.1 6 h5.2 _) (fun k => f.rowC g ⟨j, by omega, rfl⟩ hr k)
/-- a call's next line -/
theorem lO.step {Fs Ps As : List Nat} {w : Nat} {S S1 : b_M} {x a : Nat} {dp n1 : Int} (h : lO S x dp) (hd : dp ≤ 7) (g : cS S x) (f : cFr Fs Ps As w S S1 x) (h1 : 1 ∉ Ps) (h6 : 6 ∉ Fs) (hr : ∀ q ∈ cRs, q ∉ As) (h5 : ∀ b, b ≠ a → m_I S1 5 b = m_I S 5 b) (e5 : m_I S1 5 a = iI n1) (hn : 0 ≤ n1 ∧ n1 ≤ 5000) : lO S1 x dp := fun j hj => by
  by_cases e : x + 429 + 4 * j = a
  · obtain ⟨sr, L, nx, un, a1, k1, l1, a2, a3, p⟩ := h j hj
    have hk := f.kl k1 (by decide)
    refine ⟨sr, L, n1, un, (f.2.2.1 1 h1 _).trans a1, hk.1, hk.2.trans l1, by rw [e]; exact e5, (f.2.1 6 h6 _).trans a3, hn, p.2.1, p.2.2.1, fun k q1 q2 => ?_⟩
    have h9 := f.rowC g (a := x + 429 + 4 * j) ⟨j, by omega, rfl⟩ hr k
    rw [h9.1, h9.2]
    exact p.2.2.2 k q1 q2
  · exact (h j hj).keep (by omega) g f (f.2.2.1 1 h1 _) (h5 _ e) (f.2.1 6 h6 _) (fun k => f.rowC g ⟨j, by omega, rfl⟩ hr k)
/-- the macros' bodies lie ahead of lim -/
def mB (S : b_M) (x : Nat) (mt lim : Int) : Prop := ∀ m : Int, 0 ≤ m → m < mt → (0 ≤ rAt S (x + 423) m ∧ rAt S (x + 423) m ≤ 4097) ∧ 0 ≤ rAt S (x + 424) m ∧ rAt S (x + 424) m ≤ lim
theorem mB.fr {Fs Ps As : List Nat} {w : Nat} {S S1 : b_M} {x : Nat} {mt lim : Int} (h : mB S x mt lim) (g : cS S x) (f : cFr Fs Ps As w S S1 x) (hd : 423 ∉ As ∧ 424 ∉ As) : mB S1 x mt lim := fun m a b => by
  rw [f.row (cs_k_423 g) (by decide) hd.1, f.row (cs_k_424 g) (by decide) hd.2]
  exact h m a b
theorem mB.le {S : b_M} {x : Nat} {mt l1 l2 : Int} (h : mB S x mt l1) (hl : l1 ≤ l2) : mB S x mt l2 := fun m a b => by
  have h9 := h m a b
  omega
def gL (S : b_M) (x : Nat) : Prop := ∃ (dp lg nx tl mt : Int) (tx : Nat), m_I S 301 (x + 425) = iI dp ∧ m_I S 303 (x + 425) = iI lg ∧ m_I S 308 (x + 425) = iI nx ∧ m_I S 310 (x + 425) = iI tl ∧ m_I S 403 (x + 421) = iI mt ∧ m_P S 302 (x + 425) = some tx ∧ m_K S tx = 12 ∧ m_L S tx = 4096 ∧ (0 ≤ dp ∧ dp ≤ 6) ∧ (0 ≤ tl ∧ tl ≤ 100) ∧ (0 ≤ mt ∧ mt ≤ 12) ∧ (0 ≤ nx ∧ nx ≤ 4097) ∧ (0 ≤ lg ∧ lg ≤ 4096) ∧ lO S x dp ∧ mB S x mt nx
theorem gL.fr {Fs Ps As : List Nat} {w : Nat} {S S1 : b_M} {x : Nat} (h : gL S x) (g : cS S x) (f : cFr Fs Ps As w S S1 x) (hd : (301 ∉ Fs ∧ 303 ∉ Fs ∧ 308 ∉ Fs ∧ 310 ∉ Fs ∧ 403 ∉ Fs ∧ 5 ∉ Fs ∧ 6 ∉ Fs) ∧ (302 ∉ Ps ∧ 1 ∉ Ps) ∧ (423 ∉ As ∧ 424 ∉ As) ∧ ∀ q ∈ cRs, q ∉ As) : gL S1 x := by
  obtain ⟨dp, lg, nx, tl, mt, tx, e1, e2, e3, e4, e5, e6, k1, l1, p1, p2, p3, p4, p5, p6, p7⟩ := h
  obtain ⟨⟨d1, d2, d3, d4, d5, d6, d7⟩, ⟨d8, d9⟩, d10, d11⟩ := hd
  have hk := f.kl k1 (by decide)
  exact ⟨dp, lg, nx, tl, mt, tx, (f.2.1 301 d1 _).trans e1, (f.2.1 303 d2 _).trans e2, (f.2.1 308 d3 _).trans e3, (f.2.1 310 d4 _).trans e4, (f.2.1 403 d5 _).trans e5, (f.2.2.1 302 d8 _).trans e6, hk.1, hk.2.trans l1, p1, p2, p3, p4, p5, p6.fr (by omega) g f d9 ⟨d6, d7⟩ d11, p7.fr g f d10⟩
def gA (S : b_M) (x : Nat) : Prop := ∃ (fr to dp mt nx : Int) (bw L : Nat), m_I S 306 (x + 425) = iI fr ∧ m_I S 307 (x + 425) = iI to ∧ m_I S 301 (x + 425) = iI dp ∧ m_I S 403 (x + 421) = iI mt ∧ m_I S 308 (x + 425) = iI nx ∧ m_P S 305 (x + 425) = some bw ∧ m_K S bw = 12 ∧ m_L S bw = L ∧ (L : Int) ≤ 2097152 ∧ 0 ≤ fr ∧ fr ≤ to ∧ to ≤ (L : Int) ∧ (fr ≤ nx ∧ nx ≤ 4097) ∧ (0 ≤ dp ∧ dp ≤ 6) ∧ (0 ≤ mt ∧ mt ≤ 12) ∧ (dp = 0 → (L : Int) ≤ 4096 ∧ mB S x mt fr)
theorem gA.fr {Fs Ps As : List Nat} {w : Nat} {S S1 : b_M} {x : Nat} (h : gA S x) (g : cS S x) (f : cFr Fs Ps As w S S1 x) (hd : (306 ∉ Fs ∧ 307 ∉ Fs ∧ 301 ∉ Fs ∧ 403 ∉ Fs ∧ 308 ∉ Fs) ∧ 305 ∉ Ps ∧ 423 ∉ As ∧ 424 ∉ As) : gA S1 x := by
  obtain ⟨fr, to, dp, mt, nx, bw, L, e1, e2, e3, e4, e5, e6, k1, l1, c1, p1, p2, p3, p4, p5, p6, p7⟩ := h
  obtain ⟨⟨d1, d2, d3, d4, d5⟩, d6, d7⟩ := hd
  have hk := f.kl k1 (by decide)
  exact ⟨fr, to, dp, mt, nx, bw, L, (f.2.1 306 d1 _).trans e1, (f.2.1 307 d2 _).trans e2, (f.2.1 301 d3 _).trans e3, (f.2.1 403 d4 _).trans e4, (f.2.1 308 d5 _).trans e5, (f.2.2.1 305 d6 _).trans e6, hk.1, hk.2.trans l1, c1, p1, p2, p3, p4, p5, p6, fun q => ⟨(p7 q).1, (p7 q).2.fr g f d7⟩⟩
set_option maxRecDepth 100000 in
set_option maxHeartbeats 4000000 in
theorem t_C_isDone {kn : Nat → Nat} {B : Nat} {S : b_M} {z x w : Nat} {a : Nat} {nx : Int} {un : Int} (h : cS S x) (e_nx : m_I S 5 a = iI nx) (b_nx : -2147483648 ≤ nx ∧ nx < 2147483648) (e_un : m_I S 6 a = iI un) (b_un : -2147483648 ≤ un ∧ un < 2147483648) (hs_a : isC x a) : b_C kn B yX1_isDone cX1_isDone 1 (some .boolean) 0 0 0 0 [.ref a] S z (fun r S' z' => z = z' ∧ S = S' ∧ ∃ q : Int, r = some (.int (iI q)) ∧ (q = 0 ∨ q = 1) ∧ ((q = 1 ∧ un ≤ nx) ∨ (q = 0 ∧ nx < un))) (fun _ _ _ => False) := by
  refine b_enter (by decide) (Nat.le_of_ble_eq_true rfl) ?_
  intro X hX hE hnL hkn hB hI_
  subst hkn; subst hB
  clear hI_
  change b_V X S z 0 0 0 [(0, .ref a)] []
  refine v_aload_n hX dX1_isDone_0 (i := 0) rfl rfl ?_
  refine v_get hX (ci := 0) (k := 5) (isC_k h hs_a) bc_0 (by decide) (by decide) in_0 w_2_57 dX1_isDone_1 (mvF (f := 5) (v := iI nx) rfl rfl (by simp (disch := omega) only [y_I_s_I, x_I_s_I, z_I_s_J, z_I_s_A, z_I_s_B, z_I_s_P, e_nx, e_un])) ?_
  refine v_aload_n hX dX1_isDone_4 (i := 0) rfl rfl ?_
  refine v_get hX (ci := 0) (k := 6) (isC_k h hs_a) bc_0 (by decide) (by decide) in_0 w_2_59 dX1_isDone_5 (mvF (f := 6) (v := iI un) rfl rfl (by simp (disch := omega) only [y_I_s_I, x_I_s_I, z_I_s_J, z_I_s_A, z_I_s_B, z_I_s_P, e_nx, e_un])) ?_
  refine u_icmp_lt hX (tgt := 15) dX1_isDone_8 (by decide) ⟨by omega, by omega⟩ ⟨by omega, by omega⟩ (fun h1_ => ?_) (fun h1_ => ?_)
  ·
    refine v_iconst hX (v := iI 0) dX1_isDone_15 rfl ?_
    exact v_zreturn hX (nar_b (by omega)) hE dX1_isDone_16 (by omega) (by omega) ⟨rfl, rfl, 0, rfl, (by omega), (by omega)⟩
  ·
    refine v_iconst hX (v := iI 1) dX1_isDone_11 rfl ?_
    refine v_goto hX (tgt := 16) dX1_isDone_12 (by decide) ?_
    exact v_zreturn hX (nar_b (by omega)) hE dX1_isDone_16 (by omega) (by omega) ⟨rfl, rfl, 1, rfl, (by omega), (by omega)⟩
set_option maxRecDepth 100000 in
set_option maxHeartbeats 4000000 in
theorem t_C_begin {kn : Nat → Nat} {B : Nat} {S : b_M} {z x w : Nat} {nn : Int} {f_ : Int} {u_ : Int} {a : Nat} (h : cS S x) (b_nn : -2147483648 ≤ nn ∧ nn < 2147483648) (b_f_ : -2147483648 ≤ f_ ∧ f_ < 2147483648) (b_u_ : -2147483648 ≤ u_ ∧ u_ < 2147483648) (hs_a : isC x a) : b_C kn B yX1_begin cX1_begin 4 none 0 0 0 0 [.ref a, .int (iI nn), .int (iI f_), .int (iI u_)] S z (fun r S' z' => z = z' ∧ cFr [4, 5, 6] [] [] w S S' x ∧ ∃ n1 u1 : Int, r = none ∧ m_I S' 5 a = iI n1 ∧ (-2147483648 ≤ n1 ∧ n1 < 2147483648) ∧ m_I S' 6 a = iI u1 ∧ (-2147483648 ≤ u1 ∧ u1 < 2147483648) ∧ (n1 = f_ ∧ u1 = u_) ∧ (∀ b, b ≠ a → m_I S' 5 b = m_I S 5 b ∧ m_I S' 6 b = m_I S 6 b)) (fun _ _ _ => False) := by
  refine b_enter (by decide) (Nat.le_of_ble_eq_true rfl) ?_
  intro X hX hE hnL hkn hB hI_
  subst hkn; subst hB
  clear hI_
  change b_V X S z 0 0 0 [(0, .ref a), (1, .int (iI nn)), (2, .int (iI f_)), (3, .int (iI u_))] []
  refine v_aload_n hX dX1_begin_0 (i := 0) rfl rfl ?_
  refine v_iload_n hX dX1_begin_1 (i := 1) rfl rfl ?_
  refine v_putI hX (ci := 0) (k := 4) (f := 4) (isC_k h hs_a) bc_0 (by decide) (by decide) in_0 tyX1_ok nmX1 w_2_55 (Or.inl rfl) rfl rfl dX1_begin_2 rfl rfl ?_
  refine v_aload_n hX dX1_begin_5 (i := 0) rfl rfl ?_
  refine v_iload_n hX dX1_begin_6 (i := 2) rfl rfl ?_
  refine v_putI hX (ci := 0) (k := 5) (f := 5) (isC_k (cS.sI h) hs_a) bc_0 (by decide) (by decide) in_0 tyX1_ok nmX1 w_2_57 (Or.inl rfl) rfl rfl dX1_begin_7 rfl rfl ?_
  refine v_aload_n hX dX1_begin_10 (i := 0) rfl rfl ?_
  refine v_iload_n hX dX1_begin_11 (i := 3) rfl rfl ?_
  refine v_putI hX (ci := 0) (k := 6) (f := 6) (isC_k (cS.sI (cS.sI h)) hs_a) bc_0 (by decide) (by decide) in_0 tyX1_ok nmX1 w_2_59 (Or.inl rfl) rfl rfl dX1_begin_12 rfl rfl ?_
  exact v_return hX hE dX1_begin_15 (by omega) (by omega) ⟨rfl, ((((cFr.rf _ _).sI (by decide) ⟨(isC_in2 hs_a).1, (isC_in2 hs_a).2⟩).sI (by decide) ⟨(isC_in2 hs_a).1, (isC_in2 hs_a).2⟩).sI (by decide) ⟨(isC_in2 hs_a).1, (isC_in2 hs_a).2⟩), f_, u_, rfl, (by simp (disch := omega) only [y_I_s_I, x_I_s_I, z_I_s_J, z_I_s_A, z_I_s_B, z_I_s_P]), ⟨by omega, by omega⟩, (by simp (disch := omega) only [y_I_s_I, x_I_s_I, z_I_s_J, z_I_s_A, z_I_s_B, z_I_s_P]), ⟨by omega, by omega⟩, (by omega), (fun b hb => ⟨by simp (disch := omega) only [x_I_s_I], by simp (disch := omega) only [x_I_s_I]⟩)⟩
set_option maxRecDepth 100000 in
set_option maxHeartbeats 4000000 in
theorem t_C_readFrom {kn : Nat → Nat} {B : Nat} {S : b_M} {z x w : Nat} {src : Nat} {a : Nat} {Ls : Nat} (h : cS S x) (hs_a : isC x a) (k_src : m_K S src = 12) (l_src : m_L S src = Ls) (c_src : (Ls : Int) ≤ 2097152) : b_C kn B yX1_readFrom cX1_readFrom 2 none 0 0 0 0 [.ref a, .ref src] S z (fun r S' z' => z = z' ∧ cFr [] [1] [] w S S' x ∧ ∃ s1 Ls1 : Nat, r = none ∧ m_P S' 1 a = some s1 ∧ m_K S' s1 = 12 ∧ m_L S' s1 = Ls1 ∧ (Ls1 : Int) ≤ 2097152 ∧ (s1 = src ∧ Ls1 = Ls) ∧ (∀ b, b ≠ a → m_P S' 1 b = m_P S 1 b)) (fun _ _ _ => False) := by
  refine b_enter (by decide) (Nat.le_of_ble_eq_true rfl) ?_
  intro X hX hE hnL hkn hB hI_
  subst hkn; subst hB
  clear hI_
  change b_V X S z 0 0 0 [(0, .ref a), (1, .ref src)] []
  refine v_aload_n hX dX1_readFrom_0 (i := 0) rfl rfl ?_
  refine v_aload_n hX dX1_readFrom_1 (i := 1) rfl rfl ?_
  refine v_putP hX (ci := 0) (k := 1) (f := 1) (isC_k h hs_a) bc_0 (by decide) (by decide) in_0 tyX1_ok nmX1 w_2_49 (Or.inl rfl) rfl rfl dX1_readFrom_2 rfl rfl ?_
  exact v_return hX hE dX1_readFrom_5 (by omega) (by omega) ⟨rfl, ((cFr.rf _ _).sP (by decide) ⟨(isC_in2 hs_a).1, (isC_in2 hs_a).2⟩), src, Ls, rfl, (by simp (disch := omega) only [y_P_s_P, x_P_s_P, z_P_s_I, z_P_s_J, z_P_s_A, z_P_s_B]), k_src, l_src, (by omega), (by omega), (fun b hb => by simp (disch := omega) only [x_P_s_P])⟩
set_option maxRecDepth 100000 in
set_option maxHeartbeats 4000000 in
theorem t_C_keep {kn : Nat → Nat} {B : Nat} {S : b_M} {z x w : Nat} {ln : Int} {src : Nat} {a : Nat} {Ls : Nat} (h : cS S x) (b_ln : -2147483648 ≤ ln ∧ ln < 2147483648) (hs_a : isC x a) (k_src : m_K S src = 12) (l_src : m_L S src = Ls) (c_src : (Ls : Int) ≤ 2097152) (g_bY : bY S) : b_C kn B yX1_keep cX1_keep 4 none 1 40 0 0 [.ref a, .ref src, .int (iI ln)] S z (fun r S' z' => z = z' ∧ cFr [] [1] [] w S S' x ∧ ∃ s1 Ls1 : Nat, r = none ∧ m_P S' 1 a = some s1 ∧ m_K S' s1 = 12 ∧ m_L S' s1 = Ls1 ∧ (Ls1 : Int) ≤ 2097152 ∧ (s1 = a + 1 ∧ Ls1 = 100) ∧ (∀ b, b ≠ a → m_P S' 1 b = m_P S 1 b) ∧ (bY S')) (fun _ _ _ => False) := by
  refine b_enter (by decide) (Nat.le_of_ble_eq_true rfl) ?_
  intro X hX hE hnL hkn hB hI_
  subst hkn; subst hB
  clear hI_
  change b_V X S z 0 0 0 [(0, .ref a), (1, .ref src), (2, .int (iI ln))] []
  refine v_iload_n hX dX1_keep_0 (i := 2) rfl rfl ?_
  refine v_aload_n hX dX1_keep_1 (i := 0) rfl rfl ?_
  refine v_get hX (ci := 0) (k := 0) (isC_k h hs_a) bc_0 (by decide) (by decide) in_0 w_2_48 dX1_keep_2 (mvP (f := 0) (q := (a + 1)) rfl rfl (isC_p0 h hs_a)) ?_
  refine u_alen hX (L := 100) (t0 := 0) (ty := .byte) (isC_kk h hs_a).1 ⟨by decide, by decide⟩ (fun _ => rfl) (isC_kk h hs_a).2 dX1_keep_5 ?_
  refine u_mmin hX w_5_3 w_2_122 w_1_15 w_2_123 (by decide) (Nat.le_of_ble_eq_true rfl) (by omega) (by omega) ⟨by omega, by omega⟩ ⟨by omega, by omega⟩ dX1_keep_6 (fun v1_ q_v1_ b_v1_ => ?_)
  refine v_aload_n hX dX1_keep_9 (i := 1) rfl rfl ?_
  refine u_alen hX (L := Ls) (t0 := 0) (ty := .byte) k_src ⟨by decide, by decide⟩ (fun _ => rfl) l_src dX1_keep_10 ?_
  refine u_mmin hX w_5_3 w_2_122 w_1_15 w_2_123 (by decide) (Nat.le_of_ble_eq_true rfl) (by omega) (by omega) ⟨by omega, by omega⟩ ⟨by omega, by omega⟩ dX1_keep_11 (fun v2_ q_v2_ b_v2_ => ?_)
  refine v_istore_n hX (lv' := [(3, .int (iI v2_)), (0, .ref a), (1, .ref src), (2, .int (iI ln))]) dX1_keep_14 (i := 3) rfl (by rw [hnL]; decide) rfl ?_
  refine v_aload_n hX dX1_keep_15 (i := 1) rfl rfl ?_
  refine v_iconst hX (v := iI 0) dX1_keep_16 rfl ?_
  refine v_aload_n hX dX1_keep_17 (i := 0) rfl rfl ?_
  refine v_get hX (ci := 0) (k := 0) (isC_k h hs_a) bc_0 (by decide) (by decide) in_0 w_2_48 dX1_keep_18 (mvP (f := 0) (q := (a + 1)) rfl rfl (isC_p0 h hs_a)) ?_
  refine v_iconst hX (v := iI 0) dX1_keep_21 rfl ?_
  refine v_iload_n hX dX1_keep_22 (i := 3) rfl rfl ?_
  refine v_iconst hX (v := iI 0) dX1_keep_23 rfl ?_
  refine u_mmax hX w_5_4 w_5_5 w_1_15 w_5_6 (by decide) (Nat.le_of_ble_eq_true rfl) (by omega) (by omega) ⟨by omega, by omega⟩ ⟨by omega, by omega⟩ dX1_keep_24 (fun v3_ q_v3_ b_v3_ => ?_)
  refine w_acopyB hX (src := src) (dst := (a + 1)) (n := v3_) k_src (isC_kk h hs_a).1 ⟨⟨by omega, by rw [l_src]; omega⟩, by rw [(isC_kk h hs_a).2]; omega, by omega⟩ (fun i => g_bY _ i k_src) w_5_7 w_4_140 w_4_139 w_1_27 (by decide) (Nat.le_of_ble_eq_true rfl) dX1_keep_27 (fun g4_ hg4_ => ?_)
  have f4_ : cFr [] [] [] w S (r_A S (a + 1) g4_) x := (cFr.rf _ _).rA (Or.inl ⟨by have := isC_in hs_a; omega, by have := isC_in hs_a; omega⟩) (isC_kk h hs_a).1 (fun hy i => by rcases hg4_ i with e | ⟨j, e⟩; (rw [e]; exact hy _ _ (isC_kk h hs_a).1); (rw [e]; exact hy _ _ k_src))
  have p4_ : ∀ b, m_P (r_A S (a + 1) g4_) 1 b = m_P S 1 b := fun _ => rfl
  generalize r_A S (a + 1) g4_ = S4_ at f4_ p4_ ⊢
  have k5_ : m_K S4_ src = 12 := (f4_.2.2.2.2 _ (by rw [show m_K S src = 12 from k_src]; decide)).1.trans k_src
  have l6_ : m_L S4_ src = Ls := (f4_.2.2.2.2 _ (by rw [show m_K S src = 12 from k_src]; decide)).2.1.trans l_src
  have h4_ : cS S4_ x := f4_.keep (by decide) h
  have g4_bY : bY S4_ := bY.fr g_bY h f4_ (by decide)
  refine v_aload_n hX dX1_keep_30 (i := 0) rfl rfl ?_
  refine v_aload_n hX dX1_keep_31 (i := 0) rfl rfl ?_
  refine v_get hX (ci := 0) (k := 0) (isC_k h4_ hs_a) bc_0 (by decide) (by decide) in_0 w_2_48 dX1_keep_32 (mvP (f := 0) (q := (a + 1)) rfl rfl (isC_p0 h4_ hs_a)) ?_
  refine v_putP hX (ci := 0) (k := 1) (f := 1) (isC_k h4_ hs_a) bc_0 (by decide) (by decide) in_0 tyX1_ok nmX1 w_2_49 (Or.inl rfl) rfl rfl dX1_keep_35 rfl rfl ?_
  exact v_return hX hE dX1_keep_38 (by omega) (by omega) ⟨rfl, (((cFr.rf _ _).tr (f4_.mono (by decide) (by decide) (by decide))).sP (by decide) ⟨(isC_in2 hs_a).1, (isC_in2 hs_a).2⟩), (a + 1), 100, rfl, (by simp (disch := omega) only [y_P_s_P, x_P_s_P, z_P_s_I, z_P_s_J, z_P_s_A, z_P_s_B]), (isC_kk (cS.sP h4_ (by decide) ⟨(isC_in2 hs_a).1, (isC_in2 hs_a).2⟩) hs_a).1, (isC_kk (cS.sP h4_ (by decide) ⟨(isC_in2 hs_a).1, (isC_in2 hs_a).2⟩) hs_a).2, (by omega), (by omega), (fun b hb => by rw [x_P_s_P _ _ _ _ _ _ (Or.inr hb)]; exact p4_ b), (bY.fr g4_bY h4_ (show cFr [] [1] [] w S4_ (s_P S4_ 1 a (some (a + 1))) x from ((cFr.rf _ _).sP (by decide) ⟨(isC_in2 hs_a).1, (isC_in2 hs_a).2⟩)) (by decide))⟩
set_option maxRecDepth 100000 in
set_option maxHeartbeats 4000000 in
theorem t_C_readOperands {kn : Nat → Nat} {B : Nat} {S : b_M} {z x w : Nat} {a : Nat} {lo : Int} {hi : Int} (h : cS S x) (hs_a : isC x a) (g_sI : sI S x lo hi) : b_C kn B yX1_readOperands cX1_readOperands 3 (some .boolean) 2 41 0 0 [.ref a, .ref (x + 419)] S z (fun r S' z' => z = z' ∧ cFr [701, 703, 704] [] [431, 432, 435, 436, 439, 440, 443, 444, 447, 448, 451, 452, 455, 456] w S S' x ∧ ∃ q : Int, r = some (.int (iI q)) ∧ (q = 0 ∨ q = 1) ∧ (True) ∧ (sI S' x lo hi) ∧ (opF S' x a lo hi) ∧ (oRw S S' x a)) (fun _ _ _ => False) := by
  refine b_enter (by decide) (Nat.le_of_ble_eq_true rfl) ?_
  intro X hX hE hnL hkn hB hI_
  subst hkn; subst hB
  clear hI_
  change b_V X S z 0 0 0 [(0, .ref a), (1, .ref (x + 419))] []
  have L27 : ∀ (n27 : Nat) (S27c : b_M) (i : Int), cFr [701, 703, 704] [] [431, 432, 435, 436, 439, 440, 443, 444, 447, 448, 451, 452, 455, 456] w S S27c x → (0 ≤ i ∧ i ≤ 4) → (0 ≤ lo) → sI S27c x lo hi → opF S27c x a lo hi → oRw S S27c x a → (4 - i).toNat = n27 → b_V X S27c z 0 0 27 [(2, .int (iI i)), (0, .ref a), (1, .ref (x + 419))] [] := by
    intro n27
    induction n27 using Nat.strongRecOn with
    | _ n27 ih27 =>
    intro S27c i fr27 p27_0 p27_1 g27_sI g27_opF g27_oRw hm27
    have h27c : cS S27c x := fr27.keep (by decide) h
    refine v_iload_n hX dX1_readOperands_27 (i := 2) rfl rfl ?_
    refine v_iconst hX (v := iI 4) dX1_readOperands_28 rfl ?_
    refine u_icmp_ge hX (tgt := 73) dX1_readOperands_29 (by decide) ⟨by omega, by omega⟩ ⟨by omega, by omega⟩ (fun h1_ => ?_) (fun h1_ => ?_)
    ·
      refine v_iconst hX (v := iI 0) dX1_readOperands_73 rfl ?_
      exact v_zreturn hX (nar_b (by omega)) hE dX1_readOperands_74 (by omega) (by omega) ⟨rfl, fr27, 0, rfl, (by omega), trivial, g27_sI, g27_opF, g27_oRw⟩
    ·
      refine v_aload_n hX dX1_readOperands_32 (i := 1) rfl rfl ?_
      refine v_callV hX (n := 0) (g_readOperand (S := S27c) (x := x) (w := w) h27c g27_sI) (cs_k_419 h27c) bc_7 (by decide) w_4_85 w_4_86 w_4_87 w_1_11 w_4_88 (by decide +kernel) rfl ⟨by decide, by decide⟩ ⟨by omega, by omega⟩ (Nat.le_of_ble_eq_true rfl) rfl dX1_readOperands_33 (fun _ _ _ q => q) ?_
      rintro r2_ S2_ z2_ ⟨rfl, f2_, v3_, v4_, rfl, e_v3_, b_v3_, e_v4_, b_v4_, q2_, g2_sI⟩
      have h2_ : cS S2_ x := f2_.keep (by decide) h27c
      have g2_opF : opF S2_ x a lo hi := opF.fr g27_opF h27c f2_ (by decide)
      have g2_oRw : oRw S S2_ x a := oRw.fr g27_oRw h27c f2_ (by decide)
      refine v_aload_n hX dX1_readOperands_36 (i := 0) rfl rfl ?_
      refine v_get hX (ci := 0) (k := 2) (isC_k h2_ hs_a) bc_0 (by decide) (by decide) in_0 w_2_51 dX1_readOperands_37 (mvP (f := 2) (q := (a + 2)) rfl rfl (isC_p2 h2_ hs_a)) ?_
      refine v_iload_n hX dX1_readOperands_40 (i := 2) rfl rfl ?_
      refine v_aload_n hX dX1_readOperands_41 (i := 1) rfl rfl ?_
      refine v_get hX (ci := 7) (k := 3) (cs_k_419 h2_) bc_7 (by decide) (by decide) in_7 w_1_236 dX1_readOperands_42 (mvF (f := 703) (v := iI v3_) rfl rfl (by simp (disch := omega) only [y_I_s_I, x_I_s_I, z_I_s_J, z_I_s_A, z_I_s_B, z_I_s_P, e_v3_, e_v4_])) ?_
      refine u_iast hX (L := 4) (isC_kf h2_ hs_a).1 (isC_kf h2_ hs_a).2 ⟨by omega, by omega⟩ (by decide) dX1_readOperands_45 ?_
      refine v_aload_n hX dX1_readOperands_46 (i := 0) rfl rfl ?_
      refine v_get hX (ci := 0) (k := 3) (isC_k (cS.sA h2_) hs_a) bc_0 (by decide) (by decide) in_0 w_2_53 dX1_readOperands_47 (mvP (f := 3) (q := (a + 3)) rfl rfl (isC_p3 (cS.sA h2_) hs_a)) ?_
      refine v_iload_n hX dX1_readOperands_50 (i := 2) rfl rfl ?_
      refine v_aload_n hX dX1_readOperands_51 (i := 1) rfl rfl ?_
      refine v_get hX (ci := 7) (k := 4) (cs_k_419 (cS.sA h2_)) bc_7 (by decide) (by decide) in_7 w_1_238 dX1_readOperands_52 (mvF (f := 704) (v := iI v4_) rfl rfl (by simp (disch := omega) only [y_I_s_I, x_I_s_I, z_I_s_J, z_I_s_A, z_I_s_B, z_I_s_P, e_v3_, e_v4_])) ?_
      refine u_iast hX (L := 4) (isC_kt (cS.sA h2_) hs_a).1 (isC_kt (cS.sA h2_) hs_a).2 ⟨by omega, by omega⟩ (by decide) dX1_readOperands_55 ?_
      refine v_aload_n hX dX1_readOperands_56 (i := 1) rfl rfl ?_
      refine v_bipush hX (v := iI 44) dX1_readOperands_57 (by decide) ?_
      refine v_callV hX (n := 1) (g_takes (S := (s_A (s_A S2_ (a + 2) i.toNat (iI v3_)) (a + 3) i.toNat (iI v4_))) (x := x) (w := w) (c := 44) (cS.sA (cS.sA h2_)) ⟨by omega, by omega⟩ (sI.fr g2_sI h2_ (show cFr [] [] [431, 432, 435, 436, 439, 440, 443, 444, 447, 448, 451, 452, 455, 456] w S2_ (s_A (s_A S2_ (a + 2) i.toNat (iI v3_)) (a + 3) i.toNat (iI v4_)) x from (((cFr.rf _ _).sAc hs_a (by omega) (by decide) (isC_kf h2_ hs_a).1).sAc hs_a (by omega) (by decide) (isC_kt (cS.sA h2_) hs_a).1)) (by decide))) (cs_k_419 (cS.sA (cS.sA h2_))) bc_7 (by decide) w_4_89 w_4_60 w_4_61 w_1_11 w_4_62 (by decide +kernel) rfl ⟨by decide, by decide⟩ ⟨by omega, by omega⟩ (Nat.le_of_ble_eq_true rfl) rfl dX1_readOperands_59 (fun _ _ _ q => q) ?_
      rintro r5_ S5_ z5_ ⟨rfl, f5_, v6_, rfl, b_v6_, q5_, g5_sI⟩
      have y7_ : m_I S5_ 703 (x + 419) = iI v3_ := (f5_.2.1 703 (by decide) _).trans (by simp (disch := omega) only [y_I_s_I, x_I_s_I, z_I_s_J, z_I_s_A, z_I_s_B, z_I_s_P, e_v3_, e_v4_])
      have y8_ : m_I S5_ 704 (x + 419) = iI v4_ := (f5_.2.1 704 (by decide) _).trans (by simp (disch := omega) only [y_I_s_I, x_I_s_I, z_I_s_J, z_I_s_A, z_I_s_B, z_I_s_P, e_v3_, e_v4_])
      have h5_ : cS S5_ x := f5_.keep (by decide) (cS.sA (cS.sA h2_))
      have g5_opF : opF S5_ x a lo hi := opF.fr (opF.put g2_opF ⟨by omega, by omega⟩ ⟨by omega, by omega⟩ ⟨by omega, by omega⟩ (by omega)) (cS.sA (cS.sA h2_)) f5_ (by decide)
      have g5_oRw : oRw S S5_ x a := oRw.fr (oRw.put g2_oRw hs_a) (cS.sA (cS.sA h2_)) f5_ (by decide)
      refine u_if_ne hX (tgt := 67) dX1_readOperands_62 (by decide) ⟨by omega, by omega⟩ (fun h9_ => ?_) (fun h9_ => ?_)
      ·
        refine v_iinc hX (v := iI (i + 1)) (lv' := [(2, .int (iI (i + 1))), (0, .ref a), (1, .ref (x + 419))]) dX1_readOperands_67 rfl (iI_add _ _) (by rw [hnL]; decide) rfl ?_
        refine v_goto hX (tgt := 27) dX1_readOperands_70 (by decide) ?_
        exact ih27 _ (by omega) _ (i + 1) ((((fr27.tr (f2_.mono (by decide) (by decide) (by decide))).sAc hs_a (by omega) (by decide) (isC_kf h2_ hs_a).1).sAc hs_a (by omega) (by decide) (isC_kt (cS.sA h2_) hs_a).1).tr (f5_.mono (by decide) (by decide) (by decide))) (by omega) (by omega) g5_sI g5_opF g5_oRw rfl
      ·
        refine v_iconst hX (v := iI 1) dX1_readOperands_65 rfl ?_
        exact v_zreturn hX (nar_b (by omega)) hE dX1_readOperands_66 (by omega) (by omega) ⟨rfl, ((((fr27.tr (f2_.mono (by decide) (by decide) (by decide))).sAc hs_a (by omega) (by decide) (isC_kf h2_ hs_a).1).sAc hs_a (by omega) (by decide) (isC_kt (cS.sA h2_) hs_a).1).tr (f5_.mono (by decide) (by decide) (by decide))), 1, rfl, (by omega), trivial, g5_sI, g5_opF, g5_oRw⟩
  refine v_aload_n hX dX1_readOperands_0 (i := 0) rfl rfl ?_
  refine v_get hX (ci := 0) (k := 2) (isC_k h hs_a) bc_0 (by decide) (by decide) in_0 w_2_51 dX1_readOperands_1 (mvP (f := 2) (q := (a + 2)) rfl rfl (isC_p2 h hs_a)) ?_
  refine v_iconst hX (v := iI 0) dX1_readOperands_4 rfl ?_
  refine v_callS hX (n := 2) (t_fillC (S := S) (x := x) (w := w) (a := a) (o := 2) (v := 0) h hs_a (by omega) ⟨by omega, by omega⟩) w_4_83 w_1_75 w_1_5 w_1_76 (by decide +kernel) rfl ⟨by decide, by decide⟩ ⟨by omega, by omega⟩ (Nat.le_of_ble_eq_true rfl) rfl dX1_readOperands_5 (fun _ _ _ q => q) ?_
  rintro r10_ S10_ z10_ ⟨rfl, f10_, rfl, -, q10_, q10_o⟩
  have h10_ : cS S10_ x := f10_.keep (by decide) h
  have g10_sI : sI S10_ x lo hi := sI.fr g_sI h f10_ (by decide)
  refine v_aload_n hX dX1_readOperands_8 (i := 0) rfl rfl ?_
  refine v_get hX (ci := 0) (k := 3) (isC_k h10_ hs_a) bc_0 (by decide) (by decide) in_0 w_2_53 dX1_readOperands_9 (mvP (f := 3) (q := (a + 3)) rfl rfl (isC_p3 h10_ hs_a)) ?_
  refine v_iconst hX (v := iI 0) dX1_readOperands_12 rfl ?_
  refine v_callS hX (n := 2) (t_fillC (S := S10_) (x := x) (w := w) (a := a) (o := 3) (v := 0) h10_ hs_a (by omega) ⟨by omega, by omega⟩) w_4_83 w_1_75 w_1_5 w_1_76 (by decide +kernel) rfl ⟨by decide, by decide⟩ ⟨by omega, by omega⟩ (Nat.le_of_ble_eq_true rfl) rfl dX1_readOperands_13 (fun _ _ _ q => q) ?_
  rintro r11_ S11_ z11_ ⟨rfl, f11_, rfl, -, q11_, q11_o⟩
  have h11_ : cS S11_ x := f11_.keep (by decide) h10_
  have g11_sI : sI S11_ x lo hi := sI.fr g10_sI h10_ f11_ (by decide)
  obtain ⟨_, _, _, _, _, _, _, _, _, _, _, _, _, lo0_, _⟩ := id g_sI
  have g0_opF : opF S11_ x a lo hi := ⟨hs_a, fun k h1 h2 => by rw [q11_o (a + 2) (by omega), q10_ k h1 h2, q11_ k h1 h2]; exact ⟨by omega, Or.inl (by omega)⟩⟩
  have g0_oRw : oRw S S11_ x a := fun b hb hn k => by have h9 := isC_ne hs_a hb hn; rw [q11_o _ h9.2.1, q10_o _ h9.1, q11_o _ h9.2.2.2, q10_o _ h9.2.2.1]; exact ⟨rfl, rfl⟩
  refine v_aload_n hX dX1_readOperands_16 (i := 1) rfl rfl ?_
  refine v_callV hX (n := 0) (g_isAtEnd (S := S11_) (x := x) (w := w) h11_ g11_sI) (cs_k_419 h11_) bc_7 (by decide) w_4_84 w_4_31 w_4_32 w_1_11 w_4_33 (by decide +kernel) rfl ⟨by decide, by decide⟩ ⟨by omega, by omega⟩ (Nat.le_of_ble_eq_true rfl) rfl dX1_readOperands_17 (fun _ _ _ q => q) ?_
  rintro r12_ S12_ z12_ ⟨rfl, f12_, v13_, rfl, b_v13_, q12_, g12_sI⟩
  have h12_ : cS S12_ x := f12_.keep (by decide) h11_
  have g12_opF : opF S12_ x a lo hi := opF.fr g0_opF h11_ f12_ (by decide)
  have g12_oRw : oRw S S12_ x a := oRw.fr g0_oRw h11_ f12_ (by decide)
  refine u_if_eq hX (tgt := 25) dX1_readOperands_20 (by decide) ⟨by omega, by omega⟩ (fun h14_ => ?_) (fun h14_ => ?_)
  ·
    refine v_iconst hX (v := iI 0) dX1_readOperands_25 rfl ?_
    refine v_istore_n hX (lv' := [(2, .int (iI 0)), (0, .ref a), (1, .ref (x + 419))]) dX1_readOperands_26 (i := 2) rfl (by rw [hnL]; decide) rfl ?_
    exact L27 _ _ 0 ((((cFr.rf _ _).tr (f10_.mono (by decide) (by decide) (by decide))).tr (f11_.mono (by decide) (by decide) (by decide))).tr (f12_.mono (by decide) (by decide) (by decide))) (by omega) (by omega) g12_sI g12_opF g12_oRw rfl
  ·
    refine v_iconst hX (v := iI 1) dX1_readOperands_23 rfl ?_
    exact v_zreturn hX (nar_b (by omega)) hE dX1_readOperands_24 (by omega) (by omega) ⟨rfl, ((((cFr.rf _ _).tr (f10_.mono (by decide) (by decide) (by decide))).tr (f11_.mono (by decide) (by decide) (by decide))).tr (f12_.mono (by decide) (by decide) (by decide))), 1, rfl, (by omega), trivial, g12_sI, g12_opF, g12_oRw⟩
