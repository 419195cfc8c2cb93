/-- what the reference keeps between calls -/
def rM (S : b_M) (y : Nat) (n : Int) : Prop := mS S y ∧ m_I S 1103 y = iI n ∧ ∃ st la se er az wt wo : Int, (m_I S 1128 y = iI st ∧ m_I S 1139 y = iI la ∧ m_I S 1148 y = iI se ∧ m_I S 1153 y = iI er ∧ m_I S 1127 y = iI az ∧ m_I S 1163 y = iI wt ∧ m_I S 1157 y = iI wo) ∧ (0 ≤ st ∧ st ≤ 400 ∧ 0 ≤ la ∧ la ≤ st ∧ 0 ≤ se ∧ se ≤ 400 ∧ 0 ≤ er ∧ er ≤ 50 ∧ 0 ≤ az ∧ az ≤ 4300 ∧ (wt = 0 ∨ wt = 1) ∧ 0 ≤ wo ∧ wo ≤ 65536) ∧ lb S y st = la ∧ ∀ j : Int, 0 ≤ j → j < st → 0 ≤ rAt S (y + 21) j ∧ rAt S (y + 21) j ≤ 8 ∧ 0 ≤ rAt S (y + 23) j ∧ rAt S (y + 23) j ≤ 1000
theorem rM.to {S S1 : b_M} {y : Nat} {n n1 : Int} (h : rM S y n) (k : mS S1 y) (e : m_I S1 1103 y = iI n1) (f : ∀ g, g ≠ 1102 → g ≠ 1103 → m_I S1 g y = m_I S g y) (r1 : ∀ i, rAt S1 (y + 21) i = rAt S (y + 21) i) (r2 : ∀ i, rAt S1 (y + 23) i = rAt S (y + 23) i) (r3 : ∀ i, lAt S1 (y + 24) i = lAt S (y + 24) i) : rM S1 y n1 := by
  obtain ⟨-, -, st, la, se, er, az, wt, wo, ⟨e1, e2, e3, e4, e5, e6, e7⟩, p, l, r⟩ := h
  refine ⟨k, e, st, la, se, er, az, wt, wo, ⟨(f _ (by decide) (by decide)).trans e1, (f _ (by decide) (by decide)).trans e2, (f _ (by decide) (by decide)).trans e3, (f _ (by decide) (by decide)).trans e4, (f _ (by decide) (by decide)).trans e5, (f _ (by decide) (by decide)).trans e6, (f _ (by decide) (by decide)).trans e7⟩, p, ?_, fun j a b => by rw [r1, r2]; exact r j a b⟩
  exact (lbn_c st.toNat (fun i _ _ => r3 i)).trans l
theorem rM.fr {Js : List Nat} {S S1 : b_M} {y : Nat} {n n1 : Int} (h : rM S y n) (f : mFr [1102, 1103] Js [3] S S1 y) (e : m_I S1 1103 y = iI n1) : rM S1 y n1 := h.to (f.keep h.1) e (fun g h1 h2 => f.2.2.2.1 g (fun q => by rcases List.mem_cons.1 q with q | q; exact h1 q; exact h2 (List.mem_singleton.1 q))) (f.row (by decide) (by decide)) (f.row (by decide) (by decide)) (f.rowL (by decide) (by decide))
theorem mS.keep {S S1 : b_M} {y : Nat} (h : mS S y) (g : ∀ b, y ≤ b → b < y + 40 → b_eq S S1 b) : mS S1 y := by
  refine ⟨(g y (by omega) (by omega)).1.trans h.1, fun j hj => ?_⟩
  obtain ⟨a1, a2, a3⟩ := h.2 j hj
  have e := g (y + 1 + j) (by omega) (by omega)
  exact ⟨((g y (by omega) (by omega)).2.2.2.1 _).trans a1, e.1.trans a2, e.2.2.2.2.1.trans a3⟩
theorem rM.keep {S S1 : b_M} {y : Nat} {n : Int} (h : rM S y n) (g : ∀ b, y ≤ b → b < y + 40 → b_eq S S1 b) : rM S1 y n := h.to (h.1.keep g) (((g y (by omega) (by omega)).2.1 _).trans h.2.1) (fun f _ _ => (g y (by omega) (by omega)).2.1 f) (g _ (by omega) (by omega)).rA (g _ (by omega) (by omega)).rA (g _ (by omega) (by omega)).lA
theorem rM_0 {S S1 : b_M} {y : Nat} (h : mInv S S1 y (y + 1) 39) (h0 : ∀ f, m_I S f y = 0) : rM S1 y 0 := by
  have e : ∀ f, m_I S1 f y = iI 0 := fun f => ((h.2.2.1 f).trans (h0 f)).trans iI_0
  exact ⟨⟨h.2.1, fun j hj => ⟨(h.2.2.2.2 j hj).1, (h.2.2.2.2 j hj).2.1, (h.2.2.2.2 j hj).2.2.1⟩⟩, e _, 0, 0, 0, 0, 0, 0, 0, ⟨e _, e _, e _, e _, e _, e _, e _⟩, by omega, lb_0 (Int.le_refl _), fun j a b => absurd b (by omega)⟩
/-- the reference's calls don't touch the class's object -/
theorem mFr.cls {Fs Js As : List Nat} {S S1 : b_M} {x y : Nat} (h : mFr Fs Js As S S1 y) (g : mS S y) (hy : x + 457 ≤ y) (hA : ∀ j ∈ As, 1 ≤ j ∧ j ≤ 39) : cFr Fs [] [] 0 S S1 x := by
  have hm : ∀ i, i < 39 → (mTab.getD i (0, 0, 0)).2.1 ≠ 12 := by decide
  have hk : ∀ b, m_K S b = 12 → b ≠ y ∧ ∀ j ∈ As, b ≠ y + j := fun b hb => ⟨fun e => by rw [e, g.1] at hb; exact absurd hb (by decide), fun j hj e => by
    obtain ⟨j1, j2⟩ := hA j hj
    have h9 := (g.2 (j - 1) (by omega)).2.1
    rw [show y + 1 + (j - 1) = y + j by omega, ← e, hb] at h9
    exact hm (j - 1) (by omega) h9.symm⟩
  refine ⟨⟨fun b h1 => absurd h1 (by omega), fun q b i hb => ?_⟩, fun f hf b => ?_, fun f _ b => ?_, fun o ho _ _ i => ?_, fun b _ => ⟨h.2.2.2.2.2.1 b, h.2.2.2.2.2.2 b, fun i => h.2.1.1 b i⟩⟩
  · have hb' : m_K S b = 12 := (h.2.2.2.2.2.1 b).symm.trans hb
    rw [(h.1 b (hk b hb').1 (hk b hb').2).2.2.2.2.2.1 i]
    exact q b i hb'
  · by_cases e : b = y
    · rw [e]; exact h.2.2.2.1 f hf
    · exact (h.2.1.2 b e).1 f
  · by_cases e : b = y
    · rw [e]; exact h.2.2.1 f
    · exact (h.2.1.2 b e).2 f
  · exact (h.1 (x + o) (by omega) (fun j hj => by have := hA j hj; omega)).2.2.2.2.2.1 i
/-- between two calls of the law: the class's object at x, the reference at x + 457, the row at x + 497 -/
def lI (kn : Nat → Nat) (S : b_M) (x : Nat) (n : Int) : Prop := cI kn S x (x + 498) ∧ m_I S 1001 x = iI n ∧ rM S (x + 457) n ∧ (0 ≤ n ∧ n ≤ 4096) ∧ m_K S (x + 497) = 14 ∧ m_L S (x + 497) = 1
/-- what a class's call leaves of the rest -/
theorem rM.cfr {Fs Ps As : List Nat} {S S1 : b_M} {x : Nat} {n : Int} (h : rM S (x + 457) n) (f : cFr Fs Ps As (x + 498) S S1 x) : rM S1 (x + 457) n := h.keep (fun b h1 h2 => f.1.1 b (by omega) (Or.inr (by omega)))
theorem rM.out {S : b_M} {x : Nat} {n : Int} {v : Int64} (h : rM S (x + 457) n) : rM (s_B S (x + 497) 0 v) (x + 457) n := h.keep (fun b h1 h2 => e_s_B _ _ _ _ (by omega))
theorem iAL.keep {kn : Nat → Nat} {S S1 S2 : b_M} {x : Nat} (h : iAL kn S S1 x (x + 1)) (g : ∀ b, b < x + 457 → b_eq S1 S2 b) : iAL kn S S2 x (x + 1) := by
  obtain ⟨a1, a2, a3, ⟨a4, a5, a6, a7⟩, ⟨a8, a9⟩, ⟨E1, E2, e, e0, q1⟩, ⟨P1, P2, p, p0, q2⟩, ⟨T1, T2, t, t0, q3⟩⟩ := h
  have gx := g x (by omega)
  have gy := g (x + 1) (by omega)
  exact ⟨fun b h1 h2 => (a1 b h1 h2).tr (g b (by omega)), gx.1.trans a2, fun f => (gx.2.1 f).trans (a3 f), ⟨(gx.2.2.2.1 _).trans a4, (gx.2.2.2.1 _).trans a5, (gx.2.2.2.1 _).trans a6, (gx.2.2.2.1 _).trans a7⟩, ⟨gy.1.trans a8, gy.2.2.2.2.1.trans a9⟩, ⟨E1, E2, e, e0, fun b h1 h2 => (q1 b h1 h2).tr (g b (by omega))⟩, ⟨P1, P2, p, p0, fun b h1 h2 => (q2 b h1 h2).tr (g b (by omega))⟩, ⟨T1, T2, t, t0, fun b h1 h2 => (q3 b h1 h2).tr (g b (by omega))⟩⟩
theorem bY_mod {S1 S2 : b_M} {y : Nat} (i : mInv S1 S2 y (y + 1) 39) (hf : ∀ b, m_K S2 b < 18 → b < y + 40) (h : bY S1) : bY S2 := by
  intro b j hk
  by_cases g1 : b < y
  · have e := i.1 b (by omega) (by omega)
    rw [e.2.2.2.2.2.1 j]
    exact h b j (e.1.symm.trans hk)
  · have hb := hf b (by rw [hk]; decide)
    by_cases g2 : b = y
    · rw [g2, i.2.1] at hk
      exact absurd hk (by decide)
    · have hm : ∀ i, i < 39 → (mTab.getD i (0, 0, 0)).2.1 ≠ 12 := by decide
      have h9 := (i.2.2.2.2 (b - (y + 1)) (by omega)).2.1
      rw [show y + 1 + (b - (y + 1)) = b by omega, hk] at h9
      exact absurd h9.symm (hm _ (by omega))
/-- a reference's call, all but assemble -/
theorem lI.ref {kn : Nat → Nat} {Js : List Nat} {S S1 : b_M} {x : Nat} {n n1 n2 : Int} (h1 : cI kn S x (x + 498)) (h2 : m_I S 1001 x = iI n) (h3 : rM S (x + 457) n1) (hn : 0 ≤ n ∧ n ≤ 4096) (h5 : m_K S (x + 497) = 14) (h6 : m_L S (x + 497) = 1) (f : mFr [1102, 1103] Js [3] S S1 (x + 457)) (e : m_I S1 1103 (x + 457) = iI n2) (hq : n2 = n) : lI kn S1 x n ∧ lA S1 x = lA S x := by
  subst hq
  have c := f.cls h3.1 (Nat.le_refl _) (by decide)
  have o := f.1 (x + 497) (by omega) (fun j hj => by have := List.mem_singleton.1 hj; omega)
  exact ⟨⟨h1.far c (by decide), (c.2.1 1001 (by decide) x).trans h2, h3.fr f e, hn, o.1.trans h5, o.2.2.2.2.1.trans h6⟩, h1.same c⟩
