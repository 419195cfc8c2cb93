/-! ===== the class's object at x: its parts up to x + 456 ===== -/
def cK : List (Nat × Nat) := [(0, 10), (1, 12), (2, 1), (3, 13), (4, 13), (5, 6), (6, 5), (7, 13), (8, 13), (9, 14), (10, 13), (11, 2), (12, 13), (13, 13), (14, 13), (16, 17), (418, 9), (419, 7), (421, 4), (422, 14), (423, 13), (424, 13), (425, 3), (426, 16)]
def cP : List (Nat × Nat × Nat) := [(1000, 0, 1), (1002, 0, 2), (1003, 0, 5), (1004, 0, 418), (100, 2, 3), (101, 2, 4), (600, 5, 2), (601, 5, 6), (602, 5, 11), (603, 5, 16), (500, 6, 7), (501, 6, 8), (502, 6, 9), (503, 6, 10), (200, 11, 6), (201, 11, 12), (202, 11, 13), (203, 11, 14), (900, 418, 5), (901, 418, 6), (902, 418, 11), (903, 418, 2), (904, 418, 419), (905, 418, 421), (906, 418, 425), (400, 421, 422), (401, 421, 423), (402, 421, 424), (300, 425, 426)]
def cL : List (Nat × Nat) := [(1, 4096), (3, 50), (4, 50), (7, 1021), (8, 800), (9, 800), (10, 800), (12, 3208), (13, 3208), (14, 3209), (16, 401), (422, 12), (423, 12), (424, 12), (426, 7)]
def cS (S : b_M) (x : Nat) : Prop := (∀ q ∈ cK, m_K S (x + q.1) = q.2) ∧ (∀ q ∈ cP, m_P S q.1 (x + q.2.1) = some (x + q.2.2)) ∧ (∀ q ∈ cL, m_L S (x + q.1) = q.2) ∧ (∀ j, j < 401 → m_K S (x + 17 + j) = 8 ∧ m_C S (x + 16) j = some (x + 17 + j)) ∧ ∀ j, j < 7 → m_K S (x + 429 + 4 * j) = 0 ∧ m_C S (x + 426) j = some (x + 429 + 4 * j) ∧ m_P S 0 (x + 429 + 4 * j) = some (x + 429 + 4 * j + 1) ∧ m_P S 2 (x + 429 + 4 * j) = some (x + 429 + 4 * j + 2) ∧ m_P S 3 (x + 429 + 4 * j) = some (x + 429 + 4 * j + 3) ∧ (m_K S (x + 429 + 4 * j + 1) = 12 ∧ m_L S (x + 429 + 4 * j + 1) = 100) ∧ (m_K S (x + 429 + 4 * j + 2) = 13 ∧ m_L S (x + 429 + 4 * j + 2) = 4) ∧ m_K S (x + 429 + 4 * j + 3) = 13 ∧ m_L S (x + 429 + 4 * j + 3) = 4
theorem cS.sI {S : b_M} {x f b : Nat} {v : Int32} (h : cS S x) : cS (s_I S f b v) x := h
theorem cS.sJ {S : b_M} {x f b : Nat} {v : Int64} (h : cS S x) : cS (s_J S f b v) x := h
theorem cS.sA {S : b_M} {x b i : Nat} {v : Int32} (h : cS S x) : cS (s_A S b i v) x := h
theorem cS.sB {S : b_M} {x b i : Nat} {v : Int64} (h : cS S x) : cS (s_B S b i v) x := h
abbrev cD : List Nat := [1, 204, 302, 304, 305, 700, 800, 907, 908]
theorem f_byte (x : Int32) : fits .byte (.int x.toInt8.toInt32) = true := by
  have h1 := Int8.le_toInt x.toInt8
  have h2 := Int8.toInt_lt x.toInt8
  show (decide ((-128 : Int32) ≤ x.toInt8.toInt32) && decide (x.toInt8.toInt32 ≤ 127)) = true
  rw [Bool.and_eq_true, decide_eq_true_eq, decide_eq_true_eq, Int32.le_iff_toInt_le, Int32.le_iff_toInt_le, Int8.toInt_toInt32]
  constructor
  · show (-128 : Int) ≤ _
    omega
  · show _ ≤ (127 : Int)
    omega
def bY (S : b_M) : Prop := ∀ b i, m_K S b = 12 → fits .byte (.int (m_A S b i)) = true
/-- only these int fields, references and rows of ints (by their places) have changed; nothing outside of the object, and of what was made from w on -/
def cFr (Fs Ps As : List Nat) (w : Nat) (S S' : b_M) (x : Nat) : Prop := ((∀ b, b < w → b < x ∨ x + 457 ≤ b → b_eq S S' b) ∧ (bY S → bY S')) ∧ (∀ f, f ∉ Fs → ∀ b, m_I S' f b = m_I S f b) ∧ (∀ f, f ∉ Ps → ∀ b, m_P S' f b = m_P S f b) ∧ (∀ o, o < 457 → m_K S (x + o) = 13 → o ∉ As → ∀ i, m_A S' (x + o) i = m_A S (x + o) i) ∧ ∀ b, m_K S b < 18 → m_K S' b = m_K S b ∧ m_L S' b = m_L S b ∧ ∀ i, m_C S' b i = m_C S b i
theorem cFr.rf {Fs Ps As : List Nat} {w : Nat} (S : b_M) (x : Nat) : cFr Fs Ps As w S S x := ⟨⟨fun b _ _ => b_eq.rf _ _, id⟩, fun _ _ _ => rfl, fun _ _ _ => rfl, fun _ _ _ _ _ => rfl, fun _ _ => ⟨rfl, rfl, fun _ => rfl⟩⟩
theorem cFr.tr {Fs Ps As : List Nat} {w : Nat} {S S1 S2 : b_M} {x : Nat} (h : cFr Fs Ps As w S S1 x) (g : cFr Fs Ps As w S1 S2 x) : cFr Fs Ps As w S S2 x := ⟨⟨fun b a c => (h.1.1 b a c).tr (g.1.1 b a c), fun q => g.1.2 (h.1.2 q)⟩, fun f hf b => (g.2.1 f hf b).trans (h.2.1 f hf b), fun f hf b => (g.2.2.1 f hf b).trans (h.2.2.1 f hf b), fun o a c d i => (g.2.2.2.1 o a (((h.2.2.2.2 _ (by rw [c]; decide)).1).trans c) d i).trans (h.2.2.2.1 o a c d i), fun b hb => by
  have h1 := h.2.2.2.2 b hb
  have h2 := g.2.2.2.2 b (by rw [h1.1]; exact hb)
  exact ⟨h2.1.trans h1.1, h2.2.1.trans h1.2.1, fun i => (h2.2.2 i).trans (h1.2.2 i)⟩⟩
theorem cFr.mono {Fs Ps As Fs' Ps' As' : List Nat} {w : Nat} {S S' : b_M} {x : Nat} (h : cFr Fs Ps As w S S' x) (h1 : ∀ q ∈ Fs, q ∈ Fs') (h2 : ∀ q ∈ Ps, q ∈ Ps') (h3 : ∀ q ∈ As, q ∈ As') : cFr Fs' Ps' As' w S S' x := ⟨h.1, fun f hf => h.2.1 f (fun q => hf (h1 f q)), fun f hf => h.2.2.1 f (fun q => hf (h2 f q)), fun o a c d => h.2.2.2.1 o a c (fun q => d (h3 o q)), h.2.2.2.2⟩
theorem cFr.sI {Fs Ps As : List Nat} {w : Nat} {S S1 : b_M} {x f a : Nat} {v : Int32} (h : cFr Fs Ps As w S S1 x) (hf : f ∈ Fs) (ha : x ≤ a ∧ a < x + 457) : cFr Fs Ps As w S (s_I S1 f a v) x := ⟨⟨fun b h1 h2 => (h.1.1 b h1 h2).tr (e_s_I _ _ _ _ (by omega)), fun q => h.1.2 q⟩, fun g hg b => by rw [x_I_s_I _ _ _ _ _ _ (Or.inl (fun q : g = f => hg (by rw [q]; exact hf)))]; exact h.2.1 g hg b, h.2.2.1, h.2.2.2.1, h.2.2.2.2⟩
theorem cFr.sJ {Fs Ps As : List Nat} {w : Nat} {S S1 : b_M} {x f a : Nat} {v : Int64} (h : cFr Fs Ps As w S S1 x) (ha : x ≤ a ∧ a < x + 457) : cFr Fs Ps As w S (s_J S1 f a v) x := ⟨⟨fun b h1 h2 => (h.1.1 b h1 h2).tr (e_s_J _ _ _ _ (by omega)), fun q => h.1.2 q⟩, h.2⟩
theorem cFr.sP {Fs Ps As : List Nat} {w : Nat} {S S1 : b_M} {x f a : Nat} {v : Option Nat} (h : cFr Fs Ps As w S S1 x) (hf : f ∈ Ps) (ha : x ≤ a ∧ a < x + 457) : cFr Fs Ps As w S (s_P S1 f a v) x := ⟨⟨fun b h1 h2 => (h.1.1 b h1 h2).tr (e_s_P _ _ _ _ (by omega)), fun q => h.1.2 q⟩, h.2.1, fun g hg b => by rw [x_P_s_P _ _ _ _ _ _ (Or.inl (fun q : g = f => hg (by rw [q]; exact hf)))]; exact h.2.2.1 g hg b, h.2.2.2⟩
theorem cFr.sA {Fs Ps As : List Nat} {w : Nat} {S S1 : b_M} {x o i : Nat} {v : Int32} (h : cFr Fs Ps As w S S1 x) (ho : o ∈ As) (hl : o < 457) (hk : m_K S1 (x + o) = 13) : cFr Fs Ps As w S (s_A S1 (x + o) i v) x := ⟨⟨fun b h1 h2 => (h.1.1 b h1 h2).tr (e_s_A _ _ _ _ (by omega)), fun q b j hb => by
  rw [x_A_s_A _ _ _ _ _ _ (Or.inl (fun e => by rw [e] at hb; have hb' : m_K S1 (x + o) = 12 := hb; omega))]
  exact h.1.2 q b j hb⟩, h.2.1, h.2.2.1, fun p a c d j => by rw [x_A_s_A _ _ _ _ _ _ (Or.inl (fun q => d (by rw [show p = o by omega]; exact ho)))]; exact h.2.2.2.1 p a c d j, h.2.2.2.2⟩
theorem cFr.sB {Fs Ps As : List Nat} {w : Nat} {S S1 : b_M} {x a i : Nat} {v : Int64} (h : cFr Fs Ps As w S S1 x) (ha : (x ≤ a ∧ a < x + 457) ∨ w ≤ a) : cFr Fs Ps As w S (s_B S1 a i v) x := ⟨⟨fun b h1 h2 => (h.1.1 b h1 h2).tr (e_s_B _ _ _ _ (by omega)), fun q => h.1.2 q⟩, h.2⟩
/-- a row of bytes: no row of ints -/
theorem cFr.sAd {Fs Ps As : List Nat} {w : Nat} {S S1 : b_M} {x a i : Nat} {v : Int32} (h : cFr Fs Ps As w S S1 x) (ha : (x ≤ a ∧ a < x + 457) ∨ w ≤ a) (hk : m_K S1 a = 12) (hv : fits .byte (.int v) = true) : cFr Fs Ps As w S (s_A S1 a i v) x := ⟨⟨fun b h1 h2 => (h.1.1 b h1 h2).tr (e_s_A _ _ _ _ (by omega)), fun q b j hb => by
  by_cases e : b = a ∧ j = i
  · obtain ⟨rfl, rfl⟩ := e
    rw [y_A_s_A]
    exact hv
  · rw [x_A_s_A _ _ _ _ _ _ (by omega)]
    exact h.1.2 q b j hb⟩, h.2.1, h.2.2.1, fun p b c d j => by
  rw [x_A_s_A _ _ _ _ _ _ (Or.inl (fun q => by
    have h9 := (h.2.2.2.2 (x + p) (by rw [c]; decide)).1
    rw [c, q, hk] at h9
    exact absurd h9 (by decide)))]
  exact h.2.2.2.1 p b c d j, h.2.2.2.2⟩
theorem cFr.keep {Fs Ps As : List Nat} {w : Nat} {S S1 : b_M} {x : Nat} (h : cFr Fs Ps As w S S1 x) (hp : ∀ f ∈ Ps, f ∈ cD) (g : cS S x) : cS S1 x := by
  obtain ⟨g1, g2, g3, g4, g5⟩ := g
  have kk : ∀ q ∈ cK, q.2 < 18 := by decide
  have ll : ∀ q ∈ cL, ∃ r ∈ cK, r.1 = q.1 := by decide
  have pp : ∀ q ∈ cP, q.1 ∉ cD := by decide
  refine ⟨fun q hq => (h.2.2.2.2 _ (by rw [g1 q hq]; exact kk q hq)).1.trans (g1 q hq), fun q hq => (h.2.2.1 _ (fun z => pp q hq (hp _ z)) _).trans (g2 q hq), fun q hq => ?_, fun j hj => ?_, fun j hj => ?_⟩
  · obtain ⟨r, hr, e⟩ := ll q hq
    exact (h.2.2.2.2 _ (by rw [← e, g1 r hr]; exact kk r hr)).2.1.trans (g3 q hq)
  · have a := g4 j hj
    exact ⟨(h.2.2.2.2 _ (by rw [a.1]; decide)).1.trans a.1, ((h.2.2.2.2 (x + 16) (by rw [g1 (16, 17) (by decide)]; decide)).2.2 j).trans a.2⟩
  · obtain ⟨a1, a2, a3, a4, a5, a6, a7, a8⟩ := g5 j hj
    have p0 : ∀ f, f ∉ cD → ∀ b, m_P S1 f b = m_P S f b := fun f hf b => h.2.2.1 f (fun z => hf (hp _ z)) b
    exact ⟨(h.2.2.2.2 _ (by rw [a1]; decide)).1.trans a1, ((h.2.2.2.2 (x + 426) (by rw [g1 (426, 16) (by decide)]; decide)).2.2 j).trans a2, (p0 0 (by decide) _).trans a3, (p0 2 (by decide) _).trans a4, (p0 3 (by decide) _).trans a5, ⟨(h.2.2.2.2 _ (by rw [a6.1]; decide)).1.trans a6.1, (h.2.2.2.2 _ (by rw [a6.1]; decide)).2.1.trans a6.2⟩, ⟨(h.2.2.2.2 _ (by rw [a7.1]; decide)).1.trans a7.1, (h.2.2.2.2 _ (by rw [a7.1]; decide)).2.1.trans a7.2⟩, (h.2.2.2.2 _ (by rw [a8.1]; decide)).1.trans a8.1, (h.2.2.2.2 _ (by rw [a8.1]; decide)).2.1.trans a8.2⟩
theorem cS.sP {S : b_M} {x f b : Nat} {v : Option Nat} (h : cS S x) (hf : f ∈ cD) (hb : x ≤ b ∧ b < x + 457) : cS (s_P S f b v) x := cFr.keep (Fs := []) (Ps := cD) (As := []) (w := 0) (cFr.sP (cFr.rf S x) hf hb) (fun _ h => h) h
theorem cFr.row {Fs Ps As : List Nat} {w : Nat} {S S1 : b_M} {x : Nat} (f : cFr Fs Ps As w S S1 x) {o : Nat} (hk : m_K S (x + o) = 13) (ho : o < 457) (hn : o ∉ As) (i : Int) : rAt S1 (x + o) i = rAt S (x + o) i := by
  unfold rAt
  rw [f.2.2.2.1 o ho hk hn]
theorem cs_k_0 {S : b_M} {x : Nat} (h : cS S x) : m_K S x = 10 := h.1 (0, 10) (by decide)
theorem cs_k_1 {S : b_M} {x : Nat} (h : cS S x) : m_K S (x + 1) = 12 := h.1 (1, 12) (by decide)
theorem cs_k_2 {S : b_M} {x : Nat} (h : cS S x) : m_K S (x + 2) = 1 := h.1 (2, 1) (by decide)
theorem cs_k_3 {S : b_M} {x : Nat} (h : cS S x) : m_K S (x + 3) = 13 := h.1 (3, 13) (by decide)
theorem cs_k_4 {S : b_M} {x : Nat} (h : cS S x) : m_K S (x + 4) = 13 := h.1 (4, 13) (by decide)
theorem cs_k_5 {S : b_M} {x : Nat} (h : cS S x) : m_K S (x + 5) = 6 := h.1 (5, 6) (by decide)
theorem cs_k_6 {S : b_M} {x : Nat} (h : cS S x) : m_K S (x + 6) = 5 := h.1 (6, 5) (by decide)
theorem cs_k_7 {S : b_M} {x : Nat} (h : cS S x) : m_K S (x + 7) = 13 := h.1 (7, 13) (by decide)
theorem cs_k_8 {S : b_M} {x : Nat} (h : cS S x) : m_K S (x + 8) = 13 := h.1 (8, 13) (by decide)
theorem cs_k_9 {S : b_M} {x : Nat} (h : cS S x) : m_K S (x + 9) = 14 := h.1 (9, 14) (by decide)
theorem cs_k_10 {S : b_M} {x : Nat} (h : cS S x) : m_K S (x + 10) = 13 := h.1 (10, 13) (by decide)
theorem cs_k_11 {S : b_M} {x : Nat} (h : cS S x) : m_K S (x + 11) = 2 := h.1 (11, 2) (by decide)
theorem cs_k_12 {S : b_M} {x : Nat} (h : cS S x) : m_K S (x + 12) = 13 := h.1 (12, 13) (by decide)
theorem cs_k_13 {S : b_M} {x : Nat} (h : cS S x) : m_K S (x + 13) = 13 := h.1 (13, 13) (by decide)
theorem cs_k_14 {S : b_M} {x : Nat} (h : cS S x) : m_K S (x + 14) = 13 := h.1 (14, 13) (by decide)
theorem cs_k_16 {S : b_M} {x : Nat} (h : cS S x) : m_K S (x + 16) = 17 := h.1 (16, 17) (by decide)
theorem cs_k_418 {S : b_M} {x : Nat} (h : cS S x) : m_K S (x + 418) = 9 := h.1 (418, 9) (by decide)
theorem cs_k_419 {S : b_M} {x : Nat} (h : cS S x) : m_K S (x + 419) = 7 := h.1 (419, 7) (by decide)
theorem cs_k_421 {S : b_M} {x : Nat} (h : cS S x) : m_K S (x + 421) = 4 := h.1 (421, 4) (by decide)
theorem cs_k_422 {S : b_M} {x : Nat} (h : cS S x) : m_K S (x + 422) = 14 := h.1 (422, 14) (by decide)
theorem cs_k_423 {S : b_M} {x : Nat} (h : cS S x) : m_K S (x + 423) = 13 := h.1 (423, 13) (by decide)
theorem cs_k_424 {S : b_M} {x : Nat} (h : cS S x) : m_K S (x + 424) = 13 := h.1 (424, 13) (by decide)
theorem cs_k_425 {S : b_M} {x : Nat} (h : cS S x) : m_K S (x + 425) = 3 := h.1 (425, 3) (by decide)
theorem cs_k_426 {S : b_M} {x : Nat} (h : cS S x) : m_K S (x + 426) = 16 := h.1 (426, 16) (by decide)
theorem cs_l_1 {S : b_M} {x : Nat} (h : cS S x) : m_L S (x + 1) = 4096 := h.2.2.1 (1, 4096) (by decide)
theorem cs_l_3 {S : b_M} {x : Nat} (h : cS S x) : m_L S (x + 3) = 50 := h.2.2.1 (3, 50) (by decide)
theorem cs_l_4 {S : b_M} {x : Nat} (h : cS S x) : m_L S (x + 4) = 50 := h.2.2.1 (4, 50) (by decide)
theorem cs_l_7 {S : b_M} {x : Nat} (h : cS S x) : m_L S (x + 7) = 1021 := h.2.2.1 (7, 1021) (by decide)
theorem cs_l_8 {S : b_M} {x : Nat} (h : cS S x) : m_L S (x + 8) = 800 := h.2.2.1 (8, 800) (by decide)
theorem cs_l_9 {S : b_M} {x : Nat} (h : cS S x) : m_L S (x + 9) = 800 := h.2.2.1 (9, 800) (by decide)
theorem cs_l_10 {S : b_M} {x : Nat} (h : cS S x) : m_L S (x + 10) = 800 := h.2.2.1 (10, 800) (by decide)
theorem cs_l_12 {S : b_M} {x : Nat} (h : cS S x) : m_L S (x + 12) = 3208 := h.2.2.1 (12, 3208) (by decide)
theorem cs_l_13 {S : b_M} {x : Nat} (h : cS S x) : m_L S (x + 13) = 3208 := h.2.2.1 (13, 3208) (by decide)
theorem cs_l_14 {S : b_M} {x : Nat} (h : cS S x) : m_L S (x + 14) = 3209 := h.2.2.1 (14, 3209) (by decide)
theorem cs_l_16 {S : b_M} {x : Nat} (h : cS S x) : m_L S (x + 16) = 401 := h.2.2.1 (16, 401) (by decide)
theorem cs_l_422 {S : b_M} {x : Nat} (h : cS S x) : m_L S (x + 422) = 12 := h.2.2.1 (422, 12) (by decide)
theorem cs_l_423 {S : b_M} {x : Nat} (h : cS S x) : m_L S (x + 423) = 12 := h.2.2.1 (423, 12) (by decide)
theorem cs_l_424 {S : b_M} {x : Nat} (h : cS S x) : m_L S (x + 424) = 12 := h.2.2.1 (424, 12) (by decide)
theorem cs_l_426 {S : b_M} {x : Nat} (h : cS S x) : m_L S (x + 426) = 7 := h.2.2.1 (426, 7) (by decide)
theorem cs_p_1000 {S : b_M} {x : Nat} (h : cS S x) : m_P S 1000 x = some (x + 1) := h.2.1 (1000, 0, 1) (by decide)
theorem cs_p_1002 {S : b_M} {x : Nat} (h : cS S x) : m_P S 1002 x = some (x + 2) := h.2.1 (1002, 0, 2) (by decide)
theorem cs_p_1003 {S : b_M} {x : Nat} (h : cS S x) : m_P S 1003 x = some (x + 5) := h.2.1 (1003, 0, 5) (by decide)
theorem cs_p_1004 {S : b_M} {x : Nat} (h : cS S x) : m_P S 1004 x = some (x + 418) := h.2.1 (1004, 0, 418) (by decide)
theorem cs_p_100 {S : b_M} {x : Nat} (h : cS S x) : m_P S 100 (x + 2) = some (x + 3) := h.2.1 (100, 2, 3) (by decide)
theorem cs_p_101 {S : b_M} {x : Nat} (h : cS S x) : m_P S 101 (x + 2) = some (x + 4) := h.2.1 (101, 2, 4) (by decide)
theorem cs_p_600 {S : b_M} {x : Nat} (h : cS S x) : m_P S 600 (x + 5) = some (x + 2) := h.2.1 (600, 5, 2) (by decide)
theorem cs_p_601 {S : b_M} {x : Nat} (h : cS S x) : m_P S 601 (x + 5) = some (x + 6) := h.2.1 (601, 5, 6) (by decide)
theorem cs_p_602 {S : b_M} {x : Nat} (h : cS S x) : m_P S 602 (x + 5) = some (x + 11) := h.2.1 (602, 5, 11) (by decide)
theorem cs_p_603 {S : b_M} {x : Nat} (h : cS S x) : m_P S 603 (x + 5) = some (x + 16) := h.2.1 (603, 5, 16) (by decide)
theorem cs_p_500 {S : b_M} {x : Nat} (h : cS S x) : m_P S 500 (x + 6) = some (x + 7) := h.2.1 (500, 6, 7) (by decide)
theorem cs_p_501 {S : b_M} {x : Nat} (h : cS S x) : m_P S 501 (x + 6) = some (x + 8) := h.2.1 (501, 6, 8) (by decide)
theorem cs_p_502 {S : b_M} {x : Nat} (h : cS S x) : m_P S 502 (x + 6) = some (x + 9) := h.2.1 (502, 6, 9) (by decide)
theorem cs_p_503 {S : b_M} {x : Nat} (h : cS S x) : m_P S 503 (x + 6) = some (x + 10) := h.2.1 (503, 6, 10) (by decide)
theorem cs_p_200 {S : b_M} {x : Nat} (h : cS S x) : m_P S 200 (x + 11) = some (x + 6) := h.2.1 (200, 11, 6) (by decide)
theorem cs_p_201 {S : b_M} {x : Nat} (h : cS S x) : m_P S 201 (x + 11) = some (x + 12) := h.2.1 (201, 11, 12) (by decide)
theorem cs_p_202 {S : b_M} {x : Nat} (h : cS S x) : m_P S 202 (x + 11) = some (x + 13) := h.2.1 (202, 11, 13) (by decide)
theorem cs_p_203 {S : b_M} {x : Nat} (h : cS S x) : m_P S 203 (x + 11) = some (x + 14) := h.2.1 (203, 11, 14) (by decide)
theorem cs_p_900 {S : b_M} {x : Nat} (h : cS S x) : m_P S 900 (x + 418) = some (x + 5) := h.2.1 (900, 418, 5) (by decide)
theorem cs_p_901 {S : b_M} {x : Nat} (h : cS S x) : m_P S 901 (x + 418) = some (x + 6) := h.2.1 (901, 418, 6) (by decide)
theorem cs_p_902 {S : b_M} {x : Nat} (h : cS S x) : m_P S 902 (x + 418) = some (x + 11) := h.2.1 (902, 418, 11) (by decide)
theorem cs_p_903 {S : b_M} {x : Nat} (h : cS S x) : m_P S 903 (x + 418) = some (x + 2) := h.2.1 (903, 418, 2) (by decide)
theorem cs_p_904 {S : b_M} {x : Nat} (h : cS S x) : m_P S 904 (x + 418) = some (x + 419) := h.2.1 (904, 418, 419) (by decide)
theorem cs_p_905 {S : b_M} {x : Nat} (h : cS S x) : m_P S 905 (x + 418) = some (x + 421) := h.2.1 (905, 418, 421) (by decide)
theorem cs_p_906 {S : b_M} {x : Nat} (h : cS S x) : m_P S 906 (x + 418) = some (x + 425) := h.2.1 (906, 418, 425) (by decide)
theorem cs_p_400 {S : b_M} {x : Nat} (h : cS S x) : m_P S 400 (x + 421) = some (x + 422) := h.2.1 (400, 421, 422) (by decide)
theorem cs_p_401 {S : b_M} {x : Nat} (h : cS S x) : m_P S 401 (x + 421) = some (x + 423) := h.2.1 (401, 421, 423) (by decide)
theorem cs_p_402 {S : b_M} {x : Nat} (h : cS S x) : m_P S 402 (x + 421) = some (x + 424) := h.2.1 (402, 421, 424) (by decide)
theorem cs_p_300 {S : b_M} {x : Nat} (h : cS S x) : m_P S 300 (x + 425) = some (x + 426) := h.2.1 (300, 425, 426) (by decide)
section CROWS
variable {X : b_T} {cc : ByteArray} {own : String} {fr lo mc ms : Nat} {S : b_M} {z ce sl pc : Nat} {lv : List (Nat × Value)} {st : List Value}
theorem u_aaldS (hX : b_X X cc own fr lo mc ms) {x : Nat} {t : Int} (h : cS S x) (hi : 0 ≤ t ∧ t < 401) (d : decode cc pc = .ok (.aaload, 1)) (kk : b_V X S z ce sl (pc + 1) lv (.ref (x + 17 + t.toNat) :: st)) : b_V X S z ce sl pc lv (.int (iI t) :: .ref (x + 16) :: st) :=
  v_aald hX (kd := 17) (t0 := 5) (Or.inr rfl) (fun _ => rfl) (cs_k_16 h) (by rw [cs_l_16 h]; exact iI_in ⟨hi.1, by omega⟩ (by omega)) (by rw [iI_clamp ⟨by omega, by omega⟩]; exact (h.2.2.2.1 t.toNat (by omega)).2) d kk
theorem u_aaldC (hX : b_X X cc own fr lo mc ms) {x : Nat} {t : Int} (h : cS S x) (hi : 0 ≤ t ∧ t < 7) (d : decode cc pc = .ok (.aaload, 1)) (kk : b_V X S z ce sl (pc + 1) lv (.ref (x + 429 + 4 * t.toNat) :: st)) : b_V X S z ce sl pc lv (.int (iI t) :: .ref (x + 426) :: st) :=
  v_aald hX (kd := 16) (t0 := 4) (Or.inl rfl) (fun _ => rfl) (cs_k_426 h) (by rw [cs_l_426 h]; exact iI_in ⟨hi.1, by omega⟩ (by omega)) (by rw [iI_clamp ⟨by omega, by omega⟩]; exact (h.2.2.2.2 t.toNat (by omega)).2.1) d kk
theorem u_alen (hX : b_X X cc own fr lo mc ms) {a kd t0 L : Nat} {ty : FieldType} (hk : m_K S a = kd) (hkd : 12 ≤ kd ∧ kd < 18) (ht : ∀ cy : Nat → ClassId, (b_Tys cy)[t0]? = some (cy kd, ty)) (hL : m_L S a = L) (d : decode cc pc = .ok (.arraylength, 1)) (kk : b_V X S z ce sl (pc + 1) lv (.int (iI (L : Int)) :: st)) : b_V X S z ce sl pc lv (.ref a :: st) :=
  v_alen hX hk hkd (ht _) d (by rw [hL, nI_iI]; exact kk)
end CROWS
def isS (x a : Nat) : Prop := ∃ j, j < 401 ∧ a = x + 17 + j
theorem isS_k {S : b_M} {x a : Nat} (h : cS S x) (g : isS x a) : m_K S a = 8 := by
  obtain ⟨j, hj, rfl⟩ := g
  exact (h.2.2.2.1 j hj).1
theorem isX_in {x a : Nat} (g : isS x a) : x ≤ a ∧ a < x + 457 := by
  obtain ⟨j, hj, rfl⟩ := g
  omega
/-- each statement has one of the operations -/
def oOk (kn : Nat → Nat) (S : b_M) (x : Nat) : Prop := ∀ j, j < 401 → ∃ i, i < 17 ∧ m_P S 800 (x + 17 + j) = some (kn i)
theorem oOk.fr {kn : Nat → Nat} {Fs Ps As : List Nat} {w : Nat} {S S1 : b_M} {x : Nat} (h : oOk kn S x) (g : cS S x) (f : cFr Fs Ps As w S S1 x) (hd : 800 ∉ Ps) : oOk kn S1 x := fun j hj => by rw [f.2.2.1 800 hd]; exact h j hj
theorem oOk.at {kn : Nat → Nat} {S : b_M} {x a : Nat} (h : oOk kn S x) (g : isS x a) : ∃ i, i < 17 ∧ m_P S 800 a = some (kn i) := by
  obtain ⟨j, hj, rfl⟩ := g
  exact h j hj
def isC (x a : Nat) : Prop := ∃ j, j < 7 ∧ a = x + 429 + 4 * j
theorem isC_k {S : b_M} {x a : Nat} (h : cS S x) (g : isC x a) : m_K S a = 0 := by
  obtain ⟨j, hj, rfl⟩ := g
  exact (h.2.2.2.2 j hj).1
theorem isC_in {x a : Nat} (g : isC x a) : x ≤ a ∧ a + 3 < x + 457 := by
  obtain ⟨j, hj, rfl⟩ := g
  omega
theorem isC_in2 {x a : Nat} (g : isC x a) : x ≤ a ∧ a < x + 457 := by
  obtain ⟨j, hj, rfl⟩ := g
  omega
theorem isC_p0 {S : b_M} {x a : Nat} (h : cS S x) (g : isC x a) : m_P S 0 a = some (a + 1) := by
  obtain ⟨j, hj, rfl⟩ := g
  exact (h.2.2.2.2 j hj).2.2.1
theorem isC_p2 {S : b_M} {x a : Nat} (h : cS S x) (g : isC x a) : m_P S 2 a = some (a + 2) := by
  obtain ⟨j, hj, rfl⟩ := g
  exact (h.2.2.2.2 j hj).2.2.2.1
theorem isC_p3 {S : b_M} {x a : Nat} (h : cS S x) (g : isC x a) : m_P S 3 a = some (a + 3) := by
  obtain ⟨j, hj, rfl⟩ := g
  exact (h.2.2.2.2 j hj).2.2.2.2.1
