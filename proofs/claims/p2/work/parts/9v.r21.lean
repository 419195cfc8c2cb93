/-- the short ones among the first n -/
def zcn (S : b_M) (x : Nat) : Nat → Int
  | 0 => 0
  | n + 1 => zcn S x n + (if rAt S (x + 25) (n : Int) = 0 then 1 else 0)
theorem zcn_b (S : b_M) (x : Nat) : ∀ n : Nat, 0 ≤ zcn S x n ∧ zcn S x n ≤ n := by
  intro n
  induction n with
  | zero => exact ⟨Int.le_refl _, Int.le_refl _⟩
  | succ n ih =>
    show 0 ≤ zcn S x n + _ ∧ zcn S x n + _ ≤ ((n + 1 : Nat) : Int)
    split <;> omega
theorem zcn_le {S S1 : b_M} {x : Nat} : ∀ n : Nat, (∀ j : Int, 0 ≤ j → j < n → rAt S1 (x + 25) j = 0 → rAt S (x + 25) j = 0) → zcn S1 x n ≤ zcn S x n := by
  intro n
  induction n with
  | zero => intro _; exact Int.le_refl _
  | succ n ih =>
    intro h
    have g := ih (fun j a b => h j a (by omega))
    have g1 := h n (by omega) (by omega)
    show zcn S1 x n + (if rAt S1 (x + 25) (n : Int) = 0 then 1 else 0) ≤ zcn S x n + (if rAt S (x + 25) (n : Int) = 0 then 1 else 0)
    by_cases c : rAt S1 (x + 25) (n : Int) = 0
    · rw [if_pos c, if_pos (g1 c)]; omega
    · rw [if_neg c]; split <;> omega
theorem zcn_lt {S S1 : b_M} {x : Nat} {j : Int} : ∀ n : Nat, (∀ j : Int, 0 ≤ j → j < n → rAt S1 (x + 25) j = 0 → rAt S (x + 25) j = 0) → 0 ≤ j → j < n → rAt S (x + 25) j = 0 → rAt S1 (x + 25) j ≠ 0 → zcn S1 x n + 1 ≤ zcn S x n := by
  intro n
  induction n with
  | zero => intro _ a b; omega
  | succ n ih =>
    intro h a b c d
    have g1 := h n (by omega) (by omega)
    show zcn S1 x n + (if rAt S1 (x + 25) (n : Int) = 0 then 1 else 0) + 1 ≤ zcn S x n + (if rAt S (x + 25) (n : Int) = 0 then 1 else 0)
    rcases (show j < n ∨ j = n by omega) with e | e
    · have g := ih (fun j a b => h j a (by omega)) a e c d
      by_cases c : rAt S1 (x + 25) (n : Int) = 0
      · rw [if_pos c, if_pos (g1 c)]; omega
      · rw [if_neg c]; split <;> omega
    · subst e
      have g := zcn_le (S := S) (S1 := S1) (x := x) n (fun j a b => h j a (by omega))
      rw [if_pos c, if_neg d]; omega
def zc (S : b_M) (x : Nat) (i : Int) : Int := zcn S x i.toNat
theorem zc_sI {S : b_M} {x f b : Nat} {v : Int32} {st : Int} : zc (s_I S f b v) x st = zc S x st := Int.le_antisymm (zcn_le _ (fun _ _ _ c => c)) (zcn_le _ (fun _ _ _ c => c))
def gro (S : b_M) (x : Nat) (j : Int) : Prop := rAt S (x + 18) j = 2 ∨ rAt S (x + 18) j = 5 ∨ rAt S (x + 18) j = 6
/-- the ones that are to be long: S0 at the beginning of the round -/
def wB (S0 S1 : b_M) (x : Nat) (st mo : Int) : Prop := (∀ j : Int, 0 ≤ j → j < st → rAt S1 (x + 39) j ≠ 0 → rAt S0 (x + 25) j ≠ 0 ∨ gro S0 x j) ∧ (mo ≠ 0 → ∃ j : Int, 0 ≤ j ∧ j < st ∧ rAt S0 (x + 25) j = 0 ∧ rAt S1 (x + 39) j ≠ 0) ∧ (mo = 0 → ∀ j : Int, 0 ≤ j → j < st → rAt S1 (x + 39) j ≠ 0 → rAt S0 (x + 25) j ≠ 0)
theorem wB.z {S0 S1 : b_M} {x : Nat} {st mo : Int} (e : mo = 0) (h : ∀ j : Int, 0 ≤ j → j < st → rAt S0 (x + 39) j ≠ 0 → rAt S0 (x + 25) j ≠ 0) (r : ∀ i, rAt S1 (x + 39) i = rAt S0 (x + 39) i) : wB S0 S1 x st mo := ⟨fun j a b c => Or.inl (h j a b (by rw [← r]; exact c)), fun g => absurd e g, fun _ j a b c => h j a b (by rw [← r]; exact c)⟩
theorem wB.c {S0 S1 S2 : b_M} {x : Nat} {st mo mo1 : Int} (h : wB S0 S1 x st mo) (e : mo1 = mo) (r : ∀ i, rAt S2 (x + 39) i = rAt S1 (x + 39) i) : wB S0 S2 x st mo1 := by
  subst e
  exact ⟨fun j a b c => h.1 j a b (by rw [← r]; exact c), fun g => by obtain ⟨j, a, b, c, d⟩ := h.2.1 g; exact ⟨j, a, b, c, by rw [r]; exact d⟩, fun g j a b c => h.2.2 g j a b (by rw [← r]; exact c)⟩
theorem wB.set {S0 S1 S2 : b_M} {x : Nat} {st mo mo1 s : Int} (h : wB S0 S1 x st mo) (e : mo1 = 1 ∧ 0 ≤ s ∧ s < st) (g : gro S0 x s) (il : rAt S0 (x + 25) s = 0) (r : (∀ i : Int, 0 ≤ i → i ≠ s → rAt S2 (x + 39) i = rAt S1 (x + 39) i) ∧ rAt S2 (x + 39) s = 1) : wB S0 S2 x st mo1 := by
  obtain ⟨rfl, e2, e3⟩ := e
  refine ⟨fun j a b c => ?_, fun _ => ⟨s, e2, e3, il, by rw [r.2]; decide⟩, fun g => absurd g (by decide)⟩
  rcases (show j ≠ s ∨ j = s by omega) with q | q
  · exact h.1 j a b (by rw [← r.1 j a q]; exact c)
  · subst q; exact Or.inr g
/-- the first s of them are long now -/
def iB (S0 S1 : b_M) (x : Nat) (st s : Int) : Prop := (∀ j : Int, 0 ≤ j → j < s → (rAt S1 (x + 25) j = 0 ↔ (rAt S0 (x + 25) j = 0 ∧ rAt S1 (x + 39) j = 0))) ∧ ∀ j : Int, s ≤ j → j < st → rAt S1 (x + 25) j = rAt S0 (x + 25) j
theorem iB.step {S0 S1 S2 : b_M} {x : Nat} {st s v s1 : Int} (h : iB S0 S1 x st s) (e : s1 = s + 1 ∧ 0 ≤ s ∧ s < st) (hv : v = 0 ↔ (rAt S0 (x + 25) s = 0 ∧ rAt S1 (x + 39) s = 0)) (rw_ : ∀ i, rAt S2 (x + 39) i = rAt S1 (x + 39) i) (r : (∀ i : Int, 0 ≤ i → i ≠ s → rAt S2 (x + 25) i = rAt S1 (x + 25) i) ∧ rAt S2 (x + 25) s = v) : iB S0 S2 x st s1 := by
  obtain ⟨rfl, e2, e3⟩ := e
  refine ⟨fun j a b => ?_, fun j a b => ?_⟩
  · rw [rw_]
    rcases (show j < s ∨ j = s by omega) with q | q
    · rw [r.1 j a (by omega)]; exact h.1 j a q
    · subst q; rw [r.2]; exact hv
  · rw [r.1 j (by omega) (by omega)]; exact h.2 j (by omega) b
theorem wsn_c {S S1 : b_M} {x : Nat} (h1 : ∀ i, rAt S1 (x + 18) i = rAt S (x + 18) i) (h2 : ∀ i, rAt S1 (x + 21) i = rAt S (x + 21) i) (h3 : ∀ i, rAt S1 (x + 23) i = rAt S (x + 23) i) : ∀ n : Nat, (∀ j : Int, 0 ≤ j → j < n → (rAt S1 (x + 25) j = 0 ↔ rAt S (x + 25) j = 0)) → wsn S1 x n = wsn S x n := by
  intro n
  induction n with
  | zero => intro _; rfl
  | succ n ih =>
    intro h
    show wsn S1 x n + wd S1 x n = wsn S x n + wd S x n
    rw [ih (fun j a b => h j a (by omega))]
    congr 1
    unfold wd
    rw [h1, h2, h3, lc_c h1]
    have g := h n (by omega) (by omega)
    by_cases c : rAt S (x + 25) (n : Int) = 0
    · rw [if_pos c, if_pos (g.mpr c)]
    · rw [if_neg c, if_neg (fun q => c (g.mp q))]
theorem ws_zc {S S1 : b_M} {x : Nat} {st : Int} (h1 : ∀ i, rAt S1 (x + 18) i = rAt S (x + 18) i) (h2 : ∀ i, rAt S1 (x + 21) i = rAt S (x + 21) i) (h3 : ∀ i, rAt S1 (x + 23) i = rAt S (x + 23) i) (h : ∀ j : Int, 0 ≤ j → j < st → (rAt S1 (x + 25) j = 0 ↔ rAt S (x + 25) j = 0)) : ws S1 x st = ws S x st := wsn_c h1 h2 h3 _ (fun j a b => h j a (by omega))
theorem ff_end {S0 S1 : b_M} {x : Nat} {st mo ex s : Int} (hs : s = st) (w : wB S0 S1 x st mo) (i : iB S0 S1 x st s) (k : stOk S0 x st ex) (r : ∀ o ∈ [18, 21, 23, 22], ∀ i, rAt S1 (x + o) i = rAt S0 (x + o) i) : stOk S1 x st ex ∧ (∀ j : Int, 0 ≤ j → j < st → rAt S1 (x + 39) j ≠ 0 → rAt S1 (x + 25) j ≠ 0) ∧ (mo = 0 → ws S1 x st = ws S0 x st ∧ lc S1 x st = lc S0 x st) ∧ zc S1 x st ≤ zc S0 x st ∧ (mo ≠ 0 → zc S1 x st + 1 ≤ zc S0 x st) := by
  subst hs
  have hd : ∀ j : Int, 0 ≤ j → j < s → rAt S1 (x + 25) j = 0 → rAt S0 (x + 25) j = 0 := fun j a b c => ((i.1 j a b).mp c).1
  refine ⟨⟨k.1, fun j a b => ?_⟩, fun j a b c d => c ((i.1 j a b).mp d).2, fun g => ⟨ws_zc (r _ (by decide)) (r _ (by decide)) (r _ (by decide)) (fun j a b => ⟨hd j a b, fun c => (i.1 j a b).mpr ⟨c, ?_⟩⟩), lc_c (r _ (by decide)) s⟩, zcn_le _ (fun j a b => hd j a (by omega)), fun g => ?_⟩
  · have q := k.2 j a b
    rw [r 18 (by decide), r 21 (by decide), r 23 (by decide), r 22 (by decide)]
    refine ⟨q.1, q.2.1, q.2.2.1, q.2.2.2.1, q.2.2.2.2.1, ?_⟩
    by_cases c : rAt S1 (x + 25) j = 0
    · exact Or.inl c
    · by_cases d : rAt S0 (x + 25) j = 0
      · have e : rAt S1 (x + 39) j ≠ 0 := fun q => c ((i.1 j a b).mpr ⟨d, q⟩)
        rcases w.1 j a b e with f | f
        · exact absurd d f
        · exact Or.inr f
      · rcases q.2.2.2.2.2 with f | f
        · exact absurd f d
        · exact Or.inr f
  · by_cases d : rAt S1 (x + 39) j = 0
    · exact d
    · exact absurd c (w.2.2 g j a b d)
  · obtain ⟨j, a, b, c, d⟩ := w.2.1 g
    exact zcn_lt _ (fun j a b => hd j a (by omega)) a (by omega) c (fun q => d ((i.1 j a b).mp q).2)
theorem stOk.sI {S : b_M} {x f b : Nat} {v : Int32} {st ex : Int} (h : stOk S x st ex) : stOk (s_I S f b v) x st ex := h
set_option maxRecDepth 100000 in
set_option maxHeartbeats 40000000 in
theorem k_findForms_L7 {S : b_M} {z x : Nat} {st_ : Int} {wt : Int} {se : Int} {ex : Int} {ps : Int} (h : mS S x) (e_st_ : m_I S 1128 x = iI st_) (b_st_ : -2147483648 ≤ st_ ∧ st_ < 2147483648) (e_wt : m_I S 1163 x = iI wt) (b_wt : -2147483648 ≤ wt ∧ wt < 2147483648) (so : sOk S x se) (eo : eOk S x ex ps) (sk : stOk S x st_ ex) (wz : ∀ j : Int, 0 ≤ j → j < 400 → rAt S (x + 39) j = 0) (p : wt = 0 ∨ wt = 1) {X : b_T} (hX : b_X X cX13_findForms yX13_findForms.cls 7 156 0 0) (hE : b_End X none 0 0 (fun r S' z' => z = z' ∧ mFr [1158, 1160, 1164, 1162] [] [26, 25, 39] S S' x ∧ ∃ e1 : Int, r = none ∧ m_I S' 1160 x = iI e1 ∧ (-2147483648 ≤ e1 ∧ e1 < 2147483648) ∧ (True) ∧ (stOk S' x st_ ex) ∧ (e1 = ws S' x st_ + lc S' x st_)) (fun _ _ _ => False)) (hnL : b_n X = 3) : ∀ (n7 : Nat) (S7c : b_M) (ro : Int) (en : Int) (mo : Int), mFr [1158, 1160, 1164, 1162] [] [26, 25, 39] S S7c x → m_I S7c 1158 x = iI ro → m_I S7c 1160 x = iI en → (-2147483648 ≤ ro ∧ ro < 2147483648) → (-2147483648 ≤ en ∧ en < 2147483648) → ((mo = 0 ∨ mo = 1) ∧ 0 ≤ ro ∧ ro + zc S7c x st_ ≤ st_ + (1 - mo)) → (stOk S7c x st_ ex) → (∀ j : Int, 0 ≤ j → j < st_ → rAt S7c (x + 39) j ≠ 0 → rAt S7c (x + 25) j ≠ 0) → (mo = 0 → en = ws S7c x st_ + lc S7c x st_) → (2 * zc S7c x st_ + mo).toNat = n7 → b_V X S7c z 0 0 7 [(1, .int (iI mo)), (0, .ref x)] [] := by
  intro n7
  induction n7 using Nat.strongRecOn with
  | _ n7 ih7 =>
  intro S7c ro en mo fr7 e_ro e_en b_ro b_en p7_0 p7_1 p7_2 p7_3 hm7
  have h7c : mS S7c x := fr7.keep h
  have hc7_35 : ∀ i, rAt S7c (x + 35) i = rAt S (x + 35) i := fun i => (fr7.1 (x + 35) (by omega) (by intro j hj; simp only [List.mem_cons, List.not_mem_nil, or_false] at hj; omega)).rA i
  have hc7_34 : ∀ i, rAt S7c (x + 34) i = rAt S (x + 34) i := fun i => (fr7.1 (x + 34) (by omega) (by intro j hj; simp only [List.mem_cons, List.not_mem_nil, or_false] at hj; omega)).rA i
  have hc7_22 : ∀ i, rAt S7c (x + 22) i = rAt S (x + 22) i := fun i => (fr7.1 (x + 22) (by omega) (by intro j hj; simp only [List.mem_cons, List.not_mem_nil, or_false] at hj; omega)).rA i
  have hc7_27 : ∀ i, rAt S7c (x + 27) i = rAt S (x + 27) i := fun i => (fr7.1 (x + 27) (by omega) (by intro j hj; simp only [List.mem_cons, List.not_mem_nil, or_false] at hj; omega)).rA i
  have hc7_28 : ∀ i, rAt S7c (x + 28) i = rAt S (x + 28) i := fun i => (fr7.1 (x + 28) (by omega) (by intro j hj; simp only [List.mem_cons, List.not_mem_nil, or_false] at hj; omega)).rA i
  have hc7_29 : ∀ i, rAt S7c (x + 29) i = rAt S (x + 29) i := fun i => (fr7.1 (x + 29) (by omega) (by intro j hj; simp only [List.mem_cons, List.not_mem_nil, or_false] at hj; omega)).rA i
  have hc7_18 : ∀ i, rAt S7c (x + 18) i = rAt S (x + 18) i := fun i => (fr7.1 (x + 18) (by omega) (by intro j hj; simp only [List.mem_cons, List.not_mem_nil, or_false] at hj; omega)).rA i
  have hc7_19 : ∀ i, rAt S7c (x + 19) i = rAt S (x + 19) i := fun i => (fr7.1 (x + 19) (by omega) (by intro j hj; simp only [List.mem_cons, List.not_mem_nil, or_false] at hj; omega)).rA i
  have hc7_21 : ∀ i, rAt S7c (x + 21) i = rAt S (x + 21) i := fun i => (fr7.1 (x + 21) (by omega) (by intro j hj; simp only [List.mem_cons, List.not_mem_nil, or_false] at hj; omega)).rA i
  have hc7_23 : ∀ i, rAt S7c (x + 23) i = rAt S (x + 23) i := fun i => (fr7.1 (x + 23) (by omega) (by intro j hj; simp only [List.mem_cons, List.not_mem_nil, or_false] at hj; omega)).rA i
  have e7_st_ : m_I S7c 1128 x = iI st_ := (fr7.2.2.2.1 1128 (by decide)).trans e_st_
  have e7_wt : m_I S7c 1163 x = iI wt := (fr7.2.2.2.1 1163 (by decide)).trans e_wt
  have L79 : ∀ (n79 : Nat) (S79c : b_M) (ro2 : Int) (en2 : Int) (s : Int) (mo2 : Int), mFr [1158, 1160, 1164, 1162] [] [26, 25, 39] S S79c x → m_I S79c 1158 x = iI ro2 → m_I S79c 1160 x = iI en2 → (-2147483648 ≤ ro2 ∧ ro2 < 2147483648) → (-2147483648 ≤ en2 ∧ en2 < 2147483648) → (0 ≤ s ∧ s ≤ st_ ∧ (mo2 = 0 ∨ mo2 = 1) ∧ mo = 1 ∧ ro2 = ro + 1 ∧ en2 = ws S7c x st_ + lc S7c x st_) → (wB S7c S79c x st_ mo2) → (iB S7c S79c x st_ s) → (st_ - s).toNat = n79 → b_V X S79c z 0 0 79 [(2, .int (iI s)), (1, .int (iI mo2)), (0, .ref x)] [] := by
    intro n79
    induction n79 using Nat.strongRecOn with
    | _ n79 ih79 =>
    intro S79c ro2 en2 s mo2 fr79 e_ro2 e_en2 b_ro2 b_en2 p79_0 p79_1 p79_2 hm79
    have h79c : mS S79c x := fr79.keep h
    have hc79_35 : ∀ i, rAt S79c (x + 35) i = rAt S (x + 35) i := fun i => (fr79.1 (x + 35) (by omega) (by intro j hj; simp only [List.mem_cons, List.not_mem_nil, or_false] at hj; omega)).rA i
    have hc79_34 : ∀ i, rAt S79c (x + 34) i = rAt S (x + 34) i := fun i => (fr79.1 (x + 34) (by omega) (by intro j hj; simp only [List.mem_cons, List.not_mem_nil, or_false] at hj; omega)).rA i
    have hc79_22 : ∀ i, rAt S79c (x + 22) i = rAt S (x + 22) i := fun i => (fr79.1 (x + 22) (by omega) (by intro j hj; simp only [List.mem_cons, List.not_mem_nil, or_false] at hj; omega)).rA i
    have hc79_27 : ∀ i, rAt S79c (x + 27) i = rAt S (x + 27) i := fun i => (fr79.1 (x + 27) (by omega) (by intro j hj; simp only [List.mem_cons, List.not_mem_nil, or_false] at hj; omega)).rA i
    have hc79_28 : ∀ i, rAt S79c (x + 28) i = rAt S (x + 28) i := fun i => (fr79.1 (x + 28) (by omega) (by intro j hj; simp only [List.mem_cons, List.not_mem_nil, or_false] at hj; omega)).rA i
    have hc79_29 : ∀ i, rAt S79c (x + 29) i = rAt S (x + 29) i := fun i => (fr79.1 (x + 29) (by omega) (by intro j hj; simp only [List.mem_cons, List.not_mem_nil, or_false] at hj; omega)).rA i
    have hc79_18 : ∀ i, rAt S79c (x + 18) i = rAt S (x + 18) i := fun i => (fr79.1 (x + 18) (by omega) (by intro j hj; simp only [List.mem_cons, List.not_mem_nil, or_false] at hj; omega)).rA i
    have hc79_19 : ∀ i, rAt S79c (x + 19) i = rAt S (x + 19) i := fun i => (fr79.1 (x + 19) (by omega) (by intro j hj; simp only [List.mem_cons, List.not_mem_nil, or_false] at hj; omega)).rA i
    have hc79_21 : ∀ i, rAt S79c (x + 21) i = rAt S (x + 21) i := fun i => (fr79.1 (x + 21) (by omega) (by intro j hj; simp only [List.mem_cons, List.not_mem_nil, or_false] at hj; omega)).rA i
    have hc79_23 : ∀ i, rAt S79c (x + 23) i = rAt S (x + 23) i := fun i => (fr79.1 (x + 23) (by omega) (by intro j hj; simp only [List.mem_cons, List.not_mem_nil, or_false] at hj; omega)).rA i
    have e79_st_ : m_I S79c 1128 x = iI st_ := (fr79.2.2.2.1 1128 (by decide)).trans e_st_
    have e79_wt : m_I S79c 1163 x = iI wt := (fr79.2.2.2.1 1163 (by decide)).trans e_wt
    have k79_ := p7_1.1
    have ze7_ := zcn_b S7c x st_.toNat
    have ze8_ : 0 ≤ zc S7c x st_ := ze7_.1
    refine v_iload_n hX dX13_findForms_79 (i := 2) rfl rfl ?_
    refine v_aload_n hX dX13_findForms_80 (i := 0) rfl rfl ?_
    refine v_get hX (ci := 11) (k := 28) (ms_kx h79c) bc_11 (by decide) (by decide) in_11 w_6_4 dX13_findForms_81 (mvF (f := 1128) (v := iI st_) rfl rfl (by simp (disch := omega) only [y_I_s_I, x_I_s_I, z_I_s_J, z_I_s_A, z_I_s_B, e79_st_, e79_wt, e_ro2, e_en2])) ?_
    refine u_icmp_ge hX (tgt := 122) dX13_findForms_84 (by decide) ⟨by omega, by omega⟩ ⟨by omega, by omega⟩ (fun h1_ => ?_) (fun h1_ => ?_)
    ·
      have fe_ := ff_end (s := s) (by omega) p79_1 p79_2 p7_1 (by intro o ho i; simp only [List.mem_cons, List.not_mem_nil, or_false] at ho; rcases ho with rfl | rfl | rfl | rfl <;> exact (fr79.row (by omega) (by decide) i).trans ((fr7.row (by omega) (by decide) i).symm))
      have zb_ := zcn_b S79c x st_.toNat
      have zb1_ : 0 ≤ zc S79c x st_ := zb_.1
      refine v_goto hX (tgt := 7) dX13_findForms_122 (by decide) ?_
      refine v_locals (lv' := [(1, .int (iI mo2)), (0, .ref x)]) (by simp) ?_
      exact ih7 _ (by omega) _ ro2 en2 mo2 fr79 (by simp (disch := omega) only [y_I_s_I, x_I_s_I, z_I_s_J, z_I_s_A, z_I_s_B, e79_st_, e79_wt, e_ro2, e_en2]) (by simp (disch := omega) only [y_I_s_I, x_I_s_I, z_I_s_J, z_I_s_A, z_I_s_B, e79_st_, e79_wt, e_ro2, e_en2]) ⟨by omega, by omega⟩ ⟨by omega, by omega⟩ (by omega) fe_.1 fe_.2.1 (fun g => by have := fe_.2.2.1 g; omega) rfl
    ·
      refine v_aload_n hX dX13_findForms_87 (i := 0) rfl rfl ?_
      refine v_get hX (ci := 11) (k := 37) (ms_kx h79c) bc_11 (by decide) (by decide) in_11 w_6_13 dX13_findForms_88 (mvP (f := 1137) (q := (x + 25)) rfl rfl (ms_p_1137 h79c)) ?_
      refine v_iload_n hX dX13_findForms_91 (i := 2) rfl rfl ?_
      refine v_aload_n hX dX13_findForms_92 (i := 0) rfl rfl ?_
      refine v_get hX (ci := 11) (k := 37) (ms_kx h79c) bc_11 (by decide) (by decide) in_11 w_6_13 dX13_findForms_93 (mvP (f := 1137) (q := (x + 25)) rfl rfl (ms_p_1137 h79c)) ?_
      refine v_iload_n hX dX13_findForms_96 (i := 2) rfl rfl ?_
      refine u_zald hX (L := 400) (ms_k_1137 h79c) (ms_l_1137 h79c) ⟨by omega, by omega⟩ (by decide) dX13_findForms_97 (fun v2_ e_v2_ b_v2_ => ?_)
      try simp (disch := omega) only [zr_I, zr_J, zr_B, rA_A, zl_I, zl_J, zl_A, lA_B, hc79_35, hc79_34, hc79_22, hc79_27, hc79_28, hc79_29, hc79_18, hc79_19, hc79_21, hc79_23] at e_v2_
      refine u_if_ne hX (tgt := 110) dX13_findForms_98 (by decide) ⟨by omega, by omega⟩ (fun h3_ => ?_) (fun h3_ => ?_)
      ·
        refine v_iconst hX (v := iI 1) dX13_findForms_110 rfl ?_
        refine v_goto hX (tgt := 115) dX13_findForms_111 (by decide) ?_
        refine u_zast hX (L := 400) (ms_k_1137 h79c) (ms_l_1137 h79c) ⟨by omega, by omega⟩ (by decide) (by omega) dX13_findForms_115 ?_
        refine v_iinc hX (v := iI (s + 1)) (lv' := [(2, .int (iI (s + 1))), (1, .int (iI mo2)), (0, .ref x)]) dX13_findForms_116 rfl (iI_add _ _) (by rw [hnL]; decide) rfl ?_
        refine v_goto hX (tgt := 79) dX13_findForms_119 (by decide) ?_
        exact ih79 _ (by omega) _ ro2 en2 (s + 1) mo2 (fr79.sA (by decide)) (by simp (disch := omega) only [y_I_s_I, x_I_s_I, z_I_s_J, z_I_s_A, z_I_s_B, e79_st_, e79_wt, e_ro2, e_en2]) (by simp (disch := omega) only [y_I_s_I, x_I_s_I, z_I_s_J, z_I_s_A, z_I_s_B, e79_st_, e79_wt, e_ro2, e_en2]) ⟨by omega, by omega⟩ ⟨by omega, by omega⟩ (by omega) (wB.c p79_1 (by omega) (fun i => by simp (disch := omega) only [zr_I, zr_J, zr_B, rA_A, zl_I, zl_J, zl_A, lA_B])) (iB.step (v := 1) p79_2 (by omega) (by have := p79_2.2 s (by omega) (by omega); constructor <;> intro g <;> omega) (fun i => by simp (disch := omega) only [zr_I, zr_J, zr_B, rA_A, zl_I, zl_J, zl_A, lA_B]) ⟨fun i g1 g2 => by simp (disch := omega) only [zr_I, zr_J, zr_B, rA_A, zl_I, zl_J, zl_A, lA_B, rA_x], by simp (disch := omega) only [zr_I, zr_J, zr_B, rA_A, zl_I, zl_J, zl_A, lA_B, rA_y]⟩) rfl
      ·
        refine v_aload_n hX dX13_findForms_101 (i := 0) rfl rfl ?_
        refine v_get hX (ci := 11) (k := 71) (ms_kx h79c) bc_11 (by decide) (by decide) in_11 w_6_47 dX13_findForms_102 (mvP (f := 1171) (q := (x + 39)) rfl rfl (ms_p_1171 h79c)) ?_
        refine v_iload_n hX dX13_findForms_105 (i := 2) rfl rfl ?_
        refine u_zald hX (L := 400) (ms_k_1171 h79c) (ms_l_1171 h79c) ⟨by omega, by omega⟩ (by decide) dX13_findForms_106 (fun v4_ e_v4_ b_v4_ => ?_)
        try simp (disch := omega) only [zr_I, zr_J, zr_B, rA_A, zl_I, zl_J, zl_A, lA_B, hc79_35, hc79_34, hc79_22, hc79_27, hc79_28, hc79_29, hc79_18, hc79_19, hc79_21, hc79_23] at e_v4_
        refine u_if_eq hX (tgt := 114) dX13_findForms_107 (by decide) ⟨by omega, by omega⟩ (fun h5_ => ?_) (fun h5_ => ?_)
        ·
          refine v_iconst hX (v := iI 0) dX13_findForms_114 rfl ?_
          refine u_zast hX (L := 400) (ms_k_1137 h79c) (ms_l_1137 h79c) ⟨by omega, by omega⟩ (by decide) (by omega) dX13_findForms_115 ?_
          refine v_iinc hX (v := iI (s + 1)) (lv' := [(2, .int (iI (s + 1))), (1, .int (iI mo2)), (0, .ref x)]) dX13_findForms_116 rfl (iI_add _ _) (by rw [hnL]; decide) rfl ?_
          refine v_goto hX (tgt := 79) dX13_findForms_119 (by decide) ?_
          exact ih79 _ (by omega) _ ro2 en2 (s + 1) mo2 (fr79.sA (by decide)) (by simp (disch := omega) only [y_I_s_I, x_I_s_I, z_I_s_J, z_I_s_A, z_I_s_B, e79_st_, e79_wt, e_ro2, e_en2]) (by simp (disch := omega) only [y_I_s_I, x_I_s_I, z_I_s_J, z_I_s_A, z_I_s_B, e79_st_, e79_wt, e_ro2, e_en2]) ⟨by omega, by omega⟩ ⟨by omega, by omega⟩ (by omega) (wB.c p79_1 (by omega) (fun i => by simp (disch := omega) only [zr_I, zr_J, zr_B, rA_A, zl_I, zl_J, zl_A, lA_B])) (iB.step (v := 0) p79_2 (by omega) (by have := p79_2.2 s (by omega) (by omega); constructor <;> intro g <;> omega) (fun i => by simp (disch := omega) only [zr_I, zr_J, zr_B, rA_A, zl_I, zl_J, zl_A, lA_B]) ⟨fun i g1 g2 => by simp (disch := omega) only [zr_I, zr_J, zr_B, rA_A, zl_I, zl_J, zl_A, lA_B, rA_x], by simp (disch := omega) only [zr_I, zr_J, zr_B, rA_A, zl_I, zl_J, zl_A, lA_B, rA_y]⟩) rfl
        ·
          refine v_iconst hX (v := iI 1) dX13_findForms_110 rfl ?_
          refine v_goto hX (tgt := 115) dX13_findForms_111 (by decide) ?_
          refine u_zast hX (L := 400) (ms_k_1137 h79c) (ms_l_1137 h79c) ⟨by omega, by omega⟩ (by decide) (by omega) dX13_findForms_115 ?_
          refine v_iinc hX (v := iI (s + 1)) (lv' := [(2, .int (iI (s + 1))), (1, .int (iI mo2)), (0, .ref x)]) dX13_findForms_116 rfl (iI_add _ _) (by rw [hnL]; decide) rfl ?_
          refine v_goto hX (tgt := 79) dX13_findForms_119 (by decide) ?_
          exact ih79 _ (by omega) _ ro2 en2 (s + 1) mo2 (fr79.sA (by decide)) (by simp (disch := omega) only [y_I_s_I, x_I_s_I, z_I_s_J, z_I_s_A, z_I_s_B, e79_st_, e79_wt, e_ro2, e_en2]) (by simp (disch := omega) only [y_I_s_I, x_I_s_I, z_I_s_J, z_I_s_A, z_I_s_B, e79_st_, e79_wt, e_ro2, e_en2]) ⟨by omega, by omega⟩ ⟨by omega, by omega⟩ (by omega) (wB.c p79_1 (by omega) (fun i => by simp (disch := omega) only [zr_I, zr_J, zr_B, rA_A, zl_I, zl_J, zl_A, lA_B])) (iB.step (v := 1) p79_2 (by omega) (by have := p79_2.2 s (by omega) (by omega); constructor <;> intro g <;> omega) (fun i => by simp (disch := omega) only [zr_I, zr_J, zr_B, rA_A, zl_I, zl_J, zl_A, lA_B]) ⟨fun i g1 g2 => by simp (disch := omega) only [zr_I, zr_J, zr_B, rA_A, zl_I, zl_J, zl_A, lA_B, rA_x], by simp (disch := omega) only [zr_I, zr_J, zr_B, rA_A, zl_I, zl_J, zl_A, lA_B, rA_y]⟩) rfl
  have L29 : ∀ (n29 : Nat) (S29c : b_M) (ro2 : Int) (en2 : Int) (s : Int) (mo2 : Int), mFr [1158, 1160, 1164, 1162] [] [26, 25, 39] S S29c x → m_I S29c 1158 x = iI ro2 → m_I S29c 1160 x = iI en2 → (-2147483648 ≤ ro2 ∧ ro2 < 2147483648) → (-2147483648 ≤ en2 ∧ en2 < 2147483648) → (0 ≤ s ∧ s ≤ st_ ∧ (mo2 = 0 ∨ mo2 = 1) ∧ mo = 1 ∧ ro2 = ro + 1 ∧ en2 = ws S7c x st_ + lc S7c x st_) → (wB S7c S29c x st_ mo2) → (∀ i, rAt S29c (x + 25) i = rAt S7c (x + 25) i) → (st_ - s).toNat = n29 → b_V X S29c z 0 0 29 [(2, .int (iI s)), (1, .int (iI mo2)), (0, .ref x)] [] := by
    intro n29
    induction n29 using Nat.strongRecOn with
    | _ n29 ih29 =>
    intro S29c ro2 en2 s mo2 fr29 e_ro2 e_en2 b_ro2 b_en2 p29_0 p29_1 p29_2 hm29
    have h29c : mS S29c x := fr29.keep h
    have hc29_35 : ∀ i, rAt S29c (x + 35) i = rAt S (x + 35) i := fun i => (fr29.1 (x + 35) (by omega) (by intro j hj; simp only [List.mem_cons, List.not_mem_nil, or_false] at hj; omega)).rA i
    have hc29_34 : ∀ i, rAt S29c (x + 34) i = rAt S (x + 34) i := fun i => (fr29.1 (x + 34) (by omega) (by intro j hj; simp only [List.mem_cons, List.not_mem_nil, or_false] at hj; omega)).rA i
    have hc29_22 : ∀ i, rAt S29c (x + 22) i = rAt S (x + 22) i := fun i => (fr29.1 (x + 22) (by omega) (by intro j hj; simp only [List.mem_cons, List.not_mem_nil, or_false] at hj; omega)).rA i
    have hc29_27 : ∀ i, rAt S29c (x + 27) i = rAt S (x + 27) i := fun i => (fr29.1 (x + 27) (by omega) (by intro j hj; simp only [List.mem_cons, List.not_mem_nil, or_false] at hj; omega)).rA i
    have hc29_28 : ∀ i, rAt S29c (x + 28) i = rAt S (x + 28) i := fun i => (fr29.1 (x + 28) (by omega) (by intro j hj; simp only [List.mem_cons, List.not_mem_nil, or_false] at hj; omega)).rA i
    have hc29_29 : ∀ i, rAt S29c (x + 29) i = rAt S (x + 29) i := fun i => (fr29.1 (x + 29) (by omega) (by intro j hj; simp only [List.mem_cons, List.not_mem_nil, or_false] at hj; omega)).rA i
    have hc29_18 : ∀ i, rAt S29c (x + 18) i = rAt S (x + 18) i := fun i => (fr29.1 (x + 18) (by omega) (by intro j hj; simp only [List.mem_cons, List.not_mem_nil, or_false] at hj; omega)).rA i
    have hc29_19 : ∀ i, rAt S29c (x + 19) i = rAt S (x + 19) i := fun i => (fr29.1 (x + 19) (by omega) (by intro j hj; simp only [List.mem_cons, List.not_mem_nil, or_false] at hj; omega)).rA i
    have hc29_21 : ∀ i, rAt S29c (x + 21) i = rAt S (x + 21) i := fun i => (fr29.1 (x + 21) (by omega) (by intro j hj; simp only [List.mem_cons, List.not_mem_nil, or_false] at hj; omega)).rA i
    have hc29_23 : ∀ i, rAt S29c (x + 23) i = rAt S (x + 23) i := fun i => (fr29.1 (x + 23) (by omega) (by intro j hj; simp only [List.mem_cons, List.not_mem_nil, or_false] at hj; omega)).rA i
    have e29_st_ : m_I S29c 1128 x = iI st_ := (fr29.2.2.2.1 1128 (by decide)).trans e_st_
    have e29_wt : m_I S29c 1163 x = iI wt := (fr29.2.2.2.1 1163 (by decide)).trans e_wt
    have k29_ := p7_1.1
    have zd7_ := zcn_b S7c x st_.toNat
    have zd8_ : 0 ≤ zc S7c x st_ := zd7_.1
    refine v_iload_n hX dX13_findForms_29 (i := 2) rfl rfl ?_
    refine v_aload_n hX dX13_findForms_30 (i := 0) rfl rfl ?_
    refine v_get hX (ci := 11) (k := 28) (ms_kx h29c) bc_11 (by decide) (by decide) in_11 w_6_4 dX13_findForms_31 (mvF (f := 1128) (v := iI st_) rfl rfl (by simp (disch := omega) only [y_I_s_I, x_I_s_I, z_I_s_J, z_I_s_A, z_I_s_B, e29_st_, e29_wt, e_ro2, e_en2])) ?_
    refine u_icmp_ge hX (tgt := 77) dX13_findForms_34 (by decide) ⟨by omega, by omega⟩ ⟨by omega, by omega⟩ (fun h6_ => ?_) (fun h6_ => ?_)
    ·
      refine v_iconst hX (v := iI 0) dX13_findForms_77 rfl ?_
      refine v_istore_n hX (lv' := [(2, .int (iI 0)), (1, .int (iI mo2)), (0, .ref x)]) dX13_findForms_78 (i := 2) rfl (by rw [hnL]; decide) rfl ?_
      exact L79 _ _ ro2 en2 0 mo2 fr29 (by simp (disch := omega) only [y_I_s_I, x_I_s_I, z_I_s_J, z_I_s_A, z_I_s_B, e29_st_, e29_wt, e_ro2, e_en2]) (by simp (disch := omega) only [y_I_s_I, x_I_s_I, z_I_s_J, z_I_s_A, z_I_s_B, e29_st_, e29_wt, e_ro2, e_en2]) ⟨by omega, by omega⟩ ⟨by omega, by omega⟩ (by omega) (wB.c p29_1 (by omega) (fun i => rfl)) ⟨fun j a b => absurd b (by omega), fun j a b => p29_2 j⟩ rfl
    ·
      refine v_aload_n hX dX13_findForms_37 (i := 0) rfl rfl ?_
      refine v_iload_n hX dX13_findForms_38 (i := 2) rfl rfl ?_
      refine v_callV hX (n := 1) (k_grows (S := S29c) (x := x) (sx := s) h29c ⟨by omega, by omega⟩ (by omega)) (ms_kx h29c) bc_11 (by decide) w_7_174 w_7_176 (bw_p (q := (yX13_grows, 72)) (List.mem_of_getElem? (i := 84) rfl) rfl) w_1_16 w_7_177 (by decide +kernel) rfl ⟨by decide, by decide⟩ ⟨by omega, by omega⟩ (Nat.le_of_ble_eq_true rfl) rfl dX13_findForms_39 (fun _ _ _ q => q) ?_
      rintro r7_ S7_ z7_ ⟨rfl, rfl, v8_, rfl, b_v8_, q7_⟩
      try simp (disch := omega) only [zr_I, zr_J, zr_B, rA_A, zl_I, zl_J, zl_A, lA_B, hc29_35, hc29_34, hc29_22, hc29_27, hc29_28, hc29_29, hc29_18, hc29_19, hc29_21, hc29_23] at q7_
      refine u_if_eq hX (tgt := 71) dX13_findForms_42 (by decide) ⟨by omega, by omega⟩ (fun h9_ => ?_) (fun h9_ => ?_)
      ·
        refine v_iinc hX (v := iI (s + 1)) (lv' := [(2, .int (iI (s + 1))), (1, .int (iI mo2)), (0, .ref x)]) dX13_findForms_71 rfl (iI_add _ _) (by rw [hnL]; decide) rfl ?_
        refine v_goto hX (tgt := 29) dX13_findForms_74 (by decide) ?_
        exact ih29 _ (by omega) _ ro2 en2 (s + 1) mo2 fr29 (by simp (disch := omega) only [y_I_s_I, x_I_s_I, z_I_s_J, z_I_s_A, z_I_s_B, e29_st_, e29_wt, e_ro2, e_en2]) (by simp (disch := omega) only [y_I_s_I, x_I_s_I, z_I_s_J, z_I_s_A, z_I_s_B, e29_st_, e29_wt, e_ro2, e_en2]) ⟨by omega, by omega⟩ ⟨by omega, by omega⟩ (by omega) (wB.c p29_1 (by omega) (fun i => rfl)) p29_2 rfl
      ·
        refine v_aload_n hX dX13_findForms_45 (i := 0) rfl rfl ?_
        refine v_get hX (ci := 11) (k := 37) (ms_kx h29c) bc_11 (by decide) (by decide) in_11 w_6_13 dX13_findForms_46 (mvP (f := 1137) (q := (x + 25)) rfl rfl (ms_p_1137 h29c)) ?_
        refine v_iload_n hX dX13_findForms_49 (i := 2) rfl rfl ?_
        refine u_zald hX (L := 400) (ms_k_1137 h29c) (ms_l_1137 h29c) ⟨by omega, by omega⟩ (by decide) dX13_findForms_50 (fun v10_ e_v10_ b_v10_ => ?_)
        try simp (disch := omega) only [zr_I, zr_J, zr_B, rA_A, zl_I, zl_J, zl_A, lA_B, hc29_35, hc29_34, hc29_22, hc29_27, hc29_28, hc29_29, hc29_18, hc29_19, hc29_21, hc29_23] at e_v10_
        refine u_if_ne hX (tgt := 71) dX13_findForms_51 (by decide) ⟨by omega, by omega⟩ (fun h11_ => ?_) (fun h11_ => ?_)
        ·
          refine v_iinc hX (v := iI (s + 1)) (lv' := [(2, .int (iI (s + 1))), (1, .int (iI mo2)), (0, .ref x)]) dX13_findForms_71 rfl (iI_add _ _) (by rw [hnL]; decide) rfl ?_
          refine v_goto hX (tgt := 29) dX13_findForms_74 (by decide) ?_
          exact ih29 _ (by omega) _ ro2 en2 (s + 1) mo2 fr29 (by simp (disch := omega) only [y_I_s_I, x_I_s_I, z_I_s_J, z_I_s_A, z_I_s_B, e29_st_, e29_wt, e_ro2, e_en2]) (by simp (disch := omega) only [y_I_s_I, x_I_s_I, z_I_s_J, z_I_s_A, z_I_s_B, e29_st_, e29_wt, e_ro2, e_en2]) ⟨by omega, by omega⟩ ⟨by omega, by omega⟩ (by omega) (wB.c p29_1 (by omega) (fun i => rfl)) p29_2 rfl
        ·
          have kd_ : rAt S29c (x + 18) s = rAt S7c (x + 18) s := (fr29.row (by omega) (by decide) s).trans ((fr7.row (by omega) (by decide) s).symm)
          have kd0_ : rAt S7c (x + 18) s = rAt S (x + 18) s := fr7.row (by omega) (by decide) s
          have il_ : rAt S7c (x + 25) s = 0 := by have := p29_2 s; omega
          have gr_ : gro S7c x s := by unfold gro; omega
          have g54_ := p7_1.2 s (by omega) (by omega)
          have fi0_ : rAt S7c (x + 22) s = rAt S (x + 22) s := fr7.row (by omega) (by decide) s
          have ma0_ : rAt S7c (x + 21) s = rAt S (x + 21) s := fr7.row (by omega) (by decide) s
          refine v_aload_n hX dX13_findForms_54 (i := 0) rfl rfl ?_
          refine v_iload_n hX dX13_findForms_55 (i := 2) rfl rfl ?_
          refine v_callV hX (n := 1) (k_fitsShort (S := S29c) (x := x) (sx := s) (st_ := st_) (wt := wt) h29c (by simp (disch := omega) only [y_I_s_I, x_I_s_I, z_I_s_J, z_I_s_A, z_I_s_B, e29_st_, e29_wt, e_ro2, e_en2]) ⟨by omega, by omega⟩ (by simp (disch := omega) only [y_I_s_I, x_I_s_I, z_I_s_J, z_I_s_A, z_I_s_B, e29_st_, e29_wt, e_ro2, e_en2]) ⟨by omega, by omega⟩ ⟨by omega, by omega⟩ (so.c (fun i => hc29_35 i) (fun i => hc29_34 i)) (eo.c (fun i => (hc29_27 i)) (fun i => (hc29_28 i)) (fun i => (hc29_29 i))) (by (try simp (disch := omega) only [zr_I, zr_J, zr_B, rA_A, zl_I, zl_J, zl_A, lA_B, hc29_35, hc29_34, hc29_22, hc29_27, hc29_28, hc29_29, hc29_18, hc29_19, hc29_21, hc29_23]); omega)) (ms_kx h29c) bc_11 (by decide) w_7_178 w_7_180 (bw_p (q := (yX13_fitsShort, 72)) (List.mem_of_getElem? (i := 85) rfl) rfl) w_1_16 w_7_181 (by decide +kernel) rfl ⟨by decide, by decide⟩ ⟨by omega, by omega⟩ (Nat.le_of_ble_eq_true rfl) rfl dX13_findForms_56 (fun _ _ _ q => q) ?_
          rintro r12_ S12_ z12_ ⟨rfl, f12_, v13_, rfl, b_v13_, q12_⟩
          have e12_1128 : m_I S12_ 1128 x = iI st_ := (f12_.2.2.2.1 1128 (by decide)).trans (by simp (disch := omega) only [y_I_s_I, x_I_s_I, z_I_s_J, z_I_s_A, z_I_s_B, e29_st_, e29_wt, e_ro2, e_en2])
          have e12_1163 : m_I S12_ 1163 x = iI wt := (f12_.2.2.2.1 1163 (by decide)).trans (by simp (disch := omega) only [y_I_s_I, x_I_s_I, z_I_s_J, z_I_s_A, z_I_s_B, e29_st_, e29_wt, e_ro2, e_en2])
          have e12_1158 : m_I S12_ 1158 x = iI ro2 := (f12_.2.2.2.1 1158 (by decide)).trans (by simp (disch := omega) only [y_I_s_I, x_I_s_I, z_I_s_J, z_I_s_A, z_I_s_B, e29_st_, e29_wt, e_ro2, e_en2])
          have e12_1160 : m_I S12_ 1160 x = iI en2 := (f12_.2.2.2.1 1160 (by decide)).trans (by simp (disch := omega) only [y_I_s_I, x_I_s_I, z_I_s_J, z_I_s_A, z_I_s_B, e29_st_, e29_wt, e_ro2, e_en2])
          have h12_ : mS S12_ x := f12_.keep h29c
          have hc12_35 : ∀ i, rAt S12_ (x + 35) i = rAt S (x + 35) i := fun i => ((f12_.1 (x + 35) (by omega) (fun j hj => absurd hj List.not_mem_nil)).rA i).trans (hc29_35 i)
          have hc12_34 : ∀ i, rAt S12_ (x + 34) i = rAt S (x + 34) i := fun i => ((f12_.1 (x + 34) (by omega) (fun j hj => absurd hj List.not_mem_nil)).rA i).trans (hc29_34 i)
          have hc12_22 : ∀ i, rAt S12_ (x + 22) i = rAt S (x + 22) i := fun i => ((f12_.1 (x + 22) (by omega) (fun j hj => absurd hj List.not_mem_nil)).rA i).trans (hc29_22 i)
          have hc12_27 : ∀ i, rAt S12_ (x + 27) i = rAt S (x + 27) i := fun i => ((f12_.1 (x + 27) (by omega) (fun j hj => absurd hj List.not_mem_nil)).rA i).trans (hc29_27 i)
          have hc12_28 : ∀ i, rAt S12_ (x + 28) i = rAt S (x + 28) i := fun i => ((f12_.1 (x + 28) (by omega) (fun j hj => absurd hj List.not_mem_nil)).rA i).trans (hc29_28 i)
          have hc12_29 : ∀ i, rAt S12_ (x + 29) i = rAt S (x + 29) i := fun i => ((f12_.1 (x + 29) (by omega) (fun j hj => absurd hj List.not_mem_nil)).rA i).trans (hc29_29 i)
          have hc12_18 : ∀ i, rAt S12_ (x + 18) i = rAt S (x + 18) i := fun i => ((f12_.1 (x + 18) (by omega) (fun j hj => absurd hj List.not_mem_nil)).rA i).trans (hc29_18 i)
          have hc12_19 : ∀ i, rAt S12_ (x + 19) i = rAt S (x + 19) i := fun i => ((f12_.1 (x + 19) (by omega) (fun j hj => absurd hj List.not_mem_nil)).rA i).trans (hc29_19 i)
          have hc12_21 : ∀ i, rAt S12_ (x + 21) i = rAt S (x + 21) i := fun i => ((f12_.1 (x + 21) (by omega) (fun j hj => absurd hj List.not_mem_nil)).rA i).trans (hc29_21 i)
          have hc12_23 : ∀ i, rAt S12_ (x + 23) i = rAt S (x + 23) i := fun i => ((f12_.1 (x + 23) (by omega) (fun j hj => absurd hj List.not_mem_nil)).rA i).trans (hc29_23 i)
          have hc12_25 : ∀ i, rAt S12_ (x + 25) i = rAt S29c (x + 25) i := fun i => ((f12_.1 (x + 25) (by omega) (fun j hj => absurd hj List.not_mem_nil)).rA i).trans rfl
          refine u_if_ne hX (tgt := 71) dX13_findForms_59 (by decide) ⟨by omega, by omega⟩ (fun h14_ => ?_) (fun h14_ => ?_)
          ·
            refine v_iinc hX (v := iI (s + 1)) (lv' := [(2, .int (iI (s + 1))), (1, .int (iI mo2)), (0, .ref x)]) dX13_findForms_71 rfl (iI_add _ _) (by rw [hnL]; decide) rfl ?_
            refine v_goto hX (tgt := 29) dX13_findForms_74 (by decide) ?_
            exact ih29 _ (by omega) _ ro2 en2 (s + 1) mo2 (fr29.tr (f12_.mono (by decide) (by decide) (by decide))) (by simp (disch := omega) only [y_I_s_I, x_I_s_I, z_I_s_J, z_I_s_A, z_I_s_B, e12_1128, e12_1163, e12_1158, e12_1160]) (by simp (disch := omega) only [y_I_s_I, x_I_s_I, z_I_s_J, z_I_s_A, z_I_s_B, e12_1128, e12_1163, e12_1158, e12_1160]) ⟨by omega, by omega⟩ ⟨by omega, by omega⟩ (by omega) (wB.c p29_1 (by omega) (fun i => f12_.row (by omega) (by decide) i)) (fun i => (f12_.row (by omega) (by decide) i).trans (p29_2 i)) rfl
          ·
            refine v_aload_n hX dX13_findForms_62 (i := 0) rfl rfl ?_
            refine v_get hX (ci := 11) (k := 71) (ms_kx h12_) bc_11 (by decide) (by decide) in_11 w_6_47 dX13_findForms_63 (mvP (f := 1171) (q := (x + 39)) rfl rfl (ms_p_1171 h12_)) ?_
            refine v_iload_n hX dX13_findForms_66 (i := 2) rfl rfl ?_
            refine v_iconst hX (v := iI 1) dX13_findForms_67 rfl ?_
            refine u_zast hX (L := 400) (ms_k_1171 h12_) (ms_l_1171 h12_) ⟨by omega, by omega⟩ (by decide) (by omega) dX13_findForms_68 ?_
            refine v_iconst hX (v := iI 1) dX13_findForms_69 rfl ?_
            refine v_istore_n hX (lv' := [(1, .int (iI 1)), (2, .int (iI s)), (0, .ref x)]) dX13_findForms_70 (i := 1) rfl (by rw [hnL]; decide) rfl ?_
            refine v_iinc hX (v := iI (s + 1)) (lv' := [(2, .int (iI (s + 1))), (1, .int (iI 1)), (0, .ref x)]) dX13_findForms_71 rfl (iI_add _ _) (by rw [hnL]; decide) rfl ?_
            refine v_goto hX (tgt := 29) dX13_findForms_74 (by decide) ?_
            exact ih29 _ (by omega) _ ro2 en2 (s + 1) 1 ((fr29.tr (f12_.mono (by decide) (by decide) (by decide))).sA (by decide)) (by simp (disch := omega) only [y_I_s_I, x_I_s_I, z_I_s_J, z_I_s_A, z_I_s_B, e12_1128, e12_1163, e12_1158, e12_1160]) (by simp (disch := omega) only [y_I_s_I, x_I_s_I, z_I_s_J, z_I_s_A, z_I_s_B, e12_1128, e12_1163, e12_1158, e12_1160]) ⟨by omega, by omega⟩ ⟨by omega, by omega⟩ (by omega) (wB.set p29_1 (by omega) gr_ il_ ⟨fun i g1 g2 => by simp (disch := omega) only [zr_I, zr_J, zr_B, rA_A, zl_I, zl_J, zl_A, lA_B, rA_x]; exact f12_.row (by omega) (by decide) i, by simp (disch := omega) only [zr_I, zr_J, zr_B, rA_A, zl_I, zl_J, zl_A, lA_B, rA_y]⟩) (fun i => by simp (disch := omega) only [zr_I, zr_J, zr_B, rA_A, zl_I, zl_J, zl_A, lA_B]; exact (f12_.row (by omega) (by decide) i).trans (p29_2 i)) rfl
  have k7_ := p7_1.1
  have zc7_ := zcn_b S7c x st_.toNat
  have zc8_ : 0 ≤ zc S7c x st_ := zc7_.1
  refine v_iload_n hX dX13_findForms_7 (i := 1) rfl rfl ?_
  refine u_if_eq hX (tgt := 125) dX13_findForms_8 (by decide) ⟨by omega, by omega⟩ (fun h15_ => ?_) (fun h15_ => ?_)
  ·
    exact v_return hX hE dX13_findForms_125 (by omega) (by omega) ⟨rfl, fr7, en, rfl, (by simp (disch := omega) only [y_I_s_I, x_I_s_I, z_I_s_J, z_I_s_A, z_I_s_B, e7_st_, e7_wt, e_ro, e_en]), ⟨by omega, by omega⟩, trivial, p7_1, (p7_3 (by omega))⟩
  ·
    refine v_iconst hX (v := iI 0) dX13_findForms_11 rfl ?_
    refine v_istore_n hX (lv' := [(1, .int (iI 0)), (0, .ref x)]) dX13_findForms_12 (i := 1) rfl (by rw [hnL]; decide) rfl ?_
    refine v_aload_n hX dX13_findForms_13 (i := 0) rfl rfl ?_
    refine v_dup hX dX13_findForms_14 rfl ?_
    refine v_get hX (ci := 11) (k := 58) (ms_kx h7c) bc_11 (by decide) (by decide) in_11 w_6_34 dX13_findForms_15 (mvF (f := 1158) (v := iI ro) rfl rfl (by simp (disch := omega) only [y_I_s_I, x_I_s_I, z_I_s_J, z_I_s_A, z_I_s_B, e7_st_, e7_wt, e_ro, e_en])) ?_
    refine v_iconst hX (v := iI 1) dX13_findForms_18 rfl ?_
    refine u_iadd hX dX13_findForms_19 ?_
    refine v_putI hX (ci := 11) (k := 58) (f := 1158) (ms_kx h7c) bc_11 (by decide) (by decide) in_11 tyX13_ok nmX13 w_6_34 (Or.inl rfl) rfl rfl dX13_findForms_20 rfl rfl ?_
    refine v_aload_n hX dX13_findForms_23 (i := 0) rfl rfl ?_
    refine v_callV hX (n := 0) (k_findPlaces (S := (s_I S7c 1158 x (iI (ro + 1)))) (x := x) (st_ := st_) (mS.sI h7c) (by simp (disch := omega) only [y_I_s_I, x_I_s_I, z_I_s_J, z_I_s_A, z_I_s_B, e7_st_, e7_wt, e_ro, e_en]) ⟨by omega, by omega⟩ (fun j a b => by have g := p7_1.2 j a b; simp (disch := omega) only [zr_I, zr_J, zr_B, rA_A, zl_I, zl_J, zl_A, lA_B]; exact ⟨g.2.1.1, g.2.1.2, g.2.2.1.1, g.2.2.1.2⟩) (by omega)) (ms_kx (mS.sI h7c)) bc_11 (by decide) w_7_162 w_7_164 (bw_p (q := (yX13_findPlaces, 72)) (List.mem_of_getElem? (i := 81) rfl) rfl) w_1_16 w_7_165 (by decide +kernel) rfl ⟨by decide, by decide⟩ ⟨by omega, by omega⟩ (Nat.le_of_ble_eq_true rfl) rfl dX13_findForms_24 (fun _ _ _ q => q) ?_
    rintro r16_ S16_ z16_ ⟨rfl, f16_, v17_, rfl, e_v17_, b_v17_, q16_, q16_0⟩
    try simp (disch := omega) only [zr_I, zr_J, zr_B, rA_A, zl_I, zl_J, zl_A, lA_B, hc7_35, hc7_34, hc7_22, hc7_27, hc7_28, hc7_29, hc7_18, hc7_19, hc7_21, hc7_23] at q16_0
    have e16_1128 : m_I S16_ 1128 x = iI st_ := (f16_.2.2.2.1 1128 (by decide)).trans (by simp (disch := omega) only [y_I_s_I, x_I_s_I, z_I_s_J, z_I_s_A, z_I_s_B, e7_st_, e7_wt, e_ro, e_en])
    have e16_1163 : m_I S16_ 1163 x = iI wt := (f16_.2.2.2.1 1163 (by decide)).trans (by simp (disch := omega) only [y_I_s_I, x_I_s_I, z_I_s_J, z_I_s_A, z_I_s_B, e7_st_, e7_wt, e_ro, e_en])
    have e16_1158 : m_I S16_ 1158 x = iI (ro + 1) := (f16_.2.2.2.1 1158 (by decide)).trans (by simp (disch := omega) only [y_I_s_I, x_I_s_I, z_I_s_J, z_I_s_A, z_I_s_B, e7_st_, e7_wt, e_ro, e_en])
    have h16_ : mS S16_ x := f16_.keep (mS.sI h7c)
    have hc16_35 : ∀ i, rAt S16_ (x + 35) i = rAt S (x + 35) i := fun i => ((f16_.1 (x + 35) (by omega) (by intro j hj; simp only [List.mem_cons, List.not_mem_nil, or_false] at hj; omega)).rA i).trans (by simp (disch := omega) only [zr_I, zr_J, zr_B, rA_A, zl_I, zl_J, zl_A, lA_B, hc7_35])
    have hc16_34 : ∀ i, rAt S16_ (x + 34) i = rAt S (x + 34) i := fun i => ((f16_.1 (x + 34) (by omega) (by intro j hj; simp only [List.mem_cons, List.not_mem_nil, or_false] at hj; omega)).rA i).trans (by simp (disch := omega) only [zr_I, zr_J, zr_B, rA_A, zl_I, zl_J, zl_A, lA_B, hc7_34])
    have hc16_22 : ∀ i, rAt S16_ (x + 22) i = rAt S (x + 22) i := fun i => ((f16_.1 (x + 22) (by omega) (by intro j hj; simp only [List.mem_cons, List.not_mem_nil, or_false] at hj; omega)).rA i).trans (by simp (disch := omega) only [zr_I, zr_J, zr_B, rA_A, zl_I, zl_J, zl_A, lA_B, hc7_22])
    have hc16_27 : ∀ i, rAt S16_ (x + 27) i = rAt S (x + 27) i := fun i => ((f16_.1 (x + 27) (by omega) (by intro j hj; simp only [List.mem_cons, List.not_mem_nil, or_false] at hj; omega)).rA i).trans (by simp (disch := omega) only [zr_I, zr_J, zr_B, rA_A, zl_I, zl_J, zl_A, lA_B, hc7_27])
    have hc16_28 : ∀ i, rAt S16_ (x + 28) i = rAt S (x + 28) i := fun i => ((f16_.1 (x + 28) (by omega) (by intro j hj; simp only [List.mem_cons, List.not_mem_nil, or_false] at hj; omega)).rA i).trans (by simp (disch := omega) only [zr_I, zr_J, zr_B, rA_A, zl_I, zl_J, zl_A, lA_B, hc7_28])
    have hc16_29 : ∀ i, rAt S16_ (x + 29) i = rAt S (x + 29) i := fun i => ((f16_.1 (x + 29) (by omega) (by intro j hj; simp only [List.mem_cons, List.not_mem_nil, or_false] at hj; omega)).rA i).trans (by simp (disch := omega) only [zr_I, zr_J, zr_B, rA_A, zl_I, zl_J, zl_A, lA_B, hc7_29])
    have hc16_18 : ∀ i, rAt S16_ (x + 18) i = rAt S (x + 18) i := fun i => ((f16_.1 (x + 18) (by omega) (by intro j hj; simp only [List.mem_cons, List.not_mem_nil, or_false] at hj; omega)).rA i).trans (by simp (disch := omega) only [zr_I, zr_J, zr_B, rA_A, zl_I, zl_J, zl_A, lA_B, hc7_18])
    have hc16_19 : ∀ i, rAt S16_ (x + 19) i = rAt S (x + 19) i := fun i => ((f16_.1 (x + 19) (by omega) (by intro j hj; simp only [List.mem_cons, List.not_mem_nil, or_false] at hj; omega)).rA i).trans (by simp (disch := omega) only [zr_I, zr_J, zr_B, rA_A, zl_I, zl_J, zl_A, lA_B, hc7_19])
    have hc16_21 : ∀ i, rAt S16_ (x + 21) i = rAt S (x + 21) i := fun i => ((f16_.1 (x + 21) (by omega) (by intro j hj; simp only [List.mem_cons, List.not_mem_nil, or_false] at hj; omega)).rA i).trans (by simp (disch := omega) only [zr_I, zr_J, zr_B, rA_A, zl_I, zl_J, zl_A, lA_B, hc7_21])
    have hc16_23 : ∀ i, rAt S16_ (x + 23) i = rAt S (x + 23) i := fun i => ((f16_.1 (x + 23) (by omega) (by intro j hj; simp only [List.mem_cons, List.not_mem_nil, or_false] at hj; omega)).rA i).trans (by simp (disch := omega) only [zr_I, zr_J, zr_B, rA_A, zl_I, zl_J, zl_A, lA_B, hc7_23])
    have hc16_25 : ∀ i, rAt S16_ (x + 25) i = rAt S7c (x + 25) i := fun i => ((f16_.1 (x + 25) (by omega) (by intro j hj; simp only [List.mem_cons, List.not_mem_nil, or_false] at hj; omega)).rA i).trans (by simp (disch := omega) only [zr_I, zr_J, zr_B, rA_A, zl_I, zl_J, zl_A, lA_B])
    have wsq_ : ws (s_I S7c 1158 x (iI (ro + 1))) x st_ = ws S7c x st_ := ws_zc (fun _ => rfl) (fun _ => rfl) (fun _ => rfl) (fun _ _ _ => Iff.rfl)
    have lcq_ : lc (s_I S7c 1158 x (iI (ro + 1))) x st_ = lc S7c x st_ := lc_c (S := S7c) (S1 := (s_I S7c 1158 x (iI (ro + 1)))) (x := x) (fun _ => rfl) st_
    refine v_iconst hX (v := iI 0) dX13_findForms_27 rfl ?_
    refine v_istore_n hX (lv' := [(2, .int (iI 0)), (1, .int (iI 0)), (0, .ref x)]) dX13_findForms_28 (i := 2) rfl (by rw [hnL]; decide) rfl ?_
    exact L29 _ _ (ro + 1) v17_ 0 0 ((fr7.sI (by decide)).tr (f16_.mono (by decide) (by decide) (by decide))) (by simp (disch := omega) only [y_I_s_I, x_I_s_I, z_I_s_J, z_I_s_A, z_I_s_B, e16_1128, e16_1163, e16_1158, e_v17_]) (by simp (disch := omega) only [y_I_s_I, x_I_s_I, z_I_s_J, z_I_s_A, z_I_s_B, e16_1128, e16_1163, e16_1158, e_v17_]) ⟨by omega, by omega⟩ ⟨by omega, by omega⟩ (by omega) (wB.z rfl p7_2 (fun i => (f16_.row (by omega) (by decide) i).trans (by simp (disch := omega) only [zr_I, zr_J, zr_B, rA_A, zl_I, zl_J, zl_A, lA_B]))) (fun i => (f16_.row (by omega) (by decide) i).trans (by simp (disch := omega) only [zr_I, zr_J, zr_B, rA_A, zl_I, zl_J, zl_A, lA_B])) rfl
