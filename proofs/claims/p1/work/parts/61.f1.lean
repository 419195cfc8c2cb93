/-! ===== the fresh object of the class: at x, its cells up to x + 457 ===== -/
theorem mvE {S : b_M} {ci a k f : Nat} {v : Int32} (hy : m_Y ci k = 1) (hf : 100 * ci + k = f) (hv : m_I S f a = v) : m_V S ci a k = .int v := by subst hf; simp [m_V, hy, hv]
def alK : List (Nat × Nat) := [(0, 10), (1, 12), (2, 1), (5, 6), (6, 5), (7, 13), (11, 2), (14, 13), (418, 9), (421, 4), (425, 3)]
def alP : List (Nat × Nat × Nat) := [(1000, 0, 1), (1002, 0, 2), (1003, 0, 5), (1004, 0, 418), (600, 5, 2), (601, 5, 6), (602, 5, 11), (500, 6, 7), (203, 11, 14), (905, 418, 421), (906, 418, 425)]
def alI : List (Nat × Nat) := [(1001, 0), (102, 2), (604, 5), (605, 5), (504, 6), (505, 6), (205, 11), (206, 11), (403, 421), (310, 425)]
def alL : List (Nat × Nat) := [(1, 4096), (7, 1021), (14, 3209)]
def alG (S : b_M) (x : Nat) : Prop := (∀ q ∈ alK, m_K S (x + q.1) = q.2) ∧ (∀ q ∈ alP, m_P S q.1 (x + q.2.1) = some (x + q.2.2)) ∧ (∀ q ∈ alI, m_I S q.1 (x + q.2) = 0) ∧ (∀ q ∈ alL, m_L S (x + q.1) = q.2) ∧ m_A S (x + 14) 0 = 0
/-- nothing has changed but the object's own cells -/
def alE (S S' : b_M) (x : Nat) : Prop := ∀ b, b < x ∨ x + 457 ≤ b → b_eq S S' b
theorem alE.rf (S : b_M) (x : Nat) : alE S S x := fun b _ => b_eq.rf _ _
theorem alE.tr {S S1 S2 : b_M} {x : Nat} (h : alE S S1 x) (g : alE S1 S2 x) : alE S S2 x := fun b hb => (h b hb).tr (g b hb)
theorem alE.sI {S S1 : b_M} {x f b : Nat} {v : Int32} (h : alE S S1 x) (hb : x ≤ b ∧ b < x + 457) : alE S (s_I S1 f b v) x := fun c hc => (h c hc).tr (e_s_I _ _ _ _ (by omega))
theorem alE.sP {S S1 : b_M} {x f b : Nat} {v : Option Nat} (h : alE S S1 x) (hb : x ≤ b ∧ b < x + 457) : alE S (s_P S1 f b v) x := fun c hc => (h c hc).tr (e_s_P _ _ _ _ (by omega))
theorem alE.rA {S S1 : b_M} {x b : Nat} {g : Nat → Int32} (h : alE S S1 x) (hb : x ≤ b ∧ b < x + 457) : alE S (r_A S1 b g) x := fun c hc => (h c hc).tr (e_r_A _ _ _ (by omega))
/-- writing 0 into an int field keeps all -/
theorem alG.s0 {S : b_M} {x f b : Nat} (h : alG S x) : alG (s_I S f b 0) x := by
  obtain ⟨h1, h2, h3, h4, h5⟩ := h
  refine ⟨h1, h2, fun q hq => ?_, h4, h5⟩
  rw [q_I_s_I]
  split
  · rfl
  · exact h3 q hq
/-- writing a field that no fact names -/
theorem alG.sr {S : b_M} {x b : Nat} {v : Int32} (h : alG S x) : alG (s_I S 606 b v) x := by
  obtain ⟨h1, h2, h3, h4, h5⟩ := h
  refine ⟨h1, h2, fun q hq => ?_, h4, h5⟩
  rw [x_I_s_I]
  · exact h3 q hq
  · left
    have h9 : ∀ q ∈ alI, q.1 ≠ 606 := by decide
    exact h9 q hq
theorem alG.st {S : b_M} {x b : Nat} {v : Option Nat} (h : alG S x) : alG (s_P S 302 b v) x := by
  obtain ⟨h1, h2, h3, h4, h5⟩ := h
  refine ⟨h1, fun q hq => ?_, h3, h4, h5⟩
  rw [x_P_s_P]
  · exact h2 q hq
  · left
    have h9 : ∀ q ∈ alP, q.1 ≠ 302 := by decide
    exact h9 q hq
theorem alG.rA {S : b_M} {x b : Nat} {g : Nat → Int32} (h : alG S x) (hb : x + 14 ≠ b) : alG (r_A S b g) x := by
  obtain ⟨h1, h2, h3, h4, h5⟩ := h
  exact ⟨h1, h2, h3, h4, by rw [x_A_r_A _ _ _ _ _ hb]; exact h5⟩
theorem al_k_0 {S : b_M} {x : Nat} (h : alG S x) : m_K S x = 10 := h.1 (0, 10) (by decide)
theorem al_k_1 {S : b_M} {x : Nat} (h : alG S x) : m_K S (x + 1) = 12 := h.1 (1, 12) (by decide)
theorem al_k_2 {S : b_M} {x : Nat} (h : alG S x) : m_K S (x + 2) = 1 := h.1 (2, 1) (by decide)
theorem al_k_5 {S : b_M} {x : Nat} (h : alG S x) : m_K S (x + 5) = 6 := h.1 (5, 6) (by decide)
theorem al_k_6 {S : b_M} {x : Nat} (h : alG S x) : m_K S (x + 6) = 5 := h.1 (6, 5) (by decide)
theorem al_k_7 {S : b_M} {x : Nat} (h : alG S x) : m_K S (x + 7) = 13 := h.1 (7, 13) (by decide)
theorem al_k_11 {S : b_M} {x : Nat} (h : alG S x) : m_K S (x + 11) = 2 := h.1 (11, 2) (by decide)
theorem al_k_14 {S : b_M} {x : Nat} (h : alG S x) : m_K S (x + 14) = 13 := h.1 (14, 13) (by decide)
theorem al_k_418 {S : b_M} {x : Nat} (h : alG S x) : m_K S (x + 418) = 9 := h.1 (418, 9) (by decide)
theorem al_k_421 {S : b_M} {x : Nat} (h : alG S x) : m_K S (x + 421) = 4 := h.1 (421, 4) (by decide)
theorem al_k_425 {S : b_M} {x : Nat} (h : alG S x) : m_K S (x + 425) = 3 := h.1 (425, 3) (by decide)
theorem al_p_1000 {S : b_M} {x : Nat} (h : alG S x) : m_P S 1000 x = some (x + 1) := h.2.1 (1000, 0, 1) (by decide)
theorem al_p_1002 {S : b_M} {x : Nat} (h : alG S x) : m_P S 1002 x = some (x + 2) := h.2.1 (1002, 0, 2) (by decide)
theorem al_p_1003 {S : b_M} {x : Nat} (h : alG S x) : m_P S 1003 x = some (x + 5) := h.2.1 (1003, 0, 5) (by decide)
theorem al_p_1004 {S : b_M} {x : Nat} (h : alG S x) : m_P S 1004 x = some (x + 418) := h.2.1 (1004, 0, 418) (by decide)
theorem al_p_600 {S : b_M} {x : Nat} (h : alG S x) : m_P S 600 (x + 5) = some (x + 2) := h.2.1 (600, 5, 2) (by decide)
theorem al_p_601 {S : b_M} {x : Nat} (h : alG S x) : m_P S 601 (x + 5) = some (x + 6) := h.2.1 (601, 5, 6) (by decide)
theorem al_p_602 {S : b_M} {x : Nat} (h : alG S x) : m_P S 602 (x + 5) = some (x + 11) := h.2.1 (602, 5, 11) (by decide)
theorem al_p_500 {S : b_M} {x : Nat} (h : alG S x) : m_P S 500 (x + 6) = some (x + 7) := h.2.1 (500, 6, 7) (by decide)
theorem al_p_203 {S : b_M} {x : Nat} (h : alG S x) : m_P S 203 (x + 11) = some (x + 14) := h.2.1 (203, 11, 14) (by decide)
theorem al_p_905 {S : b_M} {x : Nat} (h : alG S x) : m_P S 905 (x + 418) = some (x + 421) := h.2.1 (905, 418, 421) (by decide)
theorem al_p_906 {S : b_M} {x : Nat} (h : alG S x) : m_P S 906 (x + 418) = some (x + 425) := h.2.1 (906, 418, 425) (by decide)
theorem al_i_1001 {S : b_M} {x : Nat} (h : alG S x) : m_I S 1001 x = 0 := h.2.2.1 (1001, 0) (by decide)
theorem al_i_102 {S : b_M} {x : Nat} (h : alG S x) : m_I S 102 (x + 2) = 0 := h.2.2.1 (102, 2) (by decide)
theorem al_i_604 {S : b_M} {x : Nat} (h : alG S x) : m_I S 604 (x + 5) = 0 := h.2.2.1 (604, 5) (by decide)
theorem al_i_605 {S : b_M} {x : Nat} (h : alG S x) : m_I S 605 (x + 5) = 0 := h.2.2.1 (605, 5) (by decide)
theorem al_i_504 {S : b_M} {x : Nat} (h : alG S x) : m_I S 504 (x + 6) = 0 := h.2.2.1 (504, 6) (by decide)
theorem al_i_505 {S : b_M} {x : Nat} (h : alG S x) : m_I S 505 (x + 6) = 0 := h.2.2.1 (505, 6) (by decide)
theorem al_i_205 {S : b_M} {x : Nat} (h : alG S x) : m_I S 205 (x + 11) = 0 := h.2.2.1 (205, 11) (by decide)
theorem al_i_206 {S : b_M} {x : Nat} (h : alG S x) : m_I S 206 (x + 11) = 0 := h.2.2.1 (206, 11) (by decide)
theorem al_i_403 {S : b_M} {x : Nat} (h : alG S x) : m_I S 403 (x + 421) = 0 := h.2.2.1 (403, 421) (by decide)
theorem al_i_310 {S : b_M} {x : Nat} (h : alG S x) : m_I S 310 (x + 425) = 0 := h.2.2.1 (310, 425) (by decide)
theorem al_l_1 {S : b_M} {x : Nat} (h : alG S x) : m_L S (x + 1) = 4096 := h.2.2.2.1 (1, 4096) (by decide)
theorem al_l_7 {S : b_M} {x : Nat} (h : alG S x) : m_L S (x + 7) = 1021 := h.2.2.2.1 (7, 1021) (by decide)
theorem al_l_14 {S : b_M} {x : Nat} (h : alG S x) : m_L S (x + 14) = 3209 := h.2.2.2.1 (14, 3209) (by decide)
theorem al_a {S : b_M} {x : Nat} (h : alG S x) : m_A S (x + 14) 0 = 0 := h.2.2.2.2
set_option maxRecDepth 20000 in
theorem alG_of {kn : Nat → Nat} {S S' : b_M} {x : Nat} (h : iAL kn S S' x (x + 1)) (h0 : ∀ f, m_I S f x = 0) : alG S' x ∧ m_I S' 606 (x + 5) = 0 := by
  obtain ⟨a1, a2, a3, ⟨a4, a5, a6, a7⟩, ⟨a8, a9⟩, ⟨E1, E2, ⟨e1, e2, e3, -⟩, e0, q1⟩, ⟨P1, P2, ⟨p1, p2, p3, ⟨p4, p5, p6, p7⟩, ⟨N1, N2, ⟨n1, n2, ⟨n3, -, -, -, n7, n8⟩, n4, n5, -⟩, nq⟩, ⟨X1, X2, ⟨x1, x2, x3, ⟨-, -, -, x6, -⟩, -, -, -, -, x9, x10, x11, -⟩, x0, xq⟩, -⟩, p0, q2⟩, ⟨T1, T2, ⟨t1, t2, t3, ⟨-, -, -, -, -, t9, t10, -, -⟩, -, ⟨M1, M2, ⟨m1, m2, m3, -⟩, m0, mq⟩, ⟨L1, L2, ⟨l1, l2, l3, -⟩, l0, lq⟩⟩, t0, q3⟩⟩ := h
  simp only [Nat.add_assoc, Nat.reduceAdd] at *
  exact ⟨⟨(List.forall_mem_cons.2 ⟨a2, (List.forall_mem_cons.2 ⟨a8, (List.forall_mem_cons.2 ⟨(q1 (x + 2) (by omega) (by omega)).1.trans e2, (List.forall_mem_cons.2 ⟨(q2 (x + 5) (by omega) (by omega)).1.trans p2, (List.forall_mem_cons.2 ⟨((q2 (x + 6) (by omega) (by omega)).1.trans (nq (x + 6) (by omega) (by omega)).1).trans n2, (List.forall_mem_cons.2 ⟨((q2 (x + 7) (by omega) (by omega)).1.trans (nq (x + 7) (by omega) (by omega)).1).trans n4, (List.forall_mem_cons.2 ⟨((q2 (x + 11) (by omega) (by omega)).1.trans (xq (x + 11) (by omega) (by omega)).1).trans x2, (List.forall_mem_cons.2 ⟨((q2 (x + 14) (by omega) (by omega)).1.trans (xq (x + 14) (by omega) (by omega)).1).trans x9, (List.forall_mem_cons.2 ⟨(q3 (x + 418) (by omega) (by omega)).1.trans t2, (List.forall_mem_cons.2 ⟨((q3 (x + 421) (by omega) (by omega)).1.trans (mq (x + 421) (by omega) (by omega)).1).trans m2, (List.forall_mem_cons.2 ⟨((q3 (x + 425) (by omega) (by omega)).1.trans (lq (x + 425) (by omega) (by omega)).1).trans l2, (fun _ h => absurd h List.not_mem_nil)⟩)⟩)⟩)⟩)⟩)⟩)⟩)⟩)⟩)⟩)⟩), (List.forall_mem_cons.2 ⟨a4, (List.forall_mem_cons.2 ⟨a5, (List.forall_mem_cons.2 ⟨a6, (List.forall_mem_cons.2 ⟨a7, (List.forall_mem_cons.2 ⟨((q2 (x + 5) (by omega) (by omega)).2.2.2.1 _).trans p4, (List.forall_mem_cons.2 ⟨((q2 (x + 5) (by omega) (by omega)).2.2.2.1 _).trans p5, (List.forall_mem_cons.2 ⟨((q2 (x + 5) (by omega) (by omega)).2.2.2.1 _).trans p6, (List.forall_mem_cons.2 ⟨(((q2 (x + 6) (by omega) (by omega)).2.2.2.1 _).trans ((nq (x + 6) (by omega) (by omega)).2.2.2.1 _)).trans n3, (List.forall_mem_cons.2 ⟨(((q2 (x + 11) (by omega) (by omega)).2.2.2.1 _).trans ((xq (x + 11) (by omega) (by omega)).2.2.2.1 _)).trans x6, (List.forall_mem_cons.2 ⟨((q3 (x + 418) (by omega) (by omega)).2.2.2.1 _).trans t9, (List.forall_mem_cons.2 ⟨((q3 (x + 418) (by omega) (by omega)).2.2.2.1 _).trans t10, (fun _ h => absurd h List.not_mem_nil)⟩)⟩)⟩)⟩)⟩)⟩)⟩)⟩)⟩)⟩)⟩), (List.forall_mem_cons.2 ⟨(a3 _).trans (h0 _), (List.forall_mem_cons.2 ⟨(((q1 (x + 2) (by omega) (by omega)).2.1 _).trans (e3 _)).trans (e0 _), (List.forall_mem_cons.2 ⟨(((q2 (x + 5) (by omega) (by omega)).2.1 _).trans (p3 _)).trans (p0 _), (List.forall_mem_cons.2 ⟨(((q2 (x + 5) (by omega) (by omega)).2.1 _).trans (p3 _)).trans (p0 _), (List.forall_mem_cons.2 ⟨(((q2 (x + 6) (by omega) (by omega)).2.1 _).trans ((nq (x + 6) (by omega) (by omega)).2.1 _)).trans n7, (List.forall_mem_cons.2 ⟨(((q2 (x + 6) (by omega) (by omega)).2.1 _).trans ((nq (x + 6) (by omega) (by omega)).2.1 _)).trans n8, (List.forall_mem_cons.2 ⟨((((q2 (x + 11) (by omega) (by omega)).2.1 _).trans ((xq (x + 11) (by omega) (by omega)).2.1 _)).trans (x3 _)).trans (x0 _), (List.forall_mem_cons.2 ⟨((((q2 (x + 11) (by omega) (by omega)).2.1 _).trans ((xq (x + 11) (by omega) (by omega)).2.1 _)).trans (x3 _)).trans (x0 _), (List.forall_mem_cons.2 ⟨((((q3 (x + 421) (by omega) (by omega)).2.1 _).trans ((mq (x + 421) (by omega) (by omega)).2.1 _)).trans (m3 _)).trans (m0 _), (List.forall_mem_cons.2 ⟨((((q3 (x + 425) (by omega) (by omega)).2.1 _).trans ((lq (x + 425) (by omega) (by omega)).2.1 _)).trans (l3 _)).trans (l0 _), (fun _ h => absurd h List.not_mem_nil)⟩)⟩)⟩)⟩)⟩)⟩)⟩)⟩)⟩)⟩), (List.forall_mem_cons.2 ⟨a9, (List.forall_mem_cons.2 ⟨((q2 (x + 7) (by omega) (by omega)).2.2.2.2.1.trans (nq (x + 7) (by omega) (by omega)).2.2.2.2.1).trans n5, (List.forall_mem_cons.2 ⟨((q2 (x + 14) (by omega) (by omega)).2.2.2.2.1.trans (xq (x + 14) (by omega) (by omega)).2.2.2.2.1).trans x10, (fun _ h => absurd h List.not_mem_nil)⟩)⟩)⟩), (((q2 (x + 14) (by omega) (by omega)).2.2.2.2.2.1 _).trans ((xq (x + 14) (by omega) (by omega)).2.2.2.2.2.1 _)).trans (x11 _)⟩, (((q2 (x + 5) (by omega) (by omega)).2.1 _).trans (p3 _)).trans (p0 _)⟩
set_option maxRecDepth 100000 in
set_option maxHeartbeats 4000000 in
theorem c_Err_forget {kn : Nat → Nat} {B : Nat} {S : b_M} {z x : Nat} (hK : m_K S x = 1) : b_C kn B yX2_forget cX2_forget 1 none 0 0 0 0 [.ref x] S z (fun r S' z' => r = none ∧ z' = z ∧ S' = s_I S 102 x 0) (fun _ _ _ => False) := by
  refine b_enter (by decide) (Nat.le_of_ble_eq_true rfl) ?_
  intro X hX hE hnL hkn hB hI
  subst hkn; subst hB
  refine v_aload_n hX dX2_forget_0 (i := 0) rfl rfl ?_
  refine v_iconst hX (v := 0) dX2_forget_1 (by decide) ?_
  refine v_putI hX (ci := 1) (k := 2) (f := 102) (by simp (disch := omega) only [q_K_s_I, q_K_s_J, q_K_s_P, q_K_s_A, q_K_s_B, q_K_s_C, q_K_r_A, q_K_r_B, y_K_n_O, x_K_n_O, y_K_n_A, x_K_n_A, hK]) bc_1 (by decide) (by decide) in_1 tyX2_ok nmX2 w_1_47 (Or.inl rfl) rfl rfl dX2_forget_2 rfl rfl ?_
  exact v_return hX hE dX2_forget_5 (by omega) (by omega) ⟨rfl, rfl, rfl⟩
set_option maxRecDepth 100000 in
set_option maxHeartbeats 4000000 in
theorem c_Mac_forget {kn : Nat → Nat} {B : Nat} {S : b_M} {z x : Nat} (hK : m_K S x = 4) : b_C kn B yX5_forget cX5_forget 1 none 0 0 0 0 [.ref x] S z (fun r S' z' => r = none ∧ z' = z ∧ S' = s_I S 403 x 0) (fun _ _ _ => False) := by
  refine b_enter (by decide) (Nat.le_of_ble_eq_true rfl) ?_
  intro X hX hE hnL hkn hB hI
  subst hkn; subst hB
  refine v_aload_n hX dX5_forget_0 (i := 0) rfl rfl ?_
  refine v_iconst hX (v := 0) dX5_forget_1 (by decide) ?_
  refine v_putI hX (ci := 4) (k := 3) (f := 403) (by simp (disch := omega) only [q_K_s_I, q_K_s_J, q_K_s_P, q_K_s_A, q_K_s_B, q_K_s_C, q_K_r_A, q_K_r_B, y_K_n_O, x_K_n_O, y_K_n_A, x_K_n_A, hK]) bc_4 (by decide) (by decide) in_4 tyX5_ok nmX5 w_2_24 (Or.inl rfl) rfl rfl dX5_forget_2 rfl rfl ?_
  exact v_return hX hE dX5_forget_5 (by omega) (by omega) ⟨rfl, rfl, rfl⟩
set_option maxRecDepth 100000 in
set_option maxHeartbeats 4000000 in
theorem c_Lin_forget {kn : Nat → Nat} {B : Nat} {S : b_M} {z x : Nat} (hK : m_K S x = 3) : b_C kn B yX4_forget cX4_forget 1 none 0 0 0 0 [.ref x] S z (fun r S' z' => r = none ∧ z' = z ∧ S' = s_I S 310 x 0) (fun _ _ _ => False) := by
  refine b_enter (by decide) (Nat.le_of_ble_eq_true rfl) ?_
  intro X hX hE hnL hkn hB hI
  subst hkn; subst hB
  refine v_aload_n hX dX4_forget_0 (i := 0) rfl rfl ?_
  refine v_iconst hX (v := 0) dX4_forget_1 (by decide) ?_
  refine v_putI hX (ci := 3) (k := 10) (f := 310) (by simp (disch := omega) only [q_K_s_I, q_K_s_J, q_K_s_P, q_K_s_A, q_K_s_B, q_K_s_C, q_K_r_A, q_K_r_B, y_K_n_O, x_K_n_O, y_K_n_A, x_K_n_A, hK]) bc_3 (by decide) (by decide) in_3 tyX4_ok nmX4 w_2_91 (Or.inl rfl) rfl rfl dX4_forget_2 rfl rfl ?_
  exact v_return hX hE dX4_forget_5 (by omega) (by omega) ⟨rfl, rfl, rfl⟩
set_option maxRecDepth 100000 in
set_option maxHeartbeats 4000000 in
theorem c_Expr_cut {kn : Nat → Nat} {B : Nat} {S : b_M} {z x : Nat} (h : alG S x) : b_C kn B yX3_cut cX3_cut 2 none 0 0 0 0 [.ref (x + 11), .int 0] S z (fun r S' z' => r = none ∧ z' = z ∧ S' = s_I (s_I S 205 (x + 11) 0) 206 (x + 11) 0) (fun _ _ _ => False) := by
  refine b_enter (by decide) (Nat.le_of_ble_eq_true rfl) ?_
  intro X hX hE hnL hkn hB hI
  subst hkn; subst hB
  refine v_iload_n hX dX3_cut_0 (i := 1) rfl rfl ?_
  refine v_if_lt hX (tgt := 27) dX3_cut_1 (by decide) (fun h => absurd h (by decide)) (fun _ => ?_)
  refine v_iload_n hX dX3_cut_4 (i := 1) rfl rfl ?_
  refine v_aload_n hX dX3_cut_5 (i := 0) rfl rfl ?_
  refine v_get hX (ci := 2) (k := 5) (by simp (disch := omega) only [q_K_s_I, q_K_s_J, q_K_s_P, q_K_s_A, q_K_s_B, q_K_s_C, q_K_r_A, q_K_r_B, y_K_n_O, x_K_n_O, y_K_n_A, x_K_n_A, al_k_0 h, al_k_1 h, al_k_2 h, al_k_5 h, al_k_6 h, al_k_7 h, al_k_11 h, al_k_14 h, al_k_418 h, al_k_421 h, al_k_425 h]) bc_2 (by decide) (by decide) in_2 w_1_110 dX3_cut_6 (mvE (f := 205) (v := 0) rfl rfl (by simp (disch := omega) only [q_I_s_J, q_I_s_P, q_I_s_A, q_I_s_B, q_I_s_C, q_I_n_A, q_I_r_A, q_I_r_B, y_I_s_I, x_I_s_I, y_I_n_O, x_I_n_O, al_i_1001 h, al_i_102 h, al_i_604 h, al_i_605 h, al_i_504 h, al_i_505 h, al_i_205 h, al_i_206 h, al_i_403 h, al_i_310 h])) ?_
  refine v_icmp_gt hX (tgt := 27) dX3_cut_9 (by decide) (fun h => absurd h (by decide)) (fun _ => ?_)
  refine v_aload_n hX dX3_cut_12 (i := 0) rfl rfl ?_
  refine v_iload_n hX dX3_cut_13 (i := 1) rfl rfl ?_
  refine v_putI hX (ci := 2) (k := 5) (f := 205) (by simp (disch := omega) only [q_K_s_I, q_K_s_J, q_K_s_P, q_K_s_A, q_K_s_B, q_K_s_C, q_K_r_A, q_K_r_B, y_K_n_O, x_K_n_O, y_K_n_A, x_K_n_A, al_k_0 h, al_k_1 h, al_k_2 h, al_k_5 h, al_k_6 h, al_k_7 h, al_k_11 h, al_k_14 h, al_k_418 h, al_k_421 h, al_k_425 h]) bc_2 (by decide) (by decide) in_2 tyX3_ok nmX3 w_1_110 (Or.inl rfl) rfl rfl dX3_cut_14 rfl rfl ?_
  refine v_aload_n hX dX3_cut_17 (i := 0) rfl rfl ?_
  refine v_aload_n hX dX3_cut_18 (i := 0) rfl rfl ?_
  refine v_get hX (ci := 2) (k := 3) (by simp (disch := omega) only [q_K_s_I, q_K_s_J, q_K_s_P, q_K_s_A, q_K_s_B, q_K_s_C, q_K_r_A, q_K_r_B, y_K_n_O, x_K_n_O, y_K_n_A, x_K_n_A, al_k_0 h, al_k_1 h, al_k_2 h, al_k_5 h, al_k_6 h, al_k_7 h, al_k_11 h, al_k_14 h, al_k_418 h, al_k_421 h, al_k_425 h]) bc_2 (by decide) (by decide) in_2 w_1_108 dX3_cut_19 (mvP (f := 203) (q := (x + 14)) rfl rfl (by simp (disch := omega) only [q_P_s_I, q_P_s_J, q_P_s_A, q_P_s_B, q_P_s_C, q_P_n_A, q_P_r_A, q_P_r_B, y_P_s_P, x_P_s_P, y_P_n_O, x_P_n_O, al_p_1000 h, al_p_1002 h, al_p_1003 h, al_p_1004 h, al_p_600 h, al_p_601 h, al_p_602 h, al_p_500 h, al_p_203 h, al_p_905 h, al_p_906 h])) ?_
  refine v_iload_n hX dX3_cut_22 (i := 1) rfl rfl ?_
  refine v_iald hX (by simp (disch := omega) only [q_K_s_I, q_K_s_J, q_K_s_P, q_K_s_A, q_K_s_B, q_K_s_C, q_K_r_A, q_K_r_B, y_K_n_O, x_K_n_O, y_K_n_A, x_K_n_A, al_k_0 h, al_k_1 h, al_k_2 h, al_k_5 h, al_k_6 h, al_k_7 h, al_k_11 h, al_k_14 h, al_k_418 h, al_k_421 h, al_k_425 h]) (by rw [show m_L _ (x + 14) = 3209 from (by simp (disch := omega) only [q_L_s_I, q_L_s_J, q_L_s_P, q_L_s_A, q_L_s_B, q_L_s_C, q_L_n_O, q_L_r_A, q_L_r_B, y_L_n_A, x_L_n_A, al_l_1 h, al_l_7 h, al_l_14 h])]; unfold vp_in; decide) dX3_cut_23 ?_
  rw [q_A_s_I, show m_A S (x + 14) (0 : Int32).toNatClampNeg = 0 from al_a h]
  refine v_putI hX (ci := 2) (k := 6) (f := 206) (by simp (disch := omega) only [q_K_s_I, q_K_s_J, q_K_s_P, q_K_s_A, q_K_s_B, q_K_s_C, q_K_r_A, q_K_r_B, y_K_n_O, x_K_n_O, y_K_n_A, x_K_n_A, al_k_0 h, al_k_1 h, al_k_2 h, al_k_5 h, al_k_6 h, al_k_7 h, al_k_11 h, al_k_14 h, al_k_418 h, al_k_421 h, al_k_425 h]) bc_2 (by decide) (by decide) in_2 tyX3_ok nmX3 w_1_112 (Or.inl rfl) rfl rfl dX3_cut_24 rfl rfl ?_
  exact v_return hX hE dX3_cut_27 (by omega) (by omega) ⟨rfl, rfl, rfl⟩
set_option maxRecDepth 100000 in
set_option maxHeartbeats 4000000 in
theorem c_Prog_forget {kn : Nat → Nat} {B : Nat} {S : b_M} {z x : Nat} (h : alG S x) : b_C kn B yX8_forget cX8_forget 1 none 2 43 0 0 [.ref (x + 5)] S z (fun r S' z' => r = none ∧ z' = z ∧ alG S' x ∧ alE S S' x ∧ m_I S' 606 (x + 5) = 0) (fun _ _ _ => False) := by
  refine b_enter (by decide) (Nat.le_of_ble_eq_true rfl) ?_
  intro X hX hE hnL hkn hB hI
  subst hkn; subst hB
  refine v_aload_n hX dX8_forget_0 (i := 0) rfl rfl ?_
  refine v_get hX (ci := 6) (k := 1) (by simp (disch := omega) only [q_K_s_I, q_K_s_J, q_K_s_P, q_K_s_A, q_K_s_B, q_K_s_C, q_K_r_A, q_K_r_B, y_K_n_O, x_K_n_O, y_K_n_A, x_K_n_A, al_k_0 h, al_k_1 h, al_k_2 h, al_k_5 h, al_k_6 h, al_k_7 h, al_k_11 h, al_k_14 h, al_k_418 h, al_k_421 h, al_k_425 h]) bc_6 (by decide) (by decide) in_6 w_1_193 dX8_forget_1 (mvP (f := 601) (q := (x + 6)) rfl rfl (by simp (disch := omega) only [q_P_s_I, q_P_s_J, q_P_s_A, q_P_s_B, q_P_s_C, q_P_n_A, q_P_r_A, q_P_r_B, y_P_s_P, x_P_s_P, y_P_n_O, x_P_n_O, al_p_1000 h, al_p_1002 h, al_p_1003 h, al_p_1004 h, al_p_600 h, al_p_601 h, al_p_602 h, al_p_500 h, al_p_203 h, al_p_905 h, al_p_906 h])) ?_
  refine v_callV hX (n := 0) (c_Names_forget (a := x + 6) (q := x + 7) (al_k_6 h) (al_p_500 h) (al_k_7 h) (by rw [al_l_7 h]; decide)) (by simp (disch := omega) only [q_K_s_I, q_K_s_J, q_K_s_P, q_K_s_A, q_K_s_B, q_K_s_C, q_K_r_A, q_K_r_B, y_K_n_O, x_K_n_O, y_K_n_A, x_K_n_A, al_k_0 h, al_k_1 h, al_k_2 h, al_k_5 h, al_k_6 h, al_k_7 h, al_k_11 h, al_k_14 h, al_k_418 h, al_k_421 h, al_k_425 h]) bc_5 (by decide) w_3_78 w_1_71 w_1_72 w_1_4 w_1_73 (by decide +kernel) rfl ⟨by decide, by decide⟩ ⟨by omega, by omega⟩ (Nat.le_of_ble_eq_true rfl) rfl dX8_forget_4 (fun _ _ _ h => h) ?_
  rintro r1 S1 z1 ⟨rfl, rfl, e1⟩
  have h1 : alG S1 x := by rw [e1]; exact ((h.rA (by omega)).s0).s0
  have g1 : alE S S1 x := by rw [e1]; exact ((alE.rf S x).rA (by omega)).sI (by omega) |>.sI (by omega)
  clear e1
  refine v_aload_n hX dX8_forget_7 (i := 0) rfl rfl ?_
  refine v_get hX (ci := 6) (k := 2) (by simp (disch := omega) only [q_K_s_I, q_K_s_J, q_K_s_P, q_K_s_A, q_K_s_B, q_K_s_C, q_K_r_A, q_K_r_B, y_K_n_O, x_K_n_O, y_K_n_A, x_K_n_A, al_k_0 h1, al_k_1 h1, al_k_2 h1, al_k_5 h1, al_k_6 h1, al_k_7 h1, al_k_11 h1, al_k_14 h1, al_k_418 h1, al_k_421 h1, al_k_425 h1]) bc_6 (by decide) (by decide) in_6 w_1_196 dX8_forget_8 (mvP (f := 602) (q := (x + 11)) rfl rfl (by simp (disch := omega) only [q_P_s_I, q_P_s_J, q_P_s_A, q_P_s_B, q_P_s_C, q_P_n_A, q_P_r_A, q_P_r_B, y_P_s_P, x_P_s_P, y_P_n_O, x_P_n_O, al_p_1000 h1, al_p_1002 h1, al_p_1003 h1, al_p_1004 h1, al_p_600 h1, al_p_601 h1, al_p_602 h1, al_p_500 h1, al_p_203 h1, al_p_905 h1, al_p_906 h1])) ?_
  refine v_iconst hX (v := 0) dX8_forget_11 (by decide) ?_
  refine v_callV hX (n := 1) (c_Expr_cut h1) (by simp (disch := omega) only [q_K_s_I, q_K_s_J, q_K_s_P, q_K_s_A, q_K_s_B, q_K_s_C, q_K_r_A, q_K_r_B, y_K_n_O, x_K_n_O, y_K_n_A, x_K_n_A, al_k_0 h1, al_k_1 h1, al_k_2 h1, al_k_5 h1, al_k_6 h1, al_k_7 h1, al_k_11 h1, al_k_14 h1, al_k_418 h1, al_k_421 h1, al_k_425 h1]) bc_2 (by decide) w_3_79 w_3_80 w_3_81 w_1_6 w_3_82 (by decide +kernel) rfl ⟨by decide, by decide⟩ ⟨by omega, by omega⟩ (Nat.le_of_ble_eq_true rfl) rfl dX8_forget_12 (fun _ _ _ h => h) ?_
  rintro r2 S2 z2 ⟨rfl, rfl, e2⟩
  have h2 : alG S2 x := by rw [e2]; exact h1.s0.s0
  have g2 : alE S S2 x := by rw [e2]; exact (g1.sI (by omega)).sI (by omega)
  clear e2
  refine v_aload_n hX dX8_forget_15 (i := 0) rfl rfl ?_
  refine v_iconst hX (v := 0) dX8_forget_16 (by decide) ?_
  refine v_putI hX (ci := 6) (k := 4) (f := 604) (by simp (disch := omega) only [q_K_s_I, q_K_s_J, q_K_s_P, q_K_s_A, q_K_s_B, q_K_s_C, q_K_r_A, q_K_r_B, y_K_n_O, x_K_n_O, y_K_n_A, x_K_n_A, al_k_0 h2, al_k_1 h2, al_k_2 h2, al_k_5 h2, al_k_6 h2, al_k_7 h2, al_k_11 h2, al_k_14 h2, al_k_418 h2, al_k_421 h2, al_k_425 h2]) bc_6 (by decide) (by decide) in_6 tyX8_ok nmX8 w_1_200 (Or.inl rfl) rfl rfl dX8_forget_17 rfl rfl ?_
  refine v_aload_n hX dX8_forget_20 (i := 0) rfl rfl ?_
  refine v_iconst hX (v := 0) dX8_forget_21 (by decide) ?_
  refine v_putI hX (ci := 6) (k := 5) (f := 605) (by simp (disch := omega) only [q_K_s_I, q_K_s_J, q_K_s_P, q_K_s_A, q_K_s_B, q_K_s_C, q_K_r_A, q_K_r_B, y_K_n_O, x_K_n_O, y_K_n_A, x_K_n_A, al_k_0 h2, al_k_1 h2, al_k_2 h2, al_k_5 h2, al_k_6 h2, al_k_7 h2, al_k_11 h2, al_k_14 h2, al_k_418 h2, al_k_421 h2, al_k_425 h2]) bc_6 (by decide) (by decide) in_6 tyX8_ok nmX8 w_1_202 (Or.inl rfl) rfl rfl dX8_forget_22 rfl rfl ?_
  refine v_aload_n hX dX8_forget_25 (i := 0) rfl rfl ?_
  refine v_iconst hX (v := 0) dX8_forget_26 (by decide) ?_
  refine v_putI hX (ci := 6) (k := 6) (f := 606) (by simp (disch := omega) only [q_K_s_I, q_K_s_J, q_K_s_P, q_K_s_A, q_K_s_B, q_K_s_C, q_K_r_A, q_K_r_B, y_K_n_O, x_K_n_O, y_K_n_A, x_K_n_A, al_k_0 h2, al_k_1 h2, al_k_2 h2, al_k_5 h2, al_k_6 h2, al_k_7 h2, al_k_11 h2, al_k_14 h2, al_k_418 h2, al_k_421 h2, al_k_425 h2]) bc_6 (by decide) (by decide) in_6 tyX8_ok nmX8 w_1_204 (Or.inl rfl) rfl rfl dX8_forget_27 rfl rfl ?_
  exact v_return hX hE dX8_forget_30 (by omega) (by omega) ⟨rfl, rfl, h2.s0.s0.s0, ((g2.sI (by omega)).sI (by omega)).sI (by omega), y_I_s_I _ _ _ _⟩
set_option maxRecDepth 100000 in
set_option maxHeartbeats 4000000 in
theorem c_T1_forget {kn : Nat → Nat} {B : Nat} {S : b_M} {z x : Nat} (h : alG S x) : b_C kn B yX11_forget cX11_forget 1 none 1 20 0 0 [.ref (x + 418)] S z (fun r S' z' => r = none ∧ z' = z ∧ alG S' x ∧ alE S S' x ∧ b_eq S S' (x + 5)) (fun _ _ _ => False) := by
  refine b_enter (by decide) (Nat.le_of_ble_eq_true rfl) ?_
  intro X hX hE hnL hkn hB hI
  subst hkn; subst hB
  refine v_aload_n hX dX11_forget_0 (i := 0) rfl rfl ?_
  refine v_get hX (ci := 9) (k := 5) (by simp (disch := omega) only [q_K_s_I, q_K_s_J, q_K_s_P, q_K_s_A, q_K_s_B, q_K_s_C, q_K_r_A, q_K_r_B, y_K_n_O, x_K_n_O, y_K_n_A, x_K_n_A, al_k_0 h, al_k_1 h, al_k_2 h, al_k_5 h, al_k_6 h, al_k_7 h, al_k_11 h, al_k_14 h, al_k_418 h, al_k_421 h, al_k_425 h]) bc_9 (by decide) (by decide) in_9 w_2_129 dX11_forget_1 (mvP (f := 905) (q := (x + 421)) rfl rfl (by simp (disch := omega) only [q_P_s_I, q_P_s_J, q_P_s_A, q_P_s_B, q_P_s_C, q_P_n_A, q_P_r_A, q_P_r_B, y_P_s_P, x_P_s_P, y_P_n_O, x_P_n_O, al_p_1000 h, al_p_1002 h, al_p_1003 h, al_p_1004 h, al_p_600 h, al_p_601 h, al_p_602 h, al_p_500 h, al_p_203 h, al_p_905 h, al_p_906 h])) ?_
  refine v_callV hX (n := 0) (c_Mac_forget (x := x + 421) (al_k_421 h)) (by simp (disch := omega) only [q_K_s_I, q_K_s_J, q_K_s_P, q_K_s_A, q_K_s_B, q_K_s_C, q_K_r_A, q_K_r_B, y_K_n_O, x_K_n_O, y_K_n_A, x_K_n_A, al_k_0 h, al_k_1 h, al_k_2 h, al_k_5 h, al_k_6 h, al_k_7 h, al_k_11 h, al_k_14 h, al_k_418 h, al_k_421 h, al_k_425 h]) bc_4 (by decide) w_3_87 w_3_88 w_3_89 w_1_12 w_3_90 (by decide +kernel) rfl ⟨by decide, by decide⟩ ⟨by omega, by omega⟩ (Nat.le_of_ble_eq_true rfl) rfl dX11_forget_4 (fun _ _ _ h => h) ?_
  rintro r1 S1 z1 ⟨rfl, rfl, e1⟩
  have h1 : alG S1 x := by rw [e1]; exact h.s0
  have g1 : alE S S1 x := by rw [e1]; exact (alE.rf S x).sI (by omega)
  have b1 : b_eq S S1 (x + 5) := by rw [e1]; exact e_s_I _ _ _ _ (by omega)
  clear e1
  refine v_aload_n hX dX11_forget_7 (i := 0) rfl rfl ?_
  refine v_get hX (ci := 9) (k := 6) (by simp (disch := omega) only [q_K_s_I, q_K_s_J, q_K_s_P, q_K_s_A, q_K_s_B, q_K_s_C, q_K_r_A, q_K_r_B, y_K_n_O, x_K_n_O, y_K_n_A, x_K_n_A, al_k_0 h1, al_k_1 h1, al_k_2 h1, al_k_5 h1, al_k_6 h1, al_k_7 h1, al_k_11 h1, al_k_14 h1, al_k_418 h1, al_k_421 h1, al_k_425 h1]) bc_9 (by decide) (by decide) in_9 w_2_131 dX11_forget_8 (mvP (f := 906) (q := (x + 425)) rfl rfl (by simp (disch := omega) only [q_P_s_I, q_P_s_J, q_P_s_A, q_P_s_B, q_P_s_C, q_P_n_A, q_P_r_A, q_P_r_B, y_P_s_P, x_P_s_P, y_P_n_O, x_P_n_O, al_p_1000 h1, al_p_1002 h1, al_p_1003 h1, al_p_1004 h1, al_p_600 h1, al_p_601 h1, al_p_602 h1, al_p_500 h1, al_p_203 h1, al_p_905 h1, al_p_906 h1])) ?_
  refine v_callV hX (n := 0) (c_Lin_forget (x := x + 425) (al_k_425 h1)) (by simp (disch := omega) only [q_K_s_I, q_K_s_J, q_K_s_P, q_K_s_A, q_K_s_B, q_K_s_C, q_K_r_A, q_K_r_B, y_K_n_O, x_K_n_O, y_K_n_A, x_K_n_A, al_k_0 h1, al_k_1 h1, al_k_2 h1, al_k_5 h1, al_k_6 h1, al_k_7 h1, al_k_11 h1, al_k_14 h1, al_k_418 h1, al_k_421 h1, al_k_425 h1]) bc_3 (by decide) w_3_91 w_3_92 w_3_93 w_1_13 w_3_94 (by decide +kernel) rfl ⟨by decide, by decide⟩ ⟨by omega, by omega⟩ (Nat.le_of_ble_eq_true rfl) rfl dX11_forget_11 (fun _ _ _ h => h) ?_
  rintro r2 S2 z2 ⟨rfl, rfl, e2⟩
  have h2 : alG S2 x := by rw [e2]; exact h1.s0
  have g2 : alE S S2 x := by rw [e2]; exact g1.sI (by omega)
  have b2 : b_eq S S2 (x + 5) := by rw [e2]; exact b1.tr (e_s_I _ _ _ _ (by omega))
  clear e2
  exact v_return hX hE dX11_forget_14 (by omega) (by omega) ⟨rfl, rfl, h2, g2, b2⟩
set_option maxRecDepth 100000 in
set_option maxHeartbeats 4000000 in
theorem c_AL_forgetP {kn : Nat → Nat} {B : Nat} {S : b_M} {z x : Nat} (h : alG S x) : b_C kn B yX12_forgetProgram cX12_forgetProgram 1 none 3 63 0 0 [.ref x] S z (fun r S' z' => r = none ∧ z' = z ∧ alG S' x ∧ alE S S' x ∧ m_I S' 606 (x + 5) = 0) (fun _ _ _ => False) := by
  refine b_enter (by decide) (Nat.le_of_ble_eq_true rfl) ?_
  intro X hX hE hnL hkn hB hI
  subst hkn; subst hB
  refine v_aload_n hX dX12_forgetProgram_0 (i := 0) rfl rfl ?_
  refine v_get hX (ci := 10) (k := 3) (by simp (disch := omega) only [q_K_s_I, q_K_s_J, q_K_s_P, q_K_s_A, q_K_s_B, q_K_s_C, q_K_r_A, q_K_r_B, y_K_n_O, x_K_n_O, y_K_n_A, x_K_n_A, al_k_0 h, al_k_1 h, al_k_2 h, al_k_5 h, al_k_6 h, al_k_7 h, al_k_11 h, al_k_14 h, al_k_418 h, al_k_421 h, al_k_425 h]) bc_10 (by decide) (by decide) in_10 w_2_178 dX12_forgetProgram_1 (mvP (f := 1003) (q := (x + 5)) rfl rfl (by simp (disch := omega) only [q_P_s_I, q_P_s_J, q_P_s_A, q_P_s_B, q_P_s_C, q_P_n_A, q_P_r_A, q_P_r_B, y_P_s_P, x_P_s_P, y_P_n_O, x_P_n_O, al_p_1000 h, al_p_1002 h, al_p_1003 h, al_p_1004 h, al_p_600 h, al_p_601 h, al_p_602 h, al_p_500 h, al_p_203 h, al_p_905 h, al_p_906 h])) ?_
  refine v_callV hX (n := 0) (c_Prog_forget h) (by simp (disch := omega) only [q_K_s_I, q_K_s_J, q_K_s_P, q_K_s_A, q_K_s_B, q_K_s_C, q_K_r_A, q_K_r_B, y_K_n_O, x_K_n_O, y_K_n_A, x_K_n_A, al_k_0 h, al_k_1 h, al_k_2 h, al_k_5 h, al_k_6 h, al_k_7 h, al_k_11 h, al_k_14 h, al_k_418 h, al_k_421 h, al_k_425 h]) bc_6 (by decide) w_3_74 w_3_75 w_3_76 w_1_3 w_3_77 (by decide +kernel) rfl ⟨by decide, by decide⟩ ⟨by omega, by omega⟩ (Nat.le_of_ble_eq_true rfl) rfl dX12_forgetProgram_4 (fun _ _ _ h => h) ?_
  rintro r1 S1 z1 ⟨rfl, rfl, h1, g1, i1⟩
  refine v_aload_n hX dX12_forgetProgram_7 (i := 0) rfl rfl ?_
  refine v_get hX (ci := 10) (k := 4) (by simp (disch := omega) only [q_K_s_I, q_K_s_J, q_K_s_P, q_K_s_A, q_K_s_B, q_K_s_C, q_K_r_A, q_K_r_B, y_K_n_O, x_K_n_O, y_K_n_A, x_K_n_A, al_k_0 h1, al_k_1 h1, al_k_2 h1, al_k_5 h1, al_k_6 h1, al_k_7 h1, al_k_11 h1, al_k_14 h1, al_k_418 h1, al_k_421 h1, al_k_425 h1]) bc_10 (by decide) (by decide) in_10 w_2_179 dX12_forgetProgram_8 (mvP (f := 1004) (q := (x + 418)) rfl rfl (by simp (disch := omega) only [q_P_s_I, q_P_s_J, q_P_s_A, q_P_s_B, q_P_s_C, q_P_n_A, q_P_r_A, q_P_r_B, y_P_s_P, x_P_s_P, y_P_n_O, x_P_n_O, al_p_1000 h1, al_p_1002 h1, al_p_1003 h1, al_p_1004 h1, al_p_600 h1, al_p_601 h1, al_p_602 h1, al_p_500 h1, al_p_203 h1, al_p_905 h1, al_p_906 h1])) ?_
  refine v_callV hX (n := 0) (c_T1_forget h1) (by simp (disch := omega) only [q_K_s_I, q_K_s_J, q_K_s_P, q_K_s_A, q_K_s_B, q_K_s_C, q_K_r_A, q_K_r_B, y_K_n_O, x_K_n_O, y_K_n_A, x_K_n_A, al_k_0 h1, al_k_1 h1, al_k_2 h1, al_k_5 h1, al_k_6 h1, al_k_7 h1, al_k_11 h1, al_k_14 h1, al_k_418 h1, al_k_421 h1, al_k_425 h1]) bc_9 (by decide) w_3_83 w_3_84 w_3_85 w_1_10 w_3_86 (by decide +kernel) rfl ⟨by decide, by decide⟩ ⟨by omega, by omega⟩ (Nat.le_of_ble_eq_true rfl) rfl dX12_forgetProgram_11 (fun _ _ _ h => h) ?_
  rintro r2 S2 z2 ⟨rfl, rfl, h2, g2, b2⟩
  exact v_return hX hE dX12_forgetProgram_14 (by omega) (by omega) ⟨rfl, rfl, h2, g1.tr g2, (b2.2.1 _).trans i1⟩
set_option maxRecDepth 100000 in
set_option maxHeartbeats 4000000 in
theorem c_Lin_start {kn : Nat → Nat} {B : Nat} {S : b_M} {z x : Nat} (h : alG S x) : b_C kn B yX4_start cX4_start 3 none 1 15 0 0 [.ref (x + 425), .ref (x + 1), .int 0] S z (fun r S' z' => r = none ∧ z' = z ∧ alG S' x ∧ alE S S' x ∧ b_eq S S' (x + 5) ∧ m_I S' 301 (x + 425) = 0 ∧ m_I S' 303 (x + 425) = 0 ∧ m_I S' 308 (x + 425) = 0) (fun _ _ _ => False) := by
  refine b_enter (by decide) (Nat.le_of_ble_eq_true rfl) ?_
  intro X hX hE hnL hkn hB hI
  subst hkn; subst hB
  refine v_aload_n hX dX4_start_0 (i := 0) rfl rfl ?_
  refine v_aload_n hX dX4_start_1 (i := 1) rfl rfl ?_
  refine v_putP hX (ci := 3) (k := 2) (f := 302) (by simp (disch := omega) only [q_K_s_I, q_K_s_J, q_K_s_P, q_K_s_A, q_K_s_B, q_K_s_C, q_K_r_A, q_K_r_B, y_K_n_O, x_K_n_O, y_K_n_A, x_K_n_A, al_k_0 h, al_k_1 h, al_k_2 h, al_k_5 h, al_k_6 h, al_k_7 h, al_k_11 h, al_k_14 h, al_k_418 h, al_k_421 h, al_k_425 h]) bc_3 (by decide) (by decide) in_3 tyX4_ok nmX4 w_2_78 (Or.inl rfl) rfl rfl dX4_start_2 rfl rfl ?_
  refine v_aload_n hX dX4_start_5 (i := 0) rfl rfl ?_
  refine v_iload_n hX dX4_start_6 (i := 2) rfl rfl ?_
  refine v_aload_n hX dX4_start_7 (i := 1) rfl rfl ?_
  refine v_alen hX (kd := 12) (t0 := 0) (ty := _) (by simp (disch := omega) only [q_K_s_I, q_K_s_J, q_K_s_P, q_K_s_A, q_K_s_B, q_K_s_C, q_K_r_A, q_K_r_B, y_K_n_O, x_K_n_O, y_K_n_A, x_K_n_A, al_k_0 h, al_k_1 h, al_k_2 h, al_k_5 h, al_k_6 h, al_k_7 h, al_k_11 h, al_k_14 h, al_k_418 h, al_k_421 h, al_k_425 h]) ⟨by decide, by decide⟩ rfl dX4_start_8 ?_
  rw [show m_L _ (x + 1) = 4096 from (by simp (disch := omega) only [q_L_s_I, q_L_s_J, q_L_s_P, q_L_s_A, q_L_s_B, q_L_s_C, q_L_n_O, q_L_r_A, q_L_r_B, y_L_n_A, x_L_n_A, al_l_1 h, al_l_7 h, al_l_14 h])]
  refine v_mmin hX w_3_107 w_2_122 w_1_15 w_2_123 (by decide) (Nat.le_of_ble_eq_true rfl) (by omega) (by omega) dX4_start_9 ?_
  rw [if_neg (by decide)]
  refine v_putI hX (ci := 3) (k := 3) (f := 303) (by simp (disch := omega) only [q_K_s_I, q_K_s_J, q_K_s_P, q_K_s_A, q_K_s_B, q_K_s_C, q_K_r_A, q_K_r_B, y_K_n_O, x_K_n_O, y_K_n_A, x_K_n_A, al_k_0 h, al_k_1 h, al_k_2 h, al_k_5 h, al_k_6 h, al_k_7 h, al_k_11 h, al_k_14 h, al_k_418 h, al_k_421 h, al_k_425 h]) bc_3 (by decide) (by decide) in_3 tyX4_ok nmX4 w_2_79 (Or.inl rfl) rfl rfl dX4_start_12 rfl rfl ?_
  refine v_aload_n hX dX4_start_15 (i := 0) rfl rfl ?_
  refine v_iconst hX (v := 0) dX4_start_16 (by decide) ?_
  refine v_putI hX (ci := 3) (k := 8) (f := 308) (by simp (disch := omega) only [q_K_s_I, q_K_s_J, q_K_s_P, q_K_s_A, q_K_s_B, q_K_s_C, q_K_r_A, q_K_r_B, y_K_n_O, x_K_n_O, y_K_n_A, x_K_n_A, al_k_0 h, al_k_1 h, al_k_2 h, al_k_5 h, al_k_6 h, al_k_7 h, al_k_11 h, al_k_14 h, al_k_418 h, al_k_421 h, al_k_425 h]) bc_3 (by decide) (by decide) in_3 tyX4_ok nmX4 w_2_87 (Or.inl rfl) rfl rfl dX4_start_17 rfl rfl ?_
  refine v_aload_n hX dX4_start_20 (i := 0) rfl rfl ?_
  refine v_iconst hX (v := 0) dX4_start_21 (by decide) ?_
  refine v_putI hX (ci := 3) (k := 9) (f := 309) (by simp (disch := omega) only [q_K_s_I, q_K_s_J, q_K_s_P, q_K_s_A, q_K_s_B, q_K_s_C, q_K_r_A, q_K_r_B, y_K_n_O, x_K_n_O, y_K_n_A, x_K_n_A, al_k_0 h, al_k_1 h, al_k_2 h, al_k_5 h, al_k_6 h, al_k_7 h, al_k_11 h, al_k_14 h, al_k_418 h, al_k_421 h, al_k_425 h]) bc_3 (by decide) (by decide) in_3 tyX4_ok nmX4 w_2_89 (Or.inl rfl) rfl rfl dX4_start_22 rfl rfl ?_
  refine v_aload_n hX dX4_start_25 (i := 0) rfl rfl ?_
  refine v_iconst hX (v := 0) dX4_start_26 (by decide) ?_
  refine v_putI hX (ci := 3) (k := 1) (f := 301) (by simp (disch := omega) only [q_K_s_I, q_K_s_J, q_K_s_P, q_K_s_A, q_K_s_B, q_K_s_C, q_K_r_A, q_K_r_B, y_K_n_O, x_K_n_O, y_K_n_A, x_K_n_A, al_k_0 h, al_k_1 h, al_k_2 h, al_k_5 h, al_k_6 h, al_k_7 h, al_k_11 h, al_k_14 h, al_k_418 h, al_k_421 h, al_k_425 h]) bc_3 (by decide) (by decide) in_3 tyX4_ok nmX4 w_2_77 (Or.inl rfl) rfl rfl dX4_start_27 rfl rfl ?_
  refine v_aload_n hX dX4_start_30 (i := 0) rfl rfl ?_
  refine v_iconst hX (v := 0) dX4_start_31 (by decide) ?_
  refine v_putI hX (ci := 3) (k := 10) (f := 310) (by simp (disch := omega) only [q_K_s_I, q_K_s_J, q_K_s_P, q_K_s_A, q_K_s_B, q_K_s_C, q_K_r_A, q_K_r_B, y_K_n_O, x_K_n_O, y_K_n_A, x_K_n_A, al_k_0 h, al_k_1 h, al_k_2 h, al_k_5 h, al_k_6 h, al_k_7 h, al_k_11 h, al_k_14 h, al_k_418 h, al_k_421 h, al_k_425 h]) bc_3 (by decide) (by decide) in_3 tyX4_ok nmX4 w_2_91 (Or.inl rfl) rfl rfl dX4_start_32 rfl rfl ?_
  refine v_return hX hE dX4_start_35 (by omega) (by omega) ⟨rfl, rfl, h.st.s0.s0.s0.s0.s0, (((((alE.rf S x).sP (by omega)).sI (by omega)).sI (by omega)).sI (by omega)).sI (by omega) |>.sI (by omega), ?_, (by simp (disch := omega) only [q_I_s_J, q_I_s_P, q_I_s_A, q_I_s_B, q_I_s_C, q_I_n_A, q_I_r_A, q_I_r_B, y_I_s_I, x_I_s_I, y_I_n_O, x_I_n_O]), (by simp (disch := omega) only [q_I_s_J, q_I_s_P, q_I_s_A, q_I_s_B, q_I_s_C, q_I_n_A, q_I_r_A, q_I_r_B, y_I_s_I, x_I_s_I, y_I_n_O, x_I_n_O]), (by simp (disch := omega) only [q_I_s_J, q_I_s_P, q_I_s_A, q_I_s_B, q_I_s_C, q_I_n_A, q_I_r_A, q_I_r_B, y_I_s_I, x_I_s_I, y_I_n_O, x_I_n_O])⟩
  exact (((((e_s_P _ _ _ _ (by omega)).tr (e_s_I _ _ _ _ (by omega))).tr (e_s_I _ _ _ _ (by omega))).tr (e_s_I _ _ _ _ (by omega))).tr (e_s_I _ _ _ _ (by omega))).tr (e_s_I _ _ _ _ (by omega))
set_option maxRecDepth 100000 in
set_option maxHeartbeats 4000000 in
theorem c_Lin_advance {kn : Nat → Nat} {B : Nat} {S : b_M} {z x : Nat} (hK : m_K S x = 3) (i1 : m_I S 301 x = 0) (i2 : m_I S 303 x = 0) (i3 : m_I S 308 x = 0) : b_C kn B yX4_advance cX4_advance 1 (some .boolean) 0 0 0 0 [.ref x] S z (fun r S' z' => r = some (.int 0) ∧ z' = z ∧ S' = S) (fun _ _ _ => False) := by
  refine b_enter (by decide) (Nat.le_of_ble_eq_true rfl) ?_
  intro X hX hE hnL hkn hB hI
  subst hkn; subst hB
  refine v_aload_n hX dX4_advance_0 (i := 0) rfl rfl ?_
  refine v_get hX (ci := 3) (k := 1) (by simp (disch := omega) only [q_K_s_I, q_K_s_J, q_K_s_P, q_K_s_A, q_K_s_B, q_K_s_C, q_K_r_A, q_K_r_B, y_K_n_O, x_K_n_O, y_K_n_A, x_K_n_A, hK, i1, i2, i3]) bc_3 (by decide) (by decide) in_3 w_2_77 dX4_advance_1 (mvE (f := 301) (v := 0) rfl rfl (by simp (disch := omega) only [q_I_s_J, q_I_s_P, q_I_s_A, q_I_s_B, q_I_s_C, q_I_n_A, q_I_r_A, q_I_r_B, y_I_s_I, x_I_s_I, y_I_n_O, x_I_n_O, hK, i1, i2, i3])) ?_
  refine v_if_le hX (tgt := 37) dX4_advance_4 (by decide) (fun _ => ?_) (fun h => absurd h (by decide))
  refine v_aload_n hX dX4_advance_37 (i := 0) rfl rfl ?_
  refine v_get hX (ci := 3) (k := 1) (by simp (disch := omega) only [q_K_s_I, q_K_s_J, q_K_s_P, q_K_s_A, q_K_s_B, q_K_s_C, q_K_r_A, q_K_r_B, y_K_n_O, x_K_n_O, y_K_n_A, x_K_n_A, hK, i1, i2, i3]) bc_3 (by decide) (by decide) in_3 w_2_77 dX4_advance_38 (mvE (f := 301) (v := 0) rfl rfl (by simp (disch := omega) only [q_I_s_J, q_I_s_P, q_I_s_A, q_I_s_B, q_I_s_C, q_I_n_A, q_I_r_A, q_I_r_B, y_I_s_I, x_I_s_I, y_I_n_O, x_I_n_O, hK, i1, i2, i3])) ?_
  refine v_if_le hX (tgt := 61) dX4_advance_41 (by decide) (fun _ => ?_) (fun h => absurd h (by decide))
  refine v_aload_n hX dX4_advance_61 (i := 0) rfl rfl ?_
  refine v_get hX (ci := 3) (k := 8) (by simp (disch := omega) only [q_K_s_I, q_K_s_J, q_K_s_P, q_K_s_A, q_K_s_B, q_K_s_C, q_K_r_A, q_K_r_B, y_K_n_O, x_K_n_O, y_K_n_A, x_K_n_A, hK, i1, i2, i3]) bc_3 (by decide) (by decide) in_3 w_2_87 dX4_advance_62 (mvE (f := 308) (v := 0) rfl rfl (by simp (disch := omega) only [q_I_s_J, q_I_s_P, q_I_s_A, q_I_s_B, q_I_s_C, q_I_n_A, q_I_r_A, q_I_r_B, y_I_s_I, x_I_s_I, y_I_n_O, x_I_n_O, hK, i1, i2, i3])) ?_
  refine v_aload_n hX dX4_advance_65 (i := 0) rfl rfl ?_
  refine v_get hX (ci := 3) (k := 3) (by simp (disch := omega) only [q_K_s_I, q_K_s_J, q_K_s_P, q_K_s_A, q_K_s_B, q_K_s_C, q_K_r_A, q_K_r_B, y_K_n_O, x_K_n_O, y_K_n_A, x_K_n_A, hK, i1, i2, i3]) bc_3 (by decide) (by decide) in_3 w_2_79 dX4_advance_66 (mvE (f := 303) (v := 0) rfl rfl (by simp (disch := omega) only [q_I_s_J, q_I_s_P, q_I_s_A, q_I_s_B, q_I_s_C, q_I_n_A, q_I_r_A, q_I_r_B, y_I_s_I, x_I_s_I, y_I_n_O, x_I_n_O, hK, i1, i2, i3])) ?_
  refine v_icmp_lt hX (tgt := 74) dX4_advance_69 (by decide) (fun h => absurd h (by decide)) (fun _ => ?_)
  refine v_iconst hX (v := 0) dX4_advance_72 (by decide) ?_
  exact v_zreturn hX rfl hE dX4_advance_73 (by omega) (by omega) ⟨rfl, rfl, rfl⟩
set_option maxRecDepth 100000 in
set_option maxHeartbeats 4000000 in
theorem c_T1_run {kn : Nat → Nat} {B : Nat} {S : b_M} {z x : Nat} (h : alG S x) : b_C kn B yX11_run cX11_run 5 none 2 37 0 0 [.ref (x + 418), .ref (x + 1), .int 0] S z (fun r S' z' => r = none ∧ z' = z ∧ alG S' x ∧ alE S S' x ∧ b_eq S S' (x + 5)) (fun _ _ _ => False) := by
  refine b_enter (by decide) (Nat.le_of_ble_eq_true rfl) ?_
  intro X hX hE hnL hkn hB hI
  subst hkn; subst hB
  refine v_aload_n hX dX11_run_0 (i := 0) rfl rfl ?_
  refine v_get hX (ci := 9) (k := 6) (by simp (disch := omega) only [q_K_s_I, q_K_s_J, q_K_s_P, q_K_s_A, q_K_s_B, q_K_s_C, q_K_r_A, q_K_r_B, y_K_n_O, x_K_n_O, y_K_n_A, x_K_n_A, al_k_0 h, al_k_1 h, al_k_2 h, al_k_5 h, al_k_6 h, al_k_7 h, al_k_11 h, al_k_14 h, al_k_418 h, al_k_421 h, al_k_425 h]) bc_9 (by decide) (by decide) in_9 w_2_131 dX11_run_1 (mvP (f := 906) (q := (x + 425)) rfl rfl (by simp (disch := omega) only [q_P_s_I, q_P_s_J, q_P_s_A, q_P_s_B, q_P_s_C, q_P_n_A, q_P_r_A, q_P_r_B, y_P_s_P, x_P_s_P, y_P_n_O, x_P_n_O, al_p_1000 h, al_p_1002 h, al_p_1003 h, al_p_1004 h, al_p_600 h, al_p_601 h, al_p_602 h, al_p_500 h, al_p_203 h, al_p_905 h, al_p_906 h])) ?_
  refine v_aload_n hX dX11_run_4 (i := 1) rfl rfl ?_
  refine v_iload_n hX dX11_run_5 (i := 2) rfl rfl ?_
  refine v_callV hX (n := 2) (c_Lin_start h) (by simp (disch := omega) only [q_K_s_I, q_K_s_J, q_K_s_P, q_K_s_A, q_K_s_B, q_K_s_C, q_K_r_A, q_K_r_B, y_K_n_O, x_K_n_O, y_K_n_A, x_K_n_A, al_k_0 h, al_k_1 h, al_k_2 h, al_k_5 h, al_k_6 h, al_k_7 h, al_k_11 h, al_k_14 h, al_k_418 h, al_k_421 h, al_k_425 h]) bc_3 (by decide) w_3_103 w_3_104 w_3_105 w_1_13 w_3_106 (by decide +kernel) rfl ⟨by decide, by decide⟩ ⟨by omega, by omega⟩ (Nat.le_of_ble_eq_true rfl) rfl dX11_run_6 (fun _ _ _ h => h) ?_
  rintro r1 S1 z1 ⟨rfl, rfl, h1, g1, b1, i1, i2, i3⟩
  refine v_aload_n hX dX11_run_9 (i := 0) rfl rfl ?_
  refine v_iconst hX (v := 0) dX11_run_10 (by decide) ?_
  refine v_putI hX (ci := 9) (k := 13) (f := 913) (by simp (disch := omega) only [q_K_s_I, q_K_s_J, q_K_s_P, q_K_s_A, q_K_s_B, q_K_s_C, q_K_r_A, q_K_r_B, y_K_n_O, x_K_n_O, y_K_n_A, x_K_n_A, al_k_0 h1, al_k_1 h1, al_k_2 h1, al_k_5 h1, al_k_6 h1, al_k_7 h1, al_k_11 h1, al_k_14 h1, al_k_418 h1, al_k_421 h1, al_k_425 h1]) bc_9 (by decide) (by decide) in_9 tyX11_ok nmX11 w_2_139 (Or.inl rfl) rfl rfl dX11_run_11 rfl rfl ?_
  refine v_iconst hX (v := 0) dX11_run_14 (by decide) ?_
  refine v_istore_n hX (lv' := [(3, .int 0), (0, .ref (x + 418)), (1, .ref (x + 1)), (2, .int 0)]) dX11_run_15 (i := 3) rfl (by rw [hnL]; decide) rfl ?_
  refine v_iload_n hX dX11_run_16 (i := 3) rfl rfl ?_
  refine v_ldc hX (v := 1000000) dX11_run_17 w_3_108 ?_
  refine v_icmp_ge hX (tgt := 104) dX11_run_19 (by decide) (fun h => absurd h (by decide)) (fun _ => ?_)
  refine v_aload_n hX dX11_run_22 (i := 0) rfl rfl ?_
  refine v_get hX (ci := 9) (k := 6) (by simp (disch := omega) only [q_K_s_I, q_K_s_J, q_K_s_P, q_K_s_A, q_K_s_B, q_K_s_C, q_K_r_A, q_K_r_B, y_K_n_O, x_K_n_O, y_K_n_A, x_K_n_A, al_k_0 h1, al_k_1 h1, al_k_2 h1, al_k_5 h1, al_k_6 h1, al_k_7 h1, al_k_11 h1, al_k_14 h1, al_k_418 h1, al_k_421 h1, al_k_425 h1]) bc_9 (by decide) (by decide) in_9 w_2_131 dX11_run_23 (mvP (f := 906) (q := (x + 425)) rfl rfl (by simp (disch := omega) only [q_P_s_I, q_P_s_J, q_P_s_A, q_P_s_B, q_P_s_C, q_P_n_A, q_P_r_A, q_P_r_B, y_P_s_P, x_P_s_P, y_P_n_O, x_P_n_O, al_p_1000 h1, al_p_1002 h1, al_p_1003 h1, al_p_1004 h1, al_p_600 h1, al_p_601 h1, al_p_602 h1, al_p_500 h1, al_p_203 h1, al_p_905 h1, al_p_906 h1])) ?_
  refine v_callV hX (n := 0) (c_Lin_advance (x := x + 425) (al_k_425 h1.s0) (by simp (disch := omega) only [q_I_s_J, q_I_s_P, q_I_s_A, q_I_s_B, q_I_s_C, q_I_n_A, q_I_r_A, q_I_r_B, y_I_s_I, x_I_s_I, y_I_n_O, x_I_n_O, i1]) (by simp (disch := omega) only [q_I_s_J, q_I_s_P, q_I_s_A, q_I_s_B, q_I_s_C, q_I_n_A, q_I_r_A, q_I_r_B, y_I_s_I, x_I_s_I, y_I_n_O, x_I_n_O, i2]) (by simp (disch := omega) only [q_I_s_J, q_I_s_P, q_I_s_A, q_I_s_B, q_I_s_C, q_I_n_A, q_I_r_A, q_I_r_B, y_I_s_I, x_I_s_I, y_I_n_O, x_I_n_O, i3])) (by simp (disch := omega) only [q_K_s_I, q_K_s_J, q_K_s_P, q_K_s_A, q_K_s_B, q_K_s_C, q_K_r_A, q_K_r_B, y_K_n_O, x_K_n_O, y_K_n_A, x_K_n_A, al_k_0 h1, al_k_1 h1, al_k_2 h1, al_k_5 h1, al_k_6 h1, al_k_7 h1, al_k_11 h1, al_k_14 h1, al_k_418 h1, al_k_421 h1, al_k_425 h1]) bc_3 (by decide) w_3_109 w_3_110 w_3_111 w_1_13 w_3_112 (by decide +kernel) rfl ⟨by decide, by decide⟩ ⟨by omega, by omega⟩ (Nat.le_of_ble_eq_true rfl) rfl dX11_run_26 (fun _ _ _ h => h) ?_
  rintro r2 S2 z2 ⟨rfl, rfl, e2⟩
  have h2 : alG S2 x := by rw [e2]; exact h1.s0
  have g2 : alE S S2 x := by rw [e2]; exact g1.sI (by omega)
  have b2 : b_eq S S2 (x + 5) := by rw [e2]; exact b1.tr (e_s_I _ _ _ _ (by omega))
  have j2 : m_I S2 913 (x + 418) = 0 := by rw [e2]; exact y_I_s_I _ _ _ _
  clear e2
  refine v_if_eq hX (tgt := 104) dX11_run_29 (by decide) (fun _ => ?_) (fun h => absurd h (by decide))
  refine v_aload_n hX dX11_run_104 (i := 0) rfl rfl ?_
  refine v_get hX (ci := 9) (k := 13) (by simp (disch := omega) only [q_K_s_I, q_K_s_J, q_K_s_P, q_K_s_A, q_K_s_B, q_K_s_C, q_K_r_A, q_K_r_B, y_K_n_O, x_K_n_O, y_K_n_A, x_K_n_A, al_k_0 h2, al_k_1 h2, al_k_2 h2, al_k_5 h2, al_k_6 h2, al_k_7 h2, al_k_11 h2, al_k_14 h2, al_k_418 h2, al_k_421 h2, al_k_425 h2, j2]) bc_9 (by decide) (by decide) in_9 w_2_139 dX11_run_105 (mvE (f := 913) (v := 0) rfl rfl (by simp (disch := omega) only [q_I_s_J, q_I_s_P, q_I_s_A, q_I_s_B, q_I_s_C, q_I_n_A, q_I_r_A, q_I_r_B, y_I_s_I, x_I_s_I, y_I_n_O, x_I_n_O, al_i_1001 h2, al_i_102 h2, al_i_604 h2, al_i_605 h2, al_i_504 h2, al_i_505 h2, al_i_205 h2, al_i_206 h2, al_i_403 h2, al_i_310 h2, j2])) ?_
  refine v_if_eq hX (tgt := 130) dX11_run_108 (by decide) (fun _ => ?_) (fun h => absurd h (by decide))
  exact v_return hX hE dX11_run_130 (by omega) (by omega) ⟨rfl, rfl, h2, g2, b2⟩
set_option maxRecDepth 100000 in
set_option maxHeartbeats 4000000 in
theorem c_Expr_resolve {kn : Nat → Nat} {B : Nat} {S : b_M} {z x : Nat} (h : alG S x) : b_C kn B yX3_resolve cX3_resolve 5 none 0 0 0 0 [.ref (x + 11)] S z (fun r S' z' => r = none ∧ z' = z ∧ S' = S) (fun _ _ _ => False) := by
  refine b_enter (by decide) (Nat.le_of_ble_eq_true rfl) ?_
  intro X hX hE hnL hkn hB hI
  subst hkn; subst hB
  refine v_iconst hX (v := 0) dX3_resolve_0 (by decide) ?_
  refine v_istore_n hX (lv' := [(1, .int 0), (0, .ref (x + 11))]) dX3_resolve_1 (i := 1) rfl (by rw [hnL]; decide) rfl ?_
  refine v_iload_n hX dX3_resolve_2 (i := 1) rfl rfl ?_
  refine v_aload_n hX dX3_resolve_3 (i := 0) rfl rfl ?_
  refine v_get hX (ci := 2) (k := 6) (by simp (disch := omega) only [q_K_s_I, q_K_s_J, q_K_s_P, q_K_s_A, q_K_s_B, q_K_s_C, q_K_r_A, q_K_r_B, y_K_n_O, x_K_n_O, y_K_n_A, x_K_n_A, al_k_0 h, al_k_1 h, al_k_2 h, al_k_5 h, al_k_6 h, al_k_7 h, al_k_11 h, al_k_14 h, al_k_418 h, al_k_421 h, al_k_425 h]) bc_2 (by decide) (by decide) in_2 w_1_112 dX3_resolve_4 (mvE (f := 206) (v := 0) rfl rfl (by simp (disch := omega) only [q_I_s_J, q_I_s_P, q_I_s_A, q_I_s_B, q_I_s_C, q_I_n_A, q_I_r_A, q_I_r_B, y_I_s_I, x_I_s_I, y_I_n_O, x_I_n_O, al_i_1001 h, al_i_102 h, al_i_604 h, al_i_605 h, al_i_504 h, al_i_505 h, al_i_205 h, al_i_206 h, al_i_403 h, al_i_310 h])) ?_
  refine v_icmp_ge hX (tgt := 67) dX3_resolve_7 (by decide) (fun _ => ?_) (fun h => absurd h (by decide))
  exact v_return hX hE dX3_resolve_67 (by omega) (by omega) ⟨rfl, rfl, rfl⟩
set_option maxRecDepth 100000 in
set_option maxHeartbeats 4000000 in
theorem c_Prog_layOut {kn : Nat → Nat} {B : Nat} {S : b_M} {z x : Nat} (h : alG S x) : b_C kn B yX8_layOut cX8_layOut 5 none 0 0 0 0 [.ref (x + 5)] S z (fun r S' z' => r = none ∧ z' = z ∧ S' = s_I S 605 (x + 5) 0) (fun _ _ _ => False) := by
  refine b_enter (by decide) (Nat.le_of_ble_eq_true rfl) ?_
  intro X hX hE hnL hkn hB hI
  subst hkn; subst hB
  refine v_iconst hX (v := 0) dX8_layOut_0 (by decide) ?_
  refine v_istore_n hX (lv' := [(1, .int 0), (0, .ref (x + 5))]) dX8_layOut_1 (i := 1) rfl (by rw [hnL]; decide) rfl ?_
  refine v_iconst hX (v := 0) dX8_layOut_2 (by decide) ?_
  refine v_istore_n hX (lv' := [(2, .int 0), (1, .int 0), (0, .ref (x + 5))]) dX8_layOut_3 (i := 2) rfl (by rw [hnL]; decide) rfl ?_
  refine v_iconst hX (v := 0) dX8_layOut_4 (by decide) ?_
  refine v_istore_n hX (lv' := [(3, .int 0), (2, .int 0), (1, .int 0), (0, .ref (x + 5))]) dX8_layOut_5 (i := 3) rfl (by rw [hnL]; decide) rfl ?_
  refine v_iload_n hX dX8_layOut_6 (i := 3) rfl rfl ?_
  refine v_aload_n hX dX8_layOut_7 (i := 0) rfl rfl ?_
  refine v_get hX (ci := 6) (k := 4) (by simp (disch := omega) only [q_K_s_I, q_K_s_J, q_K_s_P, q_K_s_A, q_K_s_B, q_K_s_C, q_K_r_A, q_K_r_B, y_K_n_O, x_K_n_O, y_K_n_A, x_K_n_A, al_k_0 h, al_k_1 h, al_k_2 h, al_k_5 h, al_k_6 h, al_k_7 h, al_k_11 h, al_k_14 h, al_k_418 h, al_k_421 h, al_k_425 h]) bc_6 (by decide) (by decide) in_6 w_1_200 dX8_layOut_8 (mvE (f := 604) (v := 0) rfl rfl (by simp (disch := omega) only [q_I_s_J, q_I_s_P, q_I_s_A, q_I_s_B, q_I_s_C, q_I_n_A, q_I_r_A, q_I_r_B, y_I_s_I, x_I_s_I, y_I_n_O, x_I_n_O, al_i_1001 h, al_i_102 h, al_i_604 h, al_i_605 h, al_i_504 h, al_i_505 h, al_i_205 h, al_i_206 h, al_i_403 h, al_i_310 h])) ?_
  refine v_icmp_ge hX (tgt := 96) dX8_layOut_11 (by decide) (fun _ => ?_) (fun h => absurd h (by decide))
  refine v_aload_n hX dX8_layOut_96 (i := 0) rfl rfl ?_
  refine v_iload_n hX dX8_layOut_97 (i := 1) rfl rfl ?_
  refine v_iload_n hX dX8_layOut_98 (i := 2) rfl rfl ?_
  refine v_iadd hX dX8_layOut_99 ?_
  refine v_putI hX (ci := 6) (k := 5) (f := 605) (by simp (disch := omega) only [q_K_s_I, q_K_s_J, q_K_s_P, q_K_s_A, q_K_s_B, q_K_s_C, q_K_r_A, q_K_r_B, y_K_n_O, x_K_n_O, y_K_n_A, x_K_n_A, al_k_0 h, al_k_1 h, al_k_2 h, al_k_5 h, al_k_6 h, al_k_7 h, al_k_11 h, al_k_14 h, al_k_418 h, al_k_421 h, al_k_425 h]) bc_6 (by decide) (by decide) in_6 tyX8_ok nmX8 w_1_202 (Or.inl rfl) rfl rfl dX8_layOut_100 rfl rfl ?_
  exact v_return hX hE dX8_layOut_103 (by omega) (by omega) ⟨rfl, rfl, rfl⟩
set_option maxRecDepth 100000 in
set_option maxHeartbeats 4000000 in
theorem c_Prog_grow {kn : Nat → Nat} {B : Nat} {S : b_M} {z x : Nat} (h : alG S x) : b_C kn B yX8_grow cX8_grow 4 (some .boolean) 0 0 0 0 [.ref (x + 5)] S z (fun r S' z' => r = some (.int 0) ∧ z' = z ∧ S' = S) (fun _ _ _ => False) := by
  refine b_enter (by decide) (Nat.le_of_ble_eq_true rfl) ?_
  intro X hX hE hnL hkn hB hI
  subst hkn; subst hB
  refine v_iconst hX (v := 0) dX8_grow_0 (by decide) ?_
  refine v_istore_n hX (lv' := [(1, .int 0), (0, .ref (x + 5))]) dX8_grow_1 (i := 1) rfl (by rw [hnL]; decide) rfl ?_
  refine v_iconst hX (v := 0) dX8_grow_2 (by decide) ?_
  refine v_istore_n hX (lv' := [(2, .int 0), (1, .int 0), (0, .ref (x + 5))]) dX8_grow_3 (i := 2) rfl (by rw [hnL]; decide) rfl ?_
  refine v_iload_n hX dX8_grow_4 (i := 2) rfl rfl ?_
  refine v_aload_n hX dX8_grow_5 (i := 0) rfl rfl ?_
  refine v_get hX (ci := 6) (k := 4) (by simp (disch := omega) only [q_K_s_I, q_K_s_J, q_K_s_P, q_K_s_A, q_K_s_B, q_K_s_C, q_K_r_A, q_K_r_B, y_K_n_O, x_K_n_O, y_K_n_A, x_K_n_A, al_k_0 h, al_k_1 h, al_k_2 h, al_k_5 h, al_k_6 h, al_k_7 h, al_k_11 h, al_k_14 h, al_k_418 h, al_k_421 h, al_k_425 h]) bc_6 (by decide) (by decide) in_6 w_1_200 dX8_grow_6 (mvE (f := 604) (v := 0) rfl rfl (by simp (disch := omega) only [q_I_s_J, q_I_s_P, q_I_s_A, q_I_s_B, q_I_s_C, q_I_n_A, q_I_r_A, q_I_r_B, y_I_s_I, x_I_s_I, y_I_n_O, x_I_n_O, al_i_1001 h, al_i_102 h, al_i_604 h, al_i_605 h, al_i_504 h, al_i_505 h, al_i_205 h, al_i_206 h, al_i_403 h, al_i_310 h])) ?_
  refine v_icmp_ge hX (tgt := 57) dX8_grow_9 (by decide) (fun _ => ?_) (fun h => absurd h (by decide))
  refine v_iload_n hX dX8_grow_57 (i := 1) rfl rfl ?_
  exact v_zreturn hX rfl hE dX8_grow_58 (by omega) (by omega) ⟨rfl, rfl, rfl⟩
set_option maxRecDepth 100000 in
set_option maxHeartbeats 4000000 in
theorem c_Prog_lits {kn : Nat → Nat} {B : Nat} {S : b_M} {z x : Nat} (h : alG S x) : b_C kn B yX8_placeLiterals cX8_placeLiterals 4 none 0 0 0 0 [.ref (x + 5)] S z (fun r S' z' => r = none ∧ z' = z ∧ S' = S) (fun _ _ _ => False) := by
  refine b_enter (by decide) (Nat.le_of_ble_eq_true rfl) ?_
  intro X hX hE hnL hkn hB hI
  subst hkn; subst hB
  refine v_aload_n hX dX8_placeLiterals_0 (i := 0) rfl rfl ?_
  refine v_get hX (ci := 6) (k := 5) (by simp (disch := omega) only [q_K_s_I, q_K_s_J, q_K_s_P, q_K_s_A, q_K_s_B, q_K_s_C, q_K_r_A, q_K_r_B, y_K_n_O, x_K_n_O, y_K_n_A, x_K_n_A, al_k_0 h, al_k_1 h, al_k_2 h, al_k_5 h, al_k_6 h, al_k_7 h, al_k_11 h, al_k_14 h, al_k_418 h, al_k_421 h, al_k_425 h]) bc_6 (by decide) (by decide) in_6 w_1_202 dX8_placeLiterals_1 (mvE (f := 605) (v := 0) rfl rfl (by simp (disch := omega) only [q_I_s_J, q_I_s_P, q_I_s_A, q_I_s_B, q_I_s_C, q_I_n_A, q_I_r_A, q_I_r_B, y_I_s_I, x_I_s_I, y_I_n_O, x_I_n_O, al_i_1001 h, al_i_102 h, al_i_604 h, al_i_605 h, al_i_504 h, al_i_505 h, al_i_205 h, al_i_206 h, al_i_403 h, al_i_310 h])) ?_
  refine v_istore_n hX (lv' := [(1, .int 0), (0, .ref (x + 5))]) dX8_placeLiterals_4 (i := 1) rfl (by rw [hnL]; decide) rfl ?_
  refine v_aload_n hX dX8_placeLiterals_5 (i := 0) rfl rfl ?_
  refine v_get hX (ci := 6) (k := 4) (by simp (disch := omega) only [q_K_s_I, q_K_s_J, q_K_s_P, q_K_s_A, q_K_s_B, q_K_s_C, q_K_r_A, q_K_r_B, y_K_n_O, x_K_n_O, y_K_n_A, x_K_n_A, al_k_0 h, al_k_1 h, al_k_2 h, al_k_5 h, al_k_6 h, al_k_7 h, al_k_11 h, al_k_14 h, al_k_418 h, al_k_421 h, al_k_425 h]) bc_6 (by decide) (by decide) in_6 w_1_200 dX8_placeLiterals_6 (mvE (f := 604) (v := 0) rfl rfl (by simp (disch := omega) only [q_I_s_J, q_I_s_P, q_I_s_A, q_I_s_B, q_I_s_C, q_I_n_A, q_I_r_A, q_I_r_B, y_I_s_I, x_I_s_I, y_I_n_O, x_I_n_O, al_i_1001 h, al_i_102 h, al_i_604 h, al_i_605 h, al_i_504 h, al_i_505 h, al_i_205 h, al_i_206 h, al_i_403 h, al_i_310 h])) ?_
  refine v_iconst hX (v := 1) dX8_placeLiterals_9 (by decide) ?_
  refine v_isub hX dX8_placeLiterals_10 ?_
  refine v_istore_n hX (lv' := [(2, .int (0 - 1)), (1, .int 0), (0, .ref (x + 5))]) dX8_placeLiterals_11 (i := 2) rfl (by rw [hnL]; decide) rfl ?_
  refine v_iload_n hX dX8_placeLiterals_12 (i := 2) rfl rfl ?_
  refine v_if_lt hX (tgt := 70) dX8_placeLiterals_13 (by decide) (fun _ => ?_) (fun h => absurd h (by decide))
  exact v_return hX hE dX8_placeLiterals_70 (by omega) (by omega) ⟨rfl, rfl, rfl⟩
set_option maxRecDepth 100000 in
set_option maxHeartbeats 4000000 in
theorem c_Prog_check {kn : Nat → Nat} {B : Nat} {S : b_M} {z x : Nat} (h : alG S x) : b_C kn B yX8_check cX8_check 4 none 0 0 0 0 [.ref (x + 5)] S z (fun r S' z' => r = none ∧ z' = z ∧ S' = S) (fun _ _ _ => False) := by
  refine b_enter (by decide) (Nat.le_of_ble_eq_true rfl) ?_
  intro X hX hE hnL hkn hB hI
  subst hkn; subst hB
  refine v_iconst hX (v := 0) dX8_check_0 (by decide) ?_
  refine v_istore_n hX (lv' := [(1, .int 0), (0, .ref (x + 5))]) dX8_check_1 (i := 1) rfl (by rw [hnL]; decide) rfl ?_
  refine v_iload_n hX dX8_check_2 (i := 1) rfl rfl ?_
  refine v_aload_n hX dX8_check_3 (i := 0) rfl rfl ?_
  refine v_get hX (ci := 6) (k := 4) (by simp (disch := omega) only [q_K_s_I, q_K_s_J, q_K_s_P, q_K_s_A, q_K_s_B, q_K_s_C, q_K_r_A, q_K_r_B, y_K_n_O, x_K_n_O, y_K_n_A, x_K_n_A, al_k_0 h, al_k_1 h, al_k_2 h, al_k_5 h, al_k_6 h, al_k_7 h, al_k_11 h, al_k_14 h, al_k_418 h, al_k_421 h, al_k_425 h]) bc_6 (by decide) (by decide) in_6 w_1_200 dX8_check_4 (mvE (f := 604) (v := 0) rfl rfl (by simp (disch := omega) only [q_I_s_J, q_I_s_P, q_I_s_A, q_I_s_B, q_I_s_C, q_I_n_A, q_I_r_A, q_I_r_B, y_I_s_I, x_I_s_I, y_I_n_O, x_I_n_O, al_i_1001 h, al_i_102 h, al_i_604 h, al_i_605 h, al_i_504 h, al_i_505 h, al_i_205 h, al_i_206 h, al_i_403 h, al_i_310 h])) ?_
  refine v_icmp_ge hX (tgt := 106) dX8_check_7 (by decide) (fun _ => ?_) (fun h => absurd h (by decide))
  exact v_return hX hE dX8_check_106 (by omega) (by omega) ⟨rfl, rfl, rfl⟩
set_option maxRecDepth 100000 in
set_option maxHeartbeats 4000000 in
theorem c_Prog_longs {kn : Nat → Nat} {B : Nat} {S : b_M} {z x : Nat} (h : alG S x) : b_C kn B yX8_longOnes cX8_longOnes 3 (some .int) 0 0 0 0 [.ref (x + 5)] S z (fun r S' z' => r = some (.int 0) ∧ z' = z ∧ S' = S) (fun _ _ _ => False) := by
  refine b_enter (by decide) (Nat.le_of_ble_eq_true rfl) ?_
  intro X hX hE hnL hkn hB hI
  subst hkn; subst hB
  refine v_iconst hX (v := 0) dX8_longOnes_0 (by decide) ?_
  refine v_istore_n hX (lv' := [(1, .int 0), (0, .ref (x + 5))]) dX8_longOnes_1 (i := 1) rfl (by rw [hnL]; decide) rfl ?_
  refine v_iconst hX (v := 0) dX8_longOnes_2 (by decide) ?_
  refine v_istore_n hX (lv' := [(2, .int 0), (1, .int 0), (0, .ref (x + 5))]) dX8_longOnes_3 (i := 2) rfl (by rw [hnL]; decide) rfl ?_
  refine v_iload_n hX dX8_longOnes_4 (i := 2) rfl rfl ?_
  refine v_aload_n hX dX8_longOnes_5 (i := 0) rfl rfl ?_
  refine v_get hX (ci := 6) (k := 4) (by simp (disch := omega) only [q_K_s_I, q_K_s_J, q_K_s_P, q_K_s_A, q_K_s_B, q_K_s_C, q_K_r_A, q_K_r_B, y_K_n_O, x_K_n_O, y_K_n_A, x_K_n_A, al_k_0 h, al_k_1 h, al_k_2 h, al_k_5 h, al_k_6 h, al_k_7 h, al_k_11 h, al_k_14 h, al_k_418 h, al_k_421 h, al_k_425 h]) bc_6 (by decide) (by decide) in_6 w_1_200 dX8_longOnes_6 (mvE (f := 604) (v := 0) rfl rfl (by simp (disch := omega) only [q_I_s_J, q_I_s_P, q_I_s_A, q_I_s_B, q_I_s_C, q_I_n_A, q_I_r_A, q_I_r_B, y_I_s_I, x_I_s_I, y_I_n_O, x_I_n_O, al_i_1001 h, al_i_102 h, al_i_604 h, al_i_605 h, al_i_504 h, al_i_505 h, al_i_205 h, al_i_206 h, al_i_403 h, al_i_310 h])) ?_
  refine v_icmp_ge hX (tgt := 38) dX8_longOnes_9 (by decide) (fun _ => ?_) (fun h => absurd h (by decide))
  refine v_iload_n hX dX8_longOnes_38 (i := 1) rfl rfl ?_
  exact v_ireturn hX hE dX8_longOnes_39 (by omega) (by omega) ⟨rfl, rfl, rfl⟩
set_option maxRecDepth 100000 in
set_option maxHeartbeats 4000000 in
theorem c_Prog_two {kn : Nat → Nat} {B : Nat} {S : b_M} {z x : Nat} (h : alG S x) (i : m_I S 606 (x + 5) = 0) : b_C kn B yX8_runTurnTwo cX8_runTurnTwo 2 none 1 24 0 0 [.ref (x + 5)] S z (fun r S' z' => r = none ∧ z' = z ∧ alG S' x ∧ alE S S' x) (fun _ _ _ => False) := by
  refine b_enter (by decide) (Nat.le_of_ble_eq_true rfl) ?_
  intro X hX hE hnL hkn hB hI
  subst hkn; subst hB
  refine v_aload_n hX dX8_runTurnTwo_0 (i := 0) rfl rfl ?_
  refine v_get hX (ci := 6) (k := 2) (by simp (disch := omega) only [q_K_s_I, q_K_s_J, q_K_s_P, q_K_s_A, q_K_s_B, q_K_s_C, q_K_r_A, q_K_r_B, y_K_n_O, x_K_n_O, y_K_n_A, x_K_n_A, al_k_0 h, al_k_1 h, al_k_2 h, al_k_5 h, al_k_6 h, al_k_7 h, al_k_11 h, al_k_14 h, al_k_418 h, al_k_421 h, al_k_425 h]) bc_6 (by decide) (by decide) in_6 w_1_196 dX8_runTurnTwo_1 (mvP (f := 602) (q := (x + 11)) rfl rfl (by simp (disch := omega) only [q_P_s_I, q_P_s_J, q_P_s_A, q_P_s_B, q_P_s_C, q_P_n_A, q_P_r_A, q_P_r_B, y_P_s_P, x_P_s_P, y_P_n_O, x_P_n_O, al_p_1000 h, al_p_1002 h, al_p_1003 h, al_p_1004 h, al_p_600 h, al_p_601 h, al_p_602 h, al_p_500 h, al_p_203 h, al_p_905 h, al_p_906 h])) ?_
  refine v_callV hX (n := 0) (c_Expr_resolve h) (by simp (disch := omega) only [q_K_s_I, q_K_s_J, q_K_s_P, q_K_s_A, q_K_s_B, q_K_s_C, q_K_r_A, q_K_r_B, y_K_n_O, x_K_n_O, y_K_n_A, x_K_n_A, al_k_0 h, al_k_1 h, al_k_2 h, al_k_5 h, al_k_6 h, al_k_7 h, al_k_11 h, al_k_14 h, al_k_418 h, al_k_421 h, al_k_425 h]) bc_2 (by decide) w_5_39 w_5_40 w_5_41 w_1_6 w_5_42 (by decide +kernel) rfl ⟨by decide, by decide⟩ ⟨by omega, by omega⟩ (Nat.le_of_ble_eq_true rfl) rfl dX8_runTurnTwo_4 (fun _ _ _ h => h) ?_
  rintro r1 S1 z1 ⟨rfl, rfl, e1⟩
  have h1 : alG S1 x := by rw [e1]; exact h
  have g1 : alE S S1 x := by rw [e1]; exact alE.rf S x
  have j1 : m_I S1 606 (x + 5) = 0 := by rw [e1]; exact i
  clear e1
  refine v_iconst hX (v := 1) dX8_runTurnTwo_7 (by decide) ?_
  refine v_istore_n hX (lv' := [(1, .int 1), (0, .ref (x + 5))]) dX8_runTurnTwo_8 (i := 1) rfl (by rw [hnL]; decide) rfl ?_
  refine v_iload_n hX dX8_runTurnTwo_9 (i := 1) rfl rfl ?_
  refine v_if_eq hX (tgt := 45) dX8_runTurnTwo_10 (by decide) (fun h => absurd h (by decide)) (fun _ => ?_)
  refine v_aload_n hX dX8_runTurnTwo_13 (i := 0) rfl rfl ?_
  refine v_get hX (ci := 6) (k := 6) (by simp (disch := omega) only [q_K_s_I, q_K_s_J, q_K_s_P, q_K_s_A, q_K_s_B, q_K_s_C, q_K_r_A, q_K_r_B, y_K_n_O, x_K_n_O, y_K_n_A, x_K_n_A, al_k_0 h1, al_k_1 h1, al_k_2 h1, al_k_5 h1, al_k_6 h1, al_k_7 h1, al_k_11 h1, al_k_14 h1, al_k_418 h1, al_k_421 h1, al_k_425 h1, j1]) bc_6 (by decide) (by decide) in_6 w_1_204 dX8_runTurnTwo_14 (mvE (f := 606) (v := 0) rfl rfl (by simp (disch := omega) only [q_I_s_J, q_I_s_P, q_I_s_A, q_I_s_B, q_I_s_C, q_I_n_A, q_I_r_A, q_I_r_B, y_I_s_I, x_I_s_I, y_I_n_O, x_I_n_O, al_i_1001 h1, al_i_102 h1, al_i_604 h1, al_i_605 h1, al_i_504 h1, al_i_505 h1, al_i_205 h1, al_i_206 h1, al_i_403 h1, al_i_310 h1, j1])) ?_
  refine v_sipush hX (v := 401) dX8_runTurnTwo_17 (by decide) ?_
  refine v_icmp_ge hX (tgt := 45) dX8_runTurnTwo_20 (by decide) (fun h => absurd h (by decide)) (fun _ => ?_)
  refine v_aload_n hX dX8_runTurnTwo_23 (i := 0) rfl rfl ?_
  refine v_dup hX dX8_runTurnTwo_24 rfl ?_
  refine v_get hX (ci := 6) (k := 6) (by simp (disch := omega) only [q_K_s_I, q_K_s_J, q_K_s_P, q_K_s_A, q_K_s_B, q_K_s_C, q_K_r_A, q_K_r_B, y_K_n_O, x_K_n_O, y_K_n_A, x_K_n_A, al_k_0 h1, al_k_1 h1, al_k_2 h1, al_k_5 h1, al_k_6 h1, al_k_7 h1, al_k_11 h1, al_k_14 h1, al_k_418 h1, al_k_421 h1, al_k_425 h1, j1]) bc_6 (by decide) (by decide) in_6 w_1_204 dX8_runTurnTwo_25 (mvE (f := 606) (v := 0) rfl rfl (by simp (disch := omega) only [q_I_s_J, q_I_s_P, q_I_s_A, q_I_s_B, q_I_s_C, q_I_n_A, q_I_r_A, q_I_r_B, y_I_s_I, x_I_s_I, y_I_n_O, x_I_n_O, al_i_1001 h1, al_i_102 h1, al_i_604 h1, al_i_605 h1, al_i_504 h1, al_i_505 h1, al_i_205 h1, al_i_206 h1, al_i_403 h1, al_i_310 h1, j1])) ?_
  refine v_iconst hX (v := 1) dX8_runTurnTwo_28 (by decide) ?_
  refine v_iadd hX dX8_runTurnTwo_29 ?_
  refine v_putI hX (ci := 6) (k := 6) (f := 606) (by simp (disch := omega) only [q_K_s_I, q_K_s_J, q_K_s_P, q_K_s_A, q_K_s_B, q_K_s_C, q_K_r_A, q_K_r_B, y_K_n_O, x_K_n_O, y_K_n_A, x_K_n_A, al_k_0 h1, al_k_1 h1, al_k_2 h1, al_k_5 h1, al_k_6 h1, al_k_7 h1, al_k_11 h1, al_k_14 h1, al_k_418 h1, al_k_421 h1, al_k_425 h1, j1]) bc_6 (by decide) (by decide) in_6 tyX8_ok nmX8 w_1_204 (Or.inl rfl) rfl rfl dX8_runTurnTwo_30 rfl rfl ?_
  refine v_aload_n hX dX8_runTurnTwo_33 (i := 0) rfl rfl ?_
  refine v_callV hX (n := 0) (c_Prog_layOut h1.sr) (by simp (disch := omega) only [q_K_s_I, q_K_s_J, q_K_s_P, q_K_s_A, q_K_s_B, q_K_s_C, q_K_r_A, q_K_r_B, y_K_n_O, x_K_n_O, y_K_n_A, x_K_n_A, al_k_0 h1, al_k_1 h1, al_k_2 h1, al_k_5 h1, al_k_6 h1, al_k_7 h1, al_k_11 h1, al_k_14 h1, al_k_418 h1, al_k_421 h1, al_k_425 h1, j1]) bc_6 (by decide) w_5_46 w_5_48 (bw_p (q := (yX8_layOut, 7)) (List.mem_of_getElem? (i := 29) rfl) rfl) w_1_3 w_5_49 (by decide +kernel) rfl ⟨by decide, by decide⟩ ⟨by omega, by omega⟩ (Nat.le_of_ble_eq_true rfl) rfl dX8_runTurnTwo_34 (fun _ _ _ h => h) ?_
  rintro r2 S2 z2 ⟨rfl, rfl, e2⟩
  have h2 : alG S2 x := by rw [e2]; exact h1.sr.s0
  have g2 : alE S S2 x := by rw [e2]; exact (g1.sI (by omega)).sI (by omega)
  clear e2
  refine v_aload_n hX dX8_runTurnTwo_37 (i := 0) rfl rfl ?_
  refine v_callV hX (n := 0) (c_Prog_grow h2) (by simp (disch := omega) only [q_K_s_I, q_K_s_J, q_K_s_P, q_K_s_A, q_K_s_B, q_K_s_C, q_K_r_A, q_K_r_B, y_K_n_O, x_K_n_O, y_K_n_A, x_K_n_A, al_k_0 h2, al_k_1 h2, al_k_2 h2, al_k_5 h2, al_k_6 h2, al_k_7 h2, al_k_11 h2, al_k_14 h2, al_k_418 h2, al_k_421 h2, al_k_425 h2]) bc_6 (by decide) w_5_63 w_5_65 (bw_p (q := (yX8_grow, 7)) (List.mem_of_getElem? (i := 30) rfl) rfl) w_1_3 w_5_66 (by decide +kernel) rfl ⟨by decide, by decide⟩ ⟨by omega, by omega⟩ (Nat.le_of_ble_eq_true rfl) rfl dX8_runTurnTwo_38 (fun _ _ _ h => h) ?_
  rintro r3 S3 z3 ⟨rfl, rfl, e3⟩
  have h3 : alG S3 x := by rw [e3]; exact h2
  have g3 : alE S S3 x := by rw [e3]; exact g2
  clear e3
  refine v_istore_n hX (lv' := [(1, .int 0), (0, .ref (x + 5))]) dX8_runTurnTwo_41 (i := 1) rfl (by rw [hnL]; decide) rfl ?_
  refine v_goto hX (tgt := 9) dX8_runTurnTwo_42 (by decide) ?_
  refine v_iload_n hX dX8_runTurnTwo_9 (i := 1) rfl rfl ?_
  refine v_if_eq hX (tgt := 45) dX8_runTurnTwo_10 (by decide) (fun _ => ?_) (fun h => absurd h (by decide))
  refine v_aload_n hX dX8_runTurnTwo_45 (i := 0) rfl rfl ?_
  refine v_get hX (ci := 6) (k := 5) (by simp (disch := omega) only [q_K_s_I, q_K_s_J, q_K_s_P, q_K_s_A, q_K_s_B, q_K_s_C, q_K_r_A, q_K_r_B, y_K_n_O, x_K_n_O, y_K_n_A, x_K_n_A, al_k_0 h3, al_k_1 h3, al_k_2 h3, al_k_5 h3, al_k_6 h3, al_k_7 h3, al_k_11 h3, al_k_14 h3, al_k_418 h3, al_k_421 h3, al_k_425 h3]) bc_6 (by decide) (by decide) in_6 w_1_202 dX8_runTurnTwo_46 (mvE (f := 605) (v := 0) rfl rfl (by simp (disch := omega) only [q_I_s_J, q_I_s_P, q_I_s_A, q_I_s_B, q_I_s_C, q_I_n_A, q_I_r_A, q_I_r_B, y_I_s_I, x_I_s_I, y_I_n_O, x_I_n_O, al_i_1001 h3, al_i_102 h3, al_i_604 h3, al_i_605 h3, al_i_504 h3, al_i_505 h3, al_i_205 h3, al_i_206 h3, al_i_403 h3, al_i_310 h3])) ?_
  refine v_ldc hX (v := 65535) dX8_runTurnTwo_49 w_5_89 ?_
  refine v_icmp_le hX (tgt := 64) dX8_runTurnTwo_51 (by decide) (fun _ => ?_) (fun h => absurd h (by decide))
  refine v_aload_n hX dX8_runTurnTwo_64 (i := 0) rfl rfl ?_
  refine v_callV hX (n := 0) (c_Prog_lits h3) (by simp (disch := omega) only [q_K_s_I, q_K_s_J, q_K_s_P, q_K_s_A, q_K_s_B, q_K_s_C, q_K_r_A, q_K_r_B, y_K_n_O, x_K_n_O, y_K_n_A, x_K_n_A, al_k_0 h3, al_k_1 h3, al_k_2 h3, al_k_5 h3, al_k_6 h3, al_k_7 h3, al_k_11 h3, al_k_14 h3, al_k_418 h3, al_k_421 h3, al_k_425 h3]) bc_6 (by decide) w_5_91 w_5_93 (bw_p (q := (yX8_placeLiterals, 7)) (List.mem_of_getElem? (i := 35) rfl) rfl) w_1_3 w_5_94 (by decide +kernel) rfl ⟨by decide, by decide⟩ ⟨by omega, by omega⟩ (Nat.le_of_ble_eq_true rfl) rfl dX8_runTurnTwo_65 (fun _ _ _ h => h) ?_
  rintro r4 S4 z4 ⟨rfl, rfl, e4⟩
  have h4 : alG S4 x := by rw [e4]; exact h3
  have g4 : alE S S4 x := by rw [e4]; exact g3
  clear e4
  refine v_aload_n hX dX8_runTurnTwo_68 (i := 0) rfl rfl ?_
  refine v_callV hX (n := 0) (c_Prog_check h4) (by simp (disch := omega) only [q_K_s_I, q_K_s_J, q_K_s_P, q_K_s_A, q_K_s_B, q_K_s_C, q_K_r_A, q_K_r_B, y_K_n_O, x_K_n_O, y_K_n_A, x_K_n_A, al_k_0 h4, al_k_1 h4, al_k_2 h4, al_k_5 h4, al_k_6 h4, al_k_7 h4, al_k_11 h4, al_k_14 h4, al_k_418 h4, al_k_421 h4, al_k_425 h4]) bc_6 (by decide) w_5_95 w_5_97 (bw_p (q := (yX8_check, 7)) (List.mem_of_getElem? (i := 36) rfl) rfl) w_1_3 w_5_98 (by decide +kernel) rfl ⟨by decide, by decide⟩ ⟨by omega, by omega⟩ (Nat.le_of_ble_eq_true rfl) rfl dX8_runTurnTwo_69 (fun _ _ _ h => h) ?_
  rintro r5 S5 z5 ⟨rfl, rfl, e5⟩
  have h5 : alG S5 x := by rw [e5]; exact h4
  have g5 : alE S S5 x := by rw [e5]; exact g4
  clear e5
  exact v_return hX hE dX8_runTurnTwo_72 (by omega) (by omega) ⟨rfl, rfl, h5, g5⟩
set_option maxRecDepth 100000 in
set_option maxHeartbeats 4000000 in
theorem c_AL_assemble0 {kn : Nat → Nat} {B : Nat} {S : b_M} {z x : Nat} (h : alG S x) : b_C kn B yX12_assemble cX12_assemble 1 (some .int) 4 83 0 0 [.ref x] S z (fun r S' z' => r = some (.int 0) ∧ z' = z ∧ alE S S' x) (fun _ _ _ => False) := by
  refine b_enter (by decide) (Nat.le_of_ble_eq_true rfl) ?_
  intro X hX hE hnL hkn hB hI
  subst hkn; subst hB
  refine v_aload_n hX dX12_assemble_0 (i := 0) rfl rfl ?_
  refine v_callV hX (n := 0) (c_AL_forgetP h) (by simp (disch := omega) only [q_K_s_I, q_K_s_J, q_K_s_P, q_K_s_A, q_K_s_B, q_K_s_C, q_K_r_A, q_K_r_B, y_K_n_O, x_K_n_O, y_K_n_A, x_K_n_A, al_k_0 h, al_k_1 h, al_k_2 h, al_k_5 h, al_k_6 h, al_k_7 h, al_k_11 h, al_k_14 h, al_k_418 h, al_k_421 h, al_k_425 h]) bc_10 (by decide) w_3_70 w_3_72 (bw_p (q := (yX12_forgetProgram, 5)) (List.mem_of_getElem? (i := 2) rfl) rfl) w_1_1 w_3_73 (by decide +kernel) rfl ⟨by decide, by decide⟩ ⟨by omega, by omega⟩ (Nat.le_of_ble_eq_true rfl) rfl dX12_assemble_1 (fun _ _ _ h => h) ?_
  rintro r1 S1 z1 ⟨rfl, rfl, h1, g1, i1⟩
  refine v_aload_n hX dX12_assemble_4 (i := 0) rfl rfl ?_
  refine v_get hX (ci := 10) (k := 2) (by simp (disch := omega) only [q_K_s_I, q_K_s_J, q_K_s_P, q_K_s_A, q_K_s_B, q_K_s_C, q_K_r_A, q_K_r_B, y_K_n_O, x_K_n_O, y_K_n_A, x_K_n_A, al_k_0 h1, al_k_1 h1, al_k_2 h1, al_k_5 h1, al_k_6 h1, al_k_7 h1, al_k_11 h1, al_k_14 h1, al_k_418 h1, al_k_421 h1, al_k_425 h1]) bc_10 (by decide) (by decide) in_10 w_2_177 dX12_assemble_5 (mvP (f := 1002) (q := (x + 2)) rfl rfl (by simp (disch := omega) only [q_P_s_I, q_P_s_J, q_P_s_A, q_P_s_B, q_P_s_C, q_P_n_A, q_P_r_A, q_P_r_B, y_P_s_P, x_P_s_P, y_P_n_O, x_P_n_O, al_p_1000 h1, al_p_1002 h1, al_p_1003 h1, al_p_1004 h1, al_p_600 h1, al_p_601 h1, al_p_602 h1, al_p_500 h1, al_p_203 h1, al_p_905 h1, al_p_906 h1])) ?_
  refine v_callV hX (n := 0) (c_Err_forget (x := x + 2) (al_k_2 h1)) (by simp (disch := omega) only [q_K_s_I, q_K_s_J, q_K_s_P, q_K_s_A, q_K_s_B, q_K_s_C, q_K_r_A, q_K_r_B, y_K_n_O, x_K_n_O, y_K_n_A, x_K_n_A, al_k_0 h1, al_k_1 h1, al_k_2 h1, al_k_5 h1, al_k_6 h1, al_k_7 h1, al_k_11 h1, al_k_14 h1, al_k_418 h1, al_k_421 h1, al_k_425 h1]) bc_1 (by decide) w_3_95 w_3_96 w_3_97 w_1_2 w_3_98 (by decide +kernel) rfl ⟨by decide, by decide⟩ ⟨by omega, by omega⟩ (Nat.le_of_ble_eq_true rfl) rfl dX12_assemble_8 (fun _ _ _ h => h) ?_
  rintro r2 S2 z2 ⟨rfl, rfl, e2⟩
  have h2 : alG S2 x := by rw [e2]; exact h1.s0
  have g2 : alE S S2 x := by rw [e2]; exact g1.sI (by omega)
  have i2 : m_I S2 606 (x + 5) = 0 := by rw [e2]; exact (by simp (disch := omega) only [q_I_s_J, q_I_s_P, q_I_s_A, q_I_s_B, q_I_s_C, q_I_n_A, q_I_r_A, q_I_r_B, y_I_s_I, x_I_s_I, y_I_n_O, x_I_n_O, i1])
  clear e2
  refine v_aload_n hX dX12_assemble_11 (i := 0) rfl rfl ?_
  refine v_get hX (ci := 10) (k := 4) (by simp (disch := omega) only [q_K_s_I, q_K_s_J, q_K_s_P, q_K_s_A, q_K_s_B, q_K_s_C, q_K_r_A, q_K_r_B, y_K_n_O, x_K_n_O, y_K_n_A, x_K_n_A, al_k_0 h2, al_k_1 h2, al_k_2 h2, al_k_5 h2, al_k_6 h2, al_k_7 h2, al_k_11 h2, al_k_14 h2, al_k_418 h2, al_k_421 h2, al_k_425 h2]) bc_10 (by decide) (by decide) in_10 w_2_179 dX12_assemble_12 (mvP (f := 1004) (q := (x + 418)) rfl rfl (by simp (disch := omega) only [q_P_s_I, q_P_s_J, q_P_s_A, q_P_s_B, q_P_s_C, q_P_n_A, q_P_r_A, q_P_r_B, y_P_s_P, x_P_s_P, y_P_n_O, x_P_n_O, al_p_1000 h2, al_p_1002 h2, al_p_1003 h2, al_p_1004 h2, al_p_600 h2, al_p_601 h2, al_p_602 h2, al_p_500 h2, al_p_203 h2, al_p_905 h2, al_p_906 h2])) ?_
  refine v_aload_n hX dX12_assemble_15 (i := 0) rfl rfl ?_
  refine v_get hX (ci := 10) (k := 0) (by simp (disch := omega) only [q_K_s_I, q_K_s_J, q_K_s_P, q_K_s_A, q_K_s_B, q_K_s_C, q_K_r_A, q_K_r_B, y_K_n_O, x_K_n_O, y_K_n_A, x_K_n_A, al_k_0 h2, al_k_1 h2, al_k_2 h2, al_k_5 h2, al_k_6 h2, al_k_7 h2, al_k_11 h2, al_k_14 h2, al_k_418 h2, al_k_421 h2, al_k_425 h2]) bc_10 (by decide) (by decide) in_10 w_2_175 dX12_assemble_16 (mvP (f := 1000) (q := (x + 1)) rfl rfl (by simp (disch := omega) only [q_P_s_I, q_P_s_J, q_P_s_A, q_P_s_B, q_P_s_C, q_P_n_A, q_P_r_A, q_P_r_B, y_P_s_P, x_P_s_P, y_P_n_O, x_P_n_O, al_p_1000 h2, al_p_1002 h2, al_p_1003 h2, al_p_1004 h2, al_p_600 h2, al_p_601 h2, al_p_602 h2, al_p_500 h2, al_p_203 h2, al_p_905 h2, al_p_906 h2])) ?_
  refine v_aload_n hX dX12_assemble_19 (i := 0) rfl rfl ?_
  refine v_get hX (ci := 10) (k := 1) (by simp (disch := omega) only [q_K_s_I, q_K_s_J, q_K_s_P, q_K_s_A, q_K_s_B, q_K_s_C, q_K_r_A, q_K_r_B, y_K_n_O, x_K_n_O, y_K_n_A, x_K_n_A, al_k_0 h2, al_k_1 h2, al_k_2 h2, al_k_5 h2, al_k_6 h2, al_k_7 h2, al_k_11 h2, al_k_14 h2, al_k_418 h2, al_k_421 h2, al_k_425 h2]) bc_10 (by decide) (by decide) in_10 w_2_176 dX12_assemble_20 (mvE (f := 1001) (v := 0) rfl rfl (by simp (disch := omega) only [q_I_s_J, q_I_s_P, q_I_s_A, q_I_s_B, q_I_s_C, q_I_n_A, q_I_r_A, q_I_r_B, y_I_s_I, x_I_s_I, y_I_n_O, x_I_n_O, al_i_1001 h2, al_i_102 h2, al_i_604 h2, al_i_605 h2, al_i_504 h2, al_i_505 h2, al_i_205 h2, al_i_206 h2, al_i_403 h2, al_i_310 h2])) ?_
  refine v_callV hX (n := 2) (c_T1_run h2) (by simp (disch := omega) only [q_K_s_I, q_K_s_J, q_K_s_P, q_K_s_A, q_K_s_B, q_K_s_C, q_K_r_A, q_K_r_B, y_K_n_O, x_K_n_O, y_K_n_A, x_K_n_A, al_k_0 h2, al_k_1 h2, al_k_2 h2, al_k_5 h2, al_k_6 h2, al_k_7 h2, al_k_11 h2, al_k_14 h2, al_k_418 h2, al_k_421 h2, al_k_425 h2]) bc_9 (by decide) w_3_99 w_3_100 w_3_101 w_1_10 w_3_102 (by decide +kernel) rfl ⟨by decide, by decide⟩ ⟨by omega, by omega⟩ (Nat.le_of_ble_eq_true rfl) rfl dX12_assemble_23 (fun _ _ _ h => h) ?_
  rintro r3 S3 z3 ⟨rfl, rfl, h3, g3, b3⟩
  have i3 : m_I S3 606 (x + 5) = 0 := (b3.2.1 _).trans i2
  refine v_aload_n hX dX12_assemble_26 (i := 0) rfl rfl ?_
  refine v_iconst hX (v := 0) dX12_assemble_27 (by decide) ?_
  refine v_putI hX (ci := 10) (k := 1) (f := 1001) (by simp (disch := omega) only [q_K_s_I, q_K_s_J, q_K_s_P, q_K_s_A, q_K_s_B, q_K_s_C, q_K_r_A, q_K_r_B, y_K_n_O, x_K_n_O, y_K_n_A, x_K_n_A, al_k_0 h3, al_k_1 h3, al_k_2 h3, al_k_5 h3, al_k_6 h3, al_k_7 h3, al_k_11 h3, al_k_14 h3, al_k_418 h3, al_k_421 h3, al_k_425 h3, i3]) bc_10 (by decide) (by decide) in_10 tyX12_ok nmX12 w_2_176 (Or.inl rfl) rfl rfl dX12_assemble_28 rfl rfl ?_
  refine v_aload_n hX dX12_assemble_31 (i := 0) rfl rfl ?_
  refine v_get hX (ci := 10) (k := 2) (by simp (disch := omega) only [q_K_s_I, q_K_s_J, q_K_s_P, q_K_s_A, q_K_s_B, q_K_s_C, q_K_r_A, q_K_r_B, y_K_n_O, x_K_n_O, y_K_n_A, x_K_n_A, al_k_0 h3, al_k_1 h3, al_k_2 h3, al_k_5 h3, al_k_6 h3, al_k_7 h3, al_k_11 h3, al_k_14 h3, al_k_418 h3, al_k_421 h3, al_k_425 h3, i3]) bc_10 (by decide) (by decide) in_10 w_2_177 dX12_assemble_32 (mvP (f := 1002) (q := (x + 2)) rfl rfl (by simp (disch := omega) only [q_P_s_I, q_P_s_J, q_P_s_A, q_P_s_B, q_P_s_C, q_P_n_A, q_P_r_A, q_P_r_B, y_P_s_P, x_P_s_P, y_P_n_O, x_P_n_O, al_p_1000 h3, al_p_1002 h3, al_p_1003 h3, al_p_1004 h3, al_p_600 h3, al_p_601 h3, al_p_602 h3, al_p_500 h3, al_p_203 h3, al_p_905 h3, al_p_906 h3, i3])) ?_
  refine v_get hX (ci := 1) (k := 2) (by simp (disch := omega) only [q_K_s_I, q_K_s_J, q_K_s_P, q_K_s_A, q_K_s_B, q_K_s_C, q_K_r_A, q_K_r_B, y_K_n_O, x_K_n_O, y_K_n_A, x_K_n_A, al_k_0 h3, al_k_1 h3, al_k_2 h3, al_k_5 h3, al_k_6 h3, al_k_7 h3, al_k_11 h3, al_k_14 h3, al_k_418 h3, al_k_421 h3, al_k_425 h3, i3]) bc_1 (by decide) (by decide) in_1 w_1_48 dX12_assemble_35 (mvE (f := 102) (v := 0) rfl rfl (by simp (disch := omega) only [q_I_s_J, q_I_s_P, q_I_s_A, q_I_s_B, q_I_s_C, q_I_n_A, q_I_r_A, q_I_r_B, y_I_s_I, x_I_s_I, y_I_n_O, x_I_n_O, al_i_1001 h3, al_i_102 h3, al_i_604 h3, al_i_605 h3, al_i_504 h3, al_i_505 h3, al_i_205 h3, al_i_206 h3, al_i_403 h3, al_i_310 h3, i3])) ?_
  refine v_if_ne hX (tgt := 48) dX12_assemble_38 (by decide) (fun h => absurd h (by decide)) (fun _ => ?_)
  refine v_aload_n hX dX12_assemble_41 (i := 0) rfl rfl ?_
  refine v_get hX (ci := 10) (k := 3) (by simp (disch := omega) only [q_K_s_I, q_K_s_J, q_K_s_P, q_K_s_A, q_K_s_B, q_K_s_C, q_K_r_A, q_K_r_B, y_K_n_O, x_K_n_O, y_K_n_A, x_K_n_A, al_k_0 h3, al_k_1 h3, al_k_2 h3, al_k_5 h3, al_k_6 h3, al_k_7 h3, al_k_11 h3, al_k_14 h3, al_k_418 h3, al_k_421 h3, al_k_425 h3, i3]) bc_10 (by decide) (by decide) in_10 w_2_178 dX12_assemble_42 (mvP (f := 1003) (q := (x + 5)) rfl rfl (by simp (disch := omega) only [q_P_s_I, q_P_s_J, q_P_s_A, q_P_s_B, q_P_s_C, q_P_n_A, q_P_r_A, q_P_r_B, y_P_s_P, x_P_s_P, y_P_n_O, x_P_n_O, al_p_1000 h3, al_p_1002 h3, al_p_1003 h3, al_p_1004 h3, al_p_600 h3, al_p_601 h3, al_p_602 h3, al_p_500 h3, al_p_203 h3, al_p_905 h3, al_p_906 h3, i3])) ?_
  refine v_callV hX (n := 0) (c_Prog_two h3.s0 (by simp (disch := omega) only [q_I_s_J, q_I_s_P, q_I_s_A, q_I_s_B, q_I_s_C, q_I_n_A, q_I_r_A, q_I_r_B, y_I_s_I, x_I_s_I, y_I_n_O, x_I_n_O, i3])) (by simp (disch := omega) only [q_K_s_I, q_K_s_J, q_K_s_P, q_K_s_A, q_K_s_B, q_K_s_C, q_K_r_A, q_K_r_B, y_K_n_O, x_K_n_O, y_K_n_A, x_K_n_A, al_k_0 h3, al_k_1 h3, al_k_2 h3, al_k_5 h3, al_k_6 h3, al_k_7 h3, al_k_11 h3, al_k_14 h3, al_k_418 h3, al_k_421 h3, al_k_425 h3, i3]) bc_6 (by decide) w_5_35 w_5_36 w_5_37 w_1_3 w_5_38 (by decide +kernel) rfl ⟨by decide, by decide⟩ ⟨by omega, by omega⟩ (Nat.le_of_ble_eq_true rfl) rfl dX12_assemble_45 (fun _ _ _ h => h) ?_
  rintro r4 S4 z4 ⟨rfl, rfl, h4, g4⟩
  have g5 : alE S S4 x := ((g2.tr g3).sI (by omega)).tr g4
  refine v_aload_n hX dX12_assemble_48 (i := 0) rfl rfl ?_
  refine v_get hX (ci := 10) (k := 2) (by simp (disch := omega) only [q_K_s_I, q_K_s_J, q_K_s_P, q_K_s_A, q_K_s_B, q_K_s_C, q_K_r_A, q_K_r_B, y_K_n_O, x_K_n_O, y_K_n_A, x_K_n_A, al_k_0 h4, al_k_1 h4, al_k_2 h4, al_k_5 h4, al_k_6 h4, al_k_7 h4, al_k_11 h4, al_k_14 h4, al_k_418 h4, al_k_421 h4, al_k_425 h4]) bc_10 (by decide) (by decide) in_10 w_2_177 dX12_assemble_49 (mvP (f := 1002) (q := (x + 2)) rfl rfl (by simp (disch := omega) only [q_P_s_I, q_P_s_J, q_P_s_A, q_P_s_B, q_P_s_C, q_P_n_A, q_P_r_A, q_P_r_B, y_P_s_P, x_P_s_P, y_P_n_O, x_P_n_O, al_p_1000 h4, al_p_1002 h4, al_p_1003 h4, al_p_1004 h4, al_p_600 h4, al_p_601 h4, al_p_602 h4, al_p_500 h4, al_p_203 h4, al_p_905 h4, al_p_906 h4])) ?_
  refine v_get hX (ci := 1) (k := 2) (by simp (disch := omega) only [q_K_s_I, q_K_s_J, q_K_s_P, q_K_s_A, q_K_s_B, q_K_s_C, q_K_r_A, q_K_r_B, y_K_n_O, x_K_n_O, y_K_n_A, x_K_n_A, al_k_0 h4, al_k_1 h4, al_k_2 h4, al_k_5 h4, al_k_6 h4, al_k_7 h4, al_k_11 h4, al_k_14 h4, al_k_418 h4, al_k_421 h4, al_k_425 h4]) bc_1 (by decide) (by decide) in_1 w_1_48 dX12_assemble_52 (mvE (f := 102) (v := 0) rfl rfl (by simp (disch := omega) only [q_I_s_J, q_I_s_P, q_I_s_A, q_I_s_B, q_I_s_C, q_I_n_A, q_I_r_A, q_I_r_B, y_I_s_I, x_I_s_I, y_I_n_O, x_I_n_O, al_i_1001 h4, al_i_102 h4, al_i_604 h4, al_i_605 h4, al_i_504 h4, al_i_505 h4, al_i_205 h4, al_i_206 h4, al_i_403 h4, al_i_310 h4])) ?_
  refine v_if_le hX (tgt := 72) dX12_assemble_55 (by decide) (fun _ => ?_) (fun h => absurd h (by decide))
  refine v_aload_n hX dX12_assemble_72 (i := 0) rfl rfl ?_
  refine v_get hX (ci := 10) (k := 3) (by simp (disch := omega) only [q_K_s_I, q_K_s_J, q_K_s_P, q_K_s_A, q_K_s_B, q_K_s_C, q_K_r_A, q_K_r_B, y_K_n_O, x_K_n_O, y_K_n_A, x_K_n_A, al_k_0 h4, al_k_1 h4, al_k_2 h4, al_k_5 h4, al_k_6 h4, al_k_7 h4, al_k_11 h4, al_k_14 h4, al_k_418 h4, al_k_421 h4, al_k_425 h4]) bc_10 (by decide) (by decide) in_10 w_2_178 dX12_assemble_73 (mvP (f := 1003) (q := (x + 5)) rfl rfl (by simp (disch := omega) only [q_P_s_I, q_P_s_J, q_P_s_A, q_P_s_B, q_P_s_C, q_P_n_A, q_P_r_A, q_P_r_B, y_P_s_P, x_P_s_P, y_P_n_O, x_P_n_O, al_p_1000 h4, al_p_1002 h4, al_p_1003 h4, al_p_1004 h4, al_p_600 h4, al_p_601 h4, al_p_602 h4, al_p_500 h4, al_p_203 h4, al_p_905 h4, al_p_906 h4])) ?_
  refine v_get hX (ci := 6) (k := 5) (by simp (disch := omega) only [q_K_s_I, q_K_s_J, q_K_s_P, q_K_s_A, q_K_s_B, q_K_s_C, q_K_r_A, q_K_r_B, y_K_n_O, x_K_n_O, y_K_n_A, x_K_n_A, al_k_0 h4, al_k_1 h4, al_k_2 h4, al_k_5 h4, al_k_6 h4, al_k_7 h4, al_k_11 h4, al_k_14 h4, al_k_418 h4, al_k_421 h4, al_k_425 h4]) bc_6 (by decide) (by decide) in_6 w_1_203 dX12_assemble_76 (mvE (f := 605) (v := 0) rfl rfl (by simp (disch := omega) only [q_I_s_J, q_I_s_P, q_I_s_A, q_I_s_B, q_I_s_C, q_I_n_A, q_I_r_A, q_I_r_B, y_I_s_I, x_I_s_I, y_I_n_O, x_I_n_O, al_i_1001 h4, al_i_102 h4, al_i_604 h4, al_i_605 h4, al_i_504 h4, al_i_505 h4, al_i_205 h4, al_i_206 h4, al_i_403 h4, al_i_310 h4])) ?_
  exact v_ireturn hX hE dX12_assemble_79 (by omega) (by omega) ⟨rfl, rfl, g5⟩
set_option maxRecDepth 100000 in
set_option maxHeartbeats 4000000 in
theorem c_AL_error0 {kn : Nat → Nat} {B : Nat} {S : b_M} {z x : Nat} {k v : Int32} (h : alG S x) : b_C kn B yX12_error cX12_error 3 (some .int) 6 82 1 6 [.ref x, .int k, .int v] S z (fun r S' z' => False) (fun E S' z' => z ≤ z' ∧ S' = S ∧ E = "java/lang/IndexOutOfBoundsException") := by
  refine b_enter (by decide) (Nat.le_of_ble_eq_true rfl) ?_
  intro X hX hE hnL hkn hB hI
  subst hkn; subst hB
  change b_V X S z 0 0 0 [(0, .ref x), (1, .int k), (2, .int v)] []
  refine v_iload_n hX dX12_error_0 (i := 1) rfl rfl ?_
  refine v_if_lt hX (tgt := 24) dX12_error_1 (by decide) (fun h1 => ?_) (fun h1 => ?_)
  · exact v_throw hX hE (cls := "java/lang/IndexOutOfBoundsException") (text := "no such error, or no such what") (ik := 81) (is := 83) (ic := 85) (by decide +kernel) w_5_118 w_1_28 (List.mem_of_getElem? (i := 4) rfl) (List.mem_of_getElem? (i := 2) rfl) ha_85 hb_85 hg_85_81 dX12_error_24 dX12_error_27 dX12_error_28 dX12_error_30 dX12_error_33 (by decide) (Nat.le_of_ble_eq_true rfl) (by omega) (by omega) (fun z' hz => ⟨hz, rfl, rfl⟩)
  · 
    refine v_iload_n hX dX12_error_4 (i := 1) rfl rfl ?_
    refine v_aload_n hX dX12_error_5 (i := 0) rfl rfl ?_
    refine v_get hX (ci := 10) (k := 2) (by simp (disch := omega) only [q_K_s_I, q_K_s_J, q_K_s_P, q_K_s_A, q_K_s_B, q_K_s_C, q_K_r_A, q_K_r_B, y_K_n_O, x_K_n_O, y_K_n_A, x_K_n_A, al_k_0 h, al_k_1 h, al_k_2 h, al_k_5 h, al_k_6 h, al_k_7 h, al_k_11 h, al_k_14 h, al_k_418 h, al_k_421 h, al_k_425 h]) bc_10 (by decide) (by decide) in_10 w_2_177 dX12_error_6 (mvP (f := 1002) (q := (x + 2)) rfl rfl (by simp (disch := omega) only [q_P_s_I, q_P_s_J, q_P_s_A, q_P_s_B, q_P_s_C, q_P_n_A, q_P_r_A, q_P_r_B, y_P_s_P, x_P_s_P, y_P_n_O, x_P_n_O, al_p_1000 h, al_p_1002 h, al_p_1003 h, al_p_1004 h, al_p_600 h, al_p_601 h, al_p_602 h, al_p_500 h, al_p_203 h, al_p_905 h, al_p_906 h])) ?_
    refine v_get hX (ci := 1) (k := 2) (by simp (disch := omega) only [q_K_s_I, q_K_s_J, q_K_s_P, q_K_s_A, q_K_s_B, q_K_s_C, q_K_r_A, q_K_r_B, y_K_n_O, x_K_n_O, y_K_n_A, x_K_n_A, al_k_0 h, al_k_1 h, al_k_2 h, al_k_5 h, al_k_6 h, al_k_7 h, al_k_11 h, al_k_14 h, al_k_418 h, al_k_421 h, al_k_425 h]) bc_1 (by decide) (by decide) in_1 w_1_48 dX12_error_9 (mvE (f := 102) (v := 0) rfl rfl (by simp (disch := omega) only [q_I_s_J, q_I_s_P, q_I_s_A, q_I_s_B, q_I_s_C, q_I_n_A, q_I_r_A, q_I_r_B, y_I_s_I, x_I_s_I, y_I_n_O, x_I_n_O, al_i_1001 h, al_i_102 h, al_i_604 h, al_i_605 h, al_i_504 h, al_i_505 h, al_i_205 h, al_i_206 h, al_i_403 h, al_i_310 h])) ?_
    refine v_icmp_ge hX (tgt := 24) dX12_error_12 (by decide) (fun _ => ?_) (fun h2 => absurd (Int32.not_lt.mp h1) h2)
    exact v_throw hX hE (cls := "java/lang/IndexOutOfBoundsException") (text := "no such error, or no such what") (ik := 81) (is := 83) (ic := 85) (by decide +kernel) w_5_118 w_1_28 (List.mem_of_getElem? (i := 4) rfl) (List.mem_of_getElem? (i := 2) rfl) ha_85 hb_85 hg_85_81 dX12_error_24 dX12_error_27 dX12_error_28 dX12_error_30 dX12_error_33 (by decide) (Nat.le_of_ble_eq_true rfl) (by omega) (by omega) (fun z' hz => ⟨hz, rfl, rfl⟩)
set_option maxRecDepth 100000 in
set_option maxHeartbeats 4000000 in
theorem c_AL_word0 {kn : Nat → Nat} {B : Nat} {S : b_M} {z x : Nat} {k : Int32} (h : alG S x) : b_C kn B yX12_word cX12_word 2 (some .int) 6 82 1 6 [.ref x, .int k] S z (fun r S' z' => False) (fun E S' z' => z ≤ z' ∧ S' = S ∧ E = "java/lang/IndexOutOfBoundsException") := by
  refine b_enter (by decide) (Nat.le_of_ble_eq_true rfl) ?_
  intro X hX hE hnL hkn hB hI
  subst hkn; subst hB
  change b_V X S z 0 0 0 [(0, .ref x), (1, .int k)] []
  refine v_iload_n hX dX12_word_0 (i := 1) rfl rfl ?_
  refine v_if_lt hX (tgt := 15) dX12_word_1 (by decide) (fun h1 => ?_) (fun h1 => ?_)
  · exact v_throw hX hE (cls := "java/lang/IndexOutOfBoundsException") (text := "no such word") (ik := 81) (is := 93) (ic := 85) (by decide +kernel) w_5_118 w_1_28 (List.mem_of_getElem? (i := 5) rfl) (List.mem_of_getElem? (i := 2) rfl) ha_85 hb_85 hg_85_81 dX12_word_15 dX12_word_18 dX12_word_19 dX12_word_21 dX12_word_24 (by decide) (Nat.le_of_ble_eq_true rfl) (by omega) (by omega) (fun z' hz => ⟨hz, rfl, rfl⟩)
  · 
    refine v_iload_n hX dX12_word_4 (i := 1) rfl rfl ?_
    refine v_aload_n hX dX12_word_5 (i := 0) rfl rfl ?_
    refine v_get hX (ci := 10) (k := 3) (by simp (disch := omega) only [q_K_s_I, q_K_s_J, q_K_s_P, q_K_s_A, q_K_s_B, q_K_s_C, q_K_r_A, q_K_r_B, y_K_n_O, x_K_n_O, y_K_n_A, x_K_n_A, al_k_0 h, al_k_1 h, al_k_2 h, al_k_5 h, al_k_6 h, al_k_7 h, al_k_11 h, al_k_14 h, al_k_418 h, al_k_421 h, al_k_425 h]) bc_10 (by decide) (by decide) in_10 w_2_178 dX12_word_6 (mvP (f := 1003) (q := (x + 5)) rfl rfl (by simp (disch := omega) only [q_P_s_I, q_P_s_J, q_P_s_A, q_P_s_B, q_P_s_C, q_P_n_A, q_P_r_A, q_P_r_B, y_P_s_P, x_P_s_P, y_P_n_O, x_P_n_O, al_p_1000 h, al_p_1002 h, al_p_1003 h, al_p_1004 h, al_p_600 h, al_p_601 h, al_p_602 h, al_p_500 h, al_p_203 h, al_p_905 h, al_p_906 h])) ?_
    refine v_get hX (ci := 6) (k := 5) (by simp (disch := omega) only [q_K_s_I, q_K_s_J, q_K_s_P, q_K_s_A, q_K_s_B, q_K_s_C, q_K_r_A, q_K_r_B, y_K_n_O, x_K_n_O, y_K_n_A, x_K_n_A, al_k_0 h, al_k_1 h, al_k_2 h, al_k_5 h, al_k_6 h, al_k_7 h, al_k_11 h, al_k_14 h, al_k_418 h, al_k_421 h, al_k_425 h]) bc_6 (by decide) (by decide) in_6 w_1_203 dX12_word_9 (mvE (f := 605) (v := 0) rfl rfl (by simp (disch := omega) only [q_I_s_J, q_I_s_P, q_I_s_A, q_I_s_B, q_I_s_C, q_I_n_A, q_I_r_A, q_I_r_B, y_I_s_I, x_I_s_I, y_I_n_O, x_I_n_O, al_i_1001 h, al_i_102 h, al_i_604 h, al_i_605 h, al_i_504 h, al_i_505 h, al_i_205 h, al_i_206 h, al_i_403 h, al_i_310 h])) ?_
    refine v_icmp_lt hX (tgt := 25) dX12_word_12 (by decide) (fun h2 => absurd h2 h1) (fun _ => ?_)
    exact v_throw hX hE (cls := "java/lang/IndexOutOfBoundsException") (text := "no such word") (ik := 81) (is := 93) (ic := 85) (by decide +kernel) w_5_118 w_1_28 (List.mem_of_getElem? (i := 5) rfl) (List.mem_of_getElem? (i := 2) rfl) ha_85 hb_85 hg_85_81 dX12_word_15 dX12_word_18 dX12_word_19 dX12_word_21 dX12_word_24 (by decide) (Nat.le_of_ble_eq_true rfl) (by omega) (by omega) (fun z' hz => ⟨hz, rfl, rfl⟩)
set_option maxRecDepth 100000 in
set_option maxHeartbeats 4000000 in
theorem c_AL_statement0 {kn : Nat → Nat} {B : Nat} {S : b_M} {z x : Nat} {k v : Int32} (h : alG S x) : b_C kn B yX12_statement cX12_statement 3 (some .int) 6 82 1 6 [.ref x, .int k, .int v] S z (fun r S' z' => False) (fun E S' z' => z ≤ z' ∧ S' = S ∧ E = "java/lang/IndexOutOfBoundsException") := by
  refine b_enter (by decide) (Nat.le_of_ble_eq_true rfl) ?_
  intro X hX hE hnL hkn hB hI
  subst hkn; subst hB
  change b_V X S z 0 0 0 [(0, .ref x), (1, .int k), (2, .int v)] []
  refine v_iload_n hX dX12_statement_0 (i := 1) rfl rfl ?_
  refine v_if_lt hX (tgt := 24) dX12_statement_1 (by decide) (fun h1 => ?_) (fun h1 => ?_)
  · exact v_throw hX hE (cls := "java/lang/IndexOutOfBoundsException") (text := "no such statement, or no such what") (ik := 81) (is := 102) (ic := 85) (by decide +kernel) w_5_118 w_1_28 (List.mem_of_getElem? (i := 6) rfl) (List.mem_of_getElem? (i := 2) rfl) ha_85 hb_85 hg_85_81 dX12_statement_24 dX12_statement_27 dX12_statement_28 dX12_statement_30 dX12_statement_33 (by decide) (Nat.le_of_ble_eq_true rfl) (by omega) (by omega) (fun z' hz => ⟨hz, rfl, rfl⟩)
  · 
    refine v_iload_n hX dX12_statement_4 (i := 1) rfl rfl ?_
    refine v_aload_n hX dX12_statement_5 (i := 0) rfl rfl ?_
    refine v_get hX (ci := 10) (k := 3) (by simp (disch := omega) only [q_K_s_I, q_K_s_J, q_K_s_P, q_K_s_A, q_K_s_B, q_K_s_C, q_K_r_A, q_K_r_B, y_K_n_O, x_K_n_O, y_K_n_A, x_K_n_A, al_k_0 h, al_k_1 h, al_k_2 h, al_k_5 h, al_k_6 h, al_k_7 h, al_k_11 h, al_k_14 h, al_k_418 h, al_k_421 h, al_k_425 h]) bc_10 (by decide) (by decide) in_10 w_2_178 dX12_statement_6 (mvP (f := 1003) (q := (x + 5)) rfl rfl (by simp (disch := omega) only [q_P_s_I, q_P_s_J, q_P_s_A, q_P_s_B, q_P_s_C, q_P_n_A, q_P_r_A, q_P_r_B, y_P_s_P, x_P_s_P, y_P_n_O, x_P_n_O, al_p_1000 h, al_p_1002 h, al_p_1003 h, al_p_1004 h, al_p_600 h, al_p_601 h, al_p_602 h, al_p_500 h, al_p_203 h, al_p_905 h, al_p_906 h])) ?_
    refine v_get hX (ci := 6) (k := 4) (by simp (disch := omega) only [q_K_s_I, q_K_s_J, q_K_s_P, q_K_s_A, q_K_s_B, q_K_s_C, q_K_r_A, q_K_r_B, y_K_n_O, x_K_n_O, y_K_n_A, x_K_n_A, al_k_0 h, al_k_1 h, al_k_2 h, al_k_5 h, al_k_6 h, al_k_7 h, al_k_11 h, al_k_14 h, al_k_418 h, al_k_421 h, al_k_425 h]) bc_6 (by decide) (by decide) in_6 w_1_201 dX12_statement_9 (mvE (f := 604) (v := 0) rfl rfl (by simp (disch := omega) only [q_I_s_J, q_I_s_P, q_I_s_A, q_I_s_B, q_I_s_C, q_I_n_A, q_I_r_A, q_I_r_B, y_I_s_I, x_I_s_I, y_I_n_O, x_I_n_O, al_i_1001 h, al_i_102 h, al_i_604 h, al_i_605 h, al_i_504 h, al_i_505 h, al_i_205 h, al_i_206 h, al_i_403 h, al_i_310 h])) ?_
    refine v_icmp_ge hX (tgt := 24) dX12_statement_12 (by decide) (fun _ => ?_) (fun h2 => absurd (Int32.not_lt.mp h1) h2)
    exact v_throw hX hE (cls := "java/lang/IndexOutOfBoundsException") (text := "no such statement, or no such what") (ik := 81) (is := 102) (ic := 85) (by decide +kernel) w_5_118 w_1_28 (List.mem_of_getElem? (i := 6) rfl) (List.mem_of_getElem? (i := 2) rfl) ha_85 hb_85 hg_85_81 dX12_statement_24 dX12_statement_27 dX12_statement_28 dX12_statement_30 dX12_statement_33 (by decide) (Nat.le_of_ble_eq_true rfl) (by omega) (by omega) (fun z' hz => ⟨hz, rfl, rfl⟩)
set_option maxRecDepth 100000 in
set_option maxHeartbeats 4000000 in
theorem name_tail {X : b_T} {fr lo mc ms : Nat} {post : Option Value → b_M → Nat → Prop} {px : String → b_M → Nat → Prop} (hX : b_X X cX12_name RX12 fr lo mc ms) (hE : b_End X (some .int) mc ms post px) (hfr : 6 ≤ fr) (hlo : 82 ≤ lo) (hmc : 1 ≤ mc) (hms : 6 ≤ ms) {S : b_M} {z x : Nat} {k v q4 q5 : Int32} (e4 : ¬ k < 0 → q4 = 0) (e5 : ¬ k < 0 → q5 = 0) (hp : ∀ z', z ≤ z' → px "java/lang/IndexOutOfBoundsException" S z') : b_V X S z 0 0 47 [(5, .int q5), (4, .int q4), (3, .ref (x + 6)), (0, .ref x), (1, .int k), (2, .int v)] [] := by
  have th : b_V X S z 0 0 61 [(5, .int q5), (4, .int q4), (3, .ref (x + 6)), (0, .ref x), (1, .int k), (2, .int v)] [] := by
    exact v_throw hX hE (cls := "java/lang/IndexOutOfBoundsException") (text := "no such name, or no such what") (ik := 81) (is := 125) (ic := 85) (by decide +kernel) w_5_118 w_1_28 (List.mem_of_getElem? (i := 7) rfl) (List.mem_of_getElem? (i := 2) rfl) ha_85 hb_85 hg_85_81 dX12_name_61 dX12_name_64 dX12_name_65 dX12_name_67 dX12_name_70 hfr (Nat.le_trans (Nat.le_of_ble_eq_true rfl) hlo) (by omega) (by omega) (fun z' hz => hp z' hz)
  refine v_iload_n hX dX12_name_47 (i := 1) rfl rfl ?_
  refine v_if_lt hX (tgt := 61) dX12_name_48 (by decide) (fun h1 => th) (fun h1 => ?_)
  refine v_iload hX dX12_name_51 rfl ?_
  refine v_if_ne hX (tgt := 71) dX12_name_53 (by decide) (fun h2 => absurd (e4 h1) h2) (fun _ => ?_)
  refine v_iload hX dX12_name_56 rfl ?_
  exact v_if_ne hX (tgt := 71) dX12_name_58 (by decide) (fun h2 => absurd (e5 h1) h2) (fun _ => th)
set_option maxRecDepth 100000 in
set_option maxHeartbeats 4000000 in
theorem name_two {X : b_T} {fr lo mc ms : Nat} {post : Option Value → b_M → Nat → Prop} {px : String → b_M → Nat → Prop} (hX : b_X X cX12_name RX12 fr lo mc ms) (hE : b_End X (some .int) mc ms post px) (hnL : b_n X = 6) (hfr : 6 ≤ fr) (hlo : 82 ≤ lo) (hmc : 1 ≤ mc) (hms : 6 ≤ ms) {S : b_M} {z x : Nat} (h : alG S x) {k v q4 : Int32} (e4 : ¬ k < 0 → q4 = 0) (hp : ∀ z', z ≤ z' → px "java/lang/IndexOutOfBoundsException" S z') : b_V X S z 0 0 25 [(3, .ref (x + 6)), (0, .ref x), (1, .int k), (2, .int v)] [.int q4] := by
  refine v_istore hX (lv' := [(4, .int q4), (3, .ref (x + 6)), (0, .ref x), (1, .int k), (2, .int v)]) dX12_name_25 (by rw [hnL]; decide) rfl ?_
  refine v_iload_n hX dX12_name_27 (i := 2) rfl rfl ?_
  refine v_iconst hX (v := 1) dX12_name_28 (by decide) ?_
  have no : b_V X S z 0 0 44 [(4, .int q4), (3, .ref (x + 6)), (0, .ref x), (1, .int k), (2, .int v)] [] := by
    refine v_iconst hX (v := 0) dX12_name_44 (by decide) ?_
    refine v_istore hX (lv' := [(5, .int 0), (4, .int q4), (3, .ref (x + 6)), (0, .ref x), (1, .int k), (2, .int v)]) dX12_name_45 (by rw [hnL]; decide) rfl ?_
    exact name_tail hX hE hfr hlo hmc hms e4 (fun _ => rfl) hp
  refine v_icmp_ne hX (tgt := 44) dX12_name_29 (by decide) (fun _ => no) (fun _ => ?_)
  refine v_iload_n hX dX12_name_32 (i := 1) rfl rfl ?_
  refine v_aload_n hX dX12_name_33 (i := 3) rfl rfl ?_
  refine v_get hX (ci := 5) (k := 5) (by simp (disch := omega) only [q_K_s_I, q_K_s_J, q_K_s_P, q_K_s_A, q_K_s_B, q_K_s_C, q_K_r_A, q_K_r_B, y_K_n_O, x_K_n_O, y_K_n_A, x_K_n_A, al_k_0 h, al_k_1 h, al_k_2 h, al_k_5 h, al_k_6 h, al_k_7 h, al_k_11 h, al_k_14 h, al_k_418 h, al_k_421 h, al_k_425 h]) bc_5 (by decide) (by decide) in_5 w_1_84 dX12_name_34 (mvE (f := 505) (v := 0) rfl rfl (by simp (disch := omega) only [q_I_s_J, q_I_s_P, q_I_s_A, q_I_s_B, q_I_s_C, q_I_n_A, q_I_r_A, q_I_r_B, y_I_s_I, x_I_s_I, y_I_n_O, x_I_n_O, al_i_1001 h, al_i_102 h, al_i_604 h, al_i_605 h, al_i_504 h, al_i_505 h, al_i_205 h, al_i_206 h, al_i_403 h, al_i_310 h])) ?_
  refine v_icmp_ge hX (tgt := 44) dX12_name_37 (by decide) (fun _ => no) (fun h2 => ?_)
  have h3 : k < 0 := Int32.not_le.mp h2
  refine v_iconst hX (v := 1) dX12_name_40 (by decide) ?_
  refine v_goto hX (tgt := 45) dX12_name_41 (by decide) ?_
  refine v_istore hX (lv' := [(5, .int 1), (4, .int q4), (3, .ref (x + 6)), (0, .ref x), (1, .int k), (2, .int v)]) dX12_name_45 (by rw [hnL]; decide) rfl ?_
  exact name_tail hX hE hfr hlo hmc hms e4 (fun q => absurd h3 q) hp
set_option maxRecDepth 100000 in
set_option maxHeartbeats 4000000 in
theorem c_AL_name0 {kn : Nat → Nat} {B : Nat} {S : b_M} {z x : Nat} {k v : Int32} (h : alG S x) : b_C kn B yX12_name cX12_name 6 (some .int) 6 82 1 6 [.ref x, .int k, .int v] S z (fun r S' z' => False) (fun E S' z' => z ≤ z' ∧ S' = S ∧ E = "java/lang/IndexOutOfBoundsException") := by
  refine b_enter (by decide) (Nat.le_of_ble_eq_true rfl) ?_
  intro X hX hE hnL hkn hB hI
  subst hkn; subst hB
  change b_V X S z 0 0 0 [(0, .ref x), (1, .int k), (2, .int v)] []
  refine v_aload_n hX dX12_name_0 (i := 0) rfl rfl ?_
  refine v_get hX (ci := 10) (k := 3) (by simp (disch := omega) only [q_K_s_I, q_K_s_J, q_K_s_P, q_K_s_A, q_K_s_B, q_K_s_C, q_K_r_A, q_K_r_B, y_K_n_O, x_K_n_O, y_K_n_A, x_K_n_A, al_k_0 h, al_k_1 h, al_k_2 h, al_k_5 h, al_k_6 h, al_k_7 h, al_k_11 h, al_k_14 h, al_k_418 h, al_k_421 h, al_k_425 h]) bc_10 (by decide) (by decide) in_10 w_2_178 dX12_name_1 (mvP (f := 1003) (q := (x + 5)) rfl rfl (by simp (disch := omega) only [q_P_s_I, q_P_s_J, q_P_s_A, q_P_s_B, q_P_s_C, q_P_n_A, q_P_r_A, q_P_r_B, y_P_s_P, x_P_s_P, y_P_n_O, x_P_n_O, al_p_1000 h, al_p_1002 h, al_p_1003 h, al_p_1004 h, al_p_600 h, al_p_601 h, al_p_602 h, al_p_500 h, al_p_203 h, al_p_905 h, al_p_906 h])) ?_
  refine v_get hX (ci := 6) (k := 1) (by simp (disch := omega) only [q_K_s_I, q_K_s_J, q_K_s_P, q_K_s_A, q_K_s_B, q_K_s_C, q_K_r_A, q_K_r_B, y_K_n_O, x_K_n_O, y_K_n_A, x_K_n_A, al_k_0 h, al_k_1 h, al_k_2 h, al_k_5 h, al_k_6 h, al_k_7 h, al_k_11 h, al_k_14 h, al_k_418 h, al_k_421 h, al_k_425 h]) bc_6 (by decide) (by decide) in_6 w_1_195 dX12_name_4 (mvP (f := 601) (q := (x + 6)) rfl rfl (by simp (disch := omega) only [q_P_s_I, q_P_s_J, q_P_s_A, q_P_s_B, q_P_s_C, q_P_n_A, q_P_r_A, q_P_r_B, y_P_s_P, x_P_s_P, y_P_n_O, x_P_n_O, al_p_1000 h, al_p_1002 h, al_p_1003 h, al_p_1004 h, al_p_600 h, al_p_601 h, al_p_602 h, al_p_500 h, al_p_203 h, al_p_905 h, al_p_906 h])) ?_
  refine v_astore_n hX (lv' := [(3, .ref (x + 6)), (0, .ref x), (1, .int k), (2, .int v)]) dX12_name_7 (i := 3) rfl (by rw [hnL]; decide) rfl ?_
  refine v_iload_n hX dX12_name_8 (i := 2) rfl rfl ?_
  have no : b_V X S z 0 0 24 [(3, .ref (x + 6)), (0, .ref x), (1, .int k), (2, .int v)] [] := by
    refine v_iconst hX (v := 0) dX12_name_24 (by decide) ?_
    exact name_two hX hE hnL (by decide) (by decide) (by decide) (by decide) h (fun _ => rfl) (fun z' hz => ⟨hz, rfl, rfl⟩)
  refine v_if_ne hX (tgt := 24) dX12_name_9 (by decide) (fun _ => no) (fun _ => ?_)
  refine v_iload_n hX dX12_name_12 (i := 1) rfl rfl ?_
  refine v_aload_n hX dX12_name_13 (i := 3) rfl rfl ?_
  refine v_get hX (ci := 5) (k := 4) (by simp (disch := omega) only [q_K_s_I, q_K_s_J, q_K_s_P, q_K_s_A, q_K_s_B, q_K_s_C, q_K_r_A, q_K_r_B, y_K_n_O, x_K_n_O, y_K_n_A, x_K_n_A, al_k_0 h, al_k_1 h, al_k_2 h, al_k_5 h, al_k_6 h, al_k_7 h, al_k_11 h, al_k_14 h, al_k_418 h, al_k_421 h, al_k_425 h]) bc_5 (by decide) (by decide) in_5 w_1_82 dX12_name_14 (mvE (f := 504) (v := 0) rfl rfl (by simp (disch := omega) only [q_I_s_J, q_I_s_P, q_I_s_A, q_I_s_B, q_I_s_C, q_I_n_A, q_I_r_A, q_I_r_B, y_I_s_I, x_I_s_I, y_I_n_O, x_I_n_O, al_i_1001 h, al_i_102 h, al_i_604 h, al_i_605 h, al_i_504 h, al_i_505 h, al_i_205 h, al_i_206 h, al_i_403 h, al_i_310 h])) ?_
  refine v_icmp_ge hX (tgt := 24) dX12_name_17 (by decide) (fun _ => no) (fun h2 => ?_)
  have h3 : k < 0 := Int32.not_le.mp h2
  refine v_iconst hX (v := 1) dX12_name_20 (by decide) ?_
  refine v_goto hX (tgt := 25) dX12_name_21 (by decide) ?_
  exact name_two hX hE hnL (by decide) (by decide) (by decide) (by decide) h (fun q => absurd h3 q) (fun z' hz => ⟨hz, rfl, rfl⟩)
def cnt0 (k : Int32) : Int32 := if 0 ≤ k.toInt ∧ k.toInt ≤ 9 then 0 else -1
set_option maxRecDepth 100000 in
set_option maxHeartbeats 4000000 in
theorem c_AL_count0 {kn : Nat → Nat} {B : Nat} {S : b_M} {z x : Nat} {k : Int32} (h : alG S x) (i : m_I S 606 (x + 5) = 0) : b_C kn B yX12_count cX12_count 2 (some .int) 1 22 0 0 [.ref x, .int k] S z (fun r S' z' => r = some (.int (cnt0 k)) ∧ z' = z ∧ S' = S) (fun _ _ _ => False) := by
  refine b_enter (by decide) (Nat.le_of_ble_eq_true rfl) ?_
  intro X hX hE hnL hkn hB hI
  subst hkn; subst hB
  change b_V X S z 0 0 0 [(0, .ref x), (1, .int k)] []
  refine v_iload_n hX dX12_count_0 (i := 1) rfl rfl ?_
  by_cases hk : 0 ≤ k.toInt ∧ k.toInt ≤ 9
  · obtain ⟨k1, k2⟩ := hk
    have hc : k.toInt = 0 ∨ k.toInt = 1 ∨ k.toInt = 2 ∨ k.toInt = 3 ∨ k.toInt = 4 ∨ k.toInt = 5 ∨ k.toInt = 6 ∨ k.toInt = 7 ∨ k.toInt = 8 ∨ k.toInt = 9 := by omega
    rcases hc with e | e | e | e | e | e | e | e | e | e
    · refine v_tableIn hX (off := 55) (tgt := 56) dX12_count_1 (by omega) (by omega) (by rw [e]; rfl) (by decide) ?_
      refine v_aload_n hX dX12_count_56 (i := 0) rfl rfl ?_
      refine v_get hX (ci := 10) (k := 1) (by simp (disch := omega) only [q_K_s_I, q_K_s_J, q_K_s_P, q_K_s_A, q_K_s_B, q_K_s_C, q_K_r_A, q_K_r_B, y_K_n_O, x_K_n_O, y_K_n_A, x_K_n_A, al_k_0 h, al_k_1 h, al_k_2 h, al_k_5 h, al_k_6 h, al_k_7 h, al_k_11 h, al_k_14 h, al_k_418 h, al_k_421 h, al_k_425 h, i]) bc_10 (by decide) (by decide) in_10 w_2_176 dX12_count_57 (mvE (f := 1001) (v := 0) rfl rfl (by simp (disch := omega) only [q_I_s_J, q_I_s_P, q_I_s_A, q_I_s_B, q_I_s_C, q_I_n_A, q_I_r_A, q_I_r_B, y_I_s_I, x_I_s_I, y_I_n_O, x_I_n_O, al_i_1001 h, al_i_102 h, al_i_604 h, al_i_605 h, al_i_504 h, al_i_505 h, al_i_205 h, al_i_206 h, al_i_403 h, al_i_310 h, i])) ?_
      exact v_ireturn hX hE dX12_count_60 (by omega) (by omega) ⟨by rw [cnt0, if_pos (by omega)], rfl, rfl⟩
    · refine v_tableIn hX (off := 60) (tgt := 61) dX12_count_1 (by omega) (by omega) (by rw [e]; rfl) (by decide) ?_
      refine v_aload_n hX dX12_count_61 (i := 0) rfl rfl ?_
      refine v_get hX (ci := 10) (k := 3) (by simp (disch := omega) only [q_K_s_I, q_K_s_J, q_K_s_P, q_K_s_A, q_K_s_B, q_K_s_C, q_K_r_A, q_K_r_B, y_K_n_O, x_K_n_O, y_K_n_A, x_K_n_A, al_k_0 h, al_k_1 h, al_k_2 h, al_k_5 h, al_k_6 h, al_k_7 h, al_k_11 h, al_k_14 h, al_k_418 h, al_k_421 h, al_k_425 h, i]) bc_10 (by decide) (by decide) in_10 w_2_178 dX12_count_62 (mvP (f := 1003) (q := (x + 5)) rfl rfl (by simp (disch := omega) only [q_P_s_I, q_P_s_J, q_P_s_A, q_P_s_B, q_P_s_C, q_P_n_A, q_P_r_A, q_P_r_B, y_P_s_P, x_P_s_P, y_P_n_O, x_P_n_O, al_p_1000 h, al_p_1002 h, al_p_1003 h, al_p_1004 h, al_p_600 h, al_p_601 h, al_p_602 h, al_p_500 h, al_p_203 h, al_p_905 h, al_p_906 h, i])) ?_
      refine v_get hX (ci := 6) (k := 5) (by simp (disch := omega) only [q_K_s_I, q_K_s_J, q_K_s_P, q_K_s_A, q_K_s_B, q_K_s_C, q_K_r_A, q_K_r_B, y_K_n_O, x_K_n_O, y_K_n_A, x_K_n_A, al_k_0 h, al_k_1 h, al_k_2 h, al_k_5 h, al_k_6 h, al_k_7 h, al_k_11 h, al_k_14 h, al_k_418 h, al_k_421 h, al_k_425 h, i]) bc_6 (by decide) (by decide) in_6 w_1_203 dX12_count_65 (mvE (f := 605) (v := 0) rfl rfl (by simp (disch := omega) only [q_I_s_J, q_I_s_P, q_I_s_A, q_I_s_B, q_I_s_C, q_I_n_A, q_I_r_A, q_I_r_B, y_I_s_I, x_I_s_I, y_I_n_O, x_I_n_O, al_i_1001 h, al_i_102 h, al_i_604 h, al_i_605 h, al_i_504 h, al_i_505 h, al_i_205 h, al_i_206 h, al_i_403 h, al_i_310 h, i])) ?_
      exact v_ireturn hX hE dX12_count_68 (by omega) (by omega) ⟨by rw [cnt0, if_pos (by omega)], rfl, rfl⟩
    · refine v_tableIn hX (off := 68) (tgt := 69) dX12_count_1 (by omega) (by omega) (by rw [e]; rfl) (by decide) ?_
      refine v_aload_n hX dX12_count_69 (i := 0) rfl rfl ?_
      refine v_get hX (ci := 10) (k := 3) (by simp (disch := omega) only [q_K_s_I, q_K_s_J, q_K_s_P, q_K_s_A, q_K_s_B, q_K_s_C, q_K_r_A, q_K_r_B, y_K_n_O, x_K_n_O, y_K_n_A, x_K_n_A, al_k_0 h, al_k_1 h, al_k_2 h, al_k_5 h, al_k_6 h, al_k_7 h, al_k_11 h, al_k_14 h, al_k_418 h, al_k_421 h, al_k_425 h, i]) bc_10 (by decide) (by decide) in_10 w_2_178 dX12_count_70 (mvP (f := 1003) (q := (x + 5)) rfl rfl (by simp (disch := omega) only [q_P_s_I, q_P_s_J, q_P_s_A, q_P_s_B, q_P_s_C, q_P_n_A, q_P_r_A, q_P_r_B, y_P_s_P, x_P_s_P, y_P_n_O, x_P_n_O, al_p_1000 h, al_p_1002 h, al_p_1003 h, al_p_1004 h, al_p_600 h, al_p_601 h, al_p_602 h, al_p_500 h, al_p_203 h, al_p_905 h, al_p_906 h, i])) ?_
      refine v_get hX (ci := 6) (k := 4) (by simp (disch := omega) only [q_K_s_I, q_K_s_J, q_K_s_P, q_K_s_A, q_K_s_B, q_K_s_C, q_K_r_A, q_K_r_B, y_K_n_O, x_K_n_O, y_K_n_A, x_K_n_A, al_k_0 h, al_k_1 h, al_k_2 h, al_k_5 h, al_k_6 h, al_k_7 h, al_k_11 h, al_k_14 h, al_k_418 h, al_k_421 h, al_k_425 h, i]) bc_6 (by decide) (by decide) in_6 w_1_201 dX12_count_73 (mvE (f := 604) (v := 0) rfl rfl (by simp (disch := omega) only [q_I_s_J, q_I_s_P, q_I_s_A, q_I_s_B, q_I_s_C, q_I_n_A, q_I_r_A, q_I_r_B, y_I_s_I, x_I_s_I, y_I_n_O, x_I_n_O, al_i_1001 h, al_i_102 h, al_i_604 h, al_i_605 h, al_i_504 h, al_i_505 h, al_i_205 h, al_i_206 h, al_i_403 h, al_i_310 h, i])) ?_
      exact v_ireturn hX hE dX12_count_76 (by omega) (by omega) ⟨by rw [cnt0, if_pos (by omega)], rfl, rfl⟩
    · refine v_tableIn hX (off := 76) (tgt := 77) dX12_count_1 (by omega) (by omega) (by rw [e]; rfl) (by decide) ?_
      refine v_aload_n hX dX12_count_77 (i := 0) rfl rfl ?_
      refine v_get hX (ci := 10) (k := 3) (by simp (disch := omega) only [q_K_s_I, q_K_s_J, q_K_s_P, q_K_s_A, q_K_s_B, q_K_s_C, q_K_r_A, q_K_r_B, y_K_n_O, x_K_n_O, y_K_n_A, x_K_n_A, al_k_0 h, al_k_1 h, al_k_2 h, al_k_5 h, al_k_6 h, al_k_7 h, al_k_11 h, al_k_14 h, al_k_418 h, al_k_421 h, al_k_425 h, i]) bc_10 (by decide) (by decide) in_10 w_2_178 dX12_count_78 (mvP (f := 1003) (q := (x + 5)) rfl rfl (by simp (disch := omega) only [q_P_s_I, q_P_s_J, q_P_s_A, q_P_s_B, q_P_s_C, q_P_n_A, q_P_r_A, q_P_r_B, y_P_s_P, x_P_s_P, y_P_n_O, x_P_n_O, al_p_1000 h, al_p_1002 h, al_p_1003 h, al_p_1004 h, al_p_600 h, al_p_601 h, al_p_602 h, al_p_500 h, al_p_203 h, al_p_905 h, al_p_906 h, i])) ?_
      refine v_get hX (ci := 6) (k := 1) (by simp (disch := omega) only [q_K_s_I, q_K_s_J, q_K_s_P, q_K_s_A, q_K_s_B, q_K_s_C, q_K_r_A, q_K_r_B, y_K_n_O, x_K_n_O, y_K_n_A, x_K_n_A, al_k_0 h, al_k_1 h, al_k_2 h, al_k_5 h, al_k_6 h, al_k_7 h, al_k_11 h, al_k_14 h, al_k_418 h, al_k_421 h, al_k_425 h, i]) bc_6 (by decide) (by decide) in_6 w_1_195 dX12_count_81 (mvP (f := 601) (q := (x + 6)) rfl rfl (by simp (disch := omega) only [q_P_s_I, q_P_s_J, q_P_s_A, q_P_s_B, q_P_s_C, q_P_n_A, q_P_r_A, q_P_r_B, y_P_s_P, x_P_s_P, y_P_n_O, x_P_n_O, al_p_1000 h, al_p_1002 h, al_p_1003 h, al_p_1004 h, al_p_600 h, al_p_601 h, al_p_602 h, al_p_500 h, al_p_203 h, al_p_905 h, al_p_906 h, i])) ?_
      refine v_get hX (ci := 5) (k := 4) (by simp (disch := omega) only [q_K_s_I, q_K_s_J, q_K_s_P, q_K_s_A, q_K_s_B, q_K_s_C, q_K_r_A, q_K_r_B, y_K_n_O, x_K_n_O, y_K_n_A, x_K_n_A, al_k_0 h, al_k_1 h, al_k_2 h, al_k_5 h, al_k_6 h, al_k_7 h, al_k_11 h, al_k_14 h, al_k_418 h, al_k_421 h, al_k_425 h, i]) bc_5 (by decide) (by decide) in_5 w_1_82 dX12_count_84 (mvE (f := 504) (v := 0) rfl rfl (by simp (disch := omega) only [q_I_s_J, q_I_s_P, q_I_s_A, q_I_s_B, q_I_s_C, q_I_n_A, q_I_r_A, q_I_r_B, y_I_s_I, x_I_s_I, y_I_n_O, x_I_n_O, al_i_1001 h, al_i_102 h, al_i_604 h, al_i_605 h, al_i_504 h, al_i_505 h, al_i_205 h, al_i_206 h, al_i_403 h, al_i_310 h, i])) ?_
      exact v_ireturn hX hE dX12_count_87 (by omega) (by omega) ⟨by rw [cnt0, if_pos (by omega)], rfl, rfl⟩
    · refine v_tableIn hX (off := 87) (tgt := 88) dX12_count_1 (by omega) (by omega) (by rw [e]; rfl) (by decide) ?_
      refine v_aload_n hX dX12_count_88 (i := 0) rfl rfl ?_
      refine v_get hX (ci := 10) (k := 3) (by simp (disch := omega) only [q_K_s_I, q_K_s_J, q_K_s_P, q_K_s_A, q_K_s_B, q_K_s_C, q_K_r_A, q_K_r_B, y_K_n_O, x_K_n_O, y_K_n_A, x_K_n_A, al_k_0 h, al_k_1 h, al_k_2 h, al_k_5 h, al_k_6 h, al_k_7 h, al_k_11 h, al_k_14 h, al_k_418 h, al_k_421 h, al_k_425 h, i]) bc_10 (by decide) (by decide) in_10 w_2_178 dX12_count_89 (mvP (f := 1003) (q := (x + 5)) rfl rfl (by simp (disch := omega) only [q_P_s_I, q_P_s_J, q_P_s_A, q_P_s_B, q_P_s_C, q_P_n_A, q_P_r_A, q_P_r_B, y_P_s_P, x_P_s_P, y_P_n_O, x_P_n_O, al_p_1000 h, al_p_1002 h, al_p_1003 h, al_p_1004 h, al_p_600 h, al_p_601 h, al_p_602 h, al_p_500 h, al_p_203 h, al_p_905 h, al_p_906 h, i])) ?_
      refine v_get hX (ci := 6) (k := 1) (by simp (disch := omega) only [q_K_s_I, q_K_s_J, q_K_s_P, q_K_s_A, q_K_s_B, q_K_s_C, q_K_r_A, q_K_r_B, y_K_n_O, x_K_n_O, y_K_n_A, x_K_n_A, al_k_0 h, al_k_1 h, al_k_2 h, al_k_5 h, al_k_6 h, al_k_7 h, al_k_11 h, al_k_14 h, al_k_418 h, al_k_421 h, al_k_425 h, i]) bc_6 (by decide) (by decide) in_6 w_1_195 dX12_count_92 (mvP (f := 601) (q := (x + 6)) rfl rfl (by simp (disch := omega) only [q_P_s_I, q_P_s_J, q_P_s_A, q_P_s_B, q_P_s_C, q_P_n_A, q_P_r_A, q_P_r_B, y_P_s_P, x_P_s_P, y_P_n_O, x_P_n_O, al_p_1000 h, al_p_1002 h, al_p_1003 h, al_p_1004 h, al_p_600 h, al_p_601 h, al_p_602 h, al_p_500 h, al_p_203 h, al_p_905 h, al_p_906 h, i])) ?_
      refine v_get hX (ci := 5) (k := 5) (by simp (disch := omega) only [q_K_s_I, q_K_s_J, q_K_s_P, q_K_s_A, q_K_s_B, q_K_s_C, q_K_r_A, q_K_r_B, y_K_n_O, x_K_n_O, y_K_n_A, x_K_n_A, al_k_0 h, al_k_1 h, al_k_2 h, al_k_5 h, al_k_6 h, al_k_7 h, al_k_11 h, al_k_14 h, al_k_418 h, al_k_421 h, al_k_425 h, i]) bc_5 (by decide) (by decide) in_5 w_1_84 dX12_count_95 (mvE (f := 505) (v := 0) rfl rfl (by simp (disch := omega) only [q_I_s_J, q_I_s_P, q_I_s_A, q_I_s_B, q_I_s_C, q_I_n_A, q_I_r_A, q_I_r_B, y_I_s_I, x_I_s_I, y_I_n_O, x_I_n_O, al_i_1001 h, al_i_102 h, al_i_604 h, al_i_605 h, al_i_504 h, al_i_505 h, al_i_205 h, al_i_206 h, al_i_403 h, al_i_310 h, i])) ?_
      exact v_ireturn hX hE dX12_count_98 (by omega) (by omega) ⟨by rw [cnt0, if_pos (by omega)], rfl, rfl⟩
    · refine v_tableIn hX (off := 98) (tgt := 99) dX12_count_1 (by omega) (by omega) (by rw [e]; rfl) (by decide) ?_
      refine v_aload_n hX dX12_count_99 (i := 0) rfl rfl ?_
      refine v_get hX (ci := 10) (k := 4) (by simp (disch := omega) only [q_K_s_I, q_K_s_J, q_K_s_P, q_K_s_A, q_K_s_B, q_K_s_C, q_K_r_A, q_K_r_B, y_K_n_O, x_K_n_O, y_K_n_A, x_K_n_A, al_k_0 h, al_k_1 h, al_k_2 h, al_k_5 h, al_k_6 h, al_k_7 h, al_k_11 h, al_k_14 h, al_k_418 h, al_k_421 h, al_k_425 h, i]) bc_10 (by decide) (by decide) in_10 w_2_179 dX12_count_100 (mvP (f := 1004) (q := (x + 418)) rfl rfl (by simp (disch := omega) only [q_P_s_I, q_P_s_J, q_P_s_A, q_P_s_B, q_P_s_C, q_P_n_A, q_P_r_A, q_P_r_B, y_P_s_P, x_P_s_P, y_P_n_O, x_P_n_O, al_p_1000 h, al_p_1002 h, al_p_1003 h, al_p_1004 h, al_p_600 h, al_p_601 h, al_p_602 h, al_p_500 h, al_p_203 h, al_p_905 h, al_p_906 h, i])) ?_
      refine v_get hX (ci := 9) (k := 5) (by simp (disch := omega) only [q_K_s_I, q_K_s_J, q_K_s_P, q_K_s_A, q_K_s_B, q_K_s_C, q_K_r_A, q_K_r_B, y_K_n_O, x_K_n_O, y_K_n_A, x_K_n_A, al_k_0 h, al_k_1 h, al_k_2 h, al_k_5 h, al_k_6 h, al_k_7 h, al_k_11 h, al_k_14 h, al_k_418 h, al_k_421 h, al_k_425 h, i]) bc_9 (by decide) (by decide) in_9 w_2_130 dX12_count_103 (mvP (f := 905) (q := (x + 421)) rfl rfl (by simp (disch := omega) only [q_P_s_I, q_P_s_J, q_P_s_A, q_P_s_B, q_P_s_C, q_P_n_A, q_P_r_A, q_P_r_B, y_P_s_P, x_P_s_P, y_P_n_O, x_P_n_O, al_p_1000 h, al_p_1002 h, al_p_1003 h, al_p_1004 h, al_p_600 h, al_p_601 h, al_p_602 h, al_p_500 h, al_p_203 h, al_p_905 h, al_p_906 h, i])) ?_
      refine v_get hX (ci := 4) (k := 3) (by simp (disch := omega) only [q_K_s_I, q_K_s_J, q_K_s_P, q_K_s_A, q_K_s_B, q_K_s_C, q_K_r_A, q_K_r_B, y_K_n_O, x_K_n_O, y_K_n_A, x_K_n_A, al_k_0 h, al_k_1 h, al_k_2 h, al_k_5 h, al_k_6 h, al_k_7 h, al_k_11 h, al_k_14 h, al_k_418 h, al_k_421 h, al_k_425 h, i]) bc_4 (by decide) (by decide) in_4 w_2_25 dX12_count_106 (mvE (f := 403) (v := 0) rfl rfl (by simp (disch := omega) only [q_I_s_J, q_I_s_P, q_I_s_A, q_I_s_B, q_I_s_C, q_I_n_A, q_I_r_A, q_I_r_B, y_I_s_I, x_I_s_I, y_I_n_O, x_I_n_O, al_i_1001 h, al_i_102 h, al_i_604 h, al_i_605 h, al_i_504 h, al_i_505 h, al_i_205 h, al_i_206 h, al_i_403 h, al_i_310 h, i])) ?_
      exact v_ireturn hX hE dX12_count_109 (by omega) (by omega) ⟨by rw [cnt0, if_pos (by omega)], rfl, rfl⟩
    · refine v_tableIn hX (off := 109) (tgt := 110) dX12_count_1 (by omega) (by omega) (by rw [e]; rfl) (by decide) ?_
      refine v_aload_n hX dX12_count_110 (i := 0) rfl rfl ?_
      refine v_get hX (ci := 10) (k := 4) (by simp (disch := omega) only [q_K_s_I, q_K_s_J, q_K_s_P, q_K_s_A, q_K_s_B, q_K_s_C, q_K_r_A, q_K_r_B, y_K_n_O, x_K_n_O, y_K_n_A, x_K_n_A, al_k_0 h, al_k_1 h, al_k_2 h, al_k_5 h, al_k_6 h, al_k_7 h, al_k_11 h, al_k_14 h, al_k_418 h, al_k_421 h, al_k_425 h, i]) bc_10 (by decide) (by decide) in_10 w_2_179 dX12_count_111 (mvP (f := 1004) (q := (x + 418)) rfl rfl (by simp (disch := omega) only [q_P_s_I, q_P_s_J, q_P_s_A, q_P_s_B, q_P_s_C, q_P_n_A, q_P_r_A, q_P_r_B, y_P_s_P, x_P_s_P, y_P_n_O, x_P_n_O, al_p_1000 h, al_p_1002 h, al_p_1003 h, al_p_1004 h, al_p_600 h, al_p_601 h, al_p_602 h, al_p_500 h, al_p_203 h, al_p_905 h, al_p_906 h, i])) ?_
      refine v_get hX (ci := 9) (k := 6) (by simp (disch := omega) only [q_K_s_I, q_K_s_J, q_K_s_P, q_K_s_A, q_K_s_B, q_K_s_C, q_K_r_A, q_K_r_B, y_K_n_O, x_K_n_O, y_K_n_A, x_K_n_A, al_k_0 h, al_k_1 h, al_k_2 h, al_k_5 h, al_k_6 h, al_k_7 h, al_k_11 h, al_k_14 h, al_k_418 h, al_k_421 h, al_k_425 h, i]) bc_9 (by decide) (by decide) in_9 w_2_132 dX12_count_114 (mvP (f := 906) (q := (x + 425)) rfl rfl (by simp (disch := omega) only [q_P_s_I, q_P_s_J, q_P_s_A, q_P_s_B, q_P_s_C, q_P_n_A, q_P_r_A, q_P_r_B, y_P_s_P, x_P_s_P, y_P_n_O, x_P_n_O, al_p_1000 h, al_p_1002 h, al_p_1003 h, al_p_1004 h, al_p_600 h, al_p_601 h, al_p_602 h, al_p_500 h, al_p_203 h, al_p_905 h, al_p_906 h, i])) ?_
      refine v_get hX (ci := 3) (k := 10) (by simp (disch := omega) only [q_K_s_I, q_K_s_J, q_K_s_P, q_K_s_A, q_K_s_B, q_K_s_C, q_K_r_A, q_K_r_B, y_K_n_O, x_K_n_O, y_K_n_A, x_K_n_A, al_k_0 h, al_k_1 h, al_k_2 h, al_k_5 h, al_k_6 h, al_k_7 h, al_k_11 h, al_k_14 h, al_k_418 h, al_k_421 h, al_k_425 h, i]) bc_3 (by decide) (by decide) in_3 w_2_92 dX12_count_117 (mvE (f := 310) (v := 0) rfl rfl (by simp (disch := omega) only [q_I_s_J, q_I_s_P, q_I_s_A, q_I_s_B, q_I_s_C, q_I_n_A, q_I_r_A, q_I_r_B, y_I_s_I, x_I_s_I, y_I_n_O, x_I_n_O, al_i_1001 h, al_i_102 h, al_i_604 h, al_i_605 h, al_i_504 h, al_i_505 h, al_i_205 h, al_i_206 h, al_i_403 h, al_i_310 h, i])) ?_
      exact v_ireturn hX hE dX12_count_120 (by omega) (by omega) ⟨by rw [cnt0, if_pos (by omega)], rfl, rfl⟩
    · refine v_tableIn hX (off := 120) (tgt := 121) dX12_count_1 (by omega) (by omega) (by rw [e]; rfl) (by decide) ?_
      refine v_aload_n hX dX12_count_121 (i := 0) rfl rfl ?_
      refine v_get hX (ci := 10) (k := 3) (by simp (disch := omega) only [q_K_s_I, q_K_s_J, q_K_s_P, q_K_s_A, q_K_s_B, q_K_s_C, q_K_r_A, q_K_r_B, y_K_n_O, x_K_n_O, y_K_n_A, x_K_n_A, al_k_0 h, al_k_1 h, al_k_2 h, al_k_5 h, al_k_6 h, al_k_7 h, al_k_11 h, al_k_14 h, al_k_418 h, al_k_421 h, al_k_425 h, i]) bc_10 (by decide) (by decide) in_10 w_2_178 dX12_count_122 (mvP (f := 1003) (q := (x + 5)) rfl rfl (by simp (disch := omega) only [q_P_s_I, q_P_s_J, q_P_s_A, q_P_s_B, q_P_s_C, q_P_n_A, q_P_r_A, q_P_r_B, y_P_s_P, x_P_s_P, y_P_n_O, x_P_n_O, al_p_1000 h, al_p_1002 h, al_p_1003 h, al_p_1004 h, al_p_600 h, al_p_601 h, al_p_602 h, al_p_500 h, al_p_203 h, al_p_905 h, al_p_906 h, i])) ?_
      refine v_get hX (ci := 6) (k := 6) (by simp (disch := omega) only [q_K_s_I, q_K_s_J, q_K_s_P, q_K_s_A, q_K_s_B, q_K_s_C, q_K_r_A, q_K_r_B, y_K_n_O, x_K_n_O, y_K_n_A, x_K_n_A, al_k_0 h, al_k_1 h, al_k_2 h, al_k_5 h, al_k_6 h, al_k_7 h, al_k_11 h, al_k_14 h, al_k_418 h, al_k_421 h, al_k_425 h, i]) bc_6 (by decide) (by decide) in_6 w_1_205 dX12_count_125 (mvE (f := 606) (v := 0) rfl rfl (by simp (disch := omega) only [q_I_s_J, q_I_s_P, q_I_s_A, q_I_s_B, q_I_s_C, q_I_n_A, q_I_r_A, q_I_r_B, y_I_s_I, x_I_s_I, y_I_n_O, x_I_n_O, al_i_1001 h, al_i_102 h, al_i_604 h, al_i_605 h, al_i_504 h, al_i_505 h, al_i_205 h, al_i_206 h, al_i_403 h, al_i_310 h, i])) ?_
      exact v_ireturn hX hE dX12_count_128 (by omega) (by omega) ⟨by rw [cnt0, if_pos (by omega)], rfl, rfl⟩
    · refine v_tableIn hX (off := 128) (tgt := 129) dX12_count_1 (by omega) (by omega) (by rw [e]; rfl) (by decide) ?_
      refine v_aload_n hX dX12_count_129 (i := 0) rfl rfl ?_
      refine v_get hX (ci := 10) (k := 2) (by simp (disch := omega) only [q_K_s_I, q_K_s_J, q_K_s_P, q_K_s_A, q_K_s_B, q_K_s_C, q_K_r_A, q_K_r_B, y_K_n_O, x_K_n_O, y_K_n_A, x_K_n_A, al_k_0 h, al_k_1 h, al_k_2 h, al_k_5 h, al_k_6 h, al_k_7 h, al_k_11 h, al_k_14 h, al_k_418 h, al_k_421 h, al_k_425 h, i]) bc_10 (by decide) (by decide) in_10 w_2_177 dX12_count_130 (mvP (f := 1002) (q := (x + 2)) rfl rfl (by simp (disch := omega) only [q_P_s_I, q_P_s_J, q_P_s_A, q_P_s_B, q_P_s_C, q_P_n_A, q_P_r_A, q_P_r_B, y_P_s_P, x_P_s_P, y_P_n_O, x_P_n_O, al_p_1000 h, al_p_1002 h, al_p_1003 h, al_p_1004 h, al_p_600 h, al_p_601 h, al_p_602 h, al_p_500 h, al_p_203 h, al_p_905 h, al_p_906 h, i])) ?_
      refine v_get hX (ci := 1) (k := 2) (by simp (disch := omega) only [q_K_s_I, q_K_s_J, q_K_s_P, q_K_s_A, q_K_s_B, q_K_s_C, q_K_r_A, q_K_r_B, y_K_n_O, x_K_n_O, y_K_n_A, x_K_n_A, al_k_0 h, al_k_1 h, al_k_2 h, al_k_5 h, al_k_6 h, al_k_7 h, al_k_11 h, al_k_14 h, al_k_418 h, al_k_421 h, al_k_425 h, i]) bc_1 (by decide) (by decide) in_1 w_1_48 dX12_count_133 (mvE (f := 102) (v := 0) rfl rfl (by simp (disch := omega) only [q_I_s_J, q_I_s_P, q_I_s_A, q_I_s_B, q_I_s_C, q_I_n_A, q_I_r_A, q_I_r_B, y_I_s_I, x_I_s_I, y_I_n_O, x_I_n_O, al_i_1001 h, al_i_102 h, al_i_604 h, al_i_605 h, al_i_504 h, al_i_505 h, al_i_205 h, al_i_206 h, al_i_403 h, al_i_310 h, i])) ?_
      exact v_ireturn hX hE dX12_count_136 (by omega) (by omega) ⟨by rw [cnt0, if_pos (by omega)], rfl, rfl⟩
    · refine v_tableIn hX (off := 136) (tgt := 137) dX12_count_1 (by omega) (by omega) (by rw [e]; rfl) (by decide) ?_
      refine v_aload_n hX dX12_count_137 (i := 0) rfl rfl ?_
      refine v_get hX (ci := 10) (k := 3) (by simp (disch := omega) only [q_K_s_I, q_K_s_J, q_K_s_P, q_K_s_A, q_K_s_B, q_K_s_C, q_K_r_A, q_K_r_B, y_K_n_O, x_K_n_O, y_K_n_A, x_K_n_A, al_k_0 h, al_k_1 h, al_k_2 h, al_k_5 h, al_k_6 h, al_k_7 h, al_k_11 h, al_k_14 h, al_k_418 h, al_k_421 h, al_k_425 h, i]) bc_10 (by decide) (by decide) in_10 w_2_178 dX12_count_138 (mvP (f := 1003) (q := (x + 5)) rfl rfl (by simp (disch := omega) only [q_P_s_I, q_P_s_J, q_P_s_A, q_P_s_B, q_P_s_C, q_P_n_A, q_P_r_A, q_P_r_B, y_P_s_P, x_P_s_P, y_P_n_O, x_P_n_O, al_p_1000 h, al_p_1002 h, al_p_1003 h, al_p_1004 h, al_p_600 h, al_p_601 h, al_p_602 h, al_p_500 h, al_p_203 h, al_p_905 h, al_p_906 h, i])) ?_
      refine v_callV hX (n := 0) (c_Prog_longs h) (by simp (disch := omega) only [q_K_s_I, q_K_s_J, q_K_s_P, q_K_s_A, q_K_s_B, q_K_s_C, q_K_r_A, q_K_r_B, y_K_n_O, x_K_n_O, y_K_n_A, x_K_n_A, al_k_0 h, al_k_1 h, al_k_2 h, al_k_5 h, al_k_6 h, al_k_7 h, al_k_11 h, al_k_14 h, al_k_418 h, al_k_421 h, al_k_425 h, i]) bc_6 (by decide) w_2_195 w_2_196 w_2_197 w_1_3 w_2_198 (by decide +kernel) rfl ⟨by decide, by decide⟩ ⟨by omega, by omega⟩ (Nat.le_of_ble_eq_true rfl) rfl dX12_count_141 (fun _ _ _ h => h) ?_
      rintro r1 S1 z1 ⟨rfl, rfl, rfl⟩
      exact v_ireturn hX hE dX12_count_144 (by omega) (by omega) ⟨by rw [cnt0, if_pos (by omega)], rfl, rfl⟩
  · refine v_tableOut hX (tgt := 145) dX12_count_1 (by omega) (by decide) ?_
    refine v_iconst hX (v := (-1)) dX12_count_145 (by decide) ?_
    exact v_ireturn hX hE dX12_count_146 (by omega) (by omega) ⟨by rw [cnt0, if_neg hk], rfl, rfl⟩
