/-- letters, digits and _ -/
def prt (c : Int) : Prop := (97 ≤ c ∧ c ≤ 122) ∨ c = 95 ∨ (48 ≤ c ∧ c ≤ 57)
/-- no eleven of them stand side by side -/
def nr (S : b_M) (a : Nat) (lo hi : Int) : Prop := ∀ k : Int, lo ≤ k → k + 11 ≤ hi → ∃ j : Int, k ≤ j ∧ j < k + 11 ∧ ¬ prt (rAt S a j)
theorem nr_c {S S1 : b_M} {a : Nat} {lo hi : Int} (hc : ∀ i, rAt S1 a i = rAt S a i) (h : nr S1 a lo hi) : nr S a lo hi := fun k h1 h2 => by
  obtain ⟨j, q1, q2, q3⟩ := h k h1 h2
  exact ⟨j, q1, q2, by rw [← hc]; exact q3⟩
theorem np32 {c : Int} (h : c = 32) : ¬ prt c := by unfold prt; omega
theorem nr_step {S : b_M} {a : Nat} {lo p q t u : Int} (h : nr S a lo p) (hp : ¬ prt (rAt S a p)) (hq : p + 1 ≤ q) (hb : ∀ j : Int, p + 1 ≤ j → j < q → rAt S a j = 32) (ht : q ≤ t ∧ t ≤ q + 10) (htu : t ≤ u) (hu : ∀ j : Int, t ≤ j → j < u → rAt S a j = 32) : nr S a lo u := by
  intro k h1 h2
  rcases (show k + 11 ≤ p ∨ (k ≤ p ∧ p < k + 11) ∨ (p + 1 ≤ k ∧ k < q) ∨ (q ≤ k ∧ k < t) ∨ (q ≤ k ∧ t ≤ k) by omega) with c | c | c | c | c
  · exact h k h1 c
  · exact ⟨p, c.1, c.2, hp⟩
  · exact ⟨k, by omega, by omega, np32 (hb k c.1 c.2)⟩
  · exact ⟨t, by omega, by omega, np32 (hu t (by omega) (by omega))⟩
  · exact ⟨k, by omega, by omega, np32 (hu k (by omega) (by omega))⟩
theorem nr_first {S : b_M} {a : Nat} {lo s q t u : Int} (hs : s = lo ∨ (s = lo + 1 ∧ ¬ prt (rAt S a lo))) (hq : s ≤ q) (hb : ∀ j : Int, s ≤ j → j < q → rAt S a j = 32) (ht : q ≤ t ∧ t ≤ q + 10) (htu : t ≤ u) (hu : ∀ j : Int, t ≤ j → j < u → rAt S a j = 32) : nr S a lo u := by
  intro k h1 h2
  rcases (show (k < s) ∨ (s ≤ k ∧ k < q) ∨ (q ≤ k ∧ k < t) ∨ (q ≤ k ∧ t ≤ k) by omega) with c | c | c | c
  · rcases hs with e | ⟨e, hp⟩
    · omega
    · exact ⟨lo, by omega, by omega, hp⟩
  · exact ⟨k, by omega, by omega, np32 (hb k c.1 c.2)⟩
  · exact ⟨t, by omega, by omega, np32 (hu t (by omega) (by omega))⟩
  · exact ⟨k, by omega, by omega, np32 (hu k (by omega) (by omega))⟩
set_option maxRecDepth 100000 in
set_option maxHeartbeats 4000000 in
theorem k_takeRegister {kn : Nat → Nat} {B : Nat} {S : b_M} {z x : Nat} {at_ : Int} {ls : Int} {bd : Int} (h : mS S x) (e_at_ : m_I S 1108 x = iI at_) (b_at_ : -2147483648 ≤ at_ ∧ at_ < 2147483648) (e_ls : m_I S 1107 x = iI ls) (b_ls : -2147483648 ≤ ls ∧ ls < 2147483648) (e_bd : m_I S 1110 x = iI bd) (b_bd : -2147483648 ≤ bd ∧ bd < 2147483648) (p : 0 ≤ at_ ∧ ls ≤ 8400 ∧ (bd = 0 ∨ bd = 1)) : b_C kn B yX13_takeRegister cX13_takeRegister 3 (some .int) 5 105 0 0 [.ref x] S z (fun r S' z' => z = z' ∧ mFr [1108, 1110] [] [] S S' x ∧ ∃ q a1 b1 : Int, r = some (.int (iI q)) ∧ (-2147483648 ≤ q ∧ q < 2147483648) ∧ m_I S' 1108 x = iI a1 ∧ (-2147483648 ≤ a1 ∧ a1 < 2147483648) ∧ m_I S' 1110 x = iI b1 ∧ (-2147483648 ≤ b1 ∧ b1 < 2147483648) ∧ (at_ ≤ a1 ∧ (a1 = at_ ∨ a1 ≤ ls) ∧ (b1 = 0 ∨ b1 = 1) ∧ (b1 = 0 → bd = 0) ∧ 0 ≤ q ∧ q ≤ 7)) (fun _ _ _ => False) := by
  refine b_enter (by decide) (Nat.le_of_ble_eq_true rfl) ?_
  intro X hX hE hnL hkn hB hI_
  subst hkn; subst hB
  clear hI_
  have L42 : ∀ (S42c : b_M) (a0 : Int) (w : Int) (bb : Int), mFr [1108, 1110] [] [] S S42c x → m_I S42c 1108 x = iI a0 → (-2147483648 ≤ a0 ∧ a0 < 2147483648) → (at_ ≤ a0 ∧ (a0 = at_ ∨ a0 ≤ ls) ∧ (bb = 0 ∨ bb = 1) ∧ (bb = 0 → bd = 0 ∧ 1179 ≤ w ∧ w ≤ 1186) ∧ 0 ≤ w ∧ w < 1152921504606846976) → b_V X S42c z 0 0 42 [(1, .long (jJ w)), (0, .ref x)] [.int (iI bb), .ref x] := by
    intro S42c a0 w bb fr42 e_a0 b_a0 p42_0
    have h42c : mS S42c x := fr42.keep h
    have hc42_5 : ∀ i, rAt S42c (x + 5) i = rAt S (x + 5) i := fun i => (fr42.1 (x + 5) (by omega) (fun j hj => absurd hj List.not_mem_nil)).rA i
    have e42_ls : m_I S42c 1107 x = iI ls := (fr42.2.2.2.1 1107 (by decide)).trans e_ls
    refine v_putI hX (ci := 11) (k := 10) (f := 1110) (ms_kx h42c) bc_11 (by decide) (by decide) in_11 tyX13_ok nmX13 w_5_226 (Or.inl rfl) (nar_b (by omega)) (fit_b (by omega)) dX13_takeRegister_42 rfl rfl ?_
    refine v_aload_n hX dX13_takeRegister_45 (i := 0) rfl rfl ?_
    refine v_get hX (ci := 11) (k := 10) (ms_kx h42c) bc_11 (by decide) (by decide) in_11 w_5_226 dX13_takeRegister_46 (mvF (f := 1110) (v := iI bb) rfl rfl (by simp (disch := omega) only [q_I_s_J, q_I_s_P, q_I_s_A, q_I_s_B, q_I_s_C, q_I_n_A, q_I_r_A, q_I_r_B, y_I_s_I, x_I_s_I, y_I_n_O, x_I_n_O, e42_ls, e_a0])) ?_
    refine u_if_eq hX (tgt := 56) dX13_takeRegister_49 (by decide) ⟨by omega, by omega⟩ (fun h1_ => ?_) (fun h1_ => ?_)
    ·
      refine v_lload_n hX dX13_takeRegister_56 (i := 1) rfl rfl ?_
      refine v_ldc2 hX (v := jJ 1179) dX13_takeRegister_57 (show Cond.constantLong _ _ (jJ 1179) ∈ b_Ws from w_7_48) ?_
      refine u_lsub hX dX13_takeRegister_60 ?_
      refine u_l2i hX dX13_takeRegister_61 ?_
      exact v_ireturn hX hE dX13_takeRegister_62 (by omega) (by omega) ⟨rfl, (fr42.sI (by decide)), (w - 1179), a0, bb, rfl, ⟨by omega, by omega⟩, (by simp (disch := omega) only [q_I_s_J, q_I_s_P, q_I_s_A, q_I_s_B, q_I_s_C, q_I_n_A, q_I_r_A, q_I_r_B, y_I_s_I, x_I_s_I, y_I_n_O, x_I_n_O, e42_ls, e_a0]), ⟨by omega, by omega⟩, (by simp (disch := omega) only [q_I_s_J, q_I_s_P, q_I_s_A, q_I_s_B, q_I_s_C, q_I_n_A, q_I_r_A, q_I_r_B, y_I_s_I, x_I_s_I, y_I_n_O, x_I_n_O, e42_ls, e_a0]), ⟨by omega, by omega⟩, (by omega)⟩
    ·
      refine v_iconst hX (v := iI 0) dX13_takeRegister_52 rfl ?_
      refine v_goto hX (tgt := 62) dX13_takeRegister_53 (by decide) ?_
      exact v_ireturn hX hE dX13_takeRegister_62 (by omega) (by omega) ⟨rfl, (fr42.sI (by decide)), 0, a0, bb, rfl, ⟨by omega, by omega⟩, (by simp (disch := omega) only [q_I_s_J, q_I_s_P, q_I_s_A, q_I_s_B, q_I_s_C, q_I_n_A, q_I_r_A, q_I_r_B, y_I_s_I, x_I_s_I, y_I_n_O, x_I_n_O, e42_ls, e_a0]), ⟨by omega, by omega⟩, (by simp (disch := omega) only [q_I_s_J, q_I_s_P, q_I_s_A, q_I_s_B, q_I_s_C, q_I_n_A, q_I_r_A, q_I_r_B, y_I_s_I, x_I_s_I, y_I_n_O, x_I_n_O, e42_ls, e_a0]), ⟨by omega, by omega⟩, (by omega)⟩
  change b_V X S z 0 0 0 [(0, .ref x)] []
  refine v_aload_n hX dX13_takeRegister_0 (i := 0) rfl rfl ?_
  refine v_callV hX (n := 0) (k_now (S := S) (x := x) (at_ := at_) (ls := ls) h (by simp (disch := omega) only [q_I_s_J, q_I_s_P, q_I_s_A, q_I_s_B, q_I_s_C, q_I_n_A, q_I_r_A, q_I_r_B, y_I_s_I, x_I_s_I, y_I_n_O, x_I_n_O, e_at_, e_ls, e_bd]) ⟨by omega, by omega⟩ (by simp (disch := omega) only [q_I_s_J, q_I_s_P, q_I_s_A, q_I_s_B, q_I_s_C, q_I_n_A, q_I_r_A, q_I_r_B, y_I_s_I, x_I_s_I, y_I_n_O, x_I_n_O, e_at_, e_ls, e_bd]) ⟨by omega, by omega⟩ (by omega)) (ms_kx h) bc_11 (by decide) w_7_29 w_7_31 (bw_p (q := (yX13_now, 72)) (List.mem_of_getElem? (i := 51) rfl) rfl) w_1_16 w_7_32 (by decide +kernel) rfl ⟨by decide, by decide⟩ ⟨by omega, by omega⟩ (Nat.le_of_ble_eq_true rfl) rfl dX13_takeRegister_1 (fun _ _ _ q => q) ?_
  rintro r2_ S2_ z2_ ⟨rfl, rfl, v3_, rfl, b_v3_, q2_⟩
  refine v_callS hX (n := 1) (k_isStart (S := S) (x := 0) (c := v3_) ⟨by omega, by omega⟩) w_6_236 w_6_237 w_1_16 w_6_238 (by decide +kernel) rfl ⟨by decide, by decide⟩ ⟨by omega, by omega⟩ (Nat.le_of_ble_eq_true rfl) rfl dX13_takeRegister_4 (fun _ _ _ q => q) ?_
  rintro r4_ S4_ z4_ ⟨rfl, rfl, v5_, rfl, b_v5_, q4_⟩
  refine u_if_ne hX (tgt := 17) dX13_takeRegister_7 (by decide) ⟨by omega, by omega⟩ (fun h6_ => ?_) (fun h6_ => ?_)
  ·
    refine v_aload_n hX dX13_takeRegister_17 (i := 0) rfl rfl ?_
    refine v_callV hX (n := 0) (k_takeName (S := S) (x := x) (at_ := at_) (ls := ls) (bd := bd) h (by simp (disch := omega) only [q_I_s_J, q_I_s_P, q_I_s_A, q_I_s_B, q_I_s_C, q_I_n_A, q_I_r_A, q_I_r_B, y_I_s_I, x_I_s_I, y_I_n_O, x_I_n_O, e_at_, e_ls, e_bd]) ⟨by omega, by omega⟩ (by simp (disch := omega) only [q_I_s_J, q_I_s_P, q_I_s_A, q_I_s_B, q_I_s_C, q_I_n_A, q_I_r_A, q_I_r_B, y_I_s_I, x_I_s_I, y_I_n_O, x_I_n_O, e_at_, e_ls, e_bd]) ⟨by omega, by omega⟩ (by simp (disch := omega) only [q_I_s_J, q_I_s_P, q_I_s_A, q_I_s_B, q_I_s_C, q_I_n_A, q_I_r_A, q_I_r_B, y_I_s_I, x_I_s_I, y_I_n_O, x_I_n_O, e_at_, e_ls, e_bd]) ⟨by omega, by omega⟩ (by omega)) (ms_kx h) bc_11 (by decide) w_7_37 w_7_39 (bw_p (q := (yX13_takeName, 72)) (List.mem_of_getElem? (i := 53) rfl) rfl) w_1_16 w_7_40 (by decide +kernel) rfl ⟨by decide, by decide⟩ ⟨by omega, by omega⟩ (Nat.le_of_ble_eq_true rfl) rfl dX13_takeRegister_18 (fun _ _ _ q => q) ?_
    rintro r7_ S7_ z7_ ⟨rfl, f7_, v8_, v9_, v10_, rfl, b_v8_, e_v9_, b_v9_, e_v10_, b_v10_, q7_⟩
    have e7_1107 : m_I S7_ 1107 x = iI ls := (f7_.2.2.2.1 1107 (by decide)).trans (by simp (disch := omega) only [q_I_s_J, q_I_s_P, q_I_s_A, q_I_s_B, q_I_s_C, q_I_n_A, q_I_r_A, q_I_r_B, y_I_s_I, x_I_s_I, y_I_n_O, x_I_n_O, e_at_, e_ls, e_bd])
    have h7_ : mS S7_ x := f7_.keep h
    have hc7_5 : ∀ i, rAt S7_ (x + 5) i = rAt S (x + 5) i := fun i => ((f7_.1 (x + 5) (by omega) (fun j hj => absurd hj List.not_mem_nil)).rA i).trans rfl
    refine v_lstore_n hX (lv' := [(1, .long (jJ v8_)), (0, .ref x)]) dX13_takeRegister_21 (i := 1) rfl (by rw [hnL]; decide) rfl ?_
    refine v_aload_n hX dX13_takeRegister_22 (i := 0) rfl rfl ?_
    refine v_aload_n hX dX13_takeRegister_23 (i := 0) rfl rfl ?_
    refine v_get hX (ci := 11) (k := 10) (ms_kx h7_) bc_11 (by decide) (by decide) in_11 w_5_226 dX13_takeRegister_24 (mvF (f := 1110) (v := iI v10_) rfl rfl (by simp (disch := omega) only [q_I_s_J, q_I_s_P, q_I_s_A, q_I_s_B, q_I_s_C, q_I_n_A, q_I_r_A, q_I_r_B, y_I_s_I, x_I_s_I, y_I_n_O, x_I_n_O, e7_1107, e_v9_, e_v10_])) ?_
    refine u_if_ne hX (tgt := 37) dX13_takeRegister_27 (by decide) ⟨by omega, by omega⟩ (fun h11_ => ?_) (fun h11_ => ?_)
    ·
      refine v_iconst hX (v := iI 1) dX13_takeRegister_37 rfl ?_
      refine v_goto hX (tgt := 42) dX13_takeRegister_38 (by decide) ?_
      exact L42 _ v9_ v8_ 1 ((mFr.rf _ _).tr (f7_.mono (by decide) (by decide) (by decide))) (by simp (disch := omega) only [q_I_s_J, q_I_s_P, q_I_s_A, q_I_s_B, q_I_s_C, q_I_n_A, q_I_r_A, q_I_r_B, y_I_s_I, x_I_s_I, y_I_n_O, x_I_n_O, e7_1107, e_v9_, e_v10_]) ⟨by omega, by omega⟩ (by omega)
    ·
      refine v_lload_n hX dX13_takeRegister_30 (i := 1) rfl rfl ?_
      refine v_callS hX (n := 1) (k_isReg (S := S7_) (x := 0) (v := v8_) ⟨by omega, by omega⟩) w_7_45 w_7_46 w_1_16 w_7_47 (by decide +kernel) rfl ⟨by decide, by decide⟩ ⟨by omega, by omega⟩ (Nat.le_of_ble_eq_true rfl) rfl dX13_takeRegister_31 (fun _ _ _ q => q) ?_
      rintro r12_ S12_ z12_ ⟨rfl, rfl, v13_, rfl, b_v13_, q12_⟩
      refine u_if_ne hX (tgt := 41) dX13_takeRegister_34 (by decide) ⟨by omega, by omega⟩ (fun h14_ => ?_) (fun h14_ => ?_)
      ·
        refine v_iconst hX (v := iI 0) dX13_takeRegister_41 rfl ?_
        exact L42 _ v9_ v8_ 0 ((mFr.rf _ _).tr (f7_.mono (by decide) (by decide) (by decide))) (by simp (disch := omega) only [q_I_s_J, q_I_s_P, q_I_s_A, q_I_s_B, q_I_s_C, q_I_n_A, q_I_r_A, q_I_r_B, y_I_s_I, x_I_s_I, y_I_n_O, x_I_n_O, e7_1107, e_v9_, e_v10_]) ⟨by omega, by omega⟩ (by omega)
      ·
        refine v_iconst hX (v := iI 1) dX13_takeRegister_37 rfl ?_
        refine v_goto hX (tgt := 42) dX13_takeRegister_38 (by decide) ?_
        exact L42 _ v9_ v8_ 1 ((mFr.rf _ _).tr (f7_.mono (by decide) (by decide) (by decide))) (by simp (disch := omega) only [q_I_s_J, q_I_s_P, q_I_s_A, q_I_s_B, q_I_s_C, q_I_n_A, q_I_r_A, q_I_r_B, y_I_s_I, x_I_s_I, y_I_n_O, x_I_n_O, e7_1107, e_v9_, e_v10_]) ⟨by omega, by omega⟩ (by omega)
  ·
    refine v_aload_n hX dX13_takeRegister_10 (i := 0) rfl rfl ?_
    refine v_iconst hX (v := iI 1) dX13_takeRegister_11 rfl ?_
    refine v_putI hX (ci := 11) (k := 10) (f := 1110) (ms_kx h) bc_11 (by decide) (by decide) in_11 tyX13_ok nmX13 w_5_226 (Or.inl rfl) (nar_b (by omega)) (fit_b (by omega)) dX13_takeRegister_12 rfl rfl ?_
    refine v_iconst hX (v := iI 0) dX13_takeRegister_15 rfl ?_
    exact v_ireturn hX hE dX13_takeRegister_16 (by omega) (by omega) ⟨rfl, ((mFr.rf _ _).sI (by decide)), 0, at_, 1, rfl, ⟨by omega, by omega⟩, (by simp (disch := omega) only [q_I_s_J, q_I_s_P, q_I_s_A, q_I_s_B, q_I_s_C, q_I_n_A, q_I_r_A, q_I_r_B, y_I_s_I, x_I_s_I, y_I_n_O, x_I_n_O, e_at_, e_ls, e_bd]), ⟨by omega, by omega⟩, (by simp (disch := omega) only [q_I_s_J, q_I_s_P, q_I_s_A, q_I_s_B, q_I_s_C, q_I_n_A, q_I_r_A, q_I_r_B, y_I_s_I, x_I_s_I, y_I_n_O, x_I_n_O, e_at_, e_ls, e_bd]), ⟨by omega, by omega⟩, (by omega)⟩
set_option maxRecDepth 100000 in
set_option maxHeartbeats 4000000 in
theorem k_isDone {kn : Nat → Nat} {B : Nat} {S : b_M} {z x : Nat} {at_ : Int} {ls : Int} {bd : Int} (h : mS S x) (e_at_ : m_I S 1108 x = iI at_) (b_at_ : -2147483648 ≤ at_ ∧ at_ < 2147483648) (e_ls : m_I S 1107 x = iI ls) (b_ls : -2147483648 ≤ ls ∧ ls < 2147483648) (e_bd : m_I S 1110 x = iI bd) (b_bd : -2147483648 ≤ bd ∧ bd < 2147483648) (p : 0 ≤ at_ ∧ ls ≤ 8400 ∧ (bd = 0 ∨ bd = 1)) : b_C kn B yX13_isDone cX13_isDone 1 none 2 40 0 0 [.ref x] S z (fun r S' z' => z = z' ∧ mFr [1108, 1110] [] [] S S' x ∧ ∃ a1 b1 : Int, r = none ∧ m_I S' 1108 x = iI a1 ∧ (-2147483648 ≤ a1 ∧ a1 < 2147483648) ∧ m_I S' 1110 x = iI b1 ∧ (-2147483648 ≤ b1 ∧ b1 < 2147483648) ∧ (at_ ≤ a1 ∧ (a1 = at_ ∨ a1 ≤ ls) ∧ (b1 = 0 ∨ b1 = 1) ∧ (b1 = 0 → bd = 0) ∧ (b1 = 0 → ls ≤ a1))) (fun _ _ _ => False) := by
  refine b_enter (by decide) (Nat.le_of_ble_eq_true rfl) ?_
  intro X hX hE hnL hkn hB hI_
  subst hkn; subst hB
  clear hI_
  have L28 : ∀ (S28c : b_M) (a0 : Int) (bb : Int), mFr [1108, 1110] [] [] S S28c x → m_I S28c 1108 x = iI a0 → (-2147483648 ≤ a0 ∧ a0 < 2147483648) → (at_ ≤ a0 ∧ (a0 = at_ ∨ a0 ≤ ls) ∧ (bb = 0 ∨ bb = 1) ∧ (bb = 0 → bd = 0 ∧ ls ≤ a0)) → b_V X S28c z 0 0 28 [(0, .ref x)] [.int (iI bb), .ref x] := by
    intro S28c a0 bb fr28 e_a0 b_a0 p28_0
    have h28c : mS S28c x := fr28.keep h
    have hc28_5 : ∀ i, rAt S28c (x + 5) i = rAt S (x + 5) i := fun i => (fr28.1 (x + 5) (by omega) (fun j hj => absurd hj List.not_mem_nil)).rA i
    have e28_ls : m_I S28c 1107 x = iI ls := (fr28.2.2.2.1 1107 (by decide)).trans e_ls
    refine v_putI hX (ci := 11) (k := 10) (f := 1110) (ms_kx h28c) bc_11 (by decide) (by decide) in_11 tyX13_ok nmX13 w_5_226 (Or.inl rfl) (nar_b (by omega)) (fit_b (by omega)) dX13_isDone_28 rfl rfl ?_
    exact v_return hX hE dX13_isDone_31 (by omega) (by omega) ⟨rfl, (fr28.sI (by decide)), a0, bb, rfl, (by simp (disch := omega) only [q_I_s_J, q_I_s_P, q_I_s_A, q_I_s_B, q_I_s_C, q_I_n_A, q_I_r_A, q_I_r_B, y_I_s_I, x_I_s_I, y_I_n_O, x_I_n_O, e28_ls, e_a0]), ⟨by omega, by omega⟩, (by simp (disch := omega) only [q_I_s_J, q_I_s_P, q_I_s_A, q_I_s_B, q_I_s_C, q_I_n_A, q_I_r_A, q_I_r_B, y_I_s_I, x_I_s_I, y_I_n_O, x_I_n_O, e28_ls, e_a0]), ⟨by omega, by omega⟩, (by omega)⟩
  change b_V X S z 0 0 0 [(0, .ref x)] []
  refine v_aload_n hX dX13_isDone_0 (i := 0) rfl rfl ?_
  refine v_callV hX (n := 0) (k_passBlanks (S := S) (x := x) (at_ := at_) (ls := ls) h (by simp (disch := omega) only [q_I_s_J, q_I_s_P, q_I_s_A, q_I_s_B, q_I_s_C, q_I_n_A, q_I_r_A, q_I_r_B, y_I_s_I, x_I_s_I, y_I_n_O, x_I_n_O, e_at_, e_ls, e_bd]) ⟨by omega, by omega⟩ (by simp (disch := omega) only [q_I_s_J, q_I_s_P, q_I_s_A, q_I_s_B, q_I_s_C, q_I_n_A, q_I_r_A, q_I_r_B, y_I_s_I, x_I_s_I, y_I_n_O, x_I_n_O, e_at_, e_ls, e_bd]) ⟨by omega, by omega⟩ (by omega)) (ms_kx h) bc_11 (by decide) w_7_25 w_7_27 (bw_p (q := (yX13_passBlanks, 72)) (List.mem_of_getElem? (i := 50) rfl) rfl) w_1_16 w_7_28 (by decide +kernel) rfl ⟨by decide, by decide⟩ ⟨by omega, by omega⟩ (Nat.le_of_ble_eq_true rfl) rfl dX13_isDone_1 (fun _ _ _ q => q) ?_
  rintro r1_ S1_ z1_ ⟨rfl, f1_, v2_, rfl, e_v2_, b_v2_, q1_, q1_0⟩
  have e1_1107 : m_I S1_ 1107 x = iI ls := (f1_.2.2.2.1 1107 (by decide)).trans (by simp (disch := omega) only [q_I_s_J, q_I_s_P, q_I_s_A, q_I_s_B, q_I_s_C, q_I_n_A, q_I_r_A, q_I_r_B, y_I_s_I, x_I_s_I, y_I_n_O, x_I_n_O, e_at_, e_ls, e_bd])
  have e1_1110 : m_I S1_ 1110 x = iI bd := (f1_.2.2.2.1 1110 (by decide)).trans (by simp (disch := omega) only [q_I_s_J, q_I_s_P, q_I_s_A, q_I_s_B, q_I_s_C, q_I_n_A, q_I_r_A, q_I_r_B, y_I_s_I, x_I_s_I, y_I_n_O, x_I_n_O, e_at_, e_ls, e_bd])
  have h1_ : mS S1_ x := f1_.keep h
  have hc1_5 : ∀ i, rAt S1_ (x + 5) i = rAt S (x + 5) i := fun i => ((f1_.1 (x + 5) (by omega) (fun j hj => absurd hj List.not_mem_nil)).rA i).trans rfl
  refine v_aload_n hX dX13_isDone_4 (i := 0) rfl rfl ?_
  refine v_aload_n hX dX13_isDone_5 (i := 0) rfl rfl ?_
  refine v_get hX (ci := 11) (k := 10) (ms_kx h1_) bc_11 (by decide) (by decide) in_11 w_5_226 dX13_isDone_6 (mvF (f := 1110) (v := iI bd) rfl rfl (by simp (disch := omega) only [q_I_s_J, q_I_s_P, q_I_s_A, q_I_s_B, q_I_s_C, q_I_n_A, q_I_r_A, q_I_r_B, y_I_s_I, x_I_s_I, y_I_n_O, x_I_n_O, e1_1107, e1_1110, e_v2_])) ?_
  refine u_if_ne hX (tgt := 23) dX13_isDone_9 (by decide) ⟨by omega, by omega⟩ (fun h3_ => ?_) (fun h3_ => ?_)
  ·
    refine v_iconst hX (v := iI 1) dX13_isDone_23 rfl ?_
    refine v_goto hX (tgt := 28) dX13_isDone_24 (by decide) ?_
    exact L28 _ v2_ 1 ((mFr.rf _ _).tr (f1_.mono (by decide) (by decide) (by decide))) (by simp (disch := omega) only [q_I_s_J, q_I_s_P, q_I_s_A, q_I_s_B, q_I_s_C, q_I_n_A, q_I_r_A, q_I_r_B, y_I_s_I, x_I_s_I, y_I_n_O, x_I_n_O, e1_1107, e1_1110, e_v2_]) ⟨by omega, by omega⟩ (by omega)
  ·
    refine v_aload_n hX dX13_isDone_12 (i := 0) rfl rfl ?_
    refine v_get hX (ci := 11) (k := 8) (ms_kx h1_) bc_11 (by decide) (by decide) in_11 w_5_224 dX13_isDone_13 (mvF (f := 1108) (v := iI v2_) rfl rfl (by simp (disch := omega) only [q_I_s_J, q_I_s_P, q_I_s_A, q_I_s_B, q_I_s_C, q_I_n_A, q_I_r_A, q_I_r_B, y_I_s_I, x_I_s_I, y_I_n_O, x_I_n_O, e1_1107, e1_1110, e_v2_])) ?_
    refine v_aload_n hX dX13_isDone_16 (i := 0) rfl rfl ?_
    refine v_get hX (ci := 11) (k := 7) (ms_kx h1_) bc_11 (by decide) (by decide) in_11 w_5_223 dX13_isDone_17 (mvF (f := 1107) (v := iI ls) rfl rfl (by simp (disch := omega) only [q_I_s_J, q_I_s_P, q_I_s_A, q_I_s_B, q_I_s_C, q_I_n_A, q_I_r_A, q_I_r_B, y_I_s_I, x_I_s_I, y_I_n_O, x_I_n_O, e1_1107, e1_1110, e_v2_])) ?_
    refine u_icmp_ge hX (tgt := 27) dX13_isDone_20 (by decide) ⟨by omega, by omega⟩ ⟨by omega, by omega⟩ (fun h4_ => ?_) (fun h4_ => ?_)
    ·
      refine v_iconst hX (v := iI 0) dX13_isDone_27 rfl ?_
      exact L28 _ v2_ 0 ((mFr.rf _ _).tr (f1_.mono (by decide) (by decide) (by decide))) (by simp (disch := omega) only [q_I_s_J, q_I_s_P, q_I_s_A, q_I_s_B, q_I_s_C, q_I_n_A, q_I_r_A, q_I_r_B, y_I_s_I, x_I_s_I, y_I_n_O, x_I_n_O, e1_1107, e1_1110, e_v2_]) ⟨by omega, by omega⟩ (by omega)
    ·
      refine v_iconst hX (v := iI 1) dX13_isDone_23 rfl ?_
      refine v_goto hX (tgt := 28) dX13_isDone_24 (by decide) ?_
      exact L28 _ v2_ 1 ((mFr.rf _ _).tr (f1_.mono (by decide) (by decide) (by decide))) (by simp (disch := omega) only [q_I_s_J, q_I_s_P, q_I_s_A, q_I_s_B, q_I_s_C, q_I_n_A, q_I_r_A, q_I_r_B, y_I_s_I, x_I_s_I, y_I_n_O, x_I_n_O, e1_1107, e1_1110, e_v2_]) ⟨by omega, by omega⟩ (by omega)
set_option maxRecDepth 100000 in
set_option maxHeartbeats 4000000 in
theorem k_passTerm {kn : Nat → Nat} {B : Nat} {S : b_M} {z x : Nat} {at_ : Int} {ls : Int} {bd : Int} (h : mS S x) (e_at_ : m_I S 1108 x = iI at_) (b_at_ : -2147483648 ≤ at_ ∧ at_ < 2147483648) (e_ls : m_I S 1107 x = iI ls) (b_ls : -2147483648 ≤ ls ∧ ls < 2147483648) (e_bd : m_I S 1110 x = iI bd) (b_bd : -2147483648 ≤ bd ∧ bd < 2147483648) (p : 0 ≤ at_ ∧ ls ≤ 8400 ∧ (bd = 0 ∨ bd = 1)) : b_C kn B yX13_passTerm cX13_passTerm 2 none 5 105 0 0 [.ref x] S z (fun r S' z' => z = z' ∧ mFr [1108, 1110] [] [] S S' x ∧ ∃ a1 b1 : Int, r = none ∧ m_I S' 1108 x = iI a1 ∧ (-2147483648 ≤ a1 ∧ a1 < 2147483648) ∧ m_I S' 1110 x = iI b1 ∧ (-2147483648 ≤ b1 ∧ b1 < 2147483648) ∧ (at_ ≤ a1 ∧ (a1 = at_ ∨ a1 ≤ ls) ∧ (b1 = 0 ∨ b1 = 1) ∧ (b1 = 0 → bd = 0) ∧ (b1 = 0 → a1 ≤ at_ + 10))) (fun _ _ _ => False) := by
  refine b_enter (by decide) (Nat.le_of_ble_eq_true rfl) ?_
  intro X hX hE hnL hkn hB hI_
  subst hkn; subst hB
  clear hI_
  have L196 : ∀ (S196c : b_M) (a0 : Int) (b0 : Int), mFr [1108, 1110] [] [] S S196c x → m_I S196c 1108 x = iI a0 → m_I S196c 1110 x = iI b0 → (-2147483648 ≤ a0 ∧ a0 < 2147483648) → (-2147483648 ≤ b0 ∧ b0 < 2147483648) → (at_ ≤ a0 ∧ (a0 = at_ ∨ a0 ≤ ls) ∧ (b0 = 0 ∨ b0 = 1) ∧ (b0 = 0 → bd = 0 ∧ a0 ≤ at_ + 10)) → b_V X S196c z 0 0 196 [(0, .ref x)] [] := by
    intro S196c a0 b0 fr196 e_a0 e_b0 b_a0 b_b0 p196_0
    have h196c : mS S196c x := fr196.keep h
    have hc196_5 : ∀ i, rAt S196c (x + 5) i = rAt S (x + 5) i := fun i => (fr196.1 (x + 5) (by omega) (fun j hj => absurd hj List.not_mem_nil)).rA i
    have e196_ls : m_I S196c 1107 x = iI ls := (fr196.2.2.2.1 1107 (by decide)).trans e_ls
    exact v_return hX hE dX13_passTerm_196 (by omega) (by omega) ⟨rfl, fr196, a0, b0, rfl, (by simp (disch := omega) only [q_I_s_J, q_I_s_P, q_I_s_A, q_I_s_B, q_I_s_C, q_I_n_A, q_I_r_A, q_I_r_B, y_I_s_I, x_I_s_I, y_I_n_O, x_I_n_O, e196_ls, e_a0, e_b0]), ⟨by omega, by omega⟩, (by simp (disch := omega) only [q_I_s_J, q_I_s_P, q_I_s_A, q_I_s_B, q_I_s_C, q_I_n_A, q_I_r_A, q_I_r_B, y_I_s_I, x_I_s_I, y_I_n_O, x_I_n_O, e196_ls, e_a0, e_b0]), ⟨by omega, by omega⟩, (by omega)⟩
  have L156 : ∀ (n156 : Nat) (S156c : b_M) (a0 : Int) (b0 : Int) (n : Int), mFr [1108, 1110] [] [] S S156c x → m_I S156c 1108 x = iI a0 → m_I S156c 1110 x = iI b0 → (-2147483648 ≤ a0 ∧ a0 < 2147483648) → (-2147483648 ≤ b0 ∧ b0 < 2147483648) → (b0 = bd ∧ 0 ≤ n ∧ n ≤ 9 ∧ a0 = at_ + n ∧ (a0 = at_ ∨ a0 ≤ ls)) → (9 - n).toNat = n156 → b_V X S156c z 0 0 156 [(1, .int (iI n)), (0, .ref x)] [] := by
    intro n156
    induction n156 using Nat.strongRecOn with
    | _ n156 ih156 =>
    intro S156c a0 b0 n fr156 e_a0 e_b0 b_a0 b_b0 p156_0 hm156
    have h156c : mS S156c x := fr156.keep h
    have hc156_5 : ∀ i, rAt S156c (x + 5) i = rAt S (x + 5) i := fun i => (fr156.1 (x + 5) (by omega) (fun j hj => absurd hj List.not_mem_nil)).rA i
    have e156_ls : m_I S156c 1107 x = iI ls := (fr156.2.2.2.1 1107 (by decide)).trans e_ls
    refine v_iload_n hX dX13_passTerm_156 (i := 1) rfl rfl ?_
    refine v_bipush hX (v := iI 9) dX13_passTerm_157 (by decide) ?_
    refine u_icmp_ge hX (tgt := 188) dX13_passTerm_159 (by decide) ⟨by omega, by omega⟩ ⟨by omega, by omega⟩ (fun h1_ => ?_) (fun h1_ => ?_)
    ·
      refine v_goto hX (tgt := 196) dX13_passTerm_188 (by decide) ?_
      refine v_locals (lv' := [(0, .ref x)]) (by simp) ?_
      exact L196 _ a0 b0 fr156 (by simp (disch := omega) only [q_I_s_J, q_I_s_P, q_I_s_A, q_I_s_B, q_I_s_C, q_I_n_A, q_I_r_A, q_I_r_B, y_I_s_I, x_I_s_I, y_I_n_O, x_I_n_O, e156_ls, e_a0, e_b0]) (by simp (disch := omega) only [q_I_s_J, q_I_s_P, q_I_s_A, q_I_s_B, q_I_s_C, q_I_n_A, q_I_r_A, q_I_r_B, y_I_s_I, x_I_s_I, y_I_n_O, x_I_n_O, e156_ls, e_a0, e_b0]) ⟨by omega, by omega⟩ ⟨by omega, by omega⟩ (by omega)
    ·
      refine v_aload_n hX dX13_passTerm_162 (i := 0) rfl rfl ?_
      refine v_callV hX (n := 0) (k_now (S := S156c) (x := x) (at_ := a0) (ls := ls) h156c (by simp (disch := omega) only [q_I_s_J, q_I_s_P, q_I_s_A, q_I_s_B, q_I_s_C, q_I_n_A, q_I_r_A, q_I_r_B, y_I_s_I, x_I_s_I, y_I_n_O, x_I_n_O, e156_ls, e_a0, e_b0]) ⟨by omega, by omega⟩ (by simp (disch := omega) only [q_I_s_J, q_I_s_P, q_I_s_A, q_I_s_B, q_I_s_C, q_I_n_A, q_I_r_A, q_I_r_B, y_I_s_I, x_I_s_I, y_I_n_O, x_I_n_O, e156_ls, e_a0, e_b0]) ⟨by omega, by omega⟩ (by omega)) (ms_kx h156c) bc_11 (by decide) w_7_29 w_7_31 (bw_p (q := (yX13_now, 72)) (List.mem_of_getElem? (i := 51) rfl) rfl) w_1_16 w_7_32 (by decide +kernel) rfl ⟨by decide, by decide⟩ ⟨by omega, by omega⟩ (Nat.le_of_ble_eq_true rfl) rfl dX13_passTerm_163 (fun _ _ _ q => q) ?_
      rintro r2_ S2_ z2_ ⟨rfl, rfl, v3_, rfl, b_v3_, q2_⟩
      try simp (disch := omega) only [rA_I, rA_J, rA_B, rA_A, lA_I, lA_J, lA_A, lA_B, hc156_5] at q2_
      refine v_callS hX (n := 1) (k_isDigit (S := S156c) (x := 0) (c := v3_) ⟨by omega, by omega⟩) w_7_2 w_7_3 w_1_16 w_7_4 (by decide +kernel) rfl ⟨by decide, by decide⟩ ⟨by omega, by omega⟩ (Nat.le_of_ble_eq_true rfl) rfl dX13_passTerm_166 (fun _ _ _ q => q) ?_
      rintro r4_ S4_ z4_ ⟨rfl, rfl, v5_, rfl, b_v5_, q4_⟩
      refine u_if_eq hX (tgt := 188) dX13_passTerm_169 (by decide) ⟨by omega, by omega⟩ (fun h6_ => ?_) (fun h6_ => ?_)
      ·
        refine v_goto hX (tgt := 196) dX13_passTerm_188 (by decide) ?_
        refine v_locals (lv' := [(0, .ref x)]) (by simp) ?_
        exact L196 _ a0 b0 fr156 (by simp (disch := omega) only [q_I_s_J, q_I_s_P, q_I_s_A, q_I_s_B, q_I_s_C, q_I_n_A, q_I_r_A, q_I_r_B, y_I_s_I, x_I_s_I, y_I_n_O, x_I_n_O, e156_ls, e_a0, e_b0]) (by simp (disch := omega) only [q_I_s_J, q_I_s_P, q_I_s_A, q_I_s_B, q_I_s_C, q_I_n_A, q_I_r_A, q_I_r_B, y_I_s_I, x_I_s_I, y_I_n_O, x_I_n_O, e156_ls, e_a0, e_b0]) ⟨by omega, by omega⟩ ⟨by omega, by omega⟩ (by omega)
      ·
        refine v_aload_n hX dX13_passTerm_172 (i := 0) rfl rfl ?_
        refine v_dup hX dX13_passTerm_173 rfl ?_
        refine v_get hX (ci := 11) (k := 8) (ms_kx h156c) bc_11 (by decide) (by decide) in_11 w_5_224 dX13_passTerm_174 (mvF (f := 1108) (v := iI a0) rfl rfl (by simp (disch := omega) only [q_I_s_J, q_I_s_P, q_I_s_A, q_I_s_B, q_I_s_C, q_I_n_A, q_I_r_A, q_I_r_B, y_I_s_I, x_I_s_I, y_I_n_O, x_I_n_O, e156_ls, e_a0, e_b0])) ?_
        refine v_iconst hX (v := iI 1) dX13_passTerm_177 rfl ?_
        refine u_iadd hX dX13_passTerm_178 ?_
        refine v_putI hX (ci := 11) (k := 8) (f := 1108) (ms_kx h156c) bc_11 (by decide) (by decide) in_11 tyX13_ok nmX13 w_5_224 (Or.inl rfl) rfl rfl dX13_passTerm_179 rfl rfl ?_
        refine v_iinc hX (v := iI (n + 1)) (lv' := [(1, .int (iI (n + 1))), (0, .ref x)]) dX13_passTerm_182 rfl (iI_add _ _) (by rw [hnL]; decide) rfl ?_
        refine v_goto hX (tgt := 156) dX13_passTerm_185 (by decide) ?_
        exact ih156 _ (by omega) _ (a0 + 1) b0 (n + 1) (fr156.sI (by decide)) (by simp (disch := omega) only [q_I_s_J, q_I_s_P, q_I_s_A, q_I_s_B, q_I_s_C, q_I_n_A, q_I_r_A, q_I_r_B, y_I_s_I, x_I_s_I, y_I_n_O, x_I_n_O, e156_ls, e_a0, e_b0]) (by simp (disch := omega) only [q_I_s_J, q_I_s_P, q_I_s_A, q_I_s_B, q_I_s_C, q_I_n_A, q_I_r_A, q_I_r_B, y_I_s_I, x_I_s_I, y_I_n_O, x_I_n_O, e156_ls, e_a0, e_b0]) ⟨by omega, by omega⟩ ⟨by omega, by omega⟩ (by omega) rfl
  have L144 : ∀ (S144c : b_M) (a0 : Int) (b0 : Int), mFr [1108, 1110] [] [] S S144c x → m_I S144c 1108 x = iI a0 → m_I S144c 1110 x = iI b0 → (-2147483648 ≤ a0 ∧ a0 < 2147483648) → (-2147483648 ≤ b0 ∧ b0 < 2147483648) → (a0 = at_ ∧ b0 = bd) → b_V X S144c z 0 0 144 [(0, .ref x)] [] := by
    intro S144c a0 b0 fr144 e_a0 e_b0 b_a0 b_b0 p144_0
    have h144c : mS S144c x := fr144.keep h
    have hc144_5 : ∀ i, rAt S144c (x + 5) i = rAt S (x + 5) i := fun i => (fr144.1 (x + 5) (by omega) (fun j hj => absurd hj List.not_mem_nil)).rA i
    have e144_ls : m_I S144c 1107 x = iI ls := (fr144.2.2.2.1 1107 (by decide)).trans e_ls
    refine v_aload_n hX dX13_passTerm_144 (i := 0) rfl rfl ?_
    refine v_callV hX (n := 0) (k_now (S := S144c) (x := x) (at_ := a0) (ls := ls) h144c (by simp (disch := omega) only [q_I_s_J, q_I_s_P, q_I_s_A, q_I_s_B, q_I_s_C, q_I_n_A, q_I_r_A, q_I_r_B, y_I_s_I, x_I_s_I, y_I_n_O, x_I_n_O, e144_ls, e_a0, e_b0]) ⟨by omega, by omega⟩ (by simp (disch := omega) only [q_I_s_J, q_I_s_P, q_I_s_A, q_I_s_B, q_I_s_C, q_I_n_A, q_I_r_A, q_I_r_B, y_I_s_I, x_I_s_I, y_I_n_O, x_I_n_O, e144_ls, e_a0, e_b0]) ⟨by omega, by omega⟩ (by omega)) (ms_kx h144c) bc_11 (by decide) w_7_29 w_7_31 (bw_p (q := (yX13_now, 72)) (List.mem_of_getElem? (i := 51) rfl) rfl) w_1_16 w_7_32 (by decide +kernel) rfl ⟨by decide, by decide⟩ ⟨by omega, by omega⟩ (Nat.le_of_ble_eq_true rfl) rfl dX13_passTerm_145 (fun _ _ _ q => q) ?_
    rintro r7_ S7_ z7_ ⟨rfl, rfl, v8_, rfl, b_v8_, q7_⟩
    try simp (disch := omega) only [rA_I, rA_J, rA_B, rA_A, lA_I, lA_J, lA_A, lA_B, hc144_5] at q7_
    refine v_callS hX (n := 1) (k_isDigit (S := S144c) (x := 0) (c := v8_) ⟨by omega, by omega⟩) w_7_2 w_7_3 w_1_16 w_7_4 (by decide +kernel) rfl ⟨by decide, by decide⟩ ⟨by omega, by omega⟩ (Nat.le_of_ble_eq_true rfl) rfl dX13_passTerm_148 (fun _ _ _ q => q) ?_
    rintro r9_ S9_ z9_ ⟨rfl, rfl, v10_, rfl, b_v10_, q9_⟩
    refine u_if_eq hX (tgt := 191) dX13_passTerm_151 (by decide) ⟨by omega, by omega⟩ (fun h11_ => ?_) (fun h11_ => ?_)
    ·
      refine v_aload_n hX dX13_passTerm_191 (i := 0) rfl rfl ?_
      refine v_iconst hX (v := iI 1) dX13_passTerm_192 rfl ?_
      refine v_putI hX (ci := 11) (k := 10) (f := 1110) (ms_kx h144c) bc_11 (by decide) (by decide) in_11 tyX13_ok nmX13 w_5_226 (Or.inl rfl) (nar_b (by omega)) (fit_b (by omega)) dX13_passTerm_193 rfl rfl ?_
      exact L196 _ a0 1 (fr144.sI (by decide)) (by simp (disch := omega) only [q_I_s_J, q_I_s_P, q_I_s_A, q_I_s_B, q_I_s_C, q_I_n_A, q_I_r_A, q_I_r_B, y_I_s_I, x_I_s_I, y_I_n_O, x_I_n_O, e144_ls, e_a0, e_b0]) (by simp (disch := omega) only [q_I_s_J, q_I_s_P, q_I_s_A, q_I_s_B, q_I_s_C, q_I_n_A, q_I_r_A, q_I_r_B, y_I_s_I, x_I_s_I, y_I_n_O, x_I_n_O, e144_ls, e_a0, e_b0]) ⟨by omega, by omega⟩ ⟨by omega, by omega⟩ (by omega)
    ·
      refine v_iconst hX (v := iI 0) dX13_passTerm_154 rfl ?_
      refine v_istore_n hX (lv' := [(1, .int (iI 0)), (0, .ref x)]) dX13_passTerm_155 (i := 1) rfl (by rw [hnL]; decide) rfl ?_
      exact L156 _ _ a0 b0 0 fr144 (by simp (disch := omega) only [q_I_s_J, q_I_s_P, q_I_s_A, q_I_s_B, q_I_s_C, q_I_n_A, q_I_r_A, q_I_r_B, y_I_s_I, x_I_s_I, y_I_n_O, x_I_n_O, e144_ls, e_a0, e_b0]) (by simp (disch := omega) only [q_I_s_J, q_I_s_P, q_I_s_A, q_I_s_B, q_I_s_C, q_I_n_A, q_I_r_A, q_I_r_B, y_I_s_I, x_I_s_I, y_I_n_O, x_I_n_O, e144_ls, e_a0, e_b0]) ⟨by omega, by omega⟩ ⟨by omega, by omega⟩ (by omega) rfl
  have L108 : ∀ (n108 : Nat) (S108c : b_M) (a0 : Int) (b0 : Int) (n : Int), mFr [1108, 1110] [] [] S S108c x → m_I S108c 1108 x = iI a0 → m_I S108c 1110 x = iI b0 → (-2147483648 ≤ a0 ∧ a0 < 2147483648) → (-2147483648 ≤ b0 ∧ b0 < 2147483648) → (b0 = bd ∧ 0 ≤ n ∧ n ≤ 8 ∧ a0 = at_ + 2 + n ∧ a0 ≤ ls) → (8 - n).toNat = n108 → b_V X S108c z 0 0 108 [(1, .int (iI n)), (0, .ref x)] [] := by
    intro n108
    induction n108 using Nat.strongRecOn with
    | _ n108 ih108 =>
    intro S108c a0 b0 n fr108 e_a0 e_b0 b_a0 b_b0 p108_0 hm108
    have h108c : mS S108c x := fr108.keep h
    have hc108_5 : ∀ i, rAt S108c (x + 5) i = rAt S (x + 5) i := fun i => (fr108.1 (x + 5) (by omega) (fun j hj => absurd hj List.not_mem_nil)).rA i
    have e108_ls : m_I S108c 1107 x = iI ls := (fr108.2.2.2.1 1107 (by decide)).trans e_ls
    refine v_iload_n hX dX13_passTerm_108 (i := 1) rfl rfl ?_
    refine v_bipush hX (v := iI 8) dX13_passTerm_109 (by decide) ?_
    refine u_icmp_ge hX (tgt := 141) dX13_passTerm_111 (by decide) ⟨by omega, by omega⟩ ⟨by omega, by omega⟩ (fun h12_ => ?_) (fun h12_ => ?_)
    ·
      refine v_goto hX (tgt := 196) dX13_passTerm_141 (by decide) ?_
      refine v_locals (lv' := [(0, .ref x)]) (by simp) ?_
      exact L196 _ a0 b0 fr108 (by simp (disch := omega) only [q_I_s_J, q_I_s_P, q_I_s_A, q_I_s_B, q_I_s_C, q_I_n_A, q_I_r_A, q_I_r_B, y_I_s_I, x_I_s_I, y_I_n_O, x_I_n_O, e108_ls, e_a0, e_b0]) (by simp (disch := omega) only [q_I_s_J, q_I_s_P, q_I_s_A, q_I_s_B, q_I_s_C, q_I_n_A, q_I_r_A, q_I_r_B, y_I_s_I, x_I_s_I, y_I_n_O, x_I_n_O, e108_ls, e_a0, e_b0]) ⟨by omega, by omega⟩ ⟨by omega, by omega⟩ (by omega)
    ·
      refine v_aload_n hX dX13_passTerm_114 (i := 0) rfl rfl ?_
      refine v_aload_n hX dX13_passTerm_115 (i := 0) rfl rfl ?_
      refine v_callV hX (n := 0) (k_now (S := S108c) (x := x) (at_ := a0) (ls := ls) h108c (by simp (disch := omega) only [q_I_s_J, q_I_s_P, q_I_s_A, q_I_s_B, q_I_s_C, q_I_n_A, q_I_r_A, q_I_r_B, y_I_s_I, x_I_s_I, y_I_n_O, x_I_n_O, e108_ls, e_a0, e_b0]) ⟨by omega, by omega⟩ (by simp (disch := omega) only [q_I_s_J, q_I_s_P, q_I_s_A, q_I_s_B, q_I_s_C, q_I_n_A, q_I_r_A, q_I_r_B, y_I_s_I, x_I_s_I, y_I_n_O, x_I_n_O, e108_ls, e_a0, e_b0]) ⟨by omega, by omega⟩ (by omega)) (ms_kx h108c) bc_11 (by decide) w_7_29 w_7_31 (bw_p (q := (yX13_now, 72)) (List.mem_of_getElem? (i := 51) rfl) rfl) w_1_16 w_7_32 (by decide +kernel) rfl ⟨by decide, by decide⟩ ⟨by omega, by omega⟩ (Nat.le_of_ble_eq_true rfl) rfl dX13_passTerm_116 (fun _ _ _ q => q) ?_
      rintro r13_ S13_ z13_ ⟨rfl, rfl, v14_, rfl, b_v14_, q13_⟩
      try simp (disch := omega) only [rA_I, rA_J, rA_B, rA_A, lA_I, lA_J, lA_A, lA_B, hc108_5] at q13_
      refine v_callV hX (n := 1) (k_isHex (S := S108c) (x := x) (c := v14_) h108c ⟨by omega, by omega⟩) (ms_kx h108c) bc_11 (by decide) w_7_130 w_7_132 (bw_p (q := (yX13_isHex, 72)) (List.mem_of_getElem? (i := 73) rfl) rfl) w_1_16 w_7_133 (by decide +kernel) rfl ⟨by decide, by decide⟩ ⟨by omega, by omega⟩ (Nat.le_of_ble_eq_true rfl) rfl dX13_passTerm_119 (fun _ _ _ q => q) ?_
      rintro r15_ S15_ z15_ ⟨rfl, rfl, v16_, rfl, b_v16_, q15_⟩
      refine u_if_eq hX (tgt := 141) dX13_passTerm_122 (by decide) ⟨by omega, by omega⟩ (fun h17_ => ?_) (fun h17_ => ?_)
      ·
        refine v_goto hX (tgt := 196) dX13_passTerm_141 (by decide) ?_
        refine v_locals (lv' := [(0, .ref x)]) (by simp) ?_
        exact L196 _ a0 b0 fr108 (by simp (disch := omega) only [q_I_s_J, q_I_s_P, q_I_s_A, q_I_s_B, q_I_s_C, q_I_n_A, q_I_r_A, q_I_r_B, y_I_s_I, x_I_s_I, y_I_n_O, x_I_n_O, e108_ls, e_a0, e_b0]) (by simp (disch := omega) only [q_I_s_J, q_I_s_P, q_I_s_A, q_I_s_B, q_I_s_C, q_I_n_A, q_I_r_A, q_I_r_B, y_I_s_I, x_I_s_I, y_I_n_O, x_I_n_O, e108_ls, e_a0, e_b0]) ⟨by omega, by omega⟩ ⟨by omega, by omega⟩ (by omega)
      ·
        refine v_aload_n hX dX13_passTerm_125 (i := 0) rfl rfl ?_
        refine v_dup hX dX13_passTerm_126 rfl ?_
        refine v_get hX (ci := 11) (k := 8) (ms_kx h108c) bc_11 (by decide) (by decide) in_11 w_5_224 dX13_passTerm_127 (mvF (f := 1108) (v := iI a0) rfl rfl (by simp (disch := omega) only [q_I_s_J, q_I_s_P, q_I_s_A, q_I_s_B, q_I_s_C, q_I_n_A, q_I_r_A, q_I_r_B, y_I_s_I, x_I_s_I, y_I_n_O, x_I_n_O, e108_ls, e_a0, e_b0])) ?_
        refine v_iconst hX (v := iI 1) dX13_passTerm_130 rfl ?_
        refine u_iadd hX dX13_passTerm_131 ?_
        refine v_putI hX (ci := 11) (k := 8) (f := 1108) (ms_kx h108c) bc_11 (by decide) (by decide) in_11 tyX13_ok nmX13 w_5_224 (Or.inl rfl) rfl rfl dX13_passTerm_132 rfl rfl ?_
        refine v_iinc hX (v := iI (n + 1)) (lv' := [(1, .int (iI (n + 1))), (0, .ref x)]) dX13_passTerm_135 rfl (iI_add _ _) (by rw [hnL]; decide) rfl ?_
        refine v_goto hX (tgt := 108) dX13_passTerm_138 (by decide) ?_
        exact ih108 _ (by omega) _ (a0 + 1) b0 (n + 1) (fr108.sI (by decide)) (by simp (disch := omega) only [q_I_s_J, q_I_s_P, q_I_s_A, q_I_s_B, q_I_s_C, q_I_n_A, q_I_r_A, q_I_r_B, y_I_s_I, x_I_s_I, y_I_n_O, x_I_n_O, e108_ls, e_a0, e_b0]) (by simp (disch := omega) only [q_I_s_J, q_I_s_P, q_I_s_A, q_I_s_B, q_I_s_C, q_I_n_A, q_I_r_A, q_I_r_B, y_I_s_I, x_I_s_I, y_I_n_O, x_I_n_O, e108_ls, e_a0, e_b0]) ⟨by omega, by omega⟩ ⟨by omega, by omega⟩ (by omega) rfl
  change b_V X S z 0 0 0 [(0, .ref x)] []
  refine v_aload_n hX dX13_passTerm_0 (i := 0) rfl rfl ?_
  refine v_callV hX (n := 0) (k_now (S := S) (x := x) (at_ := at_) (ls := ls) h (by simp (disch := omega) only [q_I_s_J, q_I_s_P, q_I_s_A, q_I_s_B, q_I_s_C, q_I_n_A, q_I_r_A, q_I_r_B, y_I_s_I, x_I_s_I, y_I_n_O, x_I_n_O, e_at_, e_ls, e_bd]) ⟨by omega, by omega⟩ (by simp (disch := omega) only [q_I_s_J, q_I_s_P, q_I_s_A, q_I_s_B, q_I_s_C, q_I_n_A, q_I_r_A, q_I_r_B, y_I_s_I, x_I_s_I, y_I_n_O, x_I_n_O, e_at_, e_ls, e_bd]) ⟨by omega, by omega⟩ (by omega)) (ms_kx h) bc_11 (by decide) w_7_29 w_7_31 (bw_p (q := (yX13_now, 72)) (List.mem_of_getElem? (i := 51) rfl) rfl) w_1_16 w_7_32 (by decide +kernel) rfl ⟨by decide, by decide⟩ ⟨by omega, by omega⟩ (Nat.le_of_ble_eq_true rfl) rfl dX13_passTerm_1 (fun _ _ _ q => q) ?_
  rintro r18_ S18_ z18_ ⟨rfl, rfl, v19_, rfl, b_v19_, q18_⟩
  refine v_callS hX (n := 1) (k_isStart (S := S) (x := 0) (c := v19_) ⟨by omega, by omega⟩) w_6_236 w_6_237 w_1_16 w_6_238 (by decide +kernel) rfl ⟨by decide, by decide⟩ ⟨by omega, by omega⟩ (Nat.le_of_ble_eq_true rfl) rfl dX13_passTerm_4 (fun _ _ _ q => q) ?_
  rintro r20_ S20_ z20_ ⟨rfl, rfl, v21_, rfl, b_v21_, q20_⟩
  refine u_if_eq hX (tgt := 18) dX13_passTerm_7 (by decide) ⟨by omega, by omega⟩ (fun h22_ => ?_) (fun h22_ => ?_)
  ·
    refine v_aload_n hX dX13_passTerm_18 (i := 0) rfl rfl ?_
    refine v_callV hX (n := 0) (k_now (S := S) (x := x) (at_ := at_) (ls := ls) h (by simp (disch := omega) only [q_I_s_J, q_I_s_P, q_I_s_A, q_I_s_B, q_I_s_C, q_I_n_A, q_I_r_A, q_I_r_B, y_I_s_I, x_I_s_I, y_I_n_O, x_I_n_O, e_at_, e_ls, e_bd]) ⟨by omega, by omega⟩ (by simp (disch := omega) only [q_I_s_J, q_I_s_P, q_I_s_A, q_I_s_B, q_I_s_C, q_I_n_A, q_I_r_A, q_I_r_B, y_I_s_I, x_I_s_I, y_I_n_O, x_I_n_O, e_at_, e_ls, e_bd]) ⟨by omega, by omega⟩ (by omega)) (ms_kx h) bc_11 (by decide) w_7_29 w_7_31 (bw_p (q := (yX13_now, 72)) (List.mem_of_getElem? (i := 51) rfl) rfl) w_1_16 w_7_32 (by decide +kernel) rfl ⟨by decide, by decide⟩ ⟨by omega, by omega⟩ (Nat.le_of_ble_eq_true rfl) rfl dX13_passTerm_19 (fun _ _ _ q => q) ?_
    rintro r23_ S23_ z23_ ⟨rfl, rfl, v24_, rfl, b_v24_, q23_⟩
    refine v_bipush hX (v := iI 46) dX13_passTerm_22 (by decide) ?_
    refine u_icmp_ne hX (tgt := 40) dX13_passTerm_24 (by decide) ⟨by omega, by omega⟩ ⟨by omega, by omega⟩ (fun h25_ => ?_) (fun h25_ => ?_)
    ·
      refine v_aload_n hX dX13_passTerm_40 (i := 0) rfl rfl ?_
      refine v_callV hX (n := 0) (k_now (S := S) (x := x) (at_ := at_) (ls := ls) h (by simp (disch := omega) only [q_I_s_J, q_I_s_P, q_I_s_A, q_I_s_B, q_I_s_C, q_I_n_A, q_I_r_A, q_I_r_B, y_I_s_I, x_I_s_I, y_I_n_O, x_I_n_O, e_at_, e_ls, e_bd]) ⟨by omega, by omega⟩ (by simp (disch := omega) only [q_I_s_J, q_I_s_P, q_I_s_A, q_I_s_B, q_I_s_C, q_I_n_A, q_I_r_A, q_I_r_B, y_I_s_I, x_I_s_I, y_I_n_O, x_I_n_O, e_at_, e_ls, e_bd]) ⟨by omega, by omega⟩ (by omega)) (ms_kx h) bc_11 (by decide) w_7_29 w_7_31 (bw_p (q := (yX13_now, 72)) (List.mem_of_getElem? (i := 51) rfl) rfl) w_1_16 w_7_32 (by decide +kernel) rfl ⟨by decide, by decide⟩ ⟨by omega, by omega⟩ (Nat.le_of_ble_eq_true rfl) rfl dX13_passTerm_41 (fun _ _ _ q => q) ?_
      rintro r26_ S26_ z26_ ⟨rfl, rfl, v27_, rfl, b_v27_, q26_⟩
      refine v_bipush hX (v := iI 48) dX13_passTerm_44 (by decide) ?_
      refine u_icmp_ne hX (tgt := 144) dX13_passTerm_46 (by decide) ⟨by omega, by omega⟩ ⟨by omega, by omega⟩ (fun h28_ => ?_) (fun h28_ => ?_)
      ·
        exact L144 _ at_ bd (mFr.rf _ _) (by simp (disch := omega) only [q_I_s_J, q_I_s_P, q_I_s_A, q_I_s_B, q_I_s_C, q_I_n_A, q_I_r_A, q_I_r_B, y_I_s_I, x_I_s_I, y_I_n_O, x_I_n_O, e_at_, e_ls, e_bd]) (by simp (disch := omega) only [q_I_s_J, q_I_s_P, q_I_s_A, q_I_s_B, q_I_s_C, q_I_n_A, q_I_r_A, q_I_r_B, y_I_s_I, x_I_s_I, y_I_n_O, x_I_n_O, e_at_, e_ls, e_bd]) ⟨by omega, by omega⟩ ⟨by omega, by omega⟩ (by omega)
      ·
        refine v_aload_n hX dX13_passTerm_49 (i := 0) rfl rfl ?_
        refine v_get hX (ci := 11) (k := 8) (ms_kx h) bc_11 (by decide) (by decide) in_11 w_5_224 dX13_passTerm_50 (mvF (f := 1108) (v := iI at_) rfl rfl (by simp (disch := omega) only [q_I_s_J, q_I_s_P, q_I_s_A, q_I_s_B, q_I_s_C, q_I_n_A, q_I_r_A, q_I_r_B, y_I_s_I, x_I_s_I, y_I_n_O, x_I_n_O, e_at_, e_ls, e_bd])) ?_
        refine v_iconst hX (v := iI 2) dX13_passTerm_53 rfl ?_
        refine u_iadd hX dX13_passTerm_54 ?_
        refine v_aload_n hX dX13_passTerm_55 (i := 0) rfl rfl ?_
        refine v_get hX (ci := 11) (k := 7) (ms_kx h) bc_11 (by decide) (by decide) in_11 w_5_223 dX13_passTerm_56 (mvF (f := 1107) (v := iI ls) rfl rfl (by simp (disch := omega) only [q_I_s_J, q_I_s_P, q_I_s_A, q_I_s_B, q_I_s_C, q_I_n_A, q_I_r_A, q_I_r_B, y_I_s_I, x_I_s_I, y_I_n_O, x_I_n_O, e_at_, e_ls, e_bd])) ?_
        refine u_icmp_ge hX (tgt := 144) dX13_passTerm_59 (by decide) ⟨by omega, by omega⟩ ⟨by omega, by omega⟩ (fun h29_ => ?_) (fun h29_ => ?_)
        ·
          exact L144 _ at_ bd (mFr.rf _ _) (by simp (disch := omega) only [q_I_s_J, q_I_s_P, q_I_s_A, q_I_s_B, q_I_s_C, q_I_n_A, q_I_r_A, q_I_r_B, y_I_s_I, x_I_s_I, y_I_n_O, x_I_n_O, e_at_, e_ls, e_bd]) (by simp (disch := omega) only [q_I_s_J, q_I_s_P, q_I_s_A, q_I_s_B, q_I_s_C, q_I_n_A, q_I_r_A, q_I_r_B, y_I_s_I, x_I_s_I, y_I_n_O, x_I_n_O, e_at_, e_ls, e_bd]) ⟨by omega, by omega⟩ ⟨by omega, by omega⟩ (by omega)
        ·
          refine v_aload_n hX dX13_passTerm_62 (i := 0) rfl rfl ?_
          refine v_get hX (ci := 11) (k := 11) (ms_kx h) bc_11 (by decide) (by decide) in_11 w_5_227 dX13_passTerm_63 (mvP (f := 1111) (q := (x + 5)) rfl rfl (ms_p_1111 h)) ?_
          refine v_aload_n hX dX13_passTerm_66 (i := 0) rfl rfl ?_
          refine v_get hX (ci := 11) (k := 8) (ms_kx h) bc_11 (by decide) (by decide) in_11 w_5_224 dX13_passTerm_67 (mvF (f := 1108) (v := iI at_) rfl rfl (by simp (disch := omega) only [q_I_s_J, q_I_s_P, q_I_s_A, q_I_s_B, q_I_s_C, q_I_n_A, q_I_r_A, q_I_r_B, y_I_s_I, x_I_s_I, y_I_n_O, x_I_n_O, e_at_, e_ls, e_bd])) ?_
          refine v_iconst hX (v := iI 1) dX13_passTerm_70 rfl ?_
          refine u_iadd hX dX13_passTerm_71 ?_
          refine u_iald hX (L := 8400) (ms_k_1111 h) (ms_l_1111 h) ⟨by omega, by omega⟩ (by decide) dX13_passTerm_72 (fun v30_ e_v30_ b_v30_ => ?_)
          refine v_bipush hX (v := iI 120) dX13_passTerm_73 (by decide) ?_
          refine u_icmp_ne hX (tgt := 144) dX13_passTerm_75 (by decide) ⟨by omega, by omega⟩ ⟨by omega, by omega⟩ (fun h31_ => ?_) (fun h31_ => ?_)
          ·
            exact L144 _ at_ bd (mFr.rf _ _) (by simp (disch := omega) only [q_I_s_J, q_I_s_P, q_I_s_A, q_I_s_B, q_I_s_C, q_I_n_A, q_I_r_A, q_I_r_B, y_I_s_I, x_I_s_I, y_I_n_O, x_I_n_O, e_at_, e_ls, e_bd]) (by simp (disch := omega) only [q_I_s_J, q_I_s_P, q_I_s_A, q_I_s_B, q_I_s_C, q_I_n_A, q_I_r_A, q_I_r_B, y_I_s_I, x_I_s_I, y_I_n_O, x_I_n_O, e_at_, e_ls, e_bd]) ⟨by omega, by omega⟩ ⟨by omega, by omega⟩ (by omega)
          ·
            refine v_aload_n hX dX13_passTerm_78 (i := 0) rfl rfl ?_
            refine v_aload_n hX dX13_passTerm_79 (i := 0) rfl rfl ?_
            refine v_get hX (ci := 11) (k := 11) (ms_kx h) bc_11 (by decide) (by decide) in_11 w_5_227 dX13_passTerm_80 (mvP (f := 1111) (q := (x + 5)) rfl rfl (ms_p_1111 h)) ?_
            refine v_aload_n hX dX13_passTerm_83 (i := 0) rfl rfl ?_
            refine v_get hX (ci := 11) (k := 8) (ms_kx h) bc_11 (by decide) (by decide) in_11 w_5_224 dX13_passTerm_84 (mvF (f := 1108) (v := iI at_) rfl rfl (by simp (disch := omega) only [q_I_s_J, q_I_s_P, q_I_s_A, q_I_s_B, q_I_s_C, q_I_n_A, q_I_r_A, q_I_r_B, y_I_s_I, x_I_s_I, y_I_n_O, x_I_n_O, e_at_, e_ls, e_bd])) ?_
            refine v_iconst hX (v := iI 2) dX13_passTerm_87 rfl ?_
            refine u_iadd hX dX13_passTerm_88 ?_
            refine u_iald hX (L := 8400) (ms_k_1111 h) (ms_l_1111 h) ⟨by omega, by omega⟩ (by decide) dX13_passTerm_89 (fun v32_ e_v32_ b_v32_ => ?_)
            refine v_callV hX (n := 1) (k_isHex (S := S) (x := x) (c := v32_) h ⟨by omega, by omega⟩) (ms_kx h) bc_11 (by decide) w_7_130 w_7_132 (bw_p (q := (yX13_isHex, 72)) (List.mem_of_getElem? (i := 73) rfl) rfl) w_1_16 w_7_133 (by decide +kernel) rfl ⟨by decide, by decide⟩ ⟨by omega, by omega⟩ (Nat.le_of_ble_eq_true rfl) rfl dX13_passTerm_90 (fun _ _ _ q => q) ?_
            rintro r33_ S33_ z33_ ⟨rfl, rfl, v34_, rfl, b_v34_, q33_⟩
            refine u_if_eq hX (tgt := 144) dX13_passTerm_93 (by decide) ⟨by omega, by omega⟩ (fun h35_ => ?_) (fun h35_ => ?_)
            ·
              exact L144 _ at_ bd (mFr.rf _ _) (by simp (disch := omega) only [q_I_s_J, q_I_s_P, q_I_s_A, q_I_s_B, q_I_s_C, q_I_n_A, q_I_r_A, q_I_r_B, y_I_s_I, x_I_s_I, y_I_n_O, x_I_n_O, e_at_, e_ls, e_bd]) (by simp (disch := omega) only [q_I_s_J, q_I_s_P, q_I_s_A, q_I_s_B, q_I_s_C, q_I_n_A, q_I_r_A, q_I_r_B, y_I_s_I, x_I_s_I, y_I_n_O, x_I_n_O, e_at_, e_ls, e_bd]) ⟨by omega, by omega⟩ ⟨by omega, by omega⟩ (by omega)
            ·
              refine v_aload_n hX dX13_passTerm_96 (i := 0) rfl rfl ?_
              refine v_dup hX dX13_passTerm_97 rfl ?_
              refine v_get hX (ci := 11) (k := 8) (ms_kx h) bc_11 (by decide) (by decide) in_11 w_5_224 dX13_passTerm_98 (mvF (f := 1108) (v := iI at_) rfl rfl (by simp (disch := omega) only [q_I_s_J, q_I_s_P, q_I_s_A, q_I_s_B, q_I_s_C, q_I_n_A, q_I_r_A, q_I_r_B, y_I_s_I, x_I_s_I, y_I_n_O, x_I_n_O, e_at_, e_ls, e_bd])) ?_
              refine v_iconst hX (v := iI 2) dX13_passTerm_101 rfl ?_
              refine u_iadd hX dX13_passTerm_102 ?_
              refine v_putI hX (ci := 11) (k := 8) (f := 1108) (ms_kx h) bc_11 (by decide) (by decide) in_11 tyX13_ok nmX13 w_5_224 (Or.inl rfl) rfl rfl dX13_passTerm_103 rfl rfl ?_
              refine v_iconst hX (v := iI 0) dX13_passTerm_106 rfl ?_
              refine v_istore_n hX (lv' := [(1, .int (iI 0)), (0, .ref x)]) dX13_passTerm_107 (i := 1) rfl (by rw [hnL]; decide) rfl ?_
              exact L108 _ _ (at_ + 2) bd 0 ((mFr.rf _ _).sI (by decide)) (by simp (disch := omega) only [q_I_s_J, q_I_s_P, q_I_s_A, q_I_s_B, q_I_s_C, q_I_n_A, q_I_r_A, q_I_r_B, y_I_s_I, x_I_s_I, y_I_n_O, x_I_n_O, e_at_, e_ls, e_bd]) (by simp (disch := omega) only [q_I_s_J, q_I_s_P, q_I_s_A, q_I_s_B, q_I_s_C, q_I_n_A, q_I_r_A, q_I_r_B, y_I_s_I, x_I_s_I, y_I_n_O, x_I_n_O, e_at_, e_ls, e_bd]) ⟨by omega, by omega⟩ ⟨by omega, by omega⟩ (by omega) rfl
    ·
      refine v_aload_n hX dX13_passTerm_27 (i := 0) rfl rfl ?_
      refine v_dup hX dX13_passTerm_28 rfl ?_
      refine v_get hX (ci := 11) (k := 8) (ms_kx h) bc_11 (by decide) (by decide) in_11 w_5_224 dX13_passTerm_29 (mvF (f := 1108) (v := iI at_) rfl rfl (by simp (disch := omega) only [q_I_s_J, q_I_s_P, q_I_s_A, q_I_s_B, q_I_s_C, q_I_n_A, q_I_r_A, q_I_r_B, y_I_s_I, x_I_s_I, y_I_n_O, x_I_n_O, e_at_, e_ls, e_bd])) ?_
      refine v_iconst hX (v := iI 1) dX13_passTerm_32 rfl ?_
      refine u_iadd hX dX13_passTerm_33 ?_
      refine v_putI hX (ci := 11) (k := 8) (f := 1108) (ms_kx h) bc_11 (by decide) (by decide) in_11 tyX13_ok nmX13 w_5_224 (Or.inl rfl) rfl rfl dX13_passTerm_34 rfl rfl ?_
      refine v_goto hX (tgt := 196) dX13_passTerm_37 (by decide) ?_
      exact L196 _ (at_ + 1) bd ((mFr.rf _ _).sI (by decide)) (by simp (disch := omega) only [q_I_s_J, q_I_s_P, q_I_s_A, q_I_s_B, q_I_s_C, q_I_n_A, q_I_r_A, q_I_r_B, y_I_s_I, x_I_s_I, y_I_n_O, x_I_n_O, e_at_, e_ls, e_bd]) (by simp (disch := omega) only [q_I_s_J, q_I_s_P, q_I_s_A, q_I_s_B, q_I_s_C, q_I_n_A, q_I_r_A, q_I_r_B, y_I_s_I, x_I_s_I, y_I_n_O, x_I_n_O, e_at_, e_ls, e_bd]) ⟨by omega, by omega⟩ ⟨by omega, by omega⟩ (by omega)
  ·
    refine v_aload_n hX dX13_passTerm_10 (i := 0) rfl rfl ?_
    refine v_callV hX (n := 0) (k_takeName (S := S) (x := x) (at_ := at_) (ls := ls) (bd := bd) h (by simp (disch := omega) only [q_I_s_J, q_I_s_P, q_I_s_A, q_I_s_B, q_I_s_C, q_I_n_A, q_I_r_A, q_I_r_B, y_I_s_I, x_I_s_I, y_I_n_O, x_I_n_O, e_at_, e_ls, e_bd]) ⟨by omega, by omega⟩ (by simp (disch := omega) only [q_I_s_J, q_I_s_P, q_I_s_A, q_I_s_B, q_I_s_C, q_I_n_A, q_I_r_A, q_I_r_B, y_I_s_I, x_I_s_I, y_I_n_O, x_I_n_O, e_at_, e_ls, e_bd]) ⟨by omega, by omega⟩ (by simp (disch := omega) only [q_I_s_J, q_I_s_P, q_I_s_A, q_I_s_B, q_I_s_C, q_I_n_A, q_I_r_A, q_I_r_B, y_I_s_I, x_I_s_I, y_I_n_O, x_I_n_O, e_at_, e_ls, e_bd]) ⟨by omega, by omega⟩ (by omega)) (ms_kx h) bc_11 (by decide) w_7_37 w_7_39 (bw_p (q := (yX13_takeName, 72)) (List.mem_of_getElem? (i := 53) rfl) rfl) w_1_16 w_7_40 (by decide +kernel) rfl ⟨by decide, by decide⟩ ⟨by omega, by omega⟩ (Nat.le_of_ble_eq_true rfl) rfl dX13_passTerm_11 (fun _ _ _ q => q) ?_
    rintro r36_ S36_ z36_ ⟨rfl, f36_, v37_, v38_, v39_, rfl, b_v37_, e_v38_, b_v38_, e_v39_, b_v39_, q36_⟩
    have e36_1107 : m_I S36_ 1107 x = iI ls := (f36_.2.2.2.1 1107 (by decide)).trans (by simp (disch := omega) only [q_I_s_J, q_I_s_P, q_I_s_A, q_I_s_B, q_I_s_C, q_I_n_A, q_I_r_A, q_I_r_B, y_I_s_I, x_I_s_I, y_I_n_O, x_I_n_O, e_at_, e_ls, e_bd])
    have h36_ : mS S36_ x := f36_.keep h
    have hc36_5 : ∀ i, rAt S36_ (x + 5) i = rAt S (x + 5) i := fun i => ((f36_.1 (x + 5) (by omega) (fun j hj => absurd hj List.not_mem_nil)).rA i).trans rfl
    refine v_pop2_2 hX dX13_passTerm_14 rfl ?_
    refine v_goto hX (tgt := 196) dX13_passTerm_15 (by decide) ?_
    exact L196 _ v38_ v39_ ((mFr.rf _ _).tr (f36_.mono (by decide) (by decide) (by decide))) (by simp (disch := omega) only [q_I_s_J, q_I_s_P, q_I_s_A, q_I_s_B, q_I_s_C, q_I_n_A, q_I_r_A, q_I_r_B, y_I_s_I, x_I_s_I, y_I_n_O, x_I_n_O, e36_1107, e_v38_, e_v39_]) (by simp (disch := omega) only [q_I_s_J, q_I_s_P, q_I_s_A, q_I_s_B, q_I_s_C, q_I_n_A, q_I_r_A, q_I_r_B, y_I_s_I, x_I_s_I, y_I_n_O, x_I_n_O, e36_1107, e_v38_, e_v39_]) ⟨by omega, by omega⟩ ⟨by omega, by omega⟩ (by omega)
set_option maxRecDepth 100000 in
set_option maxHeartbeats 4000000 in
theorem k_takeExpression {kn : Nat → Nat} {B : Nat} {S : b_M} {z x : Nat} {at_ : Int} {ls : Int} {bd : Int} {fo : Int} (h : mS S x) (e_at_ : m_I S 1108 x = iI at_) (b_at_ : -2147483648 ≤ at_ ∧ at_ < 2147483648) (e_ls : m_I S 1107 x = iI ls) (b_ls : -2147483648 ≤ ls ∧ ls < 2147483648) (e_bd : m_I S 1110 x = iI bd) (b_bd : -2147483648 ≤ bd ∧ bd < 2147483648) (e_fo : m_I S 1145 x = iI fo) (b_fo : -2147483648 ≤ fo ∧ fo < 2147483648) (p : 0 ≤ at_ ∧ ls ≤ 8400 ∧ (bd = 0 ∨ bd = 1) ∧ 0 ≤ fo ∧ fo ≤ 9) : b_C kn B yX13_takeExpression cX13_takeExpression 2 none 6 126 0 0 [.ref x] S z (fun r S' z' => z = z' ∧ mFr [1108, 1110, 1145] [] [30, 31] S S' x ∧ ∃ a1 b1 f1 : Int, r = none ∧ m_I S' 1108 x = iI a1 ∧ (-2147483648 ≤ a1 ∧ a1 < 2147483648) ∧ m_I S' 1110 x = iI b1 ∧ (-2147483648 ≤ b1 ∧ b1 < 2147483648) ∧ m_I S' 1145 x = iI f1 ∧ (-2147483648 ≤ f1 ∧ f1 < 2147483648) ∧ (at_ ≤ a1 ∧ (a1 = at_ ∨ a1 ≤ ls) ∧ (b1 = 0 ∨ b1 = 1) ∧ (b1 = 0 → bd = 0) ∧ fo ≤ f1 ∧ f1 ≤ 9 ∧ (fo < 9 → f1 = fo + 1) ∧ (fo = 9 → f1 = 9)) ∧ (b1 = 0 → nr S (x + 5) at_ a1)) (fun _ _ _ => False) := by
  refine b_enter (by decide) (Nat.le_of_ble_eq_true rfl) ?_
  intro X hX hE hnL hkn hB hI_
  subst hkn; subst hB
  clear hI_
  have L73 : ∀ (S73c : b_M) (a0 : Int) (b0 : Int) (f0 : Int), mFr [1108, 1110, 1145] [] [30, 31] S S73c x → m_I S73c 1108 x = iI a0 → m_I S73c 1110 x = iI b0 → m_I S73c 1145 x = iI f0 → (-2147483648 ≤ a0 ∧ a0 < 2147483648) → (-2147483648 ≤ b0 ∧ b0 < 2147483648) → (-2147483648 ≤ f0 ∧ f0 < 2147483648) → (f0 = fo ∧ at_ ≤ a0 ∧ (a0 = at_ ∨ a0 ≤ ls) ∧ (b0 = 0 ∨ b0 = 1) ∧ (b0 = 0 → bd = 0)) → (b0 = 0 → nr S (x + 5) at_ a0) → b_V X S73c z 0 0 73 [(1, .int (iI at_)), (0, .ref x)] [] := by
    intro S73c a0 b0 f0 fr73 e_a0 e_b0 e_f0 b_a0 b_b0 b_f0 p73_0 p73_1
    have h73c : mS S73c x := fr73.keep h
    have hc73_5 : ∀ i, rAt S73c (x + 5) i = rAt S (x + 5) i := fun i => (fr73.1 (x + 5) (by omega) (by intro j hj; simp only [List.mem_cons, List.not_mem_nil, or_false] at hj; omega)).rA i
    have e73_ls : m_I S73c 1107 x = iI ls := (fr73.2.2.2.1 1107 (by decide)).trans e_ls
    refine v_aload_n hX dX13_takeExpression_73 (i := 0) rfl rfl ?_
    refine v_get hX (ci := 11) (k := 45) (ms_kx h73c) bc_11 (by decide) (by decide) in_11 w_6_21 dX13_takeExpression_74 (mvF (f := 1145) (v := iI f0) rfl rfl (by simp (disch := omega) only [q_I_s_J, q_I_s_P, q_I_s_A, q_I_s_B, q_I_s_C, q_I_n_A, q_I_r_A, q_I_r_B, y_I_s_I, x_I_s_I, y_I_n_O, x_I_n_O, e73_ls, e_a0, e_b0, e_f0])) ?_
    refine v_bipush hX (v := iI 9) dX13_takeExpression_77 (by decide) ?_
    refine u_icmp_ge hX (tgt := 115) dX13_takeExpression_79 (by decide) ⟨by omega, by omega⟩ ⟨by omega, by omega⟩ (fun h1_ => ?_) (fun h1_ => ?_)
    ·
      exact v_return hX hE dX13_takeExpression_115 (by omega) (by omega) ⟨rfl, fr73, a0, b0, f0, rfl, (by simp (disch := omega) only [q_I_s_J, q_I_s_P, q_I_s_A, q_I_s_B, q_I_s_C, q_I_n_A, q_I_r_A, q_I_r_B, y_I_s_I, x_I_s_I, y_I_n_O, x_I_n_O, e73_ls, e_a0, e_b0, e_f0]), ⟨by omega, by omega⟩, (by simp (disch := omega) only [q_I_s_J, q_I_s_P, q_I_s_A, q_I_s_B, q_I_s_C, q_I_n_A, q_I_r_A, q_I_r_B, y_I_s_I, x_I_s_I, y_I_n_O, x_I_n_O, e73_ls, e_a0, e_b0, e_f0]), ⟨by omega, by omega⟩, (by simp (disch := omega) only [q_I_s_J, q_I_s_P, q_I_s_A, q_I_s_B, q_I_s_C, q_I_n_A, q_I_r_A, q_I_r_B, y_I_s_I, x_I_s_I, y_I_n_O, x_I_n_O, e73_ls, e_a0, e_b0, e_f0]), ⟨by omega, by omega⟩, (by omega), (fun g => p73_1 (by omega))⟩
    ·
      refine v_aload_n hX dX13_takeExpression_82 (i := 0) rfl rfl ?_
      refine v_get hX (ci := 11) (k := 46) (ms_kx h73c) bc_11 (by decide) (by decide) in_11 w_6_22 dX13_takeExpression_83 (mvP (f := 1146) (q := (x + 30)) rfl rfl (ms_p_1146 h73c)) ?_
      refine v_aload_n hX dX13_takeExpression_86 (i := 0) rfl rfl ?_
      refine v_get hX (ci := 11) (k := 45) (ms_kx h73c) bc_11 (by decide) (by decide) in_11 w_6_21 dX13_takeExpression_87 (mvF (f := 1145) (v := iI f0) rfl rfl (by simp (disch := omega) only [q_I_s_J, q_I_s_P, q_I_s_A, q_I_s_B, q_I_s_C, q_I_n_A, q_I_r_A, q_I_r_B, y_I_s_I, x_I_s_I, y_I_n_O, x_I_n_O, e73_ls, e_a0, e_b0, e_f0])) ?_
      refine v_iload_n hX dX13_takeExpression_90 (i := 1) rfl rfl ?_
      refine u_iast hX (L := 9) (ms_k_1146 h73c) (ms_l_1146 h73c) ⟨by omega, by omega⟩ (by decide) dX13_takeExpression_91 ?_
      refine v_aload_n hX dX13_takeExpression_92 (i := 0) rfl rfl ?_
      refine v_get hX (ci := 11) (k := 47) (ms_kx h73c) bc_11 (by decide) (by decide) in_11 w_6_23 dX13_takeExpression_93 (mvP (f := 1147) (q := (x + 31)) rfl rfl (ms_p_1147 h73c)) ?_
      refine v_aload_n hX dX13_takeExpression_96 (i := 0) rfl rfl ?_
      refine v_get hX (ci := 11) (k := 45) (ms_kx h73c) bc_11 (by decide) (by decide) in_11 w_6_21 dX13_takeExpression_97 (mvF (f := 1145) (v := iI f0) rfl rfl (by simp (disch := omega) only [q_I_s_J, q_I_s_P, q_I_s_A, q_I_s_B, q_I_s_C, q_I_n_A, q_I_r_A, q_I_r_B, y_I_s_I, x_I_s_I, y_I_n_O, x_I_n_O, e73_ls, e_a0, e_b0, e_f0])) ?_
      refine v_aload_n hX dX13_takeExpression_100 (i := 0) rfl rfl ?_
      refine v_get hX (ci := 11) (k := 8) (ms_kx h73c) bc_11 (by decide) (by decide) in_11 w_5_224 dX13_takeExpression_101 (mvF (f := 1108) (v := iI a0) rfl rfl (by simp (disch := omega) only [q_I_s_J, q_I_s_P, q_I_s_A, q_I_s_B, q_I_s_C, q_I_n_A, q_I_r_A, q_I_r_B, y_I_s_I, x_I_s_I, y_I_n_O, x_I_n_O, e73_ls, e_a0, e_b0, e_f0])) ?_
      refine u_iast hX (L := 9) (ms_k_1147 h73c) (ms_l_1147 h73c) ⟨by omega, by omega⟩ (by decide) dX13_takeExpression_104 ?_
      refine v_aload_n hX dX13_takeExpression_105 (i := 0) rfl rfl ?_
      refine v_dup hX dX13_takeExpression_106 rfl ?_
      refine v_get hX (ci := 11) (k := 45) (ms_kx h73c) bc_11 (by decide) (by decide) in_11 w_6_21 dX13_takeExpression_107 (mvF (f := 1145) (v := iI f0) rfl rfl (by simp (disch := omega) only [q_I_s_J, q_I_s_P, q_I_s_A, q_I_s_B, q_I_s_C, q_I_n_A, q_I_r_A, q_I_r_B, y_I_s_I, x_I_s_I, y_I_n_O, x_I_n_O, e73_ls, e_a0, e_b0, e_f0])) ?_
      refine v_iconst hX (v := iI 1) dX13_takeExpression_110 rfl ?_
      refine u_iadd hX dX13_takeExpression_111 ?_
      refine v_putI hX (ci := 11) (k := 45) (f := 1145) (ms_kx h73c) bc_11 (by decide) (by decide) in_11 tyX13_ok nmX13 w_6_21 (Or.inl rfl) rfl rfl dX13_takeExpression_112 rfl rfl ?_
      exact v_return hX hE dX13_takeExpression_115 (by omega) (by omega) ⟨rfl, (((fr73.sA (by decide)).sA (by decide)).sI (by decide)), a0, b0, (f0 + 1), rfl, (by simp (disch := omega) only [q_I_s_J, q_I_s_P, q_I_s_A, q_I_s_B, q_I_s_C, q_I_n_A, q_I_r_A, q_I_r_B, y_I_s_I, x_I_s_I, y_I_n_O, x_I_n_O, e73_ls, e_a0, e_b0, e_f0]), ⟨by omega, by omega⟩, (by simp (disch := omega) only [q_I_s_J, q_I_s_P, q_I_s_A, q_I_s_B, q_I_s_C, q_I_n_A, q_I_r_A, q_I_r_B, y_I_s_I, x_I_s_I, y_I_n_O, x_I_n_O, e73_ls, e_a0, e_b0, e_f0]), ⟨by omega, by omega⟩, (by simp (disch := omega) only [q_I_s_J, q_I_s_P, q_I_s_A, q_I_s_B, q_I_s_C, q_I_n_A, q_I_r_A, q_I_r_B, y_I_s_I, x_I_s_I, y_I_n_O, x_I_n_O, e73_ls, e_a0, e_b0, e_f0]), ⟨by omega, by omega⟩, (by omega), (fun g => p73_1 (by omega))⟩
  have L34 : ∀ (n34 : Nat) (S34c : b_M) (a0 : Int) (b0 : Int) (f0 : Int), mFr [1108, 1110, 1145] [] [30, 31] S S34c x → m_I S34c 1108 x = iI a0 → m_I S34c 1110 x = iI b0 → m_I S34c 1145 x = iI f0 → (-2147483648 ≤ a0 ∧ a0 < 2147483648) → (-2147483648 ≤ b0 ∧ b0 < 2147483648) → (-2147483648 ≤ f0 ∧ f0 < 2147483648) → (f0 = fo ∧ at_ ≤ a0 ∧ (a0 = at_ ∨ a0 ≤ ls) ∧ (b0 = 0 ∨ b0 = 1) ∧ (b0 = 0 → bd = 0)) → (b0 = 0 → nr S (x + 5) at_ a0) → (ls - a0).toNat = n34 → b_V X S34c z 0 0 34 [(1, .int (iI at_)), (0, .ref x)] [] := by
    intro n34
    induction n34 using Nat.strongRecOn with
    | _ n34 ih34 =>
    intro S34c a0 b0 f0 fr34 e_a0 e_b0 e_f0 b_a0 b_b0 b_f0 p34_0 p34_1 hm34
    have h34c : mS S34c x := fr34.keep h
    have hc34_5 : ∀ i, rAt S34c (x + 5) i = rAt S (x + 5) i := fun i => (fr34.1 (x + 5) (by omega) (by intro j hj; simp only [List.mem_cons, List.not_mem_nil, or_false] at hj; omega)).rA i
    have e34_ls : m_I S34c 1107 x = iI ls := (fr34.2.2.2.1 1107 (by decide)).trans e_ls
    refine v_aload_n hX dX13_takeExpression_34 (i := 0) rfl rfl ?_
    refine v_get hX (ci := 11) (k := 10) (ms_kx h34c) bc_11 (by decide) (by decide) in_11 w_5_226 dX13_takeExpression_35 (mvF (f := 1110) (v := iI b0) rfl rfl (by simp (disch := omega) only [q_I_s_J, q_I_s_P, q_I_s_A, q_I_s_B, q_I_s_C, q_I_n_A, q_I_r_A, q_I_r_B, y_I_s_I, x_I_s_I, y_I_n_O, x_I_n_O, e34_ls, e_a0, e_b0, e_f0])) ?_
    refine u_if_ne hX (tgt := 73) dX13_takeExpression_38 (by decide) ⟨by omega, by omega⟩ (fun h2_ => ?_) (fun h2_ => ?_)
    ·
      exact L73 _ a0 b0 f0 fr34 (by simp (disch := omega) only [q_I_s_J, q_I_s_P, q_I_s_A, q_I_s_B, q_I_s_C, q_I_n_A, q_I_r_A, q_I_r_B, y_I_s_I, x_I_s_I, y_I_n_O, x_I_n_O, e34_ls, e_a0, e_b0, e_f0]) (by simp (disch := omega) only [q_I_s_J, q_I_s_P, q_I_s_A, q_I_s_B, q_I_s_C, q_I_n_A, q_I_r_A, q_I_r_B, y_I_s_I, x_I_s_I, y_I_n_O, x_I_n_O, e34_ls, e_a0, e_b0, e_f0]) (by simp (disch := omega) only [q_I_s_J, q_I_s_P, q_I_s_A, q_I_s_B, q_I_s_C, q_I_n_A, q_I_r_A, q_I_r_B, y_I_s_I, x_I_s_I, y_I_n_O, x_I_n_O, e34_ls, e_a0, e_b0, e_f0]) ⟨by omega, by omega⟩ ⟨by omega, by omega⟩ ⟨by omega, by omega⟩ (by omega) (fun g => p34_1 (by omega))
    ·
      refine v_aload_n hX dX13_takeExpression_41 (i := 0) rfl rfl ?_
      refine v_callV hX (n := 0) (k_isSign (S := S34c) (x := x) (at_ := a0) (ls := ls) h34c (by simp (disch := omega) only [q_I_s_J, q_I_s_P, q_I_s_A, q_I_s_B, q_I_s_C, q_I_n_A, q_I_r_A, q_I_r_B, y_I_s_I, x_I_s_I, y_I_n_O, x_I_n_O, e34_ls, e_a0, e_b0, e_f0]) ⟨by omega, by omega⟩ (by simp (disch := omega) only [q_I_s_J, q_I_s_P, q_I_s_A, q_I_s_B, q_I_s_C, q_I_n_A, q_I_r_A, q_I_r_B, y_I_s_I, x_I_s_I, y_I_n_O, x_I_n_O, e34_ls, e_a0, e_b0, e_f0]) ⟨by omega, by omega⟩ (by omega)) (ms_kx h34c) bc_11 (by decide) w_7_122 w_7_124 (bw_p (q := (yX13_isSign, 72)) (List.mem_of_getElem? (i := 71) rfl) rfl) w_1_16 w_7_125 (by decide +kernel) rfl ⟨by decide, by decide⟩ ⟨by omega, by omega⟩ (Nat.le_of_ble_eq_true rfl) rfl dX13_takeExpression_42 (fun _ _ _ q => q) ?_
      rintro r3_ S3_ z3_ ⟨rfl, rfl, v4_, rfl, b_v4_, q3_⟩
      try simp (disch := omega) only [rA_I, rA_J, rA_B, rA_A, lA_I, lA_J, lA_A, lA_B, hc34_5] at q3_
      refine u_if_eq hX (tgt := 73) dX13_takeExpression_45 (by decide) ⟨by omega, by omega⟩ (fun h5_ => ?_) (fun h5_ => ?_)
      ·
        exact L73 _ a0 b0 f0 fr34 (by simp (disch := omega) only [q_I_s_J, q_I_s_P, q_I_s_A, q_I_s_B, q_I_s_C, q_I_n_A, q_I_r_A, q_I_r_B, y_I_s_I, x_I_s_I, y_I_n_O, x_I_n_O, e34_ls, e_a0, e_b0, e_f0]) (by simp (disch := omega) only [q_I_s_J, q_I_s_P, q_I_s_A, q_I_s_B, q_I_s_C, q_I_n_A, q_I_r_A, q_I_r_B, y_I_s_I, x_I_s_I, y_I_n_O, x_I_n_O, e34_ls, e_a0, e_b0, e_f0]) (by simp (disch := omega) only [q_I_s_J, q_I_s_P, q_I_s_A, q_I_s_B, q_I_s_C, q_I_n_A, q_I_r_A, q_I_r_B, y_I_s_I, x_I_s_I, y_I_n_O, x_I_n_O, e34_ls, e_a0, e_b0, e_f0]) ⟨by omega, by omega⟩ ⟨by omega, by omega⟩ ⟨by omega, by omega⟩ (by omega) (fun g => p34_1 (by omega))
      ·
        refine v_aload_n hX dX13_takeExpression_48 (i := 0) rfl rfl ?_
        refine v_dup hX dX13_takeExpression_49 rfl ?_
        refine v_get hX (ci := 11) (k := 8) (ms_kx h34c) bc_11 (by decide) (by decide) in_11 w_5_224 dX13_takeExpression_50 (mvF (f := 1108) (v := iI a0) rfl rfl (by simp (disch := omega) only [q_I_s_J, q_I_s_P, q_I_s_A, q_I_s_B, q_I_s_C, q_I_n_A, q_I_r_A, q_I_r_B, y_I_s_I, x_I_s_I, y_I_n_O, x_I_n_O, e34_ls, e_a0, e_b0, e_f0])) ?_
        refine v_iconst hX (v := iI 1) dX13_takeExpression_53 rfl ?_
        refine u_iadd hX dX13_takeExpression_54 ?_
        refine v_putI hX (ci := 11) (k := 8) (f := 1108) (ms_kx h34c) bc_11 (by decide) (by decide) in_11 tyX13_ok nmX13 w_5_224 (Or.inl rfl) rfl rfl dX13_takeExpression_55 rfl rfl ?_
        refine v_aload_n hX dX13_takeExpression_58 (i := 0) rfl rfl ?_
        refine v_callV hX (n := 0) (k_passBlanks (S := (s_I S34c 1108 x (iI (a0 + 1)))) (x := x) (at_ := (a0 + 1)) (ls := ls) h34c (by simp (disch := omega) only [q_I_s_J, q_I_s_P, q_I_s_A, q_I_s_B, q_I_s_C, q_I_n_A, q_I_r_A, q_I_r_B, y_I_s_I, x_I_s_I, y_I_n_O, x_I_n_O, e34_ls, e_a0, e_b0, e_f0]) ⟨by omega, by omega⟩ (by simp (disch := omega) only [q_I_s_J, q_I_s_P, q_I_s_A, q_I_s_B, q_I_s_C, q_I_n_A, q_I_r_A, q_I_r_B, y_I_s_I, x_I_s_I, y_I_n_O, x_I_n_O, e34_ls, e_a0, e_b0, e_f0]) ⟨by omega, by omega⟩ (by omega)) (ms_kx h34c) bc_11 (by decide) w_7_25 w_7_27 (bw_p (q := (yX13_passBlanks, 72)) (List.mem_of_getElem? (i := 50) rfl) rfl) w_1_16 w_7_28 (by decide +kernel) rfl ⟨by decide, by decide⟩ ⟨by omega, by omega⟩ (Nat.le_of_ble_eq_true rfl) rfl dX13_takeExpression_59 (fun _ _ _ q => q) ?_
        rintro r6_ S6_ z6_ ⟨rfl, f6_, v7_, rfl, e_v7_, b_v7_, q6_, q6_0⟩
        try simp (disch := omega) only [rA_I, rA_J, rA_B, rA_A, lA_I, lA_J, lA_A, lA_B, hc34_5] at q6_0
        have e6_1107 : m_I S6_ 1107 x = iI ls := (f6_.2.2.2.1 1107 (by decide)).trans (by simp (disch := omega) only [q_I_s_J, q_I_s_P, q_I_s_A, q_I_s_B, q_I_s_C, q_I_n_A, q_I_r_A, q_I_r_B, y_I_s_I, x_I_s_I, y_I_n_O, x_I_n_O, e34_ls, e_a0, e_b0, e_f0])
        have e6_1110 : m_I S6_ 1110 x = iI b0 := (f6_.2.2.2.1 1110 (by decide)).trans (by simp (disch := omega) only [q_I_s_J, q_I_s_P, q_I_s_A, q_I_s_B, q_I_s_C, q_I_n_A, q_I_r_A, q_I_r_B, y_I_s_I, x_I_s_I, y_I_n_O, x_I_n_O, e34_ls, e_a0, e_b0, e_f0])
        have e6_1145 : m_I S6_ 1145 x = iI f0 := (f6_.2.2.2.1 1145 (by decide)).trans (by simp (disch := omega) only [q_I_s_J, q_I_s_P, q_I_s_A, q_I_s_B, q_I_s_C, q_I_n_A, q_I_r_A, q_I_r_B, y_I_s_I, x_I_s_I, y_I_n_O, x_I_n_O, e34_ls, e_a0, e_b0, e_f0])
        have h6_ : mS S6_ x := f6_.keep h34c
        have hc6_5 : ∀ i, rAt S6_ (x + 5) i = rAt S (x + 5) i := fun i => ((f6_.1 (x + 5) (by omega) (fun j hj => absurd hj List.not_mem_nil)).rA i).trans (hc34_5 i)
        refine v_aload_n hX dX13_takeExpression_62 (i := 0) rfl rfl ?_
        refine v_callV hX (n := 0) (k_passTerm (S := S6_) (x := x) (at_ := v7_) (ls := ls) (bd := b0) h6_ (by simp (disch := omega) only [q_I_s_J, q_I_s_P, q_I_s_A, q_I_s_B, q_I_s_C, q_I_n_A, q_I_r_A, q_I_r_B, y_I_s_I, x_I_s_I, y_I_n_O, x_I_n_O, e6_1107, e6_1110, e6_1145, e_v7_]) ⟨by omega, by omega⟩ (by simp (disch := omega) only [q_I_s_J, q_I_s_P, q_I_s_A, q_I_s_B, q_I_s_C, q_I_n_A, q_I_r_A, q_I_r_B, y_I_s_I, x_I_s_I, y_I_n_O, x_I_n_O, e6_1107, e6_1110, e6_1145, e_v7_]) ⟨by omega, by omega⟩ (by simp (disch := omega) only [q_I_s_J, q_I_s_P, q_I_s_A, q_I_s_B, q_I_s_C, q_I_n_A, q_I_r_A, q_I_r_B, y_I_s_I, x_I_s_I, y_I_n_O, x_I_n_O, e6_1107, e6_1110, e6_1145, e_v7_]) ⟨by omega, by omega⟩ (by omega)) (ms_kx h6_) bc_11 (by decide) w_7_126 w_7_128 (bw_p (q := (yX13_passTerm, 72)) (List.mem_of_getElem? (i := 72) rfl) rfl) w_1_16 w_7_129 (by decide +kernel) rfl ⟨by decide, by decide⟩ ⟨by omega, by omega⟩ (Nat.le_of_ble_eq_true rfl) rfl dX13_takeExpression_63 (fun _ _ _ q => q) ?_
        rintro r8_ S8_ z8_ ⟨rfl, f8_, v9_, v10_, rfl, e_v9_, b_v9_, e_v10_, b_v10_, q8_⟩
        have e8_1107 : m_I S8_ 1107 x = iI ls := (f8_.2.2.2.1 1107 (by decide)).trans (by simp (disch := omega) only [q_I_s_J, q_I_s_P, q_I_s_A, q_I_s_B, q_I_s_C, q_I_n_A, q_I_r_A, q_I_r_B, y_I_s_I, x_I_s_I, y_I_n_O, x_I_n_O, e6_1107, e6_1110, e6_1145, e_v7_])
        have e8_1145 : m_I S8_ 1145 x = iI f0 := (f8_.2.2.2.1 1145 (by decide)).trans (by simp (disch := omega) only [q_I_s_J, q_I_s_P, q_I_s_A, q_I_s_B, q_I_s_C, q_I_n_A, q_I_r_A, q_I_r_B, y_I_s_I, x_I_s_I, y_I_n_O, x_I_n_O, e6_1107, e6_1110, e6_1145, e_v7_])
        have h8_ : mS S8_ x := f8_.keep h6_
        have hc8_5 : ∀ i, rAt S8_ (x + 5) i = rAt S (x + 5) i := fun i => ((f8_.1 (x + 5) (by omega) (fun j hj => absurd hj List.not_mem_nil)).rA i).trans (hc6_5 i)
        refine v_aload_n hX dX13_takeExpression_66 (i := 0) rfl rfl ?_
        refine v_callV hX (n := 0) (k_passBlanks (S := S8_) (x := x) (at_ := v9_) (ls := ls) h8_ (by simp (disch := omega) only [q_I_s_J, q_I_s_P, q_I_s_A, q_I_s_B, q_I_s_C, q_I_n_A, q_I_r_A, q_I_r_B, y_I_s_I, x_I_s_I, y_I_n_O, x_I_n_O, e8_1107, e8_1145, e_v9_, e_v10_]) ⟨by omega, by omega⟩ (by simp (disch := omega) only [q_I_s_J, q_I_s_P, q_I_s_A, q_I_s_B, q_I_s_C, q_I_n_A, q_I_r_A, q_I_r_B, y_I_s_I, x_I_s_I, y_I_n_O, x_I_n_O, e8_1107, e8_1145, e_v9_, e_v10_]) ⟨by omega, by omega⟩ (by omega)) (ms_kx h8_) bc_11 (by decide) w_7_25 w_7_27 (bw_p (q := (yX13_passBlanks, 72)) (List.mem_of_getElem? (i := 50) rfl) rfl) w_1_16 w_7_28 (by decide +kernel) rfl ⟨by decide, by decide⟩ ⟨by omega, by omega⟩ (Nat.le_of_ble_eq_true rfl) rfl dX13_takeExpression_67 (fun _ _ _ q => q) ?_
        rintro r11_ S11_ z11_ ⟨rfl, f11_, v12_, rfl, e_v12_, b_v12_, q11_, q11_0⟩
        try simp (disch := omega) only [rA_I, rA_J, rA_B, rA_A, lA_I, lA_J, lA_A, lA_B, hc8_5] at q11_0
        have e11_1107 : m_I S11_ 1107 x = iI ls := (f11_.2.2.2.1 1107 (by decide)).trans (by simp (disch := omega) only [q_I_s_J, q_I_s_P, q_I_s_A, q_I_s_B, q_I_s_C, q_I_n_A, q_I_r_A, q_I_r_B, y_I_s_I, x_I_s_I, y_I_n_O, x_I_n_O, e8_1107, e8_1145, e_v9_, e_v10_])
        have e11_1145 : m_I S11_ 1145 x = iI f0 := (f11_.2.2.2.1 1145 (by decide)).trans (by simp (disch := omega) only [q_I_s_J, q_I_s_P, q_I_s_A, q_I_s_B, q_I_s_C, q_I_n_A, q_I_r_A, q_I_r_B, y_I_s_I, x_I_s_I, y_I_n_O, x_I_n_O, e8_1107, e8_1145, e_v9_, e_v10_])
        have e11_1110 : m_I S11_ 1110 x = iI v10_ := (f11_.2.2.2.1 1110 (by decide)).trans (by simp (disch := omega) only [q_I_s_J, q_I_s_P, q_I_s_A, q_I_s_B, q_I_s_C, q_I_n_A, q_I_r_A, q_I_r_B, y_I_s_I, x_I_s_I, y_I_n_O, x_I_n_O, e8_1107, e8_1145, e_v9_, e_v10_])
        have h11_ : mS S11_ x := f11_.keep h8_
        have hc11_5 : ∀ i, rAt S11_ (x + 5) i = rAt S (x + 5) i := fun i => ((f11_.1 (x + 5) (by omega) (fun j hj => absurd hj List.not_mem_nil)).rA i).trans (hc8_5 i)
        refine v_goto hX (tgt := 34) dX13_takeExpression_70 (by decide) ?_
        exact ih34 _ (by omega) _ v12_ v10_ f0 ((((fr34.sI (by decide)).tr (f6_.mono (by decide) (by decide) (by decide))).tr (f8_.mono (by decide) (by decide) (by decide))).tr (f11_.mono (by decide) (by decide) (by decide))) (by simp (disch := omega) only [q_I_s_J, q_I_s_P, q_I_s_A, q_I_s_B, q_I_s_C, q_I_n_A, q_I_r_A, q_I_r_B, y_I_s_I, x_I_s_I, y_I_n_O, x_I_n_O, e11_1107, e11_1145, e11_1110, e_v12_]) (by simp (disch := omega) only [q_I_s_J, q_I_s_P, q_I_s_A, q_I_s_B, q_I_s_C, q_I_n_A, q_I_r_A, q_I_r_B, y_I_s_I, x_I_s_I, y_I_n_O, x_I_n_O, e11_1107, e11_1145, e11_1110, e_v12_]) (by simp (disch := omega) only [q_I_s_J, q_I_s_P, q_I_s_A, q_I_s_B, q_I_s_C, q_I_n_A, q_I_r_A, q_I_r_B, y_I_s_I, x_I_s_I, y_I_n_O, x_I_n_O, e11_1107, e11_1145, e11_1110, e_v12_]) ⟨by omega, by omega⟩ ⟨by omega, by omega⟩ ⟨by omega, by omega⟩ (by omega) (fun g => nr_step (p34_1 (by omega)) (by unfold prt; omega) (by omega) q6_0 ⟨by omega, by omega⟩ (by omega) q11_0) rfl
  have L22 : ∀ (S22c : b_M) (a0 : Int) (b0 : Int) (f0 : Int), mFr [1108, 1110, 1145] [] [30, 31] S S22c x → m_I S22c 1108 x = iI a0 → m_I S22c 1110 x = iI b0 → m_I S22c 1145 x = iI f0 → (-2147483648 ≤ a0 ∧ a0 < 2147483648) → (-2147483648 ≤ b0 ∧ b0 < 2147483648) → (-2147483648 ≤ f0 ∧ f0 < 2147483648) → (b0 = bd ∧ f0 = fo ∧ (a0 = at_ ∨ (a0 = at_ + 1 ∧ at_ < ls ∧ (rAt S (x + 5) at_ = 43 ∨ rAt S (x + 5) at_ = 45)))) → b_V X S22c z 0 0 22 [(1, .int (iI at_)), (0, .ref x)] [] := by
    intro S22c a0 b0 f0 fr22 e_a0 e_b0 e_f0 b_a0 b_b0 b_f0 p22_0
    have h22c : mS S22c x := fr22.keep h
    have hc22_5 : ∀ i, rAt S22c (x + 5) i = rAt S (x + 5) i := fun i => (fr22.1 (x + 5) (by omega) (by intro j hj; simp only [List.mem_cons, List.not_mem_nil, or_false] at hj; omega)).rA i
    have e22_ls : m_I S22c 1107 x = iI ls := (fr22.2.2.2.1 1107 (by decide)).trans e_ls
    refine v_aload_n hX dX13_takeExpression_22 (i := 0) rfl rfl ?_
    refine v_callV hX (n := 0) (k_passBlanks (S := S22c) (x := x) (at_ := a0) (ls := ls) h22c (by simp (disch := omega) only [q_I_s_J, q_I_s_P, q_I_s_A, q_I_s_B, q_I_s_C, q_I_n_A, q_I_r_A, q_I_r_B, y_I_s_I, x_I_s_I, y_I_n_O, x_I_n_O, e22_ls, e_a0, e_b0, e_f0]) ⟨by omega, by omega⟩ (by simp (disch := omega) only [q_I_s_J, q_I_s_P, q_I_s_A, q_I_s_B, q_I_s_C, q_I_n_A, q_I_r_A, q_I_r_B, y_I_s_I, x_I_s_I, y_I_n_O, x_I_n_O, e22_ls, e_a0, e_b0, e_f0]) ⟨by omega, by omega⟩ (by omega)) (ms_kx h22c) bc_11 (by decide) w_7_25 w_7_27 (bw_p (q := (yX13_passBlanks, 72)) (List.mem_of_getElem? (i := 50) rfl) rfl) w_1_16 w_7_28 (by decide +kernel) rfl ⟨by decide, by decide⟩ ⟨by omega, by omega⟩ (Nat.le_of_ble_eq_true rfl) rfl dX13_takeExpression_23 (fun _ _ _ q => q) ?_
    rintro r13_ S13_ z13_ ⟨rfl, f13_, v14_, rfl, e_v14_, b_v14_, q13_, q13_0⟩
    try simp (disch := omega) only [rA_I, rA_J, rA_B, rA_A, lA_I, lA_J, lA_A, lA_B, hc22_5] at q13_0
    have e13_1107 : m_I S13_ 1107 x = iI ls := (f13_.2.2.2.1 1107 (by decide)).trans (by simp (disch := omega) only [q_I_s_J, q_I_s_P, q_I_s_A, q_I_s_B, q_I_s_C, q_I_n_A, q_I_r_A, q_I_r_B, y_I_s_I, x_I_s_I, y_I_n_O, x_I_n_O, e22_ls, e_a0, e_b0, e_f0])
    have e13_1110 : m_I S13_ 1110 x = iI b0 := (f13_.2.2.2.1 1110 (by decide)).trans (by simp (disch := omega) only [q_I_s_J, q_I_s_P, q_I_s_A, q_I_s_B, q_I_s_C, q_I_n_A, q_I_r_A, q_I_r_B, y_I_s_I, x_I_s_I, y_I_n_O, x_I_n_O, e22_ls, e_a0, e_b0, e_f0])
    have e13_1145 : m_I S13_ 1145 x = iI f0 := (f13_.2.2.2.1 1145 (by decide)).trans (by simp (disch := omega) only [q_I_s_J, q_I_s_P, q_I_s_A, q_I_s_B, q_I_s_C, q_I_n_A, q_I_r_A, q_I_r_B, y_I_s_I, x_I_s_I, y_I_n_O, x_I_n_O, e22_ls, e_a0, e_b0, e_f0])
    have h13_ : mS S13_ x := f13_.keep h22c
    have hc13_5 : ∀ i, rAt S13_ (x + 5) i = rAt S (x + 5) i := fun i => ((f13_.1 (x + 5) (by omega) (fun j hj => absurd hj List.not_mem_nil)).rA i).trans (hc22_5 i)
    refine v_aload_n hX dX13_takeExpression_26 (i := 0) rfl rfl ?_
    refine v_callV hX (n := 0) (k_passTerm (S := S13_) (x := x) (at_ := v14_) (ls := ls) (bd := b0) h13_ (by simp (disch := omega) only [q_I_s_J, q_I_s_P, q_I_s_A, q_I_s_B, q_I_s_C, q_I_n_A, q_I_r_A, q_I_r_B, y_I_s_I, x_I_s_I, y_I_n_O, x_I_n_O, e13_1107, e13_1110, e13_1145, e_v14_]) ⟨by omega, by omega⟩ (by simp (disch := omega) only [q_I_s_J, q_I_s_P, q_I_s_A, q_I_s_B, q_I_s_C, q_I_n_A, q_I_r_A, q_I_r_B, y_I_s_I, x_I_s_I, y_I_n_O, x_I_n_O, e13_1107, e13_1110, e13_1145, e_v14_]) ⟨by omega, by omega⟩ (by simp (disch := omega) only [q_I_s_J, q_I_s_P, q_I_s_A, q_I_s_B, q_I_s_C, q_I_n_A, q_I_r_A, q_I_r_B, y_I_s_I, x_I_s_I, y_I_n_O, x_I_n_O, e13_1107, e13_1110, e13_1145, e_v14_]) ⟨by omega, by omega⟩ (by omega)) (ms_kx h13_) bc_11 (by decide) w_7_126 w_7_128 (bw_p (q := (yX13_passTerm, 72)) (List.mem_of_getElem? (i := 72) rfl) rfl) w_1_16 w_7_129 (by decide +kernel) rfl ⟨by decide, by decide⟩ ⟨by omega, by omega⟩ (Nat.le_of_ble_eq_true rfl) rfl dX13_takeExpression_27 (fun _ _ _ q => q) ?_
    rintro r15_ S15_ z15_ ⟨rfl, f15_, v16_, v17_, rfl, e_v16_, b_v16_, e_v17_, b_v17_, q15_⟩
    have e15_1107 : m_I S15_ 1107 x = iI ls := (f15_.2.2.2.1 1107 (by decide)).trans (by simp (disch := omega) only [q_I_s_J, q_I_s_P, q_I_s_A, q_I_s_B, q_I_s_C, q_I_n_A, q_I_r_A, q_I_r_B, y_I_s_I, x_I_s_I, y_I_n_O, x_I_n_O, e13_1107, e13_1110, e13_1145, e_v14_])
    have e15_1145 : m_I S15_ 1145 x = iI f0 := (f15_.2.2.2.1 1145 (by decide)).trans (by simp (disch := omega) only [q_I_s_J, q_I_s_P, q_I_s_A, q_I_s_B, q_I_s_C, q_I_n_A, q_I_r_A, q_I_r_B, y_I_s_I, x_I_s_I, y_I_n_O, x_I_n_O, e13_1107, e13_1110, e13_1145, e_v14_])
    have h15_ : mS S15_ x := f15_.keep h13_
    have hc15_5 : ∀ i, rAt S15_ (x + 5) i = rAt S (x + 5) i := fun i => ((f15_.1 (x + 5) (by omega) (fun j hj => absurd hj List.not_mem_nil)).rA i).trans (hc13_5 i)
    refine v_aload_n hX dX13_takeExpression_30 (i := 0) rfl rfl ?_
    refine v_callV hX (n := 0) (k_passBlanks (S := S15_) (x := x) (at_ := v16_) (ls := ls) h15_ (by simp (disch := omega) only [q_I_s_J, q_I_s_P, q_I_s_A, q_I_s_B, q_I_s_C, q_I_n_A, q_I_r_A, q_I_r_B, y_I_s_I, x_I_s_I, y_I_n_O, x_I_n_O, e15_1107, e15_1145, e_v16_, e_v17_]) ⟨by omega, by omega⟩ (by simp (disch := omega) only [q_I_s_J, q_I_s_P, q_I_s_A, q_I_s_B, q_I_s_C, q_I_n_A, q_I_r_A, q_I_r_B, y_I_s_I, x_I_s_I, y_I_n_O, x_I_n_O, e15_1107, e15_1145, e_v16_, e_v17_]) ⟨by omega, by omega⟩ (by omega)) (ms_kx h15_) bc_11 (by decide) w_7_25 w_7_27 (bw_p (q := (yX13_passBlanks, 72)) (List.mem_of_getElem? (i := 50) rfl) rfl) w_1_16 w_7_28 (by decide +kernel) rfl ⟨by decide, by decide⟩ ⟨by omega, by omega⟩ (Nat.le_of_ble_eq_true rfl) rfl dX13_takeExpression_31 (fun _ _ _ q => q) ?_
    rintro r18_ S18_ z18_ ⟨rfl, f18_, v19_, rfl, e_v19_, b_v19_, q18_, q18_0⟩
    try simp (disch := omega) only [rA_I, rA_J, rA_B, rA_A, lA_I, lA_J, lA_A, lA_B, hc15_5] at q18_0
    have e18_1107 : m_I S18_ 1107 x = iI ls := (f18_.2.2.2.1 1107 (by decide)).trans (by simp (disch := omega) only [q_I_s_J, q_I_s_P, q_I_s_A, q_I_s_B, q_I_s_C, q_I_n_A, q_I_r_A, q_I_r_B, y_I_s_I, x_I_s_I, y_I_n_O, x_I_n_O, e15_1107, e15_1145, e_v16_, e_v17_])
    have e18_1145 : m_I S18_ 1145 x = iI f0 := (f18_.2.2.2.1 1145 (by decide)).trans (by simp (disch := omega) only [q_I_s_J, q_I_s_P, q_I_s_A, q_I_s_B, q_I_s_C, q_I_n_A, q_I_r_A, q_I_r_B, y_I_s_I, x_I_s_I, y_I_n_O, x_I_n_O, e15_1107, e15_1145, e_v16_, e_v17_])
    have e18_1110 : m_I S18_ 1110 x = iI v17_ := (f18_.2.2.2.1 1110 (by decide)).trans (by simp (disch := omega) only [q_I_s_J, q_I_s_P, q_I_s_A, q_I_s_B, q_I_s_C, q_I_n_A, q_I_r_A, q_I_r_B, y_I_s_I, x_I_s_I, y_I_n_O, x_I_n_O, e15_1107, e15_1145, e_v16_, e_v17_])
    have h18_ : mS S18_ x := f18_.keep h15_
    have hc18_5 : ∀ i, rAt S18_ (x + 5) i = rAt S (x + 5) i := fun i => ((f18_.1 (x + 5) (by omega) (fun j hj => absurd hj List.not_mem_nil)).rA i).trans (hc15_5 i)
    exact L34 _ _ v19_ v17_ f0 (((fr22.tr (f13_.mono (by decide) (by decide) (by decide))).tr (f15_.mono (by decide) (by decide) (by decide))).tr (f18_.mono (by decide) (by decide) (by decide))) (by simp (disch := omega) only [q_I_s_J, q_I_s_P, q_I_s_A, q_I_s_B, q_I_s_C, q_I_n_A, q_I_r_A, q_I_r_B, y_I_s_I, x_I_s_I, y_I_n_O, x_I_n_O, e18_1107, e18_1145, e18_1110, e_v19_]) (by simp (disch := omega) only [q_I_s_J, q_I_s_P, q_I_s_A, q_I_s_B, q_I_s_C, q_I_n_A, q_I_r_A, q_I_r_B, y_I_s_I, x_I_s_I, y_I_n_O, x_I_n_O, e18_1107, e18_1145, e18_1110, e_v19_]) (by simp (disch := omega) only [q_I_s_J, q_I_s_P, q_I_s_A, q_I_s_B, q_I_s_C, q_I_n_A, q_I_r_A, q_I_r_B, y_I_s_I, x_I_s_I, y_I_n_O, x_I_n_O, e18_1107, e18_1145, e18_1110, e_v19_]) ⟨by omega, by omega⟩ ⟨by omega, by omega⟩ ⟨by omega, by omega⟩ (by omega) (fun g => nr_first (s := a0) (by unfold prt; omega) (by omega) q13_0 ⟨by omega, by omega⟩ (by omega) q18_0) rfl
  change b_V X S z 0 0 0 [(0, .ref x)] []
  refine v_aload_n hX dX13_takeExpression_0 (i := 0) rfl rfl ?_
  refine v_get hX (ci := 11) (k := 8) (ms_kx h) bc_11 (by decide) (by decide) in_11 w_5_224 dX13_takeExpression_1 (mvF (f := 1108) (v := iI at_) rfl rfl (by simp (disch := omega) only [q_I_s_J, q_I_s_P, q_I_s_A, q_I_s_B, q_I_s_C, q_I_n_A, q_I_r_A, q_I_r_B, y_I_s_I, x_I_s_I, y_I_n_O, x_I_n_O, e_at_, e_ls, e_bd, e_fo])) ?_
  refine v_istore_n hX (lv' := [(1, .int (iI at_)), (0, .ref x)]) dX13_takeExpression_4 (i := 1) rfl (by rw [hnL]; decide) rfl ?_
  refine v_aload_n hX dX13_takeExpression_5 (i := 0) rfl rfl ?_
  refine v_callV hX (n := 0) (k_isSign (S := S) (x := x) (at_ := at_) (ls := ls) h (by simp (disch := omega) only [q_I_s_J, q_I_s_P, q_I_s_A, q_I_s_B, q_I_s_C, q_I_n_A, q_I_r_A, q_I_r_B, y_I_s_I, x_I_s_I, y_I_n_O, x_I_n_O, e_at_, e_ls, e_bd, e_fo]) ⟨by omega, by omega⟩ (by simp (disch := omega) only [q_I_s_J, q_I_s_P, q_I_s_A, q_I_s_B, q_I_s_C, q_I_n_A, q_I_r_A, q_I_r_B, y_I_s_I, x_I_s_I, y_I_n_O, x_I_n_O, e_at_, e_ls, e_bd, e_fo]) ⟨by omega, by omega⟩ (by omega)) (ms_kx h) bc_11 (by decide) w_7_122 w_7_124 (bw_p (q := (yX13_isSign, 72)) (List.mem_of_getElem? (i := 71) rfl) rfl) w_1_16 w_7_125 (by decide +kernel) rfl ⟨by decide, by decide⟩ ⟨by omega, by omega⟩ (Nat.le_of_ble_eq_true rfl) rfl dX13_takeExpression_6 (fun _ _ _ q => q) ?_
  rintro r20_ S20_ z20_ ⟨rfl, rfl, v21_, rfl, b_v21_, q20_⟩
  refine u_if_eq hX (tgt := 22) dX13_takeExpression_9 (by decide) ⟨by omega, by omega⟩ (fun h22_ => ?_) (fun h22_ => ?_)
  ·
    exact L22 _ at_ bd fo (mFr.rf _ _) (by simp (disch := omega) only [q_I_s_J, q_I_s_P, q_I_s_A, q_I_s_B, q_I_s_C, q_I_n_A, q_I_r_A, q_I_r_B, y_I_s_I, x_I_s_I, y_I_n_O, x_I_n_O, e_at_, e_ls, e_bd, e_fo]) (by simp (disch := omega) only [q_I_s_J, q_I_s_P, q_I_s_A, q_I_s_B, q_I_s_C, q_I_n_A, q_I_r_A, q_I_r_B, y_I_s_I, x_I_s_I, y_I_n_O, x_I_n_O, e_at_, e_ls, e_bd, e_fo]) (by simp (disch := omega) only [q_I_s_J, q_I_s_P, q_I_s_A, q_I_s_B, q_I_s_C, q_I_n_A, q_I_r_A, q_I_r_B, y_I_s_I, x_I_s_I, y_I_n_O, x_I_n_O, e_at_, e_ls, e_bd, e_fo]) ⟨by omega, by omega⟩ ⟨by omega, by omega⟩ ⟨by omega, by omega⟩ (by omega)
  ·
    refine v_aload_n hX dX13_takeExpression_12 (i := 0) rfl rfl ?_
    refine v_dup hX dX13_takeExpression_13 rfl ?_
    refine v_get hX (ci := 11) (k := 8) (ms_kx h) bc_11 (by decide) (by decide) in_11 w_5_224 dX13_takeExpression_14 (mvF (f := 1108) (v := iI at_) rfl rfl (by simp (disch := omega) only [q_I_s_J, q_I_s_P, q_I_s_A, q_I_s_B, q_I_s_C, q_I_n_A, q_I_r_A, q_I_r_B, y_I_s_I, x_I_s_I, y_I_n_O, x_I_n_O, e_at_, e_ls, e_bd, e_fo])) ?_
    refine v_iconst hX (v := iI 1) dX13_takeExpression_17 rfl ?_
    refine u_iadd hX dX13_takeExpression_18 ?_
    refine v_putI hX (ci := 11) (k := 8) (f := 1108) (ms_kx h) bc_11 (by decide) (by decide) in_11 tyX13_ok nmX13 w_5_224 (Or.inl rfl) rfl rfl dX13_takeExpression_19 rfl rfl ?_
    exact L22 _ (at_ + 1) bd fo ((mFr.rf _ _).sI (by decide)) (by simp (disch := omega) only [q_I_s_J, q_I_s_P, q_I_s_A, q_I_s_B, q_I_s_C, q_I_n_A, q_I_r_A, q_I_r_B, y_I_s_I, x_I_s_I, y_I_n_O, x_I_n_O, e_at_, e_ls, e_bd, e_fo]) (by simp (disch := omega) only [q_I_s_J, q_I_s_P, q_I_s_A, q_I_s_B, q_I_s_C, q_I_n_A, q_I_r_A, q_I_r_B, y_I_s_I, x_I_s_I, y_I_n_O, x_I_n_O, e_at_, e_ls, e_bd, e_fo]) (by simp (disch := omega) only [q_I_s_J, q_I_s_P, q_I_s_A, q_I_s_B, q_I_s_C, q_I_n_A, q_I_r_A, q_I_r_B, y_I_s_I, x_I_s_I, y_I_n_O, x_I_n_O, e_at_, e_ls, e_bd, e_fo]) ⟨by omega, by omega⟩ ⟨by omega, by omega⟩ ⟨by omega, by omega⟩ (by omega)
