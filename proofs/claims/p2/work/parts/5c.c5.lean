def cFr.nA {Fs Ps As : List Nat} {w : Nat} {S S1 : b_M} {x z k n : Nat} (h : cFr Fs Ps As w S S1 x) (hz : w ≤ z) (hx : x + 457 ≤ z) (hf : ∀ b, m_K S1 b < 18 → b < z) : cFr Fs Ps As w S (n_A S1 z k n) x := ⟨⟨fun b h1 h2 => (h.1.1 b h1 h2).tr (e_n_A _ _ _ _ (by omega)), fun q b j hb => by
  by_cases e : b = z
  · rw [e, q_A_n_A, if_pos rfl]; rfl
  · rw [x_A_n_A _ _ _ _ _ _ e]
    rw [x_K_n_A _ _ _ _ _ e] at hb
    exact h.1.2 q b j hb⟩, h.2.1, h.2.2.1, fun o a c d i => by
  rw [x_A_n_A _ _ _ _ _ _ (by omega)]
  exact h.2.2.2.1 o a c d i, fun b hb => by
  have h1 := h.2.2.2.2 b hb
  have h2 := hf b (by rw [h1.1]; exact hb)
  have h3 : b ≠ z := by omega
  exact ⟨(x_K_n_A _ _ _ _ _ h3).trans h1.1, (x_L_n_A _ _ _ _ _ h3).trans h1.2.1, fun i => (x_C_n_A _ _ _ _ _ _ h3).trans (h1.2.2 i)⟩⟩
theorem cFr.rB {Fs Ps As : List Nat} {w : Nat} {S S1 : b_M} {x a : Nat} {g : Nat → Int64} (h : cFr Fs Ps As w S S1 x) (ha : inW x w a) : cFr Fs Ps As w S (r_B S1 a g) x := ⟨⟨fun b h1 h2 => (h.1.1 b h1 h2).tr (e_r_B _ _ _ (by omega)), fun q => h.1.2 q⟩, h.2⟩
theorem cFr.rA {Fs Ps As : List Nat} {w : Nat} {S S1 : b_M} {x a : Nat} {g : Nat → Int32} (h : cFr Fs Ps As w S S1 x) (ha : inW x w a) (hk : m_K S1 a = 12) (hg : bY S1 → ∀ i, fits .byte (.int (g i)) = true) : cFr Fs Ps As w S (r_A S1 a g) x := ⟨⟨fun b h1 h2 => (h.1.1 b h1 h2).tr (e_r_A _ _ _ (by omega)), fun q b j hb => by
  by_cases e : b = a
  · rw [e, q_A_r_A, if_pos rfl]; exact hg (h.1.2 q) j
  · rw [x_A_r_A _ _ _ _ _ e]; exact h.1.2 q b j hb⟩, h.2.1, h.2.2.1, fun p b c d j => by
  rw [x_A_r_A _ _ _ _ _ (fun q => by
    have h9 := (h.2.2.2.2 (x + p) (by rw [c]; decide)).1
    rw [c, q, hk] at h9
    exact absurd h9 (by decide))]
  exact h.2.2.2.1 p b c d j, h.2.2.2.2⟩
theorem bY.fr {Fs Ps As : List Nat} {w : Nat} {S S1 : b_M} {x : Nat} (h : bY S) (_ : cS S x) (f : cFr Fs Ps As w S S1 x) (_ : True) : bY S1 := f.1.2 h
set_option maxRecDepth 100000 in
set_option maxHeartbeats 4000000 in
theorem g_E_forget {kn : Nat → Nat} {B : Nat} {S : b_M} {z x w : Nat} (h : cS S x) : b_C kn B yX2_forget cX2_forget 1 none 0 0 0 0 [.ref (x + 2)] S z (fun r S' z' => z = z' ∧ cFr [102] [] [] w S S' x ∧ r = none ∧ (True) ∧ (gR S' x)) (fun _ _ _ => False) := by
  refine (t_E_forget (w := w) h).mono ?_ (fun _ _ _ h => h)
  rintro r S1 z1 ⟨rfl, f, t1, rfl, e, b, pq⟩
  exact ⟨rfl, f, rfl, trivial, ⟨t1, e, by omega, by omega⟩⟩
set_option maxRecDepth 100000 in
set_option maxHeartbeats 4000000 in
theorem g_E_tell {kn : Nat → Nat} {B : Nat} {S : b_M} {z x w : Nat} {n : Int} {l : Int} (h : cS S x) (b_n : -2147483648 ≤ n ∧ n < 2147483648) (b_l : -2147483648 ≤ l ∧ l < 2147483648) (g_gR : gR S x) : b_C kn B yX2_tell cX2_tell 3 none 0 0 0 0 [.ref (x + 2), .int (iI n), .int (iI l)] S z (fun r S' z' => z = z' ∧ cFr [102] [] [3, 4] w S S' x ∧ r = none ∧ (True) ∧ (gR S' x)) (fun _ _ _ => False) := by
  obtain ⟨t, e, p⟩ := g_gR
  refine (t_E_tell (w := w) h e ⟨by omega, by omega⟩ b_n b_l (by omega)).mono ?_ (fun _ _ _ h => h)
  rintro r S1 z1 ⟨rfl, f, t1, rfl, e1, b, pq⟩
  exact ⟨rfl, f, rfl, trivial, ⟨t1, e1, by omega, by omega⟩⟩
set_option maxRecDepth 100000 in
set_option maxHeartbeats 4000000 in
theorem g_N_find {kn : Nat → Nat} {B : Nat} {S : b_M} {z x w : Nat} {v : Int} (h : cS S x) (b_v : -9223372036854775808 ≤ v ∧ v < 9223372036854775808) (g_gN : gN S x) : b_C kn B yX6_find cX6_find 5 (some .int) 0 0 0 0 [.ref (x + 6), .long (jJ v)] S z (fun r S' z' => z = z' ∧ S = S' ∧ ∃ q : Int, r = some (.int (iI q)) ∧ (-2147483648 ≤ q ∧ q < 2147483648) ∧ (-1 ≤ q ∧ q < 800)) (fun _ _ _ => False) := by
  exact t_N_find (w := w) h b_v g_gN.1
set_option maxRecDepth 100000 in
set_option maxHeartbeats 4000000 in
theorem g_N_place {kn : Nat → Nat} {B : Nat} {S : b_M} {z x w : Nat} {lb : Int} {v : Int} (h : cS S x) (b_lb : -2147483648 ≤ lb ∧ lb < 2147483648) (b_v : -2147483648 ≤ v ∧ v < 2147483648) (g_gN : gN S x) : b_C kn B yX6_place cX6_place 3 none 0 0 0 0 [.ref (x + 6), .int (iI lb), .int (iI v)] S z (fun r S' z' => z = z' ∧ cFr [] [] [10] w S S' x ∧ r = none ∧ (True)) (fun _ _ _ => False) := by
  obtain ⟨nk, la, se, e1, e2, p⟩ := g_gN
  exact t_N_place (w := w) h e1 ⟨by omega, by omega⟩ b_lb b_v (by omega)
set_option maxRecDepth 100000 in
set_option maxHeartbeats 4000000 in
theorem g_N_addLabel {kn : Nat → Nat} {B : Nat} {S : b_M} {z x w : Nat} {v : Int} (h : cS S x) (b_v : -9223372036854775808 ≤ v ∧ v < 9223372036854775808) (g_gN : gN S x) : b_C kn B yX6_addLabel cX6_addLabel 3 (some .int) 2 47 0 0 [.ref (x + 6), .long (jJ v)] S z (fun r S' z' => z = z' ∧ cFr [504] [] [7, 8, 10] w S S' x ∧ ∃ q : Int, r = some (.int (iI q)) ∧ (-2147483648 ≤ q ∧ q < 2147483648) ∧ (True) ∧ (gN S' x)) (fun _ _ _ => False) := by
  obtain ⟨nk, la, se, e1, e2, p⟩ := g_gN
  refine (t_N_addLabel (w := w) h e1 ⟨by omega, by omega⟩ b_v nk (by omega)).mono ?_ (fun _ _ _ h => h)
  rintro r S1 z1 ⟨rfl, f, q, l1, rfl, bq, e, b, pq, nk1⟩
  exact ⟨rfl, f, q, rfl, bq, trivial, ⟨nk1, l1, se, e, (f.2.1 505 (by decide) _).trans e2, by omega, by omega, by omega, by omega⟩⟩
set_option maxRecDepth 100000 in
set_option maxHeartbeats 4000000 in
theorem g_N_addSet {kn : Nat → Nat} {B : Nat} {S : b_M} {z x w : Nat} {v : Int} {val : Int} (h : cS S x) (b_v : -9223372036854775808 ≤ v ∧ v < 9223372036854775808) (b_val : -2147483648 ≤ val ∧ val < 2147483648) (g_gN : gN S x) : b_C kn B yX6_addSet cX6_addSet 4 none 2 47 0 0 [.ref (x + 6), .long (jJ v), .int (iI val)] S z (fun r S' z' => z = z' ∧ cFr [505] [] [7, 8, 10] w S S' x ∧ r = none ∧ (True) ∧ (gN S' x)) (fun _ _ _ => False) := by
  obtain ⟨nk, la, se, e1, e2, p⟩ := g_gN
  refine (t_N_addSet (w := w) h e2 ⟨by omega, by omega⟩ b_v b_val nk (by omega)).mono ?_ (fun _ _ _ h => h)
  rintro r S1 z1 ⟨rfl, f, s1, rfl, e, b, pq, nk1⟩
  exact ⟨rfl, f, rfl, trivial, ⟨nk1, la, s1, (f.2.1 504 (by decide) _).trans e1, e, by omega, by omega, by omega, by omega⟩⟩
set_option maxRecDepth 100000 in
set_option maxHeartbeats 4000000 in
theorem g_N_forget {kn : Nat → Nat} {B : Nat} {S : b_M} {z x w : Nat} (h : cS S x) (g_gN : gN S x) : b_C kn B yX6_forget cX6_forget 1 none 1 23 0 0 [.ref (x + 6)] S z (fun r S' z' => z = z' ∧ cFr [504, 505] [] [7] w S S' x ∧ r = none ∧ (True) ∧ (gN S' x)) (fun _ _ _ => False) := by
  refine b_enter (by decide) (Nat.le_of_ble_eq_true rfl) ?_
  intro X hX hE hnL hkn hB hI_
  subst hkn; subst hB
  clear hI_
  change b_V X S z 0 0 0 [(0, .ref (x + 6))] []
  refine v_aload_n hX dX6_forget_0 (i := 0) rfl rfl ?_
  refine v_get hX (ci := 5) (k := 0) (cs_k_6 h) bc_5 (by decide) (by decide) in_5 w_1_77 dX6_forget_1 (mvP (f := 500) (q := (x + 7)) rfl rfl (cs_p_500 h)) ?_
  refine v_iconst hX (v := iI (-1)) dX6_forget_4 rfl ?_
  refine v_callS hX (n := 2) (t_fill (S := S) (x := x) (w := w) (o := 7) (L := 1021) (v := (-1)) (cs_k_7 h) (cs_l_7 h) (by decide) (by decide) ⟨by omega, by omega⟩) w_1_74 w_1_75 w_1_5 w_1_76 (by decide +kernel) rfl ⟨by decide, by decide⟩ ⟨by omega, by omega⟩ (Nat.le_of_ble_eq_true rfl) rfl dX6_forget_5 (fun _ _ _ q => q) ?_
  rintro r1_ S1_ z1_ ⟨rfl, f1_, rfl, -, q1_⟩
  have h1_ : cS S1_ x := f1_.keep (by decide) h
  refine v_aload_n hX dX6_forget_8 (i := 0) rfl rfl ?_
  refine v_iconst hX (v := iI 0) dX6_forget_9 rfl ?_
  refine v_putI hX (ci := 5) (k := 4) (f := 504) (cs_k_6 h1_) bc_5 (by decide) (by decide) in_5 tyX6_ok nmX6 w_1_81 (Or.inl rfl) rfl rfl dX6_forget_10 rfl rfl ?_
  refine v_aload_n hX dX6_forget_13 (i := 0) rfl rfl ?_
  refine v_iconst hX (v := iI 0) dX6_forget_14 rfl ?_
  refine v_putI hX (ci := 5) (k := 5) (f := 505) (cs_k_6 (cS.sI h1_)) bc_5 (by decide) (by decide) in_5 tyX6_ok nmX6 w_1_83 (Or.inl rfl) rfl rfl dX6_forget_15 rfl rfl ?_
  exact v_return hX hE dX6_forget_18 (by omega) (by omega) ⟨rfl, ((((cFr.rf _ _).tr (f1_.mono (by decide) (by decide) (by decide))).sI (by decide) ⟨by omega, by omega⟩).sI (by decide) ⟨by omega, by omega⟩), rfl, trivial, ⟨⟨fun i a b => by rw [show rAt (s_I (s_I S1_ 504 (x + 6) (iI 0)) 505 (x + 6) (iI 0)) (x + 7) i = rAt S1_ (x + 7) i from by simp (disch := omega) only [zr_I, zr_J, zr_B, rA_A, zl_I, zl_J, zl_A, lA_B, zr_P]]; rw [q1_ i a (by omega)]; omega, fun i a b => by rw [show rAt (s_I (s_I S1_ 504 (x + 6) (iI 0)) 505 (x + 6) (iI 0)) (x + 8) i = rAt S1_ (x + 8) i from by simp (disch := omega) only [zr_I, zr_J, zr_B, rA_A, zl_I, zl_J, zl_A, lA_B, zr_P], f1_.row (cs_k_8 h) (by decide) (by decide)]; exact g_gN.1.2 i a b⟩, 0, 0, (by simp (disch := omega) only [y_I_s_I, x_I_s_I, z_I_s_J, z_I_s_A, z_I_s_B, z_I_s_P]), (by simp (disch := omega) only [y_I_s_I, x_I_s_I, z_I_s_J, z_I_s_A, z_I_s_B, z_I_s_P]), by omega, by omega, by omega, by omega⟩⟩
set_option maxRecDepth 100000 in
set_option maxHeartbeats 4000000 in
theorem g_X_cut {kn : Nat → Nat} {B : Nat} {S : b_M} {z x w : Nat} {mk : Int} (h : cS S x) (b_mk : -2147483648 ≤ mk ∧ mk < 2147483648) (g_eI : eI S x w) : b_C kn B yX3_cut cX3_cut 2 none 0 0 0 0 [.ref (x + 11), .int (iI mk)] S z (fun r S' z' => z = z' ∧ cFr [205, 206] [] [] w S S' x ∧ r = none ∧ (True) ∧ (eI S' x w)) (fun _ _ _ => False) := by
  obtain ⟨h1, h2, tm, he, ht, e1, k1, p1, e2, e3, q1, q2, q3, q4⟩ := id g_eI
  have hl := lT_at e1
  refine (t_X_cut (w := w) (Lt := lT S x) h e2 ⟨by omega, by omega⟩ e3 ⟨by omega, by omega⟩ b_mk h1 (by omega)).mono ?_ (fun _ _ _ h => h)
  rintro r S1 z1 ⟨rfl, f, h9, t1, rfl, e_h1, b_h1, e_t1, b_t1, pq⟩
  have hl1 := lT.fr g_eI f (by decide)
  exact ⟨rfl, f, rfl, trivial, ⟨by rw [hl1]; exact h1.fr h f (by decide), by omega, tm, h9, t1, (f.2.2.1 204 (by decide) _).trans e1, (f.kl k1 (by decide)).1, p1, e_h1, e_t1, by omega, by omega, by omega, by omega⟩⟩
set_option maxRecDepth 100000 in
set_option maxHeartbeats 4000000 in
theorem g_X_constant {kn : Nat → Nat} {B : Nat} {S : b_M} {z x w : Nat} {e : Int} (h : cS S x) (b_e : -2147483648 ≤ e ∧ e < 2147483648) (g_eI : eI S x w) : b_C kn B yX3_constant cX3_constant 2 (some .int) 0 0 0 0 [.ref (x + 11), .int (iI e)] S z (fun r S' z' => z = z' ∧ S = S' ∧ ∃ q : Int, r = some (.int (iI q)) ∧ (-2147483648 ≤ q ∧ q < 2147483648) ∧ (True)) (fun _ _ _ => False) := by
  obtain ⟨h1, h2, tm, he, ht, e1, k1, p1, e2, e3, q1, q2, q3, q4⟩ := id g_eI
  have hl := lT_at e1
  exact t_X_constant (w := w) h e2 ⟨by omega, by omega⟩ b_e (by omega)
set_option maxRecDepth 100000 in
set_option maxHeartbeats 4000000 in
theorem g_X_isKnown {kn : Nat → Nat} {B : Nat} {S : b_M} {z x w : Nat} {e : Int} (h : cS S x) (b_e : -2147483648 ≤ e ∧ e < 2147483648) (g_eI : eI S x w) : b_C kn B yX3_isKnown cX3_isKnown 3 (some .boolean) 1 21 0 0 [.ref (x + 11), .int (iI e)] S z (fun r S' z' => z = z' ∧ S = S' ∧ ∃ q : Int, r = some (.int (iI q)) ∧ (q = 0 ∨ q = 1) ∧ (True)) (fun _ _ _ => False) := by
  obtain ⟨h1, h2, tm, he, ht, e1, k1, p1, e2, e3, q1, q2, q3, q4⟩ := id g_eI
  have hl := lT_at e1
  rw [hl] at h1
  exact t_X_isKnown (w := w) (tm := tm) (Ltm := m_L S tm) h e2 ⟨by omega, by omega⟩ e1 k1 rfl (by omega) b_e h1 (by omega)
set_option maxRecDepth 100000 in
set_option maxHeartbeats 4000000 in
theorem g_X_value {kn : Nat → Nat} {B : Nat} {S : b_M} {z x w : Nat} {e : Int} {pl : Int} (h : cS S x) (b_e : -2147483648 ≤ e ∧ e < 2147483648) (b_pl : -2147483648 ≤ pl ∧ pl < 2147483648) (g_eI : eI S x w) : b_C kn B yX3_value cX3_value 6 (some .int) 1 21 0 0 [.ref (x + 11), .int (iI e), .int (iI pl)] S z (fun r S' z' => z = z' ∧ S = S' ∧ ∃ q : Int, r = some (.int (iI q)) ∧ (-2147483648 ≤ q ∧ q < 2147483648) ∧ (True)) (fun _ _ _ => False) := by
  obtain ⟨h1, h2, tm, he, ht, e1, k1, p1, e2, e3, q1, q2, q3, q4⟩ := id g_eI
  have hl := lT_at e1
  rw [hl] at h1
  exact t_X_value (w := w) (tm := tm) (Ltm := m_L S tm) h e2 ⟨by omega, by omega⟩ e1 k1 rfl (by omega) b_e b_pl h1 (by omega)
set_option maxRecDepth 100000 in
set_option maxHeartbeats 4000000 in
theorem g_X_resolve {kn : Nat → Nat} {B : Nat} {S : b_M} {z x w : Nat} (h : cS S x) (g_eI : eI S x w) (g_gN : gN S x) : b_C kn B yX3_resolve cX3_resolve 5 none 1 24 0 0 [.ref (x + 11)] S z (fun r S' z' => z = z' ∧ cFr [] [] [] w S S' x ∧ r = none ∧ (True)) (fun _ _ _ => False) := by
  obtain ⟨h1, h2, tm, he, ht, e1, k1, p1, e2, e3, q1, q2, q3, q4⟩ := id g_eI
  have hl := lT_at e1
  exact t_X_resolve (w := w) (tm := tm) (Ltm := m_L S tm) h e3 ⟨by omega, by omega⟩ e1 k1 rfl (by omega) g_gN.1 p1 (by omega)
set_option maxRecDepth 100000 in
set_option maxHeartbeats 4000000 in
theorem g_S_clear {kn : Nat → Nat} {B : Nat} {S : b_M} {z x w : Nat} {l : Int} {f_ : Int} {a : Nat} (h : cS S x) (b_l : -2147483648 ≤ l ∧ l < 2147483648) (b_f_ : -2147483648 ≤ f_ ∧ f_ < 2147483648) (hs_a : isS x a) (g_oOk : oOk kn S x) : b_C kn B yX10_clear cX10_clear 3 none 0 0 0 0 [.ref a, .int (iI l), .int (iI f_)] S z (fun r S' z' => z = z' ∧ cFr [801, 802, 803, 804, 805, 806, 807, 808, 809, 810] [800] [] w S S' x ∧ r = none ∧ (True) ∧ (oOk kn S' x)) (fun _ _ _ => False) := by
  exact t_S_clear (w := w) h b_l b_f_ hs_a g_oOk
set_option maxRecDepth 100000 in
set_option maxHeartbeats 4000000 in
theorem g_S_holds {kn : Nat → Nat} {B : Nat} {S : b_M} {z x w : Nat} {i : Int} {a : Nat} (h : cS S x) (b_i : -2147483648 ≤ i ∧ i < 2147483648) (hs_a : isS x a) (g_oOk : oOk kn S x) : b_C kn B yX10_holds cX10_holds 2 (some .boolean) 0 0 0 0 [.ref a, .int (iI i)] S z (fun r S' z' => z = z' ∧ S = S' ∧ ∃ q : Int, r = some (.int (iI q)) ∧ (q = 0 ∨ q = 1) ∧ (True)) (fun _ _ _ => False) := by
  exact t_S_holds (w := w) h b_i hs_a g_oOk
set_option maxRecDepth 100000 in
set_option maxHeartbeats 4000000 in
theorem g_S_tell {kn : Nat → Nat} {B : Nat} {S : b_M} {z x w : Nat} {what : Int} {a : Nat} (h : cS S x) (b_what : -2147483648 ≤ what ∧ what < 2147483648) (hs_a : isS x a) : b_C kn B yX10_tell cX10_tell 2 (some .int) 0 0 0 0 [.ref a, .int (iI what)] S z (fun r S' z' => z = z' ∧ S = S' ∧ ∃ q : Int, r = some (.int (iI q)) ∧ (-2147483648 ≤ q ∧ q < 2147483648) ∧ (True)) (fun _ _ _ => False) := by
  exact t_S_tell (w := w) h b_what hs_a
