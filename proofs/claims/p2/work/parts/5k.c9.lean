theorem gL.pop {S : b_M} {x : Nat} {dp : Int} (h : gL S x) (g : cS S x) (e : m_I S 301 (x + 425) = iI dp) (b : 0 < dp ∧ dp < 2147483648) : gL (s_I S 301 (x + 425) (iI (dp - 1))) x := by
  obtain ⟨dp9, lg, nx, tl, mt, tx, e1, e2, e3, e4, e5, e6, k1, l1, p1, p2, p3, p4, p5, p6, p7⟩ := h
  have f : cFr [301] [] [] 0 S (s_I S 301 (x + 425) (iI (dp - 1))) x := (cFr.rf _ _).sI (by decide) ⟨by omega, by omega⟩
  have hd : dp9 = dp := by
    have h9 := e1.symm.trans e
    have h8 := congrArg Int32.toInt h9
    rwa [iI_to ⟨by omega, by omega⟩, iI_to ⟨by omega, by omega⟩] at h8
  subst hd
  exact ⟨dp9 - 1, lg, nx, tl, mt, tx, y_I_s_I _ _ _ _, (f.2.1 303 (by decide) _).trans e2, (f.2.1 308 (by decide) _).trans e3, (f.2.1 310 (by decide) _).trans e4, (f.2.1 403 (by decide) _).trans e5, e6, k1, l1, by omega, p2, p3, p4, p5, fun j hj => (p6.fr (by omega) g f (by decide) (by decide) (by decide)) j (by omega), p7.fr g f (by decide)⟩
/-- one field of one object has one value -/
theorem i_one {S : b_M} {f a : Nat} {u v : Int} (h : m_I S f a = iI u) (g : m_I S f a = iI v) (hu : -2147483648 ≤ u ∧ u < 2147483648) (hv : -2147483648 ≤ v ∧ v < 2147483648) : u = v := by
  have h8 := congrArg Int32.toInt (h.symm.trans g)
  rwa [iI_to hu, iI_to hv] at h8
set_option maxRecDepth 100000 in
set_option maxHeartbeats 4000000 in
theorem t_L_isMade {kn : Nat → Nat} {B : Nat} {S : b_M} {z x w : Nat} (h : cS S x) : b_C kn B yX4_isMade cX4_isMade 1 (some .boolean) 0 0 0 0 [.ref (x + 425)] S z (fun r S' z' => z = z' ∧ S = S' ∧ ∃ q : Int, r = some (.int (iI q)) ∧ (q = 0 ∨ q = 1) ∧ (True)) (fun _ _ _ => False) := by
  refine b_enter (by decide) (Nat.le_of_ble_eq_true rfl) ?_
  intro X hX hE hnL hkn hB hI_
  subst hkn; subst hB
  clear hI_
  change b_V X S z 0 0 0 [(0, .ref (x + 425))] []
  refine v_aload_n hX dX4_isMade_0 (i := 0) rfl rfl ?_
  obtain ⟨v1_, e_v1_, b_v1_⟩ := i_ex (m_I S 301 (x + 425))
  refine v_get hX (ci := 3) (k := 1) (cs_k_425 h) bc_3 (by decide) (by decide) in_3 w_2_77 dX4_isMade_1 (mvF (f := 301) (v := iI v1_) rfl rfl (by simp (disch := omega) only [y_I_s_I, x_I_s_I, z_I_s_J, z_I_s_A, z_I_s_B, z_I_s_P, e_v1_])) ?_
  refine u_if_le hX (tgt := 11) dX4_isMade_4 (by decide) ⟨by omega, by omega⟩ (fun h2_ => ?_) (fun h2_ => ?_)
  ·
    refine v_iconst hX (v := iI 0) dX4_isMade_11 rfl ?_
    exact v_zreturn hX (nar_b (by omega)) hE dX4_isMade_12 (by omega) (by omega) ⟨rfl, rfl, 0, rfl, (by omega), trivial⟩
  ·
    refine v_iconst hX (v := iI 1) dX4_isMade_7 rfl ?_
    refine v_goto hX (tgt := 12) dX4_isMade_8 (by decide) ?_
    exact v_zreturn hX (nar_b (by omega)) hE dX4_isMade_12 (by omega) (by omega) ⟨rfl, rfl, 1, rfl, (by omega), trivial⟩
set_option maxRecDepth 100000 in
set_option maxHeartbeats 4000000 in
theorem t_L_isTooLong {kn : Nat → Nat} {B : Nat} {S : b_M} {z x w : Nat} (h : cS S x) : b_C kn B yX4_isTooLong cX4_isTooLong 1 (some .boolean) 0 0 0 0 [.ref (x + 425)] S z (fun r S' z' => z = z' ∧ S = S' ∧ ∃ q : Int, r = some (.int (iI q)) ∧ (q = 0 ∨ q = 1) ∧ (True)) (fun _ _ _ => False) := by
  refine b_enter (by decide) (Nat.le_of_ble_eq_true rfl) ?_
  intro X hX hE hnL hkn hB hI_
  subst hkn; subst hB
  clear hI_
  change b_V X S z 0 0 0 [(0, .ref (x + 425))] []
  refine v_aload_n hX dX4_isTooLong_0 (i := 0) rfl rfl ?_
  obtain ⟨v1_, e_v1_, b_v1_⟩ := i_ex (m_I S 301 (x + 425))
  refine v_get hX (ci := 3) (k := 1) (cs_k_425 h) bc_3 (by decide) (by decide) in_3 w_2_77 dX4_isTooLong_1 (mvF (f := 301) (v := iI v1_) rfl rfl (by simp (disch := omega) only [y_I_s_I, x_I_s_I, z_I_s_J, z_I_s_A, z_I_s_B, z_I_s_P, e_v1_])) ?_
  refine u_if_le hX (tgt := 25) dX4_isTooLong_4 (by decide) ⟨by omega, by omega⟩ (fun h2_ => ?_) (fun h2_ => ?_)
  ·
    refine v_iconst hX (v := iI 0) dX4_isTooLong_25 rfl ?_
    exact v_zreturn hX (nar_b (by omega)) hE dX4_isTooLong_26 (by omega) (by omega) ⟨rfl, rfl, 0, rfl, (by omega), trivial⟩
  ·
    refine v_aload_n hX dX4_isTooLong_7 (i := 0) rfl rfl ?_
    obtain ⟨v3_, e_v3_, b_v3_⟩ := i_ex (m_I S 307 (x + 425))
    refine v_get hX (ci := 3) (k := 7) (cs_k_425 h) bc_3 (by decide) (by decide) in_3 w_2_86 dX4_isTooLong_8 (mvF (f := 307) (v := iI v3_) rfl rfl (by simp (disch := omega) only [y_I_s_I, x_I_s_I, z_I_s_J, z_I_s_A, z_I_s_B, z_I_s_P, e_v1_, e_v3_])) ?_
    refine v_aload_n hX dX4_isTooLong_11 (i := 0) rfl rfl ?_
    obtain ⟨v4_, e_v4_, b_v4_⟩ := i_ex (m_I S 306 (x + 425))
    refine v_get hX (ci := 3) (k := 6) (cs_k_425 h) bc_3 (by decide) (by decide) in_3 w_2_84 dX4_isTooLong_12 (mvF (f := 306) (v := iI v4_) rfl rfl (by simp (disch := omega) only [y_I_s_I, x_I_s_I, z_I_s_J, z_I_s_A, z_I_s_B, z_I_s_P, e_v1_, e_v3_, e_v4_])) ?_
    refine u_isub hX dX4_isTooLong_15 ?_
    obtain ⟨v5_, e_v5_, b_v5_⟩ := i_ex (iI (v3_ - v4_))
    rw [e_v5_]
    refine v_bipush hX (v := iI 100) dX4_isTooLong_16 (by decide) ?_
    refine u_icmp_le hX (tgt := 25) dX4_isTooLong_18 (by decide) ⟨by omega, by omega⟩ ⟨by omega, by omega⟩ (fun h6_ => ?_) (fun h6_ => ?_)
    ·
      refine v_iconst hX (v := iI 0) dX4_isTooLong_25 rfl ?_
      exact v_zreturn hX (nar_b (by omega)) hE dX4_isTooLong_26 (by omega) (by omega) ⟨rfl, rfl, 0, rfl, (by omega), trivial⟩
    ·
      refine v_iconst hX (v := iI 1) dX4_isTooLong_21 rfl ?_
      refine v_goto hX (tgt := 26) dX4_isTooLong_22 (by decide) ?_
      exact v_zreturn hX (nar_b (by omega)) hE dX4_isTooLong_26 (by omega) (by omega) ⟨rfl, rfl, 1, rfl, (by omega), trivial⟩
set_option maxRecDepth 100000 in
set_option maxHeartbeats 4000000 in
theorem t_L_isFull {kn : Nat → Nat} {B : Nat} {S : b_M} {z x w : Nat} {dp : Int} {tl : Int} (h : cS S x) (e_dp : m_I S 301 (x + 425) = iI dp) (b_dp : -2147483648 ≤ dp ∧ dp < 2147483648) (e_tl : m_I S 310 (x + 425) = iI tl) (b_tl : -2147483648 ≤ tl ∧ tl < 2147483648) : b_C kn B yX4_isFull cX4_isFull 1 (some .boolean) 0 0 0 0 [.ref (x + 425)] S z (fun r S' z' => z = z' ∧ S = S' ∧ ∃ q : Int, r = some (.int (iI q)) ∧ (q = 0 ∨ q = 1) ∧ ((q = 0 ∧ dp < 6 ∧ tl < 100) ∨ q = 1)) (fun _ _ _ => False) := by
  refine b_enter (by decide) (Nat.le_of_ble_eq_true rfl) ?_
  intro X hX hE hnL hkn hB hI_
  subst hkn; subst hB
  clear hI_
  change b_V X S z 0 0 0 [(0, .ref (x + 425))] []
  refine v_aload_n hX dX4_isFull_0 (i := 0) rfl rfl ?_
  refine v_get hX (ci := 3) (k := 1) (cs_k_425 h) bc_3 (by decide) (by decide) in_3 w_2_77 dX4_isFull_1 (mvF (f := 301) (v := iI dp) rfl rfl (by simp (disch := omega) only [y_I_s_I, x_I_s_I, z_I_s_J, z_I_s_A, z_I_s_B, z_I_s_P, e_dp, e_tl])) ?_
  refine v_bipush hX (v := iI 6) dX4_isFull_4 (by decide) ?_
  refine u_icmp_ge hX (tgt := 18) dX4_isFull_6 (by decide) ⟨by omega, by omega⟩ ⟨by omega, by omega⟩ (fun h1_ => ?_) (fun h1_ => ?_)
  ·
    refine v_iconst hX (v := iI 1) dX4_isFull_18 rfl ?_
    refine v_goto hX (tgt := 23) dX4_isFull_19 (by decide) ?_
    exact v_zreturn hX (nar_b (by omega)) hE dX4_isFull_23 (by omega) (by omega) ⟨rfl, rfl, 1, rfl, (by omega), (by omega)⟩
  ·
    refine v_aload_n hX dX4_isFull_9 (i := 0) rfl rfl ?_
    refine v_get hX (ci := 3) (k := 10) (cs_k_425 h) bc_3 (by decide) (by decide) in_3 w_2_91 dX4_isFull_10 (mvF (f := 310) (v := iI tl) rfl rfl (by simp (disch := omega) only [y_I_s_I, x_I_s_I, z_I_s_J, z_I_s_A, z_I_s_B, z_I_s_P, e_dp, e_tl])) ?_
    refine v_bipush hX (v := iI 100) dX4_isFull_13 (by decide) ?_
    refine u_icmp_lt hX (tgt := 22) dX4_isFull_15 (by decide) ⟨by omega, by omega⟩ ⟨by omega, by omega⟩ (fun h2_ => ?_) (fun h2_ => ?_)
    ·
      refine v_iconst hX (v := iI 0) dX4_isFull_22 rfl ?_
      exact v_zreturn hX (nar_b (by omega)) hE dX4_isFull_23 (by omega) (by omega) ⟨rfl, rfl, 0, rfl, (by omega), (by omega)⟩
    ·
      refine v_iconst hX (v := iI 1) dX4_isFull_18 rfl ?_
      refine v_goto hX (tgt := 23) dX4_isFull_19 (by decide) ?_
      exact v_zreturn hX (nar_b (by omega)) hE dX4_isFull_23 (by omega) (by omega) ⟨rfl, rfl, 1, rfl, (by omega), (by omega)⟩
set_option maxRecDepth 100000 in
set_option maxHeartbeats 4000000 in
theorem t_L_forget {kn : Nat → Nat} {B : Nat} {S : b_M} {z x w : Nat} (h : cS S x) : b_C kn B yX4_forget cX4_forget 1 none 0 0 0 0 [.ref (x + 425)] S z (fun r S' z' => z = z' ∧ cFr [310] [] [] w S S' x ∧ ∃ t1 : Int, r = none ∧ m_I S' 310 (x + 425) = iI t1 ∧ (-2147483648 ≤ t1 ∧ t1 < 2147483648) ∧ (t1 = 0)) (fun _ _ _ => False) := by
  refine b_enter (by decide) (Nat.le_of_ble_eq_true rfl) ?_
  intro X hX hE hnL hkn hB hI_
  subst hkn; subst hB
  clear hI_
  change b_V X S z 0 0 0 [(0, .ref (x + 425))] []
  refine v_aload_n hX dX4_forget_0 (i := 0) rfl rfl ?_
  refine v_iconst hX (v := iI 0) dX4_forget_1 rfl ?_
  refine v_putI hX (ci := 3) (k := 10) (f := 310) (cs_k_425 h) bc_3 (by decide) (by decide) in_3 tyX4_ok nmX4 w_2_91 (Or.inl rfl) rfl rfl dX4_forget_2 rfl rfl ?_
  exact v_return hX hE dX4_forget_5 (by omega) (by omega) ⟨rfl, ((cFr.rf _ _).sI (by decide) ⟨by omega, by omega⟩), 0, rfl, (by simp (disch := omega) only [y_I_s_I, x_I_s_I, z_I_s_J, z_I_s_A, z_I_s_B, z_I_s_P]), ⟨by omega, by omega⟩, (by omega)⟩
set_option maxRecDepth 100000 in
set_option maxHeartbeats 4000000 in
theorem g_L_start {kn : Nat → Nat} {B : Nat} {S : b_M} {z x w : Nat} {ln : Int} {src : Nat} {mt : Int} {Ls : Nat} (h : cS S x) (e_mt : m_I S 403 (x + 421) = iI mt) (b_mt : -2147483648 ≤ mt ∧ mt < 2147483648) (b_ln : -2147483648 ≤ ln ∧ ln < 2147483648) (k_src : m_K S src = 12) (l_src : m_L S src = Ls) (c_src : (Ls : Int) ≤ 2097152) (hL4 : Ls = 4096) (p : mt = 0 ∧ 0 ≤ ln) : b_C kn B yX4_start cX4_start 3 none 1 23 0 0 [.ref (x + 425), .ref src, .int (iI ln)] S z (fun r S' z' => z = z' ∧ cFr [303, 308, 309, 301, 310] [302] [] w S S' x ∧ r = none ∧ (True) ∧ (gL S' x)) (fun _ _ _ => False) := by
  refine b_enter (by decide) (Nat.le_of_ble_eq_true rfl) ?_
  intro X hX hE hnL hkn hB hI_
  subst hkn; subst hB
  clear hI_
  change b_V X S z 0 0 0 [(0, .ref (x + 425)), (1, .ref src), (2, .int (iI ln))] []
  refine v_aload_n hX dX4_start_0 (i := 0) rfl rfl ?_
  refine v_aload_n hX dX4_start_1 (i := 1) rfl rfl ?_
  refine v_putP hX (ci := 3) (k := 2) (f := 302) (cs_k_425 h) bc_3 (by decide) (by decide) in_3 tyX4_ok nmX4 w_2_78 (Or.inl rfl) rfl rfl dX4_start_2 rfl rfl ?_
  refine v_aload_n hX dX4_start_5 (i := 0) rfl rfl ?_
  refine v_iload_n hX dX4_start_6 (i := 2) rfl rfl ?_
  refine v_aload_n hX dX4_start_7 (i := 1) rfl rfl ?_
  refine u_alen hX (L := Ls) (t0 := 0) (ty := .byte) k_src ⟨by decide, by decide⟩ (fun _ => rfl) l_src dX4_start_8 ?_
  refine u_mmin hX w_3_107 w_2_122 w_1_15 w_2_123 (by decide) (Nat.le_of_ble_eq_true rfl) (by omega) (by omega) ⟨by omega, by omega⟩ ⟨by omega, by omega⟩ dX4_start_9 (fun v1_ q_v1_ b_v1_ => ?_)
  refine v_putI hX (ci := 3) (k := 3) (f := 303) (cs_k_425 (cS.sP h (by decide) ⟨by omega, by omega⟩)) bc_3 (by decide) (by decide) in_3 tyX4_ok nmX4 w_2_79 (Or.inl rfl) rfl rfl dX4_start_12 rfl rfl ?_
  refine v_aload_n hX dX4_start_15 (i := 0) rfl rfl ?_
  refine v_iconst hX (v := iI 0) dX4_start_16 rfl ?_
  refine v_putI hX (ci := 3) (k := 8) (f := 308) (cs_k_425 (cS.sI (cS.sP h (by decide) ⟨by omega, by omega⟩))) bc_3 (by decide) (by decide) in_3 tyX4_ok nmX4 w_2_87 (Or.inl rfl) rfl rfl dX4_start_17 rfl rfl ?_
  refine v_aload_n hX dX4_start_20 (i := 0) rfl rfl ?_
  refine v_iconst hX (v := iI 0) dX4_start_21 rfl ?_
  refine v_putI hX (ci := 3) (k := 9) (f := 309) (cs_k_425 (cS.sI (cS.sI (cS.sP h (by decide) ⟨by omega, by omega⟩)))) bc_3 (by decide) (by decide) in_3 tyX4_ok nmX4 w_2_89 (Or.inl rfl) rfl rfl dX4_start_22 rfl rfl ?_
  refine v_aload_n hX dX4_start_25 (i := 0) rfl rfl ?_
  refine v_iconst hX (v := iI 0) dX4_start_26 rfl ?_
  refine v_putI hX (ci := 3) (k := 1) (f := 301) (cs_k_425 (cS.sI (cS.sI (cS.sI (cS.sP h (by decide) ⟨by omega, by omega⟩))))) bc_3 (by decide) (by decide) in_3 tyX4_ok nmX4 w_2_77 (Or.inl rfl) rfl rfl dX4_start_27 rfl rfl ?_
  refine v_aload_n hX dX4_start_30 (i := 0) rfl rfl ?_
  refine v_iconst hX (v := iI 0) dX4_start_31 rfl ?_
  refine v_putI hX (ci := 3) (k := 10) (f := 310) (cs_k_425 (cS.sI (cS.sI (cS.sI (cS.sI (cS.sP h (by decide) ⟨by omega, by omega⟩)))))) bc_3 (by decide) (by decide) in_3 tyX4_ok nmX4 w_2_91 (Or.inl rfl) rfl rfl dX4_start_32 rfl rfl ?_
  exact v_return hX hE dX4_start_35 (by omega) (by omega) ⟨rfl, (((((((cFr.rf _ _).sP (by decide) ⟨by omega, by omega⟩).sI (by decide) ⟨by omega, by omega⟩).sI (by decide) ⟨by omega, by omega⟩).sI (by decide) ⟨by omega, by omega⟩).sI (by decide) ⟨by omega, by omega⟩).sI (by decide) ⟨by omega, by omega⟩), rfl, trivial, ⟨0, v1_, 0, 0, 0, src, (by simp (disch := omega) only [y_I_s_I, x_I_s_I, z_I_s_J, z_I_s_A, z_I_s_B, z_I_s_P, e_mt]), (by simp (disch := omega) only [y_I_s_I, x_I_s_I, z_I_s_J, z_I_s_A, z_I_s_B, z_I_s_P, e_mt]), (by simp (disch := omega) only [y_I_s_I, x_I_s_I, z_I_s_J, z_I_s_A, z_I_s_B, z_I_s_P, e_mt]), (by simp (disch := omega) only [y_I_s_I, x_I_s_I, z_I_s_J, z_I_s_A, z_I_s_B, z_I_s_P, e_mt]), (by rw [show m_I (s_I (s_I (s_I (s_I (s_I (s_P S 302 (x + 425) (some src)) 303 (x + 425) (iI v1_)) 308 (x + 425) (iI 0)) 309 (x + 425) (iI 0)) 301 (x + 425) (iI 0)) 310 (x + 425) (iI 0)) 403 (x + 421) = m_I S 403 (x + 421) from by simp (disch := omega) only [x_I_s_I, z_I_s_P]]; rw [e_mt, p.1]), (by simp (disch := omega) only [y_P_s_P, x_P_s_P, z_P_s_I, z_P_s_J, z_P_s_A, z_P_s_B]), k_src, l_src.trans hL4, by omega, by omega, by omega, by omega, by omega, fun j hj => absurd hj (by omega), fun m a b => absurd b (by omega)⟩⟩
set_option maxRecDepth 100000 in
set_option maxHeartbeats 4000000 in
theorem t_L_advance {kn : Nat → Nat} {B : Nat} {S : b_M} {z x w : Nat} {d0 : Int} {mc ms : Nat} (h : cS S x) (e_d0 : m_I S 301 (x + 425) = iI d0) (b_d0 : -2147483648 ≤ d0 ∧ d0 < 2147483648) (g_eI : eI S x w) (g_hM : hM S x w) (g_gL : gL S x) (rm_ : 2 * (2162688 - lA S x) ≤ (ms : Int) ∧ 2 * (2162688 - lA S x) ≤ 256 * (mc : Int)) (zw : x + 457 ≤ w ∧ w ≤ z) (p : 0 ≤ d0 ∧ d0 ≤ 6) : a_C kn B yX4_advance cX4_advance 1 (some .boolean) 4 95 mc ms [.ref (x + 425)] S z (fun r S' z' uc us => z ≤ z' ∧ cFr [306, 307, 308, 309, 301, 5] [304, 305] [] w S S' x ∧ ∃ q : Int, r = some (.int (iI q)) ∧ (q = 0 ∨ q = 1) ∧ ((us : Int) ≤ 2 * (lA S' x - lA S x) ∧ 256 * (uc : Int) ≤ (us : Int)) ∧ (True) ∧ (q = 1 → gA S' x) ∧ (eI S' x w) ∧ (hM S' x w) ∧ (gL S' x)) (fun _ _ _ _ _ => False) := by
  refine a_enter (by decide) (Nat.le_of_ble_eq_true rfl) ?_
  intro X hX hE hnL hkn hB hI_
  subst hkn; subst hB
  clear hI_
  change b_V X S z 0 0 0 [(0, .ref (x + 425))] []
  have ab_ : lA S x ≤ 2162688 := lA_le g_eI g_hM
  have L0 : ∀ (n0 : Nat) (S0c : b_M) (dq : Int) (z0c ce0c sl0c : Nat), cFr [306, 307, 308, 309, 301, 5] [304, 305] [] w S S0c x → m_I S0c 301 (x + 425) = iI dq → (-2147483648 ≤ dq ∧ dq < 2147483648) → z ≤ z0c → ((sl0c : Int) ≤ 2 * (lA S0c x - lA S x) ∧ 256 * (ce0c : Int) ≤ (sl0c : Int)) → (0 ≤ dq ∧ dq ≤ 6) → eI S0c x w → hM S0c x w → gL S0c x → (dq).toNat = n0 → b_V X S0c z0c ce0c sl0c 0 [(0, .ref (x + 425))] [] := by
    intro n0
    induction n0 using Nat.strongRecOn with
    | _ n0 ih0 =>
    intro S0c dq z0c ce0c sl0c fr0 e_dq b_dq hz0 ha0 p0_0 g0_eI g0_hM g0_gL hm0
    have h0c : cS S0c x := fr0.keep (by decide) h
    have ab0_ : lA S0c x ≤ 2162688 := lA_le g0_eI g0_hM
    obtain ⟨dp, lg, nx, tl, mt, tx, e_dp, e_lg, e_nx, e_tl, e_mt, e_tx, k_tx, l_tx, p1, p2, p3, p4, p5, p6, p7⟩ := id g0_gL
    have dqe_ : dp = dq := i_one e_dp e_dq ⟨by omega, by omega⟩ ⟨by omega, by omega⟩
    subst dqe_
    refine v_aload_n hX dX4_advance_0 (i := 0) rfl rfl ?_
    refine v_get hX (ci := 3) (k := 1) (cs_k_425 h0c) bc_3 (by decide) (by decide) in_3 w_2_77 dX4_advance_1 (mvF (f := 301) (v := iI dp) rfl rfl (by simp (disch := omega) only [y_I_s_I, x_I_s_I, z_I_s_J, z_I_s_A, z_I_s_B, z_I_s_P, e_dq, e_dp, e_lg, e_nx, e_tl, e_mt])) ?_
    refine u_if_le hX (tgt := 37) dX4_advance_4 (by decide) ⟨by omega, by omega⟩ (fun h1_ => ?_) (fun h1_ => ?_)
    ·
      refine v_aload_n hX dX4_advance_37 (i := 0) rfl rfl ?_
      refine v_get hX (ci := 3) (k := 1) (cs_k_425 h0c) bc_3 (by decide) (by decide) in_3 w_2_77 dX4_advance_38 (mvF (f := 301) (v := iI dp) rfl rfl (by simp (disch := omega) only [y_I_s_I, x_I_s_I, z_I_s_J, z_I_s_A, z_I_s_B, z_I_s_P, e_dq, e_dp, e_lg, e_nx, e_tl, e_mt])) ?_
      refine u_if_le hX (tgt := 61) dX4_advance_41 (by decide) ⟨by omega, by omega⟩ (fun h2_ => ?_) (fun h2_ => ?_)
      ·
        refine v_aload_n hX dX4_advance_61 (i := 0) rfl rfl ?_
        refine v_get hX (ci := 3) (k := 8) (cs_k_425 h0c) bc_3 (by decide) (by decide) in_3 w_2_87 dX4_advance_62 (mvF (f := 308) (v := iI nx) rfl rfl (by simp (disch := omega) only [y_I_s_I, x_I_s_I, z_I_s_J, z_I_s_A, z_I_s_B, z_I_s_P, e_dq, e_dp, e_lg, e_nx, e_tl, e_mt])) ?_
        refine v_aload_n hX dX4_advance_65 (i := 0) rfl rfl ?_
        refine v_get hX (ci := 3) (k := 3) (cs_k_425 h0c) bc_3 (by decide) (by decide) in_3 w_2_79 dX4_advance_66 (mvF (f := 303) (v := iI lg) rfl rfl (by simp (disch := omega) only [y_I_s_I, x_I_s_I, z_I_s_J, z_I_s_A, z_I_s_B, z_I_s_P, e_dq, e_dp, e_lg, e_nx, e_tl, e_mt])) ?_
        refine u_icmp_lt hX (tgt := 74) dX4_advance_69 (by decide) ⟨by omega, by omega⟩ ⟨by omega, by omega⟩ (fun h3_ => ?_) (fun h3_ => ?_)
        ·
          refine v_aload_n hX dX4_advance_74 (i := 0) rfl rfl ?_
          refine v_aload_n hX dX4_advance_75 (i := 0) rfl rfl ?_
          refine v_get hX (ci := 3) (k := 2) (cs_k_425 h0c) bc_3 (by decide) (by decide) in_3 w_2_78 dX4_advance_76 (mvP (f := 302) (q := tx) rfl rfl (by simp (disch := omega) only [y_P_s_P, x_P_s_P, z_P_s_I, z_P_s_J, z_P_s_A, z_P_s_B, e_tx])) ?_
          refine v_putP hX (ci := 3) (k := 5) (f := 305) (cs_k_425 h0c) bc_3 (by decide) (by decide) in_3 tyX4_ok nmX4 w_2_81 (Or.inl rfl) rfl rfl dX4_advance_79 rfl rfl ?_
          refine v_aload_n hX dX4_advance_82 (i := 0) rfl rfl ?_
          refine v_aload_n hX dX4_advance_83 (i := 0) rfl rfl ?_
          refine v_get hX (ci := 3) (k := 8) (cs_k_425 (cS.sP h0c (by decide) ⟨by omega, by omega⟩)) bc_3 (by decide) (by decide) in_3 w_2_87 dX4_advance_84 (mvF (f := 308) (v := iI nx) rfl rfl (by simp (disch := omega) only [y_I_s_I, x_I_s_I, z_I_s_J, z_I_s_A, z_I_s_B, z_I_s_P, e_dq, e_dp, e_lg, e_nx, e_tl, e_mt])) ?_
          refine v_putI hX (ci := 3) (k := 6) (f := 306) (cs_k_425 (cS.sP h0c (by decide) ⟨by omega, by omega⟩)) bc_3 (by decide) (by decide) in_3 tyX4_ok nmX4 w_2_84 (Or.inl rfl) rfl rfl dX4_advance_87 rfl rfl ?_
          refine v_aload_n hX dX4_advance_90 (i := 0) rfl rfl ?_
          refine v_aload_n hX dX4_advance_91 (i := 0) rfl rfl ?_
          refine v_aload_n hX dX4_advance_92 (i := 0) rfl rfl ?_
          refine v_get hX (ci := 3) (k := 6) (cs_k_425 (cS.sI (cS.sP h0c (by decide) ⟨by omega, by omega⟩))) bc_3 (by decide) (by decide) in_3 w_2_84 dX4_advance_93 (mvF (f := 306) (v := iI nx) rfl rfl (by simp (disch := omega) only [y_I_s_I, x_I_s_I, z_I_s_J, z_I_s_A, z_I_s_B, z_I_s_P, e_dq, e_dp, e_lg, e_nx, e_tl, e_mt])) ?_
          refine v_aload_n hX dX4_advance_96 (i := 0) rfl rfl ?_
          refine v_get hX (ci := 3) (k := 3) (cs_k_425 (cS.sI (cS.sP h0c (by decide) ⟨by omega, by omega⟩))) bc_3 (by decide) (by decide) in_3 w_2_79 dX4_advance_97 (mvF (f := 303) (v := iI lg) rfl rfl (by simp (disch := omega) only [y_I_s_I, x_I_s_I, z_I_s_J, z_I_s_A, z_I_s_B, z_I_s_P, e_dq, e_dp, e_lg, e_nx, e_tl, e_mt])) ?_
          have a4_ : lA (s_I (s_P S0c 305 (x + 425) (some tx)) 306 (x + 425) (iI nx)) x = lA S0c x := lA.fr g0_eI g0_hM (show cFr [306] [305] [] w S0c (s_I (s_P S0c 305 (x + 425) (some tx)) 306 (x + 425) (iI nx)) x from (((cFr.rf _ _).sP (by decide) ⟨by omega, by omega⟩).sI (by decide) ⟨by omega, by omega⟩)) (by decide)
          refine v_callV hX (n := 2) (t_L_lineEnd (S := (s_I (s_P S0c 305 (x + 425) (some tx)) 306 (x + 425) (iI nx))) (x := x) (w := w) (s_ := nx) (l_ := lg) (tx := tx) (Ltx := 4096) (cS.sI (cS.sP h0c (by decide) ⟨by omega, by omega⟩)) (by simp (disch := omega) only [y_P_s_P, x_P_s_P, z_P_s_I, z_P_s_J, z_P_s_A, z_P_s_B, e_tx]) k_tx l_tx (by omega) ⟨by omega, by omega⟩ ⟨by omega, by omega⟩ (by omega)) (cs_k_425 (cS.sI (cS.sP h0c (by decide) ⟨by omega, by omega⟩))) bc_3 (by decide) w_3_121 w_3_123 (bw_p (q := (yX4_lineEnd, 11)) (List.mem_of_getElem? (i := 4) rfl) rfl) w_1_13 w_3_124 (by decide +kernel) rfl ⟨by decide, by decide⟩ ⟨by omega, by omega⟩ (Nat.le_of_ble_eq_true rfl) rfl dX4_advance_100 (fun _ _ _ q => q) ?_
          rintro r5_ S5_ z5_ ⟨rfl, rfl, v6_, rfl, b_v6_, q5_⟩
          refine v_putI hX (ci := 3) (k := 7) (f := 307) (cs_k_425 (cS.sI (cS.sP h0c (by decide) ⟨by omega, by omega⟩))) bc_3 (by decide) (by decide) in_3 tyX4_ok nmX4 w_2_86 (Or.inl rfl) rfl rfl dX4_advance_103 rfl rfl ?_
          refine v_aload_n hX dX4_advance_106 (i := 0) rfl rfl ?_
          refine v_aload_n hX dX4_advance_107 (i := 0) rfl rfl ?_
          refine v_get hX (ci := 3) (k := 7) (cs_k_425 (cS.sI (cS.sI (cS.sP h0c (by decide) ⟨by omega, by omega⟩)))) bc_3 (by decide) (by decide) in_3 w_2_86 dX4_advance_108 (mvF (f := 307) (v := iI v6_) rfl rfl (by simp (disch := omega) only [y_I_s_I, x_I_s_I, z_I_s_J, z_I_s_A, z_I_s_B, z_I_s_P, e_dq, e_dp, e_lg, e_nx, e_tl, e_mt])) ?_
          refine v_iconst hX (v := iI 1) dX4_advance_111 rfl ?_
          refine u_iadd hX dX4_advance_112 ?_
          refine v_putI hX (ci := 3) (k := 8) (f := 308) (cs_k_425 (cS.sI (cS.sI (cS.sP h0c (by decide) ⟨by omega, by omega⟩)))) bc_3 (by decide) (by decide) in_3 tyX4_ok nmX4 w_2_87 (Or.inl rfl) rfl rfl dX4_advance_113 rfl rfl ?_
          refine v_aload_n hX dX4_advance_116 (i := 0) rfl rfl ?_
          refine v_dup hX dX4_advance_117 rfl ?_
          obtain ⟨v7_, e_v7_, b_v7_⟩ := i_ex (m_I S0c 309 (x + 425))
          refine v_get hX (ci := 3) (k := 9) (cs_k_425 (cS.sI (cS.sI (cS.sI (cS.sP h0c (by decide) ⟨by omega, by omega⟩))))) bc_3 (by decide) (by decide) in_3 w_2_89 dX4_advance_118 (mvF (f := 309) (v := iI v7_) rfl rfl (by simp (disch := omega) only [y_I_s_I, x_I_s_I, z_I_s_J, z_I_s_A, z_I_s_B, z_I_s_P, e_dq, e_dp, e_lg, e_nx, e_tl, e_mt, e_v7_])) ?_
          refine v_iconst hX (v := iI 1) dX4_advance_121 rfl ?_
          refine u_iadd hX dX4_advance_122 ?_
          obtain ⟨v8_, e_v8_, b_v8_⟩ := i_ex (iI (v7_ + 1))
          rw [e_v8_]
          refine v_putI hX (ci := 3) (k := 9) (f := 309) (cs_k_425 (cS.sI (cS.sI (cS.sI (cS.sP h0c (by decide) ⟨by omega, by omega⟩))))) bc_3 (by decide) (by decide) in_3 tyX4_ok nmX4 w_2_89 (Or.inl rfl) rfl rfl dX4_advance_123 rfl rfl ?_
          refine v_iconst hX (v := iI 1) dX4_advance_126 rfl ?_
          have a9_ : lA (s_I (s_I (s_I (s_I (s_P S0c 305 (x + 425) (some tx)) 306 (x + 425) (iI nx)) 307 (x + 425) (iI v6_)) 308 (x + 425) (iI (v6_ + 1))) 309 (x + 425) (iI v8_)) x = lA S0c x := lA.fr g0_eI g0_hM (show cFr [306, 307, 308, 309] [305] [] w S0c (s_I (s_I (s_I (s_I (s_P S0c 305 (x + 425) (some tx)) 306 (x + 425) (iI nx)) 307 (x + 425) (iI v6_)) 308 (x + 425) (iI (v6_ + 1))) 309 (x + 425) (iI v8_)) x from ((((((cFr.rf _ _).sP (by decide) ⟨by omega, by omega⟩).sI (by decide) ⟨by omega, by omega⟩).sI (by decide) ⟨by omega, by omega⟩).sI (by decide) ⟨by omega, by omega⟩).sI (by decide) ⟨by omega, by omega⟩)) (by decide)
          have fb_ := (show cFr [306, 307, 308, 309] [305] [] w S0c (s_I (s_I (s_I (s_I (s_P S0c 305 (x + 425) (some tx)) 306 (x + 425) (iI nx)) 307 (x + 425) (iI v6_)) 308 (x + 425) (iI (v6_ + 1))) 309 (x + 425) (iI v8_)) x from ((((((cFr.rf _ _).sP (by decide) ⟨by omega, by omega⟩).sI (by decide) ⟨by omega, by omega⟩).sI (by decide) ⟨by omega, by omega⟩).sI (by decide) ⟨by omega, by omega⟩).sI (by decide) ⟨by omega, by omega⟩))
          exact w_zreturn hX (nar_b (by omega)) hE dX4_advance_127 ⟨(by omega), (((((fr0.sP (by decide) ⟨by omega, by omega⟩).sI (by decide) ⟨by omega, by omega⟩).sI (by decide) ⟨by omega, by omega⟩).sI (by decide) ⟨by omega, by omega⟩).sI (by decide) ⟨by omega, by omega⟩), 1, rfl, (by omega), ⟨by omega, by omega⟩, trivial, (fun _ => ⟨nx, v6_, dp, mt, (v6_ + 1), tx, 4096, (by simp (disch := omega) only [y_I_s_I, x_I_s_I, z_I_s_J, z_I_s_A, z_I_s_B, z_I_s_P, e_dq, e_dp, e_lg, e_nx, e_tl, e_mt, e_v7_]), (by simp (disch := omega) only [y_I_s_I, x_I_s_I, z_I_s_J, z_I_s_A, z_I_s_B, z_I_s_P, e_dq, e_dp, e_lg, e_nx, e_tl, e_mt, e_v7_]), (by simp (disch := omega) only [y_I_s_I, x_I_s_I, z_I_s_J, z_I_s_A, z_I_s_B, z_I_s_P, e_dq, e_dp, e_lg, e_nx, e_tl, e_mt, e_v7_]), (fb_.2.1 403 (by decide) _).trans e_mt, (by simp (disch := omega) only [y_I_s_I, x_I_s_I, z_I_s_J, z_I_s_A, z_I_s_B, z_I_s_P, e_dq, e_dp, e_lg, e_nx, e_tl, e_mt, e_v7_]), (by simp (disch := omega) only [y_P_s_P, x_P_s_P, z_P_s_I, z_P_s_J, z_P_s_A, z_P_s_B, e_tx]), (fb_.kl k_tx (by decide)).1, (fb_.kl k_tx (by decide)).2.trans l_tx, by omega, by omega, by omega, by omega, by omega, p1, p3, fun _ => ⟨by omega, p7.fr h0c fb_ (by decide)⟩⟩), (eI.fr g0_eI h0c (show cFr [306, 307, 308, 309] [305] [] w S0c (s_I (s_I (s_I (s_I (s_P S0c 305 (x + 425) (some tx)) 306 (x + 425) (iI nx)) 307 (x + 425) (iI v6_)) 308 (x + 425) (iI (v6_ + 1))) 309 (x + 425) (iI v8_)) x from ((((((cFr.rf _ _).sP (by decide) ⟨by omega, by omega⟩).sI (by decide) ⟨by omega, by omega⟩).sI (by decide) ⟨by omega, by omega⟩).sI (by decide) ⟨by omega, by omega⟩).sI (by decide) ⟨by omega, by omega⟩)) (by decide)), (hM.fr g0_hM h0c (show cFr [306, 307, 308, 309] [305] [] w S0c (s_I (s_I (s_I (s_I (s_P S0c 305 (x + 425) (some tx)) 306 (x + 425) (iI nx)) 307 (x + 425) (iI v6_)) 308 (x + 425) (iI (v6_ + 1))) 309 (x + 425) (iI v8_)) x from ((((((cFr.rf _ _).sP (by decide) ⟨by omega, by omega⟩).sI (by decide) ⟨by omega, by omega⟩).sI (by decide) ⟨by omega, by omega⟩).sI (by decide) ⟨by omega, by omega⟩).sI (by decide) ⟨by omega, by omega⟩)) (by decide)), ⟨dp, lg, (v6_ + 1), tl, mt, tx, (by simp (disch := omega) only [y_I_s_I, x_I_s_I, z_I_s_J, z_I_s_A, z_I_s_B, z_I_s_P, e_dq, e_dp, e_lg, e_nx, e_tl, e_mt, e_v7_]), (by simp (disch := omega) only [y_I_s_I, x_I_s_I, z_I_s_J, z_I_s_A, z_I_s_B, z_I_s_P, e_dq, e_dp, e_lg, e_nx, e_tl, e_mt, e_v7_]), (by simp (disch := omega) only [y_I_s_I, x_I_s_I, z_I_s_J, z_I_s_A, z_I_s_B, z_I_s_P, e_dq, e_dp, e_lg, e_nx, e_tl, e_mt, e_v7_]), (by simp (disch := omega) only [y_I_s_I, x_I_s_I, z_I_s_J, z_I_s_A, z_I_s_B, z_I_s_P, e_dq, e_dp, e_lg, e_nx, e_tl, e_mt, e_v7_]), (fb_.2.1 403 (by decide) _).trans e_mt, (fb_.2.2.1 302 (by decide) _).trans e_tx, (fb_.kl k_tx (by decide)).1, (fb_.kl k_tx (by decide)).2.trans l_tx, p1, p2, p3, by omega, p5, p6.fr (by omega) h0c fb_ (by decide) (by decide) (by decide), (p7.le (by omega)).fr h0c fb_ (by decide)⟩⟩
        ·
          refine v_iconst hX (v := iI 0) dX4_advance_72 rfl ?_
          exact w_zreturn hX (nar_b (by omega)) hE dX4_advance_73 ⟨(by omega), fr0, 0, rfl, (by omega), ⟨by omega, by omega⟩, trivial, (fun q9 => absurd q9 (by decide)), g0_eI, g0_hM, g0_gL⟩
      ·
        obtain ⟨ipm9, md9, e_md9, k_md9, fp_md9⟩ := id g0_hM
        have lm9 : lM S0c x = (m_L S0c md9 : Int) := lM_at e_md9
        have ipb9 := isP_b ipm9
        exact False.elim (by omega)
    ·
      obtain ⟨sr9, L9, nx9, un9, M9, e_sr9, k_sr9, l_sr9, e_nx9, e_un9, b_nx9, b_un9, c_sr9, b_M9, o9_, mb9_⟩ := oC.use (by omega) (p6 (dp - 1).toNat (by omega))
      refine v_aload_n hX dX4_advance_7 (i := 0) rfl rfl ?_
      refine v_get hX (ci := 3) (k := 0) (cs_k_425 h0c) bc_3 (by decide) (by decide) in_3 w_2_76 dX4_advance_8 (mvP (f := 300) (q := (x + 426)) rfl rfl (cs_p_300 h0c)) ?_
      refine v_aload_n hX dX4_advance_11 (i := 0) rfl rfl ?_
      refine v_get hX (ci := 3) (k := 1) (cs_k_425 h0c) bc_3 (by decide) (by decide) in_3 w_2_77 dX4_advance_12 (mvF (f := 301) (v := iI dp) rfl rfl (by simp (disch := omega) only [y_I_s_I, x_I_s_I, z_I_s_J, z_I_s_A, z_I_s_B, z_I_s_P, e_dq, e_dp, e_lg, e_nx, e_tl, e_mt, e_nx9, e_un9])) ?_
      refine v_iconst hX (v := iI 1) dX4_advance_15 rfl ?_
      refine u_isub hX dX4_advance_16 ?_
      refine u_aaldC hX (t := (dp - 1)) h0c ⟨by omega, by omega⟩ dX4_advance_17 ?_
      refine v_callV hX (n := 0) (t_C_isDone (S := S0c) (x := x) (w := w) (a := (x + 429 + 4 * (dp - 1).toNat)) (nx := nx9) (un := un9) h0c (by simp (disch := omega) only [y_I_s_I, x_I_s_I, z_I_s_J, z_I_s_A, z_I_s_B, z_I_s_P, e_dq, e_dp, e_lg, e_nx, e_tl, e_mt, e_nx9, e_un9]) ⟨by omega, by omega⟩ (by simp (disch := omega) only [y_I_s_I, x_I_s_I, z_I_s_J, z_I_s_A, z_I_s_B, z_I_s_P, e_dq, e_dp, e_lg, e_nx, e_tl, e_mt, e_nx9, e_un9]) ⟨by omega, by omega⟩ ⟨_, by omega, rfl⟩) (isC_k h0c ⟨_, by omega, rfl⟩) bc_0 (by decide) w_3_113 w_3_114 w_3_115 w_1_14 w_3_116 (by decide +kernel) rfl ⟨by decide, by decide⟩ ⟨by omega, by omega⟩ (Nat.le_of_ble_eq_true rfl) rfl dX4_advance_18 (fun _ _ _ q => q) ?_
      rintro r10_ S10_ z10_ ⟨rfl, rfl, v11_, rfl, b_v11_, q10_⟩
      refine u_if_eq hX (tgt := 37) dX4_advance_21 (by decide) ⟨by omega, by omega⟩ (fun h12_ => ?_) (fun h12_ => ?_)
      ·
        refine v_aload_n hX dX4_advance_37 (i := 0) rfl rfl ?_
        refine v_get hX (ci := 3) (k := 1) (cs_k_425 h0c) bc_3 (by decide) (by decide) in_3 w_2_77 dX4_advance_38 (mvF (f := 301) (v := iI dp) rfl rfl (by simp (disch := omega) only [y_I_s_I, x_I_s_I, z_I_s_J, z_I_s_A, z_I_s_B, z_I_s_P, e_dq, e_dp, e_lg, e_nx, e_tl, e_mt, e_nx9, e_un9])) ?_
        refine u_if_le hX (tgt := 61) dX4_advance_41 (by decide) ⟨by omega, by omega⟩ (fun h13_ => ?_) (fun h13_ => ?_)
        ·
          exact False.elim (by omega)
        ·
          obtain ⟨ipm9, md9, e_md9, k_md9, fp_md9⟩ := id g0_hM
          have lm9 : lM S0c x = (m_L S0c md9 : Int) := lM_at e_md9
          have ipb9 := isP_b ipm9
          refine v_aload_n hX dX4_advance_44 (i := 0) rfl rfl ?_
          refine v_aload_n hX dX4_advance_45 (i := 0) rfl rfl ?_
          refine v_get hX (ci := 3) (k := 0) (cs_k_425 h0c) bc_3 (by decide) (by decide) in_3 w_2_76 dX4_advance_46 (mvP (f := 300) (q := (x + 426)) rfl rfl (cs_p_300 h0c)) ?_
          refine v_aload_n hX dX4_advance_49 (i := 0) rfl rfl ?_
          refine v_get hX (ci := 3) (k := 1) (cs_k_425 h0c) bc_3 (by decide) (by decide) in_3 w_2_77 dX4_advance_50 (mvF (f := 301) (v := iI dp) rfl rfl (by simp (disch := omega) only [y_I_s_I, x_I_s_I, z_I_s_J, z_I_s_A, z_I_s_B, z_I_s_P, e_dq, e_dp, e_lg, e_nx, e_tl, e_mt, e_nx9, e_un9])) ?_
          refine v_iconst hX (v := iI 1) dX4_advance_53 rfl ?_
          refine u_isub hX dX4_advance_54 ?_
          refine u_aaldC hX (t := (dp - 1)) h0c ⟨by omega, by omega⟩ dX4_advance_55 ?_
          refine w_callV hX (n := 1) (t_L_putTogether (S := S0c) (x := x) (w := w) (call := (x + 429 + 4 * (dp - 1).toNat)) (nx := nx9) (un := un9) (md := md9) (Lmd := (m_L S0c md9)) (tx := tx) (Ltx := 4096) (sr := sr9) (Lsr := L9) (mc := mc - ce0c) (ms := ms - sl0c) h0c (by simp (disch := omega) only [y_I_s_I, x_I_s_I, z_I_s_J, z_I_s_A, z_I_s_B, z_I_s_P, e_dq, e_dp, e_lg, e_nx, e_tl, e_mt, e_nx9, e_un9]) ⟨by omega, by omega⟩ (by simp (disch := omega) only [y_I_s_I, x_I_s_I, z_I_s_J, z_I_s_A, z_I_s_B, z_I_s_P, e_dq, e_dp, e_lg, e_nx, e_tl, e_mt, e_nx9, e_un9]) ⟨by omega, by omega⟩ (by simp (disch := omega) only [y_P_s_P, x_P_s_P, z_P_s_I, z_P_s_J, z_P_s_A, z_P_s_B, e_tx, e_sr9, e_md9]) k_md9 rfl (by omega) (by simp (disch := omega) only [y_P_s_P, x_P_s_P, z_P_s_I, z_P_s_J, z_P_s_A, z_P_s_B, e_tx, e_sr9, e_md9]) k_tx l_tx (by omega) (by simp (disch := omega) only [y_P_s_P, x_P_s_P, z_P_s_I, z_P_s_J, z_P_s_A, z_P_s_B, e_tx, e_sr9, e_md9]) k_sr9 l_sr9 (by omega) ⟨_, by omega, rfl⟩ mb9_ g0_eI g0_hM o9_ ⟨by omega, by omega⟩ (by omega) (by omega)) (cs_k_425 h0c) bc_3 (by decide) w_3_117 w_3_119 (bw_p (q := (yX4_putTogether, 11)) (List.mem_of_getElem? (i := 3) rfl) rfl) w_1_13 w_3_120 (by decide +kernel) rfl ⟨by decide, by decide⟩ ⟨by omega, by omega⟩ (Nat.le_of_ble_eq_true rfl) rfl dX4_advance_56 (fun _ _ _ _ _ q => q) ?_
          rintro r14_ S14_ z14_ uc14_ us14_ ⟨hz14_, f14_, v15_, v16_, v17_, a18_, La18_, rfl, e_v15_, b_v15_, e_v16_, b_v16_, e_v17_, b_v17_, e_a18_, k_a18_, l_a18_, c_a18_, ha14_, q14_, q14_0, g14_eI, g14_hM⟩
          have y19_ : m_I S14_ 301 (x + 425) = iI dp := (f14_.2.1 301 (by decide) _).trans (by simp (disch := omega) only [y_I_s_I, x_I_s_I, z_I_s_J, z_I_s_A, z_I_s_B, z_I_s_P, e_dq, e_dp, e_lg, e_nx, e_tl, e_mt, e_nx9, e_un9])
          have y20_ : m_I S14_ 303 (x + 425) = iI lg := (f14_.2.1 303 (by decide) _).trans (by simp (disch := omega) only [y_I_s_I, x_I_s_I, z_I_s_J, z_I_s_A, z_I_s_B, z_I_s_P, e_dq, e_dp, e_lg, e_nx, e_tl, e_mt, e_nx9, e_un9])
          have y21_ : m_I S14_ 308 (x + 425) = iI nx := (f14_.2.1 308 (by decide) _).trans (by simp (disch := omega) only [y_I_s_I, x_I_s_I, z_I_s_J, z_I_s_A, z_I_s_B, z_I_s_P, e_dq, e_dp, e_lg, e_nx, e_tl, e_mt, e_nx9, e_un9])
          have y22_ : m_I S14_ 310 (x + 425) = iI tl := (f14_.2.1 310 (by decide) _).trans (by simp (disch := omega) only [y_I_s_I, x_I_s_I, z_I_s_J, z_I_s_A, z_I_s_B, z_I_s_P, e_dq, e_dp, e_lg, e_nx, e_tl, e_mt, e_nx9, e_un9])
          have y23_ : m_I S14_ 403 (x + 421) = iI mt := (f14_.2.1 403 (by decide) _).trans (by simp (disch := omega) only [y_I_s_I, x_I_s_I, z_I_s_J, z_I_s_A, z_I_s_B, z_I_s_P, e_dq, e_dp, e_lg, e_nx, e_tl, e_mt, e_nx9, e_un9])
          have y24_ : m_I S14_ 6 (x + 429 + 4 * (dp - 1).toNat) = iI un9 := (f14_.2.1 6 (by decide) _).trans (by simp (disch := omega) only [y_I_s_I, x_I_s_I, z_I_s_J, z_I_s_A, z_I_s_B, z_I_s_P, e_dq, e_dp, e_lg, e_nx, e_tl, e_mt, e_nx9, e_un9])
          have y25_ : m_P S14_ 302 (x + 425) = some tx := (f14_.2.2.1 302 (by decide) _).trans (by simp (disch := omega) only [y_P_s_P, x_P_s_P, z_P_s_I, z_P_s_J, z_P_s_A, z_P_s_B, e_tx, e_sr9, e_md9])
          have y26_ : m_P S14_ 1 (x + 429 + 4 * (dp - 1).toNat) = some sr9 := (f14_.2.2.1 1 (by decide) _).trans (by simp (disch := omega) only [y_P_s_P, x_P_s_P, z_P_s_I, z_P_s_J, z_P_s_A, z_P_s_B, e_tx, e_sr9, e_md9])
          have k27_ : m_K S14_ tx = 12 := (f14_.2.2.2.2 _ (by rw [show m_K S0c tx = 12 from k_tx]; decide)).1.trans k_tx
          have l28_ : m_L S14_ tx = 4096 := (f14_.2.2.2.2 _ (by rw [show m_K S0c tx = 12 from k_tx]; decide)).2.1.trans l_tx
          have k29_ : m_K S14_ sr9 = 12 := (f14_.2.2.2.2 _ (by rw [show m_K S0c sr9 = 12 from k_sr9]; decide)).1.trans k_sr9
          have l30_ : m_L S14_ sr9 = L9 := (f14_.2.2.2.2 _ (by rw [show m_K S0c sr9 = 12 from k_sr9]; decide)).2.1.trans l_sr9
          have k31_ : m_K S14_ md9 = 12 := (f14_.2.2.2.2 _ (by rw [show m_K S0c md9 = 12 from k_md9]; decide)).1.trans k_md9
          have l32_ : m_L S14_ md9 = (m_L S0c md9) := (f14_.2.2.2.2 _ (by rw [show m_K S0c md9 = 12 from k_md9]; decide)).2.1.trans rfl
          have h14_ : cS S14_ x := f14_.keep (by decide) h0c
          have g14_opM : opM S14_ x (x + 429 + 4 * (dp - 1).toNat) (L9 : Int) M9 := opM.fr o9_ h0c f14_ (by decide)
          have ab14_ : lA S14_ x ≤ 2162688 := lA_le g14_eI g14_hM
          refine v_iconst hX (v := iI 1) dX4_advance_59 rfl ?_
          exact w_zreturn hX (nar_b (by omega)) hE dX4_advance_60 ⟨(by omega), (fr0.tr (f14_.mono (by decide) (by decide) (by decide))), 1, rfl, (by omega), ⟨by omega, by omega⟩, trivial, (fun _ => ⟨v15_, v16_, dp, mt, nx, a18_, La18_, e_v15_, e_v16_, (f14_.2.1 301 (by decide) _).trans e_dp, (f14_.2.1 403 (by decide) _).trans e_mt, (f14_.2.1 308 (by decide) _).trans e_nx, e_a18_, k_a18_, l_a18_, c_a18_, by omega, by omega, by omega, by omega, p1, p3, fun q9 => absurd q9 (by omega)⟩), g14_eI, g14_hM, ⟨dp, lg, nx, tl, mt, tx, (f14_.2.1 301 (by decide) _).trans e_dp, (f14_.2.1 303 (by decide) _).trans e_lg, (f14_.2.1 308 (by decide) _).trans e_nx, (f14_.2.1 310 (by decide) _).trans e_tl, (f14_.2.1 403 (by decide) _).trans e_mt, (f14_.2.2.1 302 (by decide) _).trans e_tx, (f14_.kl k_tx (by decide)).1, (f14_.kl k_tx (by decide)).2.trans l_tx, p1, p2, p3, p4, p5, p6.step (by omega) h0c f14_ (by decide) (by decide) (by decide) q14_0 e_v17_ (by omega), p7.fr h0c f14_ (by decide)⟩⟩
      ·
        refine v_aload_n hX dX4_advance_24 (i := 0) rfl rfl ?_
        refine v_dup hX dX4_advance_25 rfl ?_
        refine v_get hX (ci := 3) (k := 1) (cs_k_425 h0c) bc_3 (by decide) (by decide) in_3 w_2_77 dX4_advance_26 (mvF (f := 301) (v := iI dp) rfl rfl (by simp (disch := omega) only [y_I_s_I, x_I_s_I, z_I_s_J, z_I_s_A, z_I_s_B, z_I_s_P, e_dq, e_dp, e_lg, e_nx, e_tl, e_mt, e_nx9, e_un9])) ?_
        refine v_iconst hX (v := iI 1) dX4_advance_29 rfl ?_
        refine u_isub hX dX4_advance_30 ?_
        refine v_putI hX (ci := 3) (k := 1) (f := 301) (cs_k_425 h0c) bc_3 (by decide) (by decide) in_3 tyX4_ok nmX4 w_2_77 (Or.inl rfl) rfl rfl dX4_advance_31 rfl rfl ?_
        refine v_goto hX (tgt := 0) dX4_advance_34 (by decide) ?_
        have a33_ : lA (s_I S0c 301 (x + 425) (iI (dp - 1))) x = lA S0c x := lA.fr g0_eI g0_hM (show cFr [301] [] [] w S0c (s_I S0c 301 (x + 425) (iI (dp - 1))) x from ((cFr.rf _ _).sI (by decide) ⟨by omega, by omega⟩)) (by decide)
        exact ih0 _ (by omega) _ (dp - 1) _ _ _ (fr0.sI (by decide) ⟨by omega, by omega⟩) (by simp (disch := omega) only [y_I_s_I, x_I_s_I, z_I_s_J, z_I_s_A, z_I_s_B, z_I_s_P, e_dq, e_dp, e_lg, e_nx, e_tl, e_mt, e_nx9, e_un9]) ⟨by omega, by omega⟩ (by omega) ⟨by omega, by omega⟩ (by omega) (eI.fr g0_eI h0c (show cFr [301] [] [] w S0c (s_I S0c 301 (x + 425) (iI (dp - 1))) x from ((cFr.rf _ _).sI (by decide) ⟨by omega, by omega⟩)) (by decide)) (hM.fr g0_hM h0c (show cFr [301] [] [] w S0c (s_I S0c 301 (x + 425) (iI (dp - 1))) x from ((cFr.rf _ _).sI (by decide) ⟨by omega, by omega⟩)) (by decide)) (gL.pop g0_gL h0c e_dp ⟨by omega, by omega⟩) rfl
  exact L0 _ _ d0 _ _ _ (cFr.rf _ _) (by simp (disch := omega) only [y_I_s_I, x_I_s_I, z_I_s_J, z_I_s_A, z_I_s_B, z_I_s_P, e_d0]) ⟨by omega, by omega⟩ (by omega) ⟨by omega, by omega⟩ (by omega) g_eI g_hM g_gL rfl
set_option maxRecDepth 100000 in
set_option maxHeartbeats 4000000 in
theorem g_L_advance {kn : Nat → Nat} {B : Nat} {S : b_M} {z x w : Nat} {mc ms : Nat} (h : cS S x) (g_eI : eI S x w) (g_hM : hM S x w) (g_gL : gL S x) (rm_ : 2 * (2162688 - lA S x) ≤ (ms : Int) ∧ 2 * (2162688 - lA S x) ≤ 256 * (mc : Int)) (zw : x + 457 ≤ w ∧ w ≤ z) : a_C kn B yX4_advance cX4_advance 1 (some .boolean) 4 95 mc ms [.ref (x + 425)] S z (fun r S' z' uc us => z ≤ z' ∧ cFr [306, 307, 308, 309, 301, 5] [304, 305] [] w S S' x ∧ ∃ q : Int, r = some (.int (iI q)) ∧ (q = 0 ∨ q = 1) ∧ ((us : Int) ≤ 2 * (lA S' x - lA S x) ∧ 256 * (uc : Int) ≤ (us : Int)) ∧ (True) ∧ (q = 1 → gA S' x) ∧ (eI S' x w) ∧ (hM S' x w) ∧ (gL S' x)) (fun _ _ _ _ _ => False) := by
  obtain ⟨dp, lg, nx, tl, mt, tx, e1, e2, e3, e4, e5, e6, k1, l1, p1, p2, p3, p4, p5, p6, p7⟩ := id g_gL
  exact t_L_advance (w := w) h e1 ⟨by omega, by omega⟩ g_eI g_hM g_gL rm_ zw (by omega)
