/-- the operands of the call that comes next -/
def gO (S : b_M) (x : Nat) (lo hi : Int) : Prop := ∃ dp : Int, m_I S 301 (x + 425) = iI dp ∧ (0 ≤ dp ∧ dp ≤ 6) ∧ opF S x (x + 429 + 4 * dp.toNat) lo hi
theorem gO.fr {Fs Ps As : List Nat} {w : Nat} {S S1 : b_M} {x : Nat} {lo hi : Int} (h : gO S x lo hi) (g : cS S x) (f : cFr Fs Ps As w S S1 x) (hd : 301 ∉ Fs ∧ ∀ q ∈ cRs, q ∉ As) : gO S1 x lo hi := by
  obtain ⟨dp, e, p, o⟩ := h
  exact ⟨dp, (f.2.1 301 hd.1 _).trans e, p, o.fr g f hd.2⟩
theorem lO.add {Fs Ps As : List Nat} {w : Nat} {S S1 : b_M} {x a sr L : Nat} {dp bf bt lo hi : Int} (h : lO S x dp) (hd : 0 ≤ dp ∧ dp ≤ 6) (g : cS S x) (f : cFr Fs Ps As w S S1 x) (hr : ∀ q ∈ cRs, q ∉ As) (ea : x + 429 + 4 * dp.toNat = a) (o1 : ∀ b, b ≠ a → m_P S1 1 b = m_P S 1 b) (o5 : ∀ b, b ≠ a → m_I S1 5 b = m_I S 5 b ∧ m_I S1 6 b = m_I S 6 b) (e1 : m_P S1 1 a = some sr) (k1 : m_K S1 sr = 12) (l1 : m_L S1 sr = L) (e5 : m_I S1 5 a = iI bf) (e6 : m_I S1 6 a = iI bt) (hb : (0 ≤ bf ∧ bf ≤ 5000) ∧ 0 ≤ bt ∧ bt ≤ 4097) (hL : (L : Int) ≤ 4096) (ho : opF S x a lo hi) (hc : (L : Int) ≤ 100 ∨ (bt ≤ lo ∧ hi ≤ 4096)) : lO S1 x (dp + 1) := fun j hj => by
  by_cases e : j = dp.toNat
  · rw [← e] at ea
    subst ea
    refine ⟨sr, L, bf, bt, e1, k1, l1, e5, e6, hb.1, hb.2, hL, fun k q1 q2 => ?_⟩
    have h9 := f.rowC g ho.1 hr k
    rw [h9.1, h9.2]
    have h8 := ho.2 k q1 q2
    omega
  · exact (h j (by omega)).keep (by omega) g f (o1 _ (by omega)) (o5 _ (by omega)).1 (o5 _ (by omega)).2 (fun k => f.rowC g ⟨j, by omega, rfl⟩ hr k)
set_option maxRecDepth 100000 in
set_option maxHeartbeats 4000000 in
theorem t_L_readOperands {kn : Nat → Nat} {B : Nat} {S : b_M} {z x w : Nat} {dp : Int} {lo : Int} {hi : Int} (h : cS S x) (e_dp : m_I S 301 (x + 425) = iI dp) (b_dp : -2147483648 ≤ dp ∧ dp < 2147483648) (g_sI : sI S x lo hi) (p : 0 ≤ dp ∧ dp ≤ 6) : b_C kn B yX4_readOperands cX4_readOperands 2 (some .boolean) 3 63 0 0 [.ref (x + 425), .ref (x + 419)] S z (fun r S' z' => z = z' ∧ cFr [701, 703, 704] [] [431, 432, 435, 436, 439, 440, 443, 444, 447, 448, 451, 452, 455, 456] w S S' x ∧ ∃ q : Int, r = some (.int (iI q)) ∧ (q = 0 ∨ q = 1) ∧ (True) ∧ (opF S' x (x + 429 + 4 * dp.toNat) lo hi) ∧ (oRw S S' x (x + 429 + 4 * dp.toNat)) ∧ (sI S' x lo hi)) (fun _ _ _ => False) := by
  refine b_enter (by decide) (Nat.le_of_ble_eq_true rfl) ?_
  intro X hX hE hnL hkn hB hI_
  subst hkn; subst hB
  clear hI_
  change b_V X S z 0 0 0 [(0, .ref (x + 425)), (1, .ref (x + 419))] []
  refine v_aload_n hX dX4_readOperands_0 (i := 0) rfl rfl ?_
  refine v_get hX (ci := 3) (k := 1) (cs_k_425 h) bc_3 (by decide) (by decide) in_3 w_2_77 dX4_readOperands_1 (mvF (f := 301) (v := iI dp) rfl rfl (by simp (disch := omega) only [y_I_s_I, x_I_s_I, z_I_s_J, z_I_s_A, z_I_s_B, z_I_s_P, e_dp])) ?_
  refine v_aload_n hX dX4_readOperands_4 (i := 0) rfl rfl ?_
  refine v_get hX (ci := 3) (k := 0) (cs_k_425 h) bc_3 (by decide) (by decide) in_3 w_2_76 dX4_readOperands_5 (mvP (f := 300) (q := (x + 426)) rfl rfl (cs_p_300 h)) ?_
  refine u_alen hX (L := 7) (t0 := 4) (ty := .object RX1) (cs_k_426 h) ⟨by decide, by decide⟩ (fun _ => rfl) (cs_l_426 h) dX4_readOperands_8 ?_
  refine u_icmp_ge hX (tgt := 32) dX4_readOperands_9 (by decide) ⟨by omega, by omega⟩ ⟨by omega, by omega⟩ (fun h1_ => ?_) (fun h1_ => ?_)
  ·
    exact False.elim (by omega)
  ·
    refine v_aload_n hX dX4_readOperands_12 (i := 0) rfl rfl ?_
    refine v_get hX (ci := 3) (k := 0) (cs_k_425 h) bc_3 (by decide) (by decide) in_3 w_2_76 dX4_readOperands_13 (mvP (f := 300) (q := (x + 426)) rfl rfl (cs_p_300 h)) ?_
    refine v_aload_n hX dX4_readOperands_16 (i := 0) rfl rfl ?_
    refine v_get hX (ci := 3) (k := 1) (cs_k_425 h) bc_3 (by decide) (by decide) in_3 w_2_77 dX4_readOperands_17 (mvF (f := 301) (v := iI dp) rfl rfl (by simp (disch := omega) only [y_I_s_I, x_I_s_I, z_I_s_J, z_I_s_A, z_I_s_B, z_I_s_P, e_dp])) ?_
    refine u_aaldC hX (t := dp) h ⟨by omega, by omega⟩ dX4_readOperands_20 ?_
    refine v_aload_n hX dX4_readOperands_21 (i := 1) rfl rfl ?_
    refine v_callV hX (n := 1) (t_C_readOperands (S := S) (x := x) (w := w) (a := (x + 429 + 4 * dp.toNat)) h ⟨_, by omega, rfl⟩ g_sI) (isC_k h ⟨_, by omega, rfl⟩) bc_0 (by decide) w_4_79 w_4_80 w_4_81 w_1_14 w_4_82 (by decide +kernel) rfl ⟨by decide, by decide⟩ ⟨by omega, by omega⟩ (Nat.le_of_ble_eq_true rfl) rfl dX4_readOperands_22 (fun _ _ _ q => q) ?_
    rintro r2_ S2_ z2_ ⟨rfl, f2_, v3_, rfl, b_v3_, q2_, g2_sI, g2_opF, g2_oRw⟩
    have y4_ : m_I S2_ 301 (x + 425) = iI dp := (f2_.2.1 301 (by decide) _).trans (by simp (disch := omega) only [y_I_s_I, x_I_s_I, z_I_s_J, z_I_s_A, z_I_s_B, z_I_s_P, e_dp])
    have h2_ : cS S2_ x := f2_.keep (by decide) h
    refine u_if_eq hX (tgt := 32) dX4_readOperands_25 (by decide) ⟨by omega, by omega⟩ (fun h5_ => ?_) (fun h5_ => ?_)
    ·
      refine v_iconst hX (v := iI 0) dX4_readOperands_32 rfl ?_
      exact v_zreturn hX (nar_b (by omega)) hE dX4_readOperands_33 (by omega) (by omega) ⟨rfl, ((cFr.rf _ _).tr (f2_.mono (by decide) (by decide) (by decide))), 0, rfl, (by omega), trivial, g2_opF, g2_oRw, g2_sI⟩
    ·
      refine v_iconst hX (v := iI 1) dX4_readOperands_28 rfl ?_
      refine v_goto hX (tgt := 33) dX4_readOperands_29 (by decide) ?_
      exact v_zreturn hX (nar_b (by omega)) hE dX4_readOperands_33 (by omega) (by omega) ⟨rfl, ((cFr.rf _ _).tr (f2_.mono (by decide) (by decide) (by decide))), 1, rfl, (by omega), trivial, g2_opF, g2_oRw, g2_sI⟩
set_option maxRecDepth 100000 in
set_option maxHeartbeats 4000000 in
theorem g_L_readOperands {kn : Nat → Nat} {B : Nat} {S : b_M} {z x w : Nat} {lo : Int} {hi : Int} (h : cS S x) (g_sI : sI S x lo hi) (g_gL : gL S x) : b_C kn B yX4_readOperands cX4_readOperands 2 (some .boolean) 3 63 0 0 [.ref (x + 425), .ref (x + 419)] S z (fun r S' z' => z = z' ∧ cFr [701, 703, 704] [] [431, 432, 435, 436, 439, 440, 443, 444, 447, 448, 451, 452, 455, 456] w S S' x ∧ ∃ q : Int, r = some (.int (iI q)) ∧ (q = 0 ∨ q = 1) ∧ (True) ∧ (sI S' x lo hi) ∧ (gL S' x) ∧ (gO S' x lo hi)) (fun _ _ _ => False) := by
  obtain ⟨dp, lg, nx, tl, mt, tx, e1, e2, e3, e4, e5, e6, k1, l1, p1, p2, p3, p4, p5, p6, p7⟩ := id g_gL
  refine (t_L_readOperands (w := w) h e1 ⟨by omega, by omega⟩ g_sI (by omega)).mono ?_ (fun _ _ _ h => h)
  rintro r S1 z1 ⟨rfl, f, q, rfl, bq, -, po, pr, gs⟩
  have hk := f.kl k1 (by decide)
  refine ⟨rfl, f, q, rfl, bq, trivial, gs, ⟨dp, lg, nx, tl, mt, tx, (f.2.1 301 (by decide) _).trans e1, (f.2.1 303 (by decide) _).trans e2, (f.2.1 308 (by decide) _).trans e3, (f.2.1 310 (by decide) _).trans e4, (f.2.1 403 (by decide) _).trans e5, (f.2.2.1 302 (by decide) _).trans e6, hk.1, hk.2.trans l1, p1, p2, p3, p4, p5, fun j hj => ?_, p7.fr h f (by decide)⟩, ⟨dp, (f.2.1 301 (by decide) _).trans e1, p1, po⟩⟩
  exact (p6 j hj).keep (by omega) h f (f.2.2.1 1 (by decide) _) (f.2.1 5 (by decide) _) (f.2.1 6 (by decide) _) (fun k => pr _ ⟨j, by omega, rfl⟩ (by omega) k)
set_option maxRecDepth 100000 in
set_option maxHeartbeats 4000000 in
theorem g_L_enter {kn : Nat → Nat} {B : Nat} {S : b_M} {z x w : Nat} {bf : Int} {bt : Int} {lo : Int} {hi : Int} (h : cS S x) (b_bf : -2147483648 ≤ bf ∧ bf < 2147483648) (b_bt : -2147483648 ≤ bt ∧ bt < 2147483648) (hd0 : ∀ d : Int, m_I S 301 (x + 425) = iI d → d = 0 → bt ≤ lo ∧ hi ≤ 4096) (g_gL : gL S x) (g_gO : gO S x lo hi) (g_hM : hM S x w) (g_bY : bY S) (p : 0 ≤ bf ∧ bf ≤ 5000 ∧ 0 ≤ bt ∧ bt ≤ 4097) : b_C kn B yX4_enter cX4_enter 4 none 2 63 0 0 [.ref (x + 425), .int (iI bf), .int (iI bt)] S z (fun r S' z' => z = z' ∧ cFr [301, 310, 4, 5, 6] [1] [] w S S' x ∧ r = none ∧ (True) ∧ (gL S' x)) (fun _ _ _ => False) := by
  refine b_enter (by decide) (Nat.le_of_ble_eq_true rfl) ?_
  intro X hX hE hnL hkn hB hI_
  subst hkn; subst hB
  clear hI_
  change b_V X S z 0 0 0 [(0, .ref (x + 425)), (1, .int (iI bf)), (2, .int (iI bt))] []
  obtain ⟨dp, lg, nx, tl, mt, tx, e_dp, e_lg, e_nx, e_tl, e_mt, e_tx, k_tx, l_tx, p1, p2, p3, p4, p5, p6, p7⟩ := id g_gL
  obtain ⟨ipm9, md9, e_md9, k_md9, fp_md9⟩ := id g_hM
  have lm9 : lM S x = (m_L S md9 : Int) := lM_at e_md9
  have ipb9 := isP_b ipm9
  obtain ⟨dp8, e_dp8, b_dp8, o8⟩ := id g_gO
  have dpe8 : dp8 = dp := i_one e_dp8 e_dp ⟨by omega, by omega⟩ ⟨by omega, by omega⟩
  rw [dpe8] at o8
  refine v_aload_n hX dX4_enter_0 (i := 0) rfl rfl ?_
  refine v_callV hX (n := 0) (t_L_isFull (S := S) (x := x) (w := w) (dp := dp) (tl := tl) h (by simp (disch := omega) only [y_I_s_I, x_I_s_I, z_I_s_J, z_I_s_A, z_I_s_B, z_I_s_P, e_dp, e_lg, e_nx, e_tl, e_mt]) ⟨by omega, by omega⟩ (by simp (disch := omega) only [y_I_s_I, x_I_s_I, z_I_s_J, z_I_s_A, z_I_s_B, z_I_s_P, e_dp, e_lg, e_nx, e_tl, e_mt]) ⟨by omega, by omega⟩) (cs_k_425 h) bc_3 (by decide) w_4_238 w_4_183 w_4_184 w_1_13 w_4_185 (by decide +kernel) rfl ⟨by decide, by decide⟩ ⟨by omega, by omega⟩ (Nat.le_of_ble_eq_true rfl) rfl dX4_enter_1 (fun _ _ _ q => q) ?_
  rintro r1_ S1_ z1_ ⟨rfl, rfl, v2_, rfl, b_v2_, q1_⟩
  refine u_if_eq hX (tgt := 8) dX4_enter_4 (by decide) ⟨by omega, by omega⟩ (fun h3_ => ?_) (fun h3_ => ?_)
  ·
    refine v_aload_n hX dX4_enter_8 (i := 0) rfl rfl ?_
    refine v_get hX (ci := 3) (k := 0) (cs_k_425 h) bc_3 (by decide) (by decide) in_3 w_2_76 dX4_enter_9 (mvP (f := 300) (q := (x + 426)) rfl rfl (cs_p_300 h)) ?_
    refine v_aload_n hX dX4_enter_12 (i := 0) rfl rfl ?_
    refine v_get hX (ci := 3) (k := 1) (cs_k_425 h) bc_3 (by decide) (by decide) in_3 w_2_77 dX4_enter_13 (mvF (f := 301) (v := iI dp) rfl rfl (by simp (disch := omega) only [y_I_s_I, x_I_s_I, z_I_s_J, z_I_s_A, z_I_s_B, z_I_s_P, e_dp, e_lg, e_nx, e_tl, e_mt])) ?_
    refine u_aaldC hX (t := dp) h ⟨by omega, by omega⟩ dX4_enter_16 ?_
    refine v_astore_n hX (lv' := [(3, .ref (x + 429 + 4 * dp.toNat)), (0, .ref (x + 425)), (1, .int (iI bf)), (2, .int (iI bt))]) dX4_enter_17 (i := 3) rfl (by rw [hnL]; decide) rfl ?_
    refine v_aload_n hX dX4_enter_18 (i := 0) rfl rfl ?_
    refine v_get hX (ci := 3) (k := 1) (cs_k_425 h) bc_3 (by decide) (by decide) in_3 w_2_77 dX4_enter_19 (mvF (f := 301) (v := iI dp) rfl rfl (by simp (disch := omega) only [y_I_s_I, x_I_s_I, z_I_s_J, z_I_s_A, z_I_s_B, z_I_s_P, e_dp, e_lg, e_nx, e_tl, e_mt])) ?_
    refine u_if_le hX (tgt := 40) dX4_enter_22 (by decide) ⟨by omega, by omega⟩ (fun h4_ => ?_) (fun h4_ => ?_)
    ·
      refine v_aload_n hX dX4_enter_40 (i := 3) rfl rfl ?_
      refine v_aload_n hX dX4_enter_41 (i := 0) rfl rfl ?_
      refine v_get hX (ci := 3) (k := 2) (cs_k_425 h) bc_3 (by decide) (by decide) in_3 w_2_78 dX4_enter_42 (mvP (f := 302) (q := tx) rfl rfl (by simp (disch := omega) only [y_P_s_P, x_P_s_P, z_P_s_I, z_P_s_J, z_P_s_A, z_P_s_B, e_tx, e_md9])) ?_
      refine v_callV hX (n := 1) (t_C_readFrom (S := S) (x := x) (w := w) (a := (x + 429 + 4 * dp.toNat)) (src := tx) (Ls := 4096) h ⟨_, by omega, rfl⟩ k_tx l_tx (by omega)) (isC_k h ⟨_, by omega, rfl⟩) bc_0 (by decide) w_5_8 w_5_9 w_5_10 w_1_14 w_5_11 (by decide +kernel) rfl ⟨by decide, by decide⟩ ⟨by omega, by omega⟩ (Nat.le_of_ble_eq_true rfl) rfl dX4_enter_45 (fun _ _ _ q => q) ?_
      rintro r5_ S5_ z5_ ⟨rfl, f5_, a6_, La6_, rfl, e_a6_, k_a6_, l_a6_, c_a6_, q5_, q5_0⟩
      have y7_ : m_I S5_ 301 (x + 425) = iI dp := (f5_.2.1 301 (by decide) _).trans (by simp (disch := omega) only [y_I_s_I, x_I_s_I, z_I_s_J, z_I_s_A, z_I_s_B, z_I_s_P, e_dp, e_lg, e_nx, e_tl, e_mt])
      have y8_ : m_I S5_ 303 (x + 425) = iI lg := (f5_.2.1 303 (by decide) _).trans (by simp (disch := omega) only [y_I_s_I, x_I_s_I, z_I_s_J, z_I_s_A, z_I_s_B, z_I_s_P, e_dp, e_lg, e_nx, e_tl, e_mt])
      have y9_ : m_I S5_ 308 (x + 425) = iI nx := (f5_.2.1 308 (by decide) _).trans (by simp (disch := omega) only [y_I_s_I, x_I_s_I, z_I_s_J, z_I_s_A, z_I_s_B, z_I_s_P, e_dp, e_lg, e_nx, e_tl, e_mt])
      have y10_ : m_I S5_ 310 (x + 425) = iI tl := (f5_.2.1 310 (by decide) _).trans (by simp (disch := omega) only [y_I_s_I, x_I_s_I, z_I_s_J, z_I_s_A, z_I_s_B, z_I_s_P, e_dp, e_lg, e_nx, e_tl, e_mt])
      have y11_ : m_I S5_ 403 (x + 421) = iI mt := (f5_.2.1 403 (by decide) _).trans (by simp (disch := omega) only [y_I_s_I, x_I_s_I, z_I_s_J, z_I_s_A, z_I_s_B, z_I_s_P, e_dp, e_lg, e_nx, e_tl, e_mt])
      have y12_ : m_P S5_ 302 (x + 425) = some tx := (f5_.2.2.1 302 (by decide) _).trans (by simp (disch := omega) only [y_P_s_P, x_P_s_P, z_P_s_I, z_P_s_J, z_P_s_A, z_P_s_B, e_tx, e_md9])
      have y13_ : m_P S5_ 304 (x + 425) = some md9 := (f5_.2.2.1 304 (by decide) _).trans (by simp (disch := omega) only [y_P_s_P, x_P_s_P, z_P_s_I, z_P_s_J, z_P_s_A, z_P_s_B, e_tx, e_md9])
      have k14_ : m_K S5_ tx = 12 := (f5_.2.2.2.2 _ (by rw [show m_K S tx = 12 from k_tx]; decide)).1.trans k_tx
      have l15_ : m_L S5_ tx = 4096 := (f5_.2.2.2.2 _ (by rw [show m_K S tx = 12 from k_tx]; decide)).2.1.trans l_tx
      have k16_ : m_K S5_ md9 = 12 := (f5_.2.2.2.2 _ (by rw [show m_K S md9 = 12 from k_md9]; decide)).1.trans k_md9
      have l17_ : m_L S5_ md9 = (m_L S md9) := (f5_.2.2.2.2 _ (by rw [show m_K S md9 = 12 from k_md9]; decide)).2.1.trans rfl
      have h5_ : cS S5_ x := f5_.keep (by decide) h
      have g5_gO : gO S5_ x lo hi := gO.fr g_gO h f5_ (by decide)
      have g5_hM : hM S5_ x w := hM.fr g_hM h f5_ (by decide)
      have g5_bY : bY S5_ := bY.fr g_bY h f5_ (by decide)
      refine v_aload_n hX dX4_enter_48 (i := 0) rfl rfl ?_
      refine v_dup hX dX4_enter_49 rfl ?_
      refine v_get hX (ci := 3) (k := 10) (cs_k_425 h5_) bc_3 (by decide) (by decide) in_3 w_2_91 dX4_enter_50 (mvF (f := 310) (v := iI tl) rfl rfl (by simp (disch := omega) only [y_I_s_I, x_I_s_I, z_I_s_J, z_I_s_A, z_I_s_B, z_I_s_P, y7_, y8_, y9_, y10_, y11_])) ?_
      refine v_iconst hX (v := iI 1) dX4_enter_53 rfl ?_
      refine u_iadd hX dX4_enter_54 ?_
      refine v_putI hX (ci := 3) (k := 10) (f := 310) (cs_k_425 h5_) bc_3 (by decide) (by decide) in_3 tyX4_ok nmX4 w_2_91 (Or.inl rfl) rfl rfl dX4_enter_55 rfl rfl ?_
      refine v_aload_n hX dX4_enter_58 (i := 0) rfl rfl ?_
      refine v_dup hX dX4_enter_59 rfl ?_
      refine v_get hX (ci := 3) (k := 1) (cs_k_425 (cS.sI h5_)) bc_3 (by decide) (by decide) in_3 w_2_77 dX4_enter_60 (mvF (f := 301) (v := iI dp) rfl rfl (by simp (disch := omega) only [y_I_s_I, x_I_s_I, z_I_s_J, z_I_s_A, z_I_s_B, z_I_s_P, y7_, y8_, y9_, y10_, y11_])) ?_
      refine v_iconst hX (v := iI 1) dX4_enter_63 rfl ?_
      refine u_iadd hX dX4_enter_64 ?_
      refine v_putI hX (ci := 3) (k := 1) (f := 301) (cs_k_425 (cS.sI h5_)) bc_3 (by decide) (by decide) in_3 tyX4_ok nmX4 w_2_77 (Or.inl rfl) rfl rfl dX4_enter_65 rfl rfl ?_
      refine v_aload_n hX dX4_enter_68 (i := 3) rfl rfl ?_
      refine v_aload_n hX dX4_enter_69 (i := 0) rfl rfl ?_
      refine v_get hX (ci := 3) (k := 10) (cs_k_425 (cS.sI (cS.sI h5_))) bc_3 (by decide) (by decide) in_3 w_2_91 dX4_enter_70 (mvF (f := 310) (v := iI (tl + 1)) rfl rfl (by simp (disch := omega) only [y_I_s_I, x_I_s_I, z_I_s_J, z_I_s_A, z_I_s_B, z_I_s_P, y7_, y8_, y9_, y10_, y11_])) ?_
      refine v_iload_n hX dX4_enter_73 (i := 1) rfl rfl ?_
      refine v_iload_n hX dX4_enter_74 (i := 2) rfl rfl ?_
      refine v_callV hX (n := 3) (t_C_begin (S := (s_I (s_I S5_ 310 (x + 425) (iI (tl + 1))) 301 (x + 425) (iI (dp + 1)))) (x := x) (w := w) (a := (x + 429 + 4 * dp.toNat)) (nn := (tl + 1)) (f_ := bf) (u_ := bt) (cS.sI (cS.sI h5_)) ⟨by omega, by omega⟩ ⟨by omega, by omega⟩ ⟨by omega, by omega⟩ ⟨_, by omega, rfl⟩) (isC_k (cS.sI (cS.sI h5_)) ⟨_, by omega, rfl⟩) bc_0 (by decide) w_5_12 w_5_13 w_5_14 w_1_14 w_5_15 (by decide +kernel) rfl ⟨by decide, by decide⟩ ⟨by omega, by omega⟩ (Nat.le_of_ble_eq_true rfl) rfl dX4_enter_75 (fun _ _ _ q => q) ?_
      rintro r18_ S18_ z18_ ⟨rfl, f18_, v19_, v20_, rfl, e_v19_, b_v19_, e_v20_, b_v20_, q18_, q18_0⟩
      have y21_ : m_I S18_ 301 (x + 425) = iI (dp + 1) := (f18_.2.1 301 (by decide) _).trans (by simp (disch := omega) only [y_I_s_I, x_I_s_I, z_I_s_J, z_I_s_A, z_I_s_B, z_I_s_P, y7_, y8_, y9_, y10_, y11_])
      have y22_ : m_I S18_ 303 (x + 425) = iI lg := (f18_.2.1 303 (by decide) _).trans (by simp (disch := omega) only [y_I_s_I, x_I_s_I, z_I_s_J, z_I_s_A, z_I_s_B, z_I_s_P, y7_, y8_, y9_, y10_, y11_])
      have y23_ : m_I S18_ 308 (x + 425) = iI nx := (f18_.2.1 308 (by decide) _).trans (by simp (disch := omega) only [y_I_s_I, x_I_s_I, z_I_s_J, z_I_s_A, z_I_s_B, z_I_s_P, y7_, y8_, y9_, y10_, y11_])
      have y24_ : m_I S18_ 310 (x + 425) = iI (tl + 1) := (f18_.2.1 310 (by decide) _).trans (by simp (disch := omega) only [y_I_s_I, x_I_s_I, z_I_s_J, z_I_s_A, z_I_s_B, z_I_s_P, y7_, y8_, y9_, y10_, y11_])
      have y25_ : m_I S18_ 403 (x + 421) = iI mt := (f18_.2.1 403 (by decide) _).trans (by simp (disch := omega) only [y_I_s_I, x_I_s_I, z_I_s_J, z_I_s_A, z_I_s_B, z_I_s_P, y7_, y8_, y9_, y10_, y11_])
      have y26_ : m_P S18_ 302 (x + 425) = some tx := (f18_.2.2.1 302 (by decide) _).trans (by simp (disch := omega) only [y_P_s_P, x_P_s_P, z_P_s_I, z_P_s_J, z_P_s_A, z_P_s_B, y12_, y13_, e_a6_])
      have y27_ : m_P S18_ 304 (x + 425) = some md9 := (f18_.2.2.1 304 (by decide) _).trans (by simp (disch := omega) only [y_P_s_P, x_P_s_P, z_P_s_I, z_P_s_J, z_P_s_A, z_P_s_B, y12_, y13_, e_a6_])
      have y28_ : m_P S18_ 1 (x + 429 + 4 * dp.toNat) = some a6_ := (f18_.2.2.1 1 (by decide) _).trans (by simp (disch := omega) only [y_P_s_P, x_P_s_P, z_P_s_I, z_P_s_J, z_P_s_A, z_P_s_B, y12_, y13_, e_a6_])
      have k29_ : m_K S18_ tx = 12 := (f18_.2.2.2.2 _ (by rw [show m_K (s_I (s_I S5_ 310 (x + 425) (iI (tl + 1))) 301 (x + 425) (iI (dp + 1))) tx = 12 from k14_]; decide)).1.trans k14_
      have l30_ : m_L S18_ tx = 4096 := (f18_.2.2.2.2 _ (by rw [show m_K (s_I (s_I S5_ 310 (x + 425) (iI (tl + 1))) 301 (x + 425) (iI (dp + 1))) tx = 12 from k14_]; decide)).2.1.trans l15_
      have k31_ : m_K S18_ md9 = 12 := (f18_.2.2.2.2 _ (by rw [show m_K (s_I (s_I S5_ 310 (x + 425) (iI (tl + 1))) 301 (x + 425) (iI (dp + 1))) md9 = 12 from k16_]; decide)).1.trans k16_
      have l32_ : m_L S18_ md9 = (m_L S md9) := (f18_.2.2.2.2 _ (by rw [show m_K (s_I (s_I S5_ 310 (x + 425) (iI (tl + 1))) 301 (x + 425) (iI (dp + 1))) md9 = 12 from k16_]; decide)).2.1.trans l17_
      have k33_ : m_K S18_ a6_ = 12 := (f18_.2.2.2.2 _ (by rw [show m_K (s_I (s_I S5_ 310 (x + 425) (iI (tl + 1))) 301 (x + 425) (iI (dp + 1))) a6_ = 12 from k_a6_]; decide)).1.trans k_a6_
      have l34_ : m_L S18_ a6_ = La6_ := (f18_.2.2.2.2 _ (by rw [show m_K (s_I (s_I S5_ 310 (x + 425) (iI (tl + 1))) 301 (x + 425) (iI (dp + 1))) a6_ = 12 from k_a6_]; decide)).2.1.trans l_a6_
      have h18_ : cS S18_ x := f18_.keep (by decide) (cS.sI (cS.sI h5_))
      have g18_hM : hM S18_ x w := hM.fr (hM.fr g5_hM h5_ (show cFr [301, 310] [] [] w S5_ (s_I (s_I S5_ 310 (x + 425) (iI (tl + 1))) 301 (x + 425) (iI (dp + 1))) x from (((cFr.rf _ _).sI (by decide) ⟨by omega, by omega⟩).sI (by decide) ⟨by omega, by omega⟩)) (by decide)) (cS.sI (cS.sI h5_)) f18_ (by decide)
      have g18_bY : bY S18_ := bY.fr (bY.fr g5_bY h5_ (show cFr [301, 310] [] [] w S5_ (s_I (s_I S5_ 310 (x + 425) (iI (tl + 1))) 301 (x + 425) (iI (dp + 1))) x from (((cFr.rf _ _).sI (by decide) ⟨by omega, by omega⟩).sI (by decide) ⟨by omega, by omega⟩)) (by decide)) (cS.sI (cS.sI h5_)) f18_ (by decide)
      have o1_ : ∀ b, b ≠ (x + 429 + 4 * dp.toNat) → m_P S18_ 1 b = m_P S 1 b := fun b hb => ((f18_.2.2.1 1 (by decide) b).trans (show m_P (s_I (s_I S5_ 310 (x + 425) (iI (tl + 1))) 301 (x + 425) (iI (dp + 1))) 1 b = m_P S5_ 1 b from rfl)).trans (q5_0 b hb)
      have o5_ : ∀ b, b ≠ (x + 429 + 4 * dp.toNat) → m_I S18_ 5 b = m_I S 5 b ∧ m_I S18_ 6 b = m_I S 6 b := fun b hb => ⟨((q18_0 b hb).1.trans (show m_I (s_I (s_I S5_ 310 (x + 425) (iI (tl + 1))) 301 (x + 425) (iI (dp + 1))) 5 b = m_I S5_ 5 b from by simp (disch := omega) only [x_I_s_I])).trans (f5_.2.1 5 (by decide) b), ((q18_0 b hb).2.trans (show m_I (s_I (s_I S5_ 310 (x + 425) (iI (tl + 1))) 301 (x + 425) (iI (dp + 1))) 6 b = m_I S5_ 6 b from by simp (disch := omega) only [x_I_s_I])).trans (f5_.2.1 6 (by decide) b)⟩
      exact v_return hX hE dX4_enter_78 (by omega) (by omega) ⟨rfl, (((((cFr.rf _ _).tr (f5_.mono (by decide) (by decide) (by decide))).sI (by decide) ⟨by omega, by omega⟩).sI (by decide) ⟨by omega, by omega⟩).tr (f18_.mono (by decide) (by decide) (by decide))), rfl, trivial, ⟨dp + 1, lg, nx, tl + 1, mt, tx, (by simp (disch := omega) only [y_I_s_I, x_I_s_I, z_I_s_J, z_I_s_A, z_I_s_B, z_I_s_P, y21_, y22_, y23_, y24_, y25_, e_v19_, e_v20_]), (by simp (disch := omega) only [y_I_s_I, x_I_s_I, z_I_s_J, z_I_s_A, z_I_s_B, z_I_s_P, y21_, y22_, y23_, y24_, y25_, e_v19_, e_v20_]), (by simp (disch := omega) only [y_I_s_I, x_I_s_I, z_I_s_J, z_I_s_A, z_I_s_B, z_I_s_P, y21_, y22_, y23_, y24_, y25_, e_v19_, e_v20_]), (by simp (disch := omega) only [y_I_s_I, x_I_s_I, z_I_s_J, z_I_s_A, z_I_s_B, z_I_s_P, y21_, y22_, y23_, y24_, y25_, e_v19_, e_v20_]), (by simp (disch := omega) only [y_I_s_I, x_I_s_I, z_I_s_J, z_I_s_A, z_I_s_B, z_I_s_P, y21_, y22_, y23_, y24_, y25_, e_v19_, e_v20_]), (by simp (disch := omega) only [y_P_s_P, x_P_s_P, z_P_s_I, z_P_s_J, z_P_s_A, z_P_s_B, y26_, y27_, y28_]), k29_, l30_, by omega, by omega, p3, p4, p5, p6.add (bf := v19_) (bt := v20_) p1 h (show cFr [301, 310, 4, 5, 6] [1] [] w S S18_ x from (((((cFr.rf _ _).tr (f5_.mono (by decide) (by decide) (by decide))).sI (by decide) ⟨by omega, by omega⟩).sI (by decide) ⟨by omega, by omega⟩).tr (f18_.mono (by decide) (by decide) (by decide)))) (by decide) rfl o1_ o5_ (by simp (disch := omega) only [y_P_s_P, x_P_s_P, z_P_s_I, z_P_s_J, z_P_s_A, z_P_s_B, y26_, y27_, y28_]) k33_ l34_ (by simp (disch := omega) only [y_I_s_I, x_I_s_I, z_I_s_J, z_I_s_A, z_I_s_B, z_I_s_P, y21_, y22_, y23_, y24_, y25_, e_v19_, e_v20_]) (by simp (disch := omega) only [y_I_s_I, x_I_s_I, z_I_s_J, z_I_s_A, z_I_s_B, z_I_s_P, y21_, y22_, y23_, y24_, y25_, e_v19_, e_v20_]) ⟨⟨by omega, by omega⟩, by omega, by omega⟩ (by omega) o8 (Or.inr (by have h9 := hd0 dp e_dp (by omega); omega)), p7.fr h (show cFr [301, 310, 4, 5, 6] [1] [] w S S18_ x from (((((cFr.rf _ _).tr (f5_.mono (by decide) (by decide) (by decide))).sI (by decide) ⟨by omega, by omega⟩).sI (by decide) ⟨by omega, by omega⟩).tr (f18_.mono (by decide) (by decide) (by decide)))) (by decide)⟩⟩
    ·
      refine v_aload_n hX dX4_enter_25 (i := 3) rfl rfl ?_
      refine v_aload_n hX dX4_enter_26 (i := 0) rfl rfl ?_
      refine v_get hX (ci := 3) (k := 4) (cs_k_425 h) bc_3 (by decide) (by decide) in_3 w_2_80 dX4_enter_27 (mvP (f := 304) (q := md9) rfl rfl (by simp (disch := omega) only [y_P_s_P, x_P_s_P, z_P_s_I, z_P_s_J, z_P_s_A, z_P_s_B, e_tx, e_md9])) ?_
      refine v_aload_n hX dX4_enter_30 (i := 0) rfl rfl ?_
      obtain ⟨v35_, e_v35_, b_v35_⟩ := i_ex (m_I S 307 (x + 425))
      refine v_get hX (ci := 3) (k := 7) (cs_k_425 h) bc_3 (by decide) (by decide) in_3 w_2_86 dX4_enter_31 (mvF (f := 307) (v := iI v35_) rfl rfl (by simp (disch := omega) only [y_I_s_I, x_I_s_I, z_I_s_J, z_I_s_A, z_I_s_B, z_I_s_P, e_dp, e_lg, e_nx, e_tl, e_mt, e_v35_])) ?_
      refine v_callV hX (n := 2) (t_C_keep (S := S) (x := x) (w := w) (a := (x + 429 + 4 * dp.toNat)) (src := md9) (ln := v35_) (Ls := (m_L S md9)) h ⟨by omega, by omega⟩ ⟨_, by omega, rfl⟩ k_md9 rfl (by omega) g_bY) (isC_k h ⟨_, by omega, rfl⟩) bc_0 (by decide) w_4_239 w_5_0 w_5_1 w_1_14 w_5_2 (by decide +kernel) rfl ⟨by decide, by decide⟩ ⟨by omega, by omega⟩ (Nat.le_of_ble_eq_true rfl) rfl dX4_enter_34 (fun _ _ _ q => q) ?_
      rintro r36_ S36_ z36_ ⟨rfl, f36_, a37_, La37_, rfl, e_a37_, k_a37_, l_a37_, c_a37_, q36_, q36_0, g36_bY⟩
      have y38_ : m_I S36_ 301 (x + 425) = iI dp := (f36_.2.1 301 (by decide) _).trans (by simp (disch := omega) only [y_I_s_I, x_I_s_I, z_I_s_J, z_I_s_A, z_I_s_B, z_I_s_P, e_dp, e_lg, e_nx, e_tl, e_mt, e_v35_])
      have y39_ : m_I S36_ 303 (x + 425) = iI lg := (f36_.2.1 303 (by decide) _).trans (by simp (disch := omega) only [y_I_s_I, x_I_s_I, z_I_s_J, z_I_s_A, z_I_s_B, z_I_s_P, e_dp, e_lg, e_nx, e_tl, e_mt, e_v35_])
      have y40_ : m_I S36_ 308 (x + 425) = iI nx := (f36_.2.1 308 (by decide) _).trans (by simp (disch := omega) only [y_I_s_I, x_I_s_I, z_I_s_J, z_I_s_A, z_I_s_B, z_I_s_P, e_dp, e_lg, e_nx, e_tl, e_mt, e_v35_])
      have y41_ : m_I S36_ 310 (x + 425) = iI tl := (f36_.2.1 310 (by decide) _).trans (by simp (disch := omega) only [y_I_s_I, x_I_s_I, z_I_s_J, z_I_s_A, z_I_s_B, z_I_s_P, e_dp, e_lg, e_nx, e_tl, e_mt, e_v35_])
      have y42_ : m_I S36_ 403 (x + 421) = iI mt := (f36_.2.1 403 (by decide) _).trans (by simp (disch := omega) only [y_I_s_I, x_I_s_I, z_I_s_J, z_I_s_A, z_I_s_B, z_I_s_P, e_dp, e_lg, e_nx, e_tl, e_mt, e_v35_])
      have y43_ : m_I S36_ 307 (x + 425) = iI v35_ := (f36_.2.1 307 (by decide) _).trans (by simp (disch := omega) only [y_I_s_I, x_I_s_I, z_I_s_J, z_I_s_A, z_I_s_B, z_I_s_P, e_dp, e_lg, e_nx, e_tl, e_mt, e_v35_])
      have y44_ : m_P S36_ 302 (x + 425) = some tx := (f36_.2.2.1 302 (by decide) _).trans (by simp (disch := omega) only [y_P_s_P, x_P_s_P, z_P_s_I, z_P_s_J, z_P_s_A, z_P_s_B, e_tx, e_md9])
      have y45_ : m_P S36_ 304 (x + 425) = some md9 := (f36_.2.2.1 304 (by decide) _).trans (by simp (disch := omega) only [y_P_s_P, x_P_s_P, z_P_s_I, z_P_s_J, z_P_s_A, z_P_s_B, e_tx, e_md9])
      have k46_ : m_K S36_ tx = 12 := (f36_.2.2.2.2 _ (by rw [show m_K S tx = 12 from k_tx]; decide)).1.trans k_tx
      have l47_ : m_L S36_ tx = 4096 := (f36_.2.2.2.2 _ (by rw [show m_K S tx = 12 from k_tx]; decide)).2.1.trans l_tx
      have k48_ : m_K S36_ md9 = 12 := (f36_.2.2.2.2 _ (by rw [show m_K S md9 = 12 from k_md9]; decide)).1.trans k_md9
      have l49_ : m_L S36_ md9 = (m_L S md9) := (f36_.2.2.2.2 _ (by rw [show m_K S md9 = 12 from k_md9]; decide)).2.1.trans rfl
      have h36_ : cS S36_ x := f36_.keep (by decide) h
      have g36_gO : gO S36_ x lo hi := gO.fr g_gO h f36_ (by decide)
      have g36_hM : hM S36_ x w := hM.fr g_hM h f36_ (by decide)
      refine v_goto hX (tgt := 48) dX4_enter_37 (by decide) ?_
      refine v_aload_n hX dX4_enter_48 (i := 0) rfl rfl ?_
      refine v_dup hX dX4_enter_49 rfl ?_
      refine v_get hX (ci := 3) (k := 10) (cs_k_425 h36_) bc_3 (by decide) (by decide) in_3 w_2_91 dX4_enter_50 (mvF (f := 310) (v := iI tl) rfl rfl (by simp (disch := omega) only [y_I_s_I, x_I_s_I, z_I_s_J, z_I_s_A, z_I_s_B, z_I_s_P, y38_, y39_, y40_, y41_, y42_, y43_])) ?_
      refine v_iconst hX (v := iI 1) dX4_enter_53 rfl ?_
      refine u_iadd hX dX4_enter_54 ?_
      refine v_putI hX (ci := 3) (k := 10) (f := 310) (cs_k_425 h36_) bc_3 (by decide) (by decide) in_3 tyX4_ok nmX4 w_2_91 (Or.inl rfl) rfl rfl dX4_enter_55 rfl rfl ?_
      refine v_aload_n hX dX4_enter_58 (i := 0) rfl rfl ?_
      refine v_dup hX dX4_enter_59 rfl ?_
      refine v_get hX (ci := 3) (k := 1) (cs_k_425 (cS.sI h36_)) bc_3 (by decide) (by decide) in_3 w_2_77 dX4_enter_60 (mvF (f := 301) (v := iI dp) rfl rfl (by simp (disch := omega) only [y_I_s_I, x_I_s_I, z_I_s_J, z_I_s_A, z_I_s_B, z_I_s_P, y38_, y39_, y40_, y41_, y42_, y43_])) ?_
      refine v_iconst hX (v := iI 1) dX4_enter_63 rfl ?_
      refine u_iadd hX dX4_enter_64 ?_
      refine v_putI hX (ci := 3) (k := 1) (f := 301) (cs_k_425 (cS.sI h36_)) bc_3 (by decide) (by decide) in_3 tyX4_ok nmX4 w_2_77 (Or.inl rfl) rfl rfl dX4_enter_65 rfl rfl ?_
      refine v_aload_n hX dX4_enter_68 (i := 3) rfl rfl ?_
      refine v_aload_n hX dX4_enter_69 (i := 0) rfl rfl ?_
      refine v_get hX (ci := 3) (k := 10) (cs_k_425 (cS.sI (cS.sI h36_))) bc_3 (by decide) (by decide) in_3 w_2_91 dX4_enter_70 (mvF (f := 310) (v := iI (tl + 1)) rfl rfl (by simp (disch := omega) only [y_I_s_I, x_I_s_I, z_I_s_J, z_I_s_A, z_I_s_B, z_I_s_P, y38_, y39_, y40_, y41_, y42_, y43_])) ?_
      refine v_iload_n hX dX4_enter_73 (i := 1) rfl rfl ?_
      refine v_iload_n hX dX4_enter_74 (i := 2) rfl rfl ?_
      refine v_callV hX (n := 3) (t_C_begin (S := (s_I (s_I S36_ 310 (x + 425) (iI (tl + 1))) 301 (x + 425) (iI (dp + 1)))) (x := x) (w := w) (a := (x + 429 + 4 * dp.toNat)) (nn := (tl + 1)) (f_ := bf) (u_ := bt) (cS.sI (cS.sI h36_)) ⟨by omega, by omega⟩ ⟨by omega, by omega⟩ ⟨by omega, by omega⟩ ⟨_, by omega, rfl⟩) (isC_k (cS.sI (cS.sI h36_)) ⟨_, by omega, rfl⟩) bc_0 (by decide) w_5_12 w_5_13 w_5_14 w_1_14 w_5_15 (by decide +kernel) rfl ⟨by decide, by decide⟩ ⟨by omega, by omega⟩ (Nat.le_of_ble_eq_true rfl) rfl dX4_enter_75 (fun _ _ _ q => q) ?_
      rintro r50_ S50_ z50_ ⟨rfl, f50_, v51_, v52_, rfl, e_v51_, b_v51_, e_v52_, b_v52_, q50_, q50_0⟩
      have y53_ : m_I S50_ 301 (x + 425) = iI (dp + 1) := (f50_.2.1 301 (by decide) _).trans (by simp (disch := omega) only [y_I_s_I, x_I_s_I, z_I_s_J, z_I_s_A, z_I_s_B, z_I_s_P, y38_, y39_, y40_, y41_, y42_, y43_])
      have y54_ : m_I S50_ 303 (x + 425) = iI lg := (f50_.2.1 303 (by decide) _).trans (by simp (disch := omega) only [y_I_s_I, x_I_s_I, z_I_s_J, z_I_s_A, z_I_s_B, z_I_s_P, y38_, y39_, y40_, y41_, y42_, y43_])
      have y55_ : m_I S50_ 308 (x + 425) = iI nx := (f50_.2.1 308 (by decide) _).trans (by simp (disch := omega) only [y_I_s_I, x_I_s_I, z_I_s_J, z_I_s_A, z_I_s_B, z_I_s_P, y38_, y39_, y40_, y41_, y42_, y43_])
      have y56_ : m_I S50_ 310 (x + 425) = iI (tl + 1) := (f50_.2.1 310 (by decide) _).trans (by simp (disch := omega) only [y_I_s_I, x_I_s_I, z_I_s_J, z_I_s_A, z_I_s_B, z_I_s_P, y38_, y39_, y40_, y41_, y42_, y43_])
      have y57_ : m_I S50_ 403 (x + 421) = iI mt := (f50_.2.1 403 (by decide) _).trans (by simp (disch := omega) only [y_I_s_I, x_I_s_I, z_I_s_J, z_I_s_A, z_I_s_B, z_I_s_P, y38_, y39_, y40_, y41_, y42_, y43_])
      have y58_ : m_I S50_ 307 (x + 425) = iI v35_ := (f50_.2.1 307 (by decide) _).trans (by simp (disch := omega) only [y_I_s_I, x_I_s_I, z_I_s_J, z_I_s_A, z_I_s_B, z_I_s_P, y38_, y39_, y40_, y41_, y42_, y43_])
      have y59_ : m_P S50_ 302 (x + 425) = some tx := (f50_.2.2.1 302 (by decide) _).trans (by simp (disch := omega) only [y_P_s_P, x_P_s_P, z_P_s_I, z_P_s_J, z_P_s_A, z_P_s_B, y44_, y45_, e_a37_])
      have y60_ : m_P S50_ 304 (x + 425) = some md9 := (f50_.2.2.1 304 (by decide) _).trans (by simp (disch := omega) only [y_P_s_P, x_P_s_P, z_P_s_I, z_P_s_J, z_P_s_A, z_P_s_B, y44_, y45_, e_a37_])
      have y61_ : m_P S50_ 1 (x + 429 + 4 * dp.toNat) = some a37_ := (f50_.2.2.1 1 (by decide) _).trans (by simp (disch := omega) only [y_P_s_P, x_P_s_P, z_P_s_I, z_P_s_J, z_P_s_A, z_P_s_B, y44_, y45_, e_a37_])
      have k62_ : m_K S50_ tx = 12 := (f50_.2.2.2.2 _ (by rw [show m_K (s_I (s_I S36_ 310 (x + 425) (iI (tl + 1))) 301 (x + 425) (iI (dp + 1))) tx = 12 from k46_]; decide)).1.trans k46_
      have l63_ : m_L S50_ tx = 4096 := (f50_.2.2.2.2 _ (by rw [show m_K (s_I (s_I S36_ 310 (x + 425) (iI (tl + 1))) 301 (x + 425) (iI (dp + 1))) tx = 12 from k46_]; decide)).2.1.trans l47_
      have k64_ : m_K S50_ md9 = 12 := (f50_.2.2.2.2 _ (by rw [show m_K (s_I (s_I S36_ 310 (x + 425) (iI (tl + 1))) 301 (x + 425) (iI (dp + 1))) md9 = 12 from k48_]; decide)).1.trans k48_
      have l65_ : m_L S50_ md9 = (m_L S md9) := (f50_.2.2.2.2 _ (by rw [show m_K (s_I (s_I S36_ 310 (x + 425) (iI (tl + 1))) 301 (x + 425) (iI (dp + 1))) md9 = 12 from k48_]; decide)).2.1.trans l49_
      have k66_ : m_K S50_ a37_ = 12 := (f50_.2.2.2.2 _ (by rw [show m_K (s_I (s_I S36_ 310 (x + 425) (iI (tl + 1))) 301 (x + 425) (iI (dp + 1))) a37_ = 12 from k_a37_]; decide)).1.trans k_a37_
      have l67_ : m_L S50_ a37_ = La37_ := (f50_.2.2.2.2 _ (by rw [show m_K (s_I (s_I S36_ 310 (x + 425) (iI (tl + 1))) 301 (x + 425) (iI (dp + 1))) a37_ = 12 from k_a37_]; decide)).2.1.trans l_a37_
      have h50_ : cS S50_ x := f50_.keep (by decide) (cS.sI (cS.sI h36_))
      have g50_hM : hM S50_ x w := hM.fr (hM.fr g36_hM h36_ (show cFr [301, 310] [] [] w S36_ (s_I (s_I S36_ 310 (x + 425) (iI (tl + 1))) 301 (x + 425) (iI (dp + 1))) x from (((cFr.rf _ _).sI (by decide) ⟨by omega, by omega⟩).sI (by decide) ⟨by omega, by omega⟩)) (by decide)) (cS.sI (cS.sI h36_)) f50_ (by decide)
      have g50_bY : bY S50_ := bY.fr (bY.fr g36_bY h36_ (show cFr [301, 310] [] [] w S36_ (s_I (s_I S36_ 310 (x + 425) (iI (tl + 1))) 301 (x + 425) (iI (dp + 1))) x from (((cFr.rf _ _).sI (by decide) ⟨by omega, by omega⟩).sI (by decide) ⟨by omega, by omega⟩)) (by decide)) (cS.sI (cS.sI h36_)) f50_ (by decide)
      have o1_ : ∀ b, b ≠ (x + 429 + 4 * dp.toNat) → m_P S50_ 1 b = m_P S 1 b := fun b hb => ((f50_.2.2.1 1 (by decide) b).trans (show m_P (s_I (s_I S36_ 310 (x + 425) (iI (tl + 1))) 301 (x + 425) (iI (dp + 1))) 1 b = m_P S36_ 1 b from rfl)).trans (q36_0 b hb)
      have o5_ : ∀ b, b ≠ (x + 429 + 4 * dp.toNat) → m_I S50_ 5 b = m_I S 5 b ∧ m_I S50_ 6 b = m_I S 6 b := fun b hb => ⟨((q50_0 b hb).1.trans (show m_I (s_I (s_I S36_ 310 (x + 425) (iI (tl + 1))) 301 (x + 425) (iI (dp + 1))) 5 b = m_I S36_ 5 b from by simp (disch := omega) only [x_I_s_I])).trans (f36_.2.1 5 (by decide) b), ((q50_0 b hb).2.trans (show m_I (s_I (s_I S36_ 310 (x + 425) (iI (tl + 1))) 301 (x + 425) (iI (dp + 1))) 6 b = m_I S36_ 6 b from by simp (disch := omega) only [x_I_s_I])).trans (f36_.2.1 6 (by decide) b)⟩
      exact v_return hX hE dX4_enter_78 (by omega) (by omega) ⟨rfl, (((((cFr.rf _ _).tr (f36_.mono (by decide) (by decide) (by decide))).sI (by decide) ⟨by omega, by omega⟩).sI (by decide) ⟨by omega, by omega⟩).tr (f50_.mono (by decide) (by decide) (by decide))), rfl, trivial, ⟨dp + 1, lg, nx, tl + 1, mt, tx, (by simp (disch := omega) only [y_I_s_I, x_I_s_I, z_I_s_J, z_I_s_A, z_I_s_B, z_I_s_P, y53_, y54_, y55_, y56_, y57_, y58_, e_v51_, e_v52_]), (by simp (disch := omega) only [y_I_s_I, x_I_s_I, z_I_s_J, z_I_s_A, z_I_s_B, z_I_s_P, y53_, y54_, y55_, y56_, y57_, y58_, e_v51_, e_v52_]), (by simp (disch := omega) only [y_I_s_I, x_I_s_I, z_I_s_J, z_I_s_A, z_I_s_B, z_I_s_P, y53_, y54_, y55_, y56_, y57_, y58_, e_v51_, e_v52_]), (by simp (disch := omega) only [y_I_s_I, x_I_s_I, z_I_s_J, z_I_s_A, z_I_s_B, z_I_s_P, y53_, y54_, y55_, y56_, y57_, y58_, e_v51_, e_v52_]), (by simp (disch := omega) only [y_I_s_I, x_I_s_I, z_I_s_J, z_I_s_A, z_I_s_B, z_I_s_P, y53_, y54_, y55_, y56_, y57_, y58_, e_v51_, e_v52_]), (by simp (disch := omega) only [y_P_s_P, x_P_s_P, z_P_s_I, z_P_s_J, z_P_s_A, z_P_s_B, y59_, y60_, y61_]), k62_, l63_, by omega, by omega, p3, p4, p5, p6.add (bf := v51_) (bt := v52_) p1 h (show cFr [301, 310, 4, 5, 6] [1] [] w S S50_ x from (((((cFr.rf _ _).tr (f36_.mono (by decide) (by decide) (by decide))).sI (by decide) ⟨by omega, by omega⟩).sI (by decide) ⟨by omega, by omega⟩).tr (f50_.mono (by decide) (by decide) (by decide)))) (by decide) rfl o1_ o5_ (by simp (disch := omega) only [y_P_s_P, x_P_s_P, z_P_s_I, z_P_s_J, z_P_s_A, z_P_s_B, y59_, y60_, y61_]) k66_ l67_ (by simp (disch := omega) only [y_I_s_I, x_I_s_I, z_I_s_J, z_I_s_A, z_I_s_B, z_I_s_P, y53_, y54_, y55_, y56_, y57_, y58_, e_v51_, e_v52_]) (by simp (disch := omega) only [y_I_s_I, x_I_s_I, z_I_s_J, z_I_s_A, z_I_s_B, z_I_s_P, y53_, y54_, y55_, y56_, y57_, y58_, e_v51_, e_v52_]) ⟨⟨by omega, by omega⟩, by omega, by omega⟩ (by omega) o8 (Or.inl (by omega)), p7.fr h (show cFr [301, 310, 4, 5, 6] [1] [] w S S50_ x from (((((cFr.rf _ _).tr (f36_.mono (by decide) (by decide) (by decide))).sI (by decide) ⟨by omega, by omega⟩).sI (by decide) ⟨by omega, by omega⟩).tr (f50_.mono (by decide) (by decide) (by decide)))) (by decide)⟩⟩
  ·
    exact v_return hX hE dX4_enter_7 (by omega) (by omega) ⟨rfl, (cFr.rf _ _), rfl, trivial, g_gL⟩
set_option maxRecDepth 100000 in
set_option maxHeartbeats 4000000 in
theorem g_M_find {kn : Nat → Nat} {B : Nat} {S : b_M} {z x w : Nat} {v : Int} (h : cS S x) (b_v : -9223372036854775808 ≤ v ∧ v < 9223372036854775808) (g_gL : gL S x) : b_C kn B yX5_find cX5_find 4 (some .int) 0 0 0 0 [.ref (x + 421), .long (jJ v)] S z (fun r S' z' => z = z' ∧ S = S' ∧ ∃ q : Int, r = some (.int (iI q)) ∧ (-2147483648 ≤ q ∧ q < 2147483648) ∧ (True)) (fun _ _ _ => False) := by
  obtain ⟨dp, lg, nx, tl, mt, tx, e1, e2, e3, e4, e5, e6, k1, l1, p1, p2, p3, p4, p5, p6, p7⟩ := id g_gL
  refine (t_M_find (w := w) h e5 ⟨by omega, by omega⟩ b_v (by omega)).mono ?_ (fun _ _ _ h => h)
  rintro r S1 z1 ⟨rfl, rfl, q, rfl, bq, pq⟩
  exact ⟨rfl, rfl, q, rfl, bq, trivial⟩
set_option maxRecDepth 100000 in
set_option maxHeartbeats 4000000 in
theorem g_M_from {kn : Nat → Nat} {B : Nat} {S : b_M} {z x w : Nat} {k : Int} (h : cS S x) (b_k : -2147483648 ≤ k ∧ k < 2147483648) (g_gL : gL S x) : b_C kn B yX5_from cX5_from 2 (some .int) 0 0 0 0 [.ref (x + 421), .int (iI k)] S z (fun r S' z' => z = z' ∧ S = S' ∧ ∃ q : Int, r = some (.int (iI q)) ∧ (-2147483648 ≤ q ∧ q < 2147483648) ∧ (0 ≤ q ∧ q ≤ 5000)) (fun _ _ _ => False) := by
  obtain ⟨dp, lg, nx, tl, mt, tx, e1, e2, e3, e4, e5, e6, k1, l1, p1, p2, p3, p4, p5, p6, p7⟩ := id g_gL
  refine (t_M_from (w := w) h e5 ⟨by omega, by omega⟩ b_k (by omega)).mono ?_ (fun _ _ _ h => h)
  rintro r S1 z1 ⟨rfl, rfl, q, rfl, bq, pq⟩
  refine ⟨rfl, rfl, q, rfl, bq, ?_⟩
  rcases pq with ⟨q1, q2, q3⟩ | ⟨q1, q2⟩
  · have h9 := p7 k q1 q2
    omega
  · omega
set_option maxRecDepth 100000 in
set_option maxHeartbeats 4000000 in
theorem g_M_to {kn : Nat → Nat} {B : Nat} {S : b_M} {z x w : Nat} {k : Int} (h : cS S x) (b_k : -2147483648 ≤ k ∧ k < 2147483648) (g_gL : gL S x) (g_gA : gA S x) : b_C kn B yX5_to cX5_to 2 (some .int) 0 0 0 0 [.ref (x + 421), .int (iI k)] S z (fun r S' z' => z = z' ∧ S = S' ∧ ∃ q : Int, r = some (.int (iI q)) ∧ (-2147483648 ≤ q ∧ q < 2147483648) ∧ (0 ≤ q ∧ q ≤ 4097) ∧ (∀ d fr : Int, m_I S' 301 (x + 425) = iI d → m_I S' 306 (x + 425) = iI fr → (-2147483648 ≤ fr ∧ fr < 2147483648) → (-2147483648 ≤ d ∧ d < 2147483648) → d = 0 → q ≤ fr)) (fun _ _ _ => False) := by
  obtain ⟨dp, lg, nx, tl, mt, tx, e1, e2, e3, e4, e5, e6, k1, l1, p1, p2, p3, p4, p5, p6, p7⟩ := id g_gL
  refine (t_M_to (w := w) h e5 ⟨by omega, by omega⟩ b_k (by omega)).mono ?_ (fun _ _ _ h => h)
  rintro r S1 z1 ⟨rfl, rfl, q, rfl, bq, pq⟩
  obtain ⟨fr, to, dp9, mt9, nx9, bw, L, a1, a2, a3, a4, a5, a6, a7, a8, a9, b1, b2, b3, b4, b5, b6, b7⟩ := id g_gA
  have hm : mt9 = mt := i_one a4 e5 ⟨by omega, by omega⟩ ⟨by omega, by omega⟩
  refine ⟨rfl, rfl, q, rfl, bq, ?_, fun d fr9 g1 g2 g3 g4 g5 => ?_⟩
  · rcases pq with ⟨q1, q2, q3⟩ | ⟨q1, q2⟩
    · have h9 := p7 k q1 q2
      omega
    · omega
  · have hf : fr = fr9 := i_one a1 g2 ⟨by omega, by omega⟩ g3
    have hd : dp9 = d := i_one a3 g1 ⟨by omega, by omega⟩ g4
    rcases pq with ⟨q1, q2, q3⟩ | ⟨q1, q2⟩
    · have h9 := (b7 (by omega)).2 k q1 (by omega)
      omega
    · omega
set_option maxRecDepth 100000 in
set_option maxHeartbeats 4000000 in
theorem g_M_open {kn : Nat → Nat} {B : Nat} {S : b_M} {z x w : Nat} {v : Int} {f_ : Int} (h : cS S x) (b_v : -9223372036854775808 ≤ v ∧ v < 9223372036854775808) (b_f_ : -2147483648 ≤ f_ ∧ f_ < 2147483648) (e_f : m_I S 308 (x + 425) = iI f_) (g_gL : gL S x) : b_C kn B yX5_open cX5_open 4 none 0 0 0 0 [.ref (x + 421), .long (jJ v), .int (iI f_)] S z (fun r S' z' => z = z' ∧ cFr [403] [] [423, 424] w S S' x ∧ r = none ∧ (True) ∧ (gL S' x)) (fun _ _ _ => False) := by
  obtain ⟨dp, lg, nx, tl, mt, tx, e1, e2, e3, e4, e5, e6, k1, l1, p1, p2, p3, p4, p5, p6, p7⟩ := id g_gL
  have hf : nx = f_ := i_one e3 e_f ⟨by omega, by omega⟩ b_f_
  refine (t_M_open (w := w) h e5 ⟨by omega, by omega⟩ b_v b_f_ (by omega)).mono ?_ (fun _ _ _ h => h)
  rintro r S1 z1 ⟨rfl, f, t1, rfl, e_t1, b_t1, pq, r1, r2⟩
  have hk := f.kl k1 (by decide)
  refine ⟨rfl, f, rfl, trivial, ⟨dp, lg, nx, tl, t1, tx, (f.2.1 301 (by decide) _).trans e1, (f.2.1 303 (by decide) _).trans e2, (f.2.1 308 (by decide) _).trans e3, (f.2.1 310 (by decide) _).trans e4, e_t1, (f.2.2.1 302 (by decide) _).trans e6, hk.1, hk.2.trans l1, p1, p2, by omega, p4, p5, p6.fr (by omega) h f (by decide) (by decide) (by decide), fun m a b => ?_⟩⟩
  by_cases e : m = mt
  · subst e
    rw [r1.2 (by omega), r2.2 (by omega)]
    omega
  · rw [r1.1 m a e, r2.1 m a e]
    exact p7 m a (by omega)
set_option maxRecDepth 100000 in
set_option maxHeartbeats 4000000 in
theorem g_M_close {kn : Nat → Nat} {B : Nat} {S : b_M} {z x w : Nat} {to_ : Int} (h : cS S x) (b_to_ : -2147483648 ≤ to_ ∧ to_ < 2147483648) (e_t : m_I S 306 (x + 425) = iI to_) (g_gL : gL S x) (g_gA : gA S x) : b_C kn B yX5_close cX5_close 2 none 0 0 0 0 [.ref (x + 421), .int (iI to_)] S z (fun r S' z' => z = z' ∧ cFr [] [] [424] w S S' x ∧ r = none ∧ (True) ∧ (gL S' x)) (fun _ _ _ => False) := by
  obtain ⟨dp, lg, nx, tl, mt, tx, e1, e2, e3, e4, e5, e6, k1, l1, p1, p2, p3, p4, p5, p6, p7⟩ := id g_gL
  obtain ⟨fr, to, dp9, mt9, nx9, bw, L, a1, a2, a3, a4, a5, a6, a7, a8, a9, b1, b2, b3, b4, b5, b6, b7⟩ := id g_gA
  have hn : nx9 = nx := i_one a5 e3 ⟨by omega, by omega⟩ ⟨by omega, by omega⟩
  have hf : fr = to_ := i_one a1 e_t ⟨by omega, by omega⟩ b_to_
  refine (t_M_close (w := w) h e5 ⟨by omega, by omega⟩ b_to_ (by omega)).mono ?_ (fun _ _ _ h => h)
  rintro r S1 z1 ⟨rfl, f, rfl, pq, r2⟩
  have hk := f.kl k1 (by decide)
  refine ⟨rfl, f, rfl, trivial, ⟨dp, lg, nx, tl, mt, tx, (f.2.1 301 (by decide) _).trans e1, (f.2.1 303 (by decide) _).trans e2, (f.2.1 308 (by decide) _).trans e3, (f.2.1 310 (by decide) _).trans e4, (f.2.1 403 (by decide) _).trans e5, (f.2.2.1 302 (by decide) _).trans e6, hk.1, hk.2.trans l1, p1, p2, by omega, p4, p5, p6.fr (by omega) h f (by decide) (by decide) (by decide), fun m a b => ?_⟩⟩
  have r1 := f.row (cs_k_423 h) (by decide) (by decide) m
  rw [r1]
  have h9 := p7 m a b
  by_cases e : m = mt - 1
  · subst e
    rw [r2.2 (by omega)]
    omega
  · rw [r2.1 m a e]
    exact h9
