theorem sW_call : sW 3 = 8 := by decide +kernel
/-- what a call that is to come next rests on -/
def gC (S : b_M) (x : Nat) (lo hi : Int) (oi : Nat) : Prop := oi = 3 → gA S x ∧ gO S x lo hi
theorem gC.fr {Fs Ps As : List Nat} {w : Nat} {S S1 : b_M} {x : Nat} {lo hi : Int} {oi : Nat} (h : gC S x lo hi oi) (g : cS S x) (f : cFr Fs Ps As w S S1 x) (hd : ((306 ∉ Fs ∧ 307 ∉ Fs ∧ 301 ∉ Fs ∧ 403 ∉ Fs ∧ 308 ∉ Fs) ∧ 305 ∉ Ps ∧ 423 ∉ As ∧ 424 ∉ As) ∧ ∀ q ∈ cRs, q ∉ As) : gC S1 x lo hi oi := fun e => ⟨(h e).1.fr g f hd.1, (h e).2.fr g f ⟨hd.1.1.2.2.1, hd.2⟩⟩
def gD (S : b_M) (x : Nat) (lo hi : Int) (oi : Nat) : Prop := oi = 3 → gO S x lo hi
theorem gD.fr {Fs Ps As : List Nat} {w : Nat} {S S1 : b_M} {x : Nat} {lo hi : Int} {oi : Nat} (h : gD S x lo hi oi) (g : cS S x) (f : cFr Fs Ps As w S S1 x) (hd : 301 ∉ Fs ∧ ∀ q ∈ cRs, q ∉ As) : gD S1 x lo hi oi := fun e => (h e).fr g f hd
/-- the scanner, somewhere -/
def sE (S : b_M) (x : Nat) : Prop := ∃ lo hi, sI S x lo hi
theorem sE.fr {Fs Ps As : List Nat} {w : Nat} {S S1 : b_M} {x : Nat} (h : sE S x) (g : cS S x) (f : cFr Fs Ps As w S S1 x) (hd : (701 ∉ Fs ∧ 702 ∉ Fs ∧ 703 ∉ Fs ∧ 704 ∉ Fs) ∧ 700 ∉ Ps) : sE S1 x := by
  obtain ⟨lo, hi, h⟩ := h
  exact ⟨lo, hi, h.fr g f hd⟩
set_option maxRecDepth 100000 in
set_option maxHeartbeats 4000000 in
theorem t_P_isFull {kn : Nat → Nat} {B : Nat} {S : b_M} {z x w : Nat} {kp : Int} (h : cS S x) (e_kp : m_I S 604 (x + 5) = iI kp) (b_kp : -2147483648 ≤ kp ∧ kp < 2147483648) : b_C kn B yX8_isFull cX8_isFull 1 (some .boolean) 0 0 0 0 [.ref (x + 5)] S z (fun r S' z' => z = z' ∧ S = S' ∧ ∃ q : Int, r = some (.int (iI q)) ∧ (q = 0 ∨ q = 1) ∧ ((q = 0 ∧ kp < 400) ∨ (q = 1 ∧ 400 ≤ kp))) (fun _ _ _ => False) := by
  refine b_enter (by decide) (Nat.le_of_ble_eq_true rfl) ?_
  intro X hX hE hnL hkn hB hI_
  subst hkn; subst hB
  clear hI_
  change b_V X S z 0 0 0 [(0, .ref (x + 5))] []
  refine v_aload_n hX dX8_isFull_0 (i := 0) rfl rfl ?_
  refine v_get hX (ci := 6) (k := 4) (cs_k_5 h) bc_6 (by decide) (by decide) in_6 w_1_200 dX8_isFull_1 (mvF (f := 604) (v := iI kp) rfl rfl (by simp (disch := omega) only [y_I_s_I, x_I_s_I, z_I_s_J, z_I_s_A, z_I_s_B, z_I_s_P, e_kp])) ?_
  refine v_sipush hX (v := iI 400) dX8_isFull_4 (by decide) ?_
  refine u_icmp_lt hX (tgt := 14) dX8_isFull_7 (by decide) ⟨by omega, by omega⟩ ⟨by omega, by omega⟩ (fun h1_ => ?_) (fun h1_ => ?_)
  ·
    refine v_iconst hX (v := iI 0) dX8_isFull_14 rfl ?_
    exact v_zreturn hX (nar_b (by omega)) hE dX8_isFull_15 (by omega) (by omega) ⟨rfl, rfl, 0, rfl, (by omega), (by omega)⟩
  ·
    refine v_iconst hX (v := iI 1) dX8_isFull_10 rfl ?_
    refine v_goto hX (tgt := 15) dX8_isFull_11 (by decide) ?_
    exact v_zreturn hX (nar_b (by omega)) hE dX8_isFull_15 (by omega) (by omega) ⟨rfl, rfl, 1, rfl, (by omega), (by omega)⟩
set_option maxRecDepth 100000 in
set_option maxHeartbeats 4000000 in
theorem g_P_draft {kn : Nat → Nat} {B : Nat} {S : b_M} {z x w : Nat} (h : cS S x) (g_gP : gP S x) : b_C kn B yX8_draft cX8_draft 1 (some (.object "AssembleLines$Statement")) 1 23 0 0 [.ref (x + 5)] S z (fun r S' z' => z = z' ∧ S = S' ∧ ∃ q : Nat, r = some (.ref q) ∧ isS x q ∧ (True)) (fun _ _ _ => False) := by
  refine b_enter (by decide) (Nat.le_of_ble_eq_true rfl) ?_
  intro X hX hE hnL hkn hB hI_
  subst hkn; subst hB
  clear hI_
  change b_V X S z 0 0 0 [(0, .ref (x + 5))] []
  obtain ⟨kp, e_kp, b_kp⟩ := id g_gP
  refine v_aload_n hX dX8_draft_0 (i := 0) rfl rfl ?_
  refine v_get hX (ci := 6) (k := 3) (cs_k_5 h) bc_6 (by decide) (by decide) in_6 w_1_198 dX8_draft_1 (mvP (f := 603) (q := (x + 16)) rfl rfl (cs_p_603 h)) ?_
  refine v_aload_n hX dX8_draft_4 (i := 0) rfl rfl ?_
  refine v_get hX (ci := 6) (k := 4) (cs_k_5 h) bc_6 (by decide) (by decide) in_6 w_1_200 dX8_draft_5 (mvF (f := 604) (v := iI kp) rfl rfl (by simp (disch := omega) only [y_I_s_I, x_I_s_I, z_I_s_J, z_I_s_A, z_I_s_B, z_I_s_P, e_kp])) ?_
  refine v_sipush hX (v := iI 400) dX8_draft_8 (by decide) ?_
  refine u_mmin hX w_2_121 w_2_122 w_1_15 w_2_123 (by decide) (Nat.le_of_ble_eq_true rfl) (by omega) (by omega) ⟨by omega, by omega⟩ ⟨by omega, by omega⟩ dX8_draft_11 (fun v1_ q_v1_ b_v1_ => ?_)
  refine u_aaldS hX (t := v1_) h ⟨by omega, by omega⟩ dX8_draft_14 ?_
  exact v_areturn hX (Or.inl ⟨_, rfl⟩) hE dX8_draft_15 (by omega) (by omega) ⟨rfl, rfl, (x + 17 + v1_.toNat), rfl, ⟨_, by omega, rfl⟩, trivial⟩
set_option maxRecDepth 100000 in
set_option maxHeartbeats 4000000 in
theorem g_P_keepDraft {kn : Nat → Nat} {B : Nat} {S : b_M} {z x w : Nat} (h : cS S x) (g_gP : gP S x) : b_C kn B yX8_keepDraft cX8_keepDraft 1 none 1 20 0 0 [.ref (x + 5)] S z (fun r S' z' => z = z' ∧ cFr [604] [] [] w S S' x ∧ r = none ∧ (True) ∧ (gP S' x)) (fun _ _ _ => False) := by
  refine b_enter (by decide) (Nat.le_of_ble_eq_true rfl) ?_
  intro X hX hE hnL hkn hB hI_
  subst hkn; subst hB
  clear hI_
  change b_V X S z 0 0 0 [(0, .ref (x + 5))] []
  obtain ⟨kp, e_kp, b_kp⟩ := id g_gP
  refine v_aload_n hX dX8_keepDraft_0 (i := 0) rfl rfl ?_
  refine v_callV hX (n := 0) (t_P_isFull (S := S) (x := x) (w := w) (kp := kp) h (by simp (disch := omega) only [y_I_s_I, x_I_s_I, z_I_s_J, z_I_s_A, z_I_s_B, z_I_s_P, e_kp]) ⟨by omega, by omega⟩) (cs_k_5 h) bc_6 (by decide) w_5_26 w_4_199 w_4_200 w_1_3 w_4_201 (by decide +kernel) rfl ⟨by decide, by decide⟩ ⟨by omega, by omega⟩ (Nat.le_of_ble_eq_true rfl) rfl dX8_keepDraft_1 (fun _ _ _ q => q) ?_
  rintro r1_ S1_ z1_ ⟨rfl, rfl, v2_, rfl, b_v2_, q1_⟩
  refine u_if_ne hX (tgt := 17) dX8_keepDraft_4 (by decide) ⟨by omega, by omega⟩ (fun h3_ => ?_) (fun h3_ => ?_)
  ·
    exact v_return hX hE dX8_keepDraft_17 (by omega) (by omega) ⟨rfl, (cFr.rf _ _), rfl, trivial, g_gP⟩
  ·
    refine v_aload_n hX dX8_keepDraft_7 (i := 0) rfl rfl ?_
    refine v_dup hX dX8_keepDraft_8 rfl ?_
    refine v_get hX (ci := 6) (k := 4) (cs_k_5 h) bc_6 (by decide) (by decide) in_6 w_1_200 dX8_keepDraft_9 (mvF (f := 604) (v := iI kp) rfl rfl (by simp (disch := omega) only [y_I_s_I, x_I_s_I, z_I_s_J, z_I_s_A, z_I_s_B, z_I_s_P, e_kp])) ?_
    refine v_iconst hX (v := iI 1) dX8_keepDraft_12 rfl ?_
    refine u_iadd hX dX8_keepDraft_13 ?_
    refine v_putI hX (ci := 6) (k := 4) (f := 604) (cs_k_5 h) bc_6 (by decide) (by decide) in_6 tyX8_ok nmX8 w_1_200 (Or.inl rfl) rfl rfl dX8_keepDraft_14 rfl rfl ?_
    exact v_return hX hE dX8_keepDraft_17 (by omega) (by omega) ⟨rfl, ((cFr.rf _ _).sI (by decide) ⟨by omega, by omega⟩), rfl, trivial, ⟨kp + 1, (by simp (disch := omega) only [y_I_s_I, x_I_s_I, z_I_s_J, z_I_s_A, z_I_s_B, z_I_s_P, e_kp]), by omega, by omega⟩⟩
set_option maxRecDepth 100000 in
set_option maxHeartbeats 4000000 in
theorem g_T_readRegister {kn : Nat → Nat} {B : Nat} {S : b_M} {z x w : Nat} {dr : Nat} {lo : Int} {hi : Int} (h : cS S x) (e_dr : m_P S 907 (x + 418) = some dr) (hs_dr : isS x dr) (g_sI : sI S x lo hi) : b_C kn B yX11_readRegister cX11_readRegister 1 (some .boolean) 2 44 0 0 [.ref (x + 418)] S z (fun r S' z' => z = z' ∧ cFr [701, 703, 704, 803] [] [] w S S' x ∧ ∃ q : Int, r = some (.int (iI q)) ∧ (q = 0 ∨ q = 1) ∧ (True) ∧ (sI S' x lo hi)) (fun _ _ _ => False) := by
  refine b_enter (by decide) (Nat.le_of_ble_eq_true rfl) ?_
  intro X hX hE hnL hkn hB hI_
  subst hkn; subst hB
  clear hI_
  change b_V X S z 0 0 0 [(0, .ref (x + 418))] []
  refine v_aload_n hX dX11_readRegister_0 (i := 0) rfl rfl ?_
  refine v_get hX (ci := 9) (k := 4) (cs_k_418 h) bc_9 (by decide) (by decide) in_9 w_2_128 dX11_readRegister_1 (mvP (f := 904) (q := (x + 419)) rfl rfl (cs_p_904 h)) ?_
  refine v_callV hX (n := 0) (g_passBlanks (S := S) (x := x) (w := w) h g_sI) (cs_k_419 h) bc_7 (by decide) w_4_57 w_3_163 w_3_164 w_1_11 w_3_165 (by decide +kernel) rfl ⟨by decide, by decide⟩ ⟨by omega, by omega⟩ (Nat.le_of_ble_eq_true rfl) rfl dX11_readRegister_4 (fun _ _ _ q => q) ?_
  rintro r1_ S1_ z1_ ⟨rfl, f1_, rfl, q1_, g1_sI⟩
  have y2_ : m_P S1_ 907 (x + 418) = some dr := (f1_.2.2.1 907 (by decide) _).trans (by simp (disch := omega) only [y_P_s_P, x_P_s_P, z_P_s_I, z_P_s_J, z_P_s_A, z_P_s_B, e_dr])
  have h1_ : cS S1_ x := f1_.keep (by decide) h
  refine v_aload_n hX dX11_readRegister_7 (i := 0) rfl rfl ?_
  refine v_get hX (ci := 9) (k := 7) (cs_k_418 h1_) bc_9 (by decide) (by decide) in_9 w_2_133 dX11_readRegister_8 (mvP (f := 907) (q := dr) rfl rfl (by simp (disch := omega) only [y_P_s_P, x_P_s_P, z_P_s_I, z_P_s_J, z_P_s_A, z_P_s_B, y2_])) ?_
  refine v_aload_n hX dX11_readRegister_11 (i := 0) rfl rfl ?_
  refine v_get hX (ci := 9) (k := 4) (cs_k_418 h1_) bc_9 (by decide) (by decide) in_9 w_2_128 dX11_readRegister_12 (mvP (f := 904) (q := (x + 419)) rfl rfl (cs_p_904 h1_)) ?_
  refine v_callV hX (n := 0) (g_readName (S := S1_) (x := x) (w := w) h1_ g1_sI) (cs_k_419 h1_) bc_7 (by decide) w_4_58 w_3_167 w_3_168 w_1_11 w_3_169 (by decide +kernel) rfl ⟨by decide, by decide⟩ ⟨by omega, by omega⟩ (Nat.le_of_ble_eq_true rfl) rfl dX11_readRegister_15 (fun _ _ _ q => q) ?_
  rintro r3_ S3_ z3_ ⟨rfl, f3_, v4_, rfl, b_v4_, q3_, g3_sI⟩
  have y5_ : m_P S3_ 907 (x + 418) = some dr := (f3_.2.2.1 907 (by decide) _).trans (by simp (disch := omega) only [y_P_s_P, x_P_s_P, z_P_s_I, z_P_s_J, z_P_s_A, z_P_s_B, y2_])
  have h3_ : cS S3_ x := f3_.keep (by decide) h1_
  refine v_callS hX (n := 1) (t_registerOf (S := S3_) (x := x) (w := w) (v := v4_) h3_ ⟨by omega, by omega⟩) w_4_25 w_4_26 w_1_11 w_4_27 (by decide +kernel) rfl ⟨by decide, by decide⟩ ⟨by omega, by omega⟩ (Nat.le_of_ble_eq_true rfl) rfl dX11_readRegister_18 (fun _ _ _ q => q) ?_
  rintro r6_ S6_ z6_ ⟨rfl, rfl, v7_, rfl, b_v7_, q6_⟩
  refine v_putI hX (ci := 8) (k := 3) (f := 803) (isS_k h3_ hs_dr) bc_8 (by decide) (by decide) in_8 tyX10_ok nmX10 w_1_150 (Or.inl rfl) rfl rfl dX11_readRegister_21 rfl rfl ?_
  refine v_aload_n hX dX11_readRegister_24 (i := 0) rfl rfl ?_
  refine v_get hX (ci := 9) (k := 7) (cs_k_418 (cS.sI h3_)) bc_9 (by decide) (by decide) in_9 w_2_133 dX11_readRegister_25 (mvP (f := 907) (q := dr) rfl rfl (by simp (disch := omega) only [y_P_s_P, x_P_s_P, z_P_s_I, z_P_s_J, z_P_s_A, z_P_s_B, y5_])) ?_
  refine v_get hX (ci := 8) (k := 3) (isS_k (cS.sI h3_) hs_dr) bc_8 (by decide) (by decide) in_8 w_1_150 dX11_readRegister_28 (mvF (f := 803) (v := iI v7_) rfl rfl (by simp (disch := omega) only [y_I_s_I, x_I_s_I, z_I_s_J, z_I_s_A, z_I_s_B, z_I_s_P])) ?_
  refine v_iconst hX (v := iI (-1)) dX11_readRegister_31 rfl ?_
  refine u_icmp_eq hX (tgt := 39) dX11_readRegister_32 (by decide) ⟨by omega, by omega⟩ ⟨by omega, by omega⟩ (fun h8_ => ?_) (fun h8_ => ?_)
  ·
    refine v_iconst hX (v := iI 0) dX11_readRegister_39 rfl ?_
    exact v_zreturn hX (nar_b (by omega)) hE dX11_readRegister_40 (by omega) (by omega) ⟨rfl, ((((cFr.rf _ _).tr (f1_.mono (by decide) (by decide) (by decide))).tr (f3_.mono (by decide) (by decide) (by decide))).sI (by decide) ⟨(isX_in hs_dr).1, (isX_in hs_dr).2⟩), 0, rfl, (by omega), trivial, (sI.fr g3_sI h3_ (show cFr [803] [] [] w S3_ (s_I S3_ 803 dr (iI v7_)) x from ((cFr.rf _ _).sI (by decide) ⟨(isX_in hs_dr).1, (isX_in hs_dr).2⟩)) (by decide))⟩
  ·
    refine v_iconst hX (v := iI 1) dX11_readRegister_35 rfl ?_
    refine v_goto hX (tgt := 40) dX11_readRegister_36 (by decide) ?_
    exact v_zreturn hX (nar_b (by omega)) hE dX11_readRegister_40 (by omega) (by omega) ⟨rfl, ((((cFr.rf _ _).tr (f1_.mono (by decide) (by decide) (by decide))).tr (f3_.mono (by decide) (by decide) (by decide))).sI (by decide) ⟨(isX_in hs_dr).1, (isX_in hs_dr).2⟩), 1, rfl, (by omega), trivial, (sI.fr g3_sI h3_ (show cFr [803] [] [] w S3_ (s_I S3_ 803 dr (iI v7_)) x from ((cFr.rf _ _).sI (by decide) ⟨(isX_in hs_dr).1, (isX_in hs_dr).2⟩)) (by decide))⟩
set_option maxRecDepth 100000 in
set_option maxHeartbeats 4000000 in
theorem g_T_readSecond {kn : Nat → Nat} {B : Nat} {S : b_M} {z x w : Nat} {dr : Nat} {lo : Int} {hi : Int} (h : cS S x) (e_dr : m_P S 907 (x + 418) = some dr) (hs_dr : isS x dr) (g_sI : sI S x lo hi) : b_C kn B yX11_readSecond cX11_readSecond 1 (some .boolean) 2 44 0 0 [.ref (x + 418)] S z (fun r S' z' => z = z' ∧ cFr [701, 703, 704, 804] [] [] w S S' x ∧ ∃ q : Int, r = some (.int (iI q)) ∧ (q = 0 ∨ q = 1) ∧ (True) ∧ (sI S' x lo hi)) (fun _ _ _ => False) := by
  refine b_enter (by decide) (Nat.le_of_ble_eq_true rfl) ?_
  intro X hX hE hnL hkn hB hI_
  subst hkn; subst hB
  clear hI_
  change b_V X S z 0 0 0 [(0, .ref (x + 418))] []
  refine v_aload_n hX dX11_readSecond_0 (i := 0) rfl rfl ?_
  refine v_get hX (ci := 9) (k := 4) (cs_k_418 h) bc_9 (by decide) (by decide) in_9 w_2_128 dX11_readSecond_1 (mvP (f := 904) (q := (x + 419)) rfl rfl (cs_p_904 h)) ?_
  refine v_callV hX (n := 0) (g_passBlanks (S := S) (x := x) (w := w) h g_sI) (cs_k_419 h) bc_7 (by decide) w_4_57 w_3_163 w_3_164 w_1_11 w_3_165 (by decide +kernel) rfl ⟨by decide, by decide⟩ ⟨by omega, by omega⟩ (Nat.le_of_ble_eq_true rfl) rfl dX11_readSecond_4 (fun _ _ _ q => q) ?_
  rintro r1_ S1_ z1_ ⟨rfl, f1_, rfl, q1_, g1_sI⟩
  have y2_ : m_P S1_ 907 (x + 418) = some dr := (f1_.2.2.1 907 (by decide) _).trans (by simp (disch := omega) only [y_P_s_P, x_P_s_P, z_P_s_I, z_P_s_J, z_P_s_A, z_P_s_B, e_dr])
  have h1_ : cS S1_ x := f1_.keep (by decide) h
  refine v_aload_n hX dX11_readSecond_7 (i := 0) rfl rfl ?_
  refine v_get hX (ci := 9) (k := 7) (cs_k_418 h1_) bc_9 (by decide) (by decide) in_9 w_2_133 dX11_readSecond_8 (mvP (f := 907) (q := dr) rfl rfl (by simp (disch := omega) only [y_P_s_P, x_P_s_P, z_P_s_I, z_P_s_J, z_P_s_A, z_P_s_B, y2_])) ?_
  refine v_aload_n hX dX11_readSecond_11 (i := 0) rfl rfl ?_
  refine v_get hX (ci := 9) (k := 4) (cs_k_418 h1_) bc_9 (by decide) (by decide) in_9 w_2_128 dX11_readSecond_12 (mvP (f := 904) (q := (x + 419)) rfl rfl (cs_p_904 h1_)) ?_
  refine v_callV hX (n := 0) (g_readName (S := S1_) (x := x) (w := w) h1_ g1_sI) (cs_k_419 h1_) bc_7 (by decide) w_4_58 w_3_167 w_3_168 w_1_11 w_3_169 (by decide +kernel) rfl ⟨by decide, by decide⟩ ⟨by omega, by omega⟩ (Nat.le_of_ble_eq_true rfl) rfl dX11_readSecond_15 (fun _ _ _ q => q) ?_
  rintro r3_ S3_ z3_ ⟨rfl, f3_, v4_, rfl, b_v4_, q3_, g3_sI⟩
  have y5_ : m_P S3_ 907 (x + 418) = some dr := (f3_.2.2.1 907 (by decide) _).trans (by simp (disch := omega) only [y_P_s_P, x_P_s_P, z_P_s_I, z_P_s_J, z_P_s_A, z_P_s_B, y2_])
  have h3_ : cS S3_ x := f3_.keep (by decide) h1_
  refine v_callS hX (n := 1) (t_registerOf (S := S3_) (x := x) (w := w) (v := v4_) h3_ ⟨by omega, by omega⟩) w_4_25 w_4_26 w_1_11 w_4_27 (by decide +kernel) rfl ⟨by decide, by decide⟩ ⟨by omega, by omega⟩ (Nat.le_of_ble_eq_true rfl) rfl dX11_readSecond_18 (fun _ _ _ q => q) ?_
  rintro r6_ S6_ z6_ ⟨rfl, rfl, v7_, rfl, b_v7_, q6_⟩
  refine v_putI hX (ci := 8) (k := 4) (f := 804) (isS_k h3_ hs_dr) bc_8 (by decide) (by decide) in_8 tyX10_ok nmX10 w_1_153 (Or.inl rfl) rfl rfl dX11_readSecond_21 rfl rfl ?_
  refine v_aload_n hX dX11_readSecond_24 (i := 0) rfl rfl ?_
  refine v_get hX (ci := 9) (k := 7) (cs_k_418 (cS.sI h3_)) bc_9 (by decide) (by decide) in_9 w_2_133 dX11_readSecond_25 (mvP (f := 907) (q := dr) rfl rfl (by simp (disch := omega) only [y_P_s_P, x_P_s_P, z_P_s_I, z_P_s_J, z_P_s_A, z_P_s_B, y5_])) ?_
  refine v_get hX (ci := 8) (k := 4) (isS_k (cS.sI h3_) hs_dr) bc_8 (by decide) (by decide) in_8 w_1_153 dX11_readSecond_28 (mvF (f := 804) (v := iI v7_) rfl rfl (by simp (disch := omega) only [y_I_s_I, x_I_s_I, z_I_s_J, z_I_s_A, z_I_s_B, z_I_s_P])) ?_
  refine v_iconst hX (v := iI (-1)) dX11_readSecond_31 rfl ?_
  refine u_icmp_eq hX (tgt := 39) dX11_readSecond_32 (by decide) ⟨by omega, by omega⟩ ⟨by omega, by omega⟩ (fun h8_ => ?_) (fun h8_ => ?_)
  ·
    refine v_iconst hX (v := iI 0) dX11_readSecond_39 rfl ?_
    exact v_zreturn hX (nar_b (by omega)) hE dX11_readSecond_40 (by omega) (by omega) ⟨rfl, ((((cFr.rf _ _).tr (f1_.mono (by decide) (by decide) (by decide))).tr (f3_.mono (by decide) (by decide) (by decide))).sI (by decide) ⟨(isX_in hs_dr).1, (isX_in hs_dr).2⟩), 0, rfl, (by omega), trivial, (sI.fr g3_sI h3_ (show cFr [804] [] [] w S3_ (s_I S3_ 804 dr (iI v7_)) x from ((cFr.rf _ _).sI (by decide) ⟨(isX_in hs_dr).1, (isX_in hs_dr).2⟩)) (by decide))⟩
  ·
    refine v_iconst hX (v := iI 1) dX11_readSecond_35 rfl ?_
    refine v_goto hX (tgt := 40) dX11_readSecond_36 (by decide) ?_
    exact v_zreturn hX (nar_b (by omega)) hE dX11_readSecond_40 (by omega) (by omega) ⟨rfl, ((((cFr.rf _ _).tr (f1_.mono (by decide) (by decide) (by decide))).tr (f3_.mono (by decide) (by decide) (by decide))).sI (by decide) ⟨(isX_in hs_dr).1, (isX_in hs_dr).2⟩), 1, rfl, (by omega), trivial, (sI.fr g3_sI h3_ (show cFr [804] [] [] w S3_ (s_I S3_ 804 dr (iI v7_)) x from ((cFr.rf _ _).sI (by decide) ⟨(isX_in hs_dr).1, (isX_in hs_dr).2⟩)) (by decide))⟩
set_option maxRecDepth 100000 in
set_option maxHeartbeats 4000000 in
theorem g_T_readToldName {kn : Nat → Nat} {B : Nat} {S : b_M} {z x w : Nat} {lo : Int} {hi : Int} (h : cS S x) (g_sI : sI S x lo hi) : b_C kn B yX11_readToldName cX11_readToldName 1 (some .boolean) 2 44 0 0 [.ref (x + 418)] S z (fun r S' z' => z = z' ∧ cFr [701, 703, 704] [] [] w S S' x ∧ ∃ q : Int, r = some (.int (iI q)) ∧ (q = 0 ∨ q = 1) ∧ (True) ∧ (sI S' x lo hi)) (fun _ _ _ => False) := by
  refine b_enter (by decide) (Nat.le_of_ble_eq_true rfl) ?_
  intro X hX hE hnL hkn hB hI_
  subst hkn; subst hB
  clear hI_
  change b_V X S z 0 0 0 [(0, .ref (x + 418))] []
  refine v_aload_n hX dX11_readToldName_0 (i := 0) rfl rfl ?_
  refine v_get hX (ci := 9) (k := 4) (cs_k_418 h) bc_9 (by decide) (by decide) in_9 w_2_128 dX11_readToldName_1 (mvP (f := 904) (q := (x + 419)) rfl rfl (cs_p_904 h)) ?_
  refine v_callV hX (n := 0) (g_passBlanks (S := S) (x := x) (w := w) h g_sI) (cs_k_419 h) bc_7 (by decide) w_4_57 w_3_163 w_3_164 w_1_11 w_3_165 (by decide +kernel) rfl ⟨by decide, by decide⟩ ⟨by omega, by omega⟩ (Nat.le_of_ble_eq_true rfl) rfl dX11_readToldName_4 (fun _ _ _ q => q) ?_
  rintro r1_ S1_ z1_ ⟨rfl, f1_, rfl, q1_, g1_sI⟩
  have h1_ : cS S1_ x := f1_.keep (by decide) h
  refine v_aload_n hX dX11_readToldName_7 (i := 0) rfl rfl ?_
  refine v_aload_n hX dX11_readToldName_8 (i := 0) rfl rfl ?_
  refine v_get hX (ci := 9) (k := 4) (cs_k_418 h1_) bc_9 (by decide) (by decide) in_9 w_2_128 dX11_readToldName_9 (mvP (f := 904) (q := (x + 419)) rfl rfl (cs_p_904 h1_)) ?_
  refine v_callV hX (n := 0) (g_readName (S := S1_) (x := x) (w := w) h1_ g1_sI) (cs_k_419 h1_) bc_7 (by decide) w_4_58 w_3_167 w_3_168 w_1_11 w_3_169 (by decide +kernel) rfl ⟨by decide, by decide⟩ ⟨by omega, by omega⟩ (Nat.le_of_ble_eq_true rfl) rfl dX11_readToldName_12 (fun _ _ _ q => q) ?_
  rintro r2_ S2_ z2_ ⟨rfl, f2_, v3_, rfl, b_v3_, q2_, g2_sI⟩
  have h2_ : cS S2_ x := f2_.keep (by decide) h1_
  refine v_putJ hX (ci := 9) (k := 10) (f := 910) (cs_k_418 h2_) bc_9 (by decide) (by decide) in_9 tyX11_ok nmX11 w_2_136 (Or.inl rfl) rfl rfl dX11_readToldName_15 rfl rfl ?_
  refine v_aload_n hX dX11_readToldName_18 (i := 0) rfl rfl ?_
  obtain ⟨v4_, e_v4_, b_v4_⟩ := j_ex (m_J (s_J S2_ 910 (x + 418) (jJ v3_)) 910 (x + 418))
  refine v_get hX (ci := 9) (k := 10) (cs_k_418 (cS.sJ h2_)) bc_9 (by decide) (by decide) in_9 w_2_136 dX11_readToldName_19 (mvG (f := 910) (v := jJ v4_) rfl rfl e_v4_) ?_
  refine v_lconst hX (v := jJ 0) dX11_readToldName_22 rfl ?_
  refine u_lcmp hX dX11_readToldName_23 ⟨by omega, by omega⟩ ⟨by omega, by omega⟩ (fun v5_ b_v5_ c_v5_ => ?_)
  refine u_if_eq hX (tgt := 31) dX11_readToldName_24 (by decide) ⟨by omega, by omega⟩ (fun h6_ => ?_) (fun h6_ => ?_)
  ·
    refine v_iconst hX (v := iI 0) dX11_readToldName_31 rfl ?_
    exact v_zreturn hX (nar_b (by omega)) hE dX11_readToldName_32 (by omega) (by omega) ⟨rfl, ((((cFr.rf _ _).tr (f1_.mono (by decide) (by decide) (by decide))).tr (f2_.mono (by decide) (by decide) (by decide))).sJ ⟨by omega, by omega⟩), 0, rfl, (by omega), trivial, (sI.fr g2_sI h2_ (show cFr [] [] [] w S2_ (s_J S2_ 910 (x + 418) (jJ v3_)) x from ((cFr.rf _ _).sJ ⟨by omega, by omega⟩)) (by decide))⟩
  ·
    refine v_iconst hX (v := iI 1) dX11_readToldName_27 rfl ?_
    refine v_goto hX (tgt := 32) dX11_readToldName_28 (by decide) ?_
    exact v_zreturn hX (nar_b (by omega)) hE dX11_readToldName_32 (by omega) (by omega) ⟨rfl, ((((cFr.rf _ _).tr (f1_.mono (by decide) (by decide) (by decide))).tr (f2_.mono (by decide) (by decide) (by decide))).sJ ⟨by omega, by omega⟩), 1, rfl, (by omega), trivial, (sI.fr g2_sI h2_ (show cFr [] [] [] w S2_ (s_J S2_ 910 (x + 418) (jJ v3_)) x from ((cFr.rf _ _).sJ ⟨by omega, by omega⟩)) (by decide))⟩
set_option maxRecDepth 100000 in
set_option maxHeartbeats 4000000 in
theorem g_T_readHead {kn : Nat → Nat} {B : Nat} {S : b_M} {z x w : Nat} {oi : Nat} {lo : Int} {hi : Int} (h : cS S x) (e_oi : m_P S 908 (x + 418) = some (kn oi)) (o_oi : oi < 17) (g_sI : sI S x lo hi) (g_gL : gL S x) : b_C kn B yX11_readHead cX11_readHead 1 (some .boolean) 6 128 0 0 [.ref (x + 418)] S z (fun r S' z' => z = z' ∧ cFr [701, 703, 704, 911] [908] [] w S S' x ∧ ∃ q : Int, ∃ o1 : Nat, r = some (.int (iI q)) ∧ (q = 0 ∨ q = 1) ∧ m_P S' 908 (x + 418) = some (kn o1) ∧ o1 < 17 ∧ (True) ∧ (sI S' x lo hi)) (fun _ _ _ => False) := by
  refine b_enter (by decide) (Nat.le_of_ble_eq_true rfl) ?_
  intro X hX hE hnL hkn hB hI_
  subst hkn; subst hB
  clear hI_
  change b_V X S z 0 0 0 [(0, .ref (x + 418))] []
  refine v_aload_n hX dX11_readHead_0 (i := 0) rfl rfl ?_
  refine v_aload_n hX dX11_readHead_1 (i := 0) rfl rfl ?_
  refine v_get hX (ci := 9) (k := 4) (cs_k_418 h) bc_9 (by decide) (by decide) in_9 w_2_128 dX11_readHead_2 (mvP (f := 904) (q := (x + 419)) rfl rfl (cs_p_904 h)) ?_
  refine v_callV hX (n := 0) (g_readLabel (S := S) (x := x) (w := w) h g_sI) (cs_k_419 h) bc_7 (by decide) w_3_158 w_3_159 w_3_160 w_1_11 w_3_161 (by decide +kernel) rfl ⟨by decide, by decide⟩ ⟨by omega, by omega⟩ (Nat.le_of_ble_eq_true rfl) rfl dX11_readHead_5 (fun _ _ _ q => q) ?_
  rintro r1_ S1_ z1_ ⟨rfl, f1_, v2_, rfl, b_v2_, q1_, g1_sI⟩
  have y3_ : m_P S1_ 908 (x + 418) = some (b_kn X oi) := (f1_.2.2.1 908 (by decide) _).trans (by simp (disch := omega) only [y_P_s_P, x_P_s_P, z_P_s_I, z_P_s_J, z_P_s_A, z_P_s_B, e_oi])
  have h1_ : cS S1_ x := f1_.keep (by decide) h
  have g1_gL : gL S1_ x := gL.fr g_gL h f1_ (by decide)
  refine v_putJ hX (ci := 9) (k := 9) (f := 909) (cs_k_418 h1_) bc_9 (by decide) (by decide) in_9 tyX11_ok nmX11 w_2_135 (Or.inl rfl) rfl rfl dX11_readHead_8 rfl rfl ?_
  refine v_aload_n hX dX11_readHead_11 (i := 0) rfl rfl ?_
  obtain ⟨v4_, e_v4_, b_v4_⟩ := j_ex (m_J (s_J S1_ 909 (x + 418) (jJ v2_)) 909 (x + 418))
  refine v_get hX (ci := 9) (k := 9) (cs_k_418 (cS.sJ h1_)) bc_9 (by decide) (by decide) in_9 w_2_135 dX11_readHead_12 (mvG (f := 909) (v := jJ v4_) rfl rfl e_v4_) ?_
  refine v_ldc2 hX (v := jJ (-1)) dX11_readHead_15 (show Cond.constantLong _ _ (jJ (-1)) ∈ b_Ws from w_3_175) ?_
  refine u_lcmp hX dX11_readHead_18 ⟨by omega, by omega⟩ ⟨by omega, by omega⟩ (fun v5_ b_v5_ c_v5_ => ?_)
  refine u_if_eq hX (tgt := 33) dX11_readHead_19 (by decide) ⟨by omega, by omega⟩ (fun h6_ => ?_) (fun h6_ => ?_)
  ·
    refine v_iconst hX (v := iI 0) dX11_readHead_33 rfl ?_
    exact v_zreturn hX (nar_b (by omega)) hE dX11_readHead_34 (by omega) (by omega) ⟨rfl, (((cFr.rf _ _).tr (f1_.mono (by decide) (by decide) (by decide))).sJ ⟨by omega, by omega⟩), 0, oi, rfl, (by omega), (by simp (disch := omega) only [y_P_s_P, x_P_s_P, z_P_s_I, z_P_s_J, z_P_s_A, z_P_s_B, y3_]), (by omega), trivial, (sI.fr g1_sI h1_ (show cFr [] [] [] w S1_ (s_J S1_ 909 (x + 418) (jJ v2_)) x from ((cFr.rf _ _).sJ ⟨by omega, by omega⟩)) (by decide))⟩
  ·
    refine v_aload_n hX dX11_readHead_22 (i := 0) rfl rfl ?_
    obtain ⟨v7_, e_v7_, b_v7_⟩ := j_ex (m_J (s_J S1_ 909 (x + 418) (jJ v2_)) 909 (x + 418))
    refine v_get hX (ci := 9) (k := 9) (cs_k_418 (cS.sJ h1_)) bc_9 (by decide) (by decide) in_9 w_2_135 dX11_readHead_23 (mvG (f := 909) (v := jJ v7_) rfl rfl e_v7_) ?_
    refine v_callS hX (n := 1) (t_registerOf (S := (s_J S1_ 909 (x + 418) (jJ v2_))) (x := x) (w := w) (v := v7_) (cS.sJ h1_) ⟨by omega, by omega⟩) w_4_25 w_4_26 w_1_11 w_4_27 (by decide +kernel) rfl ⟨by decide, by decide⟩ ⟨by omega, by omega⟩ (Nat.le_of_ble_eq_true rfl) rfl dX11_readHead_26 (fun _ _ _ q => q) ?_
    rintro r8_ S8_ z8_ ⟨rfl, rfl, v9_, rfl, b_v9_, q8_⟩
    refine v_iconst hX (v := iI (-1)) dX11_readHead_29 rfl ?_
    refine u_icmp_eq hX (tgt := 35) dX11_readHead_30 (by decide) ⟨by omega, by omega⟩ ⟨by omega, by omega⟩ (fun h10_ => ?_) (fun h10_ => ?_)
    ·
      refine v_aload_n hX dX11_readHead_35 (i := 0) rfl rfl ?_
      refine v_get hX (ci := 9) (k := 4) (cs_k_418 (cS.sJ h1_)) bc_9 (by decide) (by decide) in_9 w_2_128 dX11_readHead_36 (mvP (f := 904) (q := (x + 419)) rfl rfl (cs_p_904 (cS.sJ h1_))) ?_
      refine v_callV hX (n := 0) (g_isAtEnd (S := (s_J S1_ 909 (x + 418) (jJ v2_))) (x := x) (w := w) (cS.sJ h1_) (sI.fr g1_sI h1_ (show cFr [] [] [] w S1_ (s_J S1_ 909 (x + 418) (jJ v2_)) x from ((cFr.rf _ _).sJ ⟨by omega, by omega⟩)) (by decide))) (cs_k_419 (cS.sJ h1_)) bc_7 (by decide) w_4_30 w_4_31 w_4_32 w_1_11 w_4_33 (by decide +kernel) rfl ⟨by decide, by decide⟩ ⟨by omega, by omega⟩ (Nat.le_of_ble_eq_true rfl) rfl dX11_readHead_39 (fun _ _ _ q => q) ?_
      rintro r11_ S11_ z11_ ⟨rfl, f11_, v12_, rfl, b_v12_, q11_, g11_sI⟩
      have y13_ : m_P S11_ 908 (x + 418) = some (b_kn X oi) := (f11_.2.2.1 908 (by decide) _).trans (by simp (disch := omega) only [y_P_s_P, x_P_s_P, z_P_s_I, z_P_s_J, z_P_s_A, z_P_s_B, y3_])
      have h11_ : cS S11_ x := f11_.keep (by decide) (cS.sJ h1_)
      have g11_gL : gL S11_ x := gL.fr (gL.fr g1_gL h1_ (show cFr [] [] [] w S1_ (s_J S1_ 909 (x + 418) (jJ v2_)) x from ((cFr.rf _ _).sJ ⟨by omega, by omega⟩)) (by decide)) (cS.sJ h1_) f11_ (by decide)
      refine u_if_eq hX (tgt := 47) dX11_readHead_42 (by decide) ⟨by omega, by omega⟩ (fun h14_ => ?_) (fun h14_ => ?_)
      ·
        refine v_aload_n hX dX11_readHead_47 (i := 0) rfl rfl ?_
        refine v_get hX (ci := 9) (k := 4) (cs_k_418 h11_) bc_9 (by decide) (by decide) in_9 w_2_128 dX11_readHead_48 (mvP (f := 904) (q := (x + 419)) rfl rfl (cs_p_904 h11_)) ?_
        refine v_callV hX (n := 0) (g_readOperation (S := S11_) (x := x) (w := w) h11_ g11_sI) (cs_k_419 h11_) bc_7 (by decide) w_3_176 w_3_177 w_3_178 w_1_11 w_3_179 (by decide +kernel) rfl ⟨by decide, by decide⟩ ⟨by omega, by omega⟩ (Nat.le_of_ble_eq_true rfl) rfl dX11_readHead_51 (fun _ _ _ q => q) ?_
        rintro r15_ S15_ z15_ ⟨rfl, f15_, v16_, rfl, b_v16_, q15_, g15_sI⟩
        have y17_ : m_P S15_ 908 (x + 418) = some (b_kn X oi) := (f15_.2.2.1 908 (by decide) _).trans (by simp (disch := omega) only [y_P_s_P, x_P_s_P, z_P_s_I, z_P_s_J, z_P_s_A, z_P_s_B, y13_])
        have h15_ : cS S15_ x := f15_.keep (by decide) h11_
        have g15_gL : gL S15_ x := gL.fr g11_gL h11_ f15_ (by decide)
        refine u_if_ne hX (tgt := 59) dX11_readHead_54 (by decide) ⟨by omega, by omega⟩ (fun h18_ => ?_) (fun h18_ => ?_)
        ·
          refine v_aload_n hX dX11_readHead_59 (i := 0) rfl rfl ?_
          refine v_aload_n hX dX11_readHead_60 (i := 0) rfl rfl ?_
          refine v_get hX (ci := 9) (k := 4) (cs_k_418 h15_) bc_9 (by decide) (by decide) in_9 w_2_128 dX11_readHead_61 (mvP (f := 904) (q := (x + 419)) rfl rfl (cs_p_904 h15_)) ?_
          refine v_callS hX (n := 1) (g_spelledBy (S := S15_) (x := x) (w := w) h15_ g15_sI) w_3_184 w_3_185 w_1_9 w_3_186 (by decide +kernel) rfl ⟨by decide, by decide⟩ ⟨by omega, by omega⟩ (Nat.le_of_ble_eq_true rfl) rfl dX11_readHead_64 (fun _ _ _ q => q) ?_
          rintro r19_ S19_ z19_ ⟨rfl, rfl, o20_, rfl, b_o20_, q19_⟩
          refine v_putP hX (ci := 9) (k := 8) (f := 908) (cs_k_418 h15_) bc_9 (by decide) (by decide) in_9 tyX11_ok nmX11 w_2_134 (Or.inl rfl) rfl rfl dX11_readHead_67 rfl rfl ?_
          refine v_aload_n hX dX11_readHead_70 (i := 0) rfl rfl ?_
          refine v_aload_n hX dX11_readHead_71 (i := 0) rfl rfl ?_
          refine v_get hX (ci := 9) (k := 5) (cs_k_418 (cS.sP h15_ (by decide) ⟨by omega, by omega⟩)) bc_9 (by decide) (by decide) in_9 w_2_129 dX11_readHead_72 (mvP (f := 905) (q := (x + 421)) rfl rfl (cs_p_905 (cS.sP h15_ (by decide) ⟨by omega, by omega⟩))) ?_
          refine v_aload_n hX dX11_readHead_75 (i := 0) rfl rfl ?_
          refine v_get hX (ci := 9) (k := 4) (cs_k_418 (cS.sP h15_ (by decide) ⟨by omega, by omega⟩)) bc_9 (by decide) (by decide) in_9 w_2_128 dX11_readHead_76 (mvP (f := 904) (q := (x + 419)) rfl rfl (cs_p_904 (cS.sP h15_ (by decide) ⟨by omega, by omega⟩))) ?_
          obtain ⟨v21_, e_v21_, b_v21_⟩ := j_ex (m_J (s_P S15_ 908 (x + 418) (some (b_kn X o20_))) 705 (x + 419))
          refine v_get hX (ci := 7) (k := 5) (cs_k_419 (cS.sP h15_ (by decide) ⟨by omega, by omega⟩)) bc_7 (by decide) (by decide) in_7 w_2_0 dX11_readHead_79 (mvG (f := 705) (v := jJ v21_) rfl rfl e_v21_) ?_
          refine v_callV hX (n := 1) (g_M_find (S := (s_P S15_ 908 (x + 418) (some (b_kn X o20_)))) (x := x) (w := w) (v := v21_) (cS.sP h15_ (by decide) ⟨by omega, by omega⟩) ⟨by omega, by omega⟩ (gL.fr g15_gL h15_ (show cFr [] [908] [] w S15_ (s_P S15_ 908 (x + 418) (some (b_kn X o20_))) x from ((cFr.rf _ _).sP (by decide) ⟨by omega, by omega⟩)) (by decide))) (cs_k_421 (cS.sP h15_ (by decide) ⟨by omega, by omega⟩)) bc_4 (by decide) w_4_34 w_4_35 w_4_36 w_1_12 w_4_37 (by decide +kernel) rfl ⟨by decide, by decide⟩ ⟨by omega, by omega⟩ (Nat.le_of_ble_eq_true rfl) rfl dX11_readHead_82 (fun _ _ _ q => q) ?_
          rintro r22_ S22_ z22_ ⟨rfl, rfl, v23_, rfl, b_v23_, q22_⟩
          refine v_putI hX (ci := 9) (k := 11) (f := 911) (cs_k_418 (cS.sP h15_ (by decide) ⟨by omega, by omega⟩)) bc_9 (by decide) (by decide) in_9 tyX11_ok nmX11 w_2_137 (Or.inl rfl) rfl rfl dX11_readHead_85 rfl rfl ?_
          refine v_aload_n hX dX11_readHead_88 (i := 0) rfl rfl ?_
          refine v_get hX (ci := 9) (k := 8) (cs_k_418 (cS.sI (cS.sP h15_ (by decide) ⟨by omega, by omega⟩))) bc_9 (by decide) (by decide) in_9 w_2_134 dX11_readHead_89 (mvP (f := 908) (q := (b_kn X o20_)) rfl rfl (by simp (disch := omega) only [y_P_s_P, x_P_s_P, z_P_s_I, z_P_s_J, z_P_s_A, z_P_s_B, y17_])) ?_
          refine v_getsK hX (i := 1) (by decide) rfl w_4_38 dX11_readHead_92 ?_
          refine v_acmp_ne hX (tgt := 113) dX11_readHead_95 (by decide) (fun h24_ => ?_) (fun h24_ => ?_)
          ·
            refine v_iconst hX (v := iI 1) dX11_readHead_113 rfl ?_
            exact v_zreturn hX (nar_b (by omega)) hE dX11_readHead_114 (by omega) (by omega) ⟨rfl, (((((((cFr.rf _ _).tr (f1_.mono (by decide) (by decide) (by decide))).sJ ⟨by omega, by omega⟩).tr (f11_.mono (by decide) (by decide) (by decide))).tr (f15_.mono (by decide) (by decide) (by decide))).sP (by decide) ⟨by omega, by omega⟩).sI (by decide) ⟨by omega, by omega⟩), 1, o20_, rfl, (by omega), (by simp (disch := omega) only [y_P_s_P, x_P_s_P, z_P_s_I, z_P_s_J, z_P_s_A, z_P_s_B, y17_]), (by omega), trivial, (sI.fr g15_sI h15_ (show cFr [911] [908] [] w S15_ (s_I (s_P S15_ 908 (x + 418) (some (b_kn X o20_))) 911 (x + 418) (iI v23_)) x from (((cFr.rf _ _).sP (by decide) ⟨by omega, by omega⟩).sI (by decide) ⟨by omega, by omega⟩)) (by decide))⟩
          ·
            refine v_aload_n hX dX11_readHead_98 (i := 0) rfl rfl ?_
            refine v_get hX (ci := 9) (k := 11) (cs_k_418 (cS.sI (cS.sP h15_ (by decide) ⟨by omega, by omega⟩))) bc_9 (by decide) (by decide) in_9 w_2_137 dX11_readHead_99 (mvF (f := 911) (v := iI v23_) rfl rfl (by simp (disch := omega) only [y_I_s_I, x_I_s_I, z_I_s_J, z_I_s_A, z_I_s_B, z_I_s_P])) ?_
            refine v_iconst hX (v := iI (-1)) dX11_readHead_102 rfl ?_
            refine u_icmp_eq hX (tgt := 113) dX11_readHead_103 (by decide) ⟨by omega, by omega⟩ ⟨by omega, by omega⟩ (fun h25_ => ?_) (fun h25_ => ?_)
            ·
              refine v_iconst hX (v := iI 1) dX11_readHead_113 rfl ?_
              exact v_zreturn hX (nar_b (by omega)) hE dX11_readHead_114 (by omega) (by omega) ⟨rfl, (((((((cFr.rf _ _).tr (f1_.mono (by decide) (by decide) (by decide))).sJ ⟨by omega, by omega⟩).tr (f11_.mono (by decide) (by decide) (by decide))).tr (f15_.mono (by decide) (by decide) (by decide))).sP (by decide) ⟨by omega, by omega⟩).sI (by decide) ⟨by omega, by omega⟩), 1, o20_, rfl, (by omega), (by simp (disch := omega) only [y_P_s_P, x_P_s_P, z_P_s_I, z_P_s_J, z_P_s_A, z_P_s_B, y17_]), (by omega), trivial, (sI.fr g15_sI h15_ (show cFr [911] [908] [] w S15_ (s_I (s_P S15_ 908 (x + 418) (some (b_kn X o20_))) 911 (x + 418) (iI v23_)) x from (((cFr.rf _ _).sP (by decide) ⟨by omega, by omega⟩).sI (by decide) ⟨by omega, by omega⟩)) (by decide))⟩
            ·
              refine v_aload_n hX dX11_readHead_106 (i := 0) rfl rfl ?_
              refine v_getsK hX (i := 3) (by decide) rfl w_4_39 dX11_readHead_107 ?_
              refine v_putP hX (ci := 9) (k := 8) (f := 908) (cs_k_418 (cS.sI (cS.sP h15_ (by decide) ⟨by omega, by omega⟩))) bc_9 (by decide) (by decide) in_9 tyX11_ok nmX11 w_2_134 (Or.inl rfl) rfl rfl dX11_readHead_110 rfl rfl ?_
              refine v_iconst hX (v := iI 1) dX11_readHead_113 rfl ?_
              exact v_zreturn hX (nar_b (by omega)) hE dX11_readHead_114 (by omega) (by omega) ⟨rfl, ((((((((cFr.rf _ _).tr (f1_.mono (by decide) (by decide) (by decide))).sJ ⟨by omega, by omega⟩).tr (f11_.mono (by decide) (by decide) (by decide))).tr (f15_.mono (by decide) (by decide) (by decide))).sP (by decide) ⟨by omega, by omega⟩).sI (by decide) ⟨by omega, by omega⟩).sP (by decide) ⟨by omega, by omega⟩), 1, 3, rfl, (by omega), (by simp (disch := omega) only [y_P_s_P, x_P_s_P, z_P_s_I, z_P_s_J, z_P_s_A, z_P_s_B, y17_]), (by omega), trivial, (sI.fr g15_sI h15_ (show cFr [911] [908] [] w S15_ (s_P (s_I (s_P S15_ 908 (x + 418) (some (b_kn X o20_))) 911 (x + 418) (iI v23_)) 908 (x + 418) (some (b_kn X 3))) x from ((((cFr.rf _ _).sP (by decide) ⟨by omega, by omega⟩).sI (by decide) ⟨by omega, by omega⟩).sP (by decide) ⟨by omega, by omega⟩)) (by decide))⟩
        ·
          refine v_iconst hX (v := iI 0) dX11_readHead_57 rfl ?_
          exact v_zreturn hX (nar_b (by omega)) hE dX11_readHead_58 (by omega) (by omega) ⟨rfl, (((((cFr.rf _ _).tr (f1_.mono (by decide) (by decide) (by decide))).sJ ⟨by omega, by omega⟩).tr (f11_.mono (by decide) (by decide) (by decide))).tr (f15_.mono (by decide) (by decide) (by decide))), 0, oi, rfl, (by omega), (by simp (disch := omega) only [y_P_s_P, x_P_s_P, z_P_s_I, z_P_s_J, z_P_s_A, z_P_s_B, y17_]), (by omega), trivial, g15_sI⟩
      ·
        refine v_iconst hX (v := iI 1) dX11_readHead_45 rfl ?_
        exact v_zreturn hX (nar_b (by omega)) hE dX11_readHead_46 (by omega) (by omega) ⟨rfl, ((((cFr.rf _ _).tr (f1_.mono (by decide) (by decide) (by decide))).sJ ⟨by omega, by omega⟩).tr (f11_.mono (by decide) (by decide) (by decide))), 1, oi, rfl, (by omega), (by simp (disch := omega) only [y_P_s_P, x_P_s_P, z_P_s_I, z_P_s_J, z_P_s_A, z_P_s_B, y13_]), (by omega), trivial, g11_sI⟩
    ·
      refine v_iconst hX (v := iI 0) dX11_readHead_33 rfl ?_
      exact v_zreturn hX (nar_b (by omega)) hE dX11_readHead_34 (by omega) (by omega) ⟨rfl, (((cFr.rf _ _).tr (f1_.mono (by decide) (by decide) (by decide))).sJ ⟨by omega, by omega⟩), 0, oi, rfl, (by omega), (by simp (disch := omega) only [y_P_s_P, x_P_s_P, z_P_s_I, z_P_s_J, z_P_s_A, z_P_s_B, y3_]), (by omega), trivial, (sI.fr g1_sI h1_ (show cFr [] [] [] w S1_ (s_J S1_ 909 (x + 418) (jJ v2_)) x from ((cFr.rf _ _).sJ ⟨by omega, by omega⟩)) (by decide))⟩
set_option maxRecDepth 100000 in
set_option maxHeartbeats 4000000 in
theorem g_T_readAhead {kn : Nat → Nat} {B : Nat} {S : b_M} {z x w : Nat} {oi : Nat} {dr : Nat} {lo : Int} {hi : Int} (h : cS S x) (e_oi : m_P S 908 (x + 418) = some (kn oi)) (o_oi : oi < 17) (e_dr : m_P S 907 (x + 418) = some dr) (hs_dr : isS x dr) (g_sI : sI S x lo hi) (g_gL : gL S x) : b_C kn B yX11_readAhead cX11_readAhead 1 (some .boolean) 4 84 0 0 [.ref (x + 418)] S z (fun r S' z' => z = z' ∧ cFr [701, 703, 704, 803, 804] [] [431, 432, 435, 436, 439, 440, 443, 444, 447, 448, 451, 452, 455, 456] w S S' x ∧ ∃ q : Int, r = some (.int (iI q)) ∧ (q = 0 ∨ q = 1) ∧ (True) ∧ (q = 1 → oi = 3 → gO S' x lo hi) ∧ (sI S' x lo hi) ∧ (gL S' x)) (fun _ _ _ => False) := by
  refine b_enter (by decide) (Nat.le_of_ble_eq_true rfl) ?_
  intro X hX hE hnL hkn hB hI_
  subst hkn; subst hB
  clear hI_
  change b_V X S z 0 0 0 [(0, .ref (x + 418))] []
  refine v_getsW hX w_4_45 dX11_readAhead_0 ?_
  refine v_aload_n hX dX11_readAhead_3 (i := 0) rfl rfl ?_
  refine v_get hX (ci := 9) (k := 8) (cs_k_418 h) bc_9 (by decide) (by decide) in_9 w_2_134 dX11_readAhead_4 (mvP (f := 908) (q := (b_kn X oi)) rfl rfl (by simp (disch := omega) only [y_P_s_P, x_P_s_P, z_P_s_I, z_P_s_J, z_P_s_A, z_P_s_B, e_oi, e_dr])) ?_
  refine v_callU hX (x := ⟨"AssembleLines$Operation", "ordinal", "()I"⟩) (i := oi) (by omega) (j_ordinal (S := S) (x := x) (w := w) (i := oi) h (by omega)) rfl (by decide +kernel) (fun w_ hw_ => by simp only [va_wsU, List.mem_append, List.mem_cons, List.not_mem_nil, or_false] at hw_; rcases hw_ with (h_ | h_ | h_ | h_ | h_) | h_ | h_ <;> first | exact h_ | (rw [h_]; first | exact w_4_47 | exact w_4_48 | exact w_4_50 | exact w_4_51 | exact w_1_8 | exact w_4_52)) ⟨by decide, by decide⟩ ⟨by omega, by omega⟩ (Nat.le_of_ble_eq_true rfl) dX11_readAhead_7 (fun _ _ _ q => q) ?_
  rintro r1_ S1_ z1_ ⟨rfl, rfl, v2_, rfl, b_v2_, q1_⟩
  rw [show (v2_ : Int) = (oi : Int) from q1_]
  refine w_tiW hX (i := oi) (by omega) dX11_readAhead_10 ?_
  have b3_ := sW_b oi (by omega)
  by_cases h4_ : 1 ≤ (sW oi) ∧ (sW oi) ≤ 9
  ·
    have h5_ : (sW oi) = 1 ∨ (sW oi) = 2 ∨ (sW oi) = 3 ∨ (sW oi) = 4 ∨ (sW oi) = 5 ∨ (sW oi) = 6 ∨ (sW oi) = 7 ∨ (sW oi) = 8 ∨ (sW oi) = 9 := by omega
    rcases h5_ with h5_ | h5_ | h5_ | h5_ | h5_ | h5_ | h5_ | h5_ | h5_
    ·
      refine v_tableIn hX (off := 49) (tgt := 60) dX11_readAhead_11 (by rw [iI_to ⟨by omega, by omega⟩]; omega) (by rw [iI_to ⟨by omega, by omega⟩]; omega) (by rw [iI_to ⟨by omega, by omega⟩, h5_]; rfl) (by decide) ?_
      refine v_aload_n hX dX11_readAhead_60 (i := 0) rfl rfl ?_
      refine v_callV hX (n := 0) (g_T_readRegister (S := S) (x := x) (w := w) (dr := dr) h (by simp (disch := omega) only [y_P_s_P, x_P_s_P, z_P_s_I, z_P_s_J, z_P_s_A, z_P_s_B, e_oi, e_dr]) hs_dr g_sI) (cs_k_418 h) bc_9 (by decide) w_4_53 w_4_55 (bw_p (q := (yX11_readRegister, 16)) (List.mem_of_getElem? (i := 15) rfl) rfl) w_1_10 w_4_56 (by decide +kernel) rfl ⟨by decide, by decide⟩ ⟨by omega, by omega⟩ (Nat.le_of_ble_eq_true rfl) rfl dX11_readAhead_61 (fun _ _ _ q => q) ?_
      rintro r6_ S6_ z6_ ⟨rfl, f6_, v7_, rfl, b_v7_, q6_, g6_sI⟩
      have y8_ : m_P S6_ 908 (x + 418) = some (b_kn X oi) := (f6_.2.2.1 908 (by decide) _).trans (by simp (disch := omega) only [y_P_s_P, x_P_s_P, z_P_s_I, z_P_s_J, z_P_s_A, z_P_s_B, e_oi, e_dr])
      have y9_ : m_P S6_ 907 (x + 418) = some dr := (f6_.2.2.1 907 (by decide) _).trans (by simp (disch := omega) only [y_P_s_P, x_P_s_P, z_P_s_I, z_P_s_J, z_P_s_A, z_P_s_B, e_oi, e_dr])
      have h6_ : cS S6_ x := f6_.keep (by decide) h
      have g6_gL : gL S6_ x := gL.fr g_gL h f6_ (by decide)
      refine u_if_eq hX (tgt := 83) dX11_readAhead_64 (by decide) ⟨by omega, by omega⟩ (fun h10_ => ?_) (fun h10_ => ?_)
      ·
        refine v_iconst hX (v := iI 0) dX11_readAhead_83 rfl ?_
        exact v_zreturn hX (nar_b (by omega)) hE dX11_readAhead_84 (by omega) (by omega) ⟨rfl, ((cFr.rf _ _).tr (f6_.mono (by decide) (by decide) (by decide))), 0, rfl, (by omega), trivial, (fun _ h3_ => False.elim (by have h9 : sW oi = 8 := (by rw [h3_]; exact sW_call); omega)), g6_sI, g6_gL⟩
      ·
        refine v_aload_n hX dX11_readAhead_67 (i := 0) rfl rfl ?_
        refine v_get hX (ci := 9) (k := 4) (cs_k_418 h6_) bc_9 (by decide) (by decide) in_9 w_2_128 dX11_readAhead_68 (mvP (f := 904) (q := (x + 419)) rfl rfl (cs_p_904 h6_)) ?_
        refine v_bipush hX (v := iI 44) dX11_readAhead_71 (by decide) ?_
        refine v_callV hX (n := 1) (g_takes (S := S6_) (x := x) (w := w) (c := 44) h6_ ⟨by omega, by omega⟩ g6_sI) (cs_k_419 h6_) bc_7 (by decide) w_4_59 w_4_60 w_4_61 w_1_11 w_4_62 (by decide +kernel) rfl ⟨by decide, by decide⟩ ⟨by omega, by omega⟩ (Nat.le_of_ble_eq_true rfl) rfl dX11_readAhead_73 (fun _ _ _ q => q) ?_
        rintro r11_ S11_ z11_ ⟨rfl, f11_, v12_, rfl, b_v12_, q11_, g11_sI⟩
        have y13_ : m_P S11_ 908 (x + 418) = some (b_kn X oi) := (f11_.2.2.1 908 (by decide) _).trans (by simp (disch := omega) only [y_P_s_P, x_P_s_P, z_P_s_I, z_P_s_J, z_P_s_A, z_P_s_B, y8_, y9_])
        have y14_ : m_P S11_ 907 (x + 418) = some dr := (f11_.2.2.1 907 (by decide) _).trans (by simp (disch := omega) only [y_P_s_P, x_P_s_P, z_P_s_I, z_P_s_J, z_P_s_A, z_P_s_B, y8_, y9_])
        have h11_ : cS S11_ x := f11_.keep (by decide) h6_
        have g11_gL : gL S11_ x := gL.fr g6_gL h6_ f11_ (by decide)
        refine u_if_eq hX (tgt := 83) dX11_readAhead_76 (by decide) ⟨by omega, by omega⟩ (fun h15_ => ?_) (fun h15_ => ?_)
        ·
          refine v_iconst hX (v := iI 0) dX11_readAhead_83 rfl ?_
          exact v_zreturn hX (nar_b (by omega)) hE dX11_readAhead_84 (by omega) (by omega) ⟨rfl, (((cFr.rf _ _).tr (f6_.mono (by decide) (by decide) (by decide))).tr (f11_.mono (by decide) (by decide) (by decide))), 0, rfl, (by omega), trivial, (fun _ h3_ => False.elim (by have h9 : sW oi = 8 := (by rw [h3_]; exact sW_call); omega)), g11_sI, g11_gL⟩
        ·
          refine v_iconst hX (v := iI 1) dX11_readAhead_79 rfl ?_
          refine v_goto hX (tgt := 84) dX11_readAhead_80 (by decide) ?_
          exact v_zreturn hX (nar_b (by omega)) hE dX11_readAhead_84 (by omega) (by omega) ⟨rfl, (((cFr.rf _ _).tr (f6_.mono (by decide) (by decide) (by decide))).tr (f11_.mono (by decide) (by decide) (by decide))), 1, rfl, (by omega), trivial, (fun _ h3_ => False.elim (by have h9 : sW oi = 8 := (by rw [h3_]; exact sW_call); omega)), g11_sI, g11_gL⟩
    ·
      refine v_tableIn hX (off := 49) (tgt := 60) dX11_readAhead_11 (by rw [iI_to ⟨by omega, by omega⟩]; omega) (by rw [iI_to ⟨by omega, by omega⟩]; omega) (by rw [iI_to ⟨by omega, by omega⟩, h5_]; rfl) (by decide) ?_
      refine v_aload_n hX dX11_readAhead_60 (i := 0) rfl rfl ?_
      refine v_callV hX (n := 0) (g_T_readRegister (S := S) (x := x) (w := w) (dr := dr) h (by simp (disch := omega) only [y_P_s_P, x_P_s_P, z_P_s_I, z_P_s_J, z_P_s_A, z_P_s_B, e_oi, e_dr]) hs_dr g_sI) (cs_k_418 h) bc_9 (by decide) w_4_53 w_4_55 (bw_p (q := (yX11_readRegister, 16)) (List.mem_of_getElem? (i := 15) rfl) rfl) w_1_10 w_4_56 (by decide +kernel) rfl ⟨by decide, by decide⟩ ⟨by omega, by omega⟩ (Nat.le_of_ble_eq_true rfl) rfl dX11_readAhead_61 (fun _ _ _ q => q) ?_
      rintro r16_ S16_ z16_ ⟨rfl, f16_, v17_, rfl, b_v17_, q16_, g16_sI⟩
      have y18_ : m_P S16_ 908 (x + 418) = some (b_kn X oi) := (f16_.2.2.1 908 (by decide) _).trans (by simp (disch := omega) only [y_P_s_P, x_P_s_P, z_P_s_I, z_P_s_J, z_P_s_A, z_P_s_B, e_oi, e_dr])
      have y19_ : m_P S16_ 907 (x + 418) = some dr := (f16_.2.2.1 907 (by decide) _).trans (by simp (disch := omega) only [y_P_s_P, x_P_s_P, z_P_s_I, z_P_s_J, z_P_s_A, z_P_s_B, e_oi, e_dr])
      have h16_ : cS S16_ x := f16_.keep (by decide) h
      have g16_gL : gL S16_ x := gL.fr g_gL h f16_ (by decide)
      refine u_if_eq hX (tgt := 83) dX11_readAhead_64 (by decide) ⟨by omega, by omega⟩ (fun h20_ => ?_) (fun h20_ => ?_)
      ·
        refine v_iconst hX (v := iI 0) dX11_readAhead_83 rfl ?_
        exact v_zreturn hX (nar_b (by omega)) hE dX11_readAhead_84 (by omega) (by omega) ⟨rfl, ((cFr.rf _ _).tr (f16_.mono (by decide) (by decide) (by decide))), 0, rfl, (by omega), trivial, (fun _ h3_ => False.elim (by have h9 : sW oi = 8 := (by rw [h3_]; exact sW_call); omega)), g16_sI, g16_gL⟩
      ·
        refine v_aload_n hX dX11_readAhead_67 (i := 0) rfl rfl ?_
        refine v_get hX (ci := 9) (k := 4) (cs_k_418 h16_) bc_9 (by decide) (by decide) in_9 w_2_128 dX11_readAhead_68 (mvP (f := 904) (q := (x + 419)) rfl rfl (cs_p_904 h16_)) ?_
        refine v_bipush hX (v := iI 44) dX11_readAhead_71 (by decide) ?_
        refine v_callV hX (n := 1) (g_takes (S := S16_) (x := x) (w := w) (c := 44) h16_ ⟨by omega, by omega⟩ g16_sI) (cs_k_419 h16_) bc_7 (by decide) w_4_59 w_4_60 w_4_61 w_1_11 w_4_62 (by decide +kernel) rfl ⟨by decide, by decide⟩ ⟨by omega, by omega⟩ (Nat.le_of_ble_eq_true rfl) rfl dX11_readAhead_73 (fun _ _ _ q => q) ?_
        rintro r21_ S21_ z21_ ⟨rfl, f21_, v22_, rfl, b_v22_, q21_, g21_sI⟩
        have y23_ : m_P S21_ 908 (x + 418) = some (b_kn X oi) := (f21_.2.2.1 908 (by decide) _).trans (by simp (disch := omega) only [y_P_s_P, x_P_s_P, z_P_s_I, z_P_s_J, z_P_s_A, z_P_s_B, y18_, y19_])
        have y24_ : m_P S21_ 907 (x + 418) = some dr := (f21_.2.2.1 907 (by decide) _).trans (by simp (disch := omega) only [y_P_s_P, x_P_s_P, z_P_s_I, z_P_s_J, z_P_s_A, z_P_s_B, y18_, y19_])
        have h21_ : cS S21_ x := f21_.keep (by decide) h16_
        have g21_gL : gL S21_ x := gL.fr g16_gL h16_ f21_ (by decide)
        refine u_if_eq hX (tgt := 83) dX11_readAhead_76 (by decide) ⟨by omega, by omega⟩ (fun h25_ => ?_) (fun h25_ => ?_)
        ·
          refine v_iconst hX (v := iI 0) dX11_readAhead_83 rfl ?_
          exact v_zreturn hX (nar_b (by omega)) hE dX11_readAhead_84 (by omega) (by omega) ⟨rfl, (((cFr.rf _ _).tr (f16_.mono (by decide) (by decide) (by decide))).tr (f21_.mono (by decide) (by decide) (by decide))), 0, rfl, (by omega), trivial, (fun _ h3_ => False.elim (by have h9 : sW oi = 8 := (by rw [h3_]; exact sW_call); omega)), g21_sI, g21_gL⟩
        ·
          refine v_iconst hX (v := iI 1) dX11_readAhead_79 rfl ?_
          refine v_goto hX (tgt := 84) dX11_readAhead_80 (by decide) ?_
          exact v_zreturn hX (nar_b (by omega)) hE dX11_readAhead_84 (by omega) (by omega) ⟨rfl, (((cFr.rf _ _).tr (f16_.mono (by decide) (by decide) (by decide))).tr (f21_.mono (by decide) (by decide) (by decide))), 1, rfl, (by omega), trivial, (fun _ h3_ => False.elim (by have h9 : sW oi = 8 := (by rw [h3_]; exact sW_call); omega)), g21_sI, g21_gL⟩
    ·
      refine v_tableIn hX (off := 74) (tgt := 85) dX11_readAhead_11 (by rw [iI_to ⟨by omega, by omega⟩]; omega) (by rw [iI_to ⟨by omega, by omega⟩]; omega) (by rw [iI_to ⟨by omega, by omega⟩, h5_]; rfl) (by decide) ?_
      refine v_aload_n hX dX11_readAhead_85 (i := 0) rfl rfl ?_
      refine v_callV hX (n := 0) (g_T_readRegister (S := S) (x := x) (w := w) (dr := dr) h (by simp (disch := omega) only [y_P_s_P, x_P_s_P, z_P_s_I, z_P_s_J, z_P_s_A, z_P_s_B, e_oi, e_dr]) hs_dr g_sI) (cs_k_418 h) bc_9 (by decide) w_4_53 w_4_55 (bw_p (q := (yX11_readRegister, 16)) (List.mem_of_getElem? (i := 15) rfl) rfl) w_1_10 w_4_56 (by decide +kernel) rfl ⟨by decide, by decide⟩ ⟨by omega, by omega⟩ (Nat.le_of_ble_eq_true rfl) rfl dX11_readAhead_86 (fun _ _ _ q => q) ?_
      rintro r26_ S26_ z26_ ⟨rfl, f26_, v27_, rfl, b_v27_, q26_, g26_sI⟩
      have y28_ : m_P S26_ 908 (x + 418) = some (b_kn X oi) := (f26_.2.2.1 908 (by decide) _).trans (by simp (disch := omega) only [y_P_s_P, x_P_s_P, z_P_s_I, z_P_s_J, z_P_s_A, z_P_s_B, e_oi, e_dr])
      have y29_ : m_P S26_ 907 (x + 418) = some dr := (f26_.2.2.1 907 (by decide) _).trans (by simp (disch := omega) only [y_P_s_P, x_P_s_P, z_P_s_I, z_P_s_J, z_P_s_A, z_P_s_B, e_oi, e_dr])
      have h26_ : cS S26_ x := f26_.keep (by decide) h
      have g26_gL : gL S26_ x := gL.fr g_gL h f26_ (by decide)
      refine u_if_eq hX (tgt := 120) dX11_readAhead_89 (by decide) ⟨by omega, by omega⟩ (fun h30_ => ?_) (fun h30_ => ?_)
      ·
        refine v_iconst hX (v := iI 0) dX11_readAhead_120 rfl ?_
        exact v_zreturn hX (nar_b (by omega)) hE dX11_readAhead_121 (by omega) (by omega) ⟨rfl, ((cFr.rf _ _).tr (f26_.mono (by decide) (by decide) (by decide))), 0, rfl, (by omega), trivial, (fun _ h3_ => False.elim (by have h9 : sW oi = 8 := (by rw [h3_]; exact sW_call); omega)), g26_sI, g26_gL⟩
      ·
        refine v_aload_n hX dX11_readAhead_92 (i := 0) rfl rfl ?_
        refine v_get hX (ci := 9) (k := 4) (cs_k_418 h26_) bc_9 (by decide) (by decide) in_9 w_2_128 dX11_readAhead_93 (mvP (f := 904) (q := (x + 419)) rfl rfl (cs_p_904 h26_)) ?_
        refine v_bipush hX (v := iI 44) dX11_readAhead_96 (by decide) ?_
        refine v_callV hX (n := 1) (g_takes (S := S26_) (x := x) (w := w) (c := 44) h26_ ⟨by omega, by omega⟩ g26_sI) (cs_k_419 h26_) bc_7 (by decide) w_4_59 w_4_60 w_4_61 w_1_11 w_4_62 (by decide +kernel) rfl ⟨by decide, by decide⟩ ⟨by omega, by omega⟩ (Nat.le_of_ble_eq_true rfl) rfl dX11_readAhead_98 (fun _ _ _ q => q) ?_
        rintro r31_ S31_ z31_ ⟨rfl, f31_, v32_, rfl, b_v32_, q31_, g31_sI⟩
        have y33_ : m_P S31_ 908 (x + 418) = some (b_kn X oi) := (f31_.2.2.1 908 (by decide) _).trans (by simp (disch := omega) only [y_P_s_P, x_P_s_P, z_P_s_I, z_P_s_J, z_P_s_A, z_P_s_B, y28_, y29_])
        have y34_ : m_P S31_ 907 (x + 418) = some dr := (f31_.2.2.1 907 (by decide) _).trans (by simp (disch := omega) only [y_P_s_P, x_P_s_P, z_P_s_I, z_P_s_J, z_P_s_A, z_P_s_B, y28_, y29_])
        have h31_ : cS S31_ x := f31_.keep (by decide) h26_
        have g31_gL : gL S31_ x := gL.fr g26_gL h26_ f31_ (by decide)
        refine u_if_eq hX (tgt := 120) dX11_readAhead_101 (by decide) ⟨by omega, by omega⟩ (fun h35_ => ?_) (fun h35_ => ?_)
        ·
          refine v_iconst hX (v := iI 0) dX11_readAhead_120 rfl ?_
          exact v_zreturn hX (nar_b (by omega)) hE dX11_readAhead_121 (by omega) (by omega) ⟨rfl, (((cFr.rf _ _).tr (f26_.mono (by decide) (by decide) (by decide))).tr (f31_.mono (by decide) (by decide) (by decide))), 0, rfl, (by omega), trivial, (fun _ h3_ => False.elim (by have h9 : sW oi = 8 := (by rw [h3_]; exact sW_call); omega)), g31_sI, g31_gL⟩
        ·
          refine v_aload_n hX dX11_readAhead_104 (i := 0) rfl rfl ?_
          refine v_get hX (ci := 9) (k := 4) (cs_k_418 h31_) bc_9 (by decide) (by decide) in_9 w_2_128 dX11_readAhead_105 (mvP (f := 904) (q := (x + 419)) rfl rfl (cs_p_904 h31_)) ?_
          refine v_bipush hX (v := iI 61) dX11_readAhead_108 (by decide) ?_
          refine v_callV hX (n := 1) (g_takes (S := S31_) (x := x) (w := w) (c := 61) h31_ ⟨by omega, by omega⟩ g31_sI) (cs_k_419 h31_) bc_7 (by decide) w_4_59 w_4_60 w_4_61 w_1_11 w_4_62 (by decide +kernel) rfl ⟨by decide, by decide⟩ ⟨by omega, by omega⟩ (Nat.le_of_ble_eq_true rfl) rfl dX11_readAhead_110 (fun _ _ _ q => q) ?_
          rintro r36_ S36_ z36_ ⟨rfl, f36_, v37_, rfl, b_v37_, q36_, g36_sI⟩
          have y38_ : m_P S36_ 908 (x + 418) = some (b_kn X oi) := (f36_.2.2.1 908 (by decide) _).trans (by simp (disch := omega) only [y_P_s_P, x_P_s_P, z_P_s_I, z_P_s_J, z_P_s_A, z_P_s_B, y33_, y34_])
          have y39_ : m_P S36_ 907 (x + 418) = some dr := (f36_.2.2.1 907 (by decide) _).trans (by simp (disch := omega) only [y_P_s_P, x_P_s_P, z_P_s_I, z_P_s_J, z_P_s_A, z_P_s_B, y33_, y34_])
          have h36_ : cS S36_ x := f36_.keep (by decide) h31_
          have g36_gL : gL S36_ x := gL.fr g31_gL h31_ f36_ (by decide)
          refine u_if_eq hX (tgt := 120) dX11_readAhead_113 (by decide) ⟨by omega, by omega⟩ (fun h40_ => ?_) (fun h40_ => ?_)
          ·
            refine v_iconst hX (v := iI 0) dX11_readAhead_120 rfl ?_
            exact v_zreturn hX (nar_b (by omega)) hE dX11_readAhead_121 (by omega) (by omega) ⟨rfl, ((((cFr.rf _ _).tr (f26_.mono (by decide) (by decide) (by decide))).tr (f31_.mono (by decide) (by decide) (by decide))).tr (f36_.mono (by decide) (by decide) (by decide))), 0, rfl, (by omega), trivial, (fun _ h3_ => False.elim (by have h9 : sW oi = 8 := (by rw [h3_]; exact sW_call); omega)), g36_sI, g36_gL⟩
          ·
            refine v_iconst hX (v := iI 1) dX11_readAhead_116 rfl ?_
            refine v_goto hX (tgt := 121) dX11_readAhead_117 (by decide) ?_
            exact v_zreturn hX (nar_b (by omega)) hE dX11_readAhead_121 (by omega) (by omega) ⟨rfl, ((((cFr.rf _ _).tr (f26_.mono (by decide) (by decide) (by decide))).tr (f31_.mono (by decide) (by decide) (by decide))).tr (f36_.mono (by decide) (by decide) (by decide))), 1, rfl, (by omega), trivial, (fun _ h3_ => False.elim (by have h9 : sW oi = 8 := (by rw [h3_]; exact sW_call); omega)), g36_sI, g36_gL⟩
    ·
      refine v_tableIn hX (off := 111) (tgt := 122) dX11_readAhead_11 (by rw [iI_to ⟨by omega, by omega⟩]; omega) (by rw [iI_to ⟨by omega, by omega⟩]; omega) (by rw [iI_to ⟨by omega, by omega⟩, h5_]; rfl) (by decide) ?_
      refine v_aload_n hX dX11_readAhead_122 (i := 0) rfl rfl ?_
      refine v_callV hX (n := 0) (g_T_readRegister (S := S) (x := x) (w := w) (dr := dr) h (by simp (disch := omega) only [y_P_s_P, x_P_s_P, z_P_s_I, z_P_s_J, z_P_s_A, z_P_s_B, e_oi, e_dr]) hs_dr g_sI) (cs_k_418 h) bc_9 (by decide) w_4_53 w_4_55 (bw_p (q := (yX11_readRegister, 16)) (List.mem_of_getElem? (i := 15) rfl) rfl) w_1_10 w_4_56 (by decide +kernel) rfl ⟨by decide, by decide⟩ ⟨by omega, by omega⟩ (Nat.le_of_ble_eq_true rfl) rfl dX11_readAhead_123 (fun _ _ _ q => q) ?_
      rintro r41_ S41_ z41_ ⟨rfl, f41_, v42_, rfl, b_v42_, q41_, g41_sI⟩
      have y43_ : m_P S41_ 908 (x + 418) = some (b_kn X oi) := (f41_.2.2.1 908 (by decide) _).trans (by simp (disch := omega) only [y_P_s_P, x_P_s_P, z_P_s_I, z_P_s_J, z_P_s_A, z_P_s_B, e_oi, e_dr])
      have y44_ : m_P S41_ 907 (x + 418) = some dr := (f41_.2.2.1 907 (by decide) _).trans (by simp (disch := omega) only [y_P_s_P, x_P_s_P, z_P_s_I, z_P_s_J, z_P_s_A, z_P_s_B, e_oi, e_dr])
      have h41_ : cS S41_ x := f41_.keep (by decide) h
      have g41_gL : gL S41_ x := gL.fr g_gL h f41_ (by decide)
      refine u_if_eq hX (tgt := 152) dX11_readAhead_126 (by decide) ⟨by omega, by omega⟩ (fun h45_ => ?_) (fun h45_ => ?_)
      ·
        refine v_iconst hX (v := iI 0) dX11_readAhead_152 rfl ?_
        exact v_zreturn hX (nar_b (by omega)) hE dX11_readAhead_153 (by omega) (by omega) ⟨rfl, ((cFr.rf _ _).tr (f41_.mono (by decide) (by decide) (by decide))), 0, rfl, (by omega), trivial, (fun _ h3_ => False.elim (by have h9 : sW oi = 8 := (by rw [h3_]; exact sW_call); omega)), g41_sI, g41_gL⟩
      ·
        refine v_aload_n hX dX11_readAhead_129 (i := 0) rfl rfl ?_
        refine v_get hX (ci := 9) (k := 4) (cs_k_418 h41_) bc_9 (by decide) (by decide) in_9 w_2_128 dX11_readAhead_130 (mvP (f := 904) (q := (x + 419)) rfl rfl (cs_p_904 h41_)) ?_
        refine v_bipush hX (v := iI 44) dX11_readAhead_133 (by decide) ?_
        refine v_callV hX (n := 1) (g_takes (S := S41_) (x := x) (w := w) (c := 44) h41_ ⟨by omega, by omega⟩ g41_sI) (cs_k_419 h41_) bc_7 (by decide) w_4_59 w_4_60 w_4_61 w_1_11 w_4_62 (by decide +kernel) rfl ⟨by decide, by decide⟩ ⟨by omega, by omega⟩ (Nat.le_of_ble_eq_true rfl) rfl dX11_readAhead_135 (fun _ _ _ q => q) ?_
        rintro r46_ S46_ z46_ ⟨rfl, f46_, v47_, rfl, b_v47_, q46_, g46_sI⟩
        have y48_ : m_P S46_ 908 (x + 418) = some (b_kn X oi) := (f46_.2.2.1 908 (by decide) _).trans (by simp (disch := omega) only [y_P_s_P, x_P_s_P, z_P_s_I, z_P_s_J, z_P_s_A, z_P_s_B, y43_, y44_])
        have y49_ : m_P S46_ 907 (x + 418) = some dr := (f46_.2.2.1 907 (by decide) _).trans (by simp (disch := omega) only [y_P_s_P, x_P_s_P, z_P_s_I, z_P_s_J, z_P_s_A, z_P_s_B, y43_, y44_])
        have h46_ : cS S46_ x := f46_.keep (by decide) h41_
        have g46_gL : gL S46_ x := gL.fr g41_gL h41_ f46_ (by decide)
        refine u_if_eq hX (tgt := 152) dX11_readAhead_138 (by decide) ⟨by omega, by omega⟩ (fun h50_ => ?_) (fun h50_ => ?_)
        ·
          refine v_iconst hX (v := iI 0) dX11_readAhead_152 rfl ?_
          exact v_zreturn hX (nar_b (by omega)) hE dX11_readAhead_153 (by omega) (by omega) ⟨rfl, (((cFr.rf _ _).tr (f41_.mono (by decide) (by decide) (by decide))).tr (f46_.mono (by decide) (by decide) (by decide))), 0, rfl, (by omega), trivial, (fun _ h3_ => False.elim (by have h9 : sW oi = 8 := (by rw [h3_]; exact sW_call); omega)), g46_sI, g46_gL⟩
        ·
          refine v_aload_n hX dX11_readAhead_141 (i := 0) rfl rfl ?_
          refine v_callV hX (n := 0) (g_T_readSecond (S := S46_) (x := x) (w := w) (dr := dr) h46_ (by simp (disch := omega) only [y_P_s_P, x_P_s_P, z_P_s_I, z_P_s_J, z_P_s_A, z_P_s_B, y48_, y49_]) hs_dr g46_sI) (cs_k_418 h46_) bc_9 (by decide) w_4_63 w_4_65 (bw_p (q := (yX11_readSecond, 16)) (List.mem_of_getElem? (i := 16) rfl) rfl) w_1_10 w_4_66 (by decide +kernel) rfl ⟨by decide, by decide⟩ ⟨by omega, by omega⟩ (Nat.le_of_ble_eq_true rfl) rfl dX11_readAhead_142 (fun _ _ _ q => q) ?_
          rintro r51_ S51_ z51_ ⟨rfl, f51_, v52_, rfl, b_v52_, q51_, g51_sI⟩
          have y53_ : m_P S51_ 908 (x + 418) = some (b_kn X oi) := (f51_.2.2.1 908 (by decide) _).trans (by simp (disch := omega) only [y_P_s_P, x_P_s_P, z_P_s_I, z_P_s_J, z_P_s_A, z_P_s_B, y48_, y49_])
          have y54_ : m_P S51_ 907 (x + 418) = some dr := (f51_.2.2.1 907 (by decide) _).trans (by simp (disch := omega) only [y_P_s_P, x_P_s_P, z_P_s_I, z_P_s_J, z_P_s_A, z_P_s_B, y48_, y49_])
          have h51_ : cS S51_ x := f51_.keep (by decide) h46_
          have g51_gL : gL S51_ x := gL.fr g46_gL h46_ f51_ (by decide)
          refine u_if_eq hX (tgt := 152) dX11_readAhead_145 (by decide) ⟨by omega, by omega⟩ (fun h55_ => ?_) (fun h55_ => ?_)
          ·
            refine v_iconst hX (v := iI 0) dX11_readAhead_152 rfl ?_
            exact v_zreturn hX (nar_b (by omega)) hE dX11_readAhead_153 (by omega) (by omega) ⟨rfl, ((((cFr.rf _ _).tr (f41_.mono (by decide) (by decide) (by decide))).tr (f46_.mono (by decide) (by decide) (by decide))).tr (f51_.mono (by decide) (by decide) (by decide))), 0, rfl, (by omega), trivial, (fun _ h3_ => False.elim (by have h9 : sW oi = 8 := (by rw [h3_]; exact sW_call); omega)), g51_sI, g51_gL⟩
          ·
            refine v_iconst hX (v := iI 1) dX11_readAhead_148 rfl ?_
            refine v_goto hX (tgt := 153) dX11_readAhead_149 (by decide) ?_
            exact v_zreturn hX (nar_b (by omega)) hE dX11_readAhead_153 (by omega) (by omega) ⟨rfl, ((((cFr.rf _ _).tr (f41_.mono (by decide) (by decide) (by decide))).tr (f46_.mono (by decide) (by decide) (by decide))).tr (f51_.mono (by decide) (by decide) (by decide))), 1, rfl, (by omega), trivial, (fun _ h3_ => False.elim (by have h9 : sW oi = 8 := (by rw [h3_]; exact sW_call); omega)), g51_sI, g51_gL⟩
    ·
      refine v_tableIn hX (off := 111) (tgt := 122) dX11_readAhead_11 (by rw [iI_to ⟨by omega, by omega⟩]; omega) (by rw [iI_to ⟨by omega, by omega⟩]; omega) (by rw [iI_to ⟨by omega, by omega⟩, h5_]; rfl) (by decide) ?_
      refine v_aload_n hX dX11_readAhead_122 (i := 0) rfl rfl ?_
      refine v_callV hX (n := 0) (g_T_readRegister (S := S) (x := x) (w := w) (dr := dr) h (by simp (disch := omega) only [y_P_s_P, x_P_s_P, z_P_s_I, z_P_s_J, z_P_s_A, z_P_s_B, e_oi, e_dr]) hs_dr g_sI) (cs_k_418 h) bc_9 (by decide) w_4_53 w_4_55 (bw_p (q := (yX11_readRegister, 16)) (List.mem_of_getElem? (i := 15) rfl) rfl) w_1_10 w_4_56 (by decide +kernel) rfl ⟨by decide, by decide⟩ ⟨by omega, by omega⟩ (Nat.le_of_ble_eq_true rfl) rfl dX11_readAhead_123 (fun _ _ _ q => q) ?_
      rintro r56_ S56_ z56_ ⟨rfl, f56_, v57_, rfl, b_v57_, q56_, g56_sI⟩
      have y58_ : m_P S56_ 908 (x + 418) = some (b_kn X oi) := (f56_.2.2.1 908 (by decide) _).trans (by simp (disch := omega) only [y_P_s_P, x_P_s_P, z_P_s_I, z_P_s_J, z_P_s_A, z_P_s_B, e_oi, e_dr])
      have y59_ : m_P S56_ 907 (x + 418) = some dr := (f56_.2.2.1 907 (by decide) _).trans (by simp (disch := omega) only [y_P_s_P, x_P_s_P, z_P_s_I, z_P_s_J, z_P_s_A, z_P_s_B, e_oi, e_dr])
      have h56_ : cS S56_ x := f56_.keep (by decide) h
      have g56_gL : gL S56_ x := gL.fr g_gL h f56_ (by decide)
      refine u_if_eq hX (tgt := 152) dX11_readAhead_126 (by decide) ⟨by omega, by omega⟩ (fun h60_ => ?_) (fun h60_ => ?_)
      ·
        refine v_iconst hX (v := iI 0) dX11_readAhead_152 rfl ?_
        exact v_zreturn hX (nar_b (by omega)) hE dX11_readAhead_153 (by omega) (by omega) ⟨rfl, ((cFr.rf _ _).tr (f56_.mono (by decide) (by decide) (by decide))), 0, rfl, (by omega), trivial, (fun _ h3_ => False.elim (by have h9 : sW oi = 8 := (by rw [h3_]; exact sW_call); omega)), g56_sI, g56_gL⟩
      ·
        refine v_aload_n hX dX11_readAhead_129 (i := 0) rfl rfl ?_
        refine v_get hX (ci := 9) (k := 4) (cs_k_418 h56_) bc_9 (by decide) (by decide) in_9 w_2_128 dX11_readAhead_130 (mvP (f := 904) (q := (x + 419)) rfl rfl (cs_p_904 h56_)) ?_
        refine v_bipush hX (v := iI 44) dX11_readAhead_133 (by decide) ?_
        refine v_callV hX (n := 1) (g_takes (S := S56_) (x := x) (w := w) (c := 44) h56_ ⟨by omega, by omega⟩ g56_sI) (cs_k_419 h56_) bc_7 (by decide) w_4_59 w_4_60 w_4_61 w_1_11 w_4_62 (by decide +kernel) rfl ⟨by decide, by decide⟩ ⟨by omega, by omega⟩ (Nat.le_of_ble_eq_true rfl) rfl dX11_readAhead_135 (fun _ _ _ q => q) ?_
        rintro r61_ S61_ z61_ ⟨rfl, f61_, v62_, rfl, b_v62_, q61_, g61_sI⟩
        have y63_ : m_P S61_ 908 (x + 418) = some (b_kn X oi) := (f61_.2.2.1 908 (by decide) _).trans (by simp (disch := omega) only [y_P_s_P, x_P_s_P, z_P_s_I, z_P_s_J, z_P_s_A, z_P_s_B, y58_, y59_])
        have y64_ : m_P S61_ 907 (x + 418) = some dr := (f61_.2.2.1 907 (by decide) _).trans (by simp (disch := omega) only [y_P_s_P, x_P_s_P, z_P_s_I, z_P_s_J, z_P_s_A, z_P_s_B, y58_, y59_])
        have h61_ : cS S61_ x := f61_.keep (by decide) h56_
        have g61_gL : gL S61_ x := gL.fr g56_gL h56_ f61_ (by decide)
        refine u_if_eq hX (tgt := 152) dX11_readAhead_138 (by decide) ⟨by omega, by omega⟩ (fun h65_ => ?_) (fun h65_ => ?_)
        ·
          refine v_iconst hX (v := iI 0) dX11_readAhead_152 rfl ?_
          exact v_zreturn hX (nar_b (by omega)) hE dX11_readAhead_153 (by omega) (by omega) ⟨rfl, (((cFr.rf _ _).tr (f56_.mono (by decide) (by decide) (by decide))).tr (f61_.mono (by decide) (by decide) (by decide))), 0, rfl, (by omega), trivial, (fun _ h3_ => False.elim (by have h9 : sW oi = 8 := (by rw [h3_]; exact sW_call); omega)), g61_sI, g61_gL⟩
        ·
          refine v_aload_n hX dX11_readAhead_141 (i := 0) rfl rfl ?_
          refine v_callV hX (n := 0) (g_T_readSecond (S := S61_) (x := x) (w := w) (dr := dr) h61_ (by simp (disch := omega) only [y_P_s_P, x_P_s_P, z_P_s_I, z_P_s_J, z_P_s_A, z_P_s_B, y63_, y64_]) hs_dr g61_sI) (cs_k_418 h61_) bc_9 (by decide) w_4_63 w_4_65 (bw_p (q := (yX11_readSecond, 16)) (List.mem_of_getElem? (i := 16) rfl) rfl) w_1_10 w_4_66 (by decide +kernel) rfl ⟨by decide, by decide⟩ ⟨by omega, by omega⟩ (Nat.le_of_ble_eq_true rfl) rfl dX11_readAhead_142 (fun _ _ _ q => q) ?_
          rintro r66_ S66_ z66_ ⟨rfl, f66_, v67_, rfl, b_v67_, q66_, g66_sI⟩
          have y68_ : m_P S66_ 908 (x + 418) = some (b_kn X oi) := (f66_.2.2.1 908 (by decide) _).trans (by simp (disch := omega) only [y_P_s_P, x_P_s_P, z_P_s_I, z_P_s_J, z_P_s_A, z_P_s_B, y63_, y64_])
          have y69_ : m_P S66_ 907 (x + 418) = some dr := (f66_.2.2.1 907 (by decide) _).trans (by simp (disch := omega) only [y_P_s_P, x_P_s_P, z_P_s_I, z_P_s_J, z_P_s_A, z_P_s_B, y63_, y64_])
          have h66_ : cS S66_ x := f66_.keep (by decide) h61_
          have g66_gL : gL S66_ x := gL.fr g61_gL h61_ f66_ (by decide)
          refine u_if_eq hX (tgt := 152) dX11_readAhead_145 (by decide) ⟨by omega, by omega⟩ (fun h70_ => ?_) (fun h70_ => ?_)
          ·
            refine v_iconst hX (v := iI 0) dX11_readAhead_152 rfl ?_
            exact v_zreturn hX (nar_b (by omega)) hE dX11_readAhead_153 (by omega) (by omega) ⟨rfl, ((((cFr.rf _ _).tr (f56_.mono (by decide) (by decide) (by decide))).tr (f61_.mono (by decide) (by decide) (by decide))).tr (f66_.mono (by decide) (by decide) (by decide))), 0, rfl, (by omega), trivial, (fun _ h3_ => False.elim (by have h9 : sW oi = 8 := (by rw [h3_]; exact sW_call); omega)), g66_sI, g66_gL⟩
          ·
            refine v_iconst hX (v := iI 1) dX11_readAhead_148 rfl ?_
            refine v_goto hX (tgt := 153) dX11_readAhead_149 (by decide) ?_
            exact v_zreturn hX (nar_b (by omega)) hE dX11_readAhead_153 (by omega) (by omega) ⟨rfl, ((((cFr.rf _ _).tr (f56_.mono (by decide) (by decide) (by decide))).tr (f61_.mono (by decide) (by decide) (by decide))).tr (f66_.mono (by decide) (by decide) (by decide))), 1, rfl, (by omega), trivial, (fun _ h3_ => False.elim (by have h9 : sW oi = 8 := (by rw [h3_]; exact sW_call); omega)), g66_sI, g66_gL⟩
    ·
      refine v_tableIn hX (off := 143) (tgt := 154) dX11_readAhead_11 (by rw [iI_to ⟨by omega, by omega⟩]; omega) (by rw [iI_to ⟨by omega, by omega⟩]; omega) (by rw [iI_to ⟨by omega, by omega⟩, h5_]; rfl) (by decide) ?_
      refine v_aload_n hX dX11_readAhead_154 (i := 0) rfl rfl ?_
      refine v_callV hX (n := 0) (g_T_readToldName (S := S) (x := x) (w := w) h g_sI) (cs_k_418 h) bc_9 (by decide) w_4_67 w_4_69 (bw_p (q := (yX11_readToldName, 16)) (List.mem_of_getElem? (i := 17) rfl) rfl) w_1_10 w_4_70 (by decide +kernel) rfl ⟨by decide, by decide⟩ ⟨by omega, by omega⟩ (Nat.le_of_ble_eq_true rfl) rfl dX11_readAhead_155 (fun _ _ _ q => q) ?_
      rintro r71_ S71_ z71_ ⟨rfl, f71_, v72_, rfl, b_v72_, q71_, g71_sI⟩
      have y73_ : m_P S71_ 908 (x + 418) = some (b_kn X oi) := (f71_.2.2.1 908 (by decide) _).trans (by simp (disch := omega) only [y_P_s_P, x_P_s_P, z_P_s_I, z_P_s_J, z_P_s_A, z_P_s_B, e_oi, e_dr])
      have y74_ : m_P S71_ 907 (x + 418) = some dr := (f71_.2.2.1 907 (by decide) _).trans (by simp (disch := omega) only [y_P_s_P, x_P_s_P, z_P_s_I, z_P_s_J, z_P_s_A, z_P_s_B, e_oi, e_dr])
      have h71_ : cS S71_ x := f71_.keep (by decide) h
      have g71_gL : gL S71_ x := gL.fr g_gL h f71_ (by decide)
      refine u_if_eq hX (tgt := 188) dX11_readAhead_158 (by decide) ⟨by omega, by omega⟩ (fun h75_ => ?_) (fun h75_ => ?_)
      ·
        refine v_iconst hX (v := iI 0) dX11_readAhead_188 rfl ?_
        exact v_zreturn hX (nar_b (by omega)) hE dX11_readAhead_189 (by omega) (by omega) ⟨rfl, ((cFr.rf _ _).tr (f71_.mono (by decide) (by decide) (by decide))), 0, rfl, (by omega), trivial, (fun _ h3_ => False.elim (by have h9 : sW oi = 8 := (by rw [h3_]; exact sW_call); omega)), g71_sI, g71_gL⟩
      ·
        refine v_aload_n hX dX11_readAhead_161 (i := 0) rfl rfl ?_
        obtain ⟨v76_, e_v76_, b_v76_⟩ := j_ex (m_J S71_ 910 (x + 418))
        refine v_get hX (ci := 9) (k := 10) (cs_k_418 h71_) bc_9 (by decide) (by decide) in_9 w_2_136 dX11_readAhead_162 (mvG (f := 910) (v := jJ v76_) rfl rfl e_v76_) ?_
        refine v_callS hX (n := 1) (t_registerOf (S := S71_) (x := x) (w := w) (v := v76_) h71_ ⟨by omega, by omega⟩) w_4_25 w_4_26 w_1_11 w_4_27 (by decide +kernel) rfl ⟨by decide, by decide⟩ ⟨by omega, by omega⟩ (Nat.le_of_ble_eq_true rfl) rfl dX11_readAhead_165 (fun _ _ _ q => q) ?_
        rintro r77_ S77_ z77_ ⟨rfl, rfl, v78_, rfl, b_v78_, q77_⟩
        refine v_iconst hX (v := iI (-1)) dX11_readAhead_168 rfl ?_
        refine u_icmp_ne hX (tgt := 188) dX11_readAhead_169 (by decide) ⟨by omega, by omega⟩ ⟨by omega, by omega⟩ (fun h79_ => ?_) (fun h79_ => ?_)
        ·
          refine v_iconst hX (v := iI 0) dX11_readAhead_188 rfl ?_
          exact v_zreturn hX (nar_b (by omega)) hE dX11_readAhead_189 (by omega) (by omega) ⟨rfl, ((cFr.rf _ _).tr (f71_.mono (by decide) (by decide) (by decide))), 0, rfl, (by omega), trivial, (fun _ h3_ => False.elim (by have h9 : sW oi = 8 := (by rw [h3_]; exact sW_call); omega)), g71_sI, g71_gL⟩
        ·
          refine v_aload_n hX dX11_readAhead_172 (i := 0) rfl rfl ?_
          refine v_get hX (ci := 9) (k := 4) (cs_k_418 h71_) bc_9 (by decide) (by decide) in_9 w_2_128 dX11_readAhead_173 (mvP (f := 904) (q := (x + 419)) rfl rfl (cs_p_904 h71_)) ?_
          refine v_bipush hX (v := iI 44) dX11_readAhead_176 (by decide) ?_
          refine v_callV hX (n := 1) (g_takes (S := S71_) (x := x) (w := w) (c := 44) h71_ ⟨by omega, by omega⟩ g71_sI) (cs_k_419 h71_) bc_7 (by decide) w_4_59 w_4_60 w_4_61 w_1_11 w_4_62 (by decide +kernel) rfl ⟨by decide, by decide⟩ ⟨by omega, by omega⟩ (Nat.le_of_ble_eq_true rfl) rfl dX11_readAhead_178 (fun _ _ _ q => q) ?_
          rintro r80_ S80_ z80_ ⟨rfl, f80_, v81_, rfl, b_v81_, q80_, g80_sI⟩
          have y82_ : m_P S80_ 908 (x + 418) = some (b_kn X oi) := (f80_.2.2.1 908 (by decide) _).trans (by simp (disch := omega) only [y_P_s_P, x_P_s_P, z_P_s_I, z_P_s_J, z_P_s_A, z_P_s_B, y73_, y74_])
          have y83_ : m_P S80_ 907 (x + 418) = some dr := (f80_.2.2.1 907 (by decide) _).trans (by simp (disch := omega) only [y_P_s_P, x_P_s_P, z_P_s_I, z_P_s_J, z_P_s_A, z_P_s_B, y73_, y74_])
          have h80_ : cS S80_ x := f80_.keep (by decide) h71_
          have g80_gL : gL S80_ x := gL.fr g71_gL h71_ f80_ (by decide)
          refine u_if_eq hX (tgt := 188) dX11_readAhead_181 (by decide) ⟨by omega, by omega⟩ (fun h84_ => ?_) (fun h84_ => ?_)
          ·
            refine v_iconst hX (v := iI 0) dX11_readAhead_188 rfl ?_
            exact v_zreturn hX (nar_b (by omega)) hE dX11_readAhead_189 (by omega) (by omega) ⟨rfl, (((cFr.rf _ _).tr (f71_.mono (by decide) (by decide) (by decide))).tr (f80_.mono (by decide) (by decide) (by decide))), 0, rfl, (by omega), trivial, (fun _ h3_ => False.elim (by have h9 : sW oi = 8 := (by rw [h3_]; exact sW_call); omega)), g80_sI, g80_gL⟩
          ·
            refine v_iconst hX (v := iI 1) dX11_readAhead_184 rfl ?_
            refine v_goto hX (tgt := 189) dX11_readAhead_185 (by decide) ?_
            exact v_zreturn hX (nar_b (by omega)) hE dX11_readAhead_189 (by omega) (by omega) ⟨rfl, (((cFr.rf _ _).tr (f71_.mono (by decide) (by decide) (by decide))).tr (f80_.mono (by decide) (by decide) (by decide))), 1, rfl, (by omega), trivial, (fun _ h3_ => False.elim (by have h9 : sW oi = 8 := (by rw [h3_]; exact sW_call); omega)), g80_sI, g80_gL⟩
    ·
      refine v_tableIn hX (off := 179) (tgt := 190) dX11_readAhead_11 (by rw [iI_to ⟨by omega, by omega⟩]; omega) (by rw [iI_to ⟨by omega, by omega⟩]; omega) (by rw [iI_to ⟨by omega, by omega⟩, h5_]; rfl) (by decide) ?_
      refine v_aload_n hX dX11_readAhead_190 (i := 0) rfl rfl ?_
      obtain ⟨v85_, e_v85_, b_v85_⟩ := j_ex (m_J S 909 (x + 418))
      refine v_get hX (ci := 9) (k := 9) (cs_k_418 h) bc_9 (by decide) (by decide) in_9 w_2_135 dX11_readAhead_191 (mvG (f := 909) (v := jJ v85_) rfl rfl e_v85_) ?_
      refine v_lconst hX (v := jJ 0) dX11_readAhead_194 rfl ?_
      refine u_lcmp hX dX11_readAhead_195 ⟨by omega, by omega⟩ ⟨by omega, by omega⟩ (fun v86_ b_v86_ c_v86_ => ?_)
      refine u_if_ne hX (tgt := 220) dX11_readAhead_196 (by decide) ⟨by omega, by omega⟩ (fun h87_ => ?_) (fun h87_ => ?_)
      ·
        refine v_iconst hX (v := iI 0) dX11_readAhead_220 rfl ?_
        exact v_zreturn hX (nar_b (by omega)) hE dX11_readAhead_221 (by omega) (by omega) ⟨rfl, (cFr.rf _ _), 0, rfl, (by omega), trivial, (fun _ h3_ => False.elim (by have h9 : sW oi = 8 := (by rw [h3_]; exact sW_call); omega)), g_sI, g_gL⟩
      ·
        refine v_aload_n hX dX11_readAhead_199 (i := 0) rfl rfl ?_
        refine v_get hX (ci := 9) (k := 6) (cs_k_418 h) bc_9 (by decide) (by decide) in_9 w_2_131 dX11_readAhead_200 (mvP (f := 906) (q := (x + 425)) rfl rfl (cs_p_906 h)) ?_
        refine v_callV hX (n := 0) (t_L_isMade (S := S) (x := x) (w := w) h) (cs_k_425 h) bc_3 (by decide) w_4_71 w_4_72 w_4_73 w_1_13 w_4_74 (by decide +kernel) rfl ⟨by decide, by decide⟩ ⟨by omega, by omega⟩ (Nat.le_of_ble_eq_true rfl) rfl dX11_readAhead_203 (fun _ _ _ q => q) ?_
        rintro r88_ S88_ z88_ ⟨rfl, rfl, v89_, rfl, b_v89_, q88_⟩
        refine u_if_ne hX (tgt := 220) dX11_readAhead_206 (by decide) ⟨by omega, by omega⟩ (fun h90_ => ?_) (fun h90_ => ?_)
        ·
          refine v_iconst hX (v := iI 0) dX11_readAhead_220 rfl ?_
          exact v_zreturn hX (nar_b (by omega)) hE dX11_readAhead_221 (by omega) (by omega) ⟨rfl, (cFr.rf _ _), 0, rfl, (by omega), trivial, (fun _ h3_ => False.elim (by have h9 : sW oi = 8 := (by rw [h3_]; exact sW_call); omega)), g_sI, g_gL⟩
        ·
          refine v_aload_n hX dX11_readAhead_209 (i := 0) rfl rfl ?_
          refine v_callV hX (n := 0) (g_T_readToldName (S := S) (x := x) (w := w) h g_sI) (cs_k_418 h) bc_9 (by decide) w_4_67 w_4_69 (bw_p (q := (yX11_readToldName, 16)) (List.mem_of_getElem? (i := 17) rfl) rfl) w_1_10 w_4_70 (by decide +kernel) rfl ⟨by decide, by decide⟩ ⟨by omega, by omega⟩ (Nat.le_of_ble_eq_true rfl) rfl dX11_readAhead_210 (fun _ _ _ q => q) ?_
          rintro r91_ S91_ z91_ ⟨rfl, f91_, v92_, rfl, b_v92_, q91_, g91_sI⟩
          have y93_ : m_P S91_ 908 (x + 418) = some (b_kn X oi) := (f91_.2.2.1 908 (by decide) _).trans (by simp (disch := omega) only [y_P_s_P, x_P_s_P, z_P_s_I, z_P_s_J, z_P_s_A, z_P_s_B, e_oi, e_dr])
          have y94_ : m_P S91_ 907 (x + 418) = some dr := (f91_.2.2.1 907 (by decide) _).trans (by simp (disch := omega) only [y_P_s_P, x_P_s_P, z_P_s_I, z_P_s_J, z_P_s_A, z_P_s_B, e_oi, e_dr])
          have h91_ : cS S91_ x := f91_.keep (by decide) h
          have g91_gL : gL S91_ x := gL.fr g_gL h f91_ (by decide)
          refine u_if_eq hX (tgt := 220) dX11_readAhead_213 (by decide) ⟨by omega, by omega⟩ (fun h95_ => ?_) (fun h95_ => ?_)
          ·
            refine v_iconst hX (v := iI 0) dX11_readAhead_220 rfl ?_
            exact v_zreturn hX (nar_b (by omega)) hE dX11_readAhead_221 (by omega) (by omega) ⟨rfl, ((cFr.rf _ _).tr (f91_.mono (by decide) (by decide) (by decide))), 0, rfl, (by omega), trivial, (fun _ h3_ => False.elim (by have h9 : sW oi = 8 := (by rw [h3_]; exact sW_call); omega)), g91_sI, g91_gL⟩
          ·
            refine v_iconst hX (v := iI 1) dX11_readAhead_216 rfl ?_
            refine v_goto hX (tgt := 221) dX11_readAhead_217 (by decide) ?_
            exact v_zreturn hX (nar_b (by omega)) hE dX11_readAhead_221 (by omega) (by omega) ⟨rfl, ((cFr.rf _ _).tr (f91_.mono (by decide) (by decide) (by decide))), 1, rfl, (by omega), trivial, (fun _ h3_ => False.elim (by have h9 : sW oi = 8 := (by rw [h3_]; exact sW_call); omega)), g91_sI, g91_gL⟩
    ·
      refine v_tableIn hX (off := 211) (tgt := 222) dX11_readAhead_11 (by rw [iI_to ⟨by omega, by omega⟩]; omega) (by rw [iI_to ⟨by omega, by omega⟩]; omega) (by rw [iI_to ⟨by omega, by omega⟩, h5_]; rfl) (by decide) ?_
      refine v_aload_n hX dX11_readAhead_222 (i := 0) rfl rfl ?_
      refine v_get hX (ci := 9) (k := 6) (cs_k_418 h) bc_9 (by decide) (by decide) in_9 w_2_131 dX11_readAhead_223 (mvP (f := 906) (q := (x + 425)) rfl rfl (cs_p_906 h)) ?_
      refine v_aload_n hX dX11_readAhead_226 (i := 0) rfl rfl ?_
      refine v_get hX (ci := 9) (k := 4) (cs_k_418 h) bc_9 (by decide) (by decide) in_9 w_2_128 dX11_readAhead_227 (mvP (f := 904) (q := (x + 419)) rfl rfl (cs_p_904 h)) ?_
      refine v_callV hX (n := 1) (g_L_readOperands (S := S) (x := x) (w := w) h g_sI g_gL) (cs_k_425 h) bc_3 (by decide) w_4_75 w_4_76 w_4_77 w_1_13 w_4_78 (by decide +kernel) rfl ⟨by decide, by decide⟩ ⟨by omega, by omega⟩ (Nat.le_of_ble_eq_true rfl) rfl dX11_readAhead_230 (fun _ _ _ q => q) ?_
      rintro r96_ S96_ z96_ ⟨rfl, f96_, v97_, rfl, b_v97_, q96_, g96_sI, g96_gL, g96_gO⟩
      have y98_ : m_P S96_ 908 (x + 418) = some (b_kn X oi) := (f96_.2.2.1 908 (by decide) _).trans (by simp (disch := omega) only [y_P_s_P, x_P_s_P, z_P_s_I, z_P_s_J, z_P_s_A, z_P_s_B, e_oi, e_dr])
      have y99_ : m_P S96_ 907 (x + 418) = some dr := (f96_.2.2.1 907 (by decide) _).trans (by simp (disch := omega) only [y_P_s_P, x_P_s_P, z_P_s_I, z_P_s_J, z_P_s_A, z_P_s_B, e_oi, e_dr])
      have h96_ : cS S96_ x := f96_.keep (by decide) h
      exact v_zreturn hX (nar_b (by omega)) hE dX11_readAhead_233 (by omega) (by omega) ⟨rfl, ((cFr.rf _ _).tr (f96_.mono (by decide) (by decide) (by decide))), v97_, rfl, (by omega), trivial, (fun _ _ => g96_gO), g96_sI, g96_gL⟩
    ·
      refine v_tableIn hX (off := 223) (tgt := 234) dX11_readAhead_11 (by rw [iI_to ⟨by omega, by omega⟩]; omega) (by rw [iI_to ⟨by omega, by omega⟩]; omega) (by rw [iI_to ⟨by omega, by omega⟩, h5_]; rfl) (by decide) ?_
      refine v_iconst hX (v := iI 0) dX11_readAhead_234 rfl ?_
      exact v_zreturn hX (nar_b (by omega)) hE dX11_readAhead_235 (by omega) (by omega) ⟨rfl, (cFr.rf _ _), 0, rfl, (by omega), trivial, (fun _ h3_ => False.elim (by have h9 : sW oi = 8 := (by rw [h3_]; exact sW_call); omega)), g_sI, g_gL⟩
  ·
    refine v_tableOut hX (tgt := 236) dX11_readAhead_11 (by rw [iI_to ⟨by omega, by omega⟩]; omega) (by decide) ?_
    refine v_iconst hX (v := iI 1) dX11_readAhead_236 rfl ?_
    exact v_zreturn hX (nar_b (by omega)) hE dX11_readAhead_237 (by omega) (by omega) ⟨rfl, (cFr.rf _ _), 1, rfl, (by omega), trivial, (fun _ h3_ => False.elim (by have h9 : sW oi = 8 := (by rw [h3_]; exact sW_call); omega)), g_sI, g_gL⟩
set_option maxRecDepth 100000 in
set_option maxHeartbeats 4000000 in
theorem g_T_readValues {kn : Nat → Nat} {B : Nat} {S : b_M} {z x w : Nat} {oi : Nat} {dr : Nat} {lo : Int} {hi : Int} {mc ms : Nat} (h : cS S x) (e_oi : m_P S 908 (x + 418) = some (kn oi)) (o_oi : oi < 17) (e_dr : m_P S 907 (x + 418) = some dr) (hs_dr : isS x dr) (g_eI : eI S x w) (g_hM : hM S x w) (g_gN : gN S x) (g_sI : sI S x lo hi) (rm_ : 2 * (2162688 - lA S x) ≤ (ms : Int) ∧ 2 * (2162688 - lA S x) ≤ 256 * (mc : Int)) (zw : x + 457 ≤ w ∧ w ≤ z) : a_C kn B yX11_readValues cX11_readValues 2 (some .boolean) 5 136 mc ms [.ref (x + 418)] S z (fun r S' z' uc us => z ≤ z' ∧ cFr [205, 206, 207, 701, 703, 704, 806] [204] [12, 13, 14] w S S' x ∧ ∃ q : Int, r = some (.int (iI q)) ∧ (q = 0 ∨ q = 1) ∧ ((us : Int) ≤ 2 * (lA S' x - lA S x) ∧ 256 * (uc : Int) ≤ (us : Int)) ∧ (True) ∧ (eI S' x w) ∧ (hM S' x w) ∧ (sI S' x lo hi)) (fun _ _ _ _ _ => False) := by
  refine a_enter (by decide) (Nat.le_of_ble_eq_true rfl) ?_
  intro X hX hE hnL hkn hB hI_
  subst hkn; subst hB
  clear hI_
  change b_V X S z 0 0 0 [(0, .ref (x + 418))] []
  have ab_ : lA S x ≤ 2162688 := lA_le g_eI g_hM
  have L2 : ∀ (n2 : Nat) (S2c : b_M) (i : Int) (z2c ce2c sl2c : Nat), cFr [205, 206, 207, 701, 703, 704, 806] [204] [12, 13, 14] w S S2c x → z ≤ z2c → ((sl2c : Int) ≤ 2 * (lA S2c x - lA S x) ∧ 256 * (ce2c : Int) ≤ (sl2c : Int)) → (0 ≤ i ∧ i ≤ 17) → eI S2c x w → hM S2c x w → gN S2c x → sI S2c x lo hi → (oI 4 oi - i).toNat = n2 → b_V X S2c z2c ce2c sl2c 2 [(1, .int (iI i)), (0, .ref (x + 418))] [] := by
    intro n2
    induction n2 using Nat.strongRecOn with
    | _ n2 ih2 =>
    intro S2c i z2c ce2c sl2c fr2 hz2 ha2 p2_0 g2_eI g2_hM g2_gN g2_sI hm2
    have h2c : cS S2c x := fr2.keep (by decide) h
    have e2_oi : m_P S2c 908 (x + 418) = some (b_kn X oi) := (fr2.2.2.1 908 (by decide) _).trans e_oi
    have e2_dr : m_P S2c 907 (x + 418) = some dr := (fr2.2.2.1 907 (by decide) _).trans e_dr
    have ab2_ : lA S2c x ≤ 2162688 := lA_le g2_eI g2_hM
    refine v_iload_n hX dX11_readValues_2 (i := 1) rfl rfl ?_
    refine v_aload_n hX dX11_readValues_3 (i := 0) rfl rfl ?_
    refine v_get hX (ci := 9) (k := 8) (cs_k_418 h2c) bc_9 (by decide) (by decide) in_9 w_2_134 dX11_readValues_4 (mvP (f := 908) (q := (b_kn X oi)) rfl rfl (by simp (disch := omega) only [y_P_s_P, x_P_s_P, z_P_s_I, z_P_s_J, z_P_s_A, z_P_s_B, e2_oi, e2_dr])) ?_
    refine w_getO hX (i := oi) (k := 4) (by omega) (by decide) w_8_1 dX11_readValues_7 ?_
    have b1_ := oI_b 4 (by decide) oi (by omega)
    refine u_icmp_ge hX (tgt := 62) dX11_readValues_10 (by decide) ⟨by omega, by omega⟩ ⟨by omega, by omega⟩ (fun h2_ => ?_) (fun h2_ => ?_)
    ·
      refine v_aload_n hX dX11_readValues_62 (i := 0) rfl rfl ?_
      refine v_get hX (ci := 9) (k := 8) (cs_k_418 h2c) bc_9 (by decide) (by decide) in_9 w_2_134 dX11_readValues_63 (mvP (f := 908) (q := (b_kn X oi)) rfl rfl (by simp (disch := omega) only [y_P_s_P, x_P_s_P, z_P_s_I, z_P_s_J, z_P_s_A, z_P_s_B, e2_oi, e2_dr])) ?_
      refine w_getO hX (i := oi) (k := 4) (by omega) (by decide) w_8_1 dX11_readValues_66 ?_
      have b3_ := oI_b 4 (by decide) oi (by omega)
      refine u_if_ne hX (tgt := 76) dX11_readValues_69 (by decide) ⟨by omega, by omega⟩ (fun h4_ => ?_) (fun h4_ => ?_)
      ·
        refine v_iconst hX (v := iI 0) dX11_readValues_76 rfl ?_
        exact w_zreturn hX (nar_b (by omega)) hE dX11_readValues_77 ⟨(by omega), fr2, 0, rfl, (by omega), ⟨by omega, by omega⟩, trivial, g2_eI, g2_hM, g2_sI⟩
      ·
        refine v_iconst hX (v := iI 1) dX11_readValues_72 rfl ?_
        refine v_goto hX (tgt := 77) dX11_readValues_73 (by decide) ?_
        exact w_zreturn hX (nar_b (by omega)) hE dX11_readValues_77 ⟨(by omega), fr2, 1, rfl, (by omega), ⟨by omega, by omega⟩, trivial, g2_eI, g2_hM, g2_sI⟩
    ·
      refine v_aload_n hX dX11_readValues_13 (i := 0) rfl rfl ?_
      refine v_get hX (ci := 9) (k := 2) (cs_k_418 h2c) bc_9 (by decide) (by decide) in_9 w_2_126 dX11_readValues_14 (mvP (f := 902) (q := (x + 11)) rfl rfl (cs_p_902 h2c)) ?_
      refine v_aload_n hX dX11_readValues_17 (i := 0) rfl rfl ?_
      refine v_get hX (ci := 9) (k := 4) (cs_k_418 h2c) bc_9 (by decide) (by decide) in_9 w_2_128 dX11_readValues_18 (mvP (f := 904) (q := (x + 419)) rfl rfl (cs_p_904 h2c)) ?_
      refine w_callV hX (n := 1) (g_X_read (S := S2c) (x := x) (w := w) (mc := mc - ce2c) (ms := ms - sl2c) h2c g2_eI g2_hM g2_gN g2_sI ⟨by omega, by omega⟩ (by omega)) (cs_k_11 h2c) bc_2 (by decide) w_4_94 w_4_95 w_4_96 w_1_6 w_4_97 (by decide +kernel) rfl ⟨by decide, by decide⟩ ⟨by omega, by omega⟩ (Nat.le_of_ble_eq_true rfl) rfl dX11_readValues_21 (fun _ _ _ _ _ q => q) ?_
      rintro r5_ S5_ z5_ uc5_ us5_ ⟨hz5_, f5_, v6_, rfl, b_v6_, ha5_, q5_, g5_eI, g5_hM, g5_sI⟩
      have y7_ : m_P S5_ 908 (x + 418) = some (b_kn X oi) := (f5_.2.2.1 908 (by decide) _).trans (by simp (disch := omega) only [y_P_s_P, x_P_s_P, z_P_s_I, z_P_s_J, z_P_s_A, z_P_s_B, e2_oi, e2_dr])
      have y8_ : m_P S5_ 907 (x + 418) = some dr := (f5_.2.2.1 907 (by decide) _).trans (by simp (disch := omega) only [y_P_s_P, x_P_s_P, z_P_s_I, z_P_s_J, z_P_s_A, z_P_s_B, e2_oi, e2_dr])
      have h5_ : cS S5_ x := f5_.keep (by decide) h2c
      have g5_gN : gN S5_ x := gN.fr g2_gN h2c f5_ (by decide)
      have ab5_ : lA S5_ x ≤ 2162688 := lA_le g5_eI g5_hM
      refine u_if_ne hX (tgt := 29) dX11_readValues_24 (by decide) ⟨by omega, by omega⟩ (fun h9_ => ?_) (fun h9_ => ?_)
      ·
        refine v_aload_n hX dX11_readValues_29 (i := 0) rfl rfl ?_
        refine v_get hX (ci := 9) (k := 7) (cs_k_418 h5_) bc_9 (by decide) (by decide) in_9 w_2_133 dX11_readValues_30 (mvP (f := 907) (q := dr) rfl rfl (by simp (disch := omega) only [y_P_s_P, x_P_s_P, z_P_s_I, z_P_s_J, z_P_s_A, z_P_s_B, y7_, y8_])) ?_
        refine v_dup hX dX11_readValues_33 rfl ?_
        obtain ⟨v10_, e_v10_, b_v10_⟩ := i_ex (m_I S5_ 806 dr)
        refine v_get hX (ci := 8) (k := 6) (isS_k h5_ hs_dr) bc_8 (by decide) (by decide) in_8 w_1_159 dX11_readValues_34 (mvF (f := 806) (v := iI v10_) rfl rfl (by simp (disch := omega) only [y_I_s_I, x_I_s_I, z_I_s_J, z_I_s_A, z_I_s_B, z_I_s_P, e_v10_])) ?_
        refine v_iconst hX (v := iI 1) dX11_readValues_37 rfl ?_
        refine u_iadd hX dX11_readValues_38 ?_
        obtain ⟨v11_, e_v11_, b_v11_⟩ := i_ex (iI (v10_ + 1))
        rw [e_v11_]
        refine v_putI hX (ci := 8) (k := 6) (f := 806) (isS_k h5_ hs_dr) bc_8 (by decide) (by decide) in_8 tyX10_ok nmX10 w_1_159 (Or.inl rfl) rfl rfl dX11_readValues_39 rfl rfl ?_
        refine v_aload_n hX dX11_readValues_42 (i := 0) rfl rfl ?_
        refine v_get hX (ci := 9) (k := 4) (cs_k_418 (cS.sI h5_)) bc_9 (by decide) (by decide) in_9 w_2_128 dX11_readValues_43 (mvP (f := 904) (q := (x + 419)) rfl rfl (cs_p_904 (cS.sI h5_))) ?_
        refine v_bipush hX (v := iI 44) dX11_readValues_46 (by decide) ?_
        have a12_ : lA (s_I S5_ 806 dr (iI v11_)) x = lA S5_ x := lA.fr g5_eI g5_hM (show cFr [806] [] [] w S5_ (s_I S5_ 806 dr (iI v11_)) x from ((cFr.rf _ _).sI (by decide) ⟨(isX_in hs_dr).1, (isX_in hs_dr).2⟩)) (by decide)
        refine v_callV hX (n := 1) (g_takes (S := (s_I S5_ 806 dr (iI v11_))) (x := x) (w := w) (c := 44) (cS.sI h5_) ⟨by omega, by omega⟩ (sI.fr g5_sI h5_ (show cFr [806] [] [] w S5_ (s_I S5_ 806 dr (iI v11_)) x from ((cFr.rf _ _).sI (by decide) ⟨(isX_in hs_dr).1, (isX_in hs_dr).2⟩)) (by decide))) (cs_k_419 (cS.sI h5_)) bc_7 (by decide) w_4_59 w_4_60 w_4_61 w_1_11 w_4_62 (by decide +kernel) rfl ⟨by decide, by decide⟩ ⟨by omega, by omega⟩ (Nat.le_of_ble_eq_true rfl) rfl dX11_readValues_48 (fun _ _ _ q => q) ?_
        rintro r13_ S13_ z13_ ⟨rfl, f13_, v14_, rfl, b_v14_, q13_, g13_sI⟩
        have y15_ : m_I S13_ 806 dr = iI v11_ := (f13_.2.1 806 (by decide) _).trans (by simp (disch := omega) only [y_I_s_I, x_I_s_I, z_I_s_J, z_I_s_A, z_I_s_B, z_I_s_P, e_v10_])
        have y16_ : m_P S13_ 908 (x + 418) = some (b_kn X oi) := (f13_.2.2.1 908 (by decide) _).trans (by simp (disch := omega) only [y_P_s_P, x_P_s_P, z_P_s_I, z_P_s_J, z_P_s_A, z_P_s_B, y7_, y8_])
        have y17_ : m_P S13_ 907 (x + 418) = some dr := (f13_.2.2.1 907 (by decide) _).trans (by simp (disch := omega) only [y_P_s_P, x_P_s_P, z_P_s_I, z_P_s_J, z_P_s_A, z_P_s_B, y7_, y8_])
        have h13_ : cS S13_ x := f13_.keep (by decide) (cS.sI h5_)
        have g13_gN : gN S13_ x := gN.fr (gN.fr g5_gN h5_ (show cFr [806] [] [] w S5_ (s_I S5_ 806 dr (iI v11_)) x from ((cFr.rf _ _).sI (by decide) ⟨(isX_in hs_dr).1, (isX_in hs_dr).2⟩)) (by decide)) (cS.sI h5_) f13_ (by decide)
        have g13_eI : eI S13_ x w := eI.fr (eI.fr g5_eI h5_ (show cFr [806] [] [] w S5_ (s_I S5_ 806 dr (iI v11_)) x from ((cFr.rf _ _).sI (by decide) ⟨(isX_in hs_dr).1, (isX_in hs_dr).2⟩)) (by decide)) (cS.sI h5_) f13_ (by decide)
        have g13_hM : hM S13_ x w := hM.fr (hM.fr g5_hM h5_ (show cFr [806] [] [] w S5_ (s_I S5_ 806 dr (iI v11_)) x from ((cFr.rf _ _).sI (by decide) ⟨(isX_in hs_dr).1, (isX_in hs_dr).2⟩)) (by decide)) (cS.sI h5_) f13_ (by decide)
        have aa13_ : lA S13_ x = lA (s_I S5_ 806 dr (iI v11_)) x := lA.fr (eI.fr g5_eI h5_ (show cFr [806] [] [] w S5_ (s_I S5_ 806 dr (iI v11_)) x from ((cFr.rf _ _).sI (by decide) ⟨(isX_in hs_dr).1, (isX_in hs_dr).2⟩)) (by decide)) (hM.fr g5_hM h5_ (show cFr [806] [] [] w S5_ (s_I S5_ 806 dr (iI v11_)) x from ((cFr.rf _ _).sI (by decide) ⟨(isX_in hs_dr).1, (isX_in hs_dr).2⟩)) (by decide)) f13_ (by decide)
        have ab13_ : lA S13_ x ≤ 2162688 := lA_le g13_eI g13_hM
        refine u_if_ne hX (tgt := 56) dX11_readValues_51 (by decide) ⟨by omega, by omega⟩ (fun h18_ => ?_) (fun h18_ => ?_)
        ·
          refine v_iinc hX (v := iI (i + 1)) (lv' := [(1, .int (iI (i + 1))), (0, .ref (x + 418))]) dX11_readValues_56 rfl (iI_add _ _) (by rw [hnL]; decide) rfl ?_
          refine v_goto hX (tgt := 2) dX11_readValues_59 (by decide) ?_
          exact ih2 _ (by omega) _ (i + 1) _ _ _ (((fr2.tr (f5_.mono (by decide) (by decide) (by decide))).sI (by decide) ⟨(isX_in hs_dr).1, (isX_in hs_dr).2⟩).tr (f13_.mono (by decide) (by decide) (by decide))) (by omega) ⟨by omega, by omega⟩ (by omega) g13_eI g13_hM g13_gN g13_sI rfl
        ·
          refine v_iconst hX (v := iI 1) dX11_readValues_54 rfl ?_
          exact w_zreturn hX (nar_b (by omega)) hE dX11_readValues_55 ⟨(by omega), (((fr2.tr (f5_.mono (by decide) (by decide) (by decide))).sI (by decide) ⟨(isX_in hs_dr).1, (isX_in hs_dr).2⟩).tr (f13_.mono (by decide) (by decide) (by decide))), 1, rfl, (by omega), ⟨by omega, by omega⟩, trivial, g13_eI, g13_hM, g13_sI⟩
      ·
        refine v_iconst hX (v := iI 0) dX11_readValues_27 rfl ?_
        exact w_zreturn hX (nar_b (by omega)) hE dX11_readValues_28 ⟨(by omega), (fr2.tr (f5_.mono (by decide) (by decide) (by decide))), 0, rfl, (by omega), ⟨by omega, by omega⟩, trivial, g5_eI, g5_hM, g5_sI⟩
  refine v_iconst hX (v := iI 0) dX11_readValues_0 rfl ?_
  refine v_istore_n hX (lv' := [(1, .int (iI 0)), (0, .ref (x + 418))]) dX11_readValues_1 (i := 1) rfl (by rw [hnL]; decide) rfl ?_
  exact L2 _ _ 0 _ _ _ (cFr.rf _ _) (by omega) ⟨by omega, by omega⟩ (by omega) g_eI g_hM g_gN g_sI rfl
set_option maxRecDepth 100000 in
set_option maxHeartbeats 4000000 in
theorem g_T_wantsSetNames {kn : Nat → Nat} {B : Nat} {S : b_M} {z x w : Nat} {oi : Nat} (h : cS S x) (e_oi : m_P S 908 (x + 418) = some (kn oi)) (o_oi : oi < 17) : b_C kn B yX11_wantsSetNames cX11_wantsSetNames 1 (some .boolean) 0 0 0 0 [.ref (x + 418)] S z (fun r S' z' => z = z' ∧ S = S' ∧ ∃ q : Int, r = some (.int (iI q)) ∧ (q = 0 ∨ q = 1) ∧ (True)) (fun _ _ _ => False) := by
  refine b_enter (by decide) (Nat.le_of_ble_eq_true rfl) ?_
  intro X hX hE hnL hkn hB hI_
  subst hkn; subst hB
  clear hI_
  change b_V X S z 0 0 0 [(0, .ref (x + 418))] []
  refine v_aload_n hX dX11_wantsSetNames_0 (i := 0) rfl rfl ?_
  refine v_get hX (ci := 9) (k := 8) (cs_k_418 h) bc_9 (by decide) (by decide) in_9 w_2_134 dX11_wantsSetNames_1 (mvP (f := 908) (q := (b_kn X oi)) rfl rfl (by simp (disch := omega) only [y_P_s_P, x_P_s_P, z_P_s_I, z_P_s_J, z_P_s_A, z_P_s_B, e_oi])) ?_
  refine v_getsK hX (i := 14) (by decide) rfl w_4_157 dX11_wantsSetNames_4 ?_
  refine v_acmp_eq hX (tgt := 20) dX11_wantsSetNames_7 (by decide) (fun h1_ => ?_) (fun h1_ => ?_)
  ·
    refine v_iconst hX (v := iI 1) dX11_wantsSetNames_20 rfl ?_
    refine v_goto hX (tgt := 25) dX11_wantsSetNames_21 (by decide) ?_
    exact v_zreturn hX (nar_b (by omega)) hE dX11_wantsSetNames_25 (by omega) (by omega) ⟨rfl, rfl, 1, rfl, (by omega), trivial⟩
  ·
    refine v_aload_n hX dX11_wantsSetNames_10 (i := 0) rfl rfl ?_
    refine v_get hX (ci := 9) (k := 8) (cs_k_418 h) bc_9 (by decide) (by decide) in_9 w_2_134 dX11_wantsSetNames_11 (mvP (f := 908) (q := (b_kn X oi)) rfl rfl (by simp (disch := omega) only [y_P_s_P, x_P_s_P, z_P_s_I, z_P_s_J, z_P_s_A, z_P_s_B, e_oi])) ?_
    refine v_getsK hX (i := 12) (by decide) rfl w_4_165 dX11_wantsSetNames_14 ?_
    refine v_acmp_ne hX (tgt := 24) dX11_wantsSetNames_17 (by decide) (fun h2_ => ?_) (fun h2_ => ?_)
    ·
      refine v_iconst hX (v := iI 0) dX11_wantsSetNames_24 rfl ?_
      exact v_zreturn hX (nar_b (by omega)) hE dX11_wantsSetNames_25 (by omega) (by omega) ⟨rfl, rfl, 0, rfl, (by omega), trivial⟩
    ·
      refine v_iconst hX (v := iI 1) dX11_wantsSetNames_20 rfl ?_
      refine v_goto hX (tgt := 25) dX11_wantsSetNames_21 (by decide) ?_
      exact v_zreturn hX (nar_b (by omega)) hE dX11_wantsSetNames_25 (by omega) (by omega) ⟨rfl, rfl, 1, rfl, (by omega), trivial⟩
set_option maxRecDepth 100000 in
set_option maxHeartbeats 4000000 in
theorem g_T_isSpace {kn : Nat → Nat} {B : Nat} {S : b_M} {z x w : Nat} {wd : Int} (h : cS S x) (b_wd : -2147483648 ≤ wd ∧ wd < 2147483648) : b_C kn B yX11_isSpace cX11_isSpace 1 (some .boolean) 0 0 0 0 [.int (iI wd)] S z (fun r S' z' => z = z' ∧ S = S' ∧ ∃ q : Int, r = some (.int (iI q)) ∧ (q = 0 ∨ q = 1) ∧ (True)) (fun _ _ _ => False) := by
  refine b_enter (by decide) (Nat.le_of_ble_eq_true rfl) ?_
  intro X hX hE hnL hkn hB hI_
  subst hkn; subst hB
  clear hI_
  change b_V X S z 0 0 0 [(0, .int (iI wd))] []
  refine v_iload_n hX dX11_isSpace_0 (i := 0) rfl rfl ?_
  refine u_if_lt hX (tgt := 15) dX11_isSpace_1 (by decide) ⟨by omega, by omega⟩ (fun h1_ => ?_) (fun h1_ => ?_)
  ·
    refine v_iconst hX (v := iI 0) dX11_isSpace_15 rfl ?_
    exact v_zreturn hX (nar_b (by omega)) hE dX11_isSpace_16 (by omega) (by omega) ⟨rfl, rfl, 0, rfl, (by omega), trivial⟩
  ·
    refine v_iload_n hX dX11_isSpace_4 (i := 0) rfl rfl ?_
    refine v_sipush hX (v := iI 1000) dX11_isSpace_5 (by decide) ?_
    refine u_icmp_gt hX (tgt := 15) dX11_isSpace_8 (by decide) ⟨by omega, by omega⟩ ⟨by omega, by omega⟩ (fun h2_ => ?_) (fun h2_ => ?_)
    ·
      refine v_iconst hX (v := iI 0) dX11_isSpace_15 rfl ?_
      exact v_zreturn hX (nar_b (by omega)) hE dX11_isSpace_16 (by omega) (by omega) ⟨rfl, rfl, 0, rfl, (by omega), trivial⟩
    ·
      refine v_iconst hX (v := iI 1) dX11_isSpace_11 rfl ?_
      refine v_goto hX (tgt := 16) dX11_isSpace_12 (by decide) ?_
      exact v_zreturn hX (nar_b (by omega)) hE dX11_isSpace_16 (by omega) (by omega) ⟨rfl, rfl, 1, rfl, (by omega), trivial⟩
set_option maxRecDepth 100000 in
set_option maxHeartbeats 4000000 in
theorem g_T_isStatement {kn : Nat → Nat} {B : Nat} {S : b_M} {z x w : Nat} {oi : Nat} (h : cS S x) (e_oi : m_P S 908 (x + 418) = some (kn oi)) (o_oi : oi < 17) : b_C kn B yX11_isStatement cX11_isStatement 1 (some .boolean) 0 0 0 0 [.ref (x + 418)] S z (fun r S' z' => z = z' ∧ S = S' ∧ ∃ q : Int, r = some (.int (iI q)) ∧ (q = 0 ∨ q = 1) ∧ (True)) (fun _ _ _ => False) := by
  refine b_enter (by decide) (Nat.le_of_ble_eq_true rfl) ?_
  intro X hX hE hnL hkn hB hI_
  subst hkn; subst hB
  clear hI_
  change b_V X S z 0 0 0 [(0, .ref (x + 418))] []
  refine v_aload_n hX dX11_isStatement_0 (i := 0) rfl rfl ?_
  obtain ⟨v1_, e_v1_, b_v1_⟩ := j_ex (m_J S 909 (x + 418))
  refine v_get hX (ci := 9) (k := 9) (cs_k_418 h) bc_9 (by decide) (by decide) in_9 w_2_135 dX11_isStatement_1 (mvG (f := 909) (v := jJ v1_) rfl rfl e_v1_) ?_
  refine v_lconst hX (v := jJ 0) dX11_isStatement_4 rfl ?_
  refine u_lcmp hX dX11_isStatement_5 ⟨by omega, by omega⟩ ⟨by omega, by omega⟩ (fun v2_ b_v2_ c_v2_ => ?_)
  refine u_if_ne hX (tgt := 19) dX11_isStatement_6 (by decide) ⟨by omega, by omega⟩ (fun h3_ => ?_) (fun h3_ => ?_)
  ·
    refine v_iconst hX (v := iI 1) dX11_isStatement_19 rfl ?_
    refine v_goto hX (tgt := 24) dX11_isStatement_20 (by decide) ?_
    exact v_zreturn hX (nar_b (by omega)) hE dX11_isStatement_24 (by omega) (by omega) ⟨rfl, rfl, 1, rfl, (by omega), trivial⟩
  ·
    refine v_aload_n hX dX11_isStatement_9 (i := 0) rfl rfl ?_
    refine v_get hX (ci := 9) (k := 8) (cs_k_418 h) bc_9 (by decide) (by decide) in_9 w_2_134 dX11_isStatement_10 (mvP (f := 908) (q := (b_kn X oi)) rfl rfl (by simp (disch := omega) only [y_P_s_P, x_P_s_P, z_P_s_I, z_P_s_J, z_P_s_A, z_P_s_B, e_oi])) ?_
    refine w_getO hX (i := oi) (k := 1) (by omega) (by decide) w_8_2 dX11_isStatement_13 ?_
    have b4_ := oI_b 1 (by decide) oi (by omega)
    have b5_ := oI_z oi (by omega)
    refine u_if_eq hX (tgt := 23) dX11_isStatement_16 (by decide) ⟨by omega, by omega⟩ (fun h6_ => ?_) (fun h6_ => ?_)
    ·
      refine v_iconst hX (v := iI 0) dX11_isStatement_23 rfl ?_
      exact v_zreturn hX (nar_b (by omega)) hE dX11_isStatement_24 (by omega) (by omega) ⟨rfl, rfl, 0, rfl, (by omega), trivial⟩
    ·
      refine v_iconst hX (v := iI 1) dX11_isStatement_19 rfl ?_
      refine v_goto hX (tgt := 24) dX11_isStatement_20 (by decide) ?_
      exact v_zreturn hX (nar_b (by omega)) hE dX11_isStatement_24 (by omega) (by omega) ⟨rfl, rfl, 1, rfl, (by omega), trivial⟩
set_option maxRecDepth 100000 in
set_option maxHeartbeats 4000000 in
theorem g_T_isTwice {kn : Nat → Nat} {B : Nat} {S : b_M} {z x w : Nat} {oi : Nat} {lo : Int} {hi : Int} (h : cS S x) (e_oi : m_P S 908 (x + 418) = some (kn oi)) (o_oi : oi < 17) (g_gN : gN S x) (g_gL : gL S x) (g_sI : sI S x lo hi) : b_C kn B yX11_isTwice cX11_isTwice 1 (some .boolean) 6 128 0 0 [.ref (x + 418)] S z (fun r S' z' => z = z' ∧ S = S' ∧ ∃ q : Int, r = some (.int (iI q)) ∧ (q = 0 ∨ q = 1) ∧ (True)) (fun _ _ _ => False) := by
  refine b_enter (by decide) (Nat.le_of_ble_eq_true rfl) ?_
  intro X hX hE hnL hkn hB hI_
  subst hkn; subst hB
  clear hI_
  change b_V X S z 0 0 0 [(0, .ref (x + 418))] []
  refine v_aload_n hX dX11_isTwice_0 (i := 0) rfl rfl ?_
  obtain ⟨v1_, e_v1_, b_v1_⟩ := j_ex (m_J S 909 (x + 418))
  refine v_get hX (ci := 9) (k := 9) (cs_k_418 h) bc_9 (by decide) (by decide) in_9 w_2_135 dX11_isTwice_1 (mvG (f := 909) (v := jJ v1_) rfl rfl e_v1_) ?_
  refine v_lconst hX (v := jJ 0) dX11_isTwice_4 rfl ?_
  refine u_lcmp hX dX11_isTwice_5 ⟨by omega, by omega⟩ ⟨by omega, by omega⟩ (fun v2_ b_v2_ c_v2_ => ?_)
  refine u_if_eq hX (tgt := 26) dX11_isTwice_6 (by decide) ⟨by omega, by omega⟩ (fun h3_ => ?_) (fun h3_ => ?_)
  ·
    refine v_aload_n hX dX11_isTwice_26 (i := 0) rfl rfl ?_
    refine v_get hX (ci := 9) (k := 8) (cs_k_418 h) bc_9 (by decide) (by decide) in_9 w_2_134 dX11_isTwice_27 (mvP (f := 908) (q := (b_kn X oi)) rfl rfl (by simp (disch := omega) only [y_P_s_P, x_P_s_P, z_P_s_I, z_P_s_J, z_P_s_A, z_P_s_B, e_oi])) ?_
    refine v_getsK hX (i := 14) (by decide) rfl w_4_157 dX11_isTwice_30 ?_
    refine v_acmp_ne hX (tgt := 69) dX11_isTwice_33 (by decide) (fun h4_ => ?_) (fun h4_ => ?_)
    ·
      refine v_aload_n hX dX11_isTwice_69 (i := 0) rfl rfl ?_
      refine v_get hX (ci := 9) (k := 8) (cs_k_418 h) bc_9 (by decide) (by decide) in_9 w_2_134 dX11_isTwice_70 (mvP (f := 908) (q := (b_kn X oi)) rfl rfl (by simp (disch := omega) only [y_P_s_P, x_P_s_P, z_P_s_I, z_P_s_J, z_P_s_A, z_P_s_B, e_oi])) ?_
      refine v_getsK hX (i := 15) (by decide) rfl w_4_159 dX11_isTwice_73 ?_
      refine v_acmp_ne hX (tgt := 111) dX11_isTwice_76 (by decide) (fun h5_ => ?_) (fun h5_ => ?_)
      ·
        refine v_iconst hX (v := iI 0) dX11_isTwice_111 rfl ?_
        exact v_zreturn hX (nar_b (by omega)) hE dX11_isTwice_112 (by omega) (by omega) ⟨rfl, rfl, 0, rfl, (by omega), trivial⟩
      ·
        refine v_aload_n hX dX11_isTwice_79 (i := 0) rfl rfl ?_
        refine v_get hX (ci := 9) (k := 5) (cs_k_418 h) bc_9 (by decide) (by decide) in_9 w_2_129 dX11_isTwice_80 (mvP (f := 905) (q := (x + 421)) rfl rfl (cs_p_905 h)) ?_
        refine v_aload_n hX dX11_isTwice_83 (i := 0) rfl rfl ?_
        obtain ⟨v6_, e_v6_, b_v6_⟩ := j_ex (m_J S 910 (x + 418))
        refine v_get hX (ci := 9) (k := 10) (cs_k_418 h) bc_9 (by decide) (by decide) in_9 w_2_136 dX11_isTwice_84 (mvG (f := 910) (v := jJ v6_) rfl rfl e_v6_) ?_
        refine v_callV hX (n := 1) (g_M_find (S := S) (x := x) (w := w) (v := v6_) h ⟨by omega, by omega⟩ g_gL) (cs_k_421 h) bc_4 (by decide) w_4_34 w_4_35 w_4_36 w_1_12 w_4_37 (by decide +kernel) rfl ⟨by decide, by decide⟩ ⟨by omega, by omega⟩ (Nat.le_of_ble_eq_true rfl) rfl dX11_isTwice_87 (fun _ _ _ q => q) ?_
        rintro r7_ S7_ z7_ ⟨rfl, rfl, v8_, rfl, b_v8_, q7_⟩
        refine v_iconst hX (v := iI (-1)) dX11_isTwice_90 rfl ?_
        refine u_icmp_ne hX (tgt := 107) dX11_isTwice_91 (by decide) ⟨by omega, by omega⟩ ⟨by omega, by omega⟩ (fun h9_ => ?_) (fun h9_ => ?_)
        ·
          refine v_iconst hX (v := iI 1) dX11_isTwice_107 rfl ?_
          refine v_goto hX (tgt := 112) dX11_isTwice_108 (by decide) ?_
          exact v_zreturn hX (nar_b (by omega)) hE dX11_isTwice_112 (by omega) (by omega) ⟨rfl, rfl, 1, rfl, (by omega), trivial⟩
        ·
          refine v_aload_n hX dX11_isTwice_94 (i := 0) rfl rfl ?_
          refine v_get hX (ci := 9) (k := 4) (cs_k_418 h) bc_9 (by decide) (by decide) in_9 w_2_128 dX11_isTwice_95 (mvP (f := 904) (q := (x + 419)) rfl rfl (cs_p_904 h)) ?_
          refine v_callS hX (n := 1) (g_spelledBy (S := S) (x := x) (w := w) h g_sI) w_3_184 w_3_185 w_1_9 w_3_186 (by decide +kernel) rfl ⟨by decide, by decide⟩ ⟨by omega, by omega⟩ (Nat.le_of_ble_eq_true rfl) rfl dX11_isTwice_98 (fun _ _ _ q => q) ?_
          rintro r10_ S10_ z10_ ⟨rfl, rfl, o11_, rfl, b_o11_, q10_⟩
          refine v_getsK hX (i := 1) (by decide) rfl w_4_38 dX11_isTwice_101 ?_
          refine v_acmp_eq hX (tgt := 111) dX11_isTwice_104 (by decide) (fun h12_ => ?_) (fun h12_ => ?_)
          ·
            refine v_iconst hX (v := iI 0) dX11_isTwice_111 rfl ?_
            exact v_zreturn hX (nar_b (by omega)) hE dX11_isTwice_112 (by omega) (by omega) ⟨rfl, rfl, 0, rfl, (by omega), trivial⟩
          ·
            refine v_iconst hX (v := iI 1) dX11_isTwice_107 rfl ?_
            refine v_goto hX (tgt := 112) dX11_isTwice_108 (by decide) ?_
            exact v_zreturn hX (nar_b (by omega)) hE dX11_isTwice_112 (by omega) (by omega) ⟨rfl, rfl, 1, rfl, (by omega), trivial⟩
    ·
      refine v_aload_n hX dX11_isTwice_36 (i := 0) rfl rfl ?_
      obtain ⟨v13_, e_v13_, b_v13_⟩ := j_ex (m_J S 910 (x + 418))
      refine v_get hX (ci := 9) (k := 10) (cs_k_418 h) bc_9 (by decide) (by decide) in_9 w_2_136 dX11_isTwice_37 (mvG (f := 910) (v := jJ v13_) rfl rfl e_v13_) ?_
      refine v_aload_n hX dX11_isTwice_40 (i := 0) rfl rfl ?_
      obtain ⟨v14_, e_v14_, b_v14_⟩ := j_ex (m_J S 909 (x + 418))
      refine v_get hX (ci := 9) (k := 9) (cs_k_418 h) bc_9 (by decide) (by decide) in_9 w_2_135 dX11_isTwice_41 (mvG (f := 909) (v := jJ v14_) rfl rfl e_v14_) ?_
      refine u_lcmp hX dX11_isTwice_44 ⟨by omega, by omega⟩ ⟨by omega, by omega⟩ (fun v15_ b_v15_ c_v15_ => ?_)
      refine u_if_eq hX (tgt := 63) dX11_isTwice_45 (by decide) ⟨by omega, by omega⟩ (fun h16_ => ?_) (fun h16_ => ?_)
      ·
        refine v_iconst hX (v := iI 1) dX11_isTwice_63 rfl ?_
        refine v_goto hX (tgt := 68) dX11_isTwice_64 (by decide) ?_
        exact v_zreturn hX (nar_b (by omega)) hE dX11_isTwice_68 (by omega) (by omega) ⟨rfl, rfl, 1, rfl, (by omega), trivial⟩
      ·
        refine v_aload_n hX dX11_isTwice_48 (i := 0) rfl rfl ?_
        refine v_get hX (ci := 9) (k := 1) (cs_k_418 h) bc_9 (by decide) (by decide) in_9 w_2_125 dX11_isTwice_49 (mvP (f := 901) (q := (x + 6)) rfl rfl (cs_p_901 h)) ?_
        refine v_aload_n hX dX11_isTwice_52 (i := 0) rfl rfl ?_
        obtain ⟨v17_, e_v17_, b_v17_⟩ := j_ex (m_J S 910 (x + 418))
        refine v_get hX (ci := 9) (k := 10) (cs_k_418 h) bc_9 (by decide) (by decide) in_9 w_2_136 dX11_isTwice_53 (mvG (f := 910) (v := jJ v17_) rfl rfl e_v17_) ?_
        refine v_callV hX (n := 1) (g_N_find (S := S) (x := x) (w := w) (v := v17_) h ⟨by omega, by omega⟩ g_gN) (cs_k_6 h) bc_5 (by decide) w_4_156 w_4_114 w_4_115 w_1_4 w_4_116 (by decide +kernel) rfl ⟨by decide, by decide⟩ ⟨by omega, by omega⟩ (Nat.le_of_ble_eq_true rfl) rfl dX11_isTwice_56 (fun _ _ _ q => q) ?_
        rintro r18_ S18_ z18_ ⟨rfl, rfl, v19_, rfl, b_v19_, q18_⟩
        refine v_iconst hX (v := iI (-1)) dX11_isTwice_59 rfl ?_
        refine u_icmp_eq hX (tgt := 67) dX11_isTwice_60 (by decide) ⟨by omega, by omega⟩ ⟨by omega, by omega⟩ (fun h20_ => ?_) (fun h20_ => ?_)
        ·
          refine v_iconst hX (v := iI 0) dX11_isTwice_67 rfl ?_
          exact v_zreturn hX (nar_b (by omega)) hE dX11_isTwice_68 (by omega) (by omega) ⟨rfl, rfl, 0, rfl, (by omega), trivial⟩
        ·
          refine v_iconst hX (v := iI 1) dX11_isTwice_63 rfl ?_
          refine v_goto hX (tgt := 68) dX11_isTwice_64 (by decide) ?_
          exact v_zreturn hX (nar_b (by omega)) hE dX11_isTwice_68 (by omega) (by omega) ⟨rfl, rfl, 1, rfl, (by omega), trivial⟩
  ·
    refine v_aload_n hX dX11_isTwice_9 (i := 0) rfl rfl ?_
    refine v_get hX (ci := 9) (k := 1) (cs_k_418 h) bc_9 (by decide) (by decide) in_9 w_2_125 dX11_isTwice_10 (mvP (f := 901) (q := (x + 6)) rfl rfl (cs_p_901 h)) ?_
    refine v_aload_n hX dX11_isTwice_13 (i := 0) rfl rfl ?_
    obtain ⟨v21_, e_v21_, b_v21_⟩ := j_ex (m_J S 909 (x + 418))
    refine v_get hX (ci := 9) (k := 9) (cs_k_418 h) bc_9 (by decide) (by decide) in_9 w_2_135 dX11_isTwice_14 (mvG (f := 909) (v := jJ v21_) rfl rfl e_v21_) ?_
    refine v_callV hX (n := 1) (g_N_find (S := S) (x := x) (w := w) (v := v21_) h ⟨by omega, by omega⟩ g_gN) (cs_k_6 h) bc_5 (by decide) w_4_156 w_4_114 w_4_115 w_1_4 w_4_116 (by decide +kernel) rfl ⟨by decide, by decide⟩ ⟨by omega, by omega⟩ (Nat.le_of_ble_eq_true rfl) rfl dX11_isTwice_17 (fun _ _ _ q => q) ?_
    rintro r22_ S22_ z22_ ⟨rfl, rfl, v23_, rfl, b_v23_, q22_⟩
    refine v_iconst hX (v := iI (-1)) dX11_isTwice_20 rfl ?_
    refine u_icmp_eq hX (tgt := 26) dX11_isTwice_21 (by decide) ⟨by omega, by omega⟩ ⟨by omega, by omega⟩ (fun h24_ => ?_) (fun h24_ => ?_)
    ·
      refine v_aload_n hX dX11_isTwice_26 (i := 0) rfl rfl ?_
      refine v_get hX (ci := 9) (k := 8) (cs_k_418 h) bc_9 (by decide) (by decide) in_9 w_2_134 dX11_isTwice_27 (mvP (f := 908) (q := (b_kn X oi)) rfl rfl (by simp (disch := omega) only [y_P_s_P, x_P_s_P, z_P_s_I, z_P_s_J, z_P_s_A, z_P_s_B, e_oi])) ?_
      refine v_getsK hX (i := 14) (by decide) rfl w_4_157 dX11_isTwice_30 ?_
      refine v_acmp_ne hX (tgt := 69) dX11_isTwice_33 (by decide) (fun h25_ => ?_) (fun h25_ => ?_)
      ·
        refine v_aload_n hX dX11_isTwice_69 (i := 0) rfl rfl ?_
        refine v_get hX (ci := 9) (k := 8) (cs_k_418 h) bc_9 (by decide) (by decide) in_9 w_2_134 dX11_isTwice_70 (mvP (f := 908) (q := (b_kn X oi)) rfl rfl (by simp (disch := omega) only [y_P_s_P, x_P_s_P, z_P_s_I, z_P_s_J, z_P_s_A, z_P_s_B, e_oi])) ?_
        refine v_getsK hX (i := 15) (by decide) rfl w_4_159 dX11_isTwice_73 ?_
        refine v_acmp_ne hX (tgt := 111) dX11_isTwice_76 (by decide) (fun h26_ => ?_) (fun h26_ => ?_)
        ·
          refine v_iconst hX (v := iI 0) dX11_isTwice_111 rfl ?_
          exact v_zreturn hX (nar_b (by omega)) hE dX11_isTwice_112 (by omega) (by omega) ⟨rfl, rfl, 0, rfl, (by omega), trivial⟩
        ·
          refine v_aload_n hX dX11_isTwice_79 (i := 0) rfl rfl ?_
          refine v_get hX (ci := 9) (k := 5) (cs_k_418 h) bc_9 (by decide) (by decide) in_9 w_2_129 dX11_isTwice_80 (mvP (f := 905) (q := (x + 421)) rfl rfl (cs_p_905 h)) ?_
          refine v_aload_n hX dX11_isTwice_83 (i := 0) rfl rfl ?_
          obtain ⟨v27_, e_v27_, b_v27_⟩ := j_ex (m_J S 910 (x + 418))
          refine v_get hX (ci := 9) (k := 10) (cs_k_418 h) bc_9 (by decide) (by decide) in_9 w_2_136 dX11_isTwice_84 (mvG (f := 910) (v := jJ v27_) rfl rfl e_v27_) ?_
          refine v_callV hX (n := 1) (g_M_find (S := S) (x := x) (w := w) (v := v27_) h ⟨by omega, by omega⟩ g_gL) (cs_k_421 h) bc_4 (by decide) w_4_34 w_4_35 w_4_36 w_1_12 w_4_37 (by decide +kernel) rfl ⟨by decide, by decide⟩ ⟨by omega, by omega⟩ (Nat.le_of_ble_eq_true rfl) rfl dX11_isTwice_87 (fun _ _ _ q => q) ?_
          rintro r28_ S28_ z28_ ⟨rfl, rfl, v29_, rfl, b_v29_, q28_⟩
          refine v_iconst hX (v := iI (-1)) dX11_isTwice_90 rfl ?_
          refine u_icmp_ne hX (tgt := 107) dX11_isTwice_91 (by decide) ⟨by omega, by omega⟩ ⟨by omega, by omega⟩ (fun h30_ => ?_) (fun h30_ => ?_)
          ·
            refine v_iconst hX (v := iI 1) dX11_isTwice_107 rfl ?_
            refine v_goto hX (tgt := 112) dX11_isTwice_108 (by decide) ?_
            exact v_zreturn hX (nar_b (by omega)) hE dX11_isTwice_112 (by omega) (by omega) ⟨rfl, rfl, 1, rfl, (by omega), trivial⟩
          ·
            refine v_aload_n hX dX11_isTwice_94 (i := 0) rfl rfl ?_
            refine v_get hX (ci := 9) (k := 4) (cs_k_418 h) bc_9 (by decide) (by decide) in_9 w_2_128 dX11_isTwice_95 (mvP (f := 904) (q := (x + 419)) rfl rfl (cs_p_904 h)) ?_
            refine v_callS hX (n := 1) (g_spelledBy (S := S) (x := x) (w := w) h g_sI) w_3_184 w_3_185 w_1_9 w_3_186 (by decide +kernel) rfl ⟨by decide, by decide⟩ ⟨by omega, by omega⟩ (Nat.le_of_ble_eq_true rfl) rfl dX11_isTwice_98 (fun _ _ _ q => q) ?_
            rintro r31_ S31_ z31_ ⟨rfl, rfl, o32_, rfl, b_o32_, q31_⟩
            refine v_getsK hX (i := 1) (by decide) rfl w_4_38 dX11_isTwice_101 ?_
            refine v_acmp_eq hX (tgt := 111) dX11_isTwice_104 (by decide) (fun h33_ => ?_) (fun h33_ => ?_)
            ·
              refine v_iconst hX (v := iI 0) dX11_isTwice_111 rfl ?_
              exact v_zreturn hX (nar_b (by omega)) hE dX11_isTwice_112 (by omega) (by omega) ⟨rfl, rfl, 0, rfl, (by omega), trivial⟩
            ·
              refine v_iconst hX (v := iI 1) dX11_isTwice_107 rfl ?_
              refine v_goto hX (tgt := 112) dX11_isTwice_108 (by decide) ?_
              exact v_zreturn hX (nar_b (by omega)) hE dX11_isTwice_112 (by omega) (by omega) ⟨rfl, rfl, 1, rfl, (by omega), trivial⟩
      ·
        refine v_aload_n hX dX11_isTwice_36 (i := 0) rfl rfl ?_
        obtain ⟨v34_, e_v34_, b_v34_⟩ := j_ex (m_J S 910 (x + 418))
        refine v_get hX (ci := 9) (k := 10) (cs_k_418 h) bc_9 (by decide) (by decide) in_9 w_2_136 dX11_isTwice_37 (mvG (f := 910) (v := jJ v34_) rfl rfl e_v34_) ?_
        refine v_aload_n hX dX11_isTwice_40 (i := 0) rfl rfl ?_
        obtain ⟨v35_, e_v35_, b_v35_⟩ := j_ex (m_J S 909 (x + 418))
        refine v_get hX (ci := 9) (k := 9) (cs_k_418 h) bc_9 (by decide) (by decide) in_9 w_2_135 dX11_isTwice_41 (mvG (f := 909) (v := jJ v35_) rfl rfl e_v35_) ?_
        refine u_lcmp hX dX11_isTwice_44 ⟨by omega, by omega⟩ ⟨by omega, by omega⟩ (fun v36_ b_v36_ c_v36_ => ?_)
        refine u_if_eq hX (tgt := 63) dX11_isTwice_45 (by decide) ⟨by omega, by omega⟩ (fun h37_ => ?_) (fun h37_ => ?_)
        ·
          refine v_iconst hX (v := iI 1) dX11_isTwice_63 rfl ?_
          refine v_goto hX (tgt := 68) dX11_isTwice_64 (by decide) ?_
          exact v_zreturn hX (nar_b (by omega)) hE dX11_isTwice_68 (by omega) (by omega) ⟨rfl, rfl, 1, rfl, (by omega), trivial⟩
        ·
          refine v_aload_n hX dX11_isTwice_48 (i := 0) rfl rfl ?_
          refine v_get hX (ci := 9) (k := 1) (cs_k_418 h) bc_9 (by decide) (by decide) in_9 w_2_125 dX11_isTwice_49 (mvP (f := 901) (q := (x + 6)) rfl rfl (cs_p_901 h)) ?_
          refine v_aload_n hX dX11_isTwice_52 (i := 0) rfl rfl ?_
          obtain ⟨v38_, e_v38_, b_v38_⟩ := j_ex (m_J S 910 (x + 418))
          refine v_get hX (ci := 9) (k := 10) (cs_k_418 h) bc_9 (by decide) (by decide) in_9 w_2_136 dX11_isTwice_53 (mvG (f := 910) (v := jJ v38_) rfl rfl e_v38_) ?_
          refine v_callV hX (n := 1) (g_N_find (S := S) (x := x) (w := w) (v := v38_) h ⟨by omega, by omega⟩ g_gN) (cs_k_6 h) bc_5 (by decide) w_4_156 w_4_114 w_4_115 w_1_4 w_4_116 (by decide +kernel) rfl ⟨by decide, by decide⟩ ⟨by omega, by omega⟩ (Nat.le_of_ble_eq_true rfl) rfl dX11_isTwice_56 (fun _ _ _ q => q) ?_
          rintro r39_ S39_ z39_ ⟨rfl, rfl, v40_, rfl, b_v40_, q39_⟩
          refine v_iconst hX (v := iI (-1)) dX11_isTwice_59 rfl ?_
          refine u_icmp_eq hX (tgt := 67) dX11_isTwice_60 (by decide) ⟨by omega, by omega⟩ ⟨by omega, by omega⟩ (fun h41_ => ?_) (fun h41_ => ?_)
          ·
            refine v_iconst hX (v := iI 0) dX11_isTwice_67 rfl ?_
            exact v_zreturn hX (nar_b (by omega)) hE dX11_isTwice_68 (by omega) (by omega) ⟨rfl, rfl, 0, rfl, (by omega), trivial⟩
          ·
            refine v_iconst hX (v := iI 1) dX11_isTwice_63 rfl ?_
            refine v_goto hX (tgt := 68) dX11_isTwice_64 (by decide) ?_
            exact v_zreturn hX (nar_b (by omega)) hE dX11_isTwice_68 (by omega) (by omega) ⟨rfl, rfl, 1, rfl, (by omega), trivial⟩
    ·
      refine v_iconst hX (v := iI 1) dX11_isTwice_24 rfl ?_
      exact v_zreturn hX (nar_b (by omega)) hE dX11_isTwice_25 (by omega) (by omega) ⟨rfl, rfl, 1, rfl, (by omega), trivial⟩
set_option maxRecDepth 100000 in
set_option maxHeartbeats 4000000 in
theorem g_T_isTooMuch {kn : Nat → Nat} {B : Nat} {S : b_M} {z x w : Nat} {oi : Nat} (h : cS S x) (e_oi : m_P S 908 (x + 418) = some (kn oi)) (o_oi : oi < 17) : b_C kn B yX11_isTooMuch cX11_isTooMuch 1 (some .boolean) 1 20 0 0 [.ref (x + 418)] S z (fun r S' z' => z = z' ∧ S = S' ∧ ∃ q : Int, r = some (.int (iI q)) ∧ (q = 0 ∨ q = 1) ∧ (True)) (fun _ _ _ => False) := by
  refine b_enter (by decide) (Nat.le_of_ble_eq_true rfl) ?_
  intro X hX hE hnL hkn hB hI_
  subst hkn; subst hB
  clear hI_
  change b_V X S z 0 0 0 [(0, .ref (x + 418))] []
  refine v_aload_n hX dX11_isTooMuch_0 (i := 0) rfl rfl ?_
  refine v_get hX (ci := 9) (k := 6) (cs_k_418 h) bc_9 (by decide) (by decide) in_9 w_2_131 dX11_isTooMuch_1 (mvP (f := 906) (q := (x + 425)) rfl rfl (cs_p_906 h)) ?_
  refine v_callV hX (n := 0) (t_L_isTooLong (S := S) (x := x) (w := w) h) (cs_k_425 h) bc_3 (by decide) w_4_178 w_4_179 w_4_180 w_1_13 w_4_181 (by decide +kernel) rfl ⟨by decide, by decide⟩ ⟨by omega, by omega⟩ (Nat.le_of_ble_eq_true rfl) rfl dX11_isTooMuch_4 (fun _ _ _ q => q) ?_
  rintro r1_ S1_ z1_ ⟨rfl, rfl, v2_, rfl, b_v2_, q1_⟩
  refine u_if_ne hX (tgt := 87) dX11_isTooMuch_7 (by decide) ⟨by omega, by omega⟩ (fun h3_ => ?_) (fun h3_ => ?_)
  ·
    refine v_iconst hX (v := iI 1) dX11_isTooMuch_87 rfl ?_
    refine v_goto hX (tgt := 92) dX11_isTooMuch_88 (by decide) ?_
    exact v_zreturn hX (nar_b (by omega)) hE dX11_isTooMuch_92 (by omega) (by omega) ⟨rfl, rfl, 1, rfl, (by omega), trivial⟩
  ·
    refine v_aload_n hX dX11_isTooMuch_10 (i := 0) rfl rfl ?_
    refine v_get hX (ci := 9) (k := 8) (cs_k_418 h) bc_9 (by decide) (by decide) in_9 w_2_134 dX11_isTooMuch_11 (mvP (f := 908) (q := (b_kn X oi)) rfl rfl (by simp (disch := omega) only [y_P_s_P, x_P_s_P, z_P_s_I, z_P_s_J, z_P_s_A, z_P_s_B, e_oi])) ?_
    refine v_getsK hX (i := 3) (by decide) rfl w_4_39 dX11_isTooMuch_14 ?_
    refine v_acmp_ne hX (tgt := 30) dX11_isTooMuch_17 (by decide) (fun h4_ => ?_) (fun h4_ => ?_)
    ·
      refine v_aload_n hX dX11_isTooMuch_30 (i := 0) rfl rfl ?_
      refine v_get hX (ci := 9) (k := 8) (cs_k_418 h) bc_9 (by decide) (by decide) in_9 w_2_134 dX11_isTooMuch_31 (mvP (f := 908) (q := (b_kn X oi)) rfl rfl (by simp (disch := omega) only [y_P_s_P, x_P_s_P, z_P_s_I, z_P_s_J, z_P_s_A, z_P_s_B, e_oi])) ?_
      refine v_getsK hX (i := 14) (by decide) rfl w_4_157 dX11_isTooMuch_34 ?_
      refine v_acmp_ne hX (tgt := 50) dX11_isTooMuch_37 (by decide) (fun h5_ => ?_) (fun h5_ => ?_)
      ·
        refine v_aload_n hX dX11_isTooMuch_50 (i := 0) rfl rfl ?_
        refine v_get hX (ci := 9) (k := 8) (cs_k_418 h) bc_9 (by decide) (by decide) in_9 w_2_134 dX11_isTooMuch_51 (mvP (f := 908) (q := (b_kn X oi)) rfl rfl (by simp (disch := omega) only [y_P_s_P, x_P_s_P, z_P_s_I, z_P_s_J, z_P_s_A, z_P_s_B, e_oi])) ?_
        refine v_getsK hX (i := 15) (by decide) rfl w_4_159 dX11_isTooMuch_54 ?_
        refine v_acmp_ne hX (tgt := 70) dX11_isTooMuch_57 (by decide) (fun h6_ => ?_) (fun h6_ => ?_)
        ·
          refine v_aload_n hX dX11_isTooMuch_70 (i := 0) rfl rfl ?_
          refine v_callV hX (n := 0) (g_T_isStatement (S := S) (x := x) (w := w) (oi := oi) h (by simp (disch := omega) only [y_P_s_P, x_P_s_P, z_P_s_I, z_P_s_J, z_P_s_A, z_P_s_B, e_oi]) (by omega)) (cs_k_418 h) bc_9 (by decide) w_4_194 w_4_196 (bw_p (q := (yX11_isStatement, 16)) (List.mem_of_getElem? (i := 24) rfl) rfl) w_1_10 w_4_197 (by decide +kernel) rfl ⟨by decide, by decide⟩ ⟨by omega, by omega⟩ (Nat.le_of_ble_eq_true rfl) rfl dX11_isTooMuch_71 (fun _ _ _ q => q) ?_
          rintro r7_ S7_ z7_ ⟨rfl, rfl, v8_, rfl, b_v8_, q7_⟩
          refine u_if_eq hX (tgt := 91) dX11_isTooMuch_74 (by decide) ⟨by omega, by omega⟩ (fun h9_ => ?_) (fun h9_ => ?_)
          ·
            refine v_iconst hX (v := iI 0) dX11_isTooMuch_91 rfl ?_
            exact v_zreturn hX (nar_b (by omega)) hE dX11_isTooMuch_92 (by omega) (by omega) ⟨rfl, rfl, 0, rfl, (by omega), trivial⟩
          ·
            refine v_aload_n hX dX11_isTooMuch_77 (i := 0) rfl rfl ?_
            refine v_get hX (ci := 9) (k := 0) (cs_k_418 h) bc_9 (by decide) (by decide) in_9 w_2_124 dX11_isTooMuch_78 (mvP (f := 900) (q := (x + 5)) rfl rfl (cs_p_900 h)) ?_
            obtain ⟨v10_, e_v10_, b_v10_⟩ := i_ex (m_I S 604 (x + 5))
            refine v_callV hX (n := 0) (t_P_isFull (S := S) (x := x) (w := w) (kp := v10_) h (by simp (disch := omega) only [y_I_s_I, x_I_s_I, z_I_s_J, z_I_s_A, z_I_s_B, z_I_s_P, e_v10_]) ⟨by omega, by omega⟩) (cs_k_5 h) bc_6 (by decide) w_4_198 w_4_199 w_4_200 w_1_3 w_4_201 (by decide +kernel) rfl ⟨by decide, by decide⟩ ⟨by omega, by omega⟩ (Nat.le_of_ble_eq_true rfl) rfl dX11_isTooMuch_81 (fun _ _ _ q => q) ?_
            rintro r11_ S11_ z11_ ⟨rfl, rfl, v12_, rfl, b_v12_, q11_⟩
            refine u_if_eq hX (tgt := 91) dX11_isTooMuch_84 (by decide) ⟨by omega, by omega⟩ (fun h13_ => ?_) (fun h13_ => ?_)
            ·
              refine v_iconst hX (v := iI 0) dX11_isTooMuch_91 rfl ?_
              exact v_zreturn hX (nar_b (by omega)) hE dX11_isTooMuch_92 (by omega) (by omega) ⟨rfl, rfl, 0, rfl, (by omega), trivial⟩
            ·
              refine v_iconst hX (v := iI 1) dX11_isTooMuch_87 rfl ?_
              refine v_goto hX (tgt := 92) dX11_isTooMuch_88 (by decide) ?_
              exact v_zreturn hX (nar_b (by omega)) hE dX11_isTooMuch_92 (by omega) (by omega) ⟨rfl, rfl, 1, rfl, (by omega), trivial⟩
        ·
          refine v_aload_n hX dX11_isTooMuch_60 (i := 0) rfl rfl ?_
          refine v_get hX (ci := 9) (k := 5) (cs_k_418 h) bc_9 (by decide) (by decide) in_9 w_2_129 dX11_isTooMuch_61 (mvP (f := 905) (q := (x + 421)) rfl rfl (cs_p_905 h)) ?_
          obtain ⟨v14_, e_v14_, b_v14_⟩ := i_ex (m_I S 403 (x + 421))
          refine v_callV hX (n := 0) (t_M_isFull (S := S) (x := x) (w := w) (t_ := v14_) h (by simp (disch := omega) only [y_I_s_I, x_I_s_I, z_I_s_J, z_I_s_A, z_I_s_B, z_I_s_P, e_v14_]) ⟨by omega, by omega⟩) (cs_k_421 h) bc_4 (by decide) w_4_190 w_4_191 w_4_192 w_1_12 w_4_193 (by decide +kernel) rfl ⟨by decide, by decide⟩ ⟨by omega, by omega⟩ (Nat.le_of_ble_eq_true rfl) rfl dX11_isTooMuch_64 (fun _ _ _ q => q) ?_
          rintro r15_ S15_ z15_ ⟨rfl, rfl, v16_, rfl, b_v16_, q15_⟩
          refine u_if_ne hX (tgt := 87) dX11_isTooMuch_67 (by decide) ⟨by omega, by omega⟩ (fun h17_ => ?_) (fun h17_ => ?_)
          ·
            refine v_iconst hX (v := iI 1) dX11_isTooMuch_87 rfl ?_
            refine v_goto hX (tgt := 92) dX11_isTooMuch_88 (by decide) ?_
            exact v_zreturn hX (nar_b (by omega)) hE dX11_isTooMuch_92 (by omega) (by omega) ⟨rfl, rfl, 1, rfl, (by omega), trivial⟩
          ·
            refine v_aload_n hX dX11_isTooMuch_70 (i := 0) rfl rfl ?_
            refine v_callV hX (n := 0) (g_T_isStatement (S := S) (x := x) (w := w) (oi := oi) h (by simp (disch := omega) only [y_P_s_P, x_P_s_P, z_P_s_I, z_P_s_J, z_P_s_A, z_P_s_B, e_oi]) (by omega)) (cs_k_418 h) bc_9 (by decide) w_4_194 w_4_196 (bw_p (q := (yX11_isStatement, 16)) (List.mem_of_getElem? (i := 24) rfl) rfl) w_1_10 w_4_197 (by decide +kernel) rfl ⟨by decide, by decide⟩ ⟨by omega, by omega⟩ (Nat.le_of_ble_eq_true rfl) rfl dX11_isTooMuch_71 (fun _ _ _ q => q) ?_
            rintro r18_ S18_ z18_ ⟨rfl, rfl, v19_, rfl, b_v19_, q18_⟩
            refine u_if_eq hX (tgt := 91) dX11_isTooMuch_74 (by decide) ⟨by omega, by omega⟩ (fun h20_ => ?_) (fun h20_ => ?_)
            ·
              refine v_iconst hX (v := iI 0) dX11_isTooMuch_91 rfl ?_
              exact v_zreturn hX (nar_b (by omega)) hE dX11_isTooMuch_92 (by omega) (by omega) ⟨rfl, rfl, 0, rfl, (by omega), trivial⟩
            ·
              refine v_aload_n hX dX11_isTooMuch_77 (i := 0) rfl rfl ?_
              refine v_get hX (ci := 9) (k := 0) (cs_k_418 h) bc_9 (by decide) (by decide) in_9 w_2_124 dX11_isTooMuch_78 (mvP (f := 900) (q := (x + 5)) rfl rfl (cs_p_900 h)) ?_
              obtain ⟨v21_, e_v21_, b_v21_⟩ := i_ex (m_I S 604 (x + 5))
              refine v_callV hX (n := 0) (t_P_isFull (S := S) (x := x) (w := w) (kp := v21_) h (by simp (disch := omega) only [y_I_s_I, x_I_s_I, z_I_s_J, z_I_s_A, z_I_s_B, z_I_s_P, e_v14_, e_v21_]) ⟨by omega, by omega⟩) (cs_k_5 h) bc_6 (by decide) w_4_198 w_4_199 w_4_200 w_1_3 w_4_201 (by decide +kernel) rfl ⟨by decide, by decide⟩ ⟨by omega, by omega⟩ (Nat.le_of_ble_eq_true rfl) rfl dX11_isTooMuch_81 (fun _ _ _ q => q) ?_
              rintro r22_ S22_ z22_ ⟨rfl, rfl, v23_, rfl, b_v23_, q22_⟩
              refine u_if_eq hX (tgt := 91) dX11_isTooMuch_84 (by decide) ⟨by omega, by omega⟩ (fun h24_ => ?_) (fun h24_ => ?_)
              ·
                refine v_iconst hX (v := iI 0) dX11_isTooMuch_91 rfl ?_
                exact v_zreturn hX (nar_b (by omega)) hE dX11_isTooMuch_92 (by omega) (by omega) ⟨rfl, rfl, 0, rfl, (by omega), trivial⟩
              ·
                refine v_iconst hX (v := iI 1) dX11_isTooMuch_87 rfl ?_
                refine v_goto hX (tgt := 92) dX11_isTooMuch_88 (by decide) ?_
                exact v_zreturn hX (nar_b (by omega)) hE dX11_isTooMuch_92 (by omega) (by omega) ⟨rfl, rfl, 1, rfl, (by omega), trivial⟩
      ·
        refine v_aload_n hX dX11_isTooMuch_40 (i := 0) rfl rfl ?_
        refine v_get hX (ci := 9) (k := 1) (cs_k_418 h) bc_9 (by decide) (by decide) in_9 w_2_125 dX11_isTooMuch_41 (mvP (f := 901) (q := (x + 6)) rfl rfl (cs_p_901 h)) ?_
        obtain ⟨v25_, e_v25_, b_v25_⟩ := i_ex (m_I S 505 (x + 6))
        refine v_callV hX (n := 0) (t_N_isFull (S := S) (x := x) (w := w) (se := v25_) h (by simp (disch := omega) only [y_I_s_I, x_I_s_I, z_I_s_J, z_I_s_A, z_I_s_B, z_I_s_P, e_v25_]) ⟨by omega, by omega⟩) (cs_k_6 h) bc_5 (by decide) w_4_186 w_4_187 w_4_188 w_1_4 w_4_189 (by decide +kernel) rfl ⟨by decide, by decide⟩ ⟨by omega, by omega⟩ (Nat.le_of_ble_eq_true rfl) rfl dX11_isTooMuch_44 (fun _ _ _ q => q) ?_
        rintro r26_ S26_ z26_ ⟨rfl, rfl, v27_, rfl, b_v27_, q26_⟩
        refine u_if_ne hX (tgt := 87) dX11_isTooMuch_47 (by decide) ⟨by omega, by omega⟩ (fun h28_ => ?_) (fun h28_ => ?_)
        ·
          refine v_iconst hX (v := iI 1) dX11_isTooMuch_87 rfl ?_
          refine v_goto hX (tgt := 92) dX11_isTooMuch_88 (by decide) ?_
          exact v_zreturn hX (nar_b (by omega)) hE dX11_isTooMuch_92 (by omega) (by omega) ⟨rfl, rfl, 1, rfl, (by omega), trivial⟩
        ·
          refine v_aload_n hX dX11_isTooMuch_50 (i := 0) rfl rfl ?_
          refine v_get hX (ci := 9) (k := 8) (cs_k_418 h) bc_9 (by decide) (by decide) in_9 w_2_134 dX11_isTooMuch_51 (mvP (f := 908) (q := (b_kn X oi)) rfl rfl (by simp (disch := omega) only [y_P_s_P, x_P_s_P, z_P_s_I, z_P_s_J, z_P_s_A, z_P_s_B, e_oi])) ?_
          refine v_getsK hX (i := 15) (by decide) rfl w_4_159 dX11_isTooMuch_54 ?_
          refine v_acmp_ne hX (tgt := 70) dX11_isTooMuch_57 (by decide) (fun h29_ => ?_) (fun h29_ => ?_)
          ·
            refine v_aload_n hX dX11_isTooMuch_70 (i := 0) rfl rfl ?_
            refine v_callV hX (n := 0) (g_T_isStatement (S := S) (x := x) (w := w) (oi := oi) h (by simp (disch := omega) only [y_P_s_P, x_P_s_P, z_P_s_I, z_P_s_J, z_P_s_A, z_P_s_B, e_oi]) (by omega)) (cs_k_418 h) bc_9 (by decide) w_4_194 w_4_196 (bw_p (q := (yX11_isStatement, 16)) (List.mem_of_getElem? (i := 24) rfl) rfl) w_1_10 w_4_197 (by decide +kernel) rfl ⟨by decide, by decide⟩ ⟨by omega, by omega⟩ (Nat.le_of_ble_eq_true rfl) rfl dX11_isTooMuch_71 (fun _ _ _ q => q) ?_
            rintro r30_ S30_ z30_ ⟨rfl, rfl, v31_, rfl, b_v31_, q30_⟩
            refine u_if_eq hX (tgt := 91) dX11_isTooMuch_74 (by decide) ⟨by omega, by omega⟩ (fun h32_ => ?_) (fun h32_ => ?_)
            ·
              refine v_iconst hX (v := iI 0) dX11_isTooMuch_91 rfl ?_
              exact v_zreturn hX (nar_b (by omega)) hE dX11_isTooMuch_92 (by omega) (by omega) ⟨rfl, rfl, 0, rfl, (by omega), trivial⟩
            ·
              refine v_aload_n hX dX11_isTooMuch_77 (i := 0) rfl rfl ?_
              refine v_get hX (ci := 9) (k := 0) (cs_k_418 h) bc_9 (by decide) (by decide) in_9 w_2_124 dX11_isTooMuch_78 (mvP (f := 900) (q := (x + 5)) rfl rfl (cs_p_900 h)) ?_
              obtain ⟨v33_, e_v33_, b_v33_⟩ := i_ex (m_I S 604 (x + 5))
              refine v_callV hX (n := 0) (t_P_isFull (S := S) (x := x) (w := w) (kp := v33_) h (by simp (disch := omega) only [y_I_s_I, x_I_s_I, z_I_s_J, z_I_s_A, z_I_s_B, z_I_s_P, e_v25_, e_v33_]) ⟨by omega, by omega⟩) (cs_k_5 h) bc_6 (by decide) w_4_198 w_4_199 w_4_200 w_1_3 w_4_201 (by decide +kernel) rfl ⟨by decide, by decide⟩ ⟨by omega, by omega⟩ (Nat.le_of_ble_eq_true rfl) rfl dX11_isTooMuch_81 (fun _ _ _ q => q) ?_
              rintro r34_ S34_ z34_ ⟨rfl, rfl, v35_, rfl, b_v35_, q34_⟩
              refine u_if_eq hX (tgt := 91) dX11_isTooMuch_84 (by decide) ⟨by omega, by omega⟩ (fun h36_ => ?_) (fun h36_ => ?_)
              ·
                refine v_iconst hX (v := iI 0) dX11_isTooMuch_91 rfl ?_
                exact v_zreturn hX (nar_b (by omega)) hE dX11_isTooMuch_92 (by omega) (by omega) ⟨rfl, rfl, 0, rfl, (by omega), trivial⟩
              ·
                refine v_iconst hX (v := iI 1) dX11_isTooMuch_87 rfl ?_
                refine v_goto hX (tgt := 92) dX11_isTooMuch_88 (by decide) ?_
                exact v_zreturn hX (nar_b (by omega)) hE dX11_isTooMuch_92 (by omega) (by omega) ⟨rfl, rfl, 1, rfl, (by omega), trivial⟩
          ·
            refine v_aload_n hX dX11_isTooMuch_60 (i := 0) rfl rfl ?_
            refine v_get hX (ci := 9) (k := 5) (cs_k_418 h) bc_9 (by decide) (by decide) in_9 w_2_129 dX11_isTooMuch_61 (mvP (f := 905) (q := (x + 421)) rfl rfl (cs_p_905 h)) ?_
            obtain ⟨v37_, e_v37_, b_v37_⟩ := i_ex (m_I S 403 (x + 421))
            refine v_callV hX (n := 0) (t_M_isFull (S := S) (x := x) (w := w) (t_ := v37_) h (by simp (disch := omega) only [y_I_s_I, x_I_s_I, z_I_s_J, z_I_s_A, z_I_s_B, z_I_s_P, e_v25_, e_v37_]) ⟨by omega, by omega⟩) (cs_k_421 h) bc_4 (by decide) w_4_190 w_4_191 w_4_192 w_1_12 w_4_193 (by decide +kernel) rfl ⟨by decide, by decide⟩ ⟨by omega, by omega⟩ (Nat.le_of_ble_eq_true rfl) rfl dX11_isTooMuch_64 (fun _ _ _ q => q) ?_
            rintro r38_ S38_ z38_ ⟨rfl, rfl, v39_, rfl, b_v39_, q38_⟩
            refine u_if_ne hX (tgt := 87) dX11_isTooMuch_67 (by decide) ⟨by omega, by omega⟩ (fun h40_ => ?_) (fun h40_ => ?_)
            ·
              refine v_iconst hX (v := iI 1) dX11_isTooMuch_87 rfl ?_
              refine v_goto hX (tgt := 92) dX11_isTooMuch_88 (by decide) ?_
              exact v_zreturn hX (nar_b (by omega)) hE dX11_isTooMuch_92 (by omega) (by omega) ⟨rfl, rfl, 1, rfl, (by omega), trivial⟩
            ·
              refine v_aload_n hX dX11_isTooMuch_70 (i := 0) rfl rfl ?_
              refine v_callV hX (n := 0) (g_T_isStatement (S := S) (x := x) (w := w) (oi := oi) h (by simp (disch := omega) only [y_P_s_P, x_P_s_P, z_P_s_I, z_P_s_J, z_P_s_A, z_P_s_B, e_oi]) (by omega)) (cs_k_418 h) bc_9 (by decide) w_4_194 w_4_196 (bw_p (q := (yX11_isStatement, 16)) (List.mem_of_getElem? (i := 24) rfl) rfl) w_1_10 w_4_197 (by decide +kernel) rfl ⟨by decide, by decide⟩ ⟨by omega, by omega⟩ (Nat.le_of_ble_eq_true rfl) rfl dX11_isTooMuch_71 (fun _ _ _ q => q) ?_
              rintro r41_ S41_ z41_ ⟨rfl, rfl, v42_, rfl, b_v42_, q41_⟩
              refine u_if_eq hX (tgt := 91) dX11_isTooMuch_74 (by decide) ⟨by omega, by omega⟩ (fun h43_ => ?_) (fun h43_ => ?_)
              ·
                refine v_iconst hX (v := iI 0) dX11_isTooMuch_91 rfl ?_
                exact v_zreturn hX (nar_b (by omega)) hE dX11_isTooMuch_92 (by omega) (by omega) ⟨rfl, rfl, 0, rfl, (by omega), trivial⟩
              ·
                refine v_aload_n hX dX11_isTooMuch_77 (i := 0) rfl rfl ?_
                refine v_get hX (ci := 9) (k := 0) (cs_k_418 h) bc_9 (by decide) (by decide) in_9 w_2_124 dX11_isTooMuch_78 (mvP (f := 900) (q := (x + 5)) rfl rfl (cs_p_900 h)) ?_
                obtain ⟨v44_, e_v44_, b_v44_⟩ := i_ex (m_I S 604 (x + 5))
                refine v_callV hX (n := 0) (t_P_isFull (S := S) (x := x) (w := w) (kp := v44_) h (by simp (disch := omega) only [y_I_s_I, x_I_s_I, z_I_s_J, z_I_s_A, z_I_s_B, z_I_s_P, e_v25_, e_v37_, e_v44_]) ⟨by omega, by omega⟩) (cs_k_5 h) bc_6 (by decide) w_4_198 w_4_199 w_4_200 w_1_3 w_4_201 (by decide +kernel) rfl ⟨by decide, by decide⟩ ⟨by omega, by omega⟩ (Nat.le_of_ble_eq_true rfl) rfl dX11_isTooMuch_81 (fun _ _ _ q => q) ?_
                rintro r45_ S45_ z45_ ⟨rfl, rfl, v46_, rfl, b_v46_, q45_⟩
                refine u_if_eq hX (tgt := 91) dX11_isTooMuch_84 (by decide) ⟨by omega, by omega⟩ (fun h47_ => ?_) (fun h47_ => ?_)
                ·
                  refine v_iconst hX (v := iI 0) dX11_isTooMuch_91 rfl ?_
                  exact v_zreturn hX (nar_b (by omega)) hE dX11_isTooMuch_92 (by omega) (by omega) ⟨rfl, rfl, 0, rfl, (by omega), trivial⟩
                ·
                  refine v_iconst hX (v := iI 1) dX11_isTooMuch_87 rfl ?_
                  refine v_goto hX (tgt := 92) dX11_isTooMuch_88 (by decide) ?_
                  exact v_zreturn hX (nar_b (by omega)) hE dX11_isTooMuch_92 (by omega) (by omega) ⟨rfl, rfl, 1, rfl, (by omega), trivial⟩
    ·
      refine v_aload_n hX dX11_isTooMuch_20 (i := 0) rfl rfl ?_
      refine v_get hX (ci := 9) (k := 6) (cs_k_418 h) bc_9 (by decide) (by decide) in_9 w_2_131 dX11_isTooMuch_21 (mvP (f := 906) (q := (x + 425)) rfl rfl (cs_p_906 h)) ?_
      obtain ⟨v48_, e_v48_, b_v48_⟩ := i_ex (m_I S 301 (x + 425))
      obtain ⟨v49_, e_v49_, b_v49_⟩ := i_ex (m_I S 310 (x + 425))
      refine v_callV hX (n := 0) (t_L_isFull (S := S) (x := x) (w := w) (dp := v48_) (tl := v49_) h (by simp (disch := omega) only [y_I_s_I, x_I_s_I, z_I_s_J, z_I_s_A, z_I_s_B, z_I_s_P, e_v48_]) ⟨by omega, by omega⟩ (by simp (disch := omega) only [y_I_s_I, x_I_s_I, z_I_s_J, z_I_s_A, z_I_s_B, z_I_s_P, e_v48_, e_v49_]) ⟨by omega, by omega⟩) (cs_k_425 h) bc_3 (by decide) w_4_182 w_4_183 w_4_184 w_1_13 w_4_185 (by decide +kernel) rfl ⟨by decide, by decide⟩ ⟨by omega, by omega⟩ (Nat.le_of_ble_eq_true rfl) rfl dX11_isTooMuch_24 (fun _ _ _ q => q) ?_
      rintro r50_ S50_ z50_ ⟨rfl, rfl, v51_, rfl, b_v51_, q50_⟩
      refine u_if_ne hX (tgt := 87) dX11_isTooMuch_27 (by decide) ⟨by omega, by omega⟩ (fun h52_ => ?_) (fun h52_ => ?_)
      ·
        refine v_iconst hX (v := iI 1) dX11_isTooMuch_87 rfl ?_
        refine v_goto hX (tgt := 92) dX11_isTooMuch_88 (by decide) ?_
        exact v_zreturn hX (nar_b (by omega)) hE dX11_isTooMuch_92 (by omega) (by omega) ⟨rfl, rfl, 1, rfl, (by omega), trivial⟩
      ·
        refine v_aload_n hX dX11_isTooMuch_30 (i := 0) rfl rfl ?_
        refine v_get hX (ci := 9) (k := 8) (cs_k_418 h) bc_9 (by decide) (by decide) in_9 w_2_134 dX11_isTooMuch_31 (mvP (f := 908) (q := (b_kn X oi)) rfl rfl (by simp (disch := omega) only [y_P_s_P, x_P_s_P, z_P_s_I, z_P_s_J, z_P_s_A, z_P_s_B, e_oi])) ?_
        refine v_getsK hX (i := 14) (by decide) rfl w_4_157 dX11_isTooMuch_34 ?_
        refine v_acmp_ne hX (tgt := 50) dX11_isTooMuch_37 (by decide) (fun h53_ => ?_) (fun h53_ => ?_)
        ·
          refine v_aload_n hX dX11_isTooMuch_50 (i := 0) rfl rfl ?_
          refine v_get hX (ci := 9) (k := 8) (cs_k_418 h) bc_9 (by decide) (by decide) in_9 w_2_134 dX11_isTooMuch_51 (mvP (f := 908) (q := (b_kn X oi)) rfl rfl (by simp (disch := omega) only [y_P_s_P, x_P_s_P, z_P_s_I, z_P_s_J, z_P_s_A, z_P_s_B, e_oi])) ?_
          refine v_getsK hX (i := 15) (by decide) rfl w_4_159 dX11_isTooMuch_54 ?_
          refine v_acmp_ne hX (tgt := 70) dX11_isTooMuch_57 (by decide) (fun h54_ => ?_) (fun h54_ => ?_)
          ·
            refine v_aload_n hX dX11_isTooMuch_70 (i := 0) rfl rfl ?_
            refine v_callV hX (n := 0) (g_T_isStatement (S := S) (x := x) (w := w) (oi := oi) h (by simp (disch := omega) only [y_P_s_P, x_P_s_P, z_P_s_I, z_P_s_J, z_P_s_A, z_P_s_B, e_oi]) (by omega)) (cs_k_418 h) bc_9 (by decide) w_4_194 w_4_196 (bw_p (q := (yX11_isStatement, 16)) (List.mem_of_getElem? (i := 24) rfl) rfl) w_1_10 w_4_197 (by decide +kernel) rfl ⟨by decide, by decide⟩ ⟨by omega, by omega⟩ (Nat.le_of_ble_eq_true rfl) rfl dX11_isTooMuch_71 (fun _ _ _ q => q) ?_
            rintro r55_ S55_ z55_ ⟨rfl, rfl, v56_, rfl, b_v56_, q55_⟩
            refine u_if_eq hX (tgt := 91) dX11_isTooMuch_74 (by decide) ⟨by omega, by omega⟩ (fun h57_ => ?_) (fun h57_ => ?_)
            ·
              refine v_iconst hX (v := iI 0) dX11_isTooMuch_91 rfl ?_
              exact v_zreturn hX (nar_b (by omega)) hE dX11_isTooMuch_92 (by omega) (by omega) ⟨rfl, rfl, 0, rfl, (by omega), trivial⟩
            ·
              refine v_aload_n hX dX11_isTooMuch_77 (i := 0) rfl rfl ?_
              refine v_get hX (ci := 9) (k := 0) (cs_k_418 h) bc_9 (by decide) (by decide) in_9 w_2_124 dX11_isTooMuch_78 (mvP (f := 900) (q := (x + 5)) rfl rfl (cs_p_900 h)) ?_
              obtain ⟨v58_, e_v58_, b_v58_⟩ := i_ex (m_I S 604 (x + 5))
              refine v_callV hX (n := 0) (t_P_isFull (S := S) (x := x) (w := w) (kp := v58_) h (by simp (disch := omega) only [y_I_s_I, x_I_s_I, z_I_s_J, z_I_s_A, z_I_s_B, z_I_s_P, e_v48_, e_v49_, e_v58_]) ⟨by omega, by omega⟩) (cs_k_5 h) bc_6 (by decide) w_4_198 w_4_199 w_4_200 w_1_3 w_4_201 (by decide +kernel) rfl ⟨by decide, by decide⟩ ⟨by omega, by omega⟩ (Nat.le_of_ble_eq_true rfl) rfl dX11_isTooMuch_81 (fun _ _ _ q => q) ?_
              rintro r59_ S59_ z59_ ⟨rfl, rfl, v60_, rfl, b_v60_, q59_⟩
              refine u_if_eq hX (tgt := 91) dX11_isTooMuch_84 (by decide) ⟨by omega, by omega⟩ (fun h61_ => ?_) (fun h61_ => ?_)
              ·
                refine v_iconst hX (v := iI 0) dX11_isTooMuch_91 rfl ?_
                exact v_zreturn hX (nar_b (by omega)) hE dX11_isTooMuch_92 (by omega) (by omega) ⟨rfl, rfl, 0, rfl, (by omega), trivial⟩
              ·
                refine v_iconst hX (v := iI 1) dX11_isTooMuch_87 rfl ?_
                refine v_goto hX (tgt := 92) dX11_isTooMuch_88 (by decide) ?_
                exact v_zreturn hX (nar_b (by omega)) hE dX11_isTooMuch_92 (by omega) (by omega) ⟨rfl, rfl, 1, rfl, (by omega), trivial⟩
          ·
            refine v_aload_n hX dX11_isTooMuch_60 (i := 0) rfl rfl ?_
            refine v_get hX (ci := 9) (k := 5) (cs_k_418 h) bc_9 (by decide) (by decide) in_9 w_2_129 dX11_isTooMuch_61 (mvP (f := 905) (q := (x + 421)) rfl rfl (cs_p_905 h)) ?_
            obtain ⟨v62_, e_v62_, b_v62_⟩ := i_ex (m_I S 403 (x + 421))
            refine v_callV hX (n := 0) (t_M_isFull (S := S) (x := x) (w := w) (t_ := v62_) h (by simp (disch := omega) only [y_I_s_I, x_I_s_I, z_I_s_J, z_I_s_A, z_I_s_B, z_I_s_P, e_v48_, e_v49_, e_v62_]) ⟨by omega, by omega⟩) (cs_k_421 h) bc_4 (by decide) w_4_190 w_4_191 w_4_192 w_1_12 w_4_193 (by decide +kernel) rfl ⟨by decide, by decide⟩ ⟨by omega, by omega⟩ (Nat.le_of_ble_eq_true rfl) rfl dX11_isTooMuch_64 (fun _ _ _ q => q) ?_
            rintro r63_ S63_ z63_ ⟨rfl, rfl, v64_, rfl, b_v64_, q63_⟩
            refine u_if_ne hX (tgt := 87) dX11_isTooMuch_67 (by decide) ⟨by omega, by omega⟩ (fun h65_ => ?_) (fun h65_ => ?_)
            ·
              refine v_iconst hX (v := iI 1) dX11_isTooMuch_87 rfl ?_
              refine v_goto hX (tgt := 92) dX11_isTooMuch_88 (by decide) ?_
              exact v_zreturn hX (nar_b (by omega)) hE dX11_isTooMuch_92 (by omega) (by omega) ⟨rfl, rfl, 1, rfl, (by omega), trivial⟩
            ·
              refine v_aload_n hX dX11_isTooMuch_70 (i := 0) rfl rfl ?_
              refine v_callV hX (n := 0) (g_T_isStatement (S := S) (x := x) (w := w) (oi := oi) h (by simp (disch := omega) only [y_P_s_P, x_P_s_P, z_P_s_I, z_P_s_J, z_P_s_A, z_P_s_B, e_oi]) (by omega)) (cs_k_418 h) bc_9 (by decide) w_4_194 w_4_196 (bw_p (q := (yX11_isStatement, 16)) (List.mem_of_getElem? (i := 24) rfl) rfl) w_1_10 w_4_197 (by decide +kernel) rfl ⟨by decide, by decide⟩ ⟨by omega, by omega⟩ (Nat.le_of_ble_eq_true rfl) rfl dX11_isTooMuch_71 (fun _ _ _ q => q) ?_
              rintro r66_ S66_ z66_ ⟨rfl, rfl, v67_, rfl, b_v67_, q66_⟩
              refine u_if_eq hX (tgt := 91) dX11_isTooMuch_74 (by decide) ⟨by omega, by omega⟩ (fun h68_ => ?_) (fun h68_ => ?_)
              ·
                refine v_iconst hX (v := iI 0) dX11_isTooMuch_91 rfl ?_
                exact v_zreturn hX (nar_b (by omega)) hE dX11_isTooMuch_92 (by omega) (by omega) ⟨rfl, rfl, 0, rfl, (by omega), trivial⟩
              ·
                refine v_aload_n hX dX11_isTooMuch_77 (i := 0) rfl rfl ?_
                refine v_get hX (ci := 9) (k := 0) (cs_k_418 h) bc_9 (by decide) (by decide) in_9 w_2_124 dX11_isTooMuch_78 (mvP (f := 900) (q := (x + 5)) rfl rfl (cs_p_900 h)) ?_
                obtain ⟨v69_, e_v69_, b_v69_⟩ := i_ex (m_I S 604 (x + 5))
                refine v_callV hX (n := 0) (t_P_isFull (S := S) (x := x) (w := w) (kp := v69_) h (by simp (disch := omega) only [y_I_s_I, x_I_s_I, z_I_s_J, z_I_s_A, z_I_s_B, z_I_s_P, e_v48_, e_v49_, e_v62_, e_v69_]) ⟨by omega, by omega⟩) (cs_k_5 h) bc_6 (by decide) w_4_198 w_4_199 w_4_200 w_1_3 w_4_201 (by decide +kernel) rfl ⟨by decide, by decide⟩ ⟨by omega, by omega⟩ (Nat.le_of_ble_eq_true rfl) rfl dX11_isTooMuch_81 (fun _ _ _ q => q) ?_
                rintro r70_ S70_ z70_ ⟨rfl, rfl, v71_, rfl, b_v71_, q70_⟩
                refine u_if_eq hX (tgt := 91) dX11_isTooMuch_84 (by decide) ⟨by omega, by omega⟩ (fun h72_ => ?_) (fun h72_ => ?_)
                ·
                  refine v_iconst hX (v := iI 0) dX11_isTooMuch_91 rfl ?_
                  exact v_zreturn hX (nar_b (by omega)) hE dX11_isTooMuch_92 (by omega) (by omega) ⟨rfl, rfl, 0, rfl, (by omega), trivial⟩
                ·
                  refine v_iconst hX (v := iI 1) dX11_isTooMuch_87 rfl ?_
                  refine v_goto hX (tgt := 92) dX11_isTooMuch_88 (by decide) ?_
                  exact v_zreturn hX (nar_b (by omega)) hE dX11_isTooMuch_92 (by omega) (by omega) ⟨rfl, rfl, 1, rfl, (by omega), trivial⟩
        ·
          refine v_aload_n hX dX11_isTooMuch_40 (i := 0) rfl rfl ?_
          refine v_get hX (ci := 9) (k := 1) (cs_k_418 h) bc_9 (by decide) (by decide) in_9 w_2_125 dX11_isTooMuch_41 (mvP (f := 901) (q := (x + 6)) rfl rfl (cs_p_901 h)) ?_
          obtain ⟨v73_, e_v73_, b_v73_⟩ := i_ex (m_I S 505 (x + 6))
          refine v_callV hX (n := 0) (t_N_isFull (S := S) (x := x) (w := w) (se := v73_) h (by simp (disch := omega) only [y_I_s_I, x_I_s_I, z_I_s_J, z_I_s_A, z_I_s_B, z_I_s_P, e_v48_, e_v49_, e_v73_]) ⟨by omega, by omega⟩) (cs_k_6 h) bc_5 (by decide) w_4_186 w_4_187 w_4_188 w_1_4 w_4_189 (by decide +kernel) rfl ⟨by decide, by decide⟩ ⟨by omega, by omega⟩ (Nat.le_of_ble_eq_true rfl) rfl dX11_isTooMuch_44 (fun _ _ _ q => q) ?_
          rintro r74_ S74_ z74_ ⟨rfl, rfl, v75_, rfl, b_v75_, q74_⟩
          refine u_if_ne hX (tgt := 87) dX11_isTooMuch_47 (by decide) ⟨by omega, by omega⟩ (fun h76_ => ?_) (fun h76_ => ?_)
          ·
            refine v_iconst hX (v := iI 1) dX11_isTooMuch_87 rfl ?_
            refine v_goto hX (tgt := 92) dX11_isTooMuch_88 (by decide) ?_
            exact v_zreturn hX (nar_b (by omega)) hE dX11_isTooMuch_92 (by omega) (by omega) ⟨rfl, rfl, 1, rfl, (by omega), trivial⟩
          ·
            refine v_aload_n hX dX11_isTooMuch_50 (i := 0) rfl rfl ?_
            refine v_get hX (ci := 9) (k := 8) (cs_k_418 h) bc_9 (by decide) (by decide) in_9 w_2_134 dX11_isTooMuch_51 (mvP (f := 908) (q := (b_kn X oi)) rfl rfl (by simp (disch := omega) only [y_P_s_P, x_P_s_P, z_P_s_I, z_P_s_J, z_P_s_A, z_P_s_B, e_oi])) ?_
            refine v_getsK hX (i := 15) (by decide) rfl w_4_159 dX11_isTooMuch_54 ?_
            refine v_acmp_ne hX (tgt := 70) dX11_isTooMuch_57 (by decide) (fun h77_ => ?_) (fun h77_ => ?_)
            ·
              refine v_aload_n hX dX11_isTooMuch_70 (i := 0) rfl rfl ?_
              refine v_callV hX (n := 0) (g_T_isStatement (S := S) (x := x) (w := w) (oi := oi) h (by simp (disch := omega) only [y_P_s_P, x_P_s_P, z_P_s_I, z_P_s_J, z_P_s_A, z_P_s_B, e_oi]) (by omega)) (cs_k_418 h) bc_9 (by decide) w_4_194 w_4_196 (bw_p (q := (yX11_isStatement, 16)) (List.mem_of_getElem? (i := 24) rfl) rfl) w_1_10 w_4_197 (by decide +kernel) rfl ⟨by decide, by decide⟩ ⟨by omega, by omega⟩ (Nat.le_of_ble_eq_true rfl) rfl dX11_isTooMuch_71 (fun _ _ _ q => q) ?_
              rintro r78_ S78_ z78_ ⟨rfl, rfl, v79_, rfl, b_v79_, q78_⟩
              refine u_if_eq hX (tgt := 91) dX11_isTooMuch_74 (by decide) ⟨by omega, by omega⟩ (fun h80_ => ?_) (fun h80_ => ?_)
              ·
                refine v_iconst hX (v := iI 0) dX11_isTooMuch_91 rfl ?_
                exact v_zreturn hX (nar_b (by omega)) hE dX11_isTooMuch_92 (by omega) (by omega) ⟨rfl, rfl, 0, rfl, (by omega), trivial⟩
              ·
                refine v_aload_n hX dX11_isTooMuch_77 (i := 0) rfl rfl ?_
                refine v_get hX (ci := 9) (k := 0) (cs_k_418 h) bc_9 (by decide) (by decide) in_9 w_2_124 dX11_isTooMuch_78 (mvP (f := 900) (q := (x + 5)) rfl rfl (cs_p_900 h)) ?_
                obtain ⟨v81_, e_v81_, b_v81_⟩ := i_ex (m_I S 604 (x + 5))
                refine v_callV hX (n := 0) (t_P_isFull (S := S) (x := x) (w := w) (kp := v81_) h (by simp (disch := omega) only [y_I_s_I, x_I_s_I, z_I_s_J, z_I_s_A, z_I_s_B, z_I_s_P, e_v48_, e_v49_, e_v73_, e_v81_]) ⟨by omega, by omega⟩) (cs_k_5 h) bc_6 (by decide) w_4_198 w_4_199 w_4_200 w_1_3 w_4_201 (by decide +kernel) rfl ⟨by decide, by decide⟩ ⟨by omega, by omega⟩ (Nat.le_of_ble_eq_true rfl) rfl dX11_isTooMuch_81 (fun _ _ _ q => q) ?_
                rintro r82_ S82_ z82_ ⟨rfl, rfl, v83_, rfl, b_v83_, q82_⟩
                refine u_if_eq hX (tgt := 91) dX11_isTooMuch_84 (by decide) ⟨by omega, by omega⟩ (fun h84_ => ?_) (fun h84_ => ?_)
                ·
                  refine v_iconst hX (v := iI 0) dX11_isTooMuch_91 rfl ?_
                  exact v_zreturn hX (nar_b (by omega)) hE dX11_isTooMuch_92 (by omega) (by omega) ⟨rfl, rfl, 0, rfl, (by omega), trivial⟩
                ·
                  refine v_iconst hX (v := iI 1) dX11_isTooMuch_87 rfl ?_
                  refine v_goto hX (tgt := 92) dX11_isTooMuch_88 (by decide) ?_
                  exact v_zreturn hX (nar_b (by omega)) hE dX11_isTooMuch_92 (by omega) (by omega) ⟨rfl, rfl, 1, rfl, (by omega), trivial⟩
            ·
              refine v_aload_n hX dX11_isTooMuch_60 (i := 0) rfl rfl ?_
              refine v_get hX (ci := 9) (k := 5) (cs_k_418 h) bc_9 (by decide) (by decide) in_9 w_2_129 dX11_isTooMuch_61 (mvP (f := 905) (q := (x + 421)) rfl rfl (cs_p_905 h)) ?_
              obtain ⟨v85_, e_v85_, b_v85_⟩ := i_ex (m_I S 403 (x + 421))
              refine v_callV hX (n := 0) (t_M_isFull (S := S) (x := x) (w := w) (t_ := v85_) h (by simp (disch := omega) only [y_I_s_I, x_I_s_I, z_I_s_J, z_I_s_A, z_I_s_B, z_I_s_P, e_v48_, e_v49_, e_v73_, e_v85_]) ⟨by omega, by omega⟩) (cs_k_421 h) bc_4 (by decide) w_4_190 w_4_191 w_4_192 w_1_12 w_4_193 (by decide +kernel) rfl ⟨by decide, by decide⟩ ⟨by omega, by omega⟩ (Nat.le_of_ble_eq_true rfl) rfl dX11_isTooMuch_64 (fun _ _ _ q => q) ?_
              rintro r86_ S86_ z86_ ⟨rfl, rfl, v87_, rfl, b_v87_, q86_⟩
              refine u_if_ne hX (tgt := 87) dX11_isTooMuch_67 (by decide) ⟨by omega, by omega⟩ (fun h88_ => ?_) (fun h88_ => ?_)
              ·
                refine v_iconst hX (v := iI 1) dX11_isTooMuch_87 rfl ?_
                refine v_goto hX (tgt := 92) dX11_isTooMuch_88 (by decide) ?_
                exact v_zreturn hX (nar_b (by omega)) hE dX11_isTooMuch_92 (by omega) (by omega) ⟨rfl, rfl, 1, rfl, (by omega), trivial⟩
              ·
                refine v_aload_n hX dX11_isTooMuch_70 (i := 0) rfl rfl ?_
                refine v_callV hX (n := 0) (g_T_isStatement (S := S) (x := x) (w := w) (oi := oi) h (by simp (disch := omega) only [y_P_s_P, x_P_s_P, z_P_s_I, z_P_s_J, z_P_s_A, z_P_s_B, e_oi]) (by omega)) (cs_k_418 h) bc_9 (by decide) w_4_194 w_4_196 (bw_p (q := (yX11_isStatement, 16)) (List.mem_of_getElem? (i := 24) rfl) rfl) w_1_10 w_4_197 (by decide +kernel) rfl ⟨by decide, by decide⟩ ⟨by omega, by omega⟩ (Nat.le_of_ble_eq_true rfl) rfl dX11_isTooMuch_71 (fun _ _ _ q => q) ?_
                rintro r89_ S89_ z89_ ⟨rfl, rfl, v90_, rfl, b_v90_, q89_⟩
                refine u_if_eq hX (tgt := 91) dX11_isTooMuch_74 (by decide) ⟨by omega, by omega⟩ (fun h91_ => ?_) (fun h91_ => ?_)
                ·
                  refine v_iconst hX (v := iI 0) dX11_isTooMuch_91 rfl ?_
                  exact v_zreturn hX (nar_b (by omega)) hE dX11_isTooMuch_92 (by omega) (by omega) ⟨rfl, rfl, 0, rfl, (by omega), trivial⟩
                ·
                  refine v_aload_n hX dX11_isTooMuch_77 (i := 0) rfl rfl ?_
                  refine v_get hX (ci := 9) (k := 0) (cs_k_418 h) bc_9 (by decide) (by decide) in_9 w_2_124 dX11_isTooMuch_78 (mvP (f := 900) (q := (x + 5)) rfl rfl (cs_p_900 h)) ?_
                  obtain ⟨v92_, e_v92_, b_v92_⟩ := i_ex (m_I S 604 (x + 5))
                  refine v_callV hX (n := 0) (t_P_isFull (S := S) (x := x) (w := w) (kp := v92_) h (by simp (disch := omega) only [y_I_s_I, x_I_s_I, z_I_s_J, z_I_s_A, z_I_s_B, z_I_s_P, e_v48_, e_v49_, e_v73_, e_v85_, e_v92_]) ⟨by omega, by omega⟩) (cs_k_5 h) bc_6 (by decide) w_4_198 w_4_199 w_4_200 w_1_3 w_4_201 (by decide +kernel) rfl ⟨by decide, by decide⟩ ⟨by omega, by omega⟩ (Nat.le_of_ble_eq_true rfl) rfl dX11_isTooMuch_81 (fun _ _ _ q => q) ?_
                  rintro r93_ S93_ z93_ ⟨rfl, rfl, v94_, rfl, b_v94_, q93_⟩
                  refine u_if_eq hX (tgt := 91) dX11_isTooMuch_84 (by decide) ⟨by omega, by omega⟩ (fun h95_ => ?_) (fun h95_ => ?_)
                  ·
                    refine v_iconst hX (v := iI 0) dX11_isTooMuch_91 rfl ?_
                    exact v_zreturn hX (nar_b (by omega)) hE dX11_isTooMuch_92 (by omega) (by omega) ⟨rfl, rfl, 0, rfl, (by omega), trivial⟩
                  ·
                    refine v_iconst hX (v := iI 1) dX11_isTooMuch_87 rfl ?_
                    refine v_goto hX (tgt := 92) dX11_isTooMuch_88 (by decide) ?_
                    exact v_zreturn hX (nar_b (by omega)) hE dX11_isTooMuch_92 (by omega) (by omega) ⟨rfl, rfl, 1, rfl, (by omega), trivial⟩
set_option maxRecDepth 100000 in
set_option maxHeartbeats 4000000 in
theorem g_T_pass {kn : Nat → Nat} {B : Nat} {S : b_M} {z x w : Nat} {rt : Int} (h : cS S x) (b_rt : -2147483648 ≤ rt ∧ rt < 2147483648) (p : rt = 0 ∨ rt = 1) : b_C kn B yX11_pass cX11_pass 2 none 0 0 0 0 [.ref (x + 418), .int (iI rt)] S z (fun r S' z' => z = z' ∧ cFr [913, 914, 915] [] [] w S S' x ∧ r = none ∧ (True)) (fun _ _ _ => False) := by
  refine b_enter (by decide) (Nat.le_of_ble_eq_true rfl) ?_
  intro X hX hE hnL hkn hB hI_
  subst hkn; subst hB
  clear hI_
  change b_V X S z 0 0 0 [(0, .ref (x + 418)), (1, .int (iI rt))] []
  refine v_aload_n hX dX11_pass_0 (i := 0) rfl rfl ?_
  refine v_iconst hX (v := iI 1) dX11_pass_1 rfl ?_
  refine v_putI hX (ci := 9) (k := 13) (f := 913) (cs_k_418 h) bc_9 (by decide) (by decide) in_9 tyX11_ok nmX11 w_2_139 (Or.inl rfl) (nar_b (by omega)) (fit_b (by omega)) dX11_pass_2 rfl rfl ?_
  refine v_aload_n hX dX11_pass_5 (i := 0) rfl rfl ?_
  refine v_iload_n hX dX11_pass_6 (i := 1) rfl rfl ?_
  refine v_putI hX (ci := 9) (k := 14) (f := 914) (cs_k_418 (cS.sI h)) bc_9 (by decide) (by decide) in_9 tyX11_ok nmX11 w_2_140 (Or.inl rfl) (nar_b (by omega)) (fit_b (by omega)) dX11_pass_7 rfl rfl ?_
  refine v_aload_n hX dX11_pass_10 (i := 0) rfl rfl ?_
  refine v_aload_n hX dX11_pass_11 (i := 0) rfl rfl ?_
  refine v_get hX (ci := 9) (k := 6) (cs_k_418 (cS.sI (cS.sI h))) bc_9 (by decide) (by decide) in_9 w_2_131 dX11_pass_12 (mvP (f := 906) (q := (x + 425)) rfl rfl (cs_p_906 (cS.sI (cS.sI h)))) ?_
  obtain ⟨v1_, e_v1_, b_v1_⟩ := i_ex (m_I S 309 (x + 425))
  refine v_get hX (ci := 3) (k := 9) (cs_k_425 (cS.sI (cS.sI h))) bc_3 (by decide) (by decide) in_3 w_2_90 dX11_pass_15 (mvF (f := 309) (v := iI v1_) rfl rfl (by simp (disch := omega) only [y_I_s_I, x_I_s_I, z_I_s_J, z_I_s_A, z_I_s_B, z_I_s_P, e_v1_])) ?_
  refine v_putI hX (ci := 9) (k := 15) (f := 915) (cs_k_418 (cS.sI (cS.sI h))) bc_9 (by decide) (by decide) in_9 tyX11_ok nmX11 w_2_141 (Or.inl rfl) rfl rfl dX11_pass_18 rfl rfl ?_
  exact v_return hX hE dX11_pass_21 (by omega) (by omega) ⟨rfl, ((((cFr.rf _ _).sI (by decide) ⟨by omega, by omega⟩).sI (by decide) ⟨by omega, by omega⟩).sI (by decide) ⟨by omega, by omega⟩), rfl, trivial⟩
set_option maxRecDepth 100000 in
set_option maxHeartbeats 4000000 in
theorem g_T_refuse {kn : Nat → Nat} {B : Nat} {S : b_M} {z x w : Nat} {er : Int} {oi : Nat} (h : cS S x) (e_oi : m_P S 908 (x + 418) = some (kn oi)) (o_oi : oi < 17) (b_er : -2147483648 ≤ er ∧ er < 2147483648) (g_gR : gR S x) (g_eI : eI S x w) : b_C kn B yX11_refuse cX11_refuse 2 none 1 22 0 0 [.ref (x + 418), .int (iI er)] S z (fun r S' z' => z = z' ∧ cFr [102, 205, 206, 913, 914, 915] [] [3, 4] w S S' x ∧ r = none ∧ (True) ∧ (gR S' x) ∧ (eI S' x w)) (fun _ _ _ => False) := by
  refine b_enter (by decide) (Nat.le_of_ble_eq_true rfl) ?_
  intro X hX hE hnL hkn hB hI_
  subst hkn; subst hB
  clear hI_
  change b_V X S z 0 0 0 [(0, .ref (x + 418)), (1, .int (iI er))] []
  refine v_aload_n hX dX11_refuse_0 (i := 0) rfl rfl ?_
  refine v_get hX (ci := 9) (k := 3) (cs_k_418 h) bc_9 (by decide) (by decide) in_9 w_2_127 dX11_refuse_1 (mvP (f := 903) (q := (x + 2)) rfl rfl (cs_p_903 h)) ?_
  refine v_iload_n hX dX11_refuse_4 (i := 1) rfl rfl ?_
  refine v_aload_n hX dX11_refuse_5 (i := 0) rfl rfl ?_
  refine v_get hX (ci := 9) (k := 6) (cs_k_418 h) bc_9 (by decide) (by decide) in_9 w_2_131 dX11_refuse_6 (mvP (f := 906) (q := (x + 425)) rfl rfl (cs_p_906 h)) ?_
  obtain ⟨v1_, e_v1_, b_v1_⟩ := i_ex (m_I S 309 (x + 425))
  refine v_get hX (ci := 3) (k := 9) (cs_k_425 h) bc_3 (by decide) (by decide) in_3 w_2_90 dX11_refuse_9 (mvF (f := 309) (v := iI v1_) rfl rfl (by simp (disch := omega) only [y_I_s_I, x_I_s_I, z_I_s_J, z_I_s_A, z_I_s_B, z_I_s_P, e_v1_])) ?_
  refine v_callV hX (n := 2) (g_E_tell (S := S) (x := x) (w := w) (n := er) (l := v1_) h ⟨by omega, by omega⟩ ⟨by omega, by omega⟩ g_gR) (cs_k_2 h) bc_1 (by decide) w_5_31 w_5_32 w_5_33 w_1_2 w_5_34 (by decide +kernel) rfl ⟨by decide, by decide⟩ ⟨by omega, by omega⟩ (Nat.le_of_ble_eq_true rfl) rfl dX11_refuse_12 (fun _ _ _ q => q) ?_
  rintro r2_ S2_ z2_ ⟨rfl, f2_, rfl, q2_, g2_gR⟩
  have y3_ : m_I S2_ 309 (x + 425) = iI v1_ := (f2_.2.1 309 (by decide) _).trans (by simp (disch := omega) only [y_I_s_I, x_I_s_I, z_I_s_J, z_I_s_A, z_I_s_B, z_I_s_P, e_v1_])
  have y4_ : m_P S2_ 908 (x + 418) = some (b_kn X oi) := (f2_.2.2.1 908 (by decide) _).trans (by simp (disch := omega) only [y_P_s_P, x_P_s_P, z_P_s_I, z_P_s_J, z_P_s_A, z_P_s_B, e_oi])
  have h2_ : cS S2_ x := f2_.keep (by decide) h
  have g2_eI : eI S2_ x w := eI.fr g_eI h f2_ (by decide)
  refine v_aload_n hX dX11_refuse_15 (i := 0) rfl rfl ?_
  refine v_get hX (ci := 9) (k := 2) (cs_k_418 h2_) bc_9 (by decide) (by decide) in_9 w_2_126 dX11_refuse_16 (mvP (f := 902) (q := (x + 11)) rfl rfl (cs_p_902 h2_)) ?_
  refine v_aload_n hX dX11_refuse_19 (i := 0) rfl rfl ?_
  obtain ⟨v5_, e_v5_, b_v5_⟩ := i_ex (m_I S2_ 912 (x + 418))
  refine v_get hX (ci := 9) (k := 12) (cs_k_418 h2_) bc_9 (by decide) (by decide) in_9 w_2_138 dX11_refuse_20 (mvF (f := 912) (v := iI v5_) rfl rfl (by simp (disch := omega) only [y_I_s_I, x_I_s_I, z_I_s_J, z_I_s_A, z_I_s_B, z_I_s_P, y3_, e_v5_])) ?_
  refine v_callV hX (n := 1) (g_X_cut (S := S2_) (x := x) (w := w) (mk := v5_) h2_ ⟨by omega, by omega⟩ g2_eI) (cs_k_11 h2_) bc_2 (by decide) w_4_206 w_3_80 w_3_81 w_1_6 w_3_82 (by decide +kernel) rfl ⟨by decide, by decide⟩ ⟨by omega, by omega⟩ (Nat.le_of_ble_eq_true rfl) rfl dX11_refuse_23 (fun _ _ _ q => q) ?_
  rintro r6_ S6_ z6_ ⟨rfl, f6_, rfl, q6_, g6_eI⟩
  have y7_ : m_I S6_ 309 (x + 425) = iI v1_ := (f6_.2.1 309 (by decide) _).trans (by simp (disch := omega) only [y_I_s_I, x_I_s_I, z_I_s_J, z_I_s_A, z_I_s_B, z_I_s_P, y3_, e_v5_])
  have y8_ : m_I S6_ 912 (x + 418) = iI v5_ := (f6_.2.1 912 (by decide) _).trans (by simp (disch := omega) only [y_I_s_I, x_I_s_I, z_I_s_J, z_I_s_A, z_I_s_B, z_I_s_P, y3_, e_v5_])
  have y9_ : m_P S6_ 908 (x + 418) = some (b_kn X oi) := (f6_.2.2.1 908 (by decide) _).trans (by simp (disch := omega) only [y_P_s_P, x_P_s_P, z_P_s_I, z_P_s_J, z_P_s_A, z_P_s_B, y4_])
  have h6_ : cS S6_ x := f6_.keep (by decide) h2_
  have g6_gR : gR S6_ x := gR.fr g2_gR h2_ f6_ (by decide)
  refine v_aload_n hX dX11_refuse_26 (i := 0) rfl rfl ?_
  refine v_get hX (ci := 9) (k := 8) (cs_k_418 h6_) bc_9 (by decide) (by decide) in_9 w_2_134 dX11_refuse_27 (mvP (f := 908) (q := (b_kn X oi)) rfl rfl (by simp (disch := omega) only [y_P_s_P, x_P_s_P, z_P_s_I, z_P_s_J, z_P_s_A, z_P_s_B, y9_])) ?_
  refine v_getsK hX (i := 15) (by decide) rfl w_4_159 dX11_refuse_30 ?_
  refine v_acmp_ne hX (tgt := 41) dX11_refuse_33 (by decide) (fun h10_ => ?_) (fun h10_ => ?_)
  ·
    exact v_return hX hE dX11_refuse_41 (by omega) (by omega) ⟨rfl, (((cFr.rf _ _).tr (f2_.mono (by decide) (by decide) (by decide))).tr (f6_.mono (by decide) (by decide) (by decide))), rfl, trivial, g6_gR, g6_eI⟩
  ·
    refine v_aload_n hX dX11_refuse_36 (i := 0) rfl rfl ?_
    refine v_iconst hX (v := iI 0) dX11_refuse_37 rfl ?_
    refine v_callV hX (n := 1) (g_T_pass (S := S6_) (x := x) (w := w) (rt := 0) h6_ ⟨by omega, by omega⟩ (by omega)) (cs_k_418 h6_) bc_9 (by decide) w_4_222 w_4_224 (bw_p (q := (yX11_pass, 16)) (List.mem_of_getElem? (i := 27) rfl) rfl) w_1_10 w_4_225 (by decide +kernel) rfl ⟨by decide, by decide⟩ ⟨by omega, by omega⟩ (Nat.le_of_ble_eq_true rfl) rfl dX11_refuse_38 (fun _ _ _ q => q) ?_
    rintro r11_ S11_ z11_ ⟨rfl, f11_, rfl, q11_⟩
    have y12_ : m_I S11_ 309 (x + 425) = iI v1_ := (f11_.2.1 309 (by decide) _).trans (by simp (disch := omega) only [y_I_s_I, x_I_s_I, z_I_s_J, z_I_s_A, z_I_s_B, z_I_s_P, y7_, y8_])
    have y13_ : m_I S11_ 912 (x + 418) = iI v5_ := (f11_.2.1 912 (by decide) _).trans (by simp (disch := omega) only [y_I_s_I, x_I_s_I, z_I_s_J, z_I_s_A, z_I_s_B, z_I_s_P, y7_, y8_])
    have y14_ : m_P S11_ 908 (x + 418) = some (b_kn X oi) := (f11_.2.2.1 908 (by decide) _).trans (by simp (disch := omega) only [y_P_s_P, x_P_s_P, z_P_s_I, z_P_s_J, z_P_s_A, z_P_s_B, y9_])
    have h11_ : cS S11_ x := f11_.keep (by decide) h6_
    have g11_gR : gR S11_ x := gR.fr g6_gR h6_ f11_ (by decide)
    have g11_eI : eI S11_ x w := eI.fr g6_eI h6_ f11_ (by decide)
    exact v_return hX hE dX11_refuse_41 (by omega) (by omega) ⟨rfl, ((((cFr.rf _ _).tr (f2_.mono (by decide) (by decide) (by decide))).tr (f6_.mono (by decide) (by decide) (by decide))).tr (f11_.mono (by decide) (by decide) (by decide))), rfl, trivial, g11_gR, g11_eI⟩
set_option maxRecDepth 100000 in
set_option maxHeartbeats 4000000 in
theorem g_T_passLine {kn : Nat → Nat} {B : Nat} {S : b_M} {z x w : Nat} {lo : Int} {hi : Int} (h : cS S x) (g_sI : sI S x lo hi) (g_gL : gL S x) (g_gA : gA S x) : b_C kn B yX11_passLine cX11_passLine 2 none 6 128 0 0 [.ref (x + 418)] S z (fun r S' z' => z = z' ∧ cFr [701, 703, 704, 913] [] [424] w S S' x ∧ r = none ∧ (True) ∧ (sI S' x lo hi) ∧ (gL S' x)) (fun _ _ _ => False) := by
  refine b_enter (by decide) (Nat.le_of_ble_eq_true rfl) ?_
  intro X hX hE hnL hkn hB hI_
  subst hkn; subst hB
  clear hI_
  change b_V X S z 0 0 0 [(0, .ref (x + 418))] []
  have L78 : ∀ (S78c : b_M) (ie : Int), cFr [701, 703, 704, 913] [] [424] w S S78c x → (ie = 0 ∨ ie = 1) → sI S78c x lo hi → gL S78c x → b_V X S78c z 0 0 78 [(1, .int (iI ie)), (0, .ref (x + 418))] [] := by
    intro S78c ie fr78 p78_0 g78_sI g78_gL
    have h78c : cS S78c x := fr78.keep (by decide) h
    refine v_aload_n hX dX11_passLine_78 (i := 0) rfl rfl ?_
    refine v_iload_n hX dX11_passLine_79 (i := 1) rfl rfl ?_
    refine u_if_ne hX (tgt := 87) dX11_passLine_80 (by decide) ⟨by omega, by omega⟩ (fun h1_ => ?_) (fun h1_ => ?_)
    ·
      refine v_iconst hX (v := iI 0) dX11_passLine_87 rfl ?_
      refine v_putI hX (ci := 9) (k := 13) (f := 913) (cs_k_418 h78c) bc_9 (by decide) (by decide) in_9 tyX11_ok nmX11 w_2_139 (Or.inl rfl) (nar_b (by omega)) (fit_b (by omega)) dX11_passLine_88 rfl rfl ?_
      exact v_return hX hE dX11_passLine_91 (by omega) (by omega) ⟨rfl, (fr78.sI (by decide) ⟨by omega, by omega⟩), rfl, trivial, (sI.fr g78_sI h78c (show cFr [913] [] [] w S78c (s_I S78c 913 (x + 418) (iI 0)) x from ((cFr.rf _ _).sI (by decide) ⟨by omega, by omega⟩)) (by decide)), (gL.fr g78_gL h78c (show cFr [913] [] [] w S78c (s_I S78c 913 (x + 418) (iI 0)) x from ((cFr.rf _ _).sI (by decide) ⟨by omega, by omega⟩)) (by decide))⟩
    ·
      refine v_iconst hX (v := iI 1) dX11_passLine_83 rfl ?_
      refine v_goto hX (tgt := 88) dX11_passLine_84 (by decide) ?_
      refine v_putI hX (ci := 9) (k := 13) (f := 913) (cs_k_418 h78c) bc_9 (by decide) (by decide) in_9 tyX11_ok nmX11 w_2_139 (Or.inl rfl) (nar_b (by omega)) (fit_b (by omega)) dX11_passLine_88 rfl rfl ?_
      exact v_return hX hE dX11_passLine_91 (by omega) (by omega) ⟨rfl, (fr78.sI (by decide) ⟨by omega, by omega⟩), rfl, trivial, (sI.fr g78_sI h78c (show cFr [913] [] [] w S78c (s_I S78c 913 (x + 418) (iI 1)) x from ((cFr.rf _ _).sI (by decide) ⟨by omega, by omega⟩)) (by decide)), (gL.fr g78_gL h78c (show cFr [913] [] [] w S78c (s_I S78c 913 (x + 418) (iI 1)) x from ((cFr.rf _ _).sI (by decide) ⟨by omega, by omega⟩)) (by decide))⟩
  have L52 : ∀ (S52c : b_M) (ie : Int), cFr [701, 703, 704, 913] [] [424] w S S52c x → (ie = 0 ∨ ie = 1) → sI S52c x lo hi → gL S52c x → gA S52c x → b_V X S52c z 0 0 52 [(0, .ref (x + 418))] [.int (iI ie)] := by
    intro S52c ie fr52 p52_0 g52_sI g52_gL g52_gA
    have h52c : cS S52c x := fr52.keep (by decide) h
    refine v_istore_n hX (lv' := [(1, .int (iI ie)), (0, .ref (x + 418))]) dX11_passLine_52 (i := 1) rfl (by rw [hnL]; decide) rfl ?_
    refine v_iload_n hX dX11_passLine_53 (i := 1) rfl rfl ?_
    refine u_if_eq hX (tgt := 78) dX11_passLine_54 (by decide) ⟨by omega, by omega⟩ (fun h2_ => ?_) (fun h2_ => ?_)
    ·
      exact L78 _ ie fr52 (by omega) g52_sI g52_gL
    ·
      refine v_aload_n hX dX11_passLine_57 (i := 0) rfl rfl ?_
      obtain ⟨v3_, e_v3_, b_v3_⟩ := i_ex (m_I S52c 914 (x + 418))
      refine v_get hX (ci := 9) (k := 14) (cs_k_418 h52c) bc_9 (by decide) (by decide) in_9 w_2_140 dX11_passLine_58 (mvF (f := 914) (v := iI v3_) rfl rfl (by simp (disch := omega) only [y_I_s_I, x_I_s_I, z_I_s_J, z_I_s_A, z_I_s_B, z_I_s_P, e_v3_])) ?_
      refine u_if_eq hX (tgt := 78) dX11_passLine_61 (by decide) ⟨by omega, by omega⟩ (fun h4_ => ?_) (fun h4_ => ?_)
      ·
        exact L78 _ ie fr52 (by omega) g52_sI g52_gL
      ·
        refine v_aload_n hX dX11_passLine_64 (i := 0) rfl rfl ?_
        refine v_get hX (ci := 9) (k := 5) (cs_k_418 h52c) bc_9 (by decide) (by decide) in_9 w_2_129 dX11_passLine_65 (mvP (f := 905) (q := (x + 421)) rfl rfl (cs_p_905 h52c)) ?_
        refine v_aload_n hX dX11_passLine_68 (i := 0) rfl rfl ?_
        refine v_get hX (ci := 9) (k := 6) (cs_k_418 h52c) bc_9 (by decide) (by decide) in_9 w_2_131 dX11_passLine_69 (mvP (f := 906) (q := (x + 425)) rfl rfl (cs_p_906 h52c)) ?_
        obtain ⟨v5_, e_v5_, b_v5_⟩ := i_ex (m_I S52c 306 (x + 425))
        refine v_get hX (ci := 3) (k := 6) (cs_k_425 h52c) bc_3 (by decide) (by decide) in_3 w_2_83 dX11_passLine_72 (mvF (f := 306) (v := iI v5_) rfl rfl (by simp (disch := omega) only [y_I_s_I, x_I_s_I, z_I_s_J, z_I_s_A, z_I_s_B, z_I_s_P, e_v3_, e_v5_])) ?_
        refine v_callV hX (n := 1) (g_M_close (S := S52c) (x := x) (w := w) (to_ := v5_) h52c ⟨by omega, by omega⟩ (by simp (disch := omega) only [y_I_s_I, x_I_s_I, z_I_s_J, z_I_s_A, z_I_s_B, z_I_s_P, e_v3_, e_v5_]) g52_gL g52_gA) (cs_k_421 h52c) bc_4 (by decide) w_4_9 w_4_10 w_4_11 w_1_12 w_4_12 (by decide +kernel) rfl ⟨by decide, by decide⟩ ⟨by omega, by omega⟩ (Nat.le_of_ble_eq_true rfl) rfl dX11_passLine_75 (fun _ _ _ q => q) ?_
        rintro r6_ S6_ z6_ ⟨rfl, f6_, rfl, q6_, g6_gL⟩
        have y7_ : m_I S6_ 914 (x + 418) = iI v3_ := (f6_.2.1 914 (by decide) _).trans (by simp (disch := omega) only [y_I_s_I, x_I_s_I, z_I_s_J, z_I_s_A, z_I_s_B, z_I_s_P, e_v3_, e_v5_])
        have y8_ : m_I S6_ 306 (x + 425) = iI v5_ := (f6_.2.1 306 (by decide) _).trans (by simp (disch := omega) only [y_I_s_I, x_I_s_I, z_I_s_J, z_I_s_A, z_I_s_B, z_I_s_P, e_v3_, e_v5_])
        have h6_ : cS S6_ x := f6_.keep (by decide) h52c
        have g6_sI : sI S6_ x lo hi := sI.fr g52_sI h52c f6_ (by decide)
        exact L78 _ ie (fr52.tr (f6_.mono (by decide) (by decide) (by decide))) (by omega) g6_sI g6_gL
  refine v_aload_n hX dX11_passLine_0 (i := 0) rfl rfl ?_
  refine v_get hX (ci := 9) (k := 4) (cs_k_418 h) bc_9 (by decide) (by decide) in_9 w_2_128 dX11_passLine_1 (mvP (f := 904) (q := (x + 419)) rfl rfl (cs_p_904 h)) ?_
  refine v_callV hX (n := 0) (g_isPlain (S := S) (x := x) (w := w) h g_sI) (cs_k_419 h) bc_7 (by decide) w_3_154 w_3_155 w_3_156 w_1_11 w_3_157 (by decide +kernel) rfl ⟨by decide, by decide⟩ ⟨by omega, by omega⟩ (Nat.le_of_ble_eq_true rfl) rfl dX11_passLine_4 (fun _ _ _ q => q) ?_
  rintro r9_ S9_ z9_ ⟨rfl, rfl, v10_, rfl, b_v10_, q9_⟩
  refine u_if_eq hX (tgt := 51) dX11_passLine_7 (by decide) ⟨by omega, by omega⟩ (fun h11_ => ?_) (fun h11_ => ?_)
  ·
    refine v_iconst hX (v := iI 0) dX11_passLine_51 rfl ?_
    exact L52 _ 0 (cFr.rf _ _) (by omega) g_sI g_gL g_gA
  ·
    refine v_aload_n hX dX11_passLine_10 (i := 0) rfl rfl ?_
    refine v_get hX (ci := 9) (k := 4) (cs_k_418 h) bc_9 (by decide) (by decide) in_9 w_2_128 dX11_passLine_11 (mvP (f := 904) (q := (x + 419)) rfl rfl (cs_p_904 h)) ?_
    refine v_callV hX (n := 0) (g_readLabel (S := S) (x := x) (w := w) h g_sI) (cs_k_419 h) bc_7 (by decide) w_3_158 w_3_159 w_3_160 w_1_11 w_3_161 (by decide +kernel) rfl ⟨by decide, by decide⟩ ⟨by omega, by omega⟩ (Nat.le_of_ble_eq_true rfl) rfl dX11_passLine_14 (fun _ _ _ q => q) ?_
    rintro r12_ S12_ z12_ ⟨rfl, f12_, v13_, rfl, b_v13_, q12_, g12_sI⟩
    have h12_ : cS S12_ x := f12_.keep (by decide) h
    have g12_gL : gL S12_ x := gL.fr g_gL h f12_ (by decide)
    have g12_gA : gA S12_ x := gA.fr g_gA h f12_ (by decide)
    refine v_ldc2 hX (v := jJ (-1)) dX11_passLine_17 (show Cond.constantLong _ _ (jJ (-1)) ∈ b_Ws from w_3_175) ?_
    refine u_lcmp hX dX11_passLine_20 ⟨by omega, by omega⟩ ⟨by omega, by omega⟩ (fun v14_ b_v14_ c_v14_ => ?_)
    refine u_if_eq hX (tgt := 51) dX11_passLine_21 (by decide) ⟨by omega, by omega⟩ (fun h15_ => ?_) (fun h15_ => ?_)
    ·
      refine v_iconst hX (v := iI 0) dX11_passLine_51 rfl ?_
      exact L52 _ 0 ((cFr.rf _ _).tr (f12_.mono (by decide) (by decide) (by decide))) (by omega) g12_sI g12_gL g12_gA
    ·
      refine v_aload_n hX dX11_passLine_24 (i := 0) rfl rfl ?_
      refine v_get hX (ci := 9) (k := 4) (cs_k_418 h12_) bc_9 (by decide) (by decide) in_9 w_2_128 dX11_passLine_25 (mvP (f := 904) (q := (x + 419)) rfl rfl (cs_p_904 h12_)) ?_
      refine v_callV hX (n := 0) (g_readOperation (S := S12_) (x := x) (w := w) h12_ g12_sI) (cs_k_419 h12_) bc_7 (by decide) w_3_176 w_3_177 w_3_178 w_1_11 w_3_179 (by decide +kernel) rfl ⟨by decide, by decide⟩ ⟨by omega, by omega⟩ (Nat.le_of_ble_eq_true rfl) rfl dX11_passLine_28 (fun _ _ _ q => q) ?_
      rintro r16_ S16_ z16_ ⟨rfl, f16_, v17_, rfl, b_v17_, q16_, g16_sI⟩
      have h16_ : cS S16_ x := f16_.keep (by decide) h12_
      have g16_gL : gL S16_ x := gL.fr g12_gL h12_ f16_ (by decide)
      have g16_gA : gA S16_ x := gA.fr g12_gA h12_ f16_ (by decide)
      refine u_if_eq hX (tgt := 51) dX11_passLine_31 (by decide) ⟨by omega, by omega⟩ (fun h18_ => ?_) (fun h18_ => ?_)
      ·
        refine v_iconst hX (v := iI 0) dX11_passLine_51 rfl ?_
        exact L52 _ 0 (((cFr.rf _ _).tr (f12_.mono (by decide) (by decide) (by decide))).tr (f16_.mono (by decide) (by decide) (by decide))) (by omega) g16_sI g16_gL g16_gA
      ·
        refine v_aload_n hX dX11_passLine_34 (i := 0) rfl rfl ?_
        refine v_get hX (ci := 9) (k := 4) (cs_k_418 h16_) bc_9 (by decide) (by decide) in_9 w_2_128 dX11_passLine_35 (mvP (f := 904) (q := (x + 419)) rfl rfl (cs_p_904 h16_)) ?_
        refine v_callS hX (n := 1) (g_spelledBy (S := S16_) (x := x) (w := w) h16_ g16_sI) w_3_184 w_3_185 w_1_9 w_3_186 (by decide +kernel) rfl ⟨by decide, by decide⟩ ⟨by omega, by omega⟩ (Nat.le_of_ble_eq_true rfl) rfl dX11_passLine_38 (fun _ _ _ q => q) ?_
        rintro r19_ S19_ z19_ ⟨rfl, rfl, o20_, rfl, b_o20_, q19_⟩
        refine v_getsK hX (i := 16) (by decide) rfl w_4_7 dX11_passLine_41 ?_
        refine v_acmp_ne hX (tgt := 51) dX11_passLine_44 (by decide) (fun h21_ => ?_) (fun h21_ => ?_)
        ·
          refine v_iconst hX (v := iI 0) dX11_passLine_51 rfl ?_
          exact L52 _ 0 (((cFr.rf _ _).tr (f12_.mono (by decide) (by decide) (by decide))).tr (f16_.mono (by decide) (by decide) (by decide))) (by omega) g16_sI g16_gL g16_gA
        ·
          refine v_iconst hX (v := iI 1) dX11_passLine_47 rfl ?_
          refine v_goto hX (tgt := 52) dX11_passLine_48 (by decide) ?_
          exact L52 _ 1 (((cFr.rf _ _).tr (f12_.mono (by decide) (by decide) (by decide))).tr (f16_.mono (by decide) (by decide) (by decide))) (by omega) g16_sI g16_gL g16_gA
set_option maxRecDepth 100000 in
set_option maxHeartbeats 4000000 in
theorem g_T_forget {kn : Nat → Nat} {B : Nat} {S : b_M} {z x w : Nat} (h : cS S x) : b_C kn B yX11_forget cX11_forget 1 none 1 20 0 0 [.ref (x + 418)] S z (fun r S' z' => z = z' ∧ cFr [403, 310] [] [] w S S' x ∧ ∃ m1 : Int, r = none ∧ m_I S' 403 (x + 421) = iI m1 ∧ (-2147483648 ≤ m1 ∧ m1 < 2147483648) ∧ (m1 = 0)) (fun _ _ _ => False) := by
  refine b_enter (by decide) (Nat.le_of_ble_eq_true rfl) ?_
  intro X hX hE hnL hkn hB hI_
  subst hkn; subst hB
  clear hI_
  change b_V X S z 0 0 0 [(0, .ref (x + 418))] []
  refine v_aload_n hX dX11_forget_0 (i := 0) rfl rfl ?_
  refine v_get hX (ci := 9) (k := 5) (cs_k_418 h) bc_9 (by decide) (by decide) in_9 w_2_129 dX11_forget_1 (mvP (f := 905) (q := (x + 421)) rfl rfl (cs_p_905 h)) ?_
  refine v_callV hX (n := 0) (t_M_forget (S := S) (x := x) (w := w) h) (cs_k_421 h) bc_4 (by decide) w_3_87 w_3_88 w_3_89 w_1_12 w_3_90 (by decide +kernel) rfl ⟨by decide, by decide⟩ ⟨by omega, by omega⟩ (Nat.le_of_ble_eq_true rfl) rfl dX11_forget_4 (fun _ _ _ q => q) ?_
  rintro r1_ S1_ z1_ ⟨rfl, f1_, v2_, rfl, e_v2_, b_v2_, q1_⟩
  have h1_ : cS S1_ x := f1_.keep (by decide) h
  refine v_aload_n hX dX11_forget_7 (i := 0) rfl rfl ?_
  refine v_get hX (ci := 9) (k := 6) (cs_k_418 h1_) bc_9 (by decide) (by decide) in_9 w_2_131 dX11_forget_8 (mvP (f := 906) (q := (x + 425)) rfl rfl (cs_p_906 h1_)) ?_
  refine v_callV hX (n := 0) (t_L_forget (S := S1_) (x := x) (w := w) h1_) (cs_k_425 h1_) bc_3 (by decide) w_3_91 w_3_92 w_3_93 w_1_13 w_3_94 (by decide +kernel) rfl ⟨by decide, by decide⟩ ⟨by omega, by omega⟩ (Nat.le_of_ble_eq_true rfl) rfl dX11_forget_11 (fun _ _ _ q => q) ?_
  rintro r3_ S3_ z3_ ⟨rfl, f3_, v4_, rfl, e_v4_, b_v4_, q3_⟩
  have y5_ : m_I S3_ 403 (x + 421) = iI v2_ := (f3_.2.1 403 (by decide) _).trans (by simp (disch := omega) only [y_I_s_I, x_I_s_I, z_I_s_J, z_I_s_A, z_I_s_B, z_I_s_P, e_v2_])
  have h3_ : cS S3_ x := f3_.keep (by decide) h1_
  exact v_return hX hE dX11_forget_14 (by omega) (by omega) ⟨rfl, (((cFr.rf _ _).tr (f1_.mono (by decide) (by decide) (by decide))).tr (f3_.mono (by decide) (by decide) (by decide))), v2_, rfl, (by simp (disch := omega) only [y_I_s_I, x_I_s_I, z_I_s_J, z_I_s_A, z_I_s_B, z_I_s_P, y5_, e_v4_]), ⟨by omega, by omega⟩, (by omega)⟩
