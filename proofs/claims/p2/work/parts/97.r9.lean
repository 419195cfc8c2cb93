/-- the kept expressions stand in the pool, without eleven letters side by side -/
def eOk (S : b_M) (x : Nat) (ex ps : Int) : Prop := (0 ≤ ex ∧ ex ≤ 3200 ∧ 0 ≤ ps ∧ ps ≤ 60000) ∧ ∀ e : Int, 0 ≤ e → e < ex → (0 ≤ rAt S (x + 27) e ∧ rAt S (x + 27) e ≤ rAt S (x + 28) e ∧ rAt S (x + 28) e ≤ ps) ∧ nr S (x + 29) (rAt S (x + 27) e) (rAt S (x + 28) e)
theorem eOk.c {S S1 : b_M} {x : Nat} {ex ps : Int} (h : eOk S x ex ps) (h1 : ∀ i, rAt S1 (x + 27) i = rAt S (x + 27) i) (h2 : ∀ i, rAt S1 (x + 28) i = rAt S (x + 28) i) (h3 : ∀ i, rAt S1 (x + 29) i = rAt S (x + 29) i) : eOk S1 x ex ps := ⟨h.1, fun e a b => by
  rw [h1, h2]
  exact ⟨(h.2 e a b).1, nr_keep (h.2 e a b).2 rfl rfl (fun j _ _ => h3 j)⟩⟩
set_option maxRecDepth 100000 in
set_option maxHeartbeats 4000000 in
theorem k_valueAt {kn : Nat → Nat} {B : Nat} {S : b_M} {z x : Nat} {sx : Int} {k : Int} {st_ : Int} {wt : Int} {se : Int} {ex : Int} {ps : Int} (h : mS S x) (e_st_ : m_I S 1128 x = iI st_) (b_st_ : -2147483648 ≤ st_ ∧ st_ < 2147483648) (e_wt : m_I S 1163 x = iI wt) (b_wt : -2147483648 ≤ wt ∧ wt < 2147483648) (b_sx : -2147483648 ≤ sx ∧ sx < 2147483648) (b_k : -2147483648 ≤ k ∧ k < 2147483648) (so : sOk S x se) (eo : eOk S x ex ps) (p : 0 ≤ st_ ∧ st_ ≤ 400 ∧ 0 ≤ sx ∧ sx < 400 ∧ (wt = 0 ∨ wt = 1) ∧ 0 ≤ k ∧ k ≤ 8 ∧ 0 ≤ rAt S (x + 22) sx ∧ rAt S (x + 22) sx + k < ex) : b_C kn B yX13_valueAt cX13_valueAt 3 (some .int) 5 111 0 0 [.ref x, .int (iI sx), .int (iI k)] S z (fun r S' z' => z = z' ∧ mFr [1164, 1162] [] [] S S' x ∧ ∃ q u1 : Int, r = some (.int (iI q)) ∧ (-2147483648 ≤ q ∧ q < 2147483648) ∧ m_I S' 1162 x = iI u1 ∧ (-2147483648 ≤ u1 ∧ u1 < 2147483648) ∧ (u1 = 0 ∨ u1 = 1)) (fun _ _ _ => False) := by
  refine b_enter (by decide) (Nat.le_of_ble_eq_true rfl) ?_
  intro X hX hE hnL hkn hB hI_
  subst hkn; subst hB
  clear hI_
  change b_V X S z 0 0 0 [(0, .ref x), (1, .int (iI sx)), (2, .int (iI k))] []
  refine v_aload_n hX dX13_valueAt_0 (i := 0) rfl rfl ?_
  refine v_aload_n hX dX13_valueAt_1 (i := 0) rfl rfl ?_
  refine v_get hX (ci := 11) (k := 38) (ms_kx h) bc_11 (by decide) (by decide) in_11 w_6_14 dX13_valueAt_2 (mvP (f := 1138) (q := (x + 26)) rfl rfl (ms_p_1138 h)) ?_
  refine v_iload_n hX dX13_valueAt_5 (i := 1) rfl rfl ?_
  refine u_iald hX (L := 400) (ms_k_1138 h) (ms_l_1138 h) ⟨by omega, by omega⟩ (by decide) dX13_valueAt_6 (fun v1_ e_v1_ b_v1_ => ?_)
  refine v_putI hX (ci := 11) (k := 64) (f := 1164) (ms_kx h) bc_11 (by decide) (by decide) in_11 tyX13_ok nmX13 w_6_40 (Or.inl rfl) rfl rfl dX13_valueAt_7 rfl rfl ?_
  refine v_aload_n hX dX13_valueAt_10 (i := 0) rfl rfl ?_
  refine v_aload_n hX dX13_valueAt_11 (i := 0) rfl rfl ?_
  refine v_get hX (ci := 11) (k := 44) (ms_kx (mS.sI h)) bc_11 (by decide) (by decide) in_11 w_6_20 dX13_valueAt_12 (mvP (f := 1144) (q := (x + 29)) rfl rfl (ms_p_1144 (mS.sI h))) ?_
  refine v_aload_n hX dX13_valueAt_15 (i := 0) rfl rfl ?_
  refine v_get hX (ci := 11) (k := 42) (ms_kx (mS.sI h)) bc_11 (by decide) (by decide) in_11 w_6_18 dX13_valueAt_16 (mvP (f := 1142) (q := (x + 27)) rfl rfl (ms_p_1142 (mS.sI h))) ?_
  refine v_aload_n hX dX13_valueAt_19 (i := 0) rfl rfl ?_
  refine v_get hX (ci := 11) (k := 34) (ms_kx (mS.sI h)) bc_11 (by decide) (by decide) in_11 w_6_10 dX13_valueAt_20 (mvP (f := 1134) (q := (x + 22)) rfl rfl (ms_p_1134 (mS.sI h))) ?_
  refine v_iload_n hX dX13_valueAt_23 (i := 1) rfl rfl ?_
  refine u_iald hX (L := 400) (ms_k_1134 (mS.sI h)) (ms_l_1134 (mS.sI h)) ⟨by omega, by omega⟩ (by decide) dX13_valueAt_24 (fun v2_ e_v2_ b_v2_ => ?_)
  try simp (disch := omega) only [zr_I, zr_J, zr_B, rA_A, zl_I, zl_J, zl_A, lA_B] at e_v2_
  have eo1 := eo.1
  refine v_iload_n hX dX13_valueAt_25 (i := 2) rfl rfl ?_
  refine u_iadd hX dX13_valueAt_26 ?_
  refine u_iald hX (L := 3200) (ms_k_1142 (mS.sI h)) (ms_l_1142 (mS.sI h)) ⟨by omega, by omega⟩ (by decide) dX13_valueAt_27 (fun v3_ e_v3_ b_v3_ => ?_)
  try simp (disch := omega) only [zr_I, zr_J, zr_B, rA_A, zl_I, zl_J, zl_A, lA_B] at e_v3_
  refine v_aload_n hX dX13_valueAt_28 (i := 0) rfl rfl ?_
  refine v_get hX (ci := 11) (k := 43) (ms_kx (mS.sI h)) bc_11 (by decide) (by decide) in_11 w_6_19 dX13_valueAt_29 (mvP (f := 1143) (q := (x + 28)) rfl rfl (ms_p_1143 (mS.sI h))) ?_
  refine v_aload_n hX dX13_valueAt_32 (i := 0) rfl rfl ?_
  refine v_get hX (ci := 11) (k := 34) (ms_kx (mS.sI h)) bc_11 (by decide) (by decide) in_11 w_6_10 dX13_valueAt_33 (mvP (f := 1134) (q := (x + 22)) rfl rfl (ms_p_1134 (mS.sI h))) ?_
  refine v_iload_n hX dX13_valueAt_36 (i := 1) rfl rfl ?_
  refine u_iald hX (L := 400) (ms_k_1134 (mS.sI h)) (ms_l_1134 (mS.sI h)) ⟨by omega, by omega⟩ (by decide) dX13_valueAt_37 (fun v4_ e_v4_ b_v4_ => ?_)
  try simp (disch := omega) only [zr_I, zr_J, zr_B, rA_A, zl_I, zl_J, zl_A, lA_B] at e_v4_
  have hq_ : v4_ = v2_ := by omega
  subst hq_
  refine v_iload_n hX dX13_valueAt_38 (i := 2) rfl rfl ?_
  refine u_iadd hX dX13_valueAt_39 ?_
  refine u_iald hX (L := 3200) (ms_k_1143 (mS.sI h)) (ms_l_1143 (mS.sI h)) ⟨by omega, by omega⟩ (by decide) dX13_valueAt_40 (fun v5_ e_v5_ b_v5_ => ?_)
  try simp (disch := omega) only [zr_I, zr_J, zr_B, rA_A, zl_I, zl_J, zl_A, lA_B] at e_v5_
  have g41_ := eo.2 (v4_ + k) (by omega) (by omega)
  refine v_callV hX (n := 3) (k_valueOf (S := (s_I S 1164 x (iI v1_))) (x := x) (row := (x + 29)) (fr_ := v3_) (to_ := v5_) (st_ := st_) (wo := wt) (he := v1_) (mS.sI h) (by simp (disch := omega) only [y_I_s_I, x_I_s_I, z_I_s_J, z_I_s_A, z_I_s_B, e_st_, e_wt]) ⟨by omega, by omega⟩ (by simp (disch := omega) only [y_I_s_I, x_I_s_I, z_I_s_J, z_I_s_A, z_I_s_B, e_st_, e_wt]) ⟨by omega, by omega⟩ (by simp (disch := omega) only [y_I_s_I, x_I_s_I, z_I_s_J, z_I_s_A, z_I_s_B, e_st_, e_wt]) ⟨by omega, by omega⟩ ⟨by omega, by omega⟩ ⟨by omega, by omega⟩ (so.c (fun i => rfl) (fun i => rfl)) (ms_k_1144 (mS.sI h)) (ms_l_1144 (mS.sI h)) (by decide) (by omega) (nr_keep g41_.2 e_v3_ e_v5_ (fun j _ _ => by simp (disch := omega) only [zr_I, zr_J, zr_B, rA_A, zl_I, zl_J, zl_A, lA_B])) (by omega)) (ms_kx (mS.sI h)) bc_11 (by decide) w_7_134 w_7_136 (bw_p (q := (yX13_valueOf, 72)) (List.mem_of_getElem? (i := 74) rfl) rfl) w_1_16 w_7_137 (by decide +kernel) rfl ⟨by decide, by decide⟩ ⟨by omega, by omega⟩ (Nat.le_of_ble_eq_true rfl) rfl dX13_valueAt_41 (fun _ _ _ q => q) ?_
  rintro r6_ S6_ z6_ ⟨rfl, f6_, v7_, v8_, rfl, b_v7_, e_v8_, b_v8_, q6_⟩
  have e6_1128 : m_I S6_ 1128 x = iI st_ := (f6_.2.2.2.1 1128 (by decide)).trans (by simp (disch := omega) only [y_I_s_I, x_I_s_I, z_I_s_J, z_I_s_A, z_I_s_B, e_st_, e_wt])
  have e6_1163 : m_I S6_ 1163 x = iI wt := (f6_.2.2.2.1 1163 (by decide)).trans (by simp (disch := omega) only [y_I_s_I, x_I_s_I, z_I_s_J, z_I_s_A, z_I_s_B, e_st_, e_wt])
  have e6_1164 : m_I S6_ 1164 x = iI v1_ := (f6_.2.2.2.1 1164 (by decide)).trans (by simp (disch := omega) only [y_I_s_I, x_I_s_I, z_I_s_J, z_I_s_A, z_I_s_B, e_st_, e_wt])
  have h6_ : mS S6_ x := f6_.keep (mS.sI h)
  have hc6_35 : ∀ i, rAt S6_ (x + 35) i = rAt S (x + 35) i := fun i => ((f6_.1 (x + 35) (by omega) (fun j hj => absurd hj List.not_mem_nil)).rA i).trans (by simp (disch := omega) only [zr_I, zr_J, zr_B, rA_A, zl_I, zl_J, zl_A, lA_B])
  have hc6_34 : ∀ i, rAt S6_ (x + 34) i = rAt S (x + 34) i := fun i => ((f6_.1 (x + 34) (by omega) (fun j hj => absurd hj List.not_mem_nil)).rA i).trans (by simp (disch := omega) only [zr_I, zr_J, zr_B, rA_A, zl_I, zl_J, zl_A, lA_B])
  have hc6_26 : ∀ i, rAt S6_ (x + 26) i = rAt S (x + 26) i := fun i => ((f6_.1 (x + 26) (by omega) (fun j hj => absurd hj List.not_mem_nil)).rA i).trans (by simp (disch := omega) only [zr_I, zr_J, zr_B, rA_A, zl_I, zl_J, zl_A, lA_B])
  have hc6_22 : ∀ i, rAt S6_ (x + 22) i = rAt S (x + 22) i := fun i => ((f6_.1 (x + 22) (by omega) (fun j hj => absurd hj List.not_mem_nil)).rA i).trans (by simp (disch := omega) only [zr_I, zr_J, zr_B, rA_A, zl_I, zl_J, zl_A, lA_B])
  have hc6_27 : ∀ i, rAt S6_ (x + 27) i = rAt S (x + 27) i := fun i => ((f6_.1 (x + 27) (by omega) (fun j hj => absurd hj List.not_mem_nil)).rA i).trans (by simp (disch := omega) only [zr_I, zr_J, zr_B, rA_A, zl_I, zl_J, zl_A, lA_B])
  have hc6_28 : ∀ i, rAt S6_ (x + 28) i = rAt S (x + 28) i := fun i => ((f6_.1 (x + 28) (by omega) (fun j hj => absurd hj List.not_mem_nil)).rA i).trans (by simp (disch := omega) only [zr_I, zr_J, zr_B, rA_A, zl_I, zl_J, zl_A, lA_B])
  have hc6_29 : ∀ i, rAt S6_ (x + 29) i = rAt S (x + 29) i := fun i => ((f6_.1 (x + 29) (by omega) (fun j hj => absurd hj List.not_mem_nil)).rA i).trans (by simp (disch := omega) only [zr_I, zr_J, zr_B, rA_A, zl_I, zl_J, zl_A, lA_B])
  have hc6_18 : ∀ i, rAt S6_ (x + 18) i = rAt S (x + 18) i := fun i => ((f6_.1 (x + 18) (by omega) (fun j hj => absurd hj List.not_mem_nil)).rA i).trans (by simp (disch := omega) only [zr_I, zr_J, zr_B, rA_A, zl_I, zl_J, zl_A, lA_B])
  have hc6_25 : ∀ i, rAt S6_ (x + 25) i = rAt S (x + 25) i := fun i => ((f6_.1 (x + 25) (by omega) (fun j hj => absurd hj List.not_mem_nil)).rA i).trans (by simp (disch := omega) only [zr_I, zr_J, zr_B, rA_A, zl_I, zl_J, zl_A, lA_B])
  have hc6_19 : ∀ i, rAt S6_ (x + 19) i = rAt S (x + 19) i := fun i => ((f6_.1 (x + 19) (by omega) (fun j hj => absurd hj List.not_mem_nil)).rA i).trans (by simp (disch := omega) only [zr_I, zr_J, zr_B, rA_A, zl_I, zl_J, zl_A, lA_B])
  exact v_ireturn hX hE dX13_valueAt_44 (by omega) (by omega) ⟨rfl, (((mFr.rf _ _).sI (by decide)).tr (f6_.mono (by decide) (by decide) (by decide))), v7_, v8_, rfl, ⟨by omega, by omega⟩, (by simp (disch := omega) only [y_I_s_I, x_I_s_I, z_I_s_J, z_I_s_A, z_I_s_B, e6_1128, e6_1163, e6_1164, e_v8_]), ⟨by omega, by omega⟩, (by omega)⟩
set_option maxRecDepth 100000 in
set_option maxHeartbeats 4000000 in
theorem k_fitsShort {kn : Nat → Nat} {B : Nat} {S : b_M} {z x : Nat} {sx : Int} {st_ : Int} {wt : Int} {se : Int} {ex : Int} {ps : Int} (h : mS S x) (e_st_ : m_I S 1128 x = iI st_) (b_st_ : -2147483648 ≤ st_ ∧ st_ < 2147483648) (e_wt : m_I S 1163 x = iI wt) (b_wt : -2147483648 ≤ wt ∧ wt < 2147483648) (b_sx : -2147483648 ≤ sx ∧ sx < 2147483648) (so : sOk S x se) (eo : eOk S x ex ps) (p : 0 ≤ st_ ∧ st_ ≤ 400 ∧ 0 ≤ sx ∧ sx < 400 ∧ (wt = 0 ∨ wt = 1) ∧ 0 ≤ rAt S (x + 22) sx ∧ rAt S (x + 22) sx < ex) : b_C kn B yX13_fitsShort cX13_fitsShort 4 (some .boolean) 6 133 0 0 [.ref x, .int (iI sx)] S z (fun r S' z' => z = z' ∧ mFr [1164, 1162] [] [] S S' x ∧ ∃ q : Int, r = some (.int (iI q)) ∧ (-2147483648 ≤ q ∧ q < 2147483648) ∧ (q = 0 ∨ q = 1)) (fun _ _ _ => False) := by
  refine b_enter (by decide) (Nat.le_of_ble_eq_true rfl) ?_
  intro X hX hE hnL hkn hB hI_
  subst hkn; subst hB
  clear hI_
  have L70 : ∀ (S70c : b_M) (bb : Int), mFr [1164, 1162] [] [] S S70c x → (bb = 0 ∨ bb = 1) → b_V X S70c z 0 0 70 [(0, .ref x), (1, .int (iI sx))] [.int (iI bb)] := by
    intro S70c bb fr70 p70_0
    have h70c : mS S70c x := fr70.keep h
    have hc70_35 : ∀ i, rAt S70c (x + 35) i = rAt S (x + 35) i := fun i => (fr70.1 (x + 35) (by omega) (fun j hj => absurd hj List.not_mem_nil)).rA i
    have hc70_34 : ∀ i, rAt S70c (x + 34) i = rAt S (x + 34) i := fun i => (fr70.1 (x + 34) (by omega) (fun j hj => absurd hj List.not_mem_nil)).rA i
    have hc70_26 : ∀ i, rAt S70c (x + 26) i = rAt S (x + 26) i := fun i => (fr70.1 (x + 26) (by omega) (fun j hj => absurd hj List.not_mem_nil)).rA i
    have hc70_22 : ∀ i, rAt S70c (x + 22) i = rAt S (x + 22) i := fun i => (fr70.1 (x + 22) (by omega) (fun j hj => absurd hj List.not_mem_nil)).rA i
    have hc70_27 : ∀ i, rAt S70c (x + 27) i = rAt S (x + 27) i := fun i => (fr70.1 (x + 27) (by omega) (fun j hj => absurd hj List.not_mem_nil)).rA i
    have hc70_28 : ∀ i, rAt S70c (x + 28) i = rAt S (x + 28) i := fun i => (fr70.1 (x + 28) (by omega) (fun j hj => absurd hj List.not_mem_nil)).rA i
    have hc70_29 : ∀ i, rAt S70c (x + 29) i = rAt S (x + 29) i := fun i => (fr70.1 (x + 29) (by omega) (fun j hj => absurd hj List.not_mem_nil)).rA i
    have hc70_18 : ∀ i, rAt S70c (x + 18) i = rAt S (x + 18) i := fun i => (fr70.1 (x + 18) (by omega) (fun j hj => absurd hj List.not_mem_nil)).rA i
    have hc70_25 : ∀ i, rAt S70c (x + 25) i = rAt S (x + 25) i := fun i => (fr70.1 (x + 25) (by omega) (fun j hj => absurd hj List.not_mem_nil)).rA i
    have hc70_19 : ∀ i, rAt S70c (x + 19) i = rAt S (x + 19) i := fun i => (fr70.1 (x + 19) (by omega) (fun j hj => absurd hj List.not_mem_nil)).rA i
    have e70_st_ : m_I S70c 1128 x = iI st_ := (fr70.2.2.2.1 1128 (by decide)).trans e_st_
    have e70_wt : m_I S70c 1163 x = iI wt := (fr70.2.2.2.1 1163 (by decide)).trans e_wt
    exact v_zreturn hX (nar_b (by omega)) hE dX13_fitsShort_70 (by omega) (by omega) ⟨rfl, fr70, bb, rfl, ⟨by omega, by omega⟩, (by omega)⟩
  change b_V X S z 0 0 0 [(0, .ref x), (1, .int (iI sx))] []
  refine v_aload_n hX dX13_fitsShort_0 (i := 0) rfl rfl ?_
  refine v_iload_n hX dX13_fitsShort_1 (i := 1) rfl rfl ?_
  refine v_iconst hX (v := iI 0) dX13_fitsShort_2 rfl ?_
  refine v_callV hX (n := 2) (k_valueAt (S := S) (x := x) (sx := sx) (k := 0) (st_ := st_) (wt := wt) h (by simp (disch := omega) only [y_I_s_I, x_I_s_I, z_I_s_J, z_I_s_A, z_I_s_B, e_st_, e_wt]) ⟨by omega, by omega⟩ (by simp (disch := omega) only [y_I_s_I, x_I_s_I, z_I_s_J, z_I_s_A, z_I_s_B, e_st_, e_wt]) ⟨by omega, by omega⟩ ⟨by omega, by omega⟩ ⟨by omega, by omega⟩ so eo (by omega)) (ms_kx h) bc_11 (by decide) w_7_182 w_7_184 (bw_p (q := (yX13_valueAt, 72)) (List.mem_of_getElem? (i := 86) rfl) rfl) w_1_16 w_7_185 (by decide +kernel) rfl ⟨by decide, by decide⟩ ⟨by omega, by omega⟩ (Nat.le_of_ble_eq_true rfl) rfl dX13_fitsShort_3 (fun _ _ _ q => q) ?_
  rintro r1_ S1_ z1_ ⟨rfl, f1_, v2_, v3_, rfl, b_v2_, e_v3_, b_v3_, q1_⟩
  have e1_1128 : m_I S1_ 1128 x = iI st_ := (f1_.2.2.2.1 1128 (by decide)).trans (by simp (disch := omega) only [y_I_s_I, x_I_s_I, z_I_s_J, z_I_s_A, z_I_s_B, e_st_, e_wt])
  have e1_1163 : m_I S1_ 1163 x = iI wt := (f1_.2.2.2.1 1163 (by decide)).trans (by simp (disch := omega) only [y_I_s_I, x_I_s_I, z_I_s_J, z_I_s_A, z_I_s_B, e_st_, e_wt])
  have h1_ : mS S1_ x := f1_.keep h
  have hc1_35 : ∀ i, rAt S1_ (x + 35) i = rAt S (x + 35) i := fun i => ((f1_.1 (x + 35) (by omega) (fun j hj => absurd hj List.not_mem_nil)).rA i).trans rfl
  have hc1_34 : ∀ i, rAt S1_ (x + 34) i = rAt S (x + 34) i := fun i => ((f1_.1 (x + 34) (by omega) (fun j hj => absurd hj List.not_mem_nil)).rA i).trans rfl
  have hc1_26 : ∀ i, rAt S1_ (x + 26) i = rAt S (x + 26) i := fun i => ((f1_.1 (x + 26) (by omega) (fun j hj => absurd hj List.not_mem_nil)).rA i).trans rfl
  have hc1_22 : ∀ i, rAt S1_ (x + 22) i = rAt S (x + 22) i := fun i => ((f1_.1 (x + 22) (by omega) (fun j hj => absurd hj List.not_mem_nil)).rA i).trans rfl
  have hc1_27 : ∀ i, rAt S1_ (x + 27) i = rAt S (x + 27) i := fun i => ((f1_.1 (x + 27) (by omega) (fun j hj => absurd hj List.not_mem_nil)).rA i).trans rfl
  have hc1_28 : ∀ i, rAt S1_ (x + 28) i = rAt S (x + 28) i := fun i => ((f1_.1 (x + 28) (by omega) (fun j hj => absurd hj List.not_mem_nil)).rA i).trans rfl
  have hc1_29 : ∀ i, rAt S1_ (x + 29) i = rAt S (x + 29) i := fun i => ((f1_.1 (x + 29) (by omega) (fun j hj => absurd hj List.not_mem_nil)).rA i).trans rfl
  have hc1_18 : ∀ i, rAt S1_ (x + 18) i = rAt S (x + 18) i := fun i => ((f1_.1 (x + 18) (by omega) (fun j hj => absurd hj List.not_mem_nil)).rA i).trans rfl
  have hc1_25 : ∀ i, rAt S1_ (x + 25) i = rAt S (x + 25) i := fun i => ((f1_.1 (x + 25) (by omega) (fun j hj => absurd hj List.not_mem_nil)).rA i).trans rfl
  have hc1_19 : ∀ i, rAt S1_ (x + 19) i = rAt S (x + 19) i := fun i => ((f1_.1 (x + 19) (by omega) (fun j hj => absurd hj List.not_mem_nil)).rA i).trans rfl
  refine v_istore_n hX (lv' := [(2, .int (iI v2_)), (0, .ref x), (1, .int (iI sx))]) dX13_fitsShort_6 (i := 2) rfl (by rw [hnL]; decide) rfl ?_
  refine v_iload_n hX dX13_fitsShort_7 (i := 2) rfl rfl ?_
  refine v_aload_n hX dX13_fitsShort_8 (i := 0) rfl rfl ?_
  refine v_get hX (ci := 11) (k := 38) (ms_kx h1_) bc_11 (by decide) (by decide) in_11 w_6_14 dX13_fitsShort_9 (mvP (f := 1138) (q := (x + 26)) rfl rfl (ms_p_1138 h1_)) ?_
  refine v_iload_n hX dX13_fitsShort_12 (i := 1) rfl rfl ?_
  refine u_iald hX (L := 400) (ms_k_1138 h1_) (ms_l_1138 h1_) ⟨by omega, by omega⟩ (by decide) dX13_fitsShort_13 (fun v4_ e_v4_ b_v4_ => ?_)
  try simp (disch := omega) only [zr_I, zr_J, zr_B, rA_A, zl_I, zl_J, zl_A, lA_B, hc1_35, hc1_34, hc1_26, hc1_22, hc1_27, hc1_28, hc1_29, hc1_18, hc1_25, hc1_19] at e_v4_
  refine u_isub hX dX13_fitsShort_14 ?_
  refine v_iconst hX (v := iI 1) dX13_fitsShort_15 rfl ?_
  refine u_isub hX dX13_fitsShort_16 ?_
  obtain ⟨v5_, e_v5_, b_v5_⟩ := i_ex (iI ((v2_ - v4_) - 1))
  rw [e_v5_]
  refine v_istore_n hX (lv' := [(3, .int (iI v5_)), (2, .int (iI v2_)), (0, .ref x), (1, .int (iI sx))]) dX13_fitsShort_17 (i := 3) rfl (by rw [hnL]; decide) rfl ?_
  refine v_aload_n hX dX13_fitsShort_18 (i := 0) rfl rfl ?_
  refine v_get hX (ci := 11) (k := 30) (ms_kx h1_) bc_11 (by decide) (by decide) in_11 w_6_6 dX13_fitsShort_19 (mvP (f := 1130) (q := (x + 18)) rfl rfl (ms_p_1130 h1_)) ?_
  refine v_iload_n hX dX13_fitsShort_22 (i := 1) rfl rfl ?_
  refine u_iald hX (L := 400) (ms_k_1130 h1_) (ms_l_1130 h1_) ⟨by omega, by omega⟩ (by decide) dX13_fitsShort_23 (fun v6_ e_v6_ b_v6_ => ?_)
  try simp (disch := omega) only [zr_I, zr_J, zr_B, rA_A, zl_I, zl_J, zl_A, lA_B, hc1_35, hc1_34, hc1_26, hc1_22, hc1_27, hc1_28, hc1_29, hc1_18, hc1_25, hc1_19] at e_v6_
  refine v_iconst hX (v := iI 2) dX13_fitsShort_24 rfl ?_
  refine u_icmp_ne hX (tgt := 41) dX13_fitsShort_25 (by decide) ⟨by omega, by omega⟩ ⟨by omega, by omega⟩ (fun h7_ => ?_) (fun h7_ => ?_)
  ·
    refine v_aload_n hX dX13_fitsShort_41 (i := 0) rfl rfl ?_
    refine v_get hX (ci := 11) (k := 30) (ms_kx h1_) bc_11 (by decide) (by decide) in_11 w_6_6 dX13_fitsShort_42 (mvP (f := 1130) (q := (x + 18)) rfl rfl (ms_p_1130 h1_)) ?_
    refine v_iload_n hX dX13_fitsShort_45 (i := 1) rfl rfl ?_
    refine u_iald hX (L := 400) (ms_k_1130 h1_) (ms_l_1130 h1_) ⟨by omega, by omega⟩ (by decide) dX13_fitsShort_46 (fun v8_ e_v8_ b_v8_ => ?_)
    try simp (disch := omega) only [zr_I, zr_J, zr_B, rA_A, zl_I, zl_J, zl_A, lA_B, hc1_35, hc1_34, hc1_26, hc1_22, hc1_27, hc1_28, hc1_29, hc1_18, hc1_25, hc1_19] at e_v8_
    refine v_iconst hX (v := iI 5) dX13_fitsShort_47 rfl ?_
    refine u_icmp_ne hX (tgt := 62) dX13_fitsShort_48 (by decide) ⟨by omega, by omega⟩ ⟨by omega, by omega⟩ (fun h9_ => ?_) (fun h9_ => ?_)
    ·
      refine v_iload_n hX dX13_fitsShort_62 (i := 3) rfl rfl ?_
      refine v_bipush hX (v := iI (-16)) dX13_fitsShort_63 (by decide) ?_
      refine v_bipush hX (v := iI 15) dX13_fitsShort_65 (by decide) ?_
      refine v_callS hX (n := 3) (k_within (S := S1_) (x := 0) (v := v5_) (a := (-16)) (b := 15) ⟨by omega, by omega⟩ ⟨by omega, by omega⟩ ⟨by omega, by omega⟩) w_6_210 w_6_211 w_1_16 w_6_212 (by decide +kernel) rfl ⟨by decide, by decide⟩ ⟨by omega, by omega⟩ (Nat.le_of_ble_eq_true rfl) rfl dX13_fitsShort_67 (fun _ _ _ q => q) ?_
      rintro r10_ S10_ z10_ ⟨rfl, rfl, v11_, rfl, b_v11_, q10_⟩
      refine v_locals (lv' := [(0, .ref x), (1, .int (iI sx))]) (by simp) ?_
      exact L70 _ v11_ ((mFr.rf _ _).tr (f1_.mono (by decide) (by decide) (by decide))) (by omega)
    ·
      refine v_iload_n hX dX13_fitsShort_51 (i := 3) rfl rfl ?_
      refine v_bipush hX (v := iI (-32)) dX13_fitsShort_52 (by decide) ?_
      refine v_bipush hX (v := iI 31) dX13_fitsShort_54 (by decide) ?_
      refine v_callS hX (n := 3) (k_within (S := S1_) (x := 0) (v := v5_) (a := (-32)) (b := 31) ⟨by omega, by omega⟩ ⟨by omega, by omega⟩ ⟨by omega, by omega⟩) w_6_210 w_6_211 w_1_16 w_6_212 (by decide +kernel) rfl ⟨by decide, by decide⟩ ⟨by omega, by omega⟩ (Nat.le_of_ble_eq_true rfl) rfl dX13_fitsShort_56 (fun _ _ _ q => q) ?_
      rintro r12_ S12_ z12_ ⟨rfl, rfl, v13_, rfl, b_v13_, q12_⟩
      refine v_goto hX (tgt := 70) dX13_fitsShort_59 (by decide) ?_
      refine v_locals (lv' := [(0, .ref x), (1, .int (iI sx))]) (by simp) ?_
      exact L70 _ v13_ ((mFr.rf _ _).tr (f1_.mono (by decide) (by decide) (by decide))) (by omega)
  ·
    refine v_iload_n hX dX13_fitsShort_28 (i := 2) rfl rfl ?_
    refine v_sipush hX (v := iI (-256)) dX13_fitsShort_29 (by decide) ?_
    refine v_sipush hX (v := iI 255) dX13_fitsShort_32 (by decide) ?_
    refine v_callS hX (n := 3) (k_within (S := S1_) (x := 0) (v := v2_) (a := (-256)) (b := 255) ⟨by omega, by omega⟩ ⟨by omega, by omega⟩ ⟨by omega, by omega⟩) w_6_210 w_6_211 w_1_16 w_6_212 (by decide +kernel) rfl ⟨by decide, by decide⟩ ⟨by omega, by omega⟩ (Nat.le_of_ble_eq_true rfl) rfl dX13_fitsShort_35 (fun _ _ _ q => q) ?_
    rintro r14_ S14_ z14_ ⟨rfl, rfl, v15_, rfl, b_v15_, q14_⟩
    refine v_goto hX (tgt := 70) dX13_fitsShort_38 (by decide) ?_
    refine v_locals (lv' := [(0, .ref x), (1, .int (iI sx))]) (by simp) ?_
    exact L70 _ v15_ ((mFr.rf _ _).tr (f1_.mono (by decide) (by decide) (by decide))) (by omega)
set_option maxRecDepth 100000 in
set_option maxHeartbeats 4000000 in
theorem k_literalPlace {kn : Nat → Nat} {B : Nat} {S : b_M} {z x : Nat} {sx : Int} {st_ : Int} (h : mS S x) (e_st_ : m_I S 1128 x = iI st_) (b_st_ : -2147483648 ≤ st_ ∧ st_ < 2147483648) (b_sx : -2147483648 ≤ sx ∧ sx < 2147483648) (p : 0 ≤ st_ ∧ st_ ≤ 400 ∧ 0 ≤ sx ∧ sx < 400) : b_C kn B yX13_literalPlace cX13_literalPlace 4 (some .int) 1 23 0 0 [.ref x, .int (iI sx)] S z (fun r S' z' => z = z' ∧ S = S' ∧ ∃ q : Int, r = some (.int (iI q)) ∧ (-2147483648 ≤ q ∧ q < 2147483648) ∧ (True)) (fun _ _ _ => False) := by
  refine b_enter (by decide) (Nat.le_of_ble_eq_true rfl) ?_
  intro X hX hE hnL hkn hB hI_
  subst hkn; subst hB
  clear hI_
  have L8 : ∀ (n8 : Nat) (k : Int) (n : Int), (sx ≤ k ∧ (k = sx ∨ k ≤ st_) ∧ 0 ≤ n ∧ n ≤ 400) → (st_ - k).toNat = n8 → b_V X S z 0 0 8 [(3, .int (iI k)), (2, .int (iI n)), (0, .ref x), (1, .int (iI sx))] [] := by
    intro n8
    induction n8 using Nat.strongRecOn with
    | _ n8 ih8 =>
    intro k n p8_0 hm8
    refine v_iload_n hX dX13_literalPlace_8 (i := 3) rfl rfl ?_
    refine v_aload_n hX dX13_literalPlace_9 (i := 0) rfl rfl ?_
    refine v_get hX (ci := 11) (k := 28) (ms_kx h) bc_11 (by decide) (by decide) in_11 w_6_4 dX13_literalPlace_10 (mvF (f := 1128) (v := iI st_) rfl rfl (by simp (disch := omega) only [y_I_s_I, x_I_s_I, z_I_s_J, z_I_s_A, z_I_s_B, e_st_])) ?_
    refine u_icmp_ge hX (tgt := 33) dX13_literalPlace_13 (by decide) ⟨by omega, by omega⟩ ⟨by omega, by omega⟩ (fun h1_ => ?_) (fun h1_ => ?_)
    ·
      refine v_iload_n hX dX13_literalPlace_33 (i := 3) rfl rfl ?_
      refine v_aload_n hX dX13_literalPlace_34 (i := 0) rfl rfl ?_
      refine v_get hX (ci := 11) (k := 28) (ms_kx h) bc_11 (by decide) (by decide) in_11 w_6_4 dX13_literalPlace_35 (mvF (f := 1128) (v := iI st_) rfl rfl (by simp (disch := omega) only [y_I_s_I, x_I_s_I, z_I_s_J, z_I_s_A, z_I_s_B, e_st_])) ?_
      refine u_icmp_ge hX (tgt := 52) dX13_literalPlace_38 (by decide) ⟨by omega, by omega⟩ ⟨by omega, by omega⟩ (fun h2_ => ?_) (fun h2_ => ?_)
      ·
        refine v_aload_n hX dX13_literalPlace_52 (i := 0) rfl rfl ?_
        obtain ⟨v3_, e_v3_, b_v3_⟩ := i_ex (m_I S 1160 x)
        refine v_get hX (ci := 11) (k := 60) (ms_kx h) bc_11 (by decide) (by decide) in_11 w_6_36 dX13_literalPlace_53 (mvF (f := 1160) (v := iI v3_) rfl rfl (by simp (disch := omega) only [y_I_s_I, x_I_s_I, z_I_s_J, z_I_s_A, z_I_s_B, e_st_, e_v3_])) ?_
        refine v_aload_n hX dX13_literalPlace_56 (i := 0) rfl rfl ?_
        refine v_aload_n hX dX13_literalPlace_57 (i := 0) rfl rfl ?_
        refine v_get hX (ci := 11) (k := 28) (ms_kx h) bc_11 (by decide) (by decide) in_11 w_6_4 dX13_literalPlace_58 (mvF (f := 1128) (v := iI st_) rfl rfl (by simp (disch := omega) only [y_I_s_I, x_I_s_I, z_I_s_J, z_I_s_A, z_I_s_B, e_st_, e_v3_])) ?_
        refine v_callV hX (n := 1) (k_literalsBefore (S := S) (x := x) (sx := st_) h ⟨by omega, by omega⟩ (by omega)) (ms_kx h) bc_11 (by decide) w_7_170 w_7_172 (bw_p (q := (yX13_literalsBefore, 72)) (List.mem_of_getElem? (i := 83) rfl) rfl) w_1_16 w_7_173 (by decide +kernel) rfl ⟨by decide, by decide⟩ ⟨by omega, by omega⟩ (Nat.le_of_ble_eq_true rfl) rfl dX13_literalPlace_61 (fun _ _ _ q => q) ?_
        rintro r4_ S4_ z4_ ⟨rfl, rfl, v5_, rfl, b_v5_, q4_⟩
        refine u_isub hX dX13_literalPlace_64 ?_
        refine v_iload_n hX dX13_literalPlace_65 (i := 2) rfl rfl ?_
        refine u_iadd hX dX13_literalPlace_66 ?_
        obtain ⟨v6_, e_v6_, b_v6_⟩ := i_ex (iI ((v3_ - v5_) + n))
        rw [e_v6_]
        exact v_ireturn hX hE dX13_literalPlace_67 (by omega) (by omega) ⟨rfl, rfl, v6_, rfl, ⟨by omega, by omega⟩, trivial⟩
      ·
        refine v_aload_n hX dX13_literalPlace_41 (i := 0) rfl rfl ?_
        refine v_get hX (ci := 11) (k := 38) (ms_kx h) bc_11 (by decide) (by decide) in_11 w_6_14 dX13_literalPlace_42 (mvP (f := 1138) (q := (x + 26)) rfl rfl (ms_p_1138 h)) ?_
        refine v_iload_n hX dX13_literalPlace_45 (i := 3) rfl rfl ?_
        refine u_iald hX (L := 400) (ms_k_1138 h) (ms_l_1138 h) ⟨by omega, by omega⟩ (by decide) dX13_literalPlace_46 (fun v7_ e_v7_ b_v7_ => ?_)
        refine v_iload_n hX dX13_literalPlace_47 (i := 2) rfl rfl ?_
        refine u_iadd hX dX13_literalPlace_48 ?_
        obtain ⟨v8_, e_v8_, b_v8_⟩ := i_ex (iI (v7_ + n))
        rw [e_v8_]
        refine v_goto hX (tgt := 67) dX13_literalPlace_49 (by decide) ?_
        exact v_ireturn hX hE dX13_literalPlace_67 (by omega) (by omega) ⟨rfl, rfl, v8_, rfl, ⟨by omega, by omega⟩, trivial⟩
    ·
      refine v_aload_n hX dX13_literalPlace_16 (i := 0) rfl rfl ?_
      refine v_get hX (ci := 11) (k := 30) (ms_kx h) bc_11 (by decide) (by decide) in_11 w_6_6 dX13_literalPlace_17 (mvP (f := 1130) (q := (x + 18)) rfl rfl (ms_p_1130 h)) ?_
      refine v_iload_n hX dX13_literalPlace_20 (i := 3) rfl rfl ?_
      refine u_iald hX (L := 400) (ms_k_1130 h) (ms_l_1130 h) ⟨by omega, by omega⟩ (by decide) dX13_literalPlace_21 (fun v9_ e_v9_ b_v9_ => ?_)
      refine v_bipush hX (v := iI 10) dX13_literalPlace_22 (by decide) ?_
      refine u_icmp_eq hX (tgt := 33) dX13_literalPlace_24 (by decide) ⟨by omega, by omega⟩ ⟨by omega, by omega⟩ (fun h10_ => ?_) (fun h10_ => ?_)
      ·
        refine v_iload_n hX dX13_literalPlace_33 (i := 3) rfl rfl ?_
        refine v_aload_n hX dX13_literalPlace_34 (i := 0) rfl rfl ?_
        refine v_get hX (ci := 11) (k := 28) (ms_kx h) bc_11 (by decide) (by decide) in_11 w_6_4 dX13_literalPlace_35 (mvF (f := 1128) (v := iI st_) rfl rfl (by simp (disch := omega) only [y_I_s_I, x_I_s_I, z_I_s_J, z_I_s_A, z_I_s_B, e_st_])) ?_
        refine u_icmp_ge hX (tgt := 52) dX13_literalPlace_38 (by decide) ⟨by omega, by omega⟩ ⟨by omega, by omega⟩ (fun h11_ => ?_) (fun h11_ => ?_)
        ·
          refine v_aload_n hX dX13_literalPlace_52 (i := 0) rfl rfl ?_
          obtain ⟨v12_, e_v12_, b_v12_⟩ := i_ex (m_I S 1160 x)
          refine v_get hX (ci := 11) (k := 60) (ms_kx h) bc_11 (by decide) (by decide) in_11 w_6_36 dX13_literalPlace_53 (mvF (f := 1160) (v := iI v12_) rfl rfl (by simp (disch := omega) only [y_I_s_I, x_I_s_I, z_I_s_J, z_I_s_A, z_I_s_B, e_st_, e_v12_])) ?_
          refine v_aload_n hX dX13_literalPlace_56 (i := 0) rfl rfl ?_
          refine v_aload_n hX dX13_literalPlace_57 (i := 0) rfl rfl ?_
          refine v_get hX (ci := 11) (k := 28) (ms_kx h) bc_11 (by decide) (by decide) in_11 w_6_4 dX13_literalPlace_58 (mvF (f := 1128) (v := iI st_) rfl rfl (by simp (disch := omega) only [y_I_s_I, x_I_s_I, z_I_s_J, z_I_s_A, z_I_s_B, e_st_, e_v12_])) ?_
          refine v_callV hX (n := 1) (k_literalsBefore (S := S) (x := x) (sx := st_) h ⟨by omega, by omega⟩ (by omega)) (ms_kx h) bc_11 (by decide) w_7_170 w_7_172 (bw_p (q := (yX13_literalsBefore, 72)) (List.mem_of_getElem? (i := 83) rfl) rfl) w_1_16 w_7_173 (by decide +kernel) rfl ⟨by decide, by decide⟩ ⟨by omega, by omega⟩ (Nat.le_of_ble_eq_true rfl) rfl dX13_literalPlace_61 (fun _ _ _ q => q) ?_
          rintro r13_ S13_ z13_ ⟨rfl, rfl, v14_, rfl, b_v14_, q13_⟩
          refine u_isub hX dX13_literalPlace_64 ?_
          refine v_iload_n hX dX13_literalPlace_65 (i := 2) rfl rfl ?_
          refine u_iadd hX dX13_literalPlace_66 ?_
          obtain ⟨v15_, e_v15_, b_v15_⟩ := i_ex (iI ((v12_ - v14_) + n))
          rw [e_v15_]
          exact v_ireturn hX hE dX13_literalPlace_67 (by omega) (by omega) ⟨rfl, rfl, v15_, rfl, ⟨by omega, by omega⟩, trivial⟩
        ·
          refine v_aload_n hX dX13_literalPlace_41 (i := 0) rfl rfl ?_
          refine v_get hX (ci := 11) (k := 38) (ms_kx h) bc_11 (by decide) (by decide) in_11 w_6_14 dX13_literalPlace_42 (mvP (f := 1138) (q := (x + 26)) rfl rfl (ms_p_1138 h)) ?_
          refine v_iload_n hX dX13_literalPlace_45 (i := 3) rfl rfl ?_
          refine u_iald hX (L := 400) (ms_k_1138 h) (ms_l_1138 h) ⟨by omega, by omega⟩ (by decide) dX13_literalPlace_46 (fun v16_ e_v16_ b_v16_ => ?_)
          refine v_iload_n hX dX13_literalPlace_47 (i := 2) rfl rfl ?_
          refine u_iadd hX dX13_literalPlace_48 ?_
          obtain ⟨v17_, e_v17_, b_v17_⟩ := i_ex (iI (v16_ + n))
          rw [e_v17_]
          refine v_goto hX (tgt := 67) dX13_literalPlace_49 (by decide) ?_
          exact v_ireturn hX hE dX13_literalPlace_67 (by omega) (by omega) ⟨rfl, rfl, v17_, rfl, ⟨by omega, by omega⟩, trivial⟩
      ·
        refine v_iinc hX (v := iI (k + 1)) (lv' := [(3, .int (iI (k + 1))), (2, .int (iI n)), (0, .ref x), (1, .int (iI sx))]) dX13_literalPlace_27 rfl (iI_add _ _) (by rw [hnL]; decide) rfl ?_
        refine v_goto hX (tgt := 8) dX13_literalPlace_30 (by decide) ?_
        exact ih8 _ (by omega) (k + 1) n (by omega) rfl
  change b_V X S z 0 0 0 [(0, .ref x), (1, .int (iI sx))] []
  refine v_aload_n hX dX13_literalPlace_0 (i := 0) rfl rfl ?_
  refine v_iload_n hX dX13_literalPlace_1 (i := 1) rfl rfl ?_
  refine v_callV hX (n := 1) (k_literalsBefore (S := S) (x := x) (sx := sx) h ⟨by omega, by omega⟩ (by omega)) (ms_kx h) bc_11 (by decide) w_7_170 w_7_172 (bw_p (q := (yX13_literalsBefore, 72)) (List.mem_of_getElem? (i := 83) rfl) rfl) w_1_16 w_7_173 (by decide +kernel) rfl ⟨by decide, by decide⟩ ⟨by omega, by omega⟩ (Nat.le_of_ble_eq_true rfl) rfl dX13_literalPlace_2 (fun _ _ _ q => q) ?_
  rintro r18_ S18_ z18_ ⟨rfl, rfl, v19_, rfl, b_v19_, q18_⟩
  refine v_istore_n hX (lv' := [(2, .int (iI v19_)), (0, .ref x), (1, .int (iI sx))]) dX13_literalPlace_5 (i := 2) rfl (by rw [hnL]; decide) rfl ?_
  refine v_iload_n hX dX13_literalPlace_6 (i := 1) rfl rfl ?_
  refine v_istore_n hX (lv' := [(3, .int (iI sx)), (2, .int (iI v19_)), (0, .ref x), (1, .int (iI sx))]) dX13_literalPlace_7 (i := 3) rfl (by rw [hnL]; decide) rfl ?_
  exact L8 _ sx v19_ (by omega) rfl
set_option maxRecDepth 100000 in
set_option maxHeartbeats 4000000 in
theorem k_fits {kn : Nat → Nat} {B : Nat} {S : b_M} {z x : Nat} {sx : Int} {k : Int} {st_ : Int} {wt : Int} {se : Int} {ex : Int} {ps : Int} (h : mS S x) (e_st_ : m_I S 1128 x = iI st_) (b_st_ : -2147483648 ≤ st_ ∧ st_ < 2147483648) (e_wt : m_I S 1163 x = iI wt) (b_wt : -2147483648 ≤ wt ∧ wt < 2147483648) (b_sx : -2147483648 ≤ sx ∧ sx < 2147483648) (b_k : -2147483648 ≤ k ∧ k < 2147483648) (so : sOk S x se) (eo : eOk S x ex ps) (p : 0 ≤ st_ ∧ st_ ≤ 400 ∧ 0 ≤ sx ∧ sx < 400 ∧ (wt = 0 ∨ wt = 1) ∧ 0 ≤ k ∧ k ≤ 8 ∧ 0 ≤ rAt S (x + 22) sx ∧ rAt S (x + 22) sx + k < ex) : b_C kn B yX13_fits cX13_fits 4 (some .boolean) 6 133 0 0 [.ref x, .int (iI sx), .int (iI k)] S z (fun r S' z' => z = z' ∧ mFr [1164, 1162] [] [] S S' x ∧ ∃ q : Int, r = some (.int (iI q)) ∧ (-2147483648 ≤ q ∧ q < 2147483648) ∧ (q = 0 ∨ q = 1)) (fun _ _ _ => False) := by
  refine b_enter (by decide) (Nat.le_of_ble_eq_true rfl) ?_
  intro X hX hE hnL hkn hB hI_
  subst hkn; subst hB
  clear hI_
  have L47 : ∀ (S47c : b_M) (v : Int), mFr [1164, 1162] [] [] S S47c x → (-2147483648 ≤ v ∧ v < 2147483648) → b_V X S47c z 0 0 47 [(3, .int (iI v)), (0, .ref x), (1, .int (iI sx)), (2, .int (iI k))] [] := by
    intro S47c v fr47 p47_0
    have h47c : mS S47c x := fr47.keep h
    have hc47_35 : ∀ i, rAt S47c (x + 35) i = rAt S (x + 35) i := fun i => (fr47.1 (x + 35) (by omega) (fun j hj => absurd hj List.not_mem_nil)).rA i
    have hc47_34 : ∀ i, rAt S47c (x + 34) i = rAt S (x + 34) i := fun i => (fr47.1 (x + 34) (by omega) (fun j hj => absurd hj List.not_mem_nil)).rA i
    have hc47_26 : ∀ i, rAt S47c (x + 26) i = rAt S (x + 26) i := fun i => (fr47.1 (x + 26) (by omega) (fun j hj => absurd hj List.not_mem_nil)).rA i
    have hc47_22 : ∀ i, rAt S47c (x + 22) i = rAt S (x + 22) i := fun i => (fr47.1 (x + 22) (by omega) (fun j hj => absurd hj List.not_mem_nil)).rA i
    have hc47_27 : ∀ i, rAt S47c (x + 27) i = rAt S (x + 27) i := fun i => (fr47.1 (x + 27) (by omega) (fun j hj => absurd hj List.not_mem_nil)).rA i
    have hc47_28 : ∀ i, rAt S47c (x + 28) i = rAt S (x + 28) i := fun i => (fr47.1 (x + 28) (by omega) (fun j hj => absurd hj List.not_mem_nil)).rA i
    have hc47_29 : ∀ i, rAt S47c (x + 29) i = rAt S (x + 29) i := fun i => (fr47.1 (x + 29) (by omega) (fun j hj => absurd hj List.not_mem_nil)).rA i
    have hc47_18 : ∀ i, rAt S47c (x + 18) i = rAt S (x + 18) i := fun i => (fr47.1 (x + 18) (by omega) (fun j hj => absurd hj List.not_mem_nil)).rA i
    have hc47_25 : ∀ i, rAt S47c (x + 25) i = rAt S (x + 25) i := fun i => (fr47.1 (x + 25) (by omega) (fun j hj => absurd hj List.not_mem_nil)).rA i
    have hc47_19 : ∀ i, rAt S47c (x + 19) i = rAt S (x + 19) i := fun i => (fr47.1 (x + 19) (by omega) (fun j hj => absurd hj List.not_mem_nil)).rA i
    have e47_st_ : m_I S47c 1128 x = iI st_ := (fr47.2.2.2.1 1128 (by decide)).trans e_st_
    have e47_wt : m_I S47c 1163 x = iI wt := (fr47.2.2.2.1 1163 (by decide)).trans e_wt
    refine v_iload_n hX dX13_fits_47 (i := 3) rfl rfl ?_
    refine v_iconst hX (v := iI 0) dX13_fits_48 rfl ?_
    refine v_ldcw hX (v := iI 65535) dX13_fits_49 (show Cond.constant _ _ (iI 65535) ∈ b_Ws from w_7_190) ?_
    refine v_callS hX (n := 3) (k_within (S := S47c) (x := 0) (v := v) (a := 0) (b := 65535) ⟨by omega, by omega⟩ ⟨by omega, by omega⟩ ⟨by omega, by omega⟩) w_6_210 w_6_211 w_1_16 w_6_212 (by decide +kernel) rfl ⟨by decide, by decide⟩ ⟨by omega, by omega⟩ (Nat.le_of_ble_eq_true rfl) rfl dX13_fits_52 (fun _ _ _ q => q) ?_
    rintro r1_ S1_ z1_ ⟨rfl, rfl, v2_, rfl, b_v2_, q1_⟩
    exact v_zreturn hX (nar_b (by omega)) hE dX13_fits_55 (by omega) (by omega) ⟨rfl, fr47, v2_, rfl, ⟨by omega, by omega⟩, (by omega)⟩
  have L26 : ∀ (S26c : b_M) (v : Int), mFr [1164, 1162] [] [] S S26c x → (-2147483648 ≤ v ∧ v < 2147483648) → b_V X S26c z 0 0 26 [(3, .int (iI v)), (0, .ref x), (1, .int (iI sx)), (2, .int (iI k))] [] := by
    intro S26c v fr26 p26_0
    have h26c : mS S26c x := fr26.keep h
    have hc26_35 : ∀ i, rAt S26c (x + 35) i = rAt S (x + 35) i := fun i => (fr26.1 (x + 35) (by omega) (fun j hj => absurd hj List.not_mem_nil)).rA i
    have hc26_34 : ∀ i, rAt S26c (x + 34) i = rAt S (x + 34) i := fun i => (fr26.1 (x + 34) (by omega) (fun j hj => absurd hj List.not_mem_nil)).rA i
    have hc26_26 : ∀ i, rAt S26c (x + 26) i = rAt S (x + 26) i := fun i => (fr26.1 (x + 26) (by omega) (fun j hj => absurd hj List.not_mem_nil)).rA i
    have hc26_22 : ∀ i, rAt S26c (x + 22) i = rAt S (x + 22) i := fun i => (fr26.1 (x + 22) (by omega) (fun j hj => absurd hj List.not_mem_nil)).rA i
    have hc26_27 : ∀ i, rAt S26c (x + 27) i = rAt S (x + 27) i := fun i => (fr26.1 (x + 27) (by omega) (fun j hj => absurd hj List.not_mem_nil)).rA i
    have hc26_28 : ∀ i, rAt S26c (x + 28) i = rAt S (x + 28) i := fun i => (fr26.1 (x + 28) (by omega) (fun j hj => absurd hj List.not_mem_nil)).rA i
    have hc26_29 : ∀ i, rAt S26c (x + 29) i = rAt S (x + 29) i := fun i => (fr26.1 (x + 29) (by omega) (fun j hj => absurd hj List.not_mem_nil)).rA i
    have hc26_18 : ∀ i, rAt S26c (x + 18) i = rAt S (x + 18) i := fun i => (fr26.1 (x + 18) (by omega) (fun j hj => absurd hj List.not_mem_nil)).rA i
    have hc26_25 : ∀ i, rAt S26c (x + 25) i = rAt S (x + 25) i := fun i => (fr26.1 (x + 25) (by omega) (fun j hj => absurd hj List.not_mem_nil)).rA i
    have hc26_19 : ∀ i, rAt S26c (x + 19) i = rAt S (x + 19) i := fun i => (fr26.1 (x + 19) (by omega) (fun j hj => absurd hj List.not_mem_nil)).rA i
    have e26_st_ : m_I S26c 1128 x = iI st_ := (fr26.2.2.2.1 1128 (by decide)).trans e_st_
    have e26_wt : m_I S26c 1163 x = iI wt := (fr26.2.2.2.1 1163 (by decide)).trans e_wt
    refine v_aload_n hX dX13_fits_26 (i := 0) rfl rfl ?_
    refine v_get hX (ci := 11) (k := 30) (ms_kx h26c) bc_11 (by decide) (by decide) in_11 w_6_6 dX13_fits_27 (mvP (f := 1130) (q := (x + 18)) rfl rfl (ms_p_1130 h26c)) ?_
    refine v_iload_n hX dX13_fits_30 (i := 1) rfl rfl ?_
    refine u_iald hX (L := 400) (ms_k_1130 h26c) (ms_l_1130 h26c) ⟨by omega, by omega⟩ (by decide) dX13_fits_31 (fun v3_ e_v3_ b_v3_ => ?_)
    try simp (disch := omega) only [zr_I, zr_J, zr_B, rA_A, zl_I, zl_J, zl_A, lA_B, hc26_35, hc26_34, hc26_26, hc26_22, hc26_27, hc26_28, hc26_29, hc26_18, hc26_25, hc26_19] at e_v3_
    refine v_iconst hX (v := iI 5) dX13_fits_32 rfl ?_
    refine u_icmp_eq hX (tgt := 47) dX13_fits_33 (by decide) ⟨by omega, by omega⟩ ⟨by omega, by omega⟩ (fun h4_ => ?_) (fun h4_ => ?_)
    ·
      exact L47 _ v fr26 (by omega)
    ·
      refine v_aload_n hX dX13_fits_36 (i := 0) rfl rfl ?_
      refine v_get hX (ci := 11) (k := 30) (ms_kx h26c) bc_11 (by decide) (by decide) in_11 w_6_6 dX13_fits_37 (mvP (f := 1130) (q := (x + 18)) rfl rfl (ms_p_1130 h26c)) ?_
      refine v_iload_n hX dX13_fits_40 (i := 1) rfl rfl ?_
      refine u_iald hX (L := 400) (ms_k_1130 h26c) (ms_l_1130 h26c) ⟨by omega, by omega⟩ (by decide) dX13_fits_41 (fun v5_ e_v5_ b_v5_ => ?_)
      try simp (disch := omega) only [zr_I, zr_J, zr_B, rA_A, zl_I, zl_J, zl_A, lA_B, hc26_35, hc26_34, hc26_26, hc26_22, hc26_27, hc26_28, hc26_29, hc26_18, hc26_25, hc26_19] at e_v5_
      refine v_bipush hX (v := iI 6) dX13_fits_42 (by decide) ?_
      refine u_icmp_ne hX (tgt := 56) dX13_fits_44 (by decide) ⟨by omega, by omega⟩ ⟨by omega, by omega⟩ (fun h6_ => ?_) (fun h6_ => ?_)
      ·
        refine v_iload_n hX dX13_fits_56 (i := 3) rfl rfl ?_
        refine v_sipush hX (v := iI (-32768)) dX13_fits_57 (by decide) ?_
        refine v_ldcw hX (v := iI 65535) dX13_fits_60 (show Cond.constant _ _ (iI 65535) ∈ b_Ws from w_7_190) ?_
        refine v_callS hX (n := 3) (k_within (S := S26c) (x := 0) (v := v) (a := (-32768)) (b := 65535) ⟨by omega, by omega⟩ ⟨by omega, by omega⟩ ⟨by omega, by omega⟩) w_6_210 w_6_211 w_1_16 w_6_212 (by decide +kernel) rfl ⟨by decide, by decide⟩ ⟨by omega, by omega⟩ (Nat.le_of_ble_eq_true rfl) rfl dX13_fits_63 (fun _ _ _ q => q) ?_
        rintro r7_ S7_ z7_ ⟨rfl, rfl, v8_, rfl, b_v8_, q7_⟩
        refine u_if_ne hX (tgt := 71) dX13_fits_66 (by decide) ⟨by omega, by omega⟩ (fun h9_ => ?_) (fun h9_ => ?_)
        ·
          refine v_aload_n hX dX13_fits_71 (i := 0) rfl rfl ?_
          refine v_get hX (ci := 11) (k := 30) (ms_kx h26c) bc_11 (by decide) (by decide) in_11 w_6_6 dX13_fits_72 (mvP (f := 1130) (q := (x + 18)) rfl rfl (ms_p_1130 h26c)) ?_
          refine v_iload_n hX dX13_fits_75 (i := 1) rfl rfl ?_
          refine u_iald hX (L := 400) (ms_k_1130 h26c) (ms_l_1130 h26c) ⟨by omega, by omega⟩ (by decide) dX13_fits_76 (fun v10_ e_v10_ b_v10_ => ?_)
          try simp (disch := omega) only [zr_I, zr_J, zr_B, rA_A, zl_I, zl_J, zl_A, lA_B, hc26_35, hc26_34, hc26_26, hc26_22, hc26_27, hc26_28, hc26_29, hc26_18, hc26_25, hc26_19] at e_v10_
          refine v_bipush hX (v := iI 7) dX13_fits_77 (by decide) ?_
          refine u_icmp_ne hX (tgt := 105) dX13_fits_79 (by decide) ⟨by omega, by omega⟩ ⟨by omega, by omega⟩ (fun h11_ => ?_) (fun h11_ => ?_)
          ·
            refine v_iconst hX (v := iI 1) dX13_fits_105 rfl ?_
            refine v_goto hX (tgt := 110) dX13_fits_106 (by decide) ?_
            exact v_zreturn hX (nar_b (by omega)) hE dX13_fits_110 (by omega) (by omega) ⟨rfl, fr26, 1, rfl, ⟨by omega, by omega⟩, (by omega)⟩
          ·
            refine v_aload_n hX dX13_fits_82 (i := 0) rfl rfl ?_
            refine v_iload_n hX dX13_fits_83 (i := 1) rfl rfl ?_
            refine v_callV hX (n := 1) (k_literalPlace (S := S26c) (x := x) (sx := sx) (st_ := st_) h26c (by simp (disch := omega) only [y_I_s_I, x_I_s_I, z_I_s_J, z_I_s_A, z_I_s_B, e26_st_, e26_wt]) ⟨by omega, by omega⟩ ⟨by omega, by omega⟩ (by omega)) (ms_kx h26c) bc_11 (by decide) w_7_195 w_7_197 (bw_p (q := (yX13_literalPlace, 72)) (List.mem_of_getElem? (i := 89) rfl) rfl) w_1_16 w_7_198 (by decide +kernel) rfl ⟨by decide, by decide⟩ ⟨by omega, by omega⟩ (Nat.le_of_ble_eq_true rfl) rfl dX13_fits_84 (fun _ _ _ q => q) ?_
            rintro r12_ S12_ z12_ ⟨rfl, rfl, v13_, rfl, b_v13_, q12_⟩
            refine v_aload_n hX dX13_fits_87 (i := 0) rfl rfl ?_
            refine v_get hX (ci := 11) (k := 38) (ms_kx h26c) bc_11 (by decide) (by decide) in_11 w_6_14 dX13_fits_88 (mvP (f := 1138) (q := (x + 26)) rfl rfl (ms_p_1138 h26c)) ?_
            refine v_iload_n hX dX13_fits_91 (i := 1) rfl rfl ?_
            refine u_iald hX (L := 400) (ms_k_1138 h26c) (ms_l_1138 h26c) ⟨by omega, by omega⟩ (by decide) dX13_fits_92 (fun v14_ e_v14_ b_v14_ => ?_)
            try simp (disch := omega) only [zr_I, zr_J, zr_B, rA_A, zl_I, zl_J, zl_A, lA_B, hc26_35, hc26_34, hc26_26, hc26_22, hc26_27, hc26_28, hc26_29, hc26_18, hc26_25, hc26_19] at e_v14_
            refine u_isub hX dX13_fits_93 ?_
            refine v_iconst hX (v := iI 1) dX13_fits_94 rfl ?_
            refine u_isub hX dX13_fits_95 ?_
            obtain ⟨v15_, e_v15_, b_v15_⟩ := i_ex (iI ((v13_ - v14_) - 1))
            rw [e_v15_]
            refine v_iconst hX (v := iI 0) dX13_fits_96 rfl ?_
            refine v_bipush hX (v := iI 63) dX13_fits_97 (by decide) ?_
            refine v_callS hX (n := 3) (k_within (S := S26c) (x := 0) (v := v15_) (a := 0) (b := 63) ⟨by omega, by omega⟩ ⟨by omega, by omega⟩ ⟨by omega, by omega⟩) w_6_210 w_6_211 w_1_16 w_6_212 (by decide +kernel) rfl ⟨by decide, by decide⟩ ⟨by omega, by omega⟩ (Nat.le_of_ble_eq_true rfl) rfl dX13_fits_99 (fun _ _ _ q => q) ?_
            rintro r16_ S16_ z16_ ⟨rfl, rfl, v17_, rfl, b_v17_, q16_⟩
            refine u_if_eq hX (tgt := 109) dX13_fits_102 (by decide) ⟨by omega, by omega⟩ (fun h18_ => ?_) (fun h18_ => ?_)
            ·
              refine v_iconst hX (v := iI 0) dX13_fits_109 rfl ?_
              exact v_zreturn hX (nar_b (by omega)) hE dX13_fits_110 (by omega) (by omega) ⟨rfl, fr26, 0, rfl, ⟨by omega, by omega⟩, (by omega)⟩
            ·
              refine v_iconst hX (v := iI 1) dX13_fits_105 rfl ?_
              refine v_goto hX (tgt := 110) dX13_fits_106 (by decide) ?_
              exact v_zreturn hX (nar_b (by omega)) hE dX13_fits_110 (by omega) (by omega) ⟨rfl, fr26, 1, rfl, ⟨by omega, by omega⟩, (by omega)⟩
        ·
          refine v_iconst hX (v := iI 0) dX13_fits_69 rfl ?_
          exact v_zreturn hX (nar_b (by omega)) hE dX13_fits_70 (by omega) (by omega) ⟨rfl, fr26, 0, rfl, ⟨by omega, by omega⟩, (by omega)⟩
      ·
        exact L47 _ v fr26 (by omega)
  change b_V X S z 0 0 0 [(0, .ref x), (1, .int (iI sx)), (2, .int (iI k))] []
  refine v_aload_n hX dX13_fits_0 (i := 0) rfl rfl ?_
  refine v_iload_n hX dX13_fits_1 (i := 1) rfl rfl ?_
  refine v_iload_n hX dX13_fits_2 (i := 2) rfl rfl ?_
  refine v_callV hX (n := 2) (k_valueAt (S := S) (x := x) (sx := sx) (k := k) (st_ := st_) (wt := wt) h (by simp (disch := omega) only [y_I_s_I, x_I_s_I, z_I_s_J, z_I_s_A, z_I_s_B, e_st_, e_wt]) ⟨by omega, by omega⟩ (by simp (disch := omega) only [y_I_s_I, x_I_s_I, z_I_s_J, z_I_s_A, z_I_s_B, e_st_, e_wt]) ⟨by omega, by omega⟩ ⟨by omega, by omega⟩ ⟨by omega, by omega⟩ so eo (by omega)) (ms_kx h) bc_11 (by decide) w_7_182 w_7_184 (bw_p (q := (yX13_valueAt, 72)) (List.mem_of_getElem? (i := 86) rfl) rfl) w_1_16 w_7_185 (by decide +kernel) rfl ⟨by decide, by decide⟩ ⟨by omega, by omega⟩ (Nat.le_of_ble_eq_true rfl) rfl dX13_fits_3 (fun _ _ _ q => q) ?_
  rintro r19_ S19_ z19_ ⟨rfl, f19_, v20_, v21_, rfl, b_v20_, e_v21_, b_v21_, q19_⟩
  have e19_1128 : m_I S19_ 1128 x = iI st_ := (f19_.2.2.2.1 1128 (by decide)).trans (by simp (disch := omega) only [y_I_s_I, x_I_s_I, z_I_s_J, z_I_s_A, z_I_s_B, e_st_, e_wt])
  have e19_1163 : m_I S19_ 1163 x = iI wt := (f19_.2.2.2.1 1163 (by decide)).trans (by simp (disch := omega) only [y_I_s_I, x_I_s_I, z_I_s_J, z_I_s_A, z_I_s_B, e_st_, e_wt])
  have h19_ : mS S19_ x := f19_.keep h
  have hc19_35 : ∀ i, rAt S19_ (x + 35) i = rAt S (x + 35) i := fun i => ((f19_.1 (x + 35) (by omega) (fun j hj => absurd hj List.not_mem_nil)).rA i).trans rfl
  have hc19_34 : ∀ i, rAt S19_ (x + 34) i = rAt S (x + 34) i := fun i => ((f19_.1 (x + 34) (by omega) (fun j hj => absurd hj List.not_mem_nil)).rA i).trans rfl
  have hc19_26 : ∀ i, rAt S19_ (x + 26) i = rAt S (x + 26) i := fun i => ((f19_.1 (x + 26) (by omega) (fun j hj => absurd hj List.not_mem_nil)).rA i).trans rfl
  have hc19_22 : ∀ i, rAt S19_ (x + 22) i = rAt S (x + 22) i := fun i => ((f19_.1 (x + 22) (by omega) (fun j hj => absurd hj List.not_mem_nil)).rA i).trans rfl
  have hc19_27 : ∀ i, rAt S19_ (x + 27) i = rAt S (x + 27) i := fun i => ((f19_.1 (x + 27) (by omega) (fun j hj => absurd hj List.not_mem_nil)).rA i).trans rfl
  have hc19_28 : ∀ i, rAt S19_ (x + 28) i = rAt S (x + 28) i := fun i => ((f19_.1 (x + 28) (by omega) (fun j hj => absurd hj List.not_mem_nil)).rA i).trans rfl
  have hc19_29 : ∀ i, rAt S19_ (x + 29) i = rAt S (x + 29) i := fun i => ((f19_.1 (x + 29) (by omega) (fun j hj => absurd hj List.not_mem_nil)).rA i).trans rfl
  have hc19_18 : ∀ i, rAt S19_ (x + 18) i = rAt S (x + 18) i := fun i => ((f19_.1 (x + 18) (by omega) (fun j hj => absurd hj List.not_mem_nil)).rA i).trans rfl
  have hc19_25 : ∀ i, rAt S19_ (x + 25) i = rAt S (x + 25) i := fun i => ((f19_.1 (x + 25) (by omega) (fun j hj => absurd hj List.not_mem_nil)).rA i).trans rfl
  have hc19_19 : ∀ i, rAt S19_ (x + 19) i = rAt S (x + 19) i := fun i => ((f19_.1 (x + 19) (by omega) (fun j hj => absurd hj List.not_mem_nil)).rA i).trans rfl
  refine v_istore_n hX (lv' := [(3, .int (iI v20_)), (0, .ref x), (1, .int (iI sx)), (2, .int (iI k))]) dX13_fits_6 (i := 3) rfl (by rw [hnL]; decide) rfl ?_
  refine v_aload_n hX dX13_fits_7 (i := 0) rfl rfl ?_
  refine v_iload_n hX dX13_fits_8 (i := 1) rfl rfl ?_
  refine v_callV hX (n := 1) (k_grows (S := S19_) (x := x) (sx := sx) h19_ ⟨by omega, by omega⟩ (by omega)) (ms_kx h19_) bc_11 (by decide) w_7_174 w_7_176 (bw_p (q := (yX13_grows, 72)) (List.mem_of_getElem? (i := 84) rfl) rfl) w_1_16 w_7_177 (by decide +kernel) rfl ⟨by decide, by decide⟩ ⟨by omega, by omega⟩ (Nat.le_of_ble_eq_true rfl) rfl dX13_fits_9 (fun _ _ _ q => q) ?_
  rintro r22_ S22_ z22_ ⟨rfl, rfl, v23_, rfl, b_v23_, q22_⟩
  try simp (disch := omega) only [zr_I, zr_J, zr_B, rA_A, zl_I, zl_J, zl_A, lA_B, hc19_35, hc19_34, hc19_26, hc19_22, hc19_27, hc19_28, hc19_29, hc19_18, hc19_25, hc19_19] at q22_
  refine u_if_eq hX (tgt := 26) dX13_fits_12 (by decide) ⟨by omega, by omega⟩ (fun h24_ => ?_) (fun h24_ => ?_)
  ·
    exact L26 _ v20_ ((mFr.rf _ _).tr (f19_.mono (by decide) (by decide) (by decide))) (by omega)
  ·
    refine v_aload_n hX dX13_fits_15 (i := 0) rfl rfl ?_
    refine v_get hX (ci := 11) (k := 37) (ms_kx h19_) bc_11 (by decide) (by decide) in_11 w_6_13 dX13_fits_16 (mvP (f := 1137) (q := (x + 25)) rfl rfl (ms_p_1137 h19_)) ?_
    refine v_iload_n hX dX13_fits_19 (i := 1) rfl rfl ?_
    refine u_zald hX (L := 400) (ms_k_1137 h19_) (ms_l_1137 h19_) ⟨by omega, by omega⟩ (by decide) dX13_fits_20 (fun v25_ e_v25_ b_v25_ => ?_)
    try simp (disch := omega) only [zr_I, zr_J, zr_B, rA_A, zl_I, zl_J, zl_A, lA_B, hc19_35, hc19_34, hc19_26, hc19_22, hc19_27, hc19_28, hc19_29, hc19_18, hc19_25, hc19_19] at e_v25_
    refine u_if_ne hX (tgt := 26) dX13_fits_21 (by decide) ⟨by omega, by omega⟩ (fun h26_ => ?_) (fun h26_ => ?_)
    ·
      exact L26 _ v20_ ((mFr.rf _ _).tr (f19_.mono (by decide) (by decide) (by decide))) (by omega)
    ·
      refine v_iconst hX (v := iI 1) dX13_fits_24 rfl ?_
      exact v_zreturn hX (nar_b (by omega)) hE dX13_fits_25 (by omega) (by omega) ⟨rfl, ((mFr.rf _ _).tr (f19_.mono (by decide) (by decide) (by decide))), 1, rfl, ⟨by omega, by omega⟩, (by omega)⟩
set_option maxRecDepth 100000 in
set_option maxHeartbeats 4000000 in
theorem k_sayLong {kn : Nat → Nat} {B : Nat} {S : b_M} {z x : Nat} {cd : Int} {sx : Int} {st_ : Int} {wt : Int} {wo_ : Int} {se : Int} {ex : Int} {ps : Int} (h : mS S x) (e_st_ : m_I S 1128 x = iI st_) (b_st_ : -2147483648 ≤ st_ ∧ st_ < 2147483648) (e_wt : m_I S 1163 x = iI wt) (b_wt : -2147483648 ≤ wt ∧ wt < 2147483648) (e_wo_ : m_I S 1157 x = iI wo_) (b_wo_ : -2147483648 ≤ wo_ ∧ wo_ < 2147483648) (b_cd : -2147483648 ≤ cd ∧ cd < 2147483648) (b_sx : -2147483648 ≤ sx ∧ sx < 2147483648) (so : sOk S x se) (eo : eOk S x ex ps) (p : 0 ≤ st_ ∧ st_ ≤ 400 ∧ 0 ≤ sx ∧ sx < 400 ∧ (wt = 0 ∨ wt = 1) ∧ 0 ≤ rAt S (x + 22) sx ∧ rAt S (x + 22) sx < ex ∧ 0 ≤ wo_ ∧ wo_ < 65535) : b_C kn B yX13_sayLong cX13_sayLong 3 none 6 133 0 0 [.ref x, .int (iI cd), .int (iI sx)] S z (fun r S' z' => z = z' ∧ mFr [1164, 1162, 1157] [] [38] S S' x ∧ ∃ w1 : Int, r = none ∧ m_I S' 1157 x = iI w1 ∧ (-2147483648 ≤ w1 ∧ w1 < 2147483648) ∧ (w1 = wo_ + 2)) (fun _ _ _ => False) := by
  refine b_enter (by decide) (Nat.le_of_ble_eq_true rfl) ?_
  intro X hX hE hnL hkn hB hI_
  subst hkn; subst hB
  clear hI_
  change b_V X S z 0 0 0 [(0, .ref x), (1, .int (iI cd)), (2, .int (iI sx))] []
  refine v_aload_n hX dX13_sayLong_0 (i := 0) rfl rfl ?_
  refine v_iload_n hX dX13_sayLong_1 (i := 1) rfl rfl ?_
  refine v_bipush hX (v := iI 12) dX13_sayLong_2 (by decide) ?_
  refine u_ishl hX dX13_sayLong_4 (fun v1_ b_v1_ => ?_)
  refine v_aload_n hX dX13_sayLong_5 (i := 0) rfl rfl ?_
  refine v_get hX (ci := 11) (k := 31) (ms_kx h) bc_11 (by decide) (by decide) in_11 w_6_7 dX13_sayLong_6 (mvP (f := 1131) (q := (x + 19)) rfl rfl (ms_p_1131 h)) ?_
  refine v_iload_n hX dX13_sayLong_9 (i := 2) rfl rfl ?_
  refine u_iald hX (L := 400) (ms_k_1131 h) (ms_l_1131 h) ⟨by omega, by omega⟩ (by decide) dX13_sayLong_10 (fun v2_ e_v2_ b_v2_ => ?_)
  refine v_bipush hX (v := iI 9) dX13_sayLong_11 (by decide) ?_
  refine u_ishl hX dX13_sayLong_13 (fun v3_ b_v3_ => ?_)
  refine u_ior hX dX13_sayLong_14 (fun v4_ b_v4_ => ?_)
  refine v_callV hX (n := 1) (k_say (S := S) (x := x) (v := v4_) (wo_ := wo_) h (by simp (disch := omega) only [y_I_s_I, x_I_s_I, z_I_s_J, z_I_s_A, z_I_s_B, e_st_, e_wt, e_wo_]) ⟨by omega, by omega⟩ ⟨by omega, by omega⟩ (by omega)) (ms_kx h) bc_11 (by decide) w_7_203 w_7_205 (bw_p (q := (yX13_say, 72)) (List.mem_of_getElem? (i := 91) rfl) rfl) w_1_16 w_7_206 (by decide +kernel) rfl ⟨by decide, by decide⟩ ⟨by omega, by omega⟩ (Nat.le_of_ble_eq_true rfl) rfl dX13_sayLong_15 (fun _ _ _ q => q) ?_
  rintro r5_ S5_ z5_ ⟨rfl, f5_, v6_, rfl, e_v6_, b_v6_, q5_⟩
  have e5_1128 : m_I S5_ 1128 x = iI st_ := (f5_.2.2.2.1 1128 (by decide)).trans (by simp (disch := omega) only [y_I_s_I, x_I_s_I, z_I_s_J, z_I_s_A, z_I_s_B, e_st_, e_wt, e_wo_])
  have e5_1163 : m_I S5_ 1163 x = iI wt := (f5_.2.2.2.1 1163 (by decide)).trans (by simp (disch := omega) only [y_I_s_I, x_I_s_I, z_I_s_J, z_I_s_A, z_I_s_B, e_st_, e_wt, e_wo_])
  have h5_ : mS S5_ x := f5_.keep h
  have hc5_35 : ∀ i, rAt S5_ (x + 35) i = rAt S (x + 35) i := fun i => ((f5_.1 (x + 35) (by omega) (by intro j hj; simp only [List.mem_cons, List.not_mem_nil, or_false] at hj; omega)).rA i).trans rfl
  have hc5_34 : ∀ i, rAt S5_ (x + 34) i = rAt S (x + 34) i := fun i => ((f5_.1 (x + 34) (by omega) (by intro j hj; simp only [List.mem_cons, List.not_mem_nil, or_false] at hj; omega)).rA i).trans rfl
  have hc5_26 : ∀ i, rAt S5_ (x + 26) i = rAt S (x + 26) i := fun i => ((f5_.1 (x + 26) (by omega) (by intro j hj; simp only [List.mem_cons, List.not_mem_nil, or_false] at hj; omega)).rA i).trans rfl
  have hc5_22 : ∀ i, rAt S5_ (x + 22) i = rAt S (x + 22) i := fun i => ((f5_.1 (x + 22) (by omega) (by intro j hj; simp only [List.mem_cons, List.not_mem_nil, or_false] at hj; omega)).rA i).trans rfl
  have hc5_27 : ∀ i, rAt S5_ (x + 27) i = rAt S (x + 27) i := fun i => ((f5_.1 (x + 27) (by omega) (by intro j hj; simp only [List.mem_cons, List.not_mem_nil, or_false] at hj; omega)).rA i).trans rfl
  have hc5_28 : ∀ i, rAt S5_ (x + 28) i = rAt S (x + 28) i := fun i => ((f5_.1 (x + 28) (by omega) (by intro j hj; simp only [List.mem_cons, List.not_mem_nil, or_false] at hj; omega)).rA i).trans rfl
  have hc5_29 : ∀ i, rAt S5_ (x + 29) i = rAt S (x + 29) i := fun i => ((f5_.1 (x + 29) (by omega) (by intro j hj; simp only [List.mem_cons, List.not_mem_nil, or_false] at hj; omega)).rA i).trans rfl
  have hc5_18 : ∀ i, rAt S5_ (x + 18) i = rAt S (x + 18) i := fun i => ((f5_.1 (x + 18) (by omega) (by intro j hj; simp only [List.mem_cons, List.not_mem_nil, or_false] at hj; omega)).rA i).trans rfl
  have hc5_25 : ∀ i, rAt S5_ (x + 25) i = rAt S (x + 25) i := fun i => ((f5_.1 (x + 25) (by omega) (by intro j hj; simp only [List.mem_cons, List.not_mem_nil, or_false] at hj; omega)).rA i).trans rfl
  have hc5_19 : ∀ i, rAt S5_ (x + 19) i = rAt S (x + 19) i := fun i => ((f5_.1 (x + 19) (by omega) (by intro j hj; simp only [List.mem_cons, List.not_mem_nil, or_false] at hj; omega)).rA i).trans rfl
  refine v_aload_n hX dX13_sayLong_18 (i := 0) rfl rfl ?_
  refine v_aload_n hX dX13_sayLong_19 (i := 0) rfl rfl ?_
  refine v_iload_n hX dX13_sayLong_20 (i := 2) rfl rfl ?_
  refine v_iconst hX (v := iI 0) dX13_sayLong_21 rfl ?_
  refine v_callV hX (n := 2) (k_valueAt (S := S5_) (x := x) (sx := sx) (k := 0) (st_ := st_) (wt := wt) h5_ (by simp (disch := omega) only [y_I_s_I, x_I_s_I, z_I_s_J, z_I_s_A, z_I_s_B, e5_1128, e5_1163, e_v6_]) ⟨by omega, by omega⟩ (by simp (disch := omega) only [y_I_s_I, x_I_s_I, z_I_s_J, z_I_s_A, z_I_s_B, e5_1128, e5_1163, e_v6_]) ⟨by omega, by omega⟩ ⟨by omega, by omega⟩ ⟨by omega, by omega⟩ (so.c (fun i => hc5_35 i) (fun i => hc5_34 i)) (eo.c (fun i => (hc5_27 i)) (fun i => (hc5_28 i)) (fun i => (hc5_29 i))) (by (try simp (disch := omega) only [zr_I, zr_J, zr_B, rA_A, zl_I, zl_J, zl_A, lA_B, hc5_35, hc5_34, hc5_26, hc5_22, hc5_27, hc5_28, hc5_29, hc5_18, hc5_25, hc5_19]); omega)) (ms_kx h5_) bc_11 (by decide) w_7_182 w_7_184 (bw_p (q := (yX13_valueAt, 72)) (List.mem_of_getElem? (i := 86) rfl) rfl) w_1_16 w_7_185 (by decide +kernel) rfl ⟨by decide, by decide⟩ ⟨by omega, by omega⟩ (Nat.le_of_ble_eq_true rfl) rfl dX13_sayLong_22 (fun _ _ _ q => q) ?_
  rintro r7_ S7_ z7_ ⟨rfl, f7_, v8_, v9_, rfl, b_v8_, e_v9_, b_v9_, q7_⟩
  have e7_1128 : m_I S7_ 1128 x = iI st_ := (f7_.2.2.2.1 1128 (by decide)).trans (by simp (disch := omega) only [y_I_s_I, x_I_s_I, z_I_s_J, z_I_s_A, z_I_s_B, e5_1128, e5_1163, e_v6_])
  have e7_1163 : m_I S7_ 1163 x = iI wt := (f7_.2.2.2.1 1163 (by decide)).trans (by simp (disch := omega) only [y_I_s_I, x_I_s_I, z_I_s_J, z_I_s_A, z_I_s_B, e5_1128, e5_1163, e_v6_])
  have e7_1157 : m_I S7_ 1157 x = iI v6_ := (f7_.2.2.2.1 1157 (by decide)).trans (by simp (disch := omega) only [y_I_s_I, x_I_s_I, z_I_s_J, z_I_s_A, z_I_s_B, e5_1128, e5_1163, e_v6_])
  have h7_ : mS S7_ x := f7_.keep h5_
  have hc7_35 : ∀ i, rAt S7_ (x + 35) i = rAt S (x + 35) i := fun i => ((f7_.1 (x + 35) (by omega) (fun j hj => absurd hj List.not_mem_nil)).rA i).trans (hc5_35 i)
  have hc7_34 : ∀ i, rAt S7_ (x + 34) i = rAt S (x + 34) i := fun i => ((f7_.1 (x + 34) (by omega) (fun j hj => absurd hj List.not_mem_nil)).rA i).trans (hc5_34 i)
  have hc7_26 : ∀ i, rAt S7_ (x + 26) i = rAt S (x + 26) i := fun i => ((f7_.1 (x + 26) (by omega) (fun j hj => absurd hj List.not_mem_nil)).rA i).trans (hc5_26 i)
  have hc7_22 : ∀ i, rAt S7_ (x + 22) i = rAt S (x + 22) i := fun i => ((f7_.1 (x + 22) (by omega) (fun j hj => absurd hj List.not_mem_nil)).rA i).trans (hc5_22 i)
  have hc7_27 : ∀ i, rAt S7_ (x + 27) i = rAt S (x + 27) i := fun i => ((f7_.1 (x + 27) (by omega) (fun j hj => absurd hj List.not_mem_nil)).rA i).trans (hc5_27 i)
  have hc7_28 : ∀ i, rAt S7_ (x + 28) i = rAt S (x + 28) i := fun i => ((f7_.1 (x + 28) (by omega) (fun j hj => absurd hj List.not_mem_nil)).rA i).trans (hc5_28 i)
  have hc7_29 : ∀ i, rAt S7_ (x + 29) i = rAt S (x + 29) i := fun i => ((f7_.1 (x + 29) (by omega) (fun j hj => absurd hj List.not_mem_nil)).rA i).trans (hc5_29 i)
  have hc7_18 : ∀ i, rAt S7_ (x + 18) i = rAt S (x + 18) i := fun i => ((f7_.1 (x + 18) (by omega) (fun j hj => absurd hj List.not_mem_nil)).rA i).trans (hc5_18 i)
  have hc7_25 : ∀ i, rAt S7_ (x + 25) i = rAt S (x + 25) i := fun i => ((f7_.1 (x + 25) (by omega) (fun j hj => absurd hj List.not_mem_nil)).rA i).trans (hc5_25 i)
  have hc7_19 : ∀ i, rAt S7_ (x + 19) i = rAt S (x + 19) i := fun i => ((f7_.1 (x + 19) (by omega) (fun j hj => absurd hj List.not_mem_nil)).rA i).trans (hc5_19 i)
  refine v_callV hX (n := 1) (k_say (S := S7_) (x := x) (v := v8_) (wo_ := v6_) h7_ (by simp (disch := omega) only [y_I_s_I, x_I_s_I, z_I_s_J, z_I_s_A, z_I_s_B, e7_1128, e7_1163, e7_1157, e_v9_]) ⟨by omega, by omega⟩ ⟨by omega, by omega⟩ (by omega)) (ms_kx h7_) bc_11 (by decide) w_7_203 w_7_205 (bw_p (q := (yX13_say, 72)) (List.mem_of_getElem? (i := 91) rfl) rfl) w_1_16 w_7_206 (by decide +kernel) rfl ⟨by decide, by decide⟩ ⟨by omega, by omega⟩ (Nat.le_of_ble_eq_true rfl) rfl dX13_sayLong_25 (fun _ _ _ q => q) ?_
  rintro r10_ S10_ z10_ ⟨rfl, f10_, v11_, rfl, e_v11_, b_v11_, q10_⟩
  have e10_1128 : m_I S10_ 1128 x = iI st_ := (f10_.2.2.2.1 1128 (by decide)).trans (by simp (disch := omega) only [y_I_s_I, x_I_s_I, z_I_s_J, z_I_s_A, z_I_s_B, e7_1128, e7_1163, e7_1157, e_v9_])
  have e10_1163 : m_I S10_ 1163 x = iI wt := (f10_.2.2.2.1 1163 (by decide)).trans (by simp (disch := omega) only [y_I_s_I, x_I_s_I, z_I_s_J, z_I_s_A, z_I_s_B, e7_1128, e7_1163, e7_1157, e_v9_])
  have e10_1162 : m_I S10_ 1162 x = iI v9_ := (f10_.2.2.2.1 1162 (by decide)).trans (by simp (disch := omega) only [y_I_s_I, x_I_s_I, z_I_s_J, z_I_s_A, z_I_s_B, e7_1128, e7_1163, e7_1157, e_v9_])
  have h10_ : mS S10_ x := f10_.keep h7_
  have hc10_35 : ∀ i, rAt S10_ (x + 35) i = rAt S (x + 35) i := fun i => ((f10_.1 (x + 35) (by omega) (by intro j hj; simp only [List.mem_cons, List.not_mem_nil, or_false] at hj; omega)).rA i).trans (hc7_35 i)
  have hc10_34 : ∀ i, rAt S10_ (x + 34) i = rAt S (x + 34) i := fun i => ((f10_.1 (x + 34) (by omega) (by intro j hj; simp only [List.mem_cons, List.not_mem_nil, or_false] at hj; omega)).rA i).trans (hc7_34 i)
  have hc10_26 : ∀ i, rAt S10_ (x + 26) i = rAt S (x + 26) i := fun i => ((f10_.1 (x + 26) (by omega) (by intro j hj; simp only [List.mem_cons, List.not_mem_nil, or_false] at hj; omega)).rA i).trans (hc7_26 i)
  have hc10_22 : ∀ i, rAt S10_ (x + 22) i = rAt S (x + 22) i := fun i => ((f10_.1 (x + 22) (by omega) (by intro j hj; simp only [List.mem_cons, List.not_mem_nil, or_false] at hj; omega)).rA i).trans (hc7_22 i)
  have hc10_27 : ∀ i, rAt S10_ (x + 27) i = rAt S (x + 27) i := fun i => ((f10_.1 (x + 27) (by omega) (by intro j hj; simp only [List.mem_cons, List.not_mem_nil, or_false] at hj; omega)).rA i).trans (hc7_27 i)
  have hc10_28 : ∀ i, rAt S10_ (x + 28) i = rAt S (x + 28) i := fun i => ((f10_.1 (x + 28) (by omega) (by intro j hj; simp only [List.mem_cons, List.not_mem_nil, or_false] at hj; omega)).rA i).trans (hc7_28 i)
  have hc10_29 : ∀ i, rAt S10_ (x + 29) i = rAt S (x + 29) i := fun i => ((f10_.1 (x + 29) (by omega) (by intro j hj; simp only [List.mem_cons, List.not_mem_nil, or_false] at hj; omega)).rA i).trans (hc7_29 i)
  have hc10_18 : ∀ i, rAt S10_ (x + 18) i = rAt S (x + 18) i := fun i => ((f10_.1 (x + 18) (by omega) (by intro j hj; simp only [List.mem_cons, List.not_mem_nil, or_false] at hj; omega)).rA i).trans (hc7_18 i)
  have hc10_25 : ∀ i, rAt S10_ (x + 25) i = rAt S (x + 25) i := fun i => ((f10_.1 (x + 25) (by omega) (by intro j hj; simp only [List.mem_cons, List.not_mem_nil, or_false] at hj; omega)).rA i).trans (hc7_25 i)
  have hc10_19 : ∀ i, rAt S10_ (x + 19) i = rAt S (x + 19) i := fun i => ((f10_.1 (x + 19) (by omega) (by intro j hj; simp only [List.mem_cons, List.not_mem_nil, or_false] at hj; omega)).rA i).trans (hc7_19 i)
  exact v_return hX hE dX13_sayLong_28 (by omega) (by omega) ⟨rfl, ((((mFr.rf _ _).tr (f5_.mono (by decide) (by decide) (by decide))).tr (f7_.mono (by decide) (by decide) (by decide))).tr (f10_.mono (by decide) (by decide) (by decide))), v11_, rfl, (by simp (disch := omega) only [y_I_s_I, x_I_s_I, z_I_s_J, z_I_s_A, z_I_s_B, e10_1128, e10_1163, e10_1162, e_v11_]), ⟨by omega, by omega⟩, (by omega)⟩
