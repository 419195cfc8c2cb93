/-- text and length have grown, nothing else has changed -/
def aInv (S S' : b_M) (a t n : Nat) : Prop := (∀ b, b ≠ a → b ≠ t → b_eq S S' b) ∧ m_K S' a = 10 ∧ (∀ f, f ≠ 1001 → m_I S' f a = m_I S f a) ∧ (∀ f, m_P S' f a = m_P S f a) ∧ m_I S' 1001 a = nI n ∧ m_K S' t = 12 ∧ m_L S' t = 4096
set_option maxRecDepth 100000 in
set_option maxHeartbeats 4000000 in
theorem append_it {X : b_T} {fr lo mc ms : Nat} (hX : b_X X cX12_append RX12 fr lo mc ms) (hnL : b_n X = 3) {S0 S : b_M} {z ce sl a t n : Nat} {c v : Int32} (i : aInv S0 S a t n) (hP : m_P S 1000 a = some t) (hat : a ≠ t) (hn : n < 4096) (hv : ¬ v < 0) (kk : ∀ S1, aInv S0 S1 a t (n + 1) → m_P S1 1000 a = some t → b_V X S1 z ce sl 3 [(2, .int (v + (-8))), (0, .ref a), (1, .int c)] []) : b_V X S z ce sl 3 [(2, .int v), (0, .ref a), (1, .int c)] [] := by
  obtain ⟨i1, hK, i3, i4, hI, hKt, hLt⟩ := i
  refine v_iload_n hX dX12_append_3 (i := 2) rfl rfl ?_
  refine v_if_lt hX (tgt := 46) dX12_append_4 (by decide) (fun h => absurd h hv) (fun _ => ?_)
  refine v_aload_n hX dX12_append_7 (i := 0) rfl rfl ?_
  refine v_get hX (ci := 10) (k := 1) (by simp (disch := omega) only [q_K_s_I, q_K_s_J, q_K_s_P, q_K_s_A, q_K_s_B, q_K_s_C, q_K_r_A, q_K_r_B, y_K_n_O, x_K_n_O, y_K_n_A, x_K_n_A, hK, hP]) bc_10 (by decide) (by decide) in_10 w_2_176 dX12_append_8 (mvI (f := 1001) rfl rfl) ?_
  refine v_sipush hX (v := (4096)) dX12_append_11 (by decide) ?_
  rw [hI]
  refine v_icmp_ge hX (tgt := 46) dX12_append_14 (by decide) (fun h => absurd h (nI_ge (b := 4096) hn (by decide))) (fun _ => ?_)
  refine v_aload_n hX dX12_append_17 (i := 0) rfl rfl ?_
  refine v_get hX (ci := 10) (k := 0) (by simp (disch := omega) only [q_K_s_I, q_K_s_J, q_K_s_P, q_K_s_A, q_K_s_B, q_K_s_C, q_K_r_A, q_K_r_B, y_K_n_O, x_K_n_O, y_K_n_A, x_K_n_A, hK, hP]) bc_10 (by decide) (by decide) in_10 w_2_175 dX12_append_18 (mvP (f := 1000) (q := t) rfl rfl (by simp (disch := omega) only [q_P_s_I, q_P_s_J, q_P_s_A, q_P_s_B, q_P_s_C, q_P_n_A, q_P_r_A, q_P_r_B, y_P_s_P, x_P_s_P, y_P_n_O, x_P_n_O, hK, hP])) ?_
  refine v_aload_n hX dX12_append_21 (i := 0) rfl rfl ?_
  refine v_get hX (ci := 10) (k := 1) (by simp (disch := omega) only [q_K_s_I, q_K_s_J, q_K_s_P, q_K_s_A, q_K_s_B, q_K_s_C, q_K_r_A, q_K_r_B, y_K_n_O, x_K_n_O, y_K_n_A, x_K_n_A, hK, hP]) bc_10 (by decide) (by decide) in_10 w_2_176 dX12_append_22 (mvI (f := 1001) rfl rfl) ?_
  refine v_iload_n hX dX12_append_25 (i := 1) rfl rfl ?_
  refine v_iload_n hX dX12_append_26 (i := 2) rfl rfl ?_
  rw [hI]
  refine v_ishr hX dX12_append_27 ?_
  refine v_i2b hX dX12_append_28 ?_
  refine v_bast hX hKt (by rw [hLt]; exact vp_in_nI hn (by decide)) dX12_append_29 ?_
  rw [nI_clamp (by omega)]
  refine v_aload_n hX dX12_append_30 (i := 0) rfl rfl ?_
  refine v_dup hX dX12_append_31 rfl ?_
  refine v_get hX (ci := 10) (k := 1) (by simp (disch := omega) only [q_K_s_I, q_K_s_J, q_K_s_P, q_K_s_A, q_K_s_B, q_K_s_C, q_K_r_A, q_K_r_B, y_K_n_O, x_K_n_O, y_K_n_A, x_K_n_A, hK, hP]) bc_10 (by decide) (by decide) in_10 w_2_176 dX12_append_32 (mvI (f := 1001) rfl rfl) ?_
  refine v_iconst hX (v := 1) dX12_append_35 (by decide) ?_
  refine v_iadd hX dX12_append_36 ?_
  refine v_putI hX (ci := 10) (k := 1) (f := 1001) (by simp (disch := omega) only [q_K_s_I, q_K_s_J, q_K_s_P, q_K_s_A, q_K_s_B, q_K_s_C, q_K_r_A, q_K_r_B, y_K_n_O, x_K_n_O, y_K_n_A, x_K_n_A, hK, hP]) bc_10 (by decide) (by decide) in_10 tyX12_ok nmX12 w_2_176 (Or.inl rfl) rfl rfl dX12_append_37 rfl rfl ?_
  refine v_iinc hX (v := v + (-8)) (lv' := [(2, .int (v + (-8))), (0, .ref a), (1, .int c)]) dX12_append_40 rfl rfl (by rw [hnL]; decide) rfl ?_
  refine v_goto hX (tgt := 3) dX12_append_43 (by decide) ?_
  refine kk _ ⟨fun b g1 g2 => (i1 b g1 g2).tr ((e_s_A _ _ _ _ g2).tr (e_s_I _ _ _ _ g1)), (by simp (disch := omega) only [q_K_s_I, q_K_s_J, q_K_s_P, q_K_s_A, q_K_s_B, q_K_s_C, q_K_r_A, q_K_r_B, y_K_n_O, x_K_n_O, y_K_n_A, x_K_n_A, hK]), fun f hf => ?_, fun f => ?_, ?_, (by simp (disch := omega) only [q_K_s_I, q_K_s_J, q_K_s_P, q_K_s_A, q_K_s_B, q_K_s_C, q_K_r_A, q_K_r_B, y_K_n_O, x_K_n_O, y_K_n_A, x_K_n_A, hKt]), (by simp (disch := omega) only [q_L_s_I, q_L_s_J, q_L_s_P, q_L_s_A, q_L_s_B, q_L_s_C, q_L_n_O, q_L_r_A, q_L_r_B, y_L_n_A, x_L_n_A, hLt])⟩ (by simp (disch := omega) only [q_P_s_I, q_P_s_J, q_P_s_A, q_P_s_B, q_P_s_C, q_P_n_A, q_P_r_A, q_P_r_B, y_P_s_P, x_P_s_P, y_P_n_O, x_P_n_O, hP])
  · rw [x_I_s_I _ _ _ _ _ _ (Or.inl hf), q_I_s_A]; exact i3 f hf
  · rw [q_P_s_I, q_P_s_A]; exact i4 f
  · rw [y_I_s_I, q_I_s_A, hI]; exact (nI_succ n).symm
set_option maxRecDepth 100000 in
set_option maxHeartbeats 4000000 in
theorem c_AL_append {kn : Nat → Nat} {B : Nat} {S0 S : b_M} {z a t n : Nat} {c : Int32} (i : aInv S0 S a t n) (hP : m_P S 1000 a = some t) (hat : a ≠ t) (hn : n + 4 ≤ 4096) : b_C kn B yX12_append cX12_append 3 none 0 0 0 0 [.ref a, .int c] S z (fun r S' z' => r = none ∧ z' = z ∧ aInv S0 S' a t (n + 4) ∧ m_P S' 1000 a = some t) (fun _ _ _ => False) := by
  refine b_enter (by decide) (Nat.le_of_ble_eq_true rfl) ?_
  intro X hX hE hnL hkn hB hI
  subst hkn; subst hB
  change b_V X S z 0 0 0 [(0, .ref a), (1, .int c)] []
  refine v_bipush hX (v := 24) dX12_append_0 (by decide) ?_
  refine v_istore_n hX (lv' := [(2, .int 24), (0, .ref a), (1, .int c)]) dX12_append_2 (i := 2) rfl (by rw [hnL]; decide) rfl ?_
  refine append_it hX hnL i hP hat (by omega) (by decide) (fun S1 i1 p1 => ?_)
  refine append_it hX hnL i1 p1 hat (by omega) (by decide) (fun S2 i2 p2 => ?_)
  refine append_it hX hnL i2 p2 hat (by omega) (by decide) (fun S3 i3 p3 => ?_)
  refine append_it hX hnL i3 p3 hat (by omega) (by decide) (fun S4 i4 p4 => ?_)
  refine v_iload_n hX dX12_append_3 (i := 2) rfl rfl ?_
  refine v_if_lt hX (tgt := 46) dX12_append_4 (by decide) (fun h => ?_) (fun h => absurd (by decide) h)
  exact v_return hX hE dX12_append_46 (by omega) (by omega) ⟨rfl, rfl, i4, p4⟩
set_option maxRecDepth 100000 in
set_option maxHeartbeats 4000000 in
theorem c_AL_feed {kn : Nat → Nat} {B : Nat} {S : b_M} {z a t n : Nat} {x0 x1 x2 x3 : Int32} (hK : m_K S a = 10) (hP : m_P S 1000 a = some t) (hat : a ≠ t) (hKt : m_K S t = 12) (hLt : m_L S t = 4096) (hN : m_I S 1001 a = nI n) (hn : n ≤ 4096) : b_C kn B yX12_feed cX12_feed 5 (some .int) 6 82 1 6 [.ref a, .int x0, .int x1, .int x2, .int x3] S z (fun r S' z' => n + 16 ≤ 4096 ∧ r = some (.int (nI (n + 16))) ∧ z' = z ∧ aInv S S' a t (n + 16) ∧ m_P S' 1000 a = some t) (fun E S' z' => z ≤ z' ∧ S' = S ∧ E = "java/lang/IllegalStateException" ∧ 4096 < n + 16) := by
  refine b_enter (by decide) (Nat.le_of_ble_eq_true rfl) ?_
  intro X hX hE hnL hkn hB hI
  subst hkn; subst hB
  change b_V X S z 0 0 0 [(0, .ref a), (1, .int x0), (2, .int x1), (3, .int x2), (4, .int x3)] []
  refine v_aload_n hX dX12_feed_0 (i := 0) rfl rfl ?_
  refine v_get hX (ci := 10) (k := 1) (by simp (disch := omega) only [q_K_s_I, q_K_s_J, q_K_s_P, q_K_s_A, q_K_s_B, q_K_s_C, q_K_r_A, q_K_r_B, y_K_n_O, x_K_n_O, y_K_n_A, x_K_n_A, hK]) bc_10 (by decide) (by decide) in_10 w_2_176 dX12_feed_1 (mvI (f := 1001) rfl rfl) ?_
  refine v_bipush hX (v := (16)) dX12_feed_4 (by decide) ?_
  rw [hN]
  refine v_iadd hX dX12_feed_6 ?_
  refine v_sipush hX (v := 4096) dX12_feed_7 (by decide) ?_
  rw [show nI n + (16 : Int32) = nI (n + 16) from nI_add n 16]
  refine v_icmp_le hX (tgt := 23) dX12_feed_10 (by decide) (fun h => ?_) (fun h => ?_)
  · have hle : n + 16 ≤ 4096 := (nI_leI (a := n + 16) (b := 4096) (by omega) (by decide)).mp h
    have i0 : aInv S S a t n := ⟨fun b _ _ => b_eq.rf _ _, hK, fun _ _ => rfl, fun _ => rfl, hN, hKt, hLt⟩
    refine v_aload_n hX dX12_feed_23 (i := 0) rfl rfl ?_
    refine v_iload_n hX dX12_feed_24 (i := 1) rfl rfl ?_
    refine v_callV hX (n := 1) (c_AL_append (S0 := S) (S := S) (a := a) (t := t) (n := n + 0) (c := x0) i0 hP hat (by omega)) (by simp (disch := omega) only [q_K_s_I, q_K_s_J, q_K_s_P, q_K_s_A, q_K_s_B, q_K_s_C, q_K_r_A, q_K_r_B, y_K_n_O, x_K_n_O, y_K_n_A, x_K_n_A, i0.2.1]) bc_10 (by decide) w_3_34 w_3_36 (bw_p (q := (yX12_append, 5)) (List.mem_of_getElem? (i := 1) rfl) rfl) w_1_1 w_3_37 (by decide +kernel) rfl ⟨by decide, by decide⟩ ⟨by omega, by omega⟩ (Nat.le_of_ble_eq_true rfl) rfl dX12_feed_25 (fun _ _ _ h => h) ?_
    rintro r1 S1 z1 ⟨rfl, rfl, i1, p1⟩
    refine v_aload_n hX dX12_feed_28 (i := 0) rfl rfl ?_
    refine v_iload_n hX dX12_feed_29 (i := 2) rfl rfl ?_
    refine v_callV hX (n := 1) (c_AL_append (S0 := S) (S := S1) (a := a) (t := t) (n := n + 4) (c := x1) i1 p1 hat (by omega)) (by simp (disch := omega) only [q_K_s_I, q_K_s_J, q_K_s_P, q_K_s_A, q_K_s_B, q_K_s_C, q_K_r_A, q_K_r_B, y_K_n_O, x_K_n_O, y_K_n_A, x_K_n_A, i1.2.1]) bc_10 (by decide) w_3_34 w_3_36 (bw_p (q := (yX12_append, 5)) (List.mem_of_getElem? (i := 1) rfl) rfl) w_1_1 w_3_37 (by decide +kernel) rfl ⟨by decide, by decide⟩ ⟨by omega, by omega⟩ (Nat.le_of_ble_eq_true rfl) rfl dX12_feed_30 (fun _ _ _ h => h) ?_
    rintro r2 S2 z2 ⟨rfl, rfl, i2, p2⟩
    refine v_aload_n hX dX12_feed_33 (i := 0) rfl rfl ?_
    refine v_iload_n hX dX12_feed_34 (i := 3) rfl rfl ?_
    refine v_callV hX (n := 1) (c_AL_append (S0 := S) (S := S2) (a := a) (t := t) (n := n + 8) (c := x2) i2 p2 hat (by omega)) (by simp (disch := omega) only [q_K_s_I, q_K_s_J, q_K_s_P, q_K_s_A, q_K_s_B, q_K_s_C, q_K_r_A, q_K_r_B, y_K_n_O, x_K_n_O, y_K_n_A, x_K_n_A, i2.2.1]) bc_10 (by decide) w_3_34 w_3_36 (bw_p (q := (yX12_append, 5)) (List.mem_of_getElem? (i := 1) rfl) rfl) w_1_1 w_3_37 (by decide +kernel) rfl ⟨by decide, by decide⟩ ⟨by omega, by omega⟩ (Nat.le_of_ble_eq_true rfl) rfl dX12_feed_35 (fun _ _ _ h => h) ?_
    rintro r3 S3 z3 ⟨rfl, rfl, i3, p3⟩
    refine v_aload_n hX dX12_feed_38 (i := 0) rfl rfl ?_
    refine v_iload hX dX12_feed_39 rfl ?_
    refine v_callV hX (n := 1) (c_AL_append (S0 := S) (S := S3) (a := a) (t := t) (n := n + 12) (c := x3) i3 p3 hat (by omega)) (by simp (disch := omega) only [q_K_s_I, q_K_s_J, q_K_s_P, q_K_s_A, q_K_s_B, q_K_s_C, q_K_r_A, q_K_r_B, y_K_n_O, x_K_n_O, y_K_n_A, x_K_n_A, i3.2.1]) bc_10 (by decide) w_3_34 w_3_36 (bw_p (q := (yX12_append, 5)) (List.mem_of_getElem? (i := 1) rfl) rfl) w_1_1 w_3_37 (by decide +kernel) rfl ⟨by decide, by decide⟩ ⟨by omega, by omega⟩ (Nat.le_of_ble_eq_true rfl) rfl dX12_feed_41 (fun _ _ _ h => h) ?_
    rintro r4 S4 z4 ⟨rfl, rfl, i4, p4⟩
    refine v_aload_n hX dX12_feed_44 (i := 0) rfl rfl ?_
    refine v_get hX (ci := 10) (k := 1) (by simp (disch := omega) only [q_K_s_I, q_K_s_J, q_K_s_P, q_K_s_A, q_K_s_B, q_K_s_C, q_K_r_A, q_K_r_B, y_K_n_O, x_K_n_O, y_K_n_A, x_K_n_A, i4.2.1]) bc_10 (by decide) (by decide) in_10 w_2_176 dX12_feed_45 (mvI (f := 1001) rfl rfl) ?_
    rw [i4.2.2.2.2.1]
    exact v_ireturn hX hE dX12_feed_48 (by omega) (by omega) ⟨hle, rfl, rfl, i4, p4⟩
  · have hlt : 4096 < n + 16 := Nat.not_le.mp (fun q => h ((nI_leI (a := n + 16) (b := 4096) (by omega) (by decide)).mpr q))
    exact v_throw hX hE (cls := "java/lang/IllegalStateException") (text := "the text has no room for sixteen bytes more") (ik := 42) (is := 44) (ic := 46) (by decide +kernel) w_2_207 w_1_20 (List.mem_of_getElem? (i := 0) rfl) (List.mem_of_getElem? (i := 0) rfl) ha_46 hb_46 hg_46_42 dX12_feed_13 dX12_feed_16 dX12_feed_17 dX12_feed_19 dX12_feed_22 (by decide) (Nat.le_of_ble_eq_true rfl) (by omega) (by omega) (fun z' hz => ⟨hz, rfl, rfl, hlt⟩)
