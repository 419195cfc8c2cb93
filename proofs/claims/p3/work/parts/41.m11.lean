/-- nothing but the row of the array t has changed -/
def fInv (S S' : b_M) (t : Nat) : Prop := (∀ b, b ≠ t → b_eq S S' b) ∧ m_K S' t = 13 ∧ m_L S' t = 4200
set_option maxRecDepth 100000 in
set_option maxHeartbeats 4000000 in
theorem mfeed_tail {X : b_T} {fr lo mc ms : Nat} (hX : b_X X cX13_feed RX13 fr lo mc ms) (hnL : b_n X = 7) {S0 S : b_M} {z ce sl a t n k : Nat} {x0 x1 x2 x3 w : Int32} (i : fInv S0 S t) (hat : a ≠ t) (hK0 : m_K S0 a = 11) (hP0 : m_P S0 1104 a = some t) (hN0 : m_I S0 1103 a = nI n) (hn : n + 16 ≤ 4096) (hk : k < 16) (kk : ∀ S1, fInv S0 S1 t → b_V X S1 z ce sl 27 [(5, .int (nI (k + 1))), (0, .ref a), (1, .int x0), (2, .int x1), (3, .int x2), (4, .int x3)] []) : b_V X S z ce sl 68 [(5, .int (nI k)), (0, .ref a), (1, .int x0), (2, .int x1), (3, .int x2), (4, .int x3)] [.int w] := by
  obtain ⟨i1, i2, i3⟩ := i
  have e := i1 a hat
  have hK : m_K S a = 11 := e.1.trans hK0
  have hP : m_P S 1104 a = some t := (e.2.2.2.1 _).trans hP0
  have hN : m_I S 1103 a = nI n := (e.2.1 _).trans hN0
  refine v_istore hX (lv' := [(6, .int w), (5, .int (nI k)), (0, .ref a), (1, .int x0), (2, .int x1), (3, .int x2), (4, .int x3)]) dX13_feed_68 (by rw [hnL]; decide) rfl ?_
  refine v_aload_n hX dX13_feed_70 (i := 0) rfl rfl ?_
  refine v_get hX (ci := 11) (k := 4) (by simp (disch := omega) only [q_K_s_I, q_K_s_J, q_K_s_P, q_K_s_A, q_K_s_B, q_K_s_C, q_K_r_A, q_K_r_B, y_K_n_O, x_K_n_O, y_K_n_A, x_K_n_A, hK, hP]) bc_11 (by decide) (by decide) in_11 w_5_220 dX13_feed_71 (mvP (f := 1104) (q := t) rfl rfl (by simp (disch := omega) only [q_P_s_I, q_P_s_J, q_P_s_A, q_P_s_B, q_P_s_C, q_P_n_A, q_P_r_A, q_P_r_B, y_P_s_P, x_P_s_P, y_P_n_O, x_P_n_O, hK, hP])) ?_
  refine v_aload_n hX dX13_feed_74 (i := 0) rfl rfl ?_
  refine v_get hX (ci := 11) (k := 3) (by simp (disch := omega) only [q_K_s_I, q_K_s_J, q_K_s_P, q_K_s_A, q_K_s_B, q_K_s_C, q_K_r_A, q_K_r_B, y_K_n_O, x_K_n_O, y_K_n_A, x_K_n_A, hK, hP]) bc_11 (by decide) (by decide) in_11 w_5_219 dX13_feed_75 (mvI (f := 1103) rfl rfl) ?_
  refine v_iload hX dX13_feed_78 rfl ?_
  rw [hN]
  refine v_iadd hX dX13_feed_80 ?_
  rw [nI_add]
  refine v_iload hX dX13_feed_81 rfl ?_
  refine v_bipush hX (v := 24) dX13_feed_83 (by decide) ?_
  refine v_bipush hX (v := 8) dX13_feed_85 (by decide) ?_
  refine v_iload hX dX13_feed_87 rfl ?_
  refine v_iconst hX (v := 4) dX13_feed_89 (by decide) ?_
  refine v_irem hX dX13_feed_90 (by decide) ?_
  refine v_imul hX dX13_feed_91 ?_
  refine v_isub hX dX13_feed_92 ?_
  refine v_ishr hX dX13_feed_93 ?_
  refine v_sipush hX (v := 255) dX13_feed_94 (by decide) ?_
  refine v_iand hX dX13_feed_97 ?_
  refine v_iast hX i2 (by rw [i3]; exact vp_in_nI (by omega) (by decide)) dX13_feed_98 ?_
  refine v_iinc hX (v := nI (k + 1)) (lv' := [(5, .int (nI (k + 1))), (6, .int w), (0, .ref a), (1, .int x0), (2, .int x1), (3, .int x2), (4, .int x3)]) dX13_feed_99 rfl (nI_succ k).symm (by rw [hnL]; decide) rfl ?_
  refine v_goto hX (tgt := 27) dX13_feed_102 (by decide) ?_
  refine v_locals (lv' := [(5, .int (nI (k + 1))), (0, .ref a), (1, .int x0), (2, .int x1), (3, .int x2), (4, .int x3)]) (by simp) ?_
  exact kk _ ⟨fun b g => (i1 b g).tr (e_s_A _ _ _ _ g), i2, i3⟩
theorem mfeed_loop {X : b_T} {fr lo mc ms : Nat} (hX : b_X X cX13_feed RX13 fr lo mc ms) (hnL : b_n X = 7) {S0 : b_M} {z ce sl a t n : Nat} {x0 x1 x2 x3 : Int32} (hat : a ≠ t) (hK0 : m_K S0 a = 11) (hP0 : m_P S0 1104 a = some t) (hN0 : m_I S0 1103 a = nI n) (hn : n + 16 ≤ 4096) (kk : ∀ S1, fInv S0 S1 t → b_V X S1 z ce sl 105 [(5, .int (nI 16)), (0, .ref a), (1, .int x0), (2, .int x1), (3, .int x2), (4, .int x3)] []) :
    ∀ (j k : Nat) (S : b_M), k + j = 16 → fInv S0 S t → b_V X S z ce sl 27 [(5, .int (nI k)), (0, .ref a), (1, .int x0), (2, .int x1), (3, .int x2), (4, .int x3)] [] := by
  intro j
  induction j with
  | zero =>
    intro k S h1 i
    have e : k = 16 := by omega
    subst e
    refine v_iload hX dX13_feed_27 rfl ?_
    refine v_bipush hX (v := nI 16) dX13_feed_29 (by decide) ?_
    refine v_icmp_ge hX (tgt := 105) dX13_feed_31 (by decide) (fun _ => kk S i) (fun h => absurd (Int32.le_refl _) h)
  | succ j ih =>
    intro k S h1 i
    have tail : ∀ w : Int32, b_V X S z ce sl 68 [(5, .int (nI k)), (0, .ref a), (1, .int x0), (2, .int x1), (3, .int x2), (4, .int x3)] [.int w] := fun w => mfeed_tail hX hnL i hat hK0 hP0 hN0 hn (by omega) (fun S1 i1 => ih (k + 1) S1 (by omega) i1)
    refine v_iload hX dX13_feed_27 rfl ?_
    refine v_bipush hX (v := nI 16) dX13_feed_29 (by decide) ?_
    refine v_icmp_ge hX (tgt := 105) dX13_feed_31 (by decide) (fun h => absurd h (nI_ge (by omega) (by decide))) (fun _ => ?_)
    refine v_iload hX dX13_feed_34 rfl ?_
    refine v_iconst hX (v := 4) dX13_feed_36 (by decide) ?_
    refine v_icmp_ge hX (tgt := 44) dX13_feed_37 (by decide) (fun _ => ?_) (fun _ => ?_)
    · refine v_iload hX dX13_feed_44 rfl ?_
      refine v_bipush hX (v := 8) dX13_feed_46 (by decide) ?_
      refine v_icmp_ge hX (tgt := 55) dX13_feed_48 (by decide) (fun _ => ?_) (fun _ => ?_)
      · refine v_iload hX dX13_feed_55 rfl ?_
        refine v_bipush hX (v := 12) dX13_feed_57 (by decide) ?_
        refine v_icmp_ge hX (tgt := 66) dX13_feed_59 (by decide) (fun _ => ?_) (fun _ => ?_)
        · refine v_iload hX dX13_feed_66 rfl ?_
          exact tail _
        · refine v_iload_n hX dX13_feed_62 (i := 3) rfl rfl ?_
          exact v_goto hX (tgt := 68) dX13_feed_63 (by decide) (tail _)
      · refine v_iload_n hX dX13_feed_51 (i := 2) rfl rfl ?_
        exact v_goto hX (tgt := 68) dX13_feed_52 (by decide) (tail _)
    · refine v_iload_n hX dX13_feed_40 (i := 1) rfl rfl ?_
      exact v_goto hX (tgt := 68) dX13_feed_41 (by decide) (tail _)
set_option maxRecDepth 100000 in
set_option maxHeartbeats 4000000 in
theorem c_M_feed {kn : Nat → Nat} {B : Nat} {S : b_M} {z a t n : Nat} {x0 x1 x2 x3 : Int32} (hK : m_K S a = 11) (hP : m_P S 1104 a = some t) (hat : a ≠ t) (hKt : m_K S t = 13) (hLt : m_L S t = 4200) (hN : m_I S 1103 a = nI n) (hn : n ≤ 4096) : b_C kn B yX13_feed cX13_feed 7 (some .int) 1 22 0 0 [.ref a, .int x0, .int x1, .int x2, .int x3] S z (fun r S' z' => z' = z ∧ ((4096 < n + 16 ∧ r = some (.int 0) ∧ S' = s_I (s_I S 1102 a 0) 1102 a 1) ∨ (n + 16 ≤ 4096 ∧ r = some (.int (nI (n + 16))) ∧ ∃ S1, fInv (s_I S 1102 a 0) S1 t ∧ S' = s_I S1 1103 a (nI (n + 16))))) (fun _ _ _ => False) := by
  refine b_enter (by decide) (Nat.le_of_ble_eq_true rfl) ?_
  intro X hX hE hnL hkn hB hI
  subst hkn; subst hB
  change b_V X S z 0 0 0 [(0, .ref a), (1, .int x0), (2, .int x1), (3, .int x2), (4, .int x3)] []
  refine v_aload_n hX dX13_feed_0 (i := 0) rfl rfl ?_
  refine v_iconst hX (v := (0)) dX13_feed_1 (by decide) ?_
  refine v_putI hX (ci := 11) (k := 2) (f := 1102) (by simp (disch := omega) only [q_K_s_I, q_K_s_J, q_K_s_P, q_K_s_A, q_K_s_B, q_K_s_C, q_K_r_A, q_K_r_B, y_K_n_O, x_K_n_O, y_K_n_A, x_K_n_A, hK]) bc_11 (by decide) (by decide) in_11 tyX13_ok nmX13 w_5_218 (Or.inl rfl) rfl rfl dX13_feed_2 rfl rfl ?_
  refine v_aload_n hX dX13_feed_5 (i := 0) rfl rfl ?_
  refine v_get hX (ci := 11) (k := 3) (by simp (disch := omega) only [q_K_s_I, q_K_s_J, q_K_s_P, q_K_s_A, q_K_s_B, q_K_s_C, q_K_r_A, q_K_r_B, y_K_n_O, x_K_n_O, y_K_n_A, x_K_n_A, hK]) bc_11 (by decide) (by decide) in_11 w_5_219 dX13_feed_6 (mvI (f := 1103) rfl rfl) ?_
  refine v_bipush hX (v := (16)) dX13_feed_9 (by decide) ?_
  rw [x_I_s_I _ _ _ _ _ _ (Or.inl (by decide)), hN]
  refine v_iadd hX dX13_feed_11 ?_
  refine v_sipush hX (v := 4096) dX13_feed_12 (by decide) ?_
  rw [show nI n + (16 : Int32) = nI (n + 16) from nI_add n 16]
  refine v_icmp_le hX (tgt := 24) dX13_feed_15 (by decide) (fun h => ?_) (fun h => ?_)
  · have hle : n + 16 ≤ 4096 := (nI_leI (a := n + 16) (b := 4096) (by omega) (by decide)).mp h
    refine v_iconst hX (v := nI 0) dX13_feed_24 (by decide) ?_
    refine v_istore hX (lv' := [(5, .int (nI 0)), (0, .ref a), (1, .int x0), (2, .int x1), (3, .int x2), (4, .int x3)]) dX13_feed_25 (by rw [hnL]; decide) rfl ?_
    refine mfeed_loop hX hnL hat (by simp (disch := omega) only [q_K_s_I, q_K_s_J, q_K_s_P, q_K_s_A, q_K_s_B, q_K_s_C, q_K_r_A, q_K_r_B, y_K_n_O, x_K_n_O, y_K_n_A, x_K_n_A, hK]) (by simp (disch := omega) only [q_P_s_I, q_P_s_J, q_P_s_A, q_P_s_B, q_P_s_C, q_P_n_A, q_P_r_A, q_P_r_B, y_P_s_P, x_P_s_P, y_P_n_O, x_P_n_O, hP]) (by rw [x_I_s_I _ _ _ _ _ _ (Or.inl (by decide))]; exact hN) hle (fun S1 i1 => ?_) 16 0 _ rfl ⟨fun b _ => b_eq.rf _ _, (by simp (disch := omega) only [q_K_s_I, q_K_s_J, q_K_s_P, q_K_s_A, q_K_s_B, q_K_s_C, q_K_r_A, q_K_r_B, y_K_n_O, x_K_n_O, y_K_n_A, x_K_n_A, hKt]), (by simp (disch := omega) only [q_L_s_I, q_L_s_J, q_L_s_P, q_L_s_A, q_L_s_B, q_L_s_C, q_L_n_O, q_L_r_A, q_L_r_B, y_L_n_A, x_L_n_A, hLt])⟩
    have e := i1.1 a hat
    have k1 : m_K S1 a = 11 := e.1.trans (by simp (disch := omega) only [q_K_s_I, q_K_s_J, q_K_s_P, q_K_s_A, q_K_s_B, q_K_s_C, q_K_r_A, q_K_r_B, y_K_n_O, x_K_n_O, y_K_n_A, x_K_n_A, hK])
    have n1 : m_I S1 1103 a = nI n := (e.2.1 _).trans (by rw [x_I_s_I _ _ _ _ _ _ (Or.inl (by decide))]; exact hN)
    refine v_aload_n hX dX13_feed_105 (i := 0) rfl rfl ?_
    refine v_dup hX dX13_feed_106 rfl ?_
    refine v_get hX (ci := 11) (k := 3) (by simp (disch := omega) only [q_K_s_I, q_K_s_J, q_K_s_P, q_K_s_A, q_K_s_B, q_K_s_C, q_K_r_A, q_K_r_B, y_K_n_O, x_K_n_O, y_K_n_A, x_K_n_A, k1]) bc_11 (by decide) (by decide) in_11 w_5_219 dX13_feed_107 (mvI (f := 1103) rfl rfl) ?_
    refine v_bipush hX (v := (16)) dX13_feed_110 (by decide) ?_
    refine v_iadd hX dX13_feed_112 ?_
    refine v_putI hX (ci := 11) (k := 3) (f := 1103) (by simp (disch := omega) only [q_K_s_I, q_K_s_J, q_K_s_P, q_K_s_A, q_K_s_B, q_K_s_C, q_K_r_A, q_K_r_B, y_K_n_O, x_K_n_O, y_K_n_A, x_K_n_A, k1]) bc_11 (by decide) (by decide) in_11 tyX13_ok nmX13 w_5_219 (Or.inl rfl) rfl rfl dX13_feed_113 rfl rfl ?_
    refine v_aload_n hX dX13_feed_116 (i := 0) rfl rfl ?_
    refine v_get hX (ci := 11) (k := 3) (by simp (disch := omega) only [q_K_s_I, q_K_s_J, q_K_s_P, q_K_s_A, q_K_s_B, q_K_s_C, q_K_r_A, q_K_r_B, y_K_n_O, x_K_n_O, y_K_n_A, x_K_n_A, k1]) bc_11 (by decide) (by decide) in_11 w_5_219 dX13_feed_117 (mvI (f := 1103) rfl rfl) ?_
    refine v_ireturn hX hE dX13_feed_120 (by omega) (by omega) ⟨rfl, Or.inr ⟨hle, ?_, S1, i1, ?_⟩⟩
    · rw [y_I_s_I, n1, show nI n + (16 : Int32) = nI (n + 16) from nI_add n 16]
    · rw [n1, show nI n + (16 : Int32) = nI (n + 16) from nI_add n 16]
  · have hlt : 4096 < n + 16 := Nat.not_le.mp (fun q => h ((nI_leI (a := n + 16) (b := 4096) (by omega) (by decide)).mpr q))
    refine v_aload_n hX dX13_feed_18 (i := 0) rfl rfl ?_
    refine v_iconst hX (v := (1)) dX13_feed_19 (by decide) ?_
    refine v_callV hX (n := 1) (c_M_fail (S := s_I S 1102 a 0) (c := 1) (by simp (disch := omega) only [q_K_s_I, q_K_s_J, q_K_s_P, q_K_s_A, q_K_s_B, q_K_s_C, q_K_r_A, q_K_r_B, y_K_n_O, x_K_n_O, y_K_n_A, x_K_n_A, hK])) (by simp (disch := omega) only [q_K_s_I, q_K_s_J, q_K_s_P, q_K_s_A, q_K_s_B, q_K_s_C, q_K_r_A, q_K_r_B, y_K_n_O, x_K_n_O, y_K_n_A, x_K_n_A, hK]) bc_11 (by decide) w_6_202 w_6_204 (bw_p (q := (yX13_fail, 72)) (List.mem_of_getElem? (i := 40) rfl) rfl) w_1_16 w_6_205 (by decide +kernel) rfl ⟨by decide, by decide⟩ ⟨by omega, by omega⟩ (Nat.le_of_ble_eq_true rfl) rfl dX13_feed_20 (fun _ _ _ h => h) ?_
    rintro r2 S2 z2 ⟨rfl, rfl, rfl⟩
    exact v_ireturn hX hE dX13_feed_23 (by omega) (by omega) ⟨rfl, Or.inl ⟨hlt, rfl, rfl⟩⟩
