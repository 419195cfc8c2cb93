set_option maxRecDepth 100000 in
set_option maxHeartbeats 4000000 in
theorem c_L_feed {kn : Nat → Nat} {B : Nat} {S : b_M} {z a t n o : Nat} {x0 x1 x2 x3 : Int32} (hK : m_K S a = 10) (hP : m_P S 1000 a = some t) (hat : a ≠ t) (hKt : m_K S t = 12) (hLt : m_L S t = 4096) (hN : m_I S 1001 a = nI n) (hn : n ≤ 4096) (hKo : m_K S o = 14) (hLo : m_L S o = 1) (hoa : o ≠ a) (hot : o ≠ t) : b_CW kn B yL_feed cL_feed 7 (some .int) [(0, 14, 17, 13)] 7 106 1 6 [.ref a, .int x0, .int x1, .int x2, .int x3, .ref o] S z (fun r S' z' => z ≤ z' ∧ ((n + 16 ≤ 4096 ∧ r = some (.int 0) ∧ ∃ S1, aInv S S1 a t (n + 16) ∧ m_P S1 1000 a = some t ∧ S' = s_B S1 o 0 (nI (n + 16)).toInt64) ∨ (4096 < n + 16 ∧ r = some (.int 1) ∧ S' = S))) (fun _ _ _ => False) := by
  refine b_enterW (by decide) (Nat.le_of_ble_eq_true rfl) ?_
  intro X hX hE hnL hkn hB
  subst hkn; subst hB
  change b_V X S z 0 0 0 [(0, .ref a), (1, .int x0), (2, .int x1), (3, .int x2), (4, .int x3), (5, .ref o)] []
  refine v_aload hX dL_feed_0 rfl ?_
  refine v_iconst hX (v := 0) dL_feed_2 (by decide) ?_
  refine v_aload_n hX dL_feed_3 (i := 0) rfl rfl ?_
  refine v_iload_n hX dL_feed_4 (i := 1) rfl rfl ?_
  refine v_iload_n hX dL_feed_5 (i := 2) rfl rfl ?_
  refine v_iload_n hX dL_feed_6 (i := 3) rfl rfl ?_
  refine v_iload hX dL_feed_7 rfl ?_
  refine v_callVX hX (n := 4) (As := [.int x0, .int x1, .int x2, .int x3]) (st := [.int 0, .ref o]) (c_AL_feed hK hP hat hKt hLt hN hn) hK bc_10 (by decide) w_2_203 w_2_204 w_2_205 w_1_1 w_2_206 (by decide +kernel) rfl ⟨by decide, by decide⟩ ⟨by omega, by omega⟩ (Nat.le_of_ble_eq_true rfl) rfl dL_feed_9 ?_ ?_
  · rintro E S1 z1 q ⟨h1, rfl, rfl, h4⟩
    refine v_catch hX hE (name := "java/lang/IllegalStateException") [] _ [] rfl (fun y hy => absurd hy List.not_mem_nil) (by decide) (by decide) w_2_202 (List.mem_of_getElem? (i := 0) rfl) ?_
    refine v_astore hX (lv' := [(6, .ref q), (0, .ref a), (1, .int x0), (2, .int x1), (3, .int x2), (4, .int x3), (5, .ref o)]) dL_feed_17 (by rw [hnL]; decide) rfl ?_
    refine v_iconst hX (v := 1) dL_feed_19 (by decide) ?_
    exact v_ireturnW hX hE dL_feed_20 (by omega) (by omega) ⟨h1, Or.inr ⟨h4, rfl, rfl⟩⟩
  · rintro r S1 z1 ⟨h1, rfl, h3, h4, h5⟩
    have eo := h4.1 o hoa hot
    refine v_i2l hX dL_feed_12 ?_
    refine v_last hX (eo.1.trans hKo) (by rw [eo.2.2.2.2.1, hLo]; unfold vp_in; decide) dL_feed_13 ?_
    refine v_goto hX (tgt := 21) dL_feed_14 (by decide) ?_
    refine v_iconst hX (v := 0) dL_feed_21 (by decide) ?_
    exact v_ireturnW hX hE dL_feed_22 (by omega) (by omega) ⟨by omega, Or.inl ⟨h1, rfl, S1, h4, h5, rfl⟩⟩
