set_option maxRecDepth 100000 in
set_option maxHeartbeats 40000000 in
theorem k_findForms {kn : Nat → Nat} {B : Nat} {S : b_M} {z x : Nat} {st_ : Int} {wt : Int} {se : Int} {ex : Int} {ps : Int} (h : mS S x) (e_st_ : m_I S 1128 x = iI st_) (b_st_ : -2147483648 ≤ st_ ∧ st_ < 2147483648) (e_wt : m_I S 1163 x = iI wt) (b_wt : -2147483648 ≤ wt ∧ wt < 2147483648) (so : sOk S x se) (eo : eOk S x ex ps) (sk : stOk S x st_ ex) (wz : ∀ j : Int, 0 ≤ j → j < 400 → rAt S (x + 39) j = 0) (p : wt = 0 ∨ wt = 1) : b_C kn B yX13_findForms cX13_findForms 3 none 7 156 0 0 [.ref x] S z (fun r S' z' => z = z' ∧ mFr [1158, 1160, 1164, 1162] [] [26, 25, 39] S S' x ∧ ∃ e1 : Int, r = none ∧ m_I S' 1160 x = iI e1 ∧ (-2147483648 ≤ e1 ∧ e1 < 2147483648) ∧ (True) ∧ (stOk S' x st_ ex) ∧ (e1 = ws S' x st_ + lc S' x st_)) (fun _ _ _ => False) := by
  refine b_enter (by decide) (Nat.le_of_ble_eq_true rfl) ?_
  intro X hX hE hnL hkn hB hI_
  subst hkn; subst hB
  clear hI_
  have L7 := k_findForms_L7 (S := S) (z := z) (x := x) (st_ := st_) (wt := wt) (se := se) (ex := ex) (ps := ps) h e_st_ b_st_ e_wt b_wt so eo sk wz p hX hE hnL
  change b_V X S z 0 0 0 [(0, .ref x)] []
  have sk1_ := sk.1
  have zb_ := zcn_b S x st_.toNat
  have zb1_ : zc (s_I S 1158 x (iI 0)) x st_ = zcn S x st_.toNat := zc_sI
  refine v_iconst hX (v := iI 1) dX13_findForms_0 rfl ?_
  refine v_istore_n hX (lv' := [(1, .int (iI 1)), (0, .ref x)]) dX13_findForms_1 (i := 1) rfl (by rw [hnL]; decide) rfl ?_
  refine v_aload_n hX dX13_findForms_2 (i := 0) rfl rfl ?_
  refine v_iconst hX (v := iI 0) dX13_findForms_3 rfl ?_
  refine v_putI hX (ci := 11) (k := 58) (f := 1158) (ms_kx h) bc_11 (by decide) (by decide) in_11 tyX13_ok nmX13 w_6_34 (Or.inl rfl) rfl rfl dX13_findForms_4 rfl rfl ?_
  obtain ⟨v18_, e_v18_, b_v18_⟩ := i_ex (m_I S 1160 x)
  exact L7 _ _ 0 v18_ 1 ((mFr.rf _ _).sI (by decide)) (by simp (disch := omega) only [y_I_s_I, x_I_s_I, z_I_s_J, z_I_s_A, z_I_s_B, e_st_, e_wt, e_v18_]) (by simp (disch := omega) only [y_I_s_I, x_I_s_I, z_I_s_J, z_I_s_A, z_I_s_B, e_st_, e_wt, e_v18_]) ⟨by omega, by omega⟩ ⟨by omega, by omega⟩ (by omega) (stOk.sI sk) (fun j a b c => absurd (wz j a (by omega)) c) (fun g => absurd g (by decide)) rfl
