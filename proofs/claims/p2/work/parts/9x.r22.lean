theorem tI.z {S : b_M} {x : Nat} (so : sOk S x 0) : tI S x 0 0 0 0 0 0 0 := ⟨by omega, so, ⟨by omega, fun e a b => absurd b (by omega)⟩, ⟨by omega, fun e a b => absurd b (by omega)⟩, rfl, ⟨by omega, fun e a b => absurd b (by omega)⟩, fun e a b => absurd b (by omega)⟩
def lb (S : b_M) (x : Nat) (i : Int) : Int := lbn S x i.toNat
theorem lb_s {S : b_M} {x : Nat} {i : Int} (h : 0 ≤ i) : (0 < lAt S (x + 24) i ∧ lb S x (i + 1) = lb S x i + 1) ∨ (¬ 0 < lAt S (x + 24) i ∧ lb S x (i + 1) = lb S x i) := by
  have e : lb S x (i + 1) = lb S x i + (if 0 < lAt S (x + 24) i then 1 else 0) := by
    unfold lb
    rw [show (i + 1).toNat = i.toNat + 1 by omega]
    show lbn S x i.toNat + (if 0 < lAt S (x + 24) ((i.toNat : Nat) : Int) then 1 else 0) = _
    rw [show ((i.toNat : Nat) : Int) = i by omega]
  by_cases c : 0 < lAt S (x + 24) i
  · exact Or.inl ⟨c, by rw [e, if_pos c]⟩
  · exact Or.inr ⟨c, by rw [e, if_neg c]; omega⟩
theorem lb_0 {S : b_M} {x : Nat} {i : Int} (h : i ≤ 0) : lb S x i = 0 := by
  unfold lb
  rw [show i.toNat = 0 by omega]
  rfl
set_option maxRecDepth 100000 in
set_option maxHeartbeats 40000000 in
theorem k_forget {kn : Nat → Nat} {B : Nat} {S : b_M} {z x : Nat} (h : mS S x) : b_C kn B yX13_forget cX13_forget 2 none 0 0 0 0 [.ref x] S z (fun r S' z' => z = z' ∧ mFr [1112, 1113, 1114, 1120, 1128, 1139, 1140, 1141, 1148, 1157, 1158, 1159, 1168, 1169] [] [35, 39] S S' x ∧ ∃ o0 o1 o2 o3 o4 o5 o6 o7 o8 o9 o10 o11 o12 o13 : Int, r = none ∧ m_I S' 1112 x = iI o0 ∧ (-2147483648 ≤ o0 ∧ o0 < 2147483648) ∧ m_I S' 1113 x = iI o1 ∧ (-2147483648 ≤ o1 ∧ o1 < 2147483648) ∧ m_I S' 1114 x = iI o2 ∧ (-2147483648 ≤ o2 ∧ o2 < 2147483648) ∧ m_I S' 1120 x = iI o3 ∧ (-2147483648 ≤ o3 ∧ o3 < 2147483648) ∧ m_I S' 1128 x = iI o4 ∧ (-2147483648 ≤ o4 ∧ o4 < 2147483648) ∧ m_I S' 1139 x = iI o5 ∧ (-2147483648 ≤ o5 ∧ o5 < 2147483648) ∧ m_I S' 1140 x = iI o6 ∧ (-2147483648 ≤ o6 ∧ o6 < 2147483648) ∧ m_I S' 1141 x = iI o7 ∧ (-2147483648 ≤ o7 ∧ o7 < 2147483648) ∧ m_I S' 1148 x = iI o8 ∧ (-2147483648 ≤ o8 ∧ o8 < 2147483648) ∧ m_I S' 1157 x = iI o9 ∧ (-2147483648 ≤ o9 ∧ o9 < 2147483648) ∧ m_I S' 1158 x = iI o10 ∧ (-2147483648 ≤ o10 ∧ o10 < 2147483648) ∧ m_I S' 1159 x = iI o11 ∧ (-2147483648 ≤ o11 ∧ o11 < 2147483648) ∧ m_I S' 1168 x = iI o12 ∧ (-2147483648 ≤ o12 ∧ o12 < 2147483648) ∧ m_I S' 1169 x = iI o13 ∧ (-2147483648 ≤ o13 ∧ o13 < 2147483648) ∧ (o0 = 0 ∧ o1 = 0 ∧ o2 = 0 ∧ o3 = 0 ∧ o4 = 0 ∧ o5 = 0 ∧ o6 = 0 ∧ o7 = 0 ∧ o8 = 0 ∧ o9 = 0 ∧ o10 = 0 ∧ o11 = 0 ∧ o12 = 0 ∧ o13 = 0) ∧ (sOk S' x 0) ∧ (∀ j : Int, 0 ≤ j → j < 400 → rAt S' (x + 39) j = 0)) (fun _ _ _ => False) := by
  refine b_enter (by decide) (Nat.le_of_ble_eq_true rfl) ?_
  intro X hX hE hnL hkn hB hI_
  subst hkn; subst hB
  clear hI_
  have L94 : ∀ (n94 : Nat) (S94c : b_M) (g0 : Int) (g1 : Int) (g2 : Int) (g3 : Int) (g4 : Int) (g5 : Int) (g6 : Int) (g7 : Int) (g8 : Int) (g9 : Int) (g10 : Int) (g11 : Int) (g12 : Int) (g13 : Int) (i : Int), mFr [1112, 1113, 1114, 1120, 1128, 1139, 1140, 1141, 1148, 1157, 1158, 1159, 1168, 1169] [] [35, 39] S S94c x → m_I S94c 1112 x = iI g0 → m_I S94c 1113 x = iI g1 → m_I S94c 1114 x = iI g2 → m_I S94c 1120 x = iI g3 → m_I S94c 1128 x = iI g4 → m_I S94c 1139 x = iI g5 → m_I S94c 1140 x = iI g6 → m_I S94c 1141 x = iI g7 → m_I S94c 1148 x = iI g8 → m_I S94c 1157 x = iI g9 → m_I S94c 1158 x = iI g10 → m_I S94c 1159 x = iI g11 → m_I S94c 1168 x = iI g12 → m_I S94c 1169 x = iI g13 → (-2147483648 ≤ g0 ∧ g0 < 2147483648) → (-2147483648 ≤ g1 ∧ g1 < 2147483648) → (-2147483648 ≤ g2 ∧ g2 < 2147483648) → (-2147483648 ≤ g3 ∧ g3 < 2147483648) → (-2147483648 ≤ g4 ∧ g4 < 2147483648) → (-2147483648 ≤ g5 ∧ g5 < 2147483648) → (-2147483648 ≤ g6 ∧ g6 < 2147483648) → (-2147483648 ≤ g7 ∧ g7 < 2147483648) → (-2147483648 ≤ g8 ∧ g8 < 2147483648) → (-2147483648 ≤ g9 ∧ g9 < 2147483648) → (-2147483648 ≤ g10 ∧ g10 < 2147483648) → (-2147483648 ≤ g11 ∧ g11 < 2147483648) → (-2147483648 ≤ g12 ∧ g12 < 2147483648) → (-2147483648 ≤ g13 ∧ g13 < 2147483648) → (g0 = 0 ∧ g1 = 0 ∧ g2 = 0 ∧ g3 = 0 ∧ g4 = 0 ∧ g5 = 0 ∧ g6 = 0 ∧ g7 = 0 ∧ g8 = 0 ∧ g9 = 0 ∧ g10 = 0 ∧ g11 = 0 ∧ g12 = 0 ∧ g13 = 0 ∧ 0 ≤ i ∧ i ≤ 400) → (∀ j : Int, 0 ≤ j → j < 1021 → rAt S94c (x + 35) j = -1) → (∀ j : Int, 0 ≤ j → j < i → rAt S94c (x + 39) j = 0) → (400 - i).toNat = n94 → b_V X S94c z 0 0 94 [(1, .int (iI i)), (0, .ref x)] [] := by
    intro n94
    induction n94 using Nat.strongRecOn with
    | _ n94 ih94 =>
    intro S94c g0 g1 g2 g3 g4 g5 g6 g7 g8 g9 g10 g11 g12 g13 i fr94 e_g0 e_g1 e_g2 e_g3 e_g4 e_g5 e_g6 e_g7 e_g8 e_g9 e_g10 e_g11 e_g12 e_g13 b_g0 b_g1 b_g2 b_g3 b_g4 b_g5 b_g6 b_g7 b_g8 b_g9 b_g10 b_g11 b_g12 b_g13 p94_0 p94_1 p94_2 hm94
    have h94c : mS S94c x := fr94.keep h
    refine v_iload_n hX dX13_forget_94 (i := 1) rfl rfl ?_
    refine v_sipush hX (v := iI 400) dX13_forget_95 (by decide) ?_
    refine u_icmp_ge hX (tgt := 114) dX13_forget_98 (by decide) ⟨by omega, by omega⟩ ⟨by omega, by omega⟩ (fun h1_ => ?_) (fun h1_ => ?_)
    ·
      exact v_return hX hE dX13_forget_114 (by omega) (by omega) ⟨rfl, fr94, g0, g1, g2, g3, g4, g5, g6, g7, g8, g9, g10, g11, g12, g13, rfl, (by simp (disch := omega) only [y_I_s_I, x_I_s_I, z_I_s_J, z_I_s_A, z_I_s_B, e_g0, e_g1, e_g2, e_g3, e_g4, e_g5, e_g6, e_g7, e_g8, e_g9, e_g10, e_g11, e_g12, e_g13]), ⟨by omega, by omega⟩, (by simp (disch := omega) only [y_I_s_I, x_I_s_I, z_I_s_J, z_I_s_A, z_I_s_B, e_g0, e_g1, e_g2, e_g3, e_g4, e_g5, e_g6, e_g7, e_g8, e_g9, e_g10, e_g11, e_g12, e_g13]), ⟨by omega, by omega⟩, (by simp (disch := omega) only [y_I_s_I, x_I_s_I, z_I_s_J, z_I_s_A, z_I_s_B, e_g0, e_g1, e_g2, e_g3, e_g4, e_g5, e_g6, e_g7, e_g8, e_g9, e_g10, e_g11, e_g12, e_g13]), ⟨by omega, by omega⟩, (by simp (disch := omega) only [y_I_s_I, x_I_s_I, z_I_s_J, z_I_s_A, z_I_s_B, e_g0, e_g1, e_g2, e_g3, e_g4, e_g5, e_g6, e_g7, e_g8, e_g9, e_g10, e_g11, e_g12, e_g13]), ⟨by omega, by omega⟩, (by simp (disch := omega) only [y_I_s_I, x_I_s_I, z_I_s_J, z_I_s_A, z_I_s_B, e_g0, e_g1, e_g2, e_g3, e_g4, e_g5, e_g6, e_g7, e_g8, e_g9, e_g10, e_g11, e_g12, e_g13]), ⟨by omega, by omega⟩, (by simp (disch := omega) only [y_I_s_I, x_I_s_I, z_I_s_J, z_I_s_A, z_I_s_B, e_g0, e_g1, e_g2, e_g3, e_g4, e_g5, e_g6, e_g7, e_g8, e_g9, e_g10, e_g11, e_g12, e_g13]), ⟨by omega, by omega⟩, (by simp (disch := omega) only [y_I_s_I, x_I_s_I, z_I_s_J, z_I_s_A, z_I_s_B, e_g0, e_g1, e_g2, e_g3, e_g4, e_g5, e_g6, e_g7, e_g8, e_g9, e_g10, e_g11, e_g12, e_g13]), ⟨by omega, by omega⟩, (by simp (disch := omega) only [y_I_s_I, x_I_s_I, z_I_s_J, z_I_s_A, z_I_s_B, e_g0, e_g1, e_g2, e_g3, e_g4, e_g5, e_g6, e_g7, e_g8, e_g9, e_g10, e_g11, e_g12, e_g13]), ⟨by omega, by omega⟩, (by simp (disch := omega) only [y_I_s_I, x_I_s_I, z_I_s_J, z_I_s_A, z_I_s_B, e_g0, e_g1, e_g2, e_g3, e_g4, e_g5, e_g6, e_g7, e_g8, e_g9, e_g10, e_g11, e_g12, e_g13]), ⟨by omega, by omega⟩, (by simp (disch := omega) only [y_I_s_I, x_I_s_I, z_I_s_J, z_I_s_A, z_I_s_B, e_g0, e_g1, e_g2, e_g3, e_g4, e_g5, e_g6, e_g7, e_g8, e_g9, e_g10, e_g11, e_g12, e_g13]), ⟨by omega, by omega⟩, (by simp (disch := omega) only [y_I_s_I, x_I_s_I, z_I_s_J, z_I_s_A, z_I_s_B, e_g0, e_g1, e_g2, e_g3, e_g4, e_g5, e_g6, e_g7, e_g8, e_g9, e_g10, e_g11, e_g12, e_g13]), ⟨by omega, by omega⟩, (by simp (disch := omega) only [y_I_s_I, x_I_s_I, z_I_s_J, z_I_s_A, z_I_s_B, e_g0, e_g1, e_g2, e_g3, e_g4, e_g5, e_g6, e_g7, e_g8, e_g9, e_g10, e_g11, e_g12, e_g13]), ⟨by omega, by omega⟩, (by simp (disch := omega) only [y_I_s_I, x_I_s_I, z_I_s_J, z_I_s_A, z_I_s_B, e_g0, e_g1, e_g2, e_g3, e_g4, e_g5, e_g6, e_g7, e_g8, e_g9, e_g10, e_g11, e_g12, e_g13]), ⟨by omega, by omega⟩, (by simp (disch := omega) only [y_I_s_I, x_I_s_I, z_I_s_J, z_I_s_A, z_I_s_B, e_g0, e_g1, e_g2, e_g3, e_g4, e_g5, e_g6, e_g7, e_g8, e_g9, e_g10, e_g11, e_g12, e_g13]), ⟨by omega, by omega⟩, (by omega), ⟨by omega, fun i a b => by have := p94_1 i a b; omega, fun i a b => absurd b (by omega)⟩, (fun j a b => p94_2 j a (by omega))⟩
    ·
      refine v_aload_n hX dX13_forget_101 (i := 0) rfl rfl ?_
      refine v_get hX (ci := 11) (k := 71) (ms_kx h94c) bc_11 (by decide) (by decide) in_11 w_6_47 dX13_forget_102 (mvP (f := 1171) (q := (x + 39)) rfl rfl (ms_p_1171 h94c)) ?_
      refine v_iload_n hX dX13_forget_105 (i := 1) rfl rfl ?_
      refine v_iconst hX (v := iI 0) dX13_forget_106 rfl ?_
      refine u_zast hX (L := 400) (ms_k_1171 h94c) (ms_l_1171 h94c) ⟨by omega, by omega⟩ (by decide) (by omega) dX13_forget_107 ?_
      refine v_iinc hX (v := iI (i + 1)) (lv' := [(1, .int (iI (i + 1))), (0, .ref x)]) dX13_forget_108 rfl (iI_add _ _) (by rw [hnL]; decide) rfl ?_
      refine v_goto hX (tgt := 94) dX13_forget_111 (by decide) ?_
      exact ih94 _ (by omega) _ g0 g1 g2 g3 g4 g5 g6 g7 g8 g9 g10 g11 g12 g13 (i + 1) (fr94.sA (by decide)) (by simp (disch := omega) only [y_I_s_I, x_I_s_I, z_I_s_J, z_I_s_A, z_I_s_B, e_g0, e_g1, e_g2, e_g3, e_g4, e_g5, e_g6, e_g7, e_g8, e_g9, e_g10, e_g11, e_g12, e_g13]) (by simp (disch := omega) only [y_I_s_I, x_I_s_I, z_I_s_J, z_I_s_A, z_I_s_B, e_g0, e_g1, e_g2, e_g3, e_g4, e_g5, e_g6, e_g7, e_g8, e_g9, e_g10, e_g11, e_g12, e_g13]) (by simp (disch := omega) only [y_I_s_I, x_I_s_I, z_I_s_J, z_I_s_A, z_I_s_B, e_g0, e_g1, e_g2, e_g3, e_g4, e_g5, e_g6, e_g7, e_g8, e_g9, e_g10, e_g11, e_g12, e_g13]) (by simp (disch := omega) only [y_I_s_I, x_I_s_I, z_I_s_J, z_I_s_A, z_I_s_B, e_g0, e_g1, e_g2, e_g3, e_g4, e_g5, e_g6, e_g7, e_g8, e_g9, e_g10, e_g11, e_g12, e_g13]) (by simp (disch := omega) only [y_I_s_I, x_I_s_I, z_I_s_J, z_I_s_A, z_I_s_B, e_g0, e_g1, e_g2, e_g3, e_g4, e_g5, e_g6, e_g7, e_g8, e_g9, e_g10, e_g11, e_g12, e_g13]) (by simp (disch := omega) only [y_I_s_I, x_I_s_I, z_I_s_J, z_I_s_A, z_I_s_B, e_g0, e_g1, e_g2, e_g3, e_g4, e_g5, e_g6, e_g7, e_g8, e_g9, e_g10, e_g11, e_g12, e_g13]) (by simp (disch := omega) only [y_I_s_I, x_I_s_I, z_I_s_J, z_I_s_A, z_I_s_B, e_g0, e_g1, e_g2, e_g3, e_g4, e_g5, e_g6, e_g7, e_g8, e_g9, e_g10, e_g11, e_g12, e_g13]) (by simp (disch := omega) only [y_I_s_I, x_I_s_I, z_I_s_J, z_I_s_A, z_I_s_B, e_g0, e_g1, e_g2, e_g3, e_g4, e_g5, e_g6, e_g7, e_g8, e_g9, e_g10, e_g11, e_g12, e_g13]) (by simp (disch := omega) only [y_I_s_I, x_I_s_I, z_I_s_J, z_I_s_A, z_I_s_B, e_g0, e_g1, e_g2, e_g3, e_g4, e_g5, e_g6, e_g7, e_g8, e_g9, e_g10, e_g11, e_g12, e_g13]) (by simp (disch := omega) only [y_I_s_I, x_I_s_I, z_I_s_J, z_I_s_A, z_I_s_B, e_g0, e_g1, e_g2, e_g3, e_g4, e_g5, e_g6, e_g7, e_g8, e_g9, e_g10, e_g11, e_g12, e_g13]) (by simp (disch := omega) only [y_I_s_I, x_I_s_I, z_I_s_J, z_I_s_A, z_I_s_B, e_g0, e_g1, e_g2, e_g3, e_g4, e_g5, e_g6, e_g7, e_g8, e_g9, e_g10, e_g11, e_g12, e_g13]) (by simp (disch := omega) only [y_I_s_I, x_I_s_I, z_I_s_J, z_I_s_A, z_I_s_B, e_g0, e_g1, e_g2, e_g3, e_g4, e_g5, e_g6, e_g7, e_g8, e_g9, e_g10, e_g11, e_g12, e_g13]) (by simp (disch := omega) only [y_I_s_I, x_I_s_I, z_I_s_J, z_I_s_A, z_I_s_B, e_g0, e_g1, e_g2, e_g3, e_g4, e_g5, e_g6, e_g7, e_g8, e_g9, e_g10, e_g11, e_g12, e_g13]) (by simp (disch := omega) only [y_I_s_I, x_I_s_I, z_I_s_J, z_I_s_A, z_I_s_B, e_g0, e_g1, e_g2, e_g3, e_g4, e_g5, e_g6, e_g7, e_g8, e_g9, e_g10, e_g11, e_g12, e_g13]) ⟨by omega, by omega⟩ ⟨by omega, by omega⟩ ⟨by omega, by omega⟩ ⟨by omega, by omega⟩ ⟨by omega, by omega⟩ ⟨by omega, by omega⟩ ⟨by omega, by omega⟩ ⟨by omega, by omega⟩ ⟨by omega, by omega⟩ ⟨by omega, by omega⟩ ⟨by omega, by omega⟩ ⟨by omega, by omega⟩ ⟨by omega, by omega⟩ ⟨by omega, by omega⟩ (by omega) (fun j a b => by simp (disch := omega) only [zr_I, zr_J, zr_B, rA_A, zl_I, zl_J, zl_A, lA_B]; exact p94_1 j a b) (fun j a b => by rcases (show j < i ∨ j = i by omega) with g | g; (simp (disch := omega) only [zr_I, zr_J, zr_B, rA_A, zl_I, zl_J, zl_A, lA_B, rA_x]; exact p94_2 j a g); (subst g; simp (disch := omega) only [zr_I, zr_J, zr_B, rA_A, zl_I, zl_J, zl_A, lA_B, rA_y])) rfl
  have L72 : ∀ (n72 : Nat) (S72c : b_M) (g0 : Int) (g1 : Int) (g2 : Int) (g3 : Int) (g4 : Int) (g5 : Int) (g6 : Int) (g7 : Int) (g8 : Int) (g9 : Int) (g10 : Int) (g11 : Int) (g12 : Int) (g13 : Int) (i : Int), mFr [1112, 1113, 1114, 1120, 1128, 1139, 1140, 1141, 1148, 1157, 1158, 1159, 1168, 1169] [] [35, 39] S S72c x → m_I S72c 1112 x = iI g0 → m_I S72c 1113 x = iI g1 → m_I S72c 1114 x = iI g2 → m_I S72c 1120 x = iI g3 → m_I S72c 1128 x = iI g4 → m_I S72c 1139 x = iI g5 → m_I S72c 1140 x = iI g6 → m_I S72c 1141 x = iI g7 → m_I S72c 1148 x = iI g8 → m_I S72c 1157 x = iI g9 → m_I S72c 1158 x = iI g10 → m_I S72c 1159 x = iI g11 → m_I S72c 1168 x = iI g12 → m_I S72c 1169 x = iI g13 → (-2147483648 ≤ g0 ∧ g0 < 2147483648) → (-2147483648 ≤ g1 ∧ g1 < 2147483648) → (-2147483648 ≤ g2 ∧ g2 < 2147483648) → (-2147483648 ≤ g3 ∧ g3 < 2147483648) → (-2147483648 ≤ g4 ∧ g4 < 2147483648) → (-2147483648 ≤ g5 ∧ g5 < 2147483648) → (-2147483648 ≤ g6 ∧ g6 < 2147483648) → (-2147483648 ≤ g7 ∧ g7 < 2147483648) → (-2147483648 ≤ g8 ∧ g8 < 2147483648) → (-2147483648 ≤ g9 ∧ g9 < 2147483648) → (-2147483648 ≤ g10 ∧ g10 < 2147483648) → (-2147483648 ≤ g11 ∧ g11 < 2147483648) → (-2147483648 ≤ g12 ∧ g12 < 2147483648) → (-2147483648 ≤ g13 ∧ g13 < 2147483648) → (g0 = 0 ∧ g1 = 0 ∧ g2 = 0 ∧ g3 = 0 ∧ g4 = 0 ∧ g5 = 0 ∧ g6 = 0 ∧ g7 = 0 ∧ g8 = 0 ∧ g9 = 0 ∧ g10 = 0 ∧ g11 = 0 ∧ g12 = 0 ∧ g13 = 0 ∧ 0 ≤ i ∧ i ≤ 1021) → (∀ j : Int, 0 ≤ j → j < i → rAt S72c (x + 35) j = -1) → (1021 - i).toNat = n72 → b_V X S72c z 0 0 72 [(1, .int (iI i)), (0, .ref x)] [] := by
    intro n72
    induction n72 using Nat.strongRecOn with
    | _ n72 ih72 =>
    intro S72c g0 g1 g2 g3 g4 g5 g6 g7 g8 g9 g10 g11 g12 g13 i fr72 e_g0 e_g1 e_g2 e_g3 e_g4 e_g5 e_g6 e_g7 e_g8 e_g9 e_g10 e_g11 e_g12 e_g13 b_g0 b_g1 b_g2 b_g3 b_g4 b_g5 b_g6 b_g7 b_g8 b_g9 b_g10 b_g11 b_g12 b_g13 p72_0 p72_1 hm72
    have h72c : mS S72c x := fr72.keep h
    refine v_iload_n hX dX13_forget_72 (i := 1) rfl rfl ?_
    refine v_sipush hX (v := iI 1021) dX13_forget_73 (by decide) ?_
    refine u_icmp_ge hX (tgt := 92) dX13_forget_76 (by decide) ⟨by omega, by omega⟩ ⟨by omega, by omega⟩ (fun h2_ => ?_) (fun h2_ => ?_)
    ·
      refine v_iconst hX (v := iI 0) dX13_forget_92 rfl ?_
      refine v_istore_n hX (lv' := [(1, .int (iI 0)), (0, .ref x)]) dX13_forget_93 (i := 1) rfl (by rw [hnL]; decide) rfl ?_
      exact L94 _ _ g0 g1 g2 g3 g4 g5 g6 g7 g8 g9 g10 g11 g12 g13 0 fr72 (by simp (disch := omega) only [y_I_s_I, x_I_s_I, z_I_s_J, z_I_s_A, z_I_s_B, e_g0, e_g1, e_g2, e_g3, e_g4, e_g5, e_g6, e_g7, e_g8, e_g9, e_g10, e_g11, e_g12, e_g13]) (by simp (disch := omega) only [y_I_s_I, x_I_s_I, z_I_s_J, z_I_s_A, z_I_s_B, e_g0, e_g1, e_g2, e_g3, e_g4, e_g5, e_g6, e_g7, e_g8, e_g9, e_g10, e_g11, e_g12, e_g13]) (by simp (disch := omega) only [y_I_s_I, x_I_s_I, z_I_s_J, z_I_s_A, z_I_s_B, e_g0, e_g1, e_g2, e_g3, e_g4, e_g5, e_g6, e_g7, e_g8, e_g9, e_g10, e_g11, e_g12, e_g13]) (by simp (disch := omega) only [y_I_s_I, x_I_s_I, z_I_s_J, z_I_s_A, z_I_s_B, e_g0, e_g1, e_g2, e_g3, e_g4, e_g5, e_g6, e_g7, e_g8, e_g9, e_g10, e_g11, e_g12, e_g13]) (by simp (disch := omega) only [y_I_s_I, x_I_s_I, z_I_s_J, z_I_s_A, z_I_s_B, e_g0, e_g1, e_g2, e_g3, e_g4, e_g5, e_g6, e_g7, e_g8, e_g9, e_g10, e_g11, e_g12, e_g13]) (by simp (disch := omega) only [y_I_s_I, x_I_s_I, z_I_s_J, z_I_s_A, z_I_s_B, e_g0, e_g1, e_g2, e_g3, e_g4, e_g5, e_g6, e_g7, e_g8, e_g9, e_g10, e_g11, e_g12, e_g13]) (by simp (disch := omega) only [y_I_s_I, x_I_s_I, z_I_s_J, z_I_s_A, z_I_s_B, e_g0, e_g1, e_g2, e_g3, e_g4, e_g5, e_g6, e_g7, e_g8, e_g9, e_g10, e_g11, e_g12, e_g13]) (by simp (disch := omega) only [y_I_s_I, x_I_s_I, z_I_s_J, z_I_s_A, z_I_s_B, e_g0, e_g1, e_g2, e_g3, e_g4, e_g5, e_g6, e_g7, e_g8, e_g9, e_g10, e_g11, e_g12, e_g13]) (by simp (disch := omega) only [y_I_s_I, x_I_s_I, z_I_s_J, z_I_s_A, z_I_s_B, e_g0, e_g1, e_g2, e_g3, e_g4, e_g5, e_g6, e_g7, e_g8, e_g9, e_g10, e_g11, e_g12, e_g13]) (by simp (disch := omega) only [y_I_s_I, x_I_s_I, z_I_s_J, z_I_s_A, z_I_s_B, e_g0, e_g1, e_g2, e_g3, e_g4, e_g5, e_g6, e_g7, e_g8, e_g9, e_g10, e_g11, e_g12, e_g13]) (by simp (disch := omega) only [y_I_s_I, x_I_s_I, z_I_s_J, z_I_s_A, z_I_s_B, e_g0, e_g1, e_g2, e_g3, e_g4, e_g5, e_g6, e_g7, e_g8, e_g9, e_g10, e_g11, e_g12, e_g13]) (by simp (disch := omega) only [y_I_s_I, x_I_s_I, z_I_s_J, z_I_s_A, z_I_s_B, e_g0, e_g1, e_g2, e_g3, e_g4, e_g5, e_g6, e_g7, e_g8, e_g9, e_g10, e_g11, e_g12, e_g13]) (by simp (disch := omega) only [y_I_s_I, x_I_s_I, z_I_s_J, z_I_s_A, z_I_s_B, e_g0, e_g1, e_g2, e_g3, e_g4, e_g5, e_g6, e_g7, e_g8, e_g9, e_g10, e_g11, e_g12, e_g13]) (by simp (disch := omega) only [y_I_s_I, x_I_s_I, z_I_s_J, z_I_s_A, z_I_s_B, e_g0, e_g1, e_g2, e_g3, e_g4, e_g5, e_g6, e_g7, e_g8, e_g9, e_g10, e_g11, e_g12, e_g13]) ⟨by omega, by omega⟩ ⟨by omega, by omega⟩ ⟨by omega, by omega⟩ ⟨by omega, by omega⟩ ⟨by omega, by omega⟩ ⟨by omega, by omega⟩ ⟨by omega, by omega⟩ ⟨by omega, by omega⟩ ⟨by omega, by omega⟩ ⟨by omega, by omega⟩ ⟨by omega, by omega⟩ ⟨by omega, by omega⟩ ⟨by omega, by omega⟩ ⟨by omega, by omega⟩ (by omega) (fun j a b => p72_1 j a (by omega)) (fun j a b => absurd b (by omega)) rfl
    ·
      refine v_aload_n hX dX13_forget_79 (i := 0) rfl rfl ?_
      refine v_get hX (ci := 11) (k := 52) (ms_kx h72c) bc_11 (by decide) (by decide) in_11 w_6_28 dX13_forget_80 (mvP (f := 1152) (q := (x + 35)) rfl rfl (ms_p_1152 h72c)) ?_
      refine v_iload_n hX dX13_forget_83 (i := 1) rfl rfl ?_
      refine v_iconst hX (v := iI (-1)) dX13_forget_84 rfl ?_
      refine u_iast hX (L := 1021) (ms_k_1152 h72c) (ms_l_1152 h72c) ⟨by omega, by omega⟩ (by decide) dX13_forget_85 ?_
      refine v_iinc hX (v := iI (i + 1)) (lv' := [(1, .int (iI (i + 1))), (0, .ref x)]) dX13_forget_86 rfl (iI_add _ _) (by rw [hnL]; decide) rfl ?_
      refine v_goto hX (tgt := 72) dX13_forget_89 (by decide) ?_
      exact ih72 _ (by omega) _ g0 g1 g2 g3 g4 g5 g6 g7 g8 g9 g10 g11 g12 g13 (i + 1) (fr72.sA (by decide)) (by simp (disch := omega) only [y_I_s_I, x_I_s_I, z_I_s_J, z_I_s_A, z_I_s_B, e_g0, e_g1, e_g2, e_g3, e_g4, e_g5, e_g6, e_g7, e_g8, e_g9, e_g10, e_g11, e_g12, e_g13]) (by simp (disch := omega) only [y_I_s_I, x_I_s_I, z_I_s_J, z_I_s_A, z_I_s_B, e_g0, e_g1, e_g2, e_g3, e_g4, e_g5, e_g6, e_g7, e_g8, e_g9, e_g10, e_g11, e_g12, e_g13]) (by simp (disch := omega) only [y_I_s_I, x_I_s_I, z_I_s_J, z_I_s_A, z_I_s_B, e_g0, e_g1, e_g2, e_g3, e_g4, e_g5, e_g6, e_g7, e_g8, e_g9, e_g10, e_g11, e_g12, e_g13]) (by simp (disch := omega) only [y_I_s_I, x_I_s_I, z_I_s_J, z_I_s_A, z_I_s_B, e_g0, e_g1, e_g2, e_g3, e_g4, e_g5, e_g6, e_g7, e_g8, e_g9, e_g10, e_g11, e_g12, e_g13]) (by simp (disch := omega) only [y_I_s_I, x_I_s_I, z_I_s_J, z_I_s_A, z_I_s_B, e_g0, e_g1, e_g2, e_g3, e_g4, e_g5, e_g6, e_g7, e_g8, e_g9, e_g10, e_g11, e_g12, e_g13]) (by simp (disch := omega) only [y_I_s_I, x_I_s_I, z_I_s_J, z_I_s_A, z_I_s_B, e_g0, e_g1, e_g2, e_g3, e_g4, e_g5, e_g6, e_g7, e_g8, e_g9, e_g10, e_g11, e_g12, e_g13]) (by simp (disch := omega) only [y_I_s_I, x_I_s_I, z_I_s_J, z_I_s_A, z_I_s_B, e_g0, e_g1, e_g2, e_g3, e_g4, e_g5, e_g6, e_g7, e_g8, e_g9, e_g10, e_g11, e_g12, e_g13]) (by simp (disch := omega) only [y_I_s_I, x_I_s_I, z_I_s_J, z_I_s_A, z_I_s_B, e_g0, e_g1, e_g2, e_g3, e_g4, e_g5, e_g6, e_g7, e_g8, e_g9, e_g10, e_g11, e_g12, e_g13]) (by simp (disch := omega) only [y_I_s_I, x_I_s_I, z_I_s_J, z_I_s_A, z_I_s_B, e_g0, e_g1, e_g2, e_g3, e_g4, e_g5, e_g6, e_g7, e_g8, e_g9, e_g10, e_g11, e_g12, e_g13]) (by simp (disch := omega) only [y_I_s_I, x_I_s_I, z_I_s_J, z_I_s_A, z_I_s_B, e_g0, e_g1, e_g2, e_g3, e_g4, e_g5, e_g6, e_g7, e_g8, e_g9, e_g10, e_g11, e_g12, e_g13]) (by simp (disch := omega) only [y_I_s_I, x_I_s_I, z_I_s_J, z_I_s_A, z_I_s_B, e_g0, e_g1, e_g2, e_g3, e_g4, e_g5, e_g6, e_g7, e_g8, e_g9, e_g10, e_g11, e_g12, e_g13]) (by simp (disch := omega) only [y_I_s_I, x_I_s_I, z_I_s_J, z_I_s_A, z_I_s_B, e_g0, e_g1, e_g2, e_g3, e_g4, e_g5, e_g6, e_g7, e_g8, e_g9, e_g10, e_g11, e_g12, e_g13]) (by simp (disch := omega) only [y_I_s_I, x_I_s_I, z_I_s_J, z_I_s_A, z_I_s_B, e_g0, e_g1, e_g2, e_g3, e_g4, e_g5, e_g6, e_g7, e_g8, e_g9, e_g10, e_g11, e_g12, e_g13]) (by simp (disch := omega) only [y_I_s_I, x_I_s_I, z_I_s_J, z_I_s_A, z_I_s_B, e_g0, e_g1, e_g2, e_g3, e_g4, e_g5, e_g6, e_g7, e_g8, e_g9, e_g10, e_g11, e_g12, e_g13]) ⟨by omega, by omega⟩ ⟨by omega, by omega⟩ ⟨by omega, by omega⟩ ⟨by omega, by omega⟩ ⟨by omega, by omega⟩ ⟨by omega, by omega⟩ ⟨by omega, by omega⟩ ⟨by omega, by omega⟩ ⟨by omega, by omega⟩ ⟨by omega, by omega⟩ ⟨by omega, by omega⟩ ⟨by omega, by omega⟩ ⟨by omega, by omega⟩ ⟨by omega, by omega⟩ (by omega) (fun j a b => by rcases (show j < i ∨ j = i by omega) with g | g; (simp (disch := omega) only [zr_I, zr_J, zr_B, rA_A, zl_I, zl_J, zl_A, lA_B, rA_x]; exact p72_1 j a g); (subst g; simp (disch := omega) only [zr_I, zr_J, zr_B, rA_A, zl_I, zl_J, zl_A, lA_B, rA_y])) rfl
  change b_V X S z 0 0 0 [(0, .ref x)] []
  refine v_aload_n hX dX13_forget_0 (i := 0) rfl rfl ?_
  refine v_iconst hX (v := iI 0) dX13_forget_1 rfl ?_
  refine v_putI hX (ci := 11) (k := 12) (f := 1112) (ms_kx h) bc_11 (by decide) (by decide) in_11 tyX13_ok nmX13 w_5_228 (Or.inl rfl) rfl rfl dX13_forget_2 rfl rfl ?_
  refine v_aload_n hX dX13_forget_5 (i := 0) rfl rfl ?_
  refine v_iconst hX (v := iI 0) dX13_forget_6 rfl ?_
  refine v_putI hX (ci := 11) (k := 13) (f := 1113) (ms_kx (mS.sI h)) bc_11 (by decide) (by decide) in_11 tyX13_ok nmX13 w_5_229 (Or.inl rfl) rfl rfl dX13_forget_7 rfl rfl ?_
  refine v_aload_n hX dX13_forget_10 (i := 0) rfl rfl ?_
  refine v_iconst hX (v := iI 0) dX13_forget_11 rfl ?_
  refine v_putI hX (ci := 11) (k := 14) (f := 1114) (ms_kx (mS.sI (mS.sI h))) bc_11 (by decide) (by decide) in_11 tyX13_ok nmX13 w_5_230 (Or.inl rfl) rfl rfl dX13_forget_12 rfl rfl ?_
  refine v_aload_n hX dX13_forget_15 (i := 0) rfl rfl ?_
  refine v_iconst hX (v := iI 0) dX13_forget_16 rfl ?_
  refine v_putI hX (ci := 11) (k := 20) (f := 1120) (ms_kx (mS.sI (mS.sI (mS.sI h)))) bc_11 (by decide) (by decide) in_11 tyX13_ok nmX13 w_5_236 (Or.inl rfl) rfl rfl dX13_forget_17 rfl rfl ?_
  refine v_aload_n hX dX13_forget_20 (i := 0) rfl rfl ?_
  refine v_iconst hX (v := iI 0) dX13_forget_21 rfl ?_
  refine v_putI hX (ci := 11) (k := 28) (f := 1128) (ms_kx (mS.sI (mS.sI (mS.sI (mS.sI h))))) bc_11 (by decide) (by decide) in_11 tyX13_ok nmX13 w_6_4 (Or.inl rfl) rfl rfl dX13_forget_22 rfl rfl ?_
  refine v_aload_n hX dX13_forget_25 (i := 0) rfl rfl ?_
  refine v_iconst hX (v := iI 0) dX13_forget_26 rfl ?_
  refine v_putI hX (ci := 11) (k := 39) (f := 1139) (ms_kx (mS.sI (mS.sI (mS.sI (mS.sI (mS.sI h)))))) bc_11 (by decide) (by decide) in_11 tyX13_ok nmX13 w_6_15 (Or.inl rfl) rfl rfl dX13_forget_27 rfl rfl ?_
  refine v_aload_n hX dX13_forget_30 (i := 0) rfl rfl ?_
  refine v_iconst hX (v := iI 0) dX13_forget_31 rfl ?_
  refine v_putI hX (ci := 11) (k := 40) (f := 1140) (ms_kx (mS.sI (mS.sI (mS.sI (mS.sI (mS.sI (mS.sI h))))))) bc_11 (by decide) (by decide) in_11 tyX13_ok nmX13 w_6_16 (Or.inl rfl) rfl rfl dX13_forget_32 rfl rfl ?_
  refine v_aload_n hX dX13_forget_35 (i := 0) rfl rfl ?_
  refine v_iconst hX (v := iI 0) dX13_forget_36 rfl ?_
  refine v_putI hX (ci := 11) (k := 41) (f := 1141) (ms_kx (mS.sI (mS.sI (mS.sI (mS.sI (mS.sI (mS.sI (mS.sI h)))))))) bc_11 (by decide) (by decide) in_11 tyX13_ok nmX13 w_6_17 (Or.inl rfl) rfl rfl dX13_forget_37 rfl rfl ?_
  refine v_aload_n hX dX13_forget_40 (i := 0) rfl rfl ?_
  refine v_iconst hX (v := iI 0) dX13_forget_41 rfl ?_
  refine v_putI hX (ci := 11) (k := 48) (f := 1148) (ms_kx (mS.sI (mS.sI (mS.sI (mS.sI (mS.sI (mS.sI (mS.sI (mS.sI h))))))))) bc_11 (by decide) (by decide) in_11 tyX13_ok nmX13 w_6_24 (Or.inl rfl) rfl rfl dX13_forget_42 rfl rfl ?_
  refine v_aload_n hX dX13_forget_45 (i := 0) rfl rfl ?_
  refine v_iconst hX (v := iI 0) dX13_forget_46 rfl ?_
  refine v_putI hX (ci := 11) (k := 57) (f := 1157) (ms_kx (mS.sI (mS.sI (mS.sI (mS.sI (mS.sI (mS.sI (mS.sI (mS.sI (mS.sI h)))))))))) bc_11 (by decide) (by decide) in_11 tyX13_ok nmX13 w_6_33 (Or.inl rfl) rfl rfl dX13_forget_47 rfl rfl ?_
  refine v_aload_n hX dX13_forget_50 (i := 0) rfl rfl ?_
  refine v_iconst hX (v := iI 0) dX13_forget_51 rfl ?_
  refine v_putI hX (ci := 11) (k := 58) (f := 1158) (ms_kx (mS.sI (mS.sI (mS.sI (mS.sI (mS.sI (mS.sI (mS.sI (mS.sI (mS.sI (mS.sI h))))))))))) bc_11 (by decide) (by decide) in_11 tyX13_ok nmX13 w_6_34 (Or.inl rfl) rfl rfl dX13_forget_52 rfl rfl ?_
  refine v_aload_n hX dX13_forget_55 (i := 0) rfl rfl ?_
  refine v_iconst hX (v := iI 0) dX13_forget_56 rfl ?_
  refine v_putI hX (ci := 11) (k := 59) (f := 1159) (ms_kx (mS.sI (mS.sI (mS.sI (mS.sI (mS.sI (mS.sI (mS.sI (mS.sI (mS.sI (mS.sI (mS.sI h)))))))))))) bc_11 (by decide) (by decide) in_11 tyX13_ok nmX13 w_6_35 (Or.inl rfl) rfl rfl dX13_forget_57 rfl rfl ?_
  refine v_aload_n hX dX13_forget_60 (i := 0) rfl rfl ?_
  refine v_iconst hX (v := iI 0) dX13_forget_61 rfl ?_
  refine v_putI hX (ci := 11) (k := 68) (f := 1168) (ms_kx (mS.sI (mS.sI (mS.sI (mS.sI (mS.sI (mS.sI (mS.sI (mS.sI (mS.sI (mS.sI (mS.sI (mS.sI h))))))))))))) bc_11 (by decide) (by decide) in_11 tyX13_ok nmX13 w_6_44 (Or.inl rfl) (nar_b (by omega)) (fit_b (by omega)) dX13_forget_62 rfl rfl ?_
  refine v_aload_n hX dX13_forget_65 (i := 0) rfl rfl ?_
  refine v_iconst hX (v := iI 0) dX13_forget_66 rfl ?_
  refine v_putI hX (ci := 11) (k := 69) (f := 1169) (ms_kx (mS.sI (mS.sI (mS.sI (mS.sI (mS.sI (mS.sI (mS.sI (mS.sI (mS.sI (mS.sI (mS.sI (mS.sI (mS.sI h)))))))))))))) bc_11 (by decide) (by decide) in_11 tyX13_ok nmX13 w_6_45 (Or.inl rfl) (nar_b (by omega)) (fit_b (by omega)) dX13_forget_67 rfl rfl ?_
  refine v_iconst hX (v := iI 0) dX13_forget_70 rfl ?_
  refine v_istore_n hX (lv' := [(1, .int (iI 0)), (0, .ref x)]) dX13_forget_71 (i := 1) rfl (by rw [hnL]; decide) rfl ?_
  exact L72 _ _ 0 0 0 0 0 0 0 0 0 0 0 0 0 0 0 (((((((((((((((mFr.rf _ _).sI (by decide)).sI (by decide)).sI (by decide)).sI (by decide)).sI (by decide)).sI (by decide)).sI (by decide)).sI (by decide)).sI (by decide)).sI (by decide)).sI (by decide)).sI (by decide)).sI (by decide)).sI (by decide)) (by simp (disch := omega) only [y_I_s_I, x_I_s_I, z_I_s_J, z_I_s_A, z_I_s_B]) (by simp (disch := omega) only [y_I_s_I, x_I_s_I, z_I_s_J, z_I_s_A, z_I_s_B]) (by simp (disch := omega) only [y_I_s_I, x_I_s_I, z_I_s_J, z_I_s_A, z_I_s_B]) (by simp (disch := omega) only [y_I_s_I, x_I_s_I, z_I_s_J, z_I_s_A, z_I_s_B]) (by simp (disch := omega) only [y_I_s_I, x_I_s_I, z_I_s_J, z_I_s_A, z_I_s_B]) (by simp (disch := omega) only [y_I_s_I, x_I_s_I, z_I_s_J, z_I_s_A, z_I_s_B]) (by simp (disch := omega) only [y_I_s_I, x_I_s_I, z_I_s_J, z_I_s_A, z_I_s_B]) (by simp (disch := omega) only [y_I_s_I, x_I_s_I, z_I_s_J, z_I_s_A, z_I_s_B]) (by simp (disch := omega) only [y_I_s_I, x_I_s_I, z_I_s_J, z_I_s_A, z_I_s_B]) (by simp (disch := omega) only [y_I_s_I, x_I_s_I, z_I_s_J, z_I_s_A, z_I_s_B]) (by simp (disch := omega) only [y_I_s_I, x_I_s_I, z_I_s_J, z_I_s_A, z_I_s_B]) (by simp (disch := omega) only [y_I_s_I, x_I_s_I, z_I_s_J, z_I_s_A, z_I_s_B]) (by simp (disch := omega) only [y_I_s_I, x_I_s_I, z_I_s_J, z_I_s_A, z_I_s_B]) (by simp (disch := omega) only [y_I_s_I, x_I_s_I, z_I_s_J, z_I_s_A, z_I_s_B]) ⟨by omega, by omega⟩ ⟨by omega, by omega⟩ ⟨by omega, by omega⟩ ⟨by omega, by omega⟩ ⟨by omega, by omega⟩ ⟨by omega, by omega⟩ ⟨by omega, by omega⟩ ⟨by omega, by omega⟩ ⟨by omega, by omega⟩ ⟨by omega, by omega⟩ ⟨by omega, by omega⟩ ⟨by omega, by omega⟩ ⟨by omega, by omega⟩ ⟨by omega, by omega⟩ (by omega) (fun j a b => absurd b (by omega)) rfl
set_option maxRecDepth 100000 in
set_option maxHeartbeats 40000000 in
theorem k_name {kn : Nat → Nat} {B : Nat} {S : b_M} {z x : Nat} {k : Int} {what : Int} {st_ : Int} {la : Int} {se : Int} (h : mS S x) (e_st_ : m_I S 1128 x = iI st_) (b_st_ : -2147483648 ≤ st_ ∧ st_ < 2147483648) (e_la : m_I S 1139 x = iI la) (b_la : -2147483648 ≤ la ∧ la < 2147483648) (e_se : m_I S 1148 x = iI se) (b_se : -2147483648 ≤ se ∧ se < 2147483648) (b_k : -2147483648 ≤ k ∧ k < 2147483648) (b_what : -2147483648 ≤ what ∧ what < 2147483648) (lo_ : lb S x st_ = la) (p : 0 ≤ st_ ∧ st_ ≤ 400 ∧ 0 ≤ la ∧ la ≤ st_ ∧ 0 ≤ se ∧ se ≤ 400) : b_C kn B yX13_name cX13_name 5 (some .int) 1 22 0 0 [.ref x, .int (iI k), .int (iI what)] S z (fun r S' z' => z = z' ∧ mFr [1102] [] [] S S' x ∧ ∃ q t1 : Int, r = some (.int (iI q)) ∧ (-2147483648 ≤ q ∧ q < 2147483648) ∧ m_I S' 1102 x = iI t1 ∧ (-2147483648 ≤ t1 ∧ t1 < 2147483648) ∧ (t1 = 0 ∨ t1 = 1)) (fun _ _ _ => False) := by
  refine b_enter (by decide) (Nat.le_of_ble_eq_true rfl) ?_
  intro X hX hE hnL hkn hB hI_
  subst hkn; subst hB
  clear hI_
  have L62 : ∀ (n62 : Nat) (S62c : b_M) (t0 : Int) (sx : Int) (n : Int), mFr [1102] [] [] S S62c x → m_I S62c 1102 x = iI t0 → (-2147483648 ≤ t0 ∧ t0 < 2147483648) → (0 ≤ k ∧ k < la ∧ what = 0 ∧ t0 = 0 ∧ -1 ≤ sx ∧ sx < st_ ∧ n + 1 = lb S x (sx + 1) ∧ -1 ≤ n ∧ n ≤ k ∧ (n = k → 0 ≤ sx)) → (st_ - sx).toNat = n62 → b_V X S62c z 0 0 62 [(4, .int (iI sx)), (3, .int (iI n)), (0, .ref x), (1, .int (iI k)), (2, .int (iI what))] [] := by
    intro n62
    induction n62 using Nat.strongRecOn with
    | _ n62 ih62 =>
    intro S62c t0 sx n fr62 e_t0 b_t0 p62_0 hm62
    have h62c : mS S62c x := fr62.keep h
    have hc62_24 : ∀ i, lAt S62c (x + 24) i = lAt S (x + 24) i := fun i => (fr62.1 (x + 24) (by omega) (fun j hj => absurd hj List.not_mem_nil)).lA i
    have e62_st_ : m_I S62c 1128 x = iI st_ := (fr62.2.2.2.1 1128 (by decide)).trans e_st_
    have e62_la : m_I S62c 1139 x = iI la := (fr62.2.2.2.1 1139 (by decide)).trans e_la
    have e62_se : m_I S62c 1148 x = iI se := (fr62.2.2.2.1 1148 (by decide)).trans e_se
    refine v_iload_n hX dX13_name_62 (i := 3) rfl rfl ?_
    refine v_iload_n hX dX13_name_63 (i := 1) rfl rfl ?_
    refine u_icmp_ge hX (tgt := 93) dX13_name_64 (by decide) ⟨by omega, by omega⟩ ⟨by omega, by omega⟩ (fun h1_ => ?_) (fun h1_ => ?_)
    ·
      refine v_aload_n hX dX13_name_93 (i := 0) rfl rfl ?_
      refine v_get hX (ci := 11) (k := 38) (ms_kx h62c) bc_11 (by decide) (by decide) in_11 w_6_14 dX13_name_94 (mvP (f := 1138) (q := (x + 26)) rfl rfl (ms_p_1138 h62c)) ?_
      refine v_iload hX dX13_name_97 rfl ?_
      refine u_iald hX (L := 400) (ms_k_1138 h62c) (ms_l_1138 h62c) ⟨by omega, by omega⟩ (by decide) dX13_name_99 (fun v2_ e_v2_ b_v2_ => ?_)
      try simp (disch := omega) only [zr_I, zr_J, zr_B, rA_A, zl_I, zl_J, zl_A, lA_B, hc62_24] at e_v2_
      exact v_ireturn hX hE dX13_name_100 (by omega) (by omega) ⟨rfl, fr62, v2_, t0, rfl, ⟨by omega, by omega⟩, (by simp (disch := omega) only [y_I_s_I, x_I_s_I, z_I_s_J, z_I_s_A, z_I_s_B, e62_st_, e62_la, e62_se, e_t0]), ⟨by omega, by omega⟩, (by omega)⟩
    ·
      have l67_ : sx + 1 < st_ := by rcases (show sx + 1 < st_ ∨ sx + 1 = st_ by omega) with g | g; exact g; rw [← g] at lo_; omega
      refine v_iinc hX (v := iI (sx + 1)) (lv' := [(4, .int (iI (sx + 1))), (3, .int (iI n)), (0, .ref x), (1, .int (iI k)), (2, .int (iI what))]) dX13_name_67 rfl (iI_add _ _) (by rw [hnL]; decide) rfl ?_
      refine v_iload_n hX dX13_name_70 (i := 3) rfl rfl ?_
      refine v_aload_n hX dX13_name_71 (i := 0) rfl rfl ?_
      refine v_get hX (ci := 11) (k := 36) (ms_kx h62c) bc_11 (by decide) (by decide) in_11 w_6_12 dX13_name_72 (mvP (f := 1136) (q := (x + 24)) rfl rfl (ms_p_1136 h62c)) ?_
      refine v_iload hX dX13_name_75 rfl ?_
      have l77_ := lb_s (S := S) (x := x) (i := sx + 1) (by omega)
      have l78_ : sx + 1 < st_ := by rcases (show sx + 1 < st_ ∨ sx + 1 = st_ by omega) with g | g; exact g; rw [← g] at lo_; omega
      refine u_lald hX (L := 400) (ms_k_1136 h62c) (ms_l_1136 h62c) ⟨by omega, by omega⟩ (by decide) dX13_name_77 (fun v3_ e_v3_ b_v3_ => ?_)
      try simp (disch := omega) only [zr_I, zr_J, zr_B, rA_A, zl_I, zl_J, zl_A, lA_B, hc62_24] at e_v3_
      refine v_lconst hX (v := jJ 0) dX13_name_78 rfl ?_
      refine u_lcmp hX dX13_name_79 ⟨by omega, by omega⟩ ⟨by omega, by omega⟩ (fun v4_ b_v4_ c_v4_ => ?_)
      refine u_if_le hX (tgt := 87) dX13_name_80 (by decide) ⟨by omega, by omega⟩ (fun h5_ => ?_) (fun h5_ => ?_)
      ·
        refine v_iconst hX (v := iI 0) dX13_name_87 rfl ?_
        refine u_iadd hX dX13_name_88 ?_
        refine v_istore_n hX (lv' := [(3, .int (iI (n + 0))), (4, .int (iI (sx + 1))), (0, .ref x), (1, .int (iI k)), (2, .int (iI what))]) dX13_name_89 (i := 3) rfl (by rw [hnL]; decide) rfl ?_
        refine v_goto hX (tgt := 62) dX13_name_90 (by decide) ?_
        refine v_locals (lv' := [(4, .int (iI (sx + 1))), (3, .int (iI (n + 0))), (0, .ref x), (1, .int (iI k)), (2, .int (iI what))]) (by simp) ?_
        exact ih62 _ (by omega) _ t0 (sx + 1) (n + 0) fr62 (by simp (disch := omega) only [y_I_s_I, x_I_s_I, z_I_s_J, z_I_s_A, z_I_s_B, e62_st_, e62_la, e62_se, e_t0]) ⟨by omega, by omega⟩ (by omega) rfl
      ·
        refine v_iconst hX (v := iI 1) dX13_name_83 rfl ?_
        refine v_goto hX (tgt := 88) dX13_name_84 (by decide) ?_
        refine u_iadd hX dX13_name_88 ?_
        refine v_istore_n hX (lv' := [(3, .int (iI (n + 1))), (4, .int (iI (sx + 1))), (0, .ref x), (1, .int (iI k)), (2, .int (iI what))]) dX13_name_89 (i := 3) rfl (by rw [hnL]; decide) rfl ?_
        refine v_goto hX (tgt := 62) dX13_name_90 (by decide) ?_
        refine v_locals (lv' := [(4, .int (iI (sx + 1))), (3, .int (iI (n + 1))), (0, .ref x), (1, .int (iI k)), (2, .int (iI what))]) (by simp) ?_
        exact ih62 _ (by omega) _ t0 (sx + 1) (n + 1) fr62 (by simp (disch := omega) only [y_I_s_I, x_I_s_I, z_I_s_J, z_I_s_A, z_I_s_B, e62_st_, e62_la, e62_se, e_t0]) ⟨by omega, by omega⟩ (by omega) rfl
  have L31 : ∀ (S31c : b_M) (t0 : Int) (u : Int), mFr [1102] [] [] S S31c x → m_I S31c 1102 x = iI t0 → (-2147483648 ≤ t0 ∧ t0 < 2147483648) → ((what = 0 ∧ u = la ∨ what = 1 ∧ u = se) ∧ t0 = 0) → b_V X S31c z 0 0 31 [(0, .ref x), (1, .int (iI k)), (2, .int (iI what))] [.int (iI u), .int (iI 0), .int (iI k)] := by
    intro S31c t0 u fr31 e_t0 b_t0 p31_0
    have h31c : mS S31c x := fr31.keep h
    have hc31_24 : ∀ i, lAt S31c (x + 24) i = lAt S (x + 24) i := fun i => (fr31.1 (x + 24) (by omega) (fun j hj => absurd hj List.not_mem_nil)).lA i
    have e31_st_ : m_I S31c 1128 x = iI st_ := (fr31.2.2.2.1 1128 (by decide)).trans e_st_
    have e31_la : m_I S31c 1139 x = iI la := (fr31.2.2.2.1 1139 (by decide)).trans e_la
    have e31_se : m_I S31c 1148 x = iI se := (fr31.2.2.2.1 1148 (by decide)).trans e_se
    refine v_iconst hX (v := iI 1) dX13_name_31 rfl ?_
    refine u_isub hX dX13_name_32 ?_
    refine v_callS hX (n := 3) (k_within (S := S31c) (x := 0) (v := k) (a := 0) (b := (u - 1)) ⟨by omega, by omega⟩ ⟨by omega, by omega⟩ ⟨by omega, by omega⟩) w_6_210 w_6_211 w_1_16 w_6_212 (by decide +kernel) rfl ⟨by decide, by decide⟩ ⟨by omega, by omega⟩ (Nat.le_of_ble_eq_true rfl) rfl dX13_name_33 (fun _ _ _ q => q) ?_
    rintro r6_ S6_ z6_ ⟨rfl, rfl, v7_, rfl, b_v7_, q6_⟩
    refine u_if_ne hX (tgt := 45) dX13_name_36 (by decide) ⟨by omega, by omega⟩ (fun h8_ => ?_) (fun h8_ => ?_)
    ·
      refine v_iload_n hX dX13_name_45 (i := 2) rfl rfl ?_
      refine v_iconst hX (v := iI 1) dX13_name_46 rfl ?_
      refine u_icmp_ne hX (tgt := 57) dX13_name_47 (by decide) ⟨by omega, by omega⟩ ⟨by omega, by omega⟩ (fun h9_ => ?_) (fun h9_ => ?_)
      ·
        have l57_ := lb_0 (S := S) (x := x) (i := -1 + 1) (by omega)
        refine v_iconst hX (v := iI (-1)) dX13_name_57 rfl ?_
        refine v_istore_n hX (lv' := [(3, .int (iI (-1))), (0, .ref x), (1, .int (iI k)), (2, .int (iI what))]) dX13_name_58 (i := 3) rfl (by rw [hnL]; decide) rfl ?_
        refine v_iconst hX (v := iI (-1)) dX13_name_59 rfl ?_
        refine v_istore hX (lv' := [(4, .int (iI (-1))), (3, .int (iI (-1))), (0, .ref x), (1, .int (iI k)), (2, .int (iI what))]) dX13_name_60 (by rw [hnL]; decide) rfl ?_
        exact L62 _ _ t0 (-1) (-1) fr31 (by simp (disch := omega) only [y_I_s_I, x_I_s_I, z_I_s_J, z_I_s_A, z_I_s_B, e31_st_, e31_la, e31_se, e_t0]) ⟨by omega, by omega⟩ (by omega) rfl
      ·
        refine v_aload_n hX dX13_name_50 (i := 0) rfl rfl ?_
        refine v_get hX (ci := 11) (k := 50) (ms_kx h31c) bc_11 (by decide) (by decide) in_11 w_6_26 dX13_name_51 (mvP (f := 1150) (q := (x + 33)) rfl rfl (ms_p_1150 h31c)) ?_
        refine v_iload_n hX dX13_name_54 (i := 1) rfl rfl ?_
        refine u_iald hX (L := 400) (ms_k_1150 h31c) (ms_l_1150 h31c) ⟨by omega, by omega⟩ (by decide) dX13_name_55 (fun v10_ e_v10_ b_v10_ => ?_)
        try simp (disch := omega) only [zr_I, zr_J, zr_B, rA_A, zl_I, zl_J, zl_A, lA_B, hc31_24] at e_v10_
        exact v_ireturn hX hE dX13_name_56 (by omega) (by omega) ⟨rfl, fr31, v10_, t0, rfl, ⟨by omega, by omega⟩, (by simp (disch := omega) only [y_I_s_I, x_I_s_I, z_I_s_J, z_I_s_A, z_I_s_B, e31_st_, e31_la, e31_se, e_t0]), ⟨by omega, by omega⟩, (by omega)⟩
    ·
      refine v_aload_n hX dX13_name_39 (i := 0) rfl rfl ?_
      refine v_iconst hX (v := iI 1) dX13_name_40 rfl ?_
      refine v_callV hX (n := 1) (k_fail (S := S31c) (x := x) (c := 1) h31c ⟨by omega, by omega⟩) (ms_kx h31c) bc_11 (by decide) w_6_202 w_6_204 (bw_p (q := (yX13_fail, 72)) (List.mem_of_getElem? (i := 40) rfl) rfl) w_1_16 w_6_205 (by decide +kernel) rfl ⟨by decide, by decide⟩ ⟨by omega, by omega⟩ (Nat.le_of_ble_eq_true rfl) rfl dX13_name_41 (fun _ _ _ q => q) ?_
      rintro r11_ S11_ z11_ ⟨rfl, f11_, v12_, v13_, rfl, b_v12_, e_v13_, b_v13_, q11_⟩
      have e11_1128 : m_I S11_ 1128 x = iI st_ := (f11_.2.2.2.1 1128 (by decide)).trans (by simp (disch := omega) only [y_I_s_I, x_I_s_I, z_I_s_J, z_I_s_A, z_I_s_B, e31_st_, e31_la, e31_se, e_t0])
      have e11_1139 : m_I S11_ 1139 x = iI la := (f11_.2.2.2.1 1139 (by decide)).trans (by simp (disch := omega) only [y_I_s_I, x_I_s_I, z_I_s_J, z_I_s_A, z_I_s_B, e31_st_, e31_la, e31_se, e_t0])
      have e11_1148 : m_I S11_ 1148 x = iI se := (f11_.2.2.2.1 1148 (by decide)).trans (by simp (disch := omega) only [y_I_s_I, x_I_s_I, z_I_s_J, z_I_s_A, z_I_s_B, e31_st_, e31_la, e31_se, e_t0])
      have h11_ : mS S11_ x := f11_.keep h31c
      have hc11_24 : ∀ i, lAt S11_ (x + 24) i = lAt S (x + 24) i := fun i => ((f11_.1 (x + 24) (by omega) (fun j hj => absurd hj List.not_mem_nil)).lA i).trans (hc31_24 i)
      exact v_ireturn hX hE dX13_name_44 (by omega) (by omega) ⟨rfl, (fr31.tr (f11_.mono (by decide) (by decide) (by decide))), v12_, v13_, rfl, ⟨by omega, by omega⟩, (by simp (disch := omega) only [y_I_s_I, x_I_s_I, z_I_s_J, z_I_s_A, z_I_s_B, e11_1128, e11_1139, e11_1148, e_v13_]), ⟨by omega, by omega⟩, (by omega)⟩
  change b_V X S z 0 0 0 [(0, .ref x), (1, .int (iI k)), (2, .int (iI what))] []
  refine v_aload_n hX dX13_name_0 (i := 0) rfl rfl ?_
  refine v_iconst hX (v := iI 0) dX13_name_1 rfl ?_
  refine v_putI hX (ci := 11) (k := 2) (f := 1102) (ms_kx h) bc_11 (by decide) (by decide) in_11 tyX13_ok nmX13 w_5_218 (Or.inl rfl) rfl rfl dX13_name_2 rfl rfl ?_
  refine v_iload_n hX dX13_name_5 (i := 2) rfl rfl ?_
  refine v_iconst hX (v := iI 0) dX13_name_6 rfl ?_
  refine v_iconst hX (v := iI 1) dX13_name_7 rfl ?_
  refine v_callS hX (n := 3) (k_within (S := (s_I S 1102 x (iI 0))) (x := 0) (v := what) (a := 0) (b := 1) ⟨by omega, by omega⟩ ⟨by omega, by omega⟩ ⟨by omega, by omega⟩) w_6_210 w_6_211 w_1_16 w_6_212 (by decide +kernel) rfl ⟨by decide, by decide⟩ ⟨by omega, by omega⟩ (Nat.le_of_ble_eq_true rfl) rfl dX13_name_8 (fun _ _ _ q => q) ?_
  rintro r14_ S14_ z14_ ⟨rfl, rfl, v15_, rfl, b_v15_, q14_⟩
  refine u_if_eq hX (tgt := 39) dX13_name_11 (by decide) ⟨by omega, by omega⟩ (fun h16_ => ?_) (fun h16_ => ?_)
  ·
    refine v_aload_n hX dX13_name_39 (i := 0) rfl rfl ?_
    refine v_iconst hX (v := iI 1) dX13_name_40 rfl ?_
    refine v_callV hX (n := 1) (k_fail (S := (s_I S 1102 x (iI 0))) (x := x) (c := 1) (mS.sI h) ⟨by omega, by omega⟩) (ms_kx (mS.sI h)) bc_11 (by decide) w_6_202 w_6_204 (bw_p (q := (yX13_fail, 72)) (List.mem_of_getElem? (i := 40) rfl) rfl) w_1_16 w_6_205 (by decide +kernel) rfl ⟨by decide, by decide⟩ ⟨by omega, by omega⟩ (Nat.le_of_ble_eq_true rfl) rfl dX13_name_41 (fun _ _ _ q => q) ?_
    rintro r17_ S17_ z17_ ⟨rfl, f17_, v18_, v19_, rfl, b_v18_, e_v19_, b_v19_, q17_⟩
    have e17_1128 : m_I S17_ 1128 x = iI st_ := (f17_.2.2.2.1 1128 (by decide)).trans (by simp (disch := omega) only [y_I_s_I, x_I_s_I, z_I_s_J, z_I_s_A, z_I_s_B, e_st_, e_la, e_se])
    have e17_1139 : m_I S17_ 1139 x = iI la := (f17_.2.2.2.1 1139 (by decide)).trans (by simp (disch := omega) only [y_I_s_I, x_I_s_I, z_I_s_J, z_I_s_A, z_I_s_B, e_st_, e_la, e_se])
    have e17_1148 : m_I S17_ 1148 x = iI se := (f17_.2.2.2.1 1148 (by decide)).trans (by simp (disch := omega) only [y_I_s_I, x_I_s_I, z_I_s_J, z_I_s_A, z_I_s_B, e_st_, e_la, e_se])
    have h17_ : mS S17_ x := f17_.keep (mS.sI h)
    have hc17_24 : ∀ i, lAt S17_ (x + 24) i = lAt S (x + 24) i := fun i => ((f17_.1 (x + 24) (by omega) (fun j hj => absurd hj List.not_mem_nil)).lA i).trans (by simp (disch := omega) only [zr_I, zr_J, zr_B, rA_A, zl_I, zl_J, zl_A, lA_B])
    exact v_ireturn hX hE dX13_name_44 (by omega) (by omega) ⟨rfl, (((mFr.rf _ _).sI (by decide)).tr (f17_.mono (by decide) (by decide) (by decide))), v18_, v19_, rfl, ⟨by omega, by omega⟩, (by simp (disch := omega) only [y_I_s_I, x_I_s_I, z_I_s_J, z_I_s_A, z_I_s_B, e17_1128, e17_1139, e17_1148, e_v19_]), ⟨by omega, by omega⟩, (by omega)⟩
  ·
    refine v_iload_n hX dX13_name_14 (i := 1) rfl rfl ?_
    refine v_iconst hX (v := iI 0) dX13_name_15 rfl ?_
    refine v_iload_n hX dX13_name_16 (i := 2) rfl rfl ?_
    refine u_if_ne hX (tgt := 27) dX13_name_17 (by decide) ⟨by omega, by omega⟩ (fun h20_ => ?_) (fun h20_ => ?_)
    ·
      refine v_aload_n hX dX13_name_27 (i := 0) rfl rfl ?_
      refine v_get hX (ci := 11) (k := 48) (ms_kx (mS.sI h)) bc_11 (by decide) (by decide) in_11 w_6_24 dX13_name_28 (mvF (f := 1148) (v := iI se) rfl rfl (by simp (disch := omega) only [y_I_s_I, x_I_s_I, z_I_s_J, z_I_s_A, z_I_s_B, e_st_, e_la, e_se])) ?_
      exact L31 _ 0 se ((mFr.rf _ _).sI (by decide)) (by simp (disch := omega) only [y_I_s_I, x_I_s_I, z_I_s_J, z_I_s_A, z_I_s_B, e_st_, e_la, e_se]) ⟨by omega, by omega⟩ (by omega)
    ·
      refine v_aload_n hX dX13_name_20 (i := 0) rfl rfl ?_
      refine v_get hX (ci := 11) (k := 39) (ms_kx (mS.sI h)) bc_11 (by decide) (by decide) in_11 w_6_15 dX13_name_21 (mvF (f := 1139) (v := iI la) rfl rfl (by simp (disch := omega) only [y_I_s_I, x_I_s_I, z_I_s_J, z_I_s_A, z_I_s_B, e_st_, e_la, e_se])) ?_
      refine v_goto hX (tgt := 31) dX13_name_24 (by decide) ?_
      exact L31 _ 0 la ((mFr.rf _ _).sI (by decide)) (by simp (disch := omega) only [y_I_s_I, x_I_s_I, z_I_s_J, z_I_s_A, z_I_s_B, e_st_, e_la, e_se]) ⟨by omega, by omega⟩ (by omega)
set_option maxRecDepth 100000 in
set_option maxHeartbeats 40000000 in
theorem k_feed {kn : Nat → Nat} {B : Nat} {S : b_M} {z x : Nat} {a : Int} {b : Int} {c : Int} {d : Int} {sz : Int} (h : mS S x) (e_sz : m_I S 1103 x = iI sz) (b_sz : -2147483648 ≤ sz ∧ sz < 2147483648) (b_a : -2147483648 ≤ a ∧ a < 2147483648) (b_b : -2147483648 ≤ b ∧ b < 2147483648) (b_c : -2147483648 ≤ c ∧ c < 2147483648) (b_d : -2147483648 ≤ d ∧ d < 2147483648) (p : 0 ≤ sz ∧ sz ≤ 4096) : b_C kn B yX13_feed cX13_feed 7 (some .int) 1 21 0 0 [.ref x, .int (iI a), .int (iI b), .int (iI c), .int (iI d)] S z (fun r S' z' => z = z' ∧ mFr [1102, 1103] [] [3] S S' x ∧ ∃ q t1 s1 : Int, r = some (.int (iI q)) ∧ (-2147483648 ≤ q ∧ q < 2147483648) ∧ m_I S' 1102 x = iI t1 ∧ (-2147483648 ≤ t1 ∧ t1 < 2147483648) ∧ m_I S' 1103 x = iI s1 ∧ (-2147483648 ≤ s1 ∧ s1 < 2147483648) ∧ ((4080 < sz ∧ t1 = 1 ∧ s1 = sz) ∨ (sz ≤ 4080 ∧ t1 = 0 ∧ s1 = sz + 16 ∧ q = s1))) (fun _ _ _ => False) := by
  refine b_enter (by decide) (Nat.le_of_ble_eq_true rfl) ?_
  intro X hX hE hnL hkn hB hI_
  subst hkn; subst hB
  clear hI_
  have L27 : ∀ (n27 : Nat) (S27c : b_M) (t0 : Int) (s0 : Int) (k : Int), mFr [1102, 1103] [] [3] S S27c x → m_I S27c 1102 x = iI t0 → m_I S27c 1103 x = iI s0 → (-2147483648 ≤ t0 ∧ t0 < 2147483648) → (-2147483648 ≤ s0 ∧ s0 < 2147483648) → (t0 = 0 ∧ s0 = sz ∧ sz ≤ 4080 ∧ 0 ≤ k ∧ k ≤ 16) → (16 - k).toNat = n27 → b_V X S27c z 0 0 27 [(5, .int (iI k)), (0, .ref x), (1, .int (iI a)), (2, .int (iI b)), (3, .int (iI c)), (4, .int (iI d))] [] := by
    intro n27
    induction n27 using Nat.strongRecOn with
    | _ n27 ih27 =>
    intro S27c t0 s0 k fr27 e_t0 e_s0 b_t0 b_s0 p27_0 hm27
    have h27c : mS S27c x := fr27.keep h
    have L68 : ∀ (S68c : b_M) (t2 : Int) (s2 : Int) (w : Int), mFr [1102, 1103] [] [3] S S68c x → m_I S68c 1102 x = iI t2 → m_I S68c 1103 x = iI s2 → (-2147483648 ≤ t2 ∧ t2 < 2147483648) → (-2147483648 ≤ s2 ∧ s2 < 2147483648) → (t2 = 0 ∧ s2 = sz ∧ k < 16) → b_V X S68c z 0 0 68 [(5, .int (iI k)), (0, .ref x), (1, .int (iI a)), (2, .int (iI b)), (3, .int (iI c)), (4, .int (iI d))] [.int (iI w)] := by
      intro S68c t2 s2 w fr68 e_t2 e_s2 b_t2 b_s2 p68_0
      have h68c : mS S68c x := fr68.keep h
      refine v_istore hX (lv' := [(6, .int (iI w)), (5, .int (iI k)), (0, .ref x), (1, .int (iI a)), (2, .int (iI b)), (3, .int (iI c)), (4, .int (iI d))]) dX13_feed_68 (by rw [hnL]; decide) rfl ?_
      refine v_aload_n hX dX13_feed_70 (i := 0) rfl rfl ?_
      refine v_get hX (ci := 11) (k := 4) (ms_kx h68c) bc_11 (by decide) (by decide) in_11 w_5_220 dX13_feed_71 (mvP (f := 1104) (q := (x + 3)) rfl rfl (ms_p_1104 h68c)) ?_
      refine v_aload_n hX dX13_feed_74 (i := 0) rfl rfl ?_
      refine v_get hX (ci := 11) (k := 3) (ms_kx h68c) bc_11 (by decide) (by decide) in_11 w_5_219 dX13_feed_75 (mvF (f := 1103) (v := iI s2) rfl rfl (by simp (disch := omega) only [y_I_s_I, x_I_s_I, z_I_s_J, z_I_s_A, z_I_s_B, e_t2, e_s2])) ?_
      refine v_iload hX dX13_feed_78 rfl ?_
      refine u_iadd hX dX13_feed_80 ?_
      refine v_iload hX dX13_feed_81 rfl ?_
      refine v_bipush hX (v := iI 24) dX13_feed_83 (by decide) ?_
      refine v_bipush hX (v := iI 8) dX13_feed_85 (by decide) ?_
      refine v_iload hX dX13_feed_87 rfl ?_
      refine v_iconst hX (v := iI 4) dX13_feed_89 rfl ?_
      refine u_irem hX dX13_feed_90 ⟨by omega, by omega⟩ (by omega) ⟨by omega, by omega⟩ (by omega) ?_
      refine u_imul hX dX13_feed_91 ?_
      refine u_isub hX dX13_feed_92 ?_
      refine u_ishr hX dX13_feed_93 (fun v1_ b_v1_ => ?_)
      refine v_sipush hX (v := iI 255) dX13_feed_94 (by decide) ?_
      refine u_iand hX dX13_feed_97 (fun v2_ b_v2_ => ?_)
      refine u_iast hX (L := 4200) (ms_k_1104 h68c) (ms_l_1104 h68c) ⟨by omega, by omega⟩ (by decide) dX13_feed_98 ?_
      refine v_iinc hX (v := iI (k + 1)) (lv' := [(5, .int (iI (k + 1))), (6, .int (iI w)), (0, .ref x), (1, .int (iI a)), (2, .int (iI b)), (3, .int (iI c)), (4, .int (iI d))]) dX13_feed_99 rfl (iI_add _ _) (by rw [hnL]; decide) rfl ?_
      refine v_goto hX (tgt := 27) dX13_feed_102 (by decide) ?_
      refine v_locals (lv' := [(5, .int (iI (k + 1))), (0, .ref x), (1, .int (iI a)), (2, .int (iI b)), (3, .int (iI c)), (4, .int (iI d))]) (by simp) ?_
      exact ih27 _ (by omega) _ t2 s2 (k + 1) (fr68.sA (by decide)) (by simp (disch := omega) only [y_I_s_I, x_I_s_I, z_I_s_J, z_I_s_A, z_I_s_B, e_t2, e_s2]) (by simp (disch := omega) only [y_I_s_I, x_I_s_I, z_I_s_J, z_I_s_A, z_I_s_B, e_t2, e_s2]) ⟨by omega, by omega⟩ ⟨by omega, by omega⟩ (by omega) rfl
    refine v_iload hX dX13_feed_27 rfl ?_
    refine v_bipush hX (v := iI 16) dX13_feed_29 (by decide) ?_
    refine u_icmp_ge hX (tgt := 105) dX13_feed_31 (by decide) ⟨by omega, by omega⟩ ⟨by omega, by omega⟩ (fun h3_ => ?_) (fun h3_ => ?_)
    ·
      refine v_aload_n hX dX13_feed_105 (i := 0) rfl rfl ?_
      refine v_dup hX dX13_feed_106 rfl ?_
      refine v_get hX (ci := 11) (k := 3) (ms_kx h27c) bc_11 (by decide) (by decide) in_11 w_5_219 dX13_feed_107 (mvF (f := 1103) (v := iI s0) rfl rfl (by simp (disch := omega) only [y_I_s_I, x_I_s_I, z_I_s_J, z_I_s_A, z_I_s_B, e_t0, e_s0])) ?_
      refine v_bipush hX (v := iI 16) dX13_feed_110 (by decide) ?_
      refine u_iadd hX dX13_feed_112 ?_
      refine v_putI hX (ci := 11) (k := 3) (f := 1103) (ms_kx h27c) bc_11 (by decide) (by decide) in_11 tyX13_ok nmX13 w_5_219 (Or.inl rfl) rfl rfl dX13_feed_113 rfl rfl ?_
      refine v_aload_n hX dX13_feed_116 (i := 0) rfl rfl ?_
      refine v_get hX (ci := 11) (k := 3) (ms_kx (mS.sI h27c)) bc_11 (by decide) (by decide) in_11 w_5_219 dX13_feed_117 (mvF (f := 1103) (v := iI (s0 + 16)) rfl rfl (by simp (disch := omega) only [y_I_s_I, x_I_s_I, z_I_s_J, z_I_s_A, z_I_s_B, e_t0, e_s0])) ?_
      exact v_ireturn hX hE dX13_feed_120 (by omega) (by omega) ⟨rfl, (fr27.sI (by decide)), (s0 + 16), t0, (s0 + 16), rfl, ⟨by omega, by omega⟩, (by simp (disch := omega) only [y_I_s_I, x_I_s_I, z_I_s_J, z_I_s_A, z_I_s_B, e_t0, e_s0]), ⟨by omega, by omega⟩, (by simp (disch := omega) only [y_I_s_I, x_I_s_I, z_I_s_J, z_I_s_A, z_I_s_B, e_t0, e_s0]), ⟨by omega, by omega⟩, (by omega)⟩
    ·
      refine v_iload hX dX13_feed_34 rfl ?_
      refine v_iconst hX (v := iI 4) dX13_feed_36 rfl ?_
      refine u_icmp_ge hX (tgt := 44) dX13_feed_37 (by decide) ⟨by omega, by omega⟩ ⟨by omega, by omega⟩ (fun h4_ => ?_) (fun h4_ => ?_)
      ·
        refine v_iload hX dX13_feed_44 rfl ?_
        refine v_bipush hX (v := iI 8) dX13_feed_46 (by decide) ?_
        refine u_icmp_ge hX (tgt := 55) dX13_feed_48 (by decide) ⟨by omega, by omega⟩ ⟨by omega, by omega⟩ (fun h5_ => ?_) (fun h5_ => ?_)
        ·
          refine v_iload hX dX13_feed_55 rfl ?_
          refine v_bipush hX (v := iI 12) dX13_feed_57 (by decide) ?_
          refine u_icmp_ge hX (tgt := 66) dX13_feed_59 (by decide) ⟨by omega, by omega⟩ ⟨by omega, by omega⟩ (fun h6_ => ?_) (fun h6_ => ?_)
          ·
            refine v_iload hX dX13_feed_66 rfl ?_
            exact L68 _ t0 s0 d fr27 (by simp (disch := omega) only [y_I_s_I, x_I_s_I, z_I_s_J, z_I_s_A, z_I_s_B, e_t0, e_s0]) (by simp (disch := omega) only [y_I_s_I, x_I_s_I, z_I_s_J, z_I_s_A, z_I_s_B, e_t0, e_s0]) ⟨by omega, by omega⟩ ⟨by omega, by omega⟩ (by omega)
          ·
            refine v_iload_n hX dX13_feed_62 (i := 3) rfl rfl ?_
            refine v_goto hX (tgt := 68) dX13_feed_63 (by decide) ?_
            exact L68 _ t0 s0 c fr27 (by simp (disch := omega) only [y_I_s_I, x_I_s_I, z_I_s_J, z_I_s_A, z_I_s_B, e_t0, e_s0]) (by simp (disch := omega) only [y_I_s_I, x_I_s_I, z_I_s_J, z_I_s_A, z_I_s_B, e_t0, e_s0]) ⟨by omega, by omega⟩ ⟨by omega, by omega⟩ (by omega)
        ·
          refine v_iload_n hX dX13_feed_51 (i := 2) rfl rfl ?_
          refine v_goto hX (tgt := 68) dX13_feed_52 (by decide) ?_
          exact L68 _ t0 s0 b fr27 (by simp (disch := omega) only [y_I_s_I, x_I_s_I, z_I_s_J, z_I_s_A, z_I_s_B, e_t0, e_s0]) (by simp (disch := omega) only [y_I_s_I, x_I_s_I, z_I_s_J, z_I_s_A, z_I_s_B, e_t0, e_s0]) ⟨by omega, by omega⟩ ⟨by omega, by omega⟩ (by omega)
      ·
        refine v_iload_n hX dX13_feed_40 (i := 1) rfl rfl ?_
        refine v_goto hX (tgt := 68) dX13_feed_41 (by decide) ?_
        exact L68 _ t0 s0 a fr27 (by simp (disch := omega) only [y_I_s_I, x_I_s_I, z_I_s_J, z_I_s_A, z_I_s_B, e_t0, e_s0]) (by simp (disch := omega) only [y_I_s_I, x_I_s_I, z_I_s_J, z_I_s_A, z_I_s_B, e_t0, e_s0]) ⟨by omega, by omega⟩ ⟨by omega, by omega⟩ (by omega)
  change b_V X S z 0 0 0 [(0, .ref x), (1, .int (iI a)), (2, .int (iI b)), (3, .int (iI c)), (4, .int (iI d))] []
  refine v_aload_n hX dX13_feed_0 (i := 0) rfl rfl ?_
  refine v_iconst hX (v := iI 0) dX13_feed_1 rfl ?_
  refine v_putI hX (ci := 11) (k := 2) (f := 1102) (ms_kx h) bc_11 (by decide) (by decide) in_11 tyX13_ok nmX13 w_5_218 (Or.inl rfl) rfl rfl dX13_feed_2 rfl rfl ?_
  refine v_aload_n hX dX13_feed_5 (i := 0) rfl rfl ?_
  refine v_get hX (ci := 11) (k := 3) (ms_kx (mS.sI h)) bc_11 (by decide) (by decide) in_11 w_5_219 dX13_feed_6 (mvF (f := 1103) (v := iI sz) rfl rfl (by simp (disch := omega) only [y_I_s_I, x_I_s_I, z_I_s_J, z_I_s_A, z_I_s_B, e_sz])) ?_
  refine v_bipush hX (v := iI 16) dX13_feed_9 (by decide) ?_
  refine u_iadd hX dX13_feed_11 ?_
  refine v_sipush hX (v := iI 4096) dX13_feed_12 (by decide) ?_
  refine u_icmp_le hX (tgt := 24) dX13_feed_15 (by decide) ⟨by omega, by omega⟩ ⟨by omega, by omega⟩ (fun h7_ => ?_) (fun h7_ => ?_)
  ·
    refine v_iconst hX (v := iI 0) dX13_feed_24 rfl ?_
    refine v_istore hX (lv' := [(5, .int (iI 0)), (0, .ref x), (1, .int (iI a)), (2, .int (iI b)), (3, .int (iI c)), (4, .int (iI d))]) dX13_feed_25 (by rw [hnL]; decide) rfl ?_
    exact L27 _ _ 0 sz 0 ((mFr.rf _ _).sI (by decide)) (by simp (disch := omega) only [y_I_s_I, x_I_s_I, z_I_s_J, z_I_s_A, z_I_s_B, e_sz]) (by simp (disch := omega) only [y_I_s_I, x_I_s_I, z_I_s_J, z_I_s_A, z_I_s_B, e_sz]) ⟨by omega, by omega⟩ ⟨by omega, by omega⟩ (by omega) rfl
  ·
    refine v_aload_n hX dX13_feed_18 (i := 0) rfl rfl ?_
    refine v_iconst hX (v := iI 1) dX13_feed_19 rfl ?_
    refine v_callV hX (n := 1) (k_fail (S := (s_I S 1102 x (iI 0))) (x := x) (c := 1) (mS.sI h) ⟨by omega, by omega⟩) (ms_kx (mS.sI h)) bc_11 (by decide) w_6_202 w_6_204 (bw_p (q := (yX13_fail, 72)) (List.mem_of_getElem? (i := 40) rfl) rfl) w_1_16 w_6_205 (by decide +kernel) rfl ⟨by decide, by decide⟩ ⟨by omega, by omega⟩ (Nat.le_of_ble_eq_true rfl) rfl dX13_feed_20 (fun _ _ _ q => q) ?_
    rintro r8_ S8_ z8_ ⟨rfl, f8_, v9_, v10_, rfl, b_v9_, e_v10_, b_v10_, q8_⟩
    have e8_1103 : m_I S8_ 1103 x = iI sz := (f8_.2.2.2.1 1103 (by decide)).trans (by simp (disch := omega) only [y_I_s_I, x_I_s_I, z_I_s_J, z_I_s_A, z_I_s_B, e_sz])
    have h8_ : mS S8_ x := f8_.keep (mS.sI h)
    exact v_ireturn hX hE dX13_feed_23 (by omega) (by omega) ⟨rfl, (((mFr.rf _ _).sI (by decide)).tr (f8_.mono (by decide) (by decide) (by decide))), v9_, v10_, sz, rfl, ⟨by omega, by omega⟩, (by simp (disch := omega) only [y_I_s_I, x_I_s_I, z_I_s_J, z_I_s_A, z_I_s_B, e8_1103, e_v10_]), ⟨by omega, by omega⟩, (by simp (disch := omega) only [y_I_s_I, x_I_s_I, z_I_s_J, z_I_s_A, z_I_s_B, e8_1103, e_v10_]), ⟨by omega, by omega⟩, (by omega)⟩
set_option maxRecDepth 100000 in
set_option maxHeartbeats 40000000 in
theorem k_end {kn : Nat → Nat} {B : Nat} {S : b_M} {z x : Nat} {n : Int} {sz : Int} (h : mS S x) (e_sz : m_I S 1103 x = iI sz) (b_sz : -2147483648 ≤ sz ∧ sz < 2147483648) (b_n : -2147483648 ≤ n ∧ n < 2147483648) (p : 0 ≤ sz ∧ sz ≤ 4096) : b_C kn B yX13_end cX13_end 2 (some .int) 1 22 0 0 [.ref x, .int (iI n)] S z (fun r S' z' => z = z' ∧ mFr [1102, 1103] [] [] S S' x ∧ ∃ q t1 s1 : Int, r = some (.int (iI q)) ∧ (-2147483648 ≤ q ∧ q < 2147483648) ∧ m_I S' 1102 x = iI t1 ∧ (-2147483648 ≤ t1 ∧ t1 < 2147483648) ∧ m_I S' 1103 x = iI s1 ∧ (-2147483648 ≤ s1 ∧ s1 < 2147483648) ∧ ((¬ (0 ≤ n ∧ n ≤ 16) ∧ t1 = 1 ∧ s1 = sz) ∨ (0 ≤ n ∧ n ≤ 16 ∧ sz < 16 ∧ t1 = 2 ∧ s1 = sz) ∨ (0 ≤ n ∧ n ≤ 16 ∧ 16 ≤ sz ∧ t1 = 0 ∧ s1 = sz - 16 + n ∧ q = s1))) (fun _ _ _ => False) := by
  refine b_enter (by decide) (Nat.le_of_ble_eq_true rfl) ?_
  intro X hX hE hnL hkn hB hI_
  subst hkn; subst hB
  clear hI_
  change b_V X S z 0 0 0 [(0, .ref x), (1, .int (iI n))] []
  refine v_aload_n hX dX13_end_0 (i := 0) rfl rfl ?_
  refine v_iconst hX (v := iI 0) dX13_end_1 rfl ?_
  refine v_putI hX (ci := 11) (k := 2) (f := 1102) (ms_kx h) bc_11 (by decide) (by decide) in_11 tyX13_ok nmX13 w_5_218 (Or.inl rfl) rfl rfl dX13_end_2 rfl rfl ?_
  refine v_iload_n hX dX13_end_5 (i := 1) rfl rfl ?_
  refine v_iconst hX (v := iI 0) dX13_end_6 rfl ?_
  refine v_bipush hX (v := iI 16) dX13_end_7 (by decide) ?_
  refine v_callS hX (n := 3) (k_within (S := (s_I S 1102 x (iI 0))) (x := 0) (v := n) (a := 0) (b := 16) ⟨by omega, by omega⟩ ⟨by omega, by omega⟩ ⟨by omega, by omega⟩) w_6_210 w_6_211 w_1_16 w_6_212 (by decide +kernel) rfl ⟨by decide, by decide⟩ ⟨by omega, by omega⟩ (Nat.le_of_ble_eq_true rfl) rfl dX13_end_9 (fun _ _ _ q => q) ?_
  rintro r1_ S1_ z1_ ⟨rfl, rfl, v2_, rfl, b_v2_, q1_⟩
  refine u_if_ne hX (tgt := 21) dX13_end_12 (by decide) ⟨by omega, by omega⟩ (fun h3_ => ?_) (fun h3_ => ?_)
  ·
    refine v_aload_n hX dX13_end_21 (i := 0) rfl rfl ?_
    refine v_get hX (ci := 11) (k := 3) (ms_kx (mS.sI h)) bc_11 (by decide) (by decide) in_11 w_5_219 dX13_end_22 (mvF (f := 1103) (v := iI sz) rfl rfl (by simp (disch := omega) only [y_I_s_I, x_I_s_I, z_I_s_J, z_I_s_A, z_I_s_B, e_sz])) ?_
    refine v_bipush hX (v := iI 16) dX13_end_25 (by decide) ?_
    refine u_icmp_ge hX (tgt := 36) dX13_end_27 (by decide) ⟨by omega, by omega⟩ ⟨by omega, by omega⟩ (fun h4_ => ?_) (fun h4_ => ?_)
    ·
      refine v_aload_n hX dX13_end_36 (i := 0) rfl rfl ?_
      refine v_dup hX dX13_end_37 rfl ?_
      refine v_get hX (ci := 11) (k := 3) (ms_kx (mS.sI h)) bc_11 (by decide) (by decide) in_11 w_5_219 dX13_end_38 (mvF (f := 1103) (v := iI sz) rfl rfl (by simp (disch := omega) only [y_I_s_I, x_I_s_I, z_I_s_J, z_I_s_A, z_I_s_B, e_sz])) ?_
      refine v_bipush hX (v := iI 16) dX13_end_41 (by decide) ?_
      refine v_iload_n hX dX13_end_43 (i := 1) rfl rfl ?_
      refine u_isub hX dX13_end_44 ?_
      refine u_isub hX dX13_end_45 ?_
      refine v_putI hX (ci := 11) (k := 3) (f := 1103) (ms_kx (mS.sI h)) bc_11 (by decide) (by decide) in_11 tyX13_ok nmX13 w_5_219 (Or.inl rfl) rfl rfl dX13_end_46 rfl rfl ?_
      refine v_aload_n hX dX13_end_49 (i := 0) rfl rfl ?_
      refine v_get hX (ci := 11) (k := 3) (ms_kx (mS.sI (mS.sI h))) bc_11 (by decide) (by decide) in_11 w_5_219 dX13_end_50 (mvF (f := 1103) (v := iI (sz - (16 - n))) rfl rfl (by simp (disch := omega) only [y_I_s_I, x_I_s_I, z_I_s_J, z_I_s_A, z_I_s_B, e_sz])) ?_
      exact v_ireturn hX hE dX13_end_53 (by omega) (by omega) ⟨rfl, (((mFr.rf _ _).sI (by decide)).sI (by decide)), (sz - (16 - n)), 0, (sz - (16 - n)), rfl, ⟨by omega, by omega⟩, (by simp (disch := omega) only [y_I_s_I, x_I_s_I, z_I_s_J, z_I_s_A, z_I_s_B, e_sz]), ⟨by omega, by omega⟩, (by simp (disch := omega) only [y_I_s_I, x_I_s_I, z_I_s_J, z_I_s_A, z_I_s_B, e_sz]), ⟨by omega, by omega⟩, (by omega)⟩
    ·
      refine v_aload_n hX dX13_end_30 (i := 0) rfl rfl ?_
      refine v_iconst hX (v := iI 2) dX13_end_31 rfl ?_
      refine v_callV hX (n := 1) (k_fail (S := (s_I S 1102 x (iI 0))) (x := x) (c := 2) (mS.sI h) ⟨by omega, by omega⟩) (ms_kx (mS.sI h)) bc_11 (by decide) w_6_202 w_6_204 (bw_p (q := (yX13_fail, 72)) (List.mem_of_getElem? (i := 40) rfl) rfl) w_1_16 w_6_205 (by decide +kernel) rfl ⟨by decide, by decide⟩ ⟨by omega, by omega⟩ (Nat.le_of_ble_eq_true rfl) rfl dX13_end_32 (fun _ _ _ q => q) ?_
      rintro r5_ S5_ z5_ ⟨rfl, f5_, v6_, v7_, rfl, b_v6_, e_v7_, b_v7_, q5_⟩
      have e5_1103 : m_I S5_ 1103 x = iI sz := (f5_.2.2.2.1 1103 (by decide)).trans (by simp (disch := omega) only [y_I_s_I, x_I_s_I, z_I_s_J, z_I_s_A, z_I_s_B, e_sz])
      have h5_ : mS S5_ x := f5_.keep (mS.sI h)
      exact v_ireturn hX hE dX13_end_35 (by omega) (by omega) ⟨rfl, (((mFr.rf _ _).sI (by decide)).tr (f5_.mono (by decide) (by decide) (by decide))), v6_, v7_, sz, rfl, ⟨by omega, by omega⟩, (by simp (disch := omega) only [y_I_s_I, x_I_s_I, z_I_s_J, z_I_s_A, z_I_s_B, e5_1103, e_v7_]), ⟨by omega, by omega⟩, (by simp (disch := omega) only [y_I_s_I, x_I_s_I, z_I_s_J, z_I_s_A, z_I_s_B, e5_1103, e_v7_]), ⟨by omega, by omega⟩, (by omega)⟩
  ·
    refine v_aload_n hX dX13_end_15 (i := 0) rfl rfl ?_
    refine v_iconst hX (v := iI 1) dX13_end_16 rfl ?_
    refine v_callV hX (n := 1) (k_fail (S := (s_I S 1102 x (iI 0))) (x := x) (c := 1) (mS.sI h) ⟨by omega, by omega⟩) (ms_kx (mS.sI h)) bc_11 (by decide) w_6_202 w_6_204 (bw_p (q := (yX13_fail, 72)) (List.mem_of_getElem? (i := 40) rfl) rfl) w_1_16 w_6_205 (by decide +kernel) rfl ⟨by decide, by decide⟩ ⟨by omega, by omega⟩ (Nat.le_of_ble_eq_true rfl) rfl dX13_end_17 (fun _ _ _ q => q) ?_
    rintro r8_ S8_ z8_ ⟨rfl, f8_, v9_, v10_, rfl, b_v9_, e_v10_, b_v10_, q8_⟩
    have e8_1103 : m_I S8_ 1103 x = iI sz := (f8_.2.2.2.1 1103 (by decide)).trans (by simp (disch := omega) only [y_I_s_I, x_I_s_I, z_I_s_J, z_I_s_A, z_I_s_B, e_sz])
    have h8_ : mS S8_ x := f8_.keep (mS.sI h)
    exact v_ireturn hX hE dX13_end_20 (by omega) (by omega) ⟨rfl, (((mFr.rf _ _).sI (by decide)).tr (f8_.mono (by decide) (by decide) (by decide))), v9_, v10_, sz, rfl, ⟨by omega, by omega⟩, (by simp (disch := omega) only [y_I_s_I, x_I_s_I, z_I_s_J, z_I_s_A, z_I_s_B, e8_1103, e_v10_]), ⟨by omega, by omega⟩, (by simp (disch := omega) only [y_I_s_I, x_I_s_I, z_I_s_J, z_I_s_A, z_I_s_B, e8_1103, e_v10_]), ⟨by omega, by omega⟩, (by omega)⟩
