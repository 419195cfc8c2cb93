/-- macros: their bodies lie among the first bo lines kept -/
def mOk (S : b_M) (x : Nat) (mc bo : Int) : Prop := (0 ≤ mc ∧ mc ≤ 12 ∧ 0 ≤ bo ∧ bo ≤ 4200) ∧ ∀ m : Int, 0 ≤ m → m < mc → 0 ≤ rAt S (x + 7) m ∧ 0 ≤ rAt S (x + 8) m ∧ rAt S (x + 7) m + rAt S (x + 8) m ≤ bo
def bOk (S : b_M) (x : Nat) (bo : Int) : Prop := ∀ l : Int, 0 ≤ l → l < bo → 0 ≤ rAt S (x + 9) l ∧ rAt S (x + 9) l ≤ 4200 ∧ rAt S (x + 10) l ≤ 4200
/-- the calls under way: each somewhere in its body -/
def cOk (S : b_M) (x : Nat) (fs mc : Int) : Prop := (0 ≤ fs ∧ fs ≤ 6) ∧ ∀ f : Int, 0 ≤ f → f < fs → 0 ≤ rAt S (x + 11) f ∧ rAt S (x + 11) f < mc ∧ 0 ≤ rAt S (x + 12) f ∧ rAt S (x + 12) f ≤ rAt S (x + 8) (rAt S (x + 11) f) ∧ 1 ≤ rAt S (x + 13) f ∧ rAt S (x + 13) f ≤ 100
/-- their arguments -/
def aOk (S : b_M) (x : Nat) (fs : Int) : Prop := ∀ q : Int, 0 ≤ q → q < 4 * fs → 0 ≤ rAt S (x + 14) q ∧ rAt S (x + 14) q ≤ rAt S (x + 15) q ∧ rAt S (x + 15) q ≤ 8400
set_option maxRecDepth 100000 in
set_option maxHeartbeats 4000000 in
theorem k_nextLine {kn : Nat → Nat} {B : Nat} {S : b_M} {z x : Nat} {fs : Int} {az : Int} {mc : Int} {bo : Int} (h : mS S x) (e_fs : m_I S 1120 x = iI fs) (b_fs : -2147483648 ≤ fs ∧ fs < 2147483648) (e_az : m_I S 1127 x = iI az) (b_az : -2147483648 ≤ az ∧ az < 2147483648) (mk_ : mOk S x mc bo) (bk : bOk S x bo) (co : cOk S x fs mc) (ao : aOk S x fs) (p : 1 ≤ fs) : b_C kn B yX13_nextLine cX13_nextLine 7 (some .boolean) 1 22 0 0 [.ref x] S z (fun r S' z' => z = z' ∧ mFr [1120, 1127, 1107] [] [12, 5] S S' x ∧ ∃ q f1 l1 z1 : Int, r = some (.int (iI q)) ∧ (-2147483648 ≤ q ∧ q < 2147483648) ∧ m_I S' 1120 x = iI f1 ∧ (-2147483648 ≤ f1 ∧ f1 < 2147483648) ∧ m_I S' 1107 x = iI l1 ∧ (-2147483648 ≤ l1 ∧ l1 < 2147483648) ∧ m_I S' 1127 x = iI z1 ∧ (-2147483648 ≤ z1 ∧ z1 < 2147483648) ∧ ((q = 0 ∧ f1 = fs - 1 ∧ z1 = rAt S (x + 14) (4 * (fs - 1))) ∨ (q = 1 ∧ f1 = fs ∧ z1 = az ∧ 0 ≤ l1 ∧ l1 ≤ 110)) ∧ (q = 1 → (∀ j : Int, 0 ≤ j → j ≠ fs - 1 → rAt S' (x + 12) j = rAt S (x + 12) j) ∧ rAt S' (x + 12) (fs - 1) = rAt S (x + 12) (fs - 1) + 1) ∧ (q = 0 → ∀ j : Int, rAt S' (x + 12) j = rAt S (x + 12) j) ∧ (q = 1 → rAt S (x + 12) (fs - 1) < rAt S (x + 8) (rAt S (x + 11) (fs - 1)))) (fun _ _ _ => False) := by
  refine b_enter (by decide) (Nat.le_of_ble_eq_true rfl) ?_
  intro X hX hE hnL hkn hB hI_
  subst hkn; subst hB
  clear hI_
  have L90 : ∀ (n90 : Nat) (S90c : b_M) (f0 : Int) (ls0 : Int) (z0 : Int) (i : Int) (l : Int) (m : Int) (f : Int), mFr [1120, 1127, 1107] [] [12, 5] S S90c x → m_I S90c 1120 x = iI f0 → m_I S90c 1107 x = iI ls0 → m_I S90c 1127 x = iI z0 → (-2147483648 ≤ f0 ∧ f0 < 2147483648) → (-2147483648 ≤ ls0 ∧ ls0 < 2147483648) → (-2147483648 ≤ z0 ∧ z0 < 2147483648) → (f = fs - 1 ∧ f0 = fs ∧ 0 ≤ l ∧ l < bo ∧ bo ≤ 4200 ∧ 1 ≤ fs ∧ fs ≤ 6 ∧ z0 = az ∧ 0 ≤ i ∧ i ≤ 4202 ∧ 0 ≤ ls0 ∧ ls0 ≤ 104) → ((∀ j : Int, 0 ≤ j → j ≠ fs - 1 → rAt S90c (x + 12) j = rAt S (x + 12) j) ∧ rAt S90c (x + 12) (fs - 1) = rAt S (x + 12) (fs - 1) + 1) → (m = rAt S (x + 11) (fs - 1) ∧ rAt S (x + 12) (fs - 1) < rAt S (x + 8) m) → (4203 - i).toNat = n90 → b_V X S90c z 0 0 90 [(4, .int (iI i)), (3, .int (iI l)), (2, .int (iI m)), (1, .int (iI f)), (0, .ref x)] [] := by
    intro n90
    induction n90 using Nat.strongRecOn with
    | _ n90 ih90 =>
    intro S90c f0 ls0 z0 i l m f fr90 e_f0 e_ls0 e_z0 b_f0 b_ls0 b_z0 p90_0 p90_1 p90_2 hm90
    have h90c : mS S90c x := fr90.keep h
    have hc90_11 : ∀ i, rAt S90c (x + 11) i = rAt S (x + 11) i := fun i => (fr90.1 (x + 11) (by omega) (by intro j hj; simp only [List.mem_cons, List.not_mem_nil, or_false] at hj; omega)).rA i
    have hc90_8 : ∀ i, rAt S90c (x + 8) i = rAt S (x + 8) i := fun i => (fr90.1 (x + 8) (by omega) (by intro j hj; simp only [List.mem_cons, List.not_mem_nil, or_false] at hj; omega)).rA i
    have hc90_7 : ∀ i, rAt S90c (x + 7) i = rAt S (x + 7) i := fun i => (fr90.1 (x + 7) (by omega) (by intro j hj; simp only [List.mem_cons, List.not_mem_nil, or_false] at hj; omega)).rA i
    have hc90_9 : ∀ i, rAt S90c (x + 9) i = rAt S (x + 9) i := fun i => (fr90.1 (x + 9) (by omega) (by intro j hj; simp only [List.mem_cons, List.not_mem_nil, or_false] at hj; omega)).rA i
    have hc90_10 : ∀ i, rAt S90c (x + 10) i = rAt S (x + 10) i := fun i => (fr90.1 (x + 10) (by omega) (by intro j hj; simp only [List.mem_cons, List.not_mem_nil, or_false] at hj; omega)).rA i
    have hc90_4 : ∀ i, rAt S90c (x + 4) i = rAt S (x + 4) i := fun i => (fr90.1 (x + 4) (by omega) (by intro j hj; simp only [List.mem_cons, List.not_mem_nil, or_false] at hj; omega)).rA i
    have hc90_14 : ∀ i, rAt S90c (x + 14) i = rAt S (x + 14) i := fun i => (fr90.1 (x + 14) (by omega) (by intro j hj; simp only [List.mem_cons, List.not_mem_nil, or_false] at hj; omega)).rA i
    have hc90_15 : ∀ i, rAt S90c (x + 15) i = rAt S (x + 15) i := fun i => (fr90.1 (x + 15) (by omega) (by intro j hj; simp only [List.mem_cons, List.not_mem_nil, or_false] at hj; omega)).rA i
    have hc90_16 : ∀ i, rAt S90c (x + 16) i = rAt S (x + 16) i := fun i => (fr90.1 (x + 16) (by omega) (by intro j hj; simp only [List.mem_cons, List.not_mem_nil, or_false] at hj; omega)).rA i
    have hc90_13 : ∀ i, rAt S90c (x + 13) i = rAt S (x + 13) i := fun i => (fr90.1 (x + 13) (by omega) (by intro j hj; simp only [List.mem_cons, List.not_mem_nil, or_false] at hj; omega)).rA i
    have L148 : ∀ (S148c : b_M) (f2 : Int) (ls2 : Int) (z2_ : Int) (cv : Int), mFr [1120, 1127, 1107] [] [12, 5] S S148c x → m_I S148c 1120 x = iI f2 → m_I S148c 1107 x = iI ls2 → m_I S148c 1127 x = iI z2_ → (-2147483648 ≤ f2 ∧ f2 < 2147483648) → (-2147483648 ≤ ls2 ∧ ls2 < 2147483648) → (-2147483648 ≤ z2_ ∧ z2_ < 2147483648) → ((-2147483648 ≤ cv ∧ cv < 2147483648) ∧ i < 4200 ∧ z2_ = az ∧ ls2 = ls0 ∧ ls0 ≤ 100 ∧ f2 = fs ∧ (cv = -1 ∨ i + 1 < 4200)) → ((∀ j : Int, 0 ≤ j → j ≠ fs - 1 → rAt S148c (x + 12) j = rAt S (x + 12) j) ∧ rAt S148c (x + 12) (fs - 1) = rAt S (x + 12) (fs - 1) + 1) → b_V X S148c z 0 0 148 [(4, .int (iI i)), (3, .int (iI l)), (2, .int (iI m)), (1, .int (iI f)), (0, .ref x)] [.int (iI cv)] := by
      intro S148c f2 ls2 z2_ cv fr148 e_f2 e_ls2 e_z2_ b_f2 b_ls2 b_z2_ p148_0 p148_1
      have h148c : mS S148c x := fr148.keep h
      have hc148_11 : ∀ i, rAt S148c (x + 11) i = rAt S (x + 11) i := fun i => (fr148.1 (x + 11) (by omega) (by intro j hj; simp only [List.mem_cons, List.not_mem_nil, or_false] at hj; omega)).rA i
      have hc148_8 : ∀ i, rAt S148c (x + 8) i = rAt S (x + 8) i := fun i => (fr148.1 (x + 8) (by omega) (by intro j hj; simp only [List.mem_cons, List.not_mem_nil, or_false] at hj; omega)).rA i
      have hc148_7 : ∀ i, rAt S148c (x + 7) i = rAt S (x + 7) i := fun i => (fr148.1 (x + 7) (by omega) (by intro j hj; simp only [List.mem_cons, List.not_mem_nil, or_false] at hj; omega)).rA i
      have hc148_9 : ∀ i, rAt S148c (x + 9) i = rAt S (x + 9) i := fun i => (fr148.1 (x + 9) (by omega) (by intro j hj; simp only [List.mem_cons, List.not_mem_nil, or_false] at hj; omega)).rA i
      have hc148_10 : ∀ i, rAt S148c (x + 10) i = rAt S (x + 10) i := fun i => (fr148.1 (x + 10) (by omega) (by intro j hj; simp only [List.mem_cons, List.not_mem_nil, or_false] at hj; omega)).rA i
      have hc148_4 : ∀ i, rAt S148c (x + 4) i = rAt S (x + 4) i := fun i => (fr148.1 (x + 4) (by omega) (by intro j hj; simp only [List.mem_cons, List.not_mem_nil, or_false] at hj; omega)).rA i
      have hc148_14 : ∀ i, rAt S148c (x + 14) i = rAt S (x + 14) i := fun i => (fr148.1 (x + 14) (by omega) (by intro j hj; simp only [List.mem_cons, List.not_mem_nil, or_false] at hj; omega)).rA i
      have hc148_15 : ∀ i, rAt S148c (x + 15) i = rAt S (x + 15) i := fun i => (fr148.1 (x + 15) (by omega) (by intro j hj; simp only [List.mem_cons, List.not_mem_nil, or_false] at hj; omega)).rA i
      have hc148_16 : ∀ i, rAt S148c (x + 16) i = rAt S (x + 16) i := fun i => (fr148.1 (x + 16) (by omega) (by intro j hj; simp only [List.mem_cons, List.not_mem_nil, or_false] at hj; omega)).rA i
      have hc148_13 : ∀ i, rAt S148c (x + 13) i = rAt S (x + 13) i := fun i => (fr148.1 (x + 13) (by omega) (by intro j hj; simp only [List.mem_cons, List.not_mem_nil, or_false] at hj; omega)).rA i
      have L293 : ∀ (S293c : b_M) (f5 : Int) (ls5 : Int) (z5_ : Int), mFr [1120, 1127, 1107] [] [12, 5] S S293c x → m_I S293c 1120 x = iI f5 → m_I S293c 1107 x = iI ls5 → m_I S293c 1127 x = iI z5_ → (-2147483648 ≤ f5 ∧ f5 < 2147483648) → (-2147483648 ≤ ls5 ∧ ls5 < 2147483648) → (-2147483648 ≤ z5_ ∧ z5_ < 2147483648) → (z5_ = az ∧ 0 ≤ ls5 ∧ ls5 ≤ 102 ∧ f5 = fs ∧ i + 1 < 4200) → ((∀ j : Int, 0 ≤ j → j ≠ fs - 1 → rAt S293c (x + 12) j = rAt S (x + 12) j) ∧ rAt S293c (x + 12) (fs - 1) = rAt S (x + 12) (fs - 1) + 1) → b_V X S293c z 0 0 293 [(5, .int (iI cv)), (4, .int (iI i)), (3, .int (iI l)), (2, .int (iI m)), (1, .int (iI f)), (0, .ref x)] [] := by
        intro S293c f5 ls5 z5_ fr293 e_f5 e_ls5 e_z5_ b_f5 b_ls5 b_z5_ p293_0 p293_1
        have h293c : mS S293c x := fr293.keep h
        have hc293_11 : ∀ i, rAt S293c (x + 11) i = rAt S (x + 11) i := fun i => (fr293.1 (x + 11) (by omega) (by intro j hj; simp only [List.mem_cons, List.not_mem_nil, or_false] at hj; omega)).rA i
        have hc293_8 : ∀ i, rAt S293c (x + 8) i = rAt S (x + 8) i := fun i => (fr293.1 (x + 8) (by omega) (by intro j hj; simp only [List.mem_cons, List.not_mem_nil, or_false] at hj; omega)).rA i
        have hc293_7 : ∀ i, rAt S293c (x + 7) i = rAt S (x + 7) i := fun i => (fr293.1 (x + 7) (by omega) (by intro j hj; simp only [List.mem_cons, List.not_mem_nil, or_false] at hj; omega)).rA i
        have hc293_9 : ∀ i, rAt S293c (x + 9) i = rAt S (x + 9) i := fun i => (fr293.1 (x + 9) (by omega) (by intro j hj; simp only [List.mem_cons, List.not_mem_nil, or_false] at hj; omega)).rA i
        have hc293_10 : ∀ i, rAt S293c (x + 10) i = rAt S (x + 10) i := fun i => (fr293.1 (x + 10) (by omega) (by intro j hj; simp only [List.mem_cons, List.not_mem_nil, or_false] at hj; omega)).rA i
        have hc293_4 : ∀ i, rAt S293c (x + 4) i = rAt S (x + 4) i := fun i => (fr293.1 (x + 4) (by omega) (by intro j hj; simp only [List.mem_cons, List.not_mem_nil, or_false] at hj; omega)).rA i
        have hc293_14 : ∀ i, rAt S293c (x + 14) i = rAt S (x + 14) i := fun i => (fr293.1 (x + 14) (by omega) (by intro j hj; simp only [List.mem_cons, List.not_mem_nil, or_false] at hj; omega)).rA i
        have hc293_15 : ∀ i, rAt S293c (x + 15) i = rAt S (x + 15) i := fun i => (fr293.1 (x + 15) (by omega) (by intro j hj; simp only [List.mem_cons, List.not_mem_nil, or_false] at hj; omega)).rA i
        have hc293_16 : ∀ i, rAt S293c (x + 16) i = rAt S (x + 16) i := fun i => (fr293.1 (x + 16) (by omega) (by intro j hj; simp only [List.mem_cons, List.not_mem_nil, or_false] at hj; omega)).rA i
        have hc293_13 : ∀ i, rAt S293c (x + 13) i = rAt S (x + 13) i := fun i => (fr293.1 (x + 13) (by omega) (by intro j hj; simp only [List.mem_cons, List.not_mem_nil, or_false] at hj; omega)).rA i
        have g293_ := co.2 f (by omega) (by omega)
        refine v_aload_n hX dX13_nextLine_293 (i := 0) rfl rfl ?_
        refine v_bipush hX (v := iI 48) dX13_nextLine_294 (by decide) ?_
        refine v_aload_n hX dX13_nextLine_296 (i := 0) rfl rfl ?_
        refine v_get hX (ci := 11) (k := 23) (ms_kx h293c) bc_11 (by decide) (by decide) in_11 w_5_239 dX13_nextLine_297 (mvP (f := 1123) (q := (x + 13)) rfl rfl (ms_p_1123 h293c)) ?_
        refine v_iload_n hX dX13_nextLine_300 (i := 1) rfl rfl ?_
        refine u_iald hX (L := 7) (ms_k_1123 h293c) (ms_l_1123 h293c) ⟨by omega, by omega⟩ (by decide) dX13_nextLine_301 (fun v1_ e_v1_ b_v1_ => ?_)
        try simp (disch := omega) only [zr_I, zr_J, zr_B, rA_A, zl_I, zl_J, zl_A, lA_B, hc293_11, hc293_8, hc293_7, hc293_9, hc293_10, hc293_4, hc293_14, hc293_15, hc293_16, hc293_13] at e_v1_
        refine v_bipush hX (v := iI 10) dX13_nextLine_302 (by decide) ?_
        refine u_irem hX dX13_nextLine_304 ⟨by omega, by omega⟩ (by omega) ⟨by omega, by omega⟩ (by omega) ?_
        refine u_iadd hX dX13_nextLine_305 ?_
        refine v_callV hX (n := 1) (k_putIn (S := S293c) (x := x) (c := (48 + (v1_ % 10))) (ls := ls5) h293c (by simp (disch := omega) only [y_I_s_I, x_I_s_I, z_I_s_J, z_I_s_A, z_I_s_B, e_f5, e_ls5, e_z5_]) ⟨by omega, by omega⟩ ⟨by omega, by omega⟩ (by omega)) (ms_kx h293c) bc_11 (by decide) w_7_5 w_7_7 (bw_p (q := (yX13_putIn, 72)) (List.mem_of_getElem? (i := 45) rfl) rfl) w_1_16 w_7_8 (by decide +kernel) rfl ⟨by decide, by decide⟩ ⟨by omega, by omega⟩ (Nat.le_of_ble_eq_true rfl) rfl dX13_nextLine_306 (fun _ _ _ q => q) ?_
        rintro r2_ S2_ z2_ ⟨rfl, f2_, v3_, rfl, e_v3_, b_v3_, q2_⟩
        have e2_1120 : m_I S2_ 1120 x = iI f5 := (f2_.2.2.2.1 1120 (by decide)).trans (by simp (disch := omega) only [y_I_s_I, x_I_s_I, z_I_s_J, z_I_s_A, z_I_s_B, e_f5, e_ls5, e_z5_])
        have e2_1127 : m_I S2_ 1127 x = iI z5_ := (f2_.2.2.2.1 1127 (by decide)).trans (by simp (disch := omega) only [y_I_s_I, x_I_s_I, z_I_s_J, z_I_s_A, z_I_s_B, e_f5, e_ls5, e_z5_])
        have h2_ : mS S2_ x := f2_.keep h293c
        have hc2_11 : ∀ i, rAt S2_ (x + 11) i = rAt S (x + 11) i := fun i => ((f2_.1 (x + 11) (by omega) (by intro j hj; simp only [List.mem_cons, List.not_mem_nil, or_false] at hj; omega)).rA i).trans (hc293_11 i)
        have hc2_12 : ∀ i, rAt S2_ (x + 12) i = rAt S293c (x + 12) i := fun i => ((f2_.1 (x + 12) (by omega) (by intro j hj; simp only [List.mem_cons, List.not_mem_nil, or_false] at hj; omega)).rA i).trans rfl
        have hc2_8 : ∀ i, rAt S2_ (x + 8) i = rAt S (x + 8) i := fun i => ((f2_.1 (x + 8) (by omega) (by intro j hj; simp only [List.mem_cons, List.not_mem_nil, or_false] at hj; omega)).rA i).trans (hc293_8 i)
        have hc2_7 : ∀ i, rAt S2_ (x + 7) i = rAt S (x + 7) i := fun i => ((f2_.1 (x + 7) (by omega) (by intro j hj; simp only [List.mem_cons, List.not_mem_nil, or_false] at hj; omega)).rA i).trans (hc293_7 i)
        have hc2_9 : ∀ i, rAt S2_ (x + 9) i = rAt S (x + 9) i := fun i => ((f2_.1 (x + 9) (by omega) (by intro j hj; simp only [List.mem_cons, List.not_mem_nil, or_false] at hj; omega)).rA i).trans (hc293_9 i)
        have hc2_10 : ∀ i, rAt S2_ (x + 10) i = rAt S (x + 10) i := fun i => ((f2_.1 (x + 10) (by omega) (by intro j hj; simp only [List.mem_cons, List.not_mem_nil, or_false] at hj; omega)).rA i).trans (hc293_10 i)
        have hc2_4 : ∀ i, rAt S2_ (x + 4) i = rAt S (x + 4) i := fun i => ((f2_.1 (x + 4) (by omega) (by intro j hj; simp only [List.mem_cons, List.not_mem_nil, or_false] at hj; omega)).rA i).trans (hc293_4 i)
        have hc2_14 : ∀ i, rAt S2_ (x + 14) i = rAt S (x + 14) i := fun i => ((f2_.1 (x + 14) (by omega) (by intro j hj; simp only [List.mem_cons, List.not_mem_nil, or_false] at hj; omega)).rA i).trans (hc293_14 i)
        have hc2_15 : ∀ i, rAt S2_ (x + 15) i = rAt S (x + 15) i := fun i => ((f2_.1 (x + 15) (by omega) (by intro j hj; simp only [List.mem_cons, List.not_mem_nil, or_false] at hj; omega)).rA i).trans (hc293_15 i)
        have hc2_16 : ∀ i, rAt S2_ (x + 16) i = rAt S (x + 16) i := fun i => ((f2_.1 (x + 16) (by omega) (by intro j hj; simp only [List.mem_cons, List.not_mem_nil, or_false] at hj; omega)).rA i).trans (hc293_16 i)
        have hc2_13 : ∀ i, rAt S2_ (x + 13) i = rAt S (x + 13) i := fun i => ((f2_.1 (x + 13) (by omega) (by intro j hj; simp only [List.mem_cons, List.not_mem_nil, or_false] at hj; omega)).rA i).trans (hc293_13 i)
        refine v_iinc hX (v := iI (i + 2)) (lv' := [(4, .int (iI (i + 2))), (5, .int (iI cv)), (3, .int (iI l)), (2, .int (iI m)), (1, .int (iI f)), (0, .ref x)]) dX13_nextLine_309 rfl (iI_add _ _) (by rw [hnL]; decide) rfl ?_
        refine v_goto hX (tgt := 329) dX13_nextLine_312 (by decide) ?_
        refine v_goto hX (tgt := 90) dX13_nextLine_329 (by decide) ?_
        refine v_locals (lv' := [(4, .int (iI (i + 2))), (3, .int (iI l)), (2, .int (iI m)), (1, .int (iI f)), (0, .ref x)]) (by simp) ?_
        exact ih90 _ (by omega) _ f5 v3_ z5_ (i + 2) l m f (fr293.tr (f2_.mono (by decide) (by decide) (by decide))) (by simp (disch := omega) only [y_I_s_I, x_I_s_I, z_I_s_J, z_I_s_A, z_I_s_B, e2_1120, e2_1127, e_v3_]) (by simp (disch := omega) only [y_I_s_I, x_I_s_I, z_I_s_J, z_I_s_A, z_I_s_B, e2_1120, e2_1127, e_v3_]) (by simp (disch := omega) only [y_I_s_I, x_I_s_I, z_I_s_J, z_I_s_A, z_I_s_B, e2_1120, e2_1127, e_v3_]) ⟨by omega, by omega⟩ ⟨by omega, by omega⟩ ⟨by omega, by omega⟩ (by omega) ⟨fun j a b => by simp (disch := omega) only [zr_I, zr_J, zr_B, rA_A, zl_I, zl_J, zl_A, lA_B, hc2_12]; exact p293_1.1 j a b, by simp (disch := omega) only [zr_I, zr_J, zr_B, rA_A, zl_I, zl_J, zl_A, lA_B, hc2_12]; exact p293_1.2⟩ (by omega) rfl
      have L263 : ∀ (S263c : b_M) (f4 : Int) (ls4 : Int) (z4_ : Int), mFr [1120, 1127, 1107] [] [12, 5] S S263c x → m_I S263c 1120 x = iI f4 → m_I S263c 1107 x = iI ls4 → m_I S263c 1127 x = iI z4_ → (-2147483648 ≤ f4 ∧ f4 < 2147483648) → (-2147483648 ≤ ls4 ∧ ls4 < 2147483648) → (-2147483648 ≤ z4_ ∧ z4_ < 2147483648) → (z4_ = az ∧ 0 ≤ ls4 ∧ ls4 ≤ 101 ∧ f4 = fs ∧ i + 1 < 4200) → ((∀ j : Int, 0 ≤ j → j ≠ fs - 1 → rAt S263c (x + 12) j = rAt S (x + 12) j) ∧ rAt S263c (x + 12) (fs - 1) = rAt S (x + 12) (fs - 1) + 1) → b_V X S263c z 0 0 263 [(5, .int (iI cv)), (4, .int (iI i)), (3, .int (iI l)), (2, .int (iI m)), (1, .int (iI f)), (0, .ref x)] [] := by
        intro S263c f4 ls4 z4_ fr263 e_f4 e_ls4 e_z4_ b_f4 b_ls4 b_z4_ p263_0 p263_1
        have h263c : mS S263c x := fr263.keep h
        have hc263_11 : ∀ i, rAt S263c (x + 11) i = rAt S (x + 11) i := fun i => (fr263.1 (x + 11) (by omega) (by intro j hj; simp only [List.mem_cons, List.not_mem_nil, or_false] at hj; omega)).rA i
        have hc263_8 : ∀ i, rAt S263c (x + 8) i = rAt S (x + 8) i := fun i => (fr263.1 (x + 8) (by omega) (by intro j hj; simp only [List.mem_cons, List.not_mem_nil, or_false] at hj; omega)).rA i
        have hc263_7 : ∀ i, rAt S263c (x + 7) i = rAt S (x + 7) i := fun i => (fr263.1 (x + 7) (by omega) (by intro j hj; simp only [List.mem_cons, List.not_mem_nil, or_false] at hj; omega)).rA i
        have hc263_9 : ∀ i, rAt S263c (x + 9) i = rAt S (x + 9) i := fun i => (fr263.1 (x + 9) (by omega) (by intro j hj; simp only [List.mem_cons, List.not_mem_nil, or_false] at hj; omega)).rA i
        have hc263_10 : ∀ i, rAt S263c (x + 10) i = rAt S (x + 10) i := fun i => (fr263.1 (x + 10) (by omega) (by intro j hj; simp only [List.mem_cons, List.not_mem_nil, or_false] at hj; omega)).rA i
        have hc263_4 : ∀ i, rAt S263c (x + 4) i = rAt S (x + 4) i := fun i => (fr263.1 (x + 4) (by omega) (by intro j hj; simp only [List.mem_cons, List.not_mem_nil, or_false] at hj; omega)).rA i
        have hc263_14 : ∀ i, rAt S263c (x + 14) i = rAt S (x + 14) i := fun i => (fr263.1 (x + 14) (by omega) (by intro j hj; simp only [List.mem_cons, List.not_mem_nil, or_false] at hj; omega)).rA i
        have hc263_15 : ∀ i, rAt S263c (x + 15) i = rAt S (x + 15) i := fun i => (fr263.1 (x + 15) (by omega) (by intro j hj; simp only [List.mem_cons, List.not_mem_nil, or_false] at hj; omega)).rA i
        have hc263_16 : ∀ i, rAt S263c (x + 16) i = rAt S (x + 16) i := fun i => (fr263.1 (x + 16) (by omega) (by intro j hj; simp only [List.mem_cons, List.not_mem_nil, or_false] at hj; omega)).rA i
        have hc263_13 : ∀ i, rAt S263c (x + 13) i = rAt S (x + 13) i := fun i => (fr263.1 (x + 13) (by omega) (by intro j hj; simp only [List.mem_cons, List.not_mem_nil, or_false] at hj; omega)).rA i
        have g263_ := co.2 f (by omega) (by omega)
        refine v_aload_n hX dX13_nextLine_263 (i := 0) rfl rfl ?_
        refine v_get hX (ci := 11) (k := 23) (ms_kx h263c) bc_11 (by decide) (by decide) in_11 w_5_239 dX13_nextLine_264 (mvP (f := 1123) (q := (x + 13)) rfl rfl (ms_p_1123 h263c)) ?_
        refine v_iload_n hX dX13_nextLine_267 (i := 1) rfl rfl ?_
        refine u_iald hX (L := 7) (ms_k_1123 h263c) (ms_l_1123 h263c) ⟨by omega, by omega⟩ (by decide) dX13_nextLine_268 (fun v4_ e_v4_ b_v4_ => ?_)
        try simp (disch := omega) only [zr_I, zr_J, zr_B, rA_A, zl_I, zl_J, zl_A, lA_B, hc263_11, hc263_8, hc263_7, hc263_9, hc263_10, hc263_4, hc263_14, hc263_15, hc263_16, hc263_13] at e_v4_
        refine v_bipush hX (v := iI 9) dX13_nextLine_269 (by decide) ?_
        refine u_icmp_le hX (tgt := 293) dX13_nextLine_271 (by decide) ⟨by omega, by omega⟩ ⟨by omega, by omega⟩ (fun h5_ => ?_) (fun h5_ => ?_)
        ·
          exact L293 _ f4 ls4 z4_ fr263 (by simp (disch := omega) only [y_I_s_I, x_I_s_I, z_I_s_J, z_I_s_A, z_I_s_B, e_f4, e_ls4, e_z4_]) (by simp (disch := omega) only [y_I_s_I, x_I_s_I, z_I_s_J, z_I_s_A, z_I_s_B, e_f4, e_ls4, e_z4_]) (by simp (disch := omega) only [y_I_s_I, x_I_s_I, z_I_s_J, z_I_s_A, z_I_s_B, e_f4, e_ls4, e_z4_]) ⟨by omega, by omega⟩ ⟨by omega, by omega⟩ ⟨by omega, by omega⟩ (by omega) p263_1
        ·
          refine v_aload_n hX dX13_nextLine_274 (i := 0) rfl rfl ?_
          refine v_bipush hX (v := iI 48) dX13_nextLine_275 (by decide) ?_
          refine v_aload_n hX dX13_nextLine_277 (i := 0) rfl rfl ?_
          refine v_get hX (ci := 11) (k := 23) (ms_kx h263c) bc_11 (by decide) (by decide) in_11 w_5_239 dX13_nextLine_278 (mvP (f := 1123) (q := (x + 13)) rfl rfl (ms_p_1123 h263c)) ?_
          refine v_iload_n hX dX13_nextLine_281 (i := 1) rfl rfl ?_
          refine u_iald hX (L := 7) (ms_k_1123 h263c) (ms_l_1123 h263c) ⟨by omega, by omega⟩ (by decide) dX13_nextLine_282 (fun v6_ e_v6_ b_v6_ => ?_)
          try simp (disch := omega) only [zr_I, zr_J, zr_B, rA_A, zl_I, zl_J, zl_A, lA_B, hc263_11, hc263_8, hc263_7, hc263_9, hc263_10, hc263_4, hc263_14, hc263_15, hc263_16, hc263_13] at e_v6_
          refine v_bipush hX (v := iI 10) dX13_nextLine_283 (by decide) ?_
          refine u_idiv hX dX13_nextLine_285 ⟨by omega, by omega⟩ (by omega) ⟨by omega, by omega⟩ (by omega) ?_
          refine v_bipush hX (v := iI 10) dX13_nextLine_286 (by decide) ?_
          refine u_irem hX dX13_nextLine_288 ⟨by omega, by omega⟩ (by omega) ⟨by omega, by omega⟩ (by omega) ?_
          refine u_iadd hX dX13_nextLine_289 ?_
          refine v_callV hX (n := 1) (k_putIn (S := S263c) (x := x) (c := (48 + ((v6_ / 10) % 10))) (ls := ls4) h263c (by simp (disch := omega) only [y_I_s_I, x_I_s_I, z_I_s_J, z_I_s_A, z_I_s_B, e_f4, e_ls4, e_z4_]) ⟨by omega, by omega⟩ ⟨by omega, by omega⟩ (by omega)) (ms_kx h263c) bc_11 (by decide) w_7_5 w_7_7 (bw_p (q := (yX13_putIn, 72)) (List.mem_of_getElem? (i := 45) rfl) rfl) w_1_16 w_7_8 (by decide +kernel) rfl ⟨by decide, by decide⟩ ⟨by omega, by omega⟩ (Nat.le_of_ble_eq_true rfl) rfl dX13_nextLine_290 (fun _ _ _ q => q) ?_
          rintro r7_ S7_ z7_ ⟨rfl, f7_, v8_, rfl, e_v8_, b_v8_, q7_⟩
          have e7_1120 : m_I S7_ 1120 x = iI f4 := (f7_.2.2.2.1 1120 (by decide)).trans (by simp (disch := omega) only [y_I_s_I, x_I_s_I, z_I_s_J, z_I_s_A, z_I_s_B, e_f4, e_ls4, e_z4_])
          have e7_1127 : m_I S7_ 1127 x = iI z4_ := (f7_.2.2.2.1 1127 (by decide)).trans (by simp (disch := omega) only [y_I_s_I, x_I_s_I, z_I_s_J, z_I_s_A, z_I_s_B, e_f4, e_ls4, e_z4_])
          have h7_ : mS S7_ x := f7_.keep h263c
          have hc7_11 : ∀ i, rAt S7_ (x + 11) i = rAt S (x + 11) i := fun i => ((f7_.1 (x + 11) (by omega) (by intro j hj; simp only [List.mem_cons, List.not_mem_nil, or_false] at hj; omega)).rA i).trans (hc263_11 i)
          have hc7_12 : ∀ i, rAt S7_ (x + 12) i = rAt S263c (x + 12) i := fun i => ((f7_.1 (x + 12) (by omega) (by intro j hj; simp only [List.mem_cons, List.not_mem_nil, or_false] at hj; omega)).rA i).trans rfl
          have hc7_8 : ∀ i, rAt S7_ (x + 8) i = rAt S (x + 8) i := fun i => ((f7_.1 (x + 8) (by omega) (by intro j hj; simp only [List.mem_cons, List.not_mem_nil, or_false] at hj; omega)).rA i).trans (hc263_8 i)
          have hc7_7 : ∀ i, rAt S7_ (x + 7) i = rAt S (x + 7) i := fun i => ((f7_.1 (x + 7) (by omega) (by intro j hj; simp only [List.mem_cons, List.not_mem_nil, or_false] at hj; omega)).rA i).trans (hc263_7 i)
          have hc7_9 : ∀ i, rAt S7_ (x + 9) i = rAt S (x + 9) i := fun i => ((f7_.1 (x + 9) (by omega) (by intro j hj; simp only [List.mem_cons, List.not_mem_nil, or_false] at hj; omega)).rA i).trans (hc263_9 i)
          have hc7_10 : ∀ i, rAt S7_ (x + 10) i = rAt S (x + 10) i := fun i => ((f7_.1 (x + 10) (by omega) (by intro j hj; simp only [List.mem_cons, List.not_mem_nil, or_false] at hj; omega)).rA i).trans (hc263_10 i)
          have hc7_4 : ∀ i, rAt S7_ (x + 4) i = rAt S (x + 4) i := fun i => ((f7_.1 (x + 4) (by omega) (by intro j hj; simp only [List.mem_cons, List.not_mem_nil, or_false] at hj; omega)).rA i).trans (hc263_4 i)
          have hc7_14 : ∀ i, rAt S7_ (x + 14) i = rAt S (x + 14) i := fun i => ((f7_.1 (x + 14) (by omega) (by intro j hj; simp only [List.mem_cons, List.not_mem_nil, or_false] at hj; omega)).rA i).trans (hc263_14 i)
          have hc7_15 : ∀ i, rAt S7_ (x + 15) i = rAt S (x + 15) i := fun i => ((f7_.1 (x + 15) (by omega) (by intro j hj; simp only [List.mem_cons, List.not_mem_nil, or_false] at hj; omega)).rA i).trans (hc263_15 i)
          have hc7_16 : ∀ i, rAt S7_ (x + 16) i = rAt S (x + 16) i := fun i => ((f7_.1 (x + 16) (by omega) (by intro j hj; simp only [List.mem_cons, List.not_mem_nil, or_false] at hj; omega)).rA i).trans (hc263_16 i)
          have hc7_13 : ∀ i, rAt S7_ (x + 13) i = rAt S (x + 13) i := fun i => ((f7_.1 (x + 13) (by omega) (by intro j hj; simp only [List.mem_cons, List.not_mem_nil, or_false] at hj; omega)).rA i).trans (hc263_13 i)
          exact L293 _ f4 v8_ z4_ (fr263.tr (f7_.mono (by decide) (by decide) (by decide))) (by simp (disch := omega) only [y_I_s_I, x_I_s_I, z_I_s_J, z_I_s_A, z_I_s_B, e7_1120, e7_1127, e_v8_]) (by simp (disch := omega) only [y_I_s_I, x_I_s_I, z_I_s_J, z_I_s_A, z_I_s_B, e7_1120, e7_1127, e_v8_]) (by simp (disch := omega) only [y_I_s_I, x_I_s_I, z_I_s_J, z_I_s_A, z_I_s_B, e7_1120, e7_1127, e_v8_]) ⟨by omega, by omega⟩ ⟨by omega, by omega⟩ ⟨by omega, by omega⟩ (by omega) ⟨fun j a b => by simp (disch := omega) only [zr_I, zr_J, zr_B, rA_A, zl_I, zl_J, zl_A, lA_B, hc7_12]; exact p263_1.1 j a b, by simp (disch := omega) only [zr_I, zr_J, zr_B, rA_A, zl_I, zl_J, zl_A, lA_B, hc7_12]; exact p263_1.2⟩
      have L178 : ∀ (n178 : Nat) (S178c : b_M) (f3 : Int) (ls3 : Int) (z3_ : Int) (k : Int), mFr [1120, 1127, 1107] [] [12, 5] S S178c x → m_I S178c 1120 x = iI f3 → m_I S178c 1107 x = iI ls3 → m_I S178c 1127 x = iI z3_ → (-2147483648 ≤ f3 ∧ f3 < 2147483648) → (-2147483648 ≤ ls3 ∧ ls3 < 2147483648) → (-2147483648 ≤ z3_ ∧ z3_ < 2147483648) → (48 ≤ cv ∧ cv ≤ 51 ∧ 0 ≤ k ∧ k ≤ 8400 ∧ z3_ = az ∧ 0 ≤ ls3 ∧ ls3 ≤ 101 ∧ f3 = fs ∧ i + 1 < 4200) → ((∀ j : Int, 0 ≤ j → j ≠ fs - 1 → rAt S178c (x + 12) j = rAt S (x + 12) j) ∧ rAt S178c (x + 12) (fs - 1) = rAt S (x + 12) (fs - 1) + 1) → (8400 - k).toNat = n178 → b_V X S178c z 0 0 178 [(6, .int (iI k)), (5, .int (iI cv)), (4, .int (iI i)), (3, .int (iI l)), (2, .int (iI m)), (1, .int (iI f)), (0, .ref x)] [] := by
        intro n178
        induction n178 using Nat.strongRecOn with
        | _ n178 ih178 =>
        intro S178c f3 ls3 z3_ k fr178 e_f3 e_ls3 e_z3_ b_f3 b_ls3 b_z3_ p178_0 p178_1 hm178
        have h178c : mS S178c x := fr178.keep h
        have hc178_11 : ∀ i, rAt S178c (x + 11) i = rAt S (x + 11) i := fun i => (fr178.1 (x + 11) (by omega) (by intro j hj; simp only [List.mem_cons, List.not_mem_nil, or_false] at hj; omega)).rA i
        have hc178_8 : ∀ i, rAt S178c (x + 8) i = rAt S (x + 8) i := fun i => (fr178.1 (x + 8) (by omega) (by intro j hj; simp only [List.mem_cons, List.not_mem_nil, or_false] at hj; omega)).rA i
        have hc178_7 : ∀ i, rAt S178c (x + 7) i = rAt S (x + 7) i := fun i => (fr178.1 (x + 7) (by omega) (by intro j hj; simp only [List.mem_cons, List.not_mem_nil, or_false] at hj; omega)).rA i
        have hc178_9 : ∀ i, rAt S178c (x + 9) i = rAt S (x + 9) i := fun i => (fr178.1 (x + 9) (by omega) (by intro j hj; simp only [List.mem_cons, List.not_mem_nil, or_false] at hj; omega)).rA i
        have hc178_10 : ∀ i, rAt S178c (x + 10) i = rAt S (x + 10) i := fun i => (fr178.1 (x + 10) (by omega) (by intro j hj; simp only [List.mem_cons, List.not_mem_nil, or_false] at hj; omega)).rA i
        have hc178_4 : ∀ i, rAt S178c (x + 4) i = rAt S (x + 4) i := fun i => (fr178.1 (x + 4) (by omega) (by intro j hj; simp only [List.mem_cons, List.not_mem_nil, or_false] at hj; omega)).rA i
        have hc178_14 : ∀ i, rAt S178c (x + 14) i = rAt S (x + 14) i := fun i => (fr178.1 (x + 14) (by omega) (by intro j hj; simp only [List.mem_cons, List.not_mem_nil, or_false] at hj; omega)).rA i
        have hc178_15 : ∀ i, rAt S178c (x + 15) i = rAt S (x + 15) i := fun i => (fr178.1 (x + 15) (by omega) (by intro j hj; simp only [List.mem_cons, List.not_mem_nil, or_false] at hj; omega)).rA i
        have hc178_16 : ∀ i, rAt S178c (x + 16) i = rAt S (x + 16) i := fun i => (fr178.1 (x + 16) (by omega) (by intro j hj; simp only [List.mem_cons, List.not_mem_nil, or_false] at hj; omega)).rA i
        have hc178_13 : ∀ i, rAt S178c (x + 13) i = rAt S (x + 13) i := fun i => (fr178.1 (x + 13) (by omega) (by intro j hj; simp only [List.mem_cons, List.not_mem_nil, or_false] at hj; omega)).rA i
        refine v_iload hX dX13_nextLine_178 rfl ?_
        refine v_aload_n hX dX13_nextLine_180 (i := 0) rfl rfl ?_
        refine v_get hX (ci := 11) (k := 25) (ms_kx h178c) bc_11 (by decide) (by decide) in_11 w_6_1 dX13_nextLine_181 (mvP (f := 1125) (q := (x + 15)) rfl rfl (ms_p_1125 h178c)) ?_
        refine v_iconst hX (v := iI 4) dX13_nextLine_184 rfl ?_
        refine v_iload_n hX dX13_nextLine_185 (i := 1) rfl rfl ?_
        refine u_imul hX dX13_nextLine_186 ?_
        refine v_iload hX dX13_nextLine_187 rfl ?_
        refine u_iadd hX dX13_nextLine_189 ?_
        refine v_bipush hX (v := iI 48) dX13_nextLine_190 (by decide) ?_
        refine u_isub hX dX13_nextLine_192 ?_
        refine u_iald hX (L := 28) (ms_k_1125 h178c) (ms_l_1125 h178c) ⟨by omega, by omega⟩ (by decide) dX13_nextLine_193 (fun v9_ e_v9_ b_v9_ => ?_)
        try simp (disch := omega) only [zr_I, zr_J, zr_B, rA_A, zl_I, zl_J, zl_A, lA_B, hc178_11, hc178_8, hc178_7, hc178_9, hc178_10, hc178_4, hc178_14, hc178_15, hc178_16, hc178_13] at e_v9_
        have g194_ := ao (4 * f + cv - 48) (by omega) (by omega)
        refine u_icmp_ge hX (tgt := 223) dX13_nextLine_194 (by decide) ⟨by omega, by omega⟩ ⟨by omega, by omega⟩ (fun h10_ => ?_) (fun h10_ => ?_)
        ·
          refine v_iinc hX (v := iI (i + 2)) (lv' := [(4, .int (iI (i + 2))), (6, .int (iI k)), (5, .int (iI cv)), (3, .int (iI l)), (2, .int (iI m)), (1, .int (iI f)), (0, .ref x)]) dX13_nextLine_223 rfl (iI_add _ _) (by rw [hnL]; decide) rfl ?_
          refine v_goto hX (tgt := 329) dX13_nextLine_226 (by decide) ?_
          refine v_goto hX (tgt := 90) dX13_nextLine_329 (by decide) ?_
          refine v_locals (lv' := [(4, .int (iI (i + 2))), (3, .int (iI l)), (2, .int (iI m)), (1, .int (iI f)), (0, .ref x)]) (by simp) ?_
          exact ih90 _ (by omega) _ f3 ls3 z3_ (i + 2) l m f fr178 (by simp (disch := omega) only [y_I_s_I, x_I_s_I, z_I_s_J, z_I_s_A, z_I_s_B, e_f3, e_ls3, e_z3_]) (by simp (disch := omega) only [y_I_s_I, x_I_s_I, z_I_s_J, z_I_s_A, z_I_s_B, e_f3, e_ls3, e_z3_]) (by simp (disch := omega) only [y_I_s_I, x_I_s_I, z_I_s_J, z_I_s_A, z_I_s_B, e_f3, e_ls3, e_z3_]) ⟨by omega, by omega⟩ ⟨by omega, by omega⟩ ⟨by omega, by omega⟩ (by omega) p178_1 (by omega) rfl
        ·
          refine v_aload_n hX dX13_nextLine_197 (i := 0) rfl rfl ?_
          refine v_get hX (ci := 11) (k := 7) (ms_kx h178c) bc_11 (by decide) (by decide) in_11 w_5_223 dX13_nextLine_198 (mvF (f := 1107) (v := iI ls3) rfl rfl (by simp (disch := omega) only [y_I_s_I, x_I_s_I, z_I_s_J, z_I_s_A, z_I_s_B, e_f3, e_ls3, e_z3_])) ?_
          refine v_bipush hX (v := iI 100) dX13_nextLine_201 (by decide) ?_
          refine u_icmp_gt hX (tgt := 223) dX13_nextLine_203 (by decide) ⟨by omega, by omega⟩ ⟨by omega, by omega⟩ (fun h11_ => ?_) (fun h11_ => ?_)
          ·
            refine v_iinc hX (v := iI (i + 2)) (lv' := [(4, .int (iI (i + 2))), (6, .int (iI k)), (5, .int (iI cv)), (3, .int (iI l)), (2, .int (iI m)), (1, .int (iI f)), (0, .ref x)]) dX13_nextLine_223 rfl (iI_add _ _) (by rw [hnL]; decide) rfl ?_
            refine v_goto hX (tgt := 329) dX13_nextLine_226 (by decide) ?_
            refine v_goto hX (tgt := 90) dX13_nextLine_329 (by decide) ?_
            refine v_locals (lv' := [(4, .int (iI (i + 2))), (3, .int (iI l)), (2, .int (iI m)), (1, .int (iI f)), (0, .ref x)]) (by simp) ?_
            exact ih90 _ (by omega) _ f3 ls3 z3_ (i + 2) l m f fr178 (by simp (disch := omega) only [y_I_s_I, x_I_s_I, z_I_s_J, z_I_s_A, z_I_s_B, e_f3, e_ls3, e_z3_]) (by simp (disch := omega) only [y_I_s_I, x_I_s_I, z_I_s_J, z_I_s_A, z_I_s_B, e_f3, e_ls3, e_z3_]) (by simp (disch := omega) only [y_I_s_I, x_I_s_I, z_I_s_J, z_I_s_A, z_I_s_B, e_f3, e_ls3, e_z3_]) ⟨by omega, by omega⟩ ⟨by omega, by omega⟩ ⟨by omega, by omega⟩ (by omega) p178_1 (by omega) rfl
          ·
            refine v_aload_n hX dX13_nextLine_206 (i := 0) rfl rfl ?_
            refine v_aload_n hX dX13_nextLine_207 (i := 0) rfl rfl ?_
            refine v_get hX (ci := 11) (k := 26) (ms_kx h178c) bc_11 (by decide) (by decide) in_11 w_6_2 dX13_nextLine_208 (mvP (f := 1126) (q := (x + 16)) rfl rfl (ms_p_1126 h178c)) ?_
            refine v_iload hX dX13_nextLine_211 rfl ?_
            refine u_iald hX (L := 8400) (ms_k_1126 h178c) (ms_l_1126 h178c) ⟨by omega, by omega⟩ (by decide) dX13_nextLine_213 (fun v12_ e_v12_ b_v12_ => ?_)
            try simp (disch := omega) only [zr_I, zr_J, zr_B, rA_A, zl_I, zl_J, zl_A, lA_B, hc178_11, hc178_8, hc178_7, hc178_9, hc178_10, hc178_4, hc178_14, hc178_15, hc178_16, hc178_13] at e_v12_
            refine v_callV hX (n := 1) (k_putIn (S := S178c) (x := x) (c := v12_) (ls := ls3) h178c (by simp (disch := omega) only [y_I_s_I, x_I_s_I, z_I_s_J, z_I_s_A, z_I_s_B, e_f3, e_ls3, e_z3_]) ⟨by omega, by omega⟩ ⟨by omega, by omega⟩ (by omega)) (ms_kx h178c) bc_11 (by decide) w_7_5 w_7_7 (bw_p (q := (yX13_putIn, 72)) (List.mem_of_getElem? (i := 45) rfl) rfl) w_1_16 w_7_8 (by decide +kernel) rfl ⟨by decide, by decide⟩ ⟨by omega, by omega⟩ (Nat.le_of_ble_eq_true rfl) rfl dX13_nextLine_214 (fun _ _ _ q => q) ?_
            rintro r13_ S13_ z13_ ⟨rfl, f13_, v14_, rfl, e_v14_, b_v14_, q13_⟩
            have e13_1120 : m_I S13_ 1120 x = iI f3 := (f13_.2.2.2.1 1120 (by decide)).trans (by simp (disch := omega) only [y_I_s_I, x_I_s_I, z_I_s_J, z_I_s_A, z_I_s_B, e_f3, e_ls3, e_z3_])
            have e13_1127 : m_I S13_ 1127 x = iI z3_ := (f13_.2.2.2.1 1127 (by decide)).trans (by simp (disch := omega) only [y_I_s_I, x_I_s_I, z_I_s_J, z_I_s_A, z_I_s_B, e_f3, e_ls3, e_z3_])
            have h13_ : mS S13_ x := f13_.keep h178c
            have hc13_11 : ∀ i, rAt S13_ (x + 11) i = rAt S (x + 11) i := fun i => ((f13_.1 (x + 11) (by omega) (by intro j hj; simp only [List.mem_cons, List.not_mem_nil, or_false] at hj; omega)).rA i).trans (hc178_11 i)
            have hc13_12 : ∀ i, rAt S13_ (x + 12) i = rAt S178c (x + 12) i := fun i => ((f13_.1 (x + 12) (by omega) (by intro j hj; simp only [List.mem_cons, List.not_mem_nil, or_false] at hj; omega)).rA i).trans rfl
            have hc13_8 : ∀ i, rAt S13_ (x + 8) i = rAt S (x + 8) i := fun i => ((f13_.1 (x + 8) (by omega) (by intro j hj; simp only [List.mem_cons, List.not_mem_nil, or_false] at hj; omega)).rA i).trans (hc178_8 i)
            have hc13_7 : ∀ i, rAt S13_ (x + 7) i = rAt S (x + 7) i := fun i => ((f13_.1 (x + 7) (by omega) (by intro j hj; simp only [List.mem_cons, List.not_mem_nil, or_false] at hj; omega)).rA i).trans (hc178_7 i)
            have hc13_9 : ∀ i, rAt S13_ (x + 9) i = rAt S (x + 9) i := fun i => ((f13_.1 (x + 9) (by omega) (by intro j hj; simp only [List.mem_cons, List.not_mem_nil, or_false] at hj; omega)).rA i).trans (hc178_9 i)
            have hc13_10 : ∀ i, rAt S13_ (x + 10) i = rAt S (x + 10) i := fun i => ((f13_.1 (x + 10) (by omega) (by intro j hj; simp only [List.mem_cons, List.not_mem_nil, or_false] at hj; omega)).rA i).trans (hc178_10 i)
            have hc13_4 : ∀ i, rAt S13_ (x + 4) i = rAt S (x + 4) i := fun i => ((f13_.1 (x + 4) (by omega) (by intro j hj; simp only [List.mem_cons, List.not_mem_nil, or_false] at hj; omega)).rA i).trans (hc178_4 i)
            have hc13_14 : ∀ i, rAt S13_ (x + 14) i = rAt S (x + 14) i := fun i => ((f13_.1 (x + 14) (by omega) (by intro j hj; simp only [List.mem_cons, List.not_mem_nil, or_false] at hj; omega)).rA i).trans (hc178_14 i)
            have hc13_15 : ∀ i, rAt S13_ (x + 15) i = rAt S (x + 15) i := fun i => ((f13_.1 (x + 15) (by omega) (by intro j hj; simp only [List.mem_cons, List.not_mem_nil, or_false] at hj; omega)).rA i).trans (hc178_15 i)
            have hc13_16 : ∀ i, rAt S13_ (x + 16) i = rAt S (x + 16) i := fun i => ((f13_.1 (x + 16) (by omega) (by intro j hj; simp only [List.mem_cons, List.not_mem_nil, or_false] at hj; omega)).rA i).trans (hc178_16 i)
            have hc13_13 : ∀ i, rAt S13_ (x + 13) i = rAt S (x + 13) i := fun i => ((f13_.1 (x + 13) (by omega) (by intro j hj; simp only [List.mem_cons, List.not_mem_nil, or_false] at hj; omega)).rA i).trans (hc178_13 i)
            refine v_iinc hX (v := iI (k + 1)) (lv' := [(6, .int (iI (k + 1))), (5, .int (iI cv)), (4, .int (iI i)), (3, .int (iI l)), (2, .int (iI m)), (1, .int (iI f)), (0, .ref x)]) dX13_nextLine_217 rfl (iI_add _ _) (by rw [hnL]; decide) rfl ?_
            refine v_goto hX (tgt := 178) dX13_nextLine_220 (by decide) ?_
            exact ih178 _ (by omega) _ f3 v14_ z3_ (k + 1) (fr178.tr (f13_.mono (by decide) (by decide) (by decide))) (by simp (disch := omega) only [y_I_s_I, x_I_s_I, z_I_s_J, z_I_s_A, z_I_s_B, e13_1120, e13_1127, e_v14_]) (by simp (disch := omega) only [y_I_s_I, x_I_s_I, z_I_s_J, z_I_s_A, z_I_s_B, e13_1120, e13_1127, e_v14_]) (by simp (disch := omega) only [y_I_s_I, x_I_s_I, z_I_s_J, z_I_s_A, z_I_s_B, e13_1120, e13_1127, e_v14_]) ⟨by omega, by omega⟩ ⟨by omega, by omega⟩ ⟨by omega, by omega⟩ (by omega) ⟨fun j a b => by simp (disch := omega) only [zr_I, zr_J, zr_B, rA_A, zl_I, zl_J, zl_A, lA_B, hc13_12]; exact p178_1.1 j a b, by simp (disch := omega) only [zr_I, zr_J, zr_B, rA_A, zl_I, zl_J, zl_A, lA_B, hc13_12]; exact p178_1.2⟩ rfl
      refine v_istore hX (lv' := [(5, .int (iI cv)), (4, .int (iI i)), (3, .int (iI l)), (2, .int (iI m)), (1, .int (iI f)), (0, .ref x)]) dX13_nextLine_148 (by rw [hnL]; decide) rfl ?_
      refine v_iload hX dX13_nextLine_150 rfl ?_
      refine v_bipush hX (v := iI 48) dX13_nextLine_152 (by decide) ?_
      refine v_bipush hX (v := iI 51) dX13_nextLine_154 (by decide) ?_
      refine v_callS hX (n := 3) (k_within (S := S148c) (x := 0) (v := cv) (a := 48) (b := 51) ⟨by omega, by omega⟩ ⟨by omega, by omega⟩ ⟨by omega, by omega⟩) w_6_210 w_6_211 w_1_16 w_6_212 (by decide +kernel) rfl ⟨by decide, by decide⟩ ⟨by omega, by omega⟩ (Nat.le_of_ble_eq_true rfl) rfl dX13_nextLine_156 (fun _ _ _ q => q) ?_
      rintro r15_ S15_ z15_ ⟨rfl, rfl, v16_, rfl, b_v16_, q15_⟩
      refine u_if_eq hX (tgt := 229) dX13_nextLine_159 (by decide) ⟨by omega, by omega⟩ (fun h17_ => ?_) (fun h17_ => ?_)
      ·
        refine v_iload hX dX13_nextLine_229 rfl ?_
        refine v_bipush hX (v := iI 110) dX13_nextLine_231 (by decide) ?_
        refine u_icmp_ne hX (tgt := 315) dX13_nextLine_233 (by decide) ⟨by omega, by omega⟩ ⟨by omega, by omega⟩ (fun h18_ => ?_) (fun h18_ => ?_)
        ·
          refine v_aload_n hX dX13_nextLine_315 (i := 0) rfl rfl ?_
          refine v_aload_n hX dX13_nextLine_316 (i := 0) rfl rfl ?_
          refine v_get hX (ci := 11) (k := 6) (ms_kx h148c) bc_11 (by decide) (by decide) in_11 w_5_222 dX13_nextLine_317 (mvP (f := 1106) (q := (x + 4)) rfl rfl (ms_p_1106 h148c)) ?_
          refine v_iload hX dX13_nextLine_320 rfl ?_
          refine u_iald hX (L := 4200) (ms_k_1106 h148c) (ms_l_1106 h148c) ⟨by omega, by omega⟩ (by decide) dX13_nextLine_322 (fun v19_ e_v19_ b_v19_ => ?_)
          try simp (disch := omega) only [zr_I, zr_J, zr_B, rA_A, zl_I, zl_J, zl_A, lA_B, hc148_11, hc148_8, hc148_7, hc148_9, hc148_10, hc148_4, hc148_14, hc148_15, hc148_16, hc148_13] at e_v19_
          refine v_callV hX (n := 1) (k_putIn (S := S148c) (x := x) (c := v19_) (ls := ls2) h148c (by simp (disch := omega) only [y_I_s_I, x_I_s_I, z_I_s_J, z_I_s_A, z_I_s_B, e_f2, e_ls2, e_z2_]) ⟨by omega, by omega⟩ ⟨by omega, by omega⟩ (by omega)) (ms_kx h148c) bc_11 (by decide) w_7_5 w_7_7 (bw_p (q := (yX13_putIn, 72)) (List.mem_of_getElem? (i := 45) rfl) rfl) w_1_16 w_7_8 (by decide +kernel) rfl ⟨by decide, by decide⟩ ⟨by omega, by omega⟩ (Nat.le_of_ble_eq_true rfl) rfl dX13_nextLine_323 (fun _ _ _ q => q) ?_
          rintro r20_ S20_ z20_ ⟨rfl, f20_, v21_, rfl, e_v21_, b_v21_, q20_⟩
          have e20_1120 : m_I S20_ 1120 x = iI f2 := (f20_.2.2.2.1 1120 (by decide)).trans (by simp (disch := omega) only [y_I_s_I, x_I_s_I, z_I_s_J, z_I_s_A, z_I_s_B, e_f2, e_ls2, e_z2_])
          have e20_1127 : m_I S20_ 1127 x = iI z2_ := (f20_.2.2.2.1 1127 (by decide)).trans (by simp (disch := omega) only [y_I_s_I, x_I_s_I, z_I_s_J, z_I_s_A, z_I_s_B, e_f2, e_ls2, e_z2_])
          have h20_ : mS S20_ x := f20_.keep h148c
          have hc20_11 : ∀ i, rAt S20_ (x + 11) i = rAt S (x + 11) i := fun i => ((f20_.1 (x + 11) (by omega) (by intro j hj; simp only [List.mem_cons, List.not_mem_nil, or_false] at hj; omega)).rA i).trans (hc148_11 i)
          have hc20_12 : ∀ i, rAt S20_ (x + 12) i = rAt S148c (x + 12) i := fun i => ((f20_.1 (x + 12) (by omega) (by intro j hj; simp only [List.mem_cons, List.not_mem_nil, or_false] at hj; omega)).rA i).trans rfl
          have hc20_8 : ∀ i, rAt S20_ (x + 8) i = rAt S (x + 8) i := fun i => ((f20_.1 (x + 8) (by omega) (by intro j hj; simp only [List.mem_cons, List.not_mem_nil, or_false] at hj; omega)).rA i).trans (hc148_8 i)
          have hc20_7 : ∀ i, rAt S20_ (x + 7) i = rAt S (x + 7) i := fun i => ((f20_.1 (x + 7) (by omega) (by intro j hj; simp only [List.mem_cons, List.not_mem_nil, or_false] at hj; omega)).rA i).trans (hc148_7 i)
          have hc20_9 : ∀ i, rAt S20_ (x + 9) i = rAt S (x + 9) i := fun i => ((f20_.1 (x + 9) (by omega) (by intro j hj; simp only [List.mem_cons, List.not_mem_nil, or_false] at hj; omega)).rA i).trans (hc148_9 i)
          have hc20_10 : ∀ i, rAt S20_ (x + 10) i = rAt S (x + 10) i := fun i => ((f20_.1 (x + 10) (by omega) (by intro j hj; simp only [List.mem_cons, List.not_mem_nil, or_false] at hj; omega)).rA i).trans (hc148_10 i)
          have hc20_4 : ∀ i, rAt S20_ (x + 4) i = rAt S (x + 4) i := fun i => ((f20_.1 (x + 4) (by omega) (by intro j hj; simp only [List.mem_cons, List.not_mem_nil, or_false] at hj; omega)).rA i).trans (hc148_4 i)
          have hc20_14 : ∀ i, rAt S20_ (x + 14) i = rAt S (x + 14) i := fun i => ((f20_.1 (x + 14) (by omega) (by intro j hj; simp only [List.mem_cons, List.not_mem_nil, or_false] at hj; omega)).rA i).trans (hc148_14 i)
          have hc20_15 : ∀ i, rAt S20_ (x + 15) i = rAt S (x + 15) i := fun i => ((f20_.1 (x + 15) (by omega) (by intro j hj; simp only [List.mem_cons, List.not_mem_nil, or_false] at hj; omega)).rA i).trans (hc148_15 i)
          have hc20_16 : ∀ i, rAt S20_ (x + 16) i = rAt S (x + 16) i := fun i => ((f20_.1 (x + 16) (by omega) (by intro j hj; simp only [List.mem_cons, List.not_mem_nil, or_false] at hj; omega)).rA i).trans (hc148_16 i)
          have hc20_13 : ∀ i, rAt S20_ (x + 13) i = rAt S (x + 13) i := fun i => ((f20_.1 (x + 13) (by omega) (by intro j hj; simp only [List.mem_cons, List.not_mem_nil, or_false] at hj; omega)).rA i).trans (hc148_13 i)
          refine v_iinc hX (v := iI (i + 1)) (lv' := [(4, .int (iI (i + 1))), (5, .int (iI cv)), (3, .int (iI l)), (2, .int (iI m)), (1, .int (iI f)), (0, .ref x)]) dX13_nextLine_326 rfl (iI_add _ _) (by rw [hnL]; decide) rfl ?_
          refine v_goto hX (tgt := 90) dX13_nextLine_329 (by decide) ?_
          refine v_locals (lv' := [(4, .int (iI (i + 1))), (3, .int (iI l)), (2, .int (iI m)), (1, .int (iI f)), (0, .ref x)]) (by simp) ?_
          exact ih90 _ (by omega) _ f2 v21_ z2_ (i + 1) l m f (fr148.tr (f20_.mono (by decide) (by decide) (by decide))) (by simp (disch := omega) only [y_I_s_I, x_I_s_I, z_I_s_J, z_I_s_A, z_I_s_B, e20_1120, e20_1127, e_v21_]) (by simp (disch := omega) only [y_I_s_I, x_I_s_I, z_I_s_J, z_I_s_A, z_I_s_B, e20_1120, e20_1127, e_v21_]) (by simp (disch := omega) only [y_I_s_I, x_I_s_I, z_I_s_J, z_I_s_A, z_I_s_B, e20_1120, e20_1127, e_v21_]) ⟨by omega, by omega⟩ ⟨by omega, by omega⟩ ⟨by omega, by omega⟩ (by omega) ⟨fun j a b => by simp (disch := omega) only [zr_I, zr_J, zr_B, rA_A, zl_I, zl_J, zl_A, lA_B, hc20_12]; exact p148_1.1 j a b, by simp (disch := omega) only [zr_I, zr_J, zr_B, rA_A, zl_I, zl_J, zl_A, lA_B, hc20_12]; exact p148_1.2⟩ (by omega) rfl
        ·
          have g236_ := co.2 f (by omega) (by omega)
          refine v_aload_n hX dX13_nextLine_236 (i := 0) rfl rfl ?_
          refine v_get hX (ci := 11) (k := 23) (ms_kx h148c) bc_11 (by decide) (by decide) in_11 w_5_239 dX13_nextLine_237 (mvP (f := 1123) (q := (x + 13)) rfl rfl (ms_p_1123 h148c)) ?_
          refine v_iload_n hX dX13_nextLine_240 (i := 1) rfl rfl ?_
          refine u_iald hX (L := 7) (ms_k_1123 h148c) (ms_l_1123 h148c) ⟨by omega, by omega⟩ (by decide) dX13_nextLine_241 (fun v22_ e_v22_ b_v22_ => ?_)
          try simp (disch := omega) only [zr_I, zr_J, zr_B, rA_A, zl_I, zl_J, zl_A, lA_B, hc148_11, hc148_8, hc148_7, hc148_9, hc148_10, hc148_4, hc148_14, hc148_15, hc148_16, hc148_13] at e_v22_
          refine v_bipush hX (v := iI 99) dX13_nextLine_242 (by decide) ?_
          refine u_icmp_le hX (tgt := 263) dX13_nextLine_244 (by decide) ⟨by omega, by omega⟩ ⟨by omega, by omega⟩ (fun h23_ => ?_) (fun h23_ => ?_)
          ·
            exact L263 _ f2 ls2 z2_ fr148 (by simp (disch := omega) only [y_I_s_I, x_I_s_I, z_I_s_J, z_I_s_A, z_I_s_B, e_f2, e_ls2, e_z2_]) (by simp (disch := omega) only [y_I_s_I, x_I_s_I, z_I_s_J, z_I_s_A, z_I_s_B, e_f2, e_ls2, e_z2_]) (by simp (disch := omega) only [y_I_s_I, x_I_s_I, z_I_s_J, z_I_s_A, z_I_s_B, e_f2, e_ls2, e_z2_]) ⟨by omega, by omega⟩ ⟨by omega, by omega⟩ ⟨by omega, by omega⟩ (by omega) p148_1
          ·
            refine v_aload_n hX dX13_nextLine_247 (i := 0) rfl rfl ?_
            refine v_bipush hX (v := iI 48) dX13_nextLine_248 (by decide) ?_
            refine v_aload_n hX dX13_nextLine_250 (i := 0) rfl rfl ?_
            refine v_get hX (ci := 11) (k := 23) (ms_kx h148c) bc_11 (by decide) (by decide) in_11 w_5_239 dX13_nextLine_251 (mvP (f := 1123) (q := (x + 13)) rfl rfl (ms_p_1123 h148c)) ?_
            refine v_iload_n hX dX13_nextLine_254 (i := 1) rfl rfl ?_
            refine u_iald hX (L := 7) (ms_k_1123 h148c) (ms_l_1123 h148c) ⟨by omega, by omega⟩ (by decide) dX13_nextLine_255 (fun v24_ e_v24_ b_v24_ => ?_)
            try simp (disch := omega) only [zr_I, zr_J, zr_B, rA_A, zl_I, zl_J, zl_A, lA_B, hc148_11, hc148_8, hc148_7, hc148_9, hc148_10, hc148_4, hc148_14, hc148_15, hc148_16, hc148_13] at e_v24_
            refine v_bipush hX (v := iI 100) dX13_nextLine_256 (by decide) ?_
            refine u_idiv hX dX13_nextLine_258 ⟨by omega, by omega⟩ (by omega) ⟨by omega, by omega⟩ (by omega) ?_
            refine u_iadd hX dX13_nextLine_259 ?_
            refine v_callV hX (n := 1) (k_putIn (S := S148c) (x := x) (c := (48 + (v24_ / 100))) (ls := ls2) h148c (by simp (disch := omega) only [y_I_s_I, x_I_s_I, z_I_s_J, z_I_s_A, z_I_s_B, e_f2, e_ls2, e_z2_]) ⟨by omega, by omega⟩ ⟨by omega, by omega⟩ (by omega)) (ms_kx h148c) bc_11 (by decide) w_7_5 w_7_7 (bw_p (q := (yX13_putIn, 72)) (List.mem_of_getElem? (i := 45) rfl) rfl) w_1_16 w_7_8 (by decide +kernel) rfl ⟨by decide, by decide⟩ ⟨by omega, by omega⟩ (Nat.le_of_ble_eq_true rfl) rfl dX13_nextLine_260 (fun _ _ _ q => q) ?_
            rintro r25_ S25_ z25_ ⟨rfl, f25_, v26_, rfl, e_v26_, b_v26_, q25_⟩
            have e25_1120 : m_I S25_ 1120 x = iI f2 := (f25_.2.2.2.1 1120 (by decide)).trans (by simp (disch := omega) only [y_I_s_I, x_I_s_I, z_I_s_J, z_I_s_A, z_I_s_B, e_f2, e_ls2, e_z2_])
            have e25_1127 : m_I S25_ 1127 x = iI z2_ := (f25_.2.2.2.1 1127 (by decide)).trans (by simp (disch := omega) only [y_I_s_I, x_I_s_I, z_I_s_J, z_I_s_A, z_I_s_B, e_f2, e_ls2, e_z2_])
            have h25_ : mS S25_ x := f25_.keep h148c
            have hc25_11 : ∀ i, rAt S25_ (x + 11) i = rAt S (x + 11) i := fun i => ((f25_.1 (x + 11) (by omega) (by intro j hj; simp only [List.mem_cons, List.not_mem_nil, or_false] at hj; omega)).rA i).trans (hc148_11 i)
            have hc25_12 : ∀ i, rAt S25_ (x + 12) i = rAt S148c (x + 12) i := fun i => ((f25_.1 (x + 12) (by omega) (by intro j hj; simp only [List.mem_cons, List.not_mem_nil, or_false] at hj; omega)).rA i).trans rfl
            have hc25_8 : ∀ i, rAt S25_ (x + 8) i = rAt S (x + 8) i := fun i => ((f25_.1 (x + 8) (by omega) (by intro j hj; simp only [List.mem_cons, List.not_mem_nil, or_false] at hj; omega)).rA i).trans (hc148_8 i)
            have hc25_7 : ∀ i, rAt S25_ (x + 7) i = rAt S (x + 7) i := fun i => ((f25_.1 (x + 7) (by omega) (by intro j hj; simp only [List.mem_cons, List.not_mem_nil, or_false] at hj; omega)).rA i).trans (hc148_7 i)
            have hc25_9 : ∀ i, rAt S25_ (x + 9) i = rAt S (x + 9) i := fun i => ((f25_.1 (x + 9) (by omega) (by intro j hj; simp only [List.mem_cons, List.not_mem_nil, or_false] at hj; omega)).rA i).trans (hc148_9 i)
            have hc25_10 : ∀ i, rAt S25_ (x + 10) i = rAt S (x + 10) i := fun i => ((f25_.1 (x + 10) (by omega) (by intro j hj; simp only [List.mem_cons, List.not_mem_nil, or_false] at hj; omega)).rA i).trans (hc148_10 i)
            have hc25_4 : ∀ i, rAt S25_ (x + 4) i = rAt S (x + 4) i := fun i => ((f25_.1 (x + 4) (by omega) (by intro j hj; simp only [List.mem_cons, List.not_mem_nil, or_false] at hj; omega)).rA i).trans (hc148_4 i)
            have hc25_14 : ∀ i, rAt S25_ (x + 14) i = rAt S (x + 14) i := fun i => ((f25_.1 (x + 14) (by omega) (by intro j hj; simp only [List.mem_cons, List.not_mem_nil, or_false] at hj; omega)).rA i).trans (hc148_14 i)
            have hc25_15 : ∀ i, rAt S25_ (x + 15) i = rAt S (x + 15) i := fun i => ((f25_.1 (x + 15) (by omega) (by intro j hj; simp only [List.mem_cons, List.not_mem_nil, or_false] at hj; omega)).rA i).trans (hc148_15 i)
            have hc25_16 : ∀ i, rAt S25_ (x + 16) i = rAt S (x + 16) i := fun i => ((f25_.1 (x + 16) (by omega) (by intro j hj; simp only [List.mem_cons, List.not_mem_nil, or_false] at hj; omega)).rA i).trans (hc148_16 i)
            have hc25_13 : ∀ i, rAt S25_ (x + 13) i = rAt S (x + 13) i := fun i => ((f25_.1 (x + 13) (by omega) (by intro j hj; simp only [List.mem_cons, List.not_mem_nil, or_false] at hj; omega)).rA i).trans (hc148_13 i)
            exact L263 _ f2 v26_ z2_ (fr148.tr (f25_.mono (by decide) (by decide) (by decide))) (by simp (disch := omega) only [y_I_s_I, x_I_s_I, z_I_s_J, z_I_s_A, z_I_s_B, e25_1120, e25_1127, e_v26_]) (by simp (disch := omega) only [y_I_s_I, x_I_s_I, z_I_s_J, z_I_s_A, z_I_s_B, e25_1120, e25_1127, e_v26_]) (by simp (disch := omega) only [y_I_s_I, x_I_s_I, z_I_s_J, z_I_s_A, z_I_s_B, e25_1120, e25_1127, e_v26_]) ⟨by omega, by omega⟩ ⟨by omega, by omega⟩ ⟨by omega, by omega⟩ (by omega) ⟨fun j a b => by simp (disch := omega) only [zr_I, zr_J, zr_B, rA_A, zl_I, zl_J, zl_A, lA_B, hc25_12]; exact p148_1.1 j a b, by simp (disch := omega) only [zr_I, zr_J, zr_B, rA_A, zl_I, zl_J, zl_A, lA_B, hc25_12]; exact p148_1.2⟩
      ·
        have g162_ := ao (4 * f + cv - 48) (by omega) (by omega)
        refine v_aload_n hX dX13_nextLine_162 (i := 0) rfl rfl ?_
        refine v_get hX (ci := 11) (k := 24) (ms_kx h148c) bc_11 (by decide) (by decide) in_11 w_6_0 dX13_nextLine_163 (mvP (f := 1124) (q := (x + 14)) rfl rfl (ms_p_1124 h148c)) ?_
        refine v_iconst hX (v := iI 4) dX13_nextLine_166 rfl ?_
        refine v_iload_n hX dX13_nextLine_167 (i := 1) rfl rfl ?_
        refine u_imul hX dX13_nextLine_168 ?_
        refine v_iload hX dX13_nextLine_169 rfl ?_
        refine u_iadd hX dX13_nextLine_171 ?_
        refine v_bipush hX (v := iI 48) dX13_nextLine_172 (by decide) ?_
        refine u_isub hX dX13_nextLine_174 ?_
        refine u_iald hX (L := 28) (ms_k_1124 h148c) (ms_l_1124 h148c) ⟨by omega, by omega⟩ (by decide) dX13_nextLine_175 (fun v27_ e_v27_ b_v27_ => ?_)
        try simp (disch := omega) only [zr_I, zr_J, zr_B, rA_A, zl_I, zl_J, zl_A, lA_B, hc148_11, hc148_8, hc148_7, hc148_9, hc148_10, hc148_4, hc148_14, hc148_15, hc148_16, hc148_13] at e_v27_
        refine v_istore hX (lv' := [(6, .int (iI v27_)), (5, .int (iI cv)), (4, .int (iI i)), (3, .int (iI l)), (2, .int (iI m)), (1, .int (iI f)), (0, .ref x)]) dX13_nextLine_176 (by rw [hnL]; decide) rfl ?_
        exact L178 _ _ f2 ls2 z2_ v27_ fr148 (by simp (disch := omega) only [y_I_s_I, x_I_s_I, z_I_s_J, z_I_s_A, z_I_s_B, e_f2, e_ls2, e_z2_]) (by simp (disch := omega) only [y_I_s_I, x_I_s_I, z_I_s_J, z_I_s_A, z_I_s_B, e_f2, e_ls2, e_z2_]) (by simp (disch := omega) only [y_I_s_I, x_I_s_I, z_I_s_J, z_I_s_A, z_I_s_B, e_f2, e_ls2, e_z2_]) ⟨by omega, by omega⟩ ⟨by omega, by omega⟩ ⟨by omega, by omega⟩ (by omega) p148_1 rfl
    refine v_iload hX dX13_nextLine_90 rfl ?_
    refine v_aload_n hX dX13_nextLine_92 (i := 0) rfl rfl ?_
    refine v_get hX (ci := 11) (k := 19) (ms_kx h90c) bc_11 (by decide) (by decide) in_11 w_5_235 dX13_nextLine_93 (mvP (f := 1119) (q := (x + 10)) rfl rfl (ms_p_1119 h90c)) ?_
    refine v_iload_n hX dX13_nextLine_96 (i := 3) rfl rfl ?_
    refine u_iald hX (L := 4200) (ms_k_1119 h90c) (ms_l_1119 h90c) ⟨by omega, by omega⟩ (by decide) dX13_nextLine_97 (fun v28_ e_v28_ b_v28_ => ?_)
    try simp (disch := omega) only [zr_I, zr_J, zr_B, rA_A, zl_I, zl_J, zl_A, lA_B, hc90_11, hc90_8, hc90_7, hc90_9, hc90_10, hc90_4, hc90_14, hc90_15, hc90_16, hc90_13] at e_v28_
    have g98_ := bk l (by omega) (by omega)
    refine u_icmp_ge hX (tgt := 332) dX13_nextLine_98 (by decide) ⟨by omega, by omega⟩ ⟨by omega, by omega⟩ (fun h29_ => ?_) (fun h29_ => ?_)
    ·
      refine v_iconst hX (v := iI 1) dX13_nextLine_332 rfl ?_
      exact v_zreturn hX (nar_b (by omega)) hE dX13_nextLine_333 (by omega) (by omega) ⟨rfl, fr90, 1, f0, ls0, z0, rfl, ⟨by omega, by omega⟩, (by simp (disch := omega) only [y_I_s_I, x_I_s_I, z_I_s_J, z_I_s_A, z_I_s_B, e_f0, e_ls0, e_z0]), ⟨by omega, by omega⟩, (by simp (disch := omega) only [y_I_s_I, x_I_s_I, z_I_s_J, z_I_s_A, z_I_s_B, e_f0, e_ls0, e_z0]), ⟨by omega, by omega⟩, (by simp (disch := omega) only [y_I_s_I, x_I_s_I, z_I_s_J, z_I_s_A, z_I_s_B, e_f0, e_ls0, e_z0]), ⟨by omega, by omega⟩, (by omega), (fun _ => p90_1), (fun g => absurd g (by omega)), (fun _ => by rw [← p90_2.1]; exact p90_2.2)⟩
    ·
      refine v_aload_n hX dX13_nextLine_101 (i := 0) rfl rfl ?_
      refine v_get hX (ci := 11) (k := 7) (ms_kx h90c) bc_11 (by decide) (by decide) in_11 w_5_223 dX13_nextLine_102 (mvF (f := 1107) (v := iI ls0) rfl rfl (by simp (disch := omega) only [y_I_s_I, x_I_s_I, z_I_s_J, z_I_s_A, z_I_s_B, e_f0, e_ls0, e_z0])) ?_
      refine v_bipush hX (v := iI 100) dX13_nextLine_105 (by decide) ?_
      refine u_icmp_gt hX (tgt := 332) dX13_nextLine_107 (by decide) ⟨by omega, by omega⟩ ⟨by omega, by omega⟩ (fun h30_ => ?_) (fun h30_ => ?_)
      ·
        refine v_iconst hX (v := iI 1) dX13_nextLine_332 rfl ?_
        exact v_zreturn hX (nar_b (by omega)) hE dX13_nextLine_333 (by omega) (by omega) ⟨rfl, fr90, 1, f0, ls0, z0, rfl, ⟨by omega, by omega⟩, (by simp (disch := omega) only [y_I_s_I, x_I_s_I, z_I_s_J, z_I_s_A, z_I_s_B, e_f0, e_ls0, e_z0]), ⟨by omega, by omega⟩, (by simp (disch := omega) only [y_I_s_I, x_I_s_I, z_I_s_J, z_I_s_A, z_I_s_B, e_f0, e_ls0, e_z0]), ⟨by omega, by omega⟩, (by simp (disch := omega) only [y_I_s_I, x_I_s_I, z_I_s_J, z_I_s_A, z_I_s_B, e_f0, e_ls0, e_z0]), ⟨by omega, by omega⟩, (by omega), (fun _ => p90_1), (fun g => absurd g (by omega)), (fun _ => by rw [← p90_2.1]; exact p90_2.2)⟩
      ·
        refine v_iload hX dX13_nextLine_110 rfl ?_
        refine v_iconst hX (v := iI 1) dX13_nextLine_112 rfl ?_
        refine u_iadd hX dX13_nextLine_113 ?_
        refine v_aload_n hX dX13_nextLine_114 (i := 0) rfl rfl ?_
        refine v_get hX (ci := 11) (k := 19) (ms_kx h90c) bc_11 (by decide) (by decide) in_11 w_5_235 dX13_nextLine_115 (mvP (f := 1119) (q := (x + 10)) rfl rfl (ms_p_1119 h90c)) ?_
        refine v_iload_n hX dX13_nextLine_118 (i := 3) rfl rfl ?_
        refine u_iald hX (L := 4200) (ms_k_1119 h90c) (ms_l_1119 h90c) ⟨by omega, by omega⟩ (by decide) dX13_nextLine_119 (fun v31_ e_v31_ b_v31_ => ?_)
        try simp (disch := omega) only [zr_I, zr_J, zr_B, rA_A, zl_I, zl_J, zl_A, lA_B, hc90_11, hc90_8, hc90_7, hc90_9, hc90_10, hc90_4, hc90_14, hc90_15, hc90_16, hc90_13] at e_v31_
        refine u_icmp_ge hX (tgt := 147) dX13_nextLine_120 (by decide) ⟨by omega, by omega⟩ ⟨by omega, by omega⟩ (fun h32_ => ?_) (fun h32_ => ?_)
        ·
          refine v_iconst hX (v := iI (-1)) dX13_nextLine_147 rfl ?_
          exact L148 _ f0 ls0 z0 (-1) fr90 (by simp (disch := omega) only [y_I_s_I, x_I_s_I, z_I_s_J, z_I_s_A, z_I_s_B, e_f0, e_ls0, e_z0]) (by simp (disch := omega) only [y_I_s_I, x_I_s_I, z_I_s_J, z_I_s_A, z_I_s_B, e_f0, e_ls0, e_z0]) (by simp (disch := omega) only [y_I_s_I, x_I_s_I, z_I_s_J, z_I_s_A, z_I_s_B, e_f0, e_ls0, e_z0]) ⟨by omega, by omega⟩ ⟨by omega, by omega⟩ ⟨by omega, by omega⟩ (by omega) p90_1
        ·
          refine v_aload_n hX dX13_nextLine_123 (i := 0) rfl rfl ?_
          refine v_get hX (ci := 11) (k := 6) (ms_kx h90c) bc_11 (by decide) (by decide) in_11 w_5_222 dX13_nextLine_124 (mvP (f := 1106) (q := (x + 4)) rfl rfl (ms_p_1106 h90c)) ?_
          refine v_iload hX dX13_nextLine_127 rfl ?_
          refine u_iald hX (L := 4200) (ms_k_1106 h90c) (ms_l_1106 h90c) ⟨by omega, by omega⟩ (by decide) dX13_nextLine_129 (fun v33_ e_v33_ b_v33_ => ?_)
          try simp (disch := omega) only [zr_I, zr_J, zr_B, rA_A, zl_I, zl_J, zl_A, lA_B, hc90_11, hc90_8, hc90_7, hc90_9, hc90_10, hc90_4, hc90_14, hc90_15, hc90_16, hc90_13] at e_v33_
          refine v_bipush hX (v := iI 38) dX13_nextLine_130 (by decide) ?_
          refine u_icmp_ne hX (tgt := 147) dX13_nextLine_132 (by decide) ⟨by omega, by omega⟩ ⟨by omega, by omega⟩ (fun h34_ => ?_) (fun h34_ => ?_)
          ·
            refine v_iconst hX (v := iI (-1)) dX13_nextLine_147 rfl ?_
            exact L148 _ f0 ls0 z0 (-1) fr90 (by simp (disch := omega) only [y_I_s_I, x_I_s_I, z_I_s_J, z_I_s_A, z_I_s_B, e_f0, e_ls0, e_z0]) (by simp (disch := omega) only [y_I_s_I, x_I_s_I, z_I_s_J, z_I_s_A, z_I_s_B, e_f0, e_ls0, e_z0]) (by simp (disch := omega) only [y_I_s_I, x_I_s_I, z_I_s_J, z_I_s_A, z_I_s_B, e_f0, e_ls0, e_z0]) ⟨by omega, by omega⟩ ⟨by omega, by omega⟩ ⟨by omega, by omega⟩ (by omega) p90_1
          ·
            refine v_aload_n hX dX13_nextLine_135 (i := 0) rfl rfl ?_
            refine v_get hX (ci := 11) (k := 6) (ms_kx h90c) bc_11 (by decide) (by decide) in_11 w_5_222 dX13_nextLine_136 (mvP (f := 1106) (q := (x + 4)) rfl rfl (ms_p_1106 h90c)) ?_
            refine v_iload hX dX13_nextLine_139 rfl ?_
            refine v_iconst hX (v := iI 1) dX13_nextLine_141 rfl ?_
            refine u_iadd hX dX13_nextLine_142 ?_
            refine u_iald hX (L := 4200) (ms_k_1106 h90c) (ms_l_1106 h90c) ⟨by omega, by omega⟩ (by decide) dX13_nextLine_143 (fun v35_ e_v35_ b_v35_ => ?_)
            try simp (disch := omega) only [zr_I, zr_J, zr_B, rA_A, zl_I, zl_J, zl_A, lA_B, hc90_11, hc90_8, hc90_7, hc90_9, hc90_10, hc90_4, hc90_14, hc90_15, hc90_16, hc90_13] at e_v35_
            refine v_goto hX (tgt := 148) dX13_nextLine_144 (by decide) ?_
            exact L148 _ f0 ls0 z0 v35_ fr90 (by simp (disch := omega) only [y_I_s_I, x_I_s_I, z_I_s_J, z_I_s_A, z_I_s_B, e_f0, e_ls0, e_z0]) (by simp (disch := omega) only [y_I_s_I, x_I_s_I, z_I_s_J, z_I_s_A, z_I_s_B, e_f0, e_ls0, e_z0]) (by simp (disch := omega) only [y_I_s_I, x_I_s_I, z_I_s_J, z_I_s_A, z_I_s_B, e_f0, e_ls0, e_z0]) ⟨by omega, by omega⟩ ⟨by omega, by omega⟩ ⟨by omega, by omega⟩ (by omega) p90_1
  change b_V X S z 0 0 0 [(0, .ref x)] []
  have c0_ := co.1
  refine v_aload_n hX dX13_nextLine_0 (i := 0) rfl rfl ?_
  refine v_get hX (ci := 11) (k := 20) (ms_kx h) bc_11 (by decide) (by decide) in_11 w_5_236 dX13_nextLine_1 (mvF (f := 1120) (v := iI fs) rfl rfl (by simp (disch := omega) only [y_I_s_I, x_I_s_I, z_I_s_J, z_I_s_A, z_I_s_B, e_fs, e_az])) ?_
  refine v_iconst hX (v := iI 1) dX13_nextLine_4 rfl ?_
  refine u_isub hX dX13_nextLine_5 ?_
  refine v_istore_n hX (lv' := [(1, .int (iI (fs - 1))), (0, .ref x)]) dX13_nextLine_6 (i := 1) rfl (by rw [hnL]; decide) rfl ?_
  refine v_aload_n hX dX13_nextLine_7 (i := 0) rfl rfl ?_
  refine v_get hX (ci := 11) (k := 21) (ms_kx h) bc_11 (by decide) (by decide) in_11 w_5_237 dX13_nextLine_8 (mvP (f := 1121) (q := (x + 11)) rfl rfl (ms_p_1121 h)) ?_
  refine v_iload_n hX dX13_nextLine_11 (i := 1) rfl rfl ?_
  refine u_iald hX (L := 7) (ms_k_1121 h) (ms_l_1121 h) ⟨by omega, by omega⟩ (by decide) dX13_nextLine_12 (fun v36_ e_v36_ b_v36_ => ?_)
  have c1_ := co.1
  have m1_ := mk_.1
  have g13_ := co.2 (fs - 1) (by omega) (by omega)
  rw [← e_v36_] at g13_
  refine v_istore_n hX (lv' := [(2, .int (iI v36_)), (1, .int (iI (fs - 1))), (0, .ref x)]) dX13_nextLine_13 (i := 2) rfl (by rw [hnL]; decide) rfl ?_
  refine v_aload_n hX dX13_nextLine_14 (i := 0) rfl rfl ?_
  refine v_get hX (ci := 11) (k := 22) (ms_kx h) bc_11 (by decide) (by decide) in_11 w_5_238 dX13_nextLine_15 (mvP (f := 1122) (q := (x + 12)) rfl rfl (ms_p_1122 h)) ?_
  refine v_iload_n hX dX13_nextLine_18 (i := 1) rfl rfl ?_
  refine u_iald hX (L := 7) (ms_k_1122 h) (ms_l_1122 h) ⟨by omega, by omega⟩ (by decide) dX13_nextLine_19 (fun v37_ e_v37_ b_v37_ => ?_)
  refine v_aload_n hX dX13_nextLine_20 (i := 0) rfl rfl ?_
  refine v_get hX (ci := 11) (k := 17) (ms_kx h) bc_11 (by decide) (by decide) in_11 w_5_233 dX13_nextLine_21 (mvP (f := 1117) (q := (x + 8)) rfl rfl (ms_p_1117 h)) ?_
  refine v_iload_n hX dX13_nextLine_24 (i := 2) rfl rfl ?_
  refine u_iald hX (L := 12) (ms_k_1117 h) (ms_l_1117 h) ⟨by omega, by omega⟩ (by decide) dX13_nextLine_25 (fun v38_ e_v38_ b_v38_ => ?_)
  refine u_icmp_ne hX (tgt := 53) dX13_nextLine_26 (by decide) ⟨by omega, by omega⟩ ⟨by omega, by omega⟩ (fun h39_ => ?_) (fun h39_ => ?_)
  ·
    have g53_ := mk_.2 v36_ (by omega) (by omega)
    refine v_aload_n hX dX13_nextLine_53 (i := 0) rfl rfl ?_
    refine v_get hX (ci := 11) (k := 16) (ms_kx h) bc_11 (by decide) (by decide) in_11 w_5_232 dX13_nextLine_54 (mvP (f := 1116) (q := (x + 7)) rfl rfl (ms_p_1116 h)) ?_
    refine v_iload_n hX dX13_nextLine_57 (i := 2) rfl rfl ?_
    refine u_iald hX (L := 12) (ms_k_1116 h) (ms_l_1116 h) ⟨by omega, by omega⟩ (by decide) dX13_nextLine_58 (fun v40_ e_v40_ b_v40_ => ?_)
    refine v_aload_n hX dX13_nextLine_59 (i := 0) rfl rfl ?_
    refine v_get hX (ci := 11) (k := 22) (ms_kx h) bc_11 (by decide) (by decide) in_11 w_5_238 dX13_nextLine_60 (mvP (f := 1122) (q := (x + 12)) rfl rfl (ms_p_1122 h)) ?_
    refine v_iload_n hX dX13_nextLine_63 (i := 1) rfl rfl ?_
    refine u_iald hX (L := 7) (ms_k_1122 h) (ms_l_1122 h) ⟨by omega, by omega⟩ (by decide) dX13_nextLine_64 (fun v41_ e_v41_ b_v41_ => ?_)
    refine u_iadd hX dX13_nextLine_65 ?_
    refine v_istore_n hX (lv' := [(3, .int (iI (v40_ + v41_))), (2, .int (iI v36_)), (1, .int (iI (fs - 1))), (0, .ref x)]) dX13_nextLine_66 (i := 3) rfl (by rw [hnL]; decide) rfl ?_
    refine v_aload_n hX dX13_nextLine_67 (i := 0) rfl rfl ?_
    refine v_get hX (ci := 11) (k := 22) (ms_kx h) bc_11 (by decide) (by decide) in_11 w_5_238 dX13_nextLine_68 (mvP (f := 1122) (q := (x + 12)) rfl rfl (ms_p_1122 h)) ?_
    refine v_iload_n hX dX13_nextLine_71 (i := 1) rfl rfl ?_
    refine v_dup2 hX dX13_nextLine_72 rfl rfl ?_
    refine u_iald hX (L := 7) (ms_k_1122 h) (ms_l_1122 h) ⟨by omega, by omega⟩ (by decide) dX13_nextLine_73 (fun v42_ e_v42_ b_v42_ => ?_)
    refine v_iconst hX (v := iI 1) dX13_nextLine_74 rfl ?_
    refine u_iadd hX dX13_nextLine_75 ?_
    refine u_iast hX (L := 7) (ms_k_1122 h) (ms_l_1122 h) ⟨by omega, by omega⟩ (by decide) dX13_nextLine_76 ?_
    refine v_aload_n hX dX13_nextLine_77 (i := 0) rfl rfl ?_
    refine v_iconst hX (v := iI 0) dX13_nextLine_78 rfl ?_
    refine v_putI hX (ci := 11) (k := 7) (f := 1107) (ms_kx (mS.sA h)) bc_11 (by decide) (by decide) in_11 tyX13_ok nmX13 w_5_223 (Or.inl rfl) rfl rfl dX13_nextLine_79 rfl rfl ?_
    refine v_aload_n hX dX13_nextLine_82 (i := 0) rfl rfl ?_
    refine v_get hX (ci := 11) (k := 18) (ms_kx (mS.sI (mS.sA h))) bc_11 (by decide) (by decide) in_11 w_5_234 dX13_nextLine_83 (mvP (f := 1118) (q := (x + 9)) rfl rfl (ms_p_1118 (mS.sI (mS.sA h)))) ?_
    refine v_iload_n hX dX13_nextLine_86 (i := 3) rfl rfl ?_
    refine u_iald hX (L := 4200) (ms_k_1118 (mS.sI (mS.sA h))) (ms_l_1118 (mS.sI (mS.sA h))) ⟨by omega, by omega⟩ (by decide) dX13_nextLine_87 (fun v43_ e_v43_ b_v43_ => ?_)
    try simp (disch := omega) only [zr_I, zr_J, zr_B, rA_A, zl_I, zl_J, zl_A, lA_B] at e_v43_
    have g88_ := bk (v40_ + v41_) (by omega) (by omega)
    refine v_istore hX (lv' := [(4, .int (iI v43_)), (3, .int (iI (v40_ + v41_))), (2, .int (iI v36_)), (1, .int (iI (fs - 1))), (0, .ref x)]) dX13_nextLine_88 (by rw [hnL]; decide) rfl ?_
    exact L90 _ _ fs 0 az v43_ (v40_ + v41_) v36_ (fs - 1) (((mFr.rf _ _).sA (by decide)).sI (by decide)) (by simp (disch := omega) only [y_I_s_I, x_I_s_I, z_I_s_J, z_I_s_A, z_I_s_B, e_fs, e_az]) (by simp (disch := omega) only [y_I_s_I, x_I_s_I, z_I_s_J, z_I_s_A, z_I_s_B, e_fs, e_az]) (by simp (disch := omega) only [y_I_s_I, x_I_s_I, z_I_s_J, z_I_s_A, z_I_s_B, e_fs, e_az]) ⟨by omega, by omega⟩ ⟨by omega, by omega⟩ ⟨by omega, by omega⟩ (by omega) ⟨fun j a b => by simp (disch := omega) only [zr_I, zr_J, zr_B, rA_A, zl_I, zl_J, zl_A, lA_B, rA_x], by simp (disch := omega) only [zr_I, zr_J, zr_B, rA_A, zl_I, zl_J, zl_A, lA_B, rA_y]; omega⟩ (by omega) rfl
  ·
    refine v_aload_n hX dX13_nextLine_29 (i := 0) rfl rfl ?_
    refine v_dup hX dX13_nextLine_30 rfl ?_
    refine v_get hX (ci := 11) (k := 20) (ms_kx h) bc_11 (by decide) (by decide) in_11 w_5_236 dX13_nextLine_31 (mvF (f := 1120) (v := iI fs) rfl rfl (by simp (disch := omega) only [y_I_s_I, x_I_s_I, z_I_s_J, z_I_s_A, z_I_s_B, e_fs, e_az])) ?_
    refine v_iconst hX (v := iI 1) dX13_nextLine_34 rfl ?_
    refine u_isub hX dX13_nextLine_35 ?_
    refine v_putI hX (ci := 11) (k := 20) (f := 1120) (ms_kx h) bc_11 (by decide) (by decide) in_11 tyX13_ok nmX13 w_5_236 (Or.inl rfl) rfl rfl dX13_nextLine_36 rfl rfl ?_
    refine v_aload_n hX dX13_nextLine_39 (i := 0) rfl rfl ?_
    refine v_aload_n hX dX13_nextLine_40 (i := 0) rfl rfl ?_
    refine v_get hX (ci := 11) (k := 24) (ms_kx (mS.sI h)) bc_11 (by decide) (by decide) in_11 w_6_0 dX13_nextLine_41 (mvP (f := 1124) (q := (x + 14)) rfl rfl (ms_p_1124 (mS.sI h))) ?_
    refine v_iconst hX (v := iI 4) dX13_nextLine_44 rfl ?_
    refine v_iload_n hX dX13_nextLine_45 (i := 1) rfl rfl ?_
    refine u_imul hX dX13_nextLine_46 ?_
    refine u_iald hX (L := 28) (ms_k_1124 (mS.sI h)) (ms_l_1124 (mS.sI h)) ⟨by omega, by omega⟩ (by decide) dX13_nextLine_47 (fun v44_ e_v44_ b_v44_ => ?_)
    try simp (disch := omega) only [zr_I, zr_J, zr_B, rA_A, zl_I, zl_J, zl_A, lA_B] at e_v44_
    refine v_putI hX (ci := 11) (k := 27) (f := 1127) (ms_kx (mS.sI h)) bc_11 (by decide) (by decide) in_11 tyX13_ok nmX13 w_6_3 (Or.inl rfl) rfl rfl dX13_nextLine_48 rfl rfl ?_
    refine v_iconst hX (v := iI 0) dX13_nextLine_51 rfl ?_
    obtain ⟨v45_, e_v45_, b_v45_⟩ := i_ex (m_I S 1107 x)
    exact v_zreturn hX (nar_b (by omega)) hE dX13_nextLine_52 (by omega) (by omega) ⟨rfl, (((mFr.rf _ _).sI (by decide)).sI (by decide)), 0, (fs - 1), v45_, v44_, rfl, ⟨by omega, by omega⟩, (by simp (disch := omega) only [y_I_s_I, x_I_s_I, z_I_s_J, z_I_s_A, z_I_s_B, e_fs, e_az, e_v45_]), ⟨by omega, by omega⟩, (by simp (disch := omega) only [y_I_s_I, x_I_s_I, z_I_s_J, z_I_s_A, z_I_s_B, e_fs, e_az, e_v45_]), ⟨by omega, by omega⟩, (by simp (disch := omega) only [y_I_s_I, x_I_s_I, z_I_s_J, z_I_s_A, z_I_s_B, e_fs, e_az, e_v45_]), ⟨by omega, by omega⟩, (by omega), (fun g => absurd g (by omega)), (fun _ j => by simp (disch := omega) only [zr_I, zr_J, zr_B, rA_A, zl_I, zl_J, zl_A, lA_B]), (fun g => absurd g (by omega))⟩
