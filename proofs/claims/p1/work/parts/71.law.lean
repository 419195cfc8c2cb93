/-! ===== the law over memory: its script, its end ===== -/
def b_Sc (X : b_T) (b L : Nat) (xs : Nat → Int32) : Prop := match X with
  | (p, l, e, R, s, m, args, below, meth, c, Q, D, cy, kn, B, nL) => va_X b L xs s s.heap ∧ b < s.heap.size ∧ ¬ B ≤ b
def b_EndL (X : b_T) (b : Nat) : Prop := match X with
  | (p, l, e, R, s, m, args, below, meth, c, Q, D, cy, kn, B, nL) => args = #[Value.ref b] ∧ Q = lw_Z below #[Value.ref b] s ∧ meth.sig.returnType = ret ∧ meth.locks = false ∧ B = s.heap.size ∧ R = room_1
section BLAW
variable {X : b_T} {cc : ByteArray} {own : String} {fr lo mc ms : Nat} {S : b_M} {z ce sl pc : Nat} {lv : List (Nat × Value)} {st : List Value}
theorem v_sld (hX : b_X X cc own fr lo mc ms) {b L : Nat} {xs : Nat → Int32} (hs : b_Sc X b L xs) {i v : Int32} (hin : vp_in i L) (hv : xs i.toNatClampNeg = v) (d : decode cc pc = .ok (.iaload, 1)) (kk : b_V X S z ce sl (pc + 1) lv (.int v :: st)) : b_V X S z ce sl pc lv (.int i :: .ref b :: st) := by
  obtain ⟨p, l, e, R, s, m, args, below, meth, c, Q, D, cy, kn, B, nL⟩ := X
  intro H locs ls hR hS hl
  subst hv
  exact va_sld hX.1 hX.2.1 hs.1 hs.2.1 hs.2.2 hS hin d (kk H locs ls hR hS hl)
theorem v_slen (hX : b_X X cc own fr lo mc ms) {b L : Nat} {xs : Nat → Int32} (hs : b_Sc X b L xs) (d : decode cc pc = .ok (.arraylength, 1)) (kk : b_V X S z ce sl (pc + 1) lv (.int (nI L) :: st)) : b_V X S z ce sl pc lv (.ref b :: st) := by
  obtain ⟨p, l, e, R, s, m, args, below, meth, c, Q, D, cy, kn, B, nL⟩ := X
  intro H locs ls hR hS hl
  exact va_slen hX.1 hX.2.1 hs.1 hs.2.1 hs.2.2 hS d (kk H locs ls hR hS hl)
theorem v_lawret (hX : b_X X code own fr lo mc ms) {b : Nat} (hE : b_EndL X b) (hc : ce ≤ 600002) (hs : sl ≤ 7302232) (d : decode code pc = .ok (.ireturn, 1)) : b_V X S z ce sl pc lv [.int 1] := by
  obtain ⟨p, l, e, R, s, m, args, below, meth, c, Q, D, cy, kn, B, nL⟩ := X
  intro H locs ls hR hS hl
  obtain ⟨rfl, rfl, hr, hlocks, rfl, rfl⟩ := hE
  refine va_forget (fun q hq => hS.2.2 q hq) ?_
  refine W.widen (k := 600002) (n := 7302232) hc hs ?_
  exact lw_ret hX.1 hX.2.1 hr hlocks d
end BLAW
/-- what the fresh objects hold -/
def lF (S : b_M) (x : Nat) : Prop := alG S x ∧ m_I S 606 (x + 5) = 0 ∧ mG S (x + 457) ∧ m_I S 1158 (x + 457) = 0 ∧ m_K S (x + 497) = 14 ∧ m_L S (x + 497) = 1
theorem alG.keep {S S' : b_M} {x : Nat} (h : alG S x) (g : ∀ b, x ≤ b → b < x + 457 → b_eq S S' b) : alG S' x := by
  obtain ⟨h1, h2, h3, h4, h5⟩ := h
  have k1 : ∀ q ∈ alK, q.1 < 457 := by decide
  have k2 : ∀ q ∈ alP, q.2.1 < 457 := by decide
  have k3 : ∀ q ∈ alI, q.2 < 457 := by decide
  have k4 : ∀ q ∈ alL, q.1 < 457 := by decide
  refine ⟨fun q hq => ?_, fun q hq => ?_, fun q hq => ?_, fun q hq => ?_, ?_⟩
  · exact (g (x + q.1) (by omega) (by have := k1 q hq; omega)).1.trans (h1 q hq)
  · exact ((g (x + q.2.1) (by omega) (by have := k2 q hq; omega)).2.2.2.1 _).trans (h2 q hq)
  · exact ((g (x + q.2) (by omega) (by have := k3 q hq; omega)).2.1 _).trans (h3 q hq)
  · exact (g (x + q.1) (by omega) (by have := k4 q hq; omega)).2.2.2.2.1.trans (h4 q hq)
  · exact ((g (x + 14) (by omega) (by omega)).2.2.2.2.2.1 _).trans h5
theorem mG.keep {S S' : b_M} {x : Nat} (h : mG S x) (g : ∀ b, x ≤ b → b < x + 40 → b_eq S S' b) : mG S' x := by
  obtain ⟨h1, h2, h3⟩ := h
  refine ⟨(g x (by omega) (by omega)).1.trans h1, fun f hf => ((g x (by omega) (by omega)).2.1 f).trans (h2 f hf), fun j hj => ?_⟩
  obtain ⟨a1, a2, a3⟩ := h3 j hj
  have e := g (x + 1 + j) (by omega) (by omega)
  exact ⟨((g x (by omega) (by omega)).2.2.2.1 _).trans a1, e.1.trans a2, e.2.2.2.2.1.trans a3⟩
set_option maxRecDepth 100000 in
set_option maxHeartbeats 4000000 in
theorem law_init {X : b_T} {fr lo mc ms : Nat} (hX : b_X X code R_law fr lo mc ms) (hnL : b_n X = 7) (hfr : 5 ≤ fr) (hlo : 105 ≤ lo) (hmc : 500 ≤ mc) (hms : 200000 ≤ ms) {S : b_M} {z b : Nat} (kk : ∀ S1, lF S1 z → b_V X S1 (z + 498) 498 196000 23 [(4, .int 0), (3, .ref (z + 497)), (2, .ref (z + 457)), (1, .ref z), (0, .ref b)] []) : b_V X S z 0 0 0 [(0, .ref b)] [] := by
  refine v_new hX (ci := 10) bc_10 (by decide) in_10 tyX12_ok dv_10 w_1_29 w_1_30 w_1_1 dL_law_0 (by omega) (by omega) ?_
  refine v_dup hX dL_law_3 rfl ?_
  refine v_callI hX (n := 0) (host := "AssembleLines") (c_AL_init (a := z) (by simp (disch := omega) only [q_K_s_I, q_K_s_J, q_K_s_P, q_K_s_A, q_K_s_B, q_K_s_C, q_K_r_A, q_K_r_B, y_K_n_O, x_K_n_O, y_K_n_A, x_K_n_A]) (by omega)) (Or.inl w_1_31) w_1_32 w_1_1 w_1_33 rfl (by decide +kernel) rfl ⟨by omega, by omega⟩ ⟨by omega, by omega⟩ (Nat.le_of_ble_eq_true rfl) rfl dL_law_4 (fun _ _ _ h => h) ?_
  rintro r1 S1 z1 ⟨rfl, e1, i1⟩
  subst e1
  refine v_astore_n hX (lv' := [(1, .ref z), (0, .ref b)]) dL_law_7 (i := 1) rfl (by rw [hnL]; decide) rfl ?_
  refine v_new hX (ci := 11) bc_11 (by decide) in_11 tyX13_ok dv_11 w_5_195 w_5_196 w_1_16 dL_law_8 (by omega) (by omega) ?_
  refine v_dup hX dL_law_11 rfl ?_
  refine v_callI hX (n := 0) (host := "AssembleLines") (c_Model_init (a := z + 1 + 456) (by simp (disch := omega) only [q_K_s_I, q_K_s_J, q_K_s_P, q_K_s_A, q_K_s_B, q_K_s_C, q_K_r_A, q_K_r_B, y_K_n_O, x_K_n_O, y_K_n_A, x_K_n_A]) (by omega)) (Or.inl w_5_197) w_5_198 w_1_16 w_5_199 rfl (by decide +kernel) rfl ⟨by omega, by omega⟩ ⟨by omega, by omega⟩ (Nat.le_of_ble_eq_true rfl) rfl dL_law_12 (fun _ _ _ h => h) ?_
  rintro r2 S2 z2 ⟨rfl, e2, i2⟩
  subst e2
  refine v_astore_n hX (lv' := [(2, .ref (z + 1 + 456)), (1, .ref z), (0, .ref b)]) dL_law_15 (i := 2) rfl (by rw [hnL]; decide) rfl ?_
  refine v_iconst hX (v := 1) dL_law_16 (by decide) ?_
  refine v_newa_l hX (N := 1) w_1_98 dL_law_17 (by decide) (by decide) (by decide) (by omega) (by omega) ?_
  refine v_astore_n hX (lv' := [(3, .ref (z + 1 + 456 + 1 + 39)), (2, .ref (z + 1 + 456)), (1, .ref z), (0, .ref b)]) dL_law_19 (i := 3) rfl (by rw [hnL]; decide) rfl ?_
  refine v_iconst hX (v := 0) dL_law_20 (by decide) ?_
  refine v_istore hX (lv' := [(4, .int 0), (3, .ref (z + 1 + 456 + 1 + 39)), (2, .ref (z + 1 + 456)), (1, .ref z), (0, .ref b)]) dL_law_21 (by rw [hnL]; decide) rfl ?_
  have f1 : alG S1 z ∧ m_I S1 606 (z + 5) = 0 := alG_of i1 (fun f => y_I_n_O _ _ _ _)
  have f2 : mG S2 (z + 457) ∧ m_I S2 1158 (z + 457) = 0 := mG_of i2 (fun f => y_I_n_O _ _ _ _)
  have g2 : ∀ b, z ≤ b → b < z + 457 → b_eq S1 S2 b := fun b h1 h2 => (e_n_O _ _ _ (by omega)).tr (i2.1 b (by omega) (by omega))
  have a2 : alG S2 z := f1.1.keep g2
  refine v_widen (c1 := 498) (s1 := 196000) (by omega) (by omega) ?_
  refine kk _ ⟨a2.keep (fun b h1 h2 => e_n_A _ _ _ _ (by omega)), ((e_n_A _ _ _ _ (by omega)).2.1 _).trans (((g2 (z + 5) (by omega) (by omega)).2.1 _).trans f1.2), f2.1.keep (fun b h1 h2 => e_n_A _ _ _ _ (by omega)), ((e_n_A _ _ _ _ (by omega)).2.1 _).trans f2.2, y_K_n_A _ _ _ _, y_L_n_A _ _ _ _⟩
set_option maxRecDepth 100000 in
set_option maxHeartbeats 4000000 in
theorem law_end {X : b_T} {fr lo mc ms : Nat} (hX : b_X X code R_law fr lo mc ms) (hnL : b_n X = 7) {b L : Nat} {xs : Nat → Int32} (hs : b_Sc X b L xs) (hE : b_EndL X b) (hL : L ≤ 5) {S : b_M} {z ce sl : Nat} (hc : ce ≤ 600002) (hsl : sl ≤ 7302232) : b_V X S z ce sl 561 [(4, .int 0), (0, .ref b)] [] := by
  refine v_iinc hX (v := 5) (lv' := [(4, .int 5), (0, .ref b)]) dL_law_561 rfl rfl (by rw [hnL]; decide) rfl ?_
  refine v_goto hX (tgt := 23) dL_law_564 (by decide) ?_
  refine v_iload hX dL_law_23 rfl ?_
  refine v_aload_n hX dL_law_25 (i := 0) rfl rfl ?_
  refine v_slen hX hs dL_law_26 ?_
  refine v_iconst hX (v := 5) dL_law_27 (by decide) ?_
  refine v_isub hX dL_law_28 ?_
  have h9 : (5 : Int32) > nI L - 5 := by
    have hc : L = 0 ∨ L = 1 ∨ L = 2 ∨ L = 3 ∨ L = 4 ∨ L = 5 := by omega
    rcases hc with rfl | rfl | rfl | rfl | rfl | rfl <;> decide
  refine v_icmp_gt hX (tgt := 567) dL_law_29 (by decide) (fun _ => ?_) (fun h => absurd h9 h)
  refine v_iconst hX (v := 1) dL_law_567 (by decide) ?_
  exact v_lawret hX hE hc hsl dL_law_568
set_option maxRecDepth 100000 in
set_option maxHeartbeats 4000000 in
theorem lawc_error {X : b_T} {fr lo mc ms : Nat} (hX : b_X X code R_law fr lo mc ms) (hnL : b_n X = 7) {b : Nat} {xs : Nat → Int32} (hs : b_Sc X b 5 xs) (hE : b_EndL X b) (hfr : 12 ≤ fr) (hlo : 260 ≤ lo) (hmc : 600 ≤ mc) (hms : 200000 ≤ ms) {S : b_M} {z : Nat} (h : lF S z) : b_V X S (z + 498) 498 196000 276 [(4, .int 0), (3, .ref (z + 497)), (2, .ref (z + 457)), (1, .ref z), (0, .ref b)] [] := by
  obtain ⟨h1, h2, h3, h4, h5, h6⟩ := h
  refine v_aload_n hX dL_law_276 (i := 1) rfl rfl ?_
  refine v_aload_n hX dL_law_277 (i := 0) rfl rfl ?_
  refine v_iload hX dL_law_278 rfl ?_
  refine v_iconst hX (v := 1) dL_law_280 (by decide) ?_
  refine v_iadd hX dL_law_281 ?_
  refine v_sld hX hs (v := xs 1) (by unfold vp_in; decide) (congrArg xs (by decide)) dL_law_282 ?_
  refine v_aload_n hX dL_law_283 (i := 0) rfl rfl ?_
  refine v_iload hX dL_law_284 rfl ?_
  refine v_iconst hX (v := 2) dL_law_286 (by decide) ?_
  refine v_iadd hX dL_law_287 ?_
  refine v_sld hX hs (v := xs 2) (by unfold vp_in; decide) (congrArg xs (by decide)) dL_law_288 ?_
  refine v_aload_n hX dL_law_289 (i := 3) rfl rfl ?_
  refine v_callSW hX (n := 4) (c_L_error0 (x := z) (o := z + 497) (k := xs 1) (v := xs 2) h1) w_5_110 w_5_111 w_1_0 w_5_112 (by decide +kernel) rfl ⟨by omega, by omega⟩ ⟨by omega, by omega⟩ (Nat.le_of_ble_eq_true rfl) rfl dL_law_290 (fun _ _ _ h => h) ?_
  rintro r1 S1 z1 ⟨q1, rfl, rfl⟩
  refine v_istore hX (lv' := [(5, .int 1), (4, .int 0), (3, .ref (z + 497)), (2, .ref (z + 457)), (1, .ref z), (0, .ref b)]) dL_law_293 (by rw [hnL]; decide) rfl ?_
  refine v_aload_n hX dL_law_295 (i := 2) rfl rfl ?_
  refine v_aload_n hX dL_law_296 (i := 0) rfl rfl ?_
  refine v_iload hX dL_law_297 rfl ?_
  refine v_iconst hX (v := 1) dL_law_299 (by decide) ?_
  refine v_iadd hX dL_law_300 ?_
  refine v_sld hX hs (v := xs 1) (by unfold vp_in; decide) (congrArg xs (by decide)) dL_law_301 ?_
  refine v_aload_n hX dL_law_302 (i := 0) rfl rfl ?_
  refine v_iload hX dL_law_303 rfl ?_
  refine v_iconst hX (v := 2) dL_law_305 (by decide) ?_
  refine v_iadd hX dL_law_306 ?_
  refine v_sld hX hs (v := xs 2) (by unfold vp_in; decide) (congrArg xs (by decide)) dL_law_307 ?_
  refine v_callV hX (n := 2) (c_M_error0 (x := z + 457) (k := xs 1) (v := xs 2) h3) (by simp (disch := omega) only [q_K_s_I, q_K_s_J, q_K_s_P, q_K_s_A, q_K_s_B, q_K_s_C, q_K_r_A, q_K_r_B, y_K_n_O, x_K_n_O, y_K_n_A, x_K_n_A, h3.1]) bc_11 (by decide) w_7_216 w_7_217 w_7_218 w_1_16 w_7_219 (by decide +kernel) rfl ⟨by omega, by omega⟩ ⟨by omega, by omega⟩ (Nat.le_of_ble_eq_true rfl) rfl dL_law_308 (fun _ _ _ h => h) ?_
  rintro r2 S2 z2 ⟨rfl, rfl, rfl⟩
  refine v_istore hX (lv' := [(6, .int 0), (5, .int 1), (4, .int 0), (3, .ref (z + 497)), (2, .ref (z + 457)), (1, .ref z), (0, .ref b)]) dL_law_311 (by rw [hnL]; decide) rfl ?_
  refine v_aload_n hX dL_law_313 (i := 2) rfl rfl ?_
  refine v_callV hX (n := 0) (c_M_thrown (a := z + 457) (by simp (disch := omega) only [q_K_s_I, q_K_s_J, q_K_s_P, q_K_s_A, q_K_s_B, q_K_s_C, q_K_r_A, q_K_r_B, y_K_n_O, x_K_n_O, y_K_n_A, x_K_n_A, h3.1])) (by simp (disch := omega) only [q_K_s_I, q_K_s_J, q_K_s_P, q_K_s_A, q_K_s_B, q_K_s_C, q_K_r_A, q_K_r_B, y_K_n_O, x_K_n_O, y_K_n_A, x_K_n_A, h3.1]) bc_11 (by decide) w_6_194 w_6_195 w_6_196 w_1_16 w_6_197 (by decide +kernel) rfl ⟨by omega, by omega⟩ ⟨by omega, by omega⟩ (Nat.le_of_ble_eq_true rfl) rfl dL_law_314 (fun _ _ _ h => h) ?_
  rintro r3 S3 z3 ⟨rfl, rfl, rfl⟩
  rw [y_I_s_I]
  refine v_iload hX dL_law_317 rfl ?_
  refine v_icmp_eq hX (tgt := 324) dL_law_319 (by decide) (fun _ => ?_) (fun h => absurd h (by decide))
  refine v_iload hX dL_law_324 rfl ?_
  refine v_if_ne hX (tgt := 341) dL_law_326 (by decide) (fun _ => ?_) (fun h => absurd h (by decide))
  refine v_goto hX (tgt := 561) dL_law_341 (by decide) ?_
  refine v_locals (lv' := [(4, .int 0), (0, .ref b)]) (by simp) ?_
  exact law_end hX hnL hs hE (Nat.le_refl 5) (by omega) (by omega)
set_option maxRecDepth 100000 in
set_option maxHeartbeats 4000000 in
theorem lawc_word {X : b_T} {fr lo mc ms : Nat} (hX : b_X X code R_law fr lo mc ms) (hnL : b_n X = 7) {b : Nat} {xs : Nat → Int32} (hs : b_Sc X b 5 xs) (hE : b_EndL X b) (hfr : 12 ≤ fr) (hlo : 260 ≤ lo) (hmc : 600 ≤ mc) (hms : 200000 ≤ ms) {S : b_M} {z : Nat} (h : lF S z) : b_V X S (z + 498) 498 196000 344 [(4, .int 0), (3, .ref (z + 497)), (2, .ref (z + 457)), (1, .ref z), (0, .ref b)] [] := by
  obtain ⟨h1, h2, h3, h4, h5, h6⟩ := h
  refine v_aload_n hX dL_law_344 (i := 1) rfl rfl ?_
  refine v_aload_n hX dL_law_345 (i := 0) rfl rfl ?_
  refine v_iload hX dL_law_346 rfl ?_
  refine v_iconst hX (v := 1) dL_law_348 (by decide) ?_
  refine v_iadd hX dL_law_349 ?_
  refine v_sld hX hs (v := xs 1) (by unfold vp_in; decide) (congrArg xs (by decide)) dL_law_350 ?_
  refine v_aload_n hX dL_law_351 (i := 3) rfl rfl ?_
  refine v_callSW hX (n := 3) (c_L_word0 (x := z) (o := z + 497) (k := xs 1) h1) w_5_134 w_5_135 w_1_0 w_5_136 (by decide +kernel) rfl ⟨by omega, by omega⟩ ⟨by omega, by omega⟩ (Nat.le_of_ble_eq_true rfl) rfl dL_law_352 (fun _ _ _ h => h) ?_
  rintro r1 S1 z1 ⟨q1, rfl, rfl⟩
  refine v_istore hX (lv' := [(5, .int 1), (4, .int 0), (3, .ref (z + 497)), (2, .ref (z + 457)), (1, .ref z), (0, .ref b)]) dL_law_355 (by rw [hnL]; decide) rfl ?_
  refine v_aload_n hX dL_law_357 (i := 2) rfl rfl ?_
  refine v_aload_n hX dL_law_358 (i := 0) rfl rfl ?_
  refine v_iload hX dL_law_359 rfl ?_
  refine v_iconst hX (v := 1) dL_law_361 (by decide) ?_
  refine v_iadd hX dL_law_362 ?_
  refine v_sld hX hs (v := xs 1) (by unfold vp_in; decide) (congrArg xs (by decide)) dL_law_363 ?_
  refine v_callV hX (n := 1) (c_M_word0 (x := z + 457) (k := xs 1) h3) (by simp (disch := omega) only [q_K_s_I, q_K_s_J, q_K_s_P, q_K_s_A, q_K_s_B, q_K_s_C, q_K_r_A, q_K_r_B, y_K_n_O, x_K_n_O, y_K_n_A, x_K_n_A, h3.1]) bc_11 (by decide) w_7_220 w_7_221 w_7_222 w_1_16 w_7_223 (by decide +kernel) rfl ⟨by omega, by omega⟩ ⟨by omega, by omega⟩ (Nat.le_of_ble_eq_true rfl) rfl dL_law_364 (fun _ _ _ h => h) ?_
  rintro r2 S2 z2 ⟨rfl, rfl, rfl⟩
  refine v_istore hX (lv' := [(6, .int 0), (5, .int 1), (4, .int 0), (3, .ref (z + 497)), (2, .ref (z + 457)), (1, .ref z), (0, .ref b)]) dL_law_367 (by rw [hnL]; decide) rfl ?_
  refine v_aload_n hX dL_law_369 (i := 2) rfl rfl ?_
  refine v_callV hX (n := 0) (c_M_thrown (a := z + 457) (by simp (disch := omega) only [q_K_s_I, q_K_s_J, q_K_s_P, q_K_s_A, q_K_s_B, q_K_s_C, q_K_r_A, q_K_r_B, y_K_n_O, x_K_n_O, y_K_n_A, x_K_n_A, h3.1])) (by simp (disch := omega) only [q_K_s_I, q_K_s_J, q_K_s_P, q_K_s_A, q_K_s_B, q_K_s_C, q_K_r_A, q_K_r_B, y_K_n_O, x_K_n_O, y_K_n_A, x_K_n_A, h3.1]) bc_11 (by decide) w_6_194 w_6_195 w_6_196 w_1_16 w_6_197 (by decide +kernel) rfl ⟨by omega, by omega⟩ ⟨by omega, by omega⟩ (Nat.le_of_ble_eq_true rfl) rfl dL_law_370 (fun _ _ _ h => h) ?_
  rintro r3 S3 z3 ⟨rfl, rfl, rfl⟩
  rw [y_I_s_I]
  refine v_iload hX dL_law_373 rfl ?_
  refine v_icmp_eq hX (tgt := 380) dL_law_375 (by decide) (fun _ => ?_) (fun h => absurd h (by decide))
  refine v_iload hX dL_law_380 rfl ?_
  refine v_if_ne hX (tgt := 397) dL_law_382 (by decide) (fun _ => ?_) (fun h => absurd h (by decide))
  refine v_goto hX (tgt := 561) dL_law_397 (by decide) ?_
  refine v_locals (lv' := [(4, .int 0), (0, .ref b)]) (by simp) ?_
  exact law_end hX hnL hs hE (Nat.le_refl 5) (by omega) (by omega)
set_option maxRecDepth 100000 in
set_option maxHeartbeats 4000000 in
theorem lawc_statement {X : b_T} {fr lo mc ms : Nat} (hX : b_X X code R_law fr lo mc ms) (hnL : b_n X = 7) {b : Nat} {xs : Nat → Int32} (hs : b_Sc X b 5 xs) (hE : b_EndL X b) (hfr : 12 ≤ fr) (hlo : 260 ≤ lo) (hmc : 600 ≤ mc) (hms : 200000 ≤ ms) {S : b_M} {z : Nat} (h : lF S z) : b_V X S (z + 498) 498 196000 400 [(4, .int 0), (3, .ref (z + 497)), (2, .ref (z + 457)), (1, .ref z), (0, .ref b)] [] := by
  obtain ⟨h1, h2, h3, h4, h5, h6⟩ := h
  refine v_aload_n hX dL_law_400 (i := 1) rfl rfl ?_
  refine v_aload_n hX dL_law_401 (i := 0) rfl rfl ?_
  refine v_iload hX dL_law_402 rfl ?_
  refine v_iconst hX (v := 1) dL_law_404 (by decide) ?_
  refine v_iadd hX dL_law_405 ?_
  refine v_sld hX hs (v := xs 1) (by unfold vp_in; decide) (congrArg xs (by decide)) dL_law_406 ?_
  refine v_aload_n hX dL_law_407 (i := 0) rfl rfl ?_
  refine v_iload hX dL_law_408 rfl ?_
  refine v_iconst hX (v := 2) dL_law_410 (by decide) ?_
  refine v_iadd hX dL_law_411 ?_
  refine v_sld hX hs (v := xs 2) (by unfold vp_in; decide) (congrArg xs (by decide)) dL_law_412 ?_
  refine v_aload_n hX dL_law_413 (i := 3) rfl rfl ?_
  refine v_callSW hX (n := 4) (c_L_statement0 (x := z) (o := z + 497) (k := xs 1) (v := xs 2) h1) w_5_166 w_5_167 w_1_0 w_5_168 (by decide +kernel) rfl ⟨by omega, by omega⟩ ⟨by omega, by omega⟩ (Nat.le_of_ble_eq_true rfl) rfl dL_law_414 (fun _ _ _ h => h) ?_
  rintro r1 S1 z1 ⟨q1, rfl, rfl⟩
  refine v_istore hX (lv' := [(5, .int 1), (4, .int 0), (3, .ref (z + 497)), (2, .ref (z + 457)), (1, .ref z), (0, .ref b)]) dL_law_417 (by rw [hnL]; decide) rfl ?_
  refine v_aload_n hX dL_law_419 (i := 2) rfl rfl ?_
  refine v_aload_n hX dL_law_420 (i := 0) rfl rfl ?_
  refine v_iload hX dL_law_421 rfl ?_
  refine v_iconst hX (v := 1) dL_law_423 (by decide) ?_
  refine v_iadd hX dL_law_424 ?_
  refine v_sld hX hs (v := xs 1) (by unfold vp_in; decide) (congrArg xs (by decide)) dL_law_425 ?_
  refine v_aload_n hX dL_law_426 (i := 0) rfl rfl ?_
  refine v_iload hX dL_law_427 rfl ?_
  refine v_iconst hX (v := 2) dL_law_429 (by decide) ?_
  refine v_iadd hX dL_law_430 ?_
  refine v_sld hX hs (v := xs 2) (by unfold vp_in; decide) (congrArg xs (by decide)) dL_law_431 ?_
  refine v_callV hX (n := 2) (c_M_statement0 (x := z + 457) (k := xs 1) (v := xs 2) h3) (by simp (disch := omega) only [q_K_s_I, q_K_s_J, q_K_s_P, q_K_s_A, q_K_s_B, q_K_s_C, q_K_r_A, q_K_r_B, y_K_n_O, x_K_n_O, y_K_n_A, x_K_n_A, h3.1]) bc_11 (by decide) w_7_224 w_7_225 w_7_226 w_1_16 w_7_227 (by decide +kernel) rfl ⟨by omega, by omega⟩ ⟨by omega, by omega⟩ (Nat.le_of_ble_eq_true rfl) rfl dL_law_432 (fun _ _ _ h => h) ?_
  rintro r2 S2 z2 ⟨rfl, rfl, rfl⟩
  refine v_istore hX (lv' := [(6, .int 0), (5, .int 1), (4, .int 0), (3, .ref (z + 497)), (2, .ref (z + 457)), (1, .ref z), (0, .ref b)]) dL_law_435 (by rw [hnL]; decide) rfl ?_
  refine v_aload_n hX dL_law_437 (i := 2) rfl rfl ?_
  refine v_callV hX (n := 0) (c_M_thrown (a := z + 457) (by simp (disch := omega) only [q_K_s_I, q_K_s_J, q_K_s_P, q_K_s_A, q_K_s_B, q_K_s_C, q_K_r_A, q_K_r_B, y_K_n_O, x_K_n_O, y_K_n_A, x_K_n_A, h3.1])) (by simp (disch := omega) only [q_K_s_I, q_K_s_J, q_K_s_P, q_K_s_A, q_K_s_B, q_K_s_C, q_K_r_A, q_K_r_B, y_K_n_O, x_K_n_O, y_K_n_A, x_K_n_A, h3.1]) bc_11 (by decide) w_6_194 w_6_195 w_6_196 w_1_16 w_6_197 (by decide +kernel) rfl ⟨by omega, by omega⟩ ⟨by omega, by omega⟩ (Nat.le_of_ble_eq_true rfl) rfl dL_law_438 (fun _ _ _ h => h) ?_
  rintro r3 S3 z3 ⟨rfl, rfl, rfl⟩
  rw [y_I_s_I]
  refine v_iload hX dL_law_441 rfl ?_
  refine v_icmp_eq hX (tgt := 448) dL_law_443 (by decide) (fun _ => ?_) (fun h => absurd h (by decide))
  refine v_iload hX dL_law_448 rfl ?_
  refine v_if_ne hX (tgt := 465) dL_law_450 (by decide) (fun _ => ?_) (fun h => absurd h (by decide))
  refine v_goto hX (tgt := 561) dL_law_465 (by decide) ?_
  refine v_locals (lv' := [(4, .int 0), (0, .ref b)]) (by simp) ?_
  exact law_end hX hnL hs hE (Nat.le_refl 5) (by omega) (by omega)
set_option maxRecDepth 100000 in
set_option maxHeartbeats 4000000 in
theorem lawc_name {X : b_T} {fr lo mc ms : Nat} (hX : b_X X code R_law fr lo mc ms) (hnL : b_n X = 7) {b : Nat} {xs : Nat → Int32} (hs : b_Sc X b 5 xs) (hE : b_EndL X b) (hfr : 12 ≤ fr) (hlo : 260 ≤ lo) (hmc : 600 ≤ mc) (hms : 200000 ≤ ms) {S : b_M} {z : Nat} (h : lF S z) : b_V X S (z + 498) 498 196000 468 [(4, .int 0), (3, .ref (z + 497)), (2, .ref (z + 457)), (1, .ref z), (0, .ref b)] [] := by
  obtain ⟨h1, h2, h3, h4, h5, h6⟩ := h
  refine v_aload_n hX dL_law_468 (i := 1) rfl rfl ?_
  refine v_aload_n hX dL_law_469 (i := 0) rfl rfl ?_
  refine v_iload hX dL_law_470 rfl ?_
  refine v_iconst hX (v := 1) dL_law_472 (by decide) ?_
  refine v_iadd hX dL_law_473 ?_
  refine v_sld hX hs (v := xs 1) (by unfold vp_in; decide) (congrArg xs (by decide)) dL_law_474 ?_
  refine v_aload_n hX dL_law_475 (i := 0) rfl rfl ?_
  refine v_iload hX dL_law_476 rfl ?_
  refine v_iconst hX (v := 2) dL_law_478 (by decide) ?_
  refine v_iadd hX dL_law_479 ?_
  refine v_sld hX hs (v := xs 2) (by unfold vp_in; decide) (congrArg xs (by decide)) dL_law_480 ?_
  refine v_aload_n hX dL_law_481 (i := 3) rfl rfl ?_
  refine v_callSW hX (n := 4) (c_L_name0 (x := z) (o := z + 497) (k := xs 1) (v := xs 2) h1) w_5_178 w_5_179 w_1_0 w_5_180 (by decide +kernel) rfl ⟨by omega, by omega⟩ ⟨by omega, by omega⟩ (Nat.le_of_ble_eq_true rfl) rfl dL_law_482 (fun _ _ _ h => h) ?_
  rintro r1 S1 z1 ⟨q1, rfl, rfl⟩
  refine v_istore hX (lv' := [(5, .int 1), (4, .int 0), (3, .ref (z + 497)), (2, .ref (z + 457)), (1, .ref z), (0, .ref b)]) dL_law_485 (by rw [hnL]; decide) rfl ?_
  refine v_aload_n hX dL_law_487 (i := 2) rfl rfl ?_
  refine v_aload_n hX dL_law_488 (i := 0) rfl rfl ?_
  refine v_iload hX dL_law_489 rfl ?_
  refine v_iconst hX (v := 1) dL_law_491 (by decide) ?_
  refine v_iadd hX dL_law_492 ?_
  refine v_sld hX hs (v := xs 1) (by unfold vp_in; decide) (congrArg xs (by decide)) dL_law_493 ?_
  refine v_aload_n hX dL_law_494 (i := 0) rfl rfl ?_
  refine v_iload hX dL_law_495 rfl ?_
  refine v_iconst hX (v := 2) dL_law_497 (by decide) ?_
  refine v_iadd hX dL_law_498 ?_
  refine v_sld hX hs (v := xs 2) (by unfold vp_in; decide) (congrArg xs (by decide)) dL_law_499 ?_
  refine v_callV hX (n := 2) (c_M_name0 (x := z + 457) (k := xs 1) (v := xs 2) h3) (by simp (disch := omega) only [q_K_s_I, q_K_s_J, q_K_s_P, q_K_s_A, q_K_s_B, q_K_s_C, q_K_r_A, q_K_r_B, y_K_n_O, x_K_n_O, y_K_n_A, x_K_n_A, h3.1]) bc_11 (by decide) w_7_228 w_7_229 w_7_230 w_1_16 w_7_231 (by decide +kernel) rfl ⟨by omega, by omega⟩ ⟨by omega, by omega⟩ (Nat.le_of_ble_eq_true rfl) rfl dL_law_500 (fun _ _ _ h => h) ?_
  rintro r2 S2 z2 ⟨rfl, rfl, rfl⟩
  refine v_istore hX (lv' := [(6, .int 0), (5, .int 1), (4, .int 0), (3, .ref (z + 497)), (2, .ref (z + 457)), (1, .ref z), (0, .ref b)]) dL_law_503 (by rw [hnL]; decide) rfl ?_
  refine v_aload_n hX dL_law_505 (i := 2) rfl rfl ?_
  refine v_callV hX (n := 0) (c_M_thrown (a := z + 457) (by simp (disch := omega) only [q_K_s_I, q_K_s_J, q_K_s_P, q_K_s_A, q_K_s_B, q_K_s_C, q_K_r_A, q_K_r_B, y_K_n_O, x_K_n_O, y_K_n_A, x_K_n_A, h3.1])) (by simp (disch := omega) only [q_K_s_I, q_K_s_J, q_K_s_P, q_K_s_A, q_K_s_B, q_K_s_C, q_K_r_A, q_K_r_B, y_K_n_O, x_K_n_O, y_K_n_A, x_K_n_A, h3.1]) bc_11 (by decide) w_6_194 w_6_195 w_6_196 w_1_16 w_6_197 (by decide +kernel) rfl ⟨by omega, by omega⟩ ⟨by omega, by omega⟩ (Nat.le_of_ble_eq_true rfl) rfl dL_law_506 (fun _ _ _ h => h) ?_
  rintro r3 S3 z3 ⟨rfl, rfl, rfl⟩
  rw [y_I_s_I]
  refine v_iload hX dL_law_509 rfl ?_
  refine v_icmp_eq hX (tgt := 516) dL_law_511 (by decide) (fun _ => ?_) (fun h => absurd h (by decide))
  refine v_iload hX dL_law_516 rfl ?_
  refine v_if_ne hX (tgt := 533) dL_law_518 (by decide) (fun _ => ?_) (fun h => absurd h (by decide))
  refine v_goto hX (tgt := 561) dL_law_533 (by decide) ?_
  refine v_locals (lv' := [(4, .int 0), (0, .ref b)]) (by simp) ?_
  exact law_end hX hnL hs hE (Nat.le_refl 5) (by omega) (by omega)
set_option maxRecDepth 100000 in
set_option maxHeartbeats 4000000 in
theorem lawc_end {X : b_T} {fr lo mc ms : Nat} (hX : b_X X code R_law fr lo mc ms) (hnL : b_n X = 7) {b : Nat} {xs : Nat → Int32} (hs : b_Sc X b 5 xs) (hE : b_EndL X b) (hfr : 12 ≤ fr) (hlo : 260 ≤ lo) (hmc : 600 ≤ mc) (hms : 200000 ≤ ms) {S : b_M} {z : Nat} (h : lF S z) : b_V X S (z + 498) 498 196000 176 [(4, .int 0), (3, .ref (z + 497)), (2, .ref (z + 457)), (1, .ref z), (0, .ref b)] [] := by
  obtain ⟨h1, h2, h3, h4, h5, h6⟩ := h
  refine v_aload_n hX dL_law_176 (i := 1) rfl rfl ?_
  refine v_aload_n hX dL_law_177 (i := 0) rfl rfl ?_
  refine v_iload hX dL_law_178 rfl ?_
  refine v_iconst hX (v := 1) dL_law_180 (by decide) ?_
  refine v_iadd hX dL_law_181 ?_
  refine v_sld hX hs (v := xs 1) (by unfold vp_in; decide) (congrArg xs (by decide)) dL_law_182 ?_
  refine v_aload_n hX dL_law_183 (i := 3) rfl rfl ?_
  refine v_callSW hX (n := 3) (c_L_end0 (x := z) (o := z + 497) (k := xs 1) h1) w_3_38 w_3_39 w_1_0 w_3_40 (by decide +kernel) rfl ⟨by omega, by omega⟩ ⟨by omega, by omega⟩ (Nat.le_of_ble_eq_true rfl) rfl dL_law_184 (fun _ _ _ h => h) ?_
  rintro r1 S1 z1 ⟨q1, rfl, rfl⟩
  refine v_istore hX (lv' := [(5, .int (if 0 ≤ xs 1 ∧ xs 1 ≤ 16 then 2 else 1)), (4, .int 0), (3, .ref (z + 497)), (2, .ref (z + 457)), (1, .ref z), (0, .ref b)]) dL_law_187 (by rw [hnL]; decide) rfl ?_
  refine v_aload_n hX dL_law_189 (i := 2) rfl rfl ?_
  refine v_aload_n hX dL_law_190 (i := 0) rfl rfl ?_
  refine v_iload hX dL_law_191 rfl ?_
  refine v_iconst hX (v := 1) dL_law_193 (by decide) ?_
  refine v_iadd hX dL_law_194 ?_
  refine v_sld hX hs (v := xs 1) (by unfold vp_in; decide) (congrArg xs (by decide)) dL_law_195 ?_
  refine v_callV hX (n := 1) (c_M_end (a := z + 457) (k := xs 1) h3.1) (by simp (disch := omega) only [q_K_s_I, q_K_s_J, q_K_s_P, q_K_s_A, q_K_s_B, q_K_s_C, q_K_r_A, q_K_r_B, y_K_n_O, x_K_n_O, y_K_n_A, x_K_n_A, h3.1]) bc_11 (by decide) w_6_206 w_6_207 w_6_208 w_1_16 w_6_209 (by decide +kernel) rfl ⟨by omega, by omega⟩ ⟨by omega, by omega⟩ (Nat.le_of_ble_eq_true rfl) rfl dL_law_196 (fun _ _ _ h => h) ?_
  rintro r2 S2 z2 ⟨rfl, h7⟩
  rcases h7 with ⟨h8, rfl, rfl⟩ | ⟨h8, -, rfl, rfl⟩ | ⟨-, h8, -⟩
  · rw [if_neg h8]
    refine v_istore hX (lv' := [(6, .int 0), (5, .int 1), (4, .int 0), (3, .ref (z + 497)), (2, .ref (z + 457)), (1, .ref z), (0, .ref b)]) dL_law_199 (by rw [hnL]; decide) rfl ?_
    refine v_aload_n hX dL_law_201 (i := 2) rfl rfl ?_
    refine v_callV hX (n := 0) (c_M_thrown (a := z + 457) (by simp (disch := omega) only [q_K_s_I, q_K_s_J, q_K_s_P, q_K_s_A, q_K_s_B, q_K_s_C, q_K_r_A, q_K_r_B, y_K_n_O, x_K_n_O, y_K_n_A, x_K_n_A, h3.1])) (by simp (disch := omega) only [q_K_s_I, q_K_s_J, q_K_s_P, q_K_s_A, q_K_s_B, q_K_s_C, q_K_r_A, q_K_r_B, y_K_n_O, x_K_n_O, y_K_n_A, x_K_n_A, h3.1]) bc_11 (by decide) w_6_194 w_6_195 w_6_196 w_1_16 w_6_197 (by decide +kernel) rfl ⟨by omega, by omega⟩ ⟨by omega, by omega⟩ (Nat.le_of_ble_eq_true rfl) rfl dL_law_202 (fun _ _ _ h => h) ?_
    rintro r3 S3 z3 ⟨rfl, rfl, rfl⟩
    rw [y_I_s_I]
    refine v_iload hX dL_law_205 rfl ?_
    refine v_icmp_eq hX (tgt := 212) dL_law_207 (by decide) (fun _ => ?_) (fun h => absurd h (by decide))
    refine v_iload hX dL_law_212 rfl ?_
    refine v_if_ne hX (tgt := 229) dL_law_214 (by decide) (fun _ => ?_) (fun h => absurd h (by decide))
    refine v_goto hX (tgt := 561) dL_law_229 (by decide) ?_
    refine v_locals (lv' := [(4, .int 0), (0, .ref b)]) (by simp) ?_
    exact law_end hX hnL hs hE (Nat.le_refl 5) (by omega) (by omega)
  · rw [if_pos h8]
    refine v_istore hX (lv' := [(6, .int 0), (5, .int 2), (4, .int 0), (3, .ref (z + 497)), (2, .ref (z + 457)), (1, .ref z), (0, .ref b)]) dL_law_199 (by rw [hnL]; decide) rfl ?_
    refine v_aload_n hX dL_law_201 (i := 2) rfl rfl ?_
    refine v_callV hX (n := 0) (c_M_thrown (a := z + 457) (by simp (disch := omega) only [q_K_s_I, q_K_s_J, q_K_s_P, q_K_s_A, q_K_s_B, q_K_s_C, q_K_r_A, q_K_r_B, y_K_n_O, x_K_n_O, y_K_n_A, x_K_n_A, h3.1])) (by simp (disch := omega) only [q_K_s_I, q_K_s_J, q_K_s_P, q_K_s_A, q_K_s_B, q_K_s_C, q_K_r_A, q_K_r_B, y_K_n_O, x_K_n_O, y_K_n_A, x_K_n_A, h3.1]) bc_11 (by decide) w_6_194 w_6_195 w_6_196 w_1_16 w_6_197 (by decide +kernel) rfl ⟨by omega, by omega⟩ ⟨by omega, by omega⟩ (Nat.le_of_ble_eq_true rfl) rfl dL_law_202 (fun _ _ _ h => h) ?_
    rintro r3 S3 z3 ⟨rfl, rfl, rfl⟩
    rw [y_I_s_I]
    refine v_iload hX dL_law_205 rfl ?_
    refine v_icmp_eq hX (tgt := 212) dL_law_207 (by decide) (fun _ => ?_) (fun h => absurd h (by decide))
    refine v_iload hX dL_law_212 rfl ?_
    refine v_if_ne hX (tgt := 229) dL_law_214 (by decide) (fun _ => ?_) (fun h => absurd h (by decide))
    refine v_goto hX (tgt := 561) dL_law_229 (by decide) ?_
    refine v_locals (lv' := [(4, .int 0), (0, .ref b)]) (by simp) ?_
    exact law_end hX hnL hs hE (Nat.le_refl 5) (by omega) (by omega)
  · rw [mg_i_1103 h3] at h8
    exact absurd h8 (by decide)
set_option maxRecDepth 100000 in
set_option maxHeartbeats 4000000 in
theorem lawc_feed {X : b_T} {fr lo mc ms : Nat} (hX : b_X X code R_law fr lo mc ms) (hnL : b_n X = 7) {b : Nat} {xs : Nat → Int32} (hs : b_Sc X b 5 xs) (hE : b_EndL X b) (hfr : 12 ≤ fr) (hlo : 260 ≤ lo) (hmc : 600 ≤ mc) (hms : 200000 ≤ ms) {S : b_M} {z : Nat} (h : lF S z) : b_V X S (z + 498) 498 196000 84 [(4, .int 0), (3, .ref (z + 497)), (2, .ref (z + 457)), (1, .ref z), (0, .ref b)] [] := by
  obtain ⟨h1, h2, h3, h4, h5, h6⟩ := h
  refine v_aload_n hX dL_law_84 (i := 1) rfl rfl ?_
  refine v_aload_n hX dL_law_85 (i := 0) rfl rfl ?_
  refine v_iload hX dL_law_86 rfl ?_
  refine v_iconst hX (v := 1) dL_law_88 (by decide) ?_
  refine v_iadd hX dL_law_89 ?_
  refine v_sld hX hs (v := xs 1) (by unfold vp_in; decide) (congrArg xs (by decide)) dL_law_90 ?_
  refine v_aload_n hX dL_law_91 (i := 0) rfl rfl ?_
  refine v_iload hX dL_law_92 rfl ?_
  refine v_iconst hX (v := 2) dL_law_94 (by decide) ?_
  refine v_iadd hX dL_law_95 ?_
  refine v_sld hX hs (v := xs 2) (by unfold vp_in; decide) (congrArg xs (by decide)) dL_law_96 ?_
  refine v_aload_n hX dL_law_97 (i := 0) rfl rfl ?_
  refine v_iload hX dL_law_98 rfl ?_
  refine v_iconst hX (v := 3) dL_law_100 (by decide) ?_
  refine v_iadd hX dL_law_101 ?_
  refine v_sld hX hs (v := xs 3) (by unfold vp_in; decide) (congrArg xs (by decide)) dL_law_102 ?_
  refine v_aload_n hX dL_law_103 (i := 0) rfl rfl ?_
  refine v_iload hX dL_law_104 rfl ?_
  refine v_iconst hX (v := 4) dL_law_106 (by decide) ?_
  refine v_iadd hX dL_law_107 ?_
  refine v_sld hX hs (v := xs 4) (by unfold vp_in; decide) (congrArg xs (by decide)) dL_law_108 ?_
  refine v_aload_n hX dL_law_109 (i := 3) rfl rfl ?_
  refine v_callSW hX (n := 6) (c_L_feed (a := z) (t := z + 1) (n := 0) (o := z + 497) (x0 := xs 1) (x1 := xs 2) (x2 := xs 3) (x3 := xs 4) (al_k_0 h1) (al_p_1000 h1) (by omega) (al_k_1 h1) (al_l_1 h1) (al_i_1001 h1) (by decide) h5 h6 (by omega) (by omega)) w_2_199 w_2_200 w_1_0 w_2_201 (by decide +kernel) rfl ⟨by omega, by omega⟩ ⟨by omega, by omega⟩ (Nat.le_of_ble_eq_true rfl) rfl dL_law_110 (fun _ _ _ h => h) ?_
  rintro r1 S1 z1 ⟨q1, h7⟩
  obtain ⟨-, rfl, S2, i7, -, rfl⟩ := h7.resolve_right (fun q => absurd q.1 (by decide))
  have g2 : mG (s_B S2 (z + 497) 0 (nI (0 + 16)).toInt64) (z + 457) := h3.keep (fun b k1 k2 => (i7.1 b (by omega) (by omega)).tr (e_s_B _ _ _ _ (by omega)))
  have g3 : m_K (s_B S2 (z + 497) 0 (nI (0 + 16)).toInt64) (z + 497) = 14 := (i7.1 (z + 497) (by omega) (by omega)).1.trans h5
  have g4 : m_L (s_B S2 (z + 497) 0 (nI (0 + 16)).toInt64) (z + 497) = 1 := (i7.1 (z + 497) (by omega) (by omega)).2.2.2.2.1.trans h6
  have g5 : m_B (s_B S2 (z + 497) 0 (nI (0 + 16)).toInt64) (z + 497) 0 = (nI (0 + 16)).toInt64 := y_B_s_B _ _ _ _
  clear h7
  generalize s_B S2 (z + 497) 0 (nI (0 + 16)).toInt64 = S3 at g2 g3 g4 g5 ⊢
  refine v_istore hX (lv' := [(5, .int 0), (4, .int 0), (3, .ref (z + 497)), (2, .ref (z + 457)), (1, .ref z), (0, .ref b)]) dL_law_113 (by rw [hnL]; decide) rfl ?_
  refine v_aload_n hX dL_law_115 (i := 2) rfl rfl ?_
  refine v_aload_n hX dL_law_116 (i := 0) rfl rfl ?_
  refine v_iload hX dL_law_117 rfl ?_
  refine v_iconst hX (v := 1) dL_law_119 (by decide) ?_
  refine v_iadd hX dL_law_120 ?_
  refine v_sld hX hs (v := xs 1) (by unfold vp_in; decide) (congrArg xs (by decide)) dL_law_121 ?_
  refine v_aload_n hX dL_law_122 (i := 0) rfl rfl ?_
  refine v_iload hX dL_law_123 rfl ?_
  refine v_iconst hX (v := 2) dL_law_125 (by decide) ?_
  refine v_iadd hX dL_law_126 ?_
  refine v_sld hX hs (v := xs 2) (by unfold vp_in; decide) (congrArg xs (by decide)) dL_law_127 ?_
  refine v_aload_n hX dL_law_128 (i := 0) rfl rfl ?_
  refine v_iload hX dL_law_129 rfl ?_
  refine v_iconst hX (v := 3) dL_law_131 (by decide) ?_
  refine v_iadd hX dL_law_132 ?_
  refine v_sld hX hs (v := xs 3) (by unfold vp_in; decide) (congrArg xs (by decide)) dL_law_133 ?_
  refine v_aload_n hX dL_law_134 (i := 0) rfl rfl ?_
  refine v_iload hX dL_law_135 rfl ?_
  refine v_iconst hX (v := 4) dL_law_137 (by decide) ?_
  refine v_iadd hX dL_law_138 ?_
  refine v_sld hX hs (v := xs 4) (by unfold vp_in; decide) (congrArg xs (by decide)) dL_law_139 ?_
  refine v_callV hX (n := 4) (c_M_feed (a := z + 457) (t := z + 457 + 3) (n := 0) (x0 := xs 1) (x1 := xs 2) (x2 := xs 3) (x3 := xs 4) g2.1 (mg_p_1104 g2) (by omega) (mg_k_1104 g2) (mg_l_1104 g2) (mg_i_1103 g2) (by decide)) (by simp (disch := omega) only [q_K_s_I, q_K_s_J, q_K_s_P, q_K_s_A, q_K_s_B, q_K_s_C, q_K_r_A, q_K_r_B, y_K_n_O, x_K_n_O, y_K_n_A, x_K_n_A, g2.1]) bc_11 (by decide) w_6_198 w_6_199 w_6_200 w_1_16 w_6_201 (by decide +kernel) rfl ⟨by omega, by omega⟩ ⟨by omega, by omega⟩ (Nat.le_of_ble_eq_true rfl) rfl dL_law_140 (fun _ _ _ h => h) ?_
  rintro r4 S4 z4 ⟨rfl, h8⟩
  rcases h8 with ⟨h8, -⟩ | ⟨-, rfl, S5, h8, rfl⟩
  · exact absurd h8 (by decide)
  have k0 := h8.1 (z + 457) (by omega)
  have k1 : m_K (s_I S5 1103 (z + 457) (nI (0 + 16))) (z + 457) = 11 := k0.1.trans g2.1
  have k2 : m_I (s_I S5 1103 (z + 457) (nI (0 + 16))) 1102 (z + 457) = 0 := by
    rw [x_I_s_I _ _ _ _ _ _ (Or.inl (by decide)), k0.2.1, y_I_s_I]
  have o0 := (e_s_I (b := z + 497) S3 1102 (z + 457) 0 (by omega)).tr ((h8.1 (z + 497) (by omega)).tr (e_s_I (b := z + 497) S5 1103 (z + 457) (nI (0 + 16)) (by omega)))
  have k3 := o0.1.trans g3
  have k4 := o0.2.2.2.2.1.trans g4
  have k5 := (o0.2.2.2.2.2.2.1 0).trans g5
  generalize s_I S5 1103 (z + 457) (nI (0 + 16)) = S6 at k1 k2 k3 k4 k5 ⊢
  refine v_istore hX (lv' := [(6, .int (nI (0 + 16))), (5, .int 0), (4, .int 0), (3, .ref (z + 497)), (2, .ref (z + 457)), (1, .ref z), (0, .ref b)]) dL_law_143 (by rw [hnL]; decide) rfl ?_
  refine v_aload_n hX dL_law_145 (i := 2) rfl rfl ?_
  refine v_callV hX (n := 0) (c_M_thrown (a := z + 457) k1) (by simp (disch := omega) only [q_K_s_I, q_K_s_J, q_K_s_P, q_K_s_A, q_K_s_B, q_K_s_C, q_K_r_A, q_K_r_B, y_K_n_O, x_K_n_O, y_K_n_A, x_K_n_A, k1]) bc_11 (by decide) w_6_194 w_6_195 w_6_196 w_1_16 w_6_197 (by decide +kernel) rfl ⟨by omega, by omega⟩ ⟨by omega, by omega⟩ (Nat.le_of_ble_eq_true rfl) rfl dL_law_146 (fun _ _ _ h => h) ?_
  rintro r7 S7 z7 ⟨rfl, rfl, rfl⟩
  rw [k2]
  refine v_iload hX dL_law_149 rfl ?_
  refine v_icmp_eq hX (tgt := 156) dL_law_151 (by decide) (fun _ => ?_) (fun h => absurd h (by decide))
  refine v_iload hX dL_law_156 rfl ?_
  refine v_if_ne hX (tgt := 173) dL_law_158 (by decide) (fun h => absurd h (by decide)) (fun _ => ?_)
  refine v_aload_n hX dL_law_161 (i := 3) rfl rfl ?_
  refine v_iconst hX (v := 0) dL_law_162 (by decide) ?_
  refine v_lald hX k3 (by rw [k4]; unfold vp_in; decide) dL_law_163 ?_
  rw [show m_B _ (z + 497) (0 : Int32).toNatClampNeg = (nI (0 + 16)).toInt64 from k5]
  refine v_iload hX dL_law_164 rfl ?_
  refine v_i2l hX dL_law_166 ?_
  refine v_lcmp hX dL_law_167 ?_
  refine v_if_eq hX (tgt := 173) dL_law_168 (by decide) (fun _ => ?_) (fun h => absurd h (by decide))
  refine v_goto hX (tgt := 561) dL_law_173 (by decide) ?_
  refine v_locals (lv' := [(4, .int 0), (0, .ref b)]) (by simp) ?_
  exact law_end hX hnL hs hE (Nat.le_refl 5) (by omega) (by omega)
set_option maxRecDepth 100000 in
set_option maxHeartbeats 4000000 in
theorem lawc_assemble {X : b_T} {fr lo mc ms : Nat} (hX : b_X X code R_law fr lo mc ms) (hnL : b_n X = 7) {b : Nat} {xs : Nat → Int32} (hs : b_Sc X b 5 xs) (hE : b_EndL X b) (hfr : 12 ≤ fr) (hlo : 260 ≤ lo) (hmc : 600 ≤ mc) (hms : 200000 ≤ ms) {S : b_M} {z : Nat} (h : lF S z) : b_V X S (z + 498) 498 196000 232 [(4, .int 0), (3, .ref (z + 497)), (2, .ref (z + 457)), (1, .ref z), (0, .ref b)] [] := by
  obtain ⟨h1, h2, h3, h4, h5, h6⟩ := h
  refine v_aload_n hX dL_law_232 (i := 1) rfl rfl ?_
  refine v_aload_n hX dL_law_233 (i := 3) rfl rfl ?_
  refine v_callSW hX (n := 2) (c_L_assemble0 (x := z) (o := z + 497) h1 h5 h6 (by omega)) w_3_63 w_3_64 w_1_0 w_3_65 (by decide +kernel) rfl ⟨by omega, by omega⟩ ⟨by omega, by omega⟩ (Nat.le_of_ble_eq_true rfl) rfl dL_law_234 (fun _ _ _ h => h) ?_
  rintro r1 S1 z1 ⟨q1, rfl, S2, h7, rfl⟩
  have g2 : mG (s_B S2 (z + 497) 0 0) (z + 457) := h3.keep (fun b k1 k2 => (h7 b (by omega)).tr (e_s_B _ _ _ _ (by omega)))
  have g3 : m_K (s_B S2 (z + 497) 0 0) (z + 497) = 14 := (h7 (z + 497) (by omega)).1.trans h5
  have g4 : m_L (s_B S2 (z + 497) 0 0) (z + 497) = 1 := (h7 (z + 497) (by omega)).2.2.2.2.1.trans h6
  have g5 : m_B (s_B S2 (z + 497) 0 0) (z + 497) 0 = 0 := y_B_s_B _ _ _ _
  generalize s_B S2 (z + 497) 0 0 = S3 at g2 g3 g4 g5 ⊢
  refine v_istore hX (lv' := [(5, .int 0), (4, .int 0), (3, .ref (z + 497)), (2, .ref (z + 457)), (1, .ref z), (0, .ref b)]) dL_law_237 (by rw [hnL]; decide) rfl ?_
  refine v_aload_n hX dL_law_239 (i := 2) rfl rfl ?_
  refine v_callV hX (n := 0) (c_M_assemble0 (x := z + 457) g2) (by simp (disch := omega) only [q_K_s_I, q_K_s_J, q_K_s_P, q_K_s_A, q_K_s_B, q_K_s_C, q_K_r_A, q_K_r_B, y_K_n_O, x_K_n_O, y_K_n_A, x_K_n_A, g2.1]) bc_11 (by decide) w_6_213 w_6_214 w_6_215 w_1_16 w_6_216 (by decide +kernel) rfl ⟨by omega, by omega⟩ ⟨by omega, by omega⟩ (Nat.le_of_ble_eq_true rfl) rfl dL_law_240 (fun _ _ _ h => h) ?_
  rintro r4 S4 z4 ⟨rfl, rfl, k0, k6⟩
  have k1 := k0.1
  have k2 := mg_i_1102 k0
  have o0 := k6 (z + 497) (by omega)
  have k3 := o0.1.trans g3
  have k4 := o0.2.2.2.2.1.trans g4
  have k5 := (o0.2.2.2.2.2.2.1 0).trans g5
  refine v_istore hX (lv' := [(6, .int 0), (5, .int 0), (4, .int 0), (3, .ref (z + 497)), (2, .ref (z + 457)), (1, .ref z), (0, .ref b)]) dL_law_243 (by rw [hnL]; decide) rfl ?_
  refine v_aload_n hX dL_law_245 (i := 2) rfl rfl ?_
  refine v_callV hX (n := 0) (c_M_thrown (a := z + 457) k1) (by simp (disch := omega) only [q_K_s_I, q_K_s_J, q_K_s_P, q_K_s_A, q_K_s_B, q_K_s_C, q_K_r_A, q_K_r_B, y_K_n_O, x_K_n_O, y_K_n_A, x_K_n_A, k1]) bc_11 (by decide) w_6_194 w_6_195 w_6_196 w_1_16 w_6_197 (by decide +kernel) rfl ⟨by omega, by omega⟩ ⟨by omega, by omega⟩ (Nat.le_of_ble_eq_true rfl) rfl dL_law_246 (fun _ _ _ h => h) ?_
  rintro r7 S7 z7 ⟨rfl, rfl, rfl⟩
  rw [k2]
  refine v_iload hX dL_law_249 rfl ?_
  refine v_icmp_eq hX (tgt := 256) dL_law_251 (by decide) (fun _ => ?_) (fun h => absurd h (by decide))
  refine v_iload hX dL_law_256 rfl ?_
  refine v_if_ne hX (tgt := 273) dL_law_258 (by decide) (fun h => absurd h (by decide)) (fun _ => ?_)
  refine v_aload_n hX dL_law_261 (i := 3) rfl rfl ?_
  refine v_iconst hX (v := 0) dL_law_262 (by decide) ?_
  refine v_lald hX k3 (by rw [k4]; unfold vp_in; decide) dL_law_263 ?_
  rw [show m_B _ (z + 497) (0 : Int32).toNatClampNeg = 0 from k5]
  refine v_iload hX dL_law_264 rfl ?_
  refine v_i2l hX dL_law_266 ?_
  refine v_lcmp hX dL_law_267 ?_
  refine v_if_eq hX (tgt := 273) dL_law_268 (by decide) (fun _ => ?_) (fun h => absurd h (by decide))
  refine v_goto hX (tgt := 561) dL_law_273 (by decide) ?_
  refine v_locals (lv' := [(4, .int 0), (0, .ref b)]) (by simp) ?_
  exact law_end hX hnL hs hE (Nat.le_refl 5) (by omega) (by omega)
set_option maxRecDepth 100000 in
set_option maxHeartbeats 4000000 in
theorem lawc_count {X : b_T} {fr lo mc ms : Nat} (hX : b_X X code R_law fr lo mc ms) (hnL : b_n X = 7) {b : Nat} {xs : Nat → Int32} (hs : b_Sc X b 5 xs) (hE : b_EndL X b) (hfr : 12 ≤ fr) (hlo : 260 ≤ lo) (hmc : 600 ≤ mc) (hms : 200000 ≤ ms) {S : b_M} {z : Nat} (h : lF S z) : b_V X S (z + 498) 498 196000 536 [(4, .int 0), (3, .ref (z + 497)), (2, .ref (z + 457)), (1, .ref z), (0, .ref b)] [] := by
  obtain ⟨h1, h2, h3, h4, h5, h6⟩ := h
  refine v_aload_n hX dL_law_536 (i := 1) rfl rfl ?_
  refine v_aload_n hX dL_law_537 (i := 0) rfl rfl ?_
  refine v_iload hX dL_law_538 rfl ?_
  refine v_iconst hX (v := 1) dL_law_540 (by decide) ?_
  refine v_iadd hX dL_law_541 ?_
  refine v_sld hX hs (v := xs 1) (by unfold vp_in; decide) (congrArg xs (by decide)) dL_law_542 ?_
  refine v_callV hX (n := 1) (c_AL_count0 (x := z) (k := xs 1) h1 h2) (by simp (disch := omega) only [q_K_s_I, q_K_s_J, q_K_s_P, q_K_s_A, q_K_s_B, q_K_s_C, q_K_r_A, q_K_r_B, y_K_n_O, x_K_n_O, y_K_n_A, x_K_n_A, al_k_0 h1]) bc_10 (by decide) w_2_191 w_2_192 w_2_193 w_1_1 w_2_194 (by decide +kernel) rfl ⟨by omega, by omega⟩ ⟨by omega, by omega⟩ (Nat.le_of_ble_eq_true rfl) rfl dL_law_543 (fun _ _ _ h => h) ?_
  rintro r1 S1 z1 ⟨rfl, rfl, rfl⟩
  refine v_aload_n hX dL_law_546 (i := 2) rfl rfl ?_
  refine v_aload_n hX dL_law_547 (i := 0) rfl rfl ?_
  refine v_iload hX dL_law_548 rfl ?_
  refine v_iconst hX (v := 1) dL_law_550 (by decide) ?_
  refine v_iadd hX dL_law_551 ?_
  refine v_sld hX hs (v := xs 1) (by unfold vp_in; decide) (congrArg xs (by decide)) dL_law_552 ?_
  refine v_callV hX (n := 1) (c_M_count0 (x := z + 457) (k := xs 1) h3 h4) (by simp (disch := omega) only [q_K_s_I, q_K_s_J, q_K_s_P, q_K_s_A, q_K_s_B, q_K_s_C, q_K_r_A, q_K_r_B, y_K_n_O, x_K_n_O, y_K_n_A, x_K_n_A, h3.1]) bc_11 (by decide) w_7_232 w_7_233 w_7_234 w_1_16 w_7_235 (by decide +kernel) rfl ⟨by omega, by omega⟩ ⟨by omega, by omega⟩ (Nat.le_of_ble_eq_true rfl) rfl dL_law_553 (fun _ _ _ h => h) ?_
  rintro r2 S2 z2 ⟨rfl, rfl, rfl⟩
  refine v_icmp_eq hX (tgt := 561) dL_law_556 (by decide) (fun _ => ?_) (fun h => absurd rfl h)
  refine v_locals (lv' := [(4, .int 0), (0, .ref b)]) (by simp) ?_
  exact law_end hX hnL hs hE (Nat.le_refl 5) (by omega) (by omega)
set_option maxRecDepth 100000 in
set_option maxHeartbeats 4000000 in
theorem law_body {X : b_T} {fr lo mc ms : Nat} (hX : b_X X code R_law fr lo mc ms) (hnL : b_n X = 7) {b L : Nat} {xs : Nat → Int32} (hs : b_Sc X b L xs) (hE : b_EndL X b) (hL : L ≤ 5) (hfr : 12 ≤ fr) (hlo : 260 ≤ lo) (hmc : 600 ≤ mc) (hms : 200000 ≤ ms) {S : b_M} {z : Nat} : b_V X S z 0 0 0 [(0, .ref b)] [] := by
  refine law_init hX hnL (by omega) (by omega) (by omega) (by omega) (fun S1 h => ?_)
  refine v_iload hX dL_law_23 rfl ?_
  refine v_aload_n hX dL_law_25 (i := 0) rfl rfl ?_
  refine v_slen hX hs dL_law_26 ?_
  refine v_iconst hX (v := 5) dL_law_27 (by decide) ?_
  refine v_isub hX dL_law_28 ?_
  refine v_icmp_gt hX (tgt := 567) dL_law_29 (by decide) (fun _ => ?_) (fun hg => ?_)
  · refine v_iconst hX (v := 1) dL_law_567 (by decide) ?_
    exact v_lawret hX hE (by omega) (by omega) dL_law_568
  have hL5 : L = 5 := by
    have hc : L = 0 ∨ L = 1 ∨ L = 2 ∨ L = 3 ∨ L = 4 ∨ L = 5 := by omega
    rcases hc with rfl | rfl | rfl | rfl | rfl | rfl
    · exact absurd (by decide) hg
    · exact absurd (by decide) hg
    · exact absurd (by decide) hg
    · exact absurd (by decide) hg
    · exact absurd (by decide) hg
    · rfl
  subst hL5
  refine v_aload_n hX dL_law_32 (i := 0) rfl rfl ?_
  refine v_iload hX dL_law_33 rfl ?_
  refine v_sld hX hs (v := xs 0) (by unfold vp_in; decide) (congrArg xs (by decide)) dL_law_35 ?_
  refine v_bipush hX (v := 7) dL_law_36 (by decide) ?_
  refine v_iand hX dL_law_38 ?_
  generalize xs 0 &&& 7 = k
  by_cases hk : 0 ≤ k.toInt ∧ k.toInt ≤ 7
  · obtain ⟨k1, k2⟩ := hk
    have hc : k.toInt = 0 ∨ k.toInt = 1 ∨ k.toInt = 2 ∨ k.toInt = 3 ∨ k.toInt = 4 ∨ k.toInt = 5 ∨ k.toInt = 6 ∨ k.toInt = 7 := by omega
    rcases hc with e | e | e | e | e | e | e | e
    · refine v_tableIn hX (off := 45) (tgt := 84) dL_law_39 (by omega) (by omega) (by rw [e]; rfl) (by decide) ?_
      exact lawc_feed hX hnL hs hE hfr hlo hmc hms h
    · refine v_tableIn hX (off := 137) (tgt := 176) dL_law_39 (by omega) (by omega) (by rw [e]; rfl) (by decide) ?_
      exact lawc_end hX hnL hs hE hfr hlo hmc hms h
    · refine v_tableIn hX (off := 193) (tgt := 232) dL_law_39 (by omega) (by omega) (by rw [e]; rfl) (by decide) ?_
      exact lawc_assemble hX hnL hs hE hfr hlo hmc hms h
    · refine v_tableIn hX (off := 237) (tgt := 276) dL_law_39 (by omega) (by omega) (by rw [e]; rfl) (by decide) ?_
      exact lawc_error hX hnL hs hE hfr hlo hmc hms h
    · refine v_tableIn hX (off := 305) (tgt := 344) dL_law_39 (by omega) (by omega) (by rw [e]; rfl) (by decide) ?_
      exact lawc_word hX hnL hs hE hfr hlo hmc hms h
    · refine v_tableIn hX (off := 361) (tgt := 400) dL_law_39 (by omega) (by omega) (by rw [e]; rfl) (by decide) ?_
      exact lawc_statement hX hnL hs hE hfr hlo hmc hms h
    · refine v_tableIn hX (off := 429) (tgt := 468) dL_law_39 (by omega) (by omega) (by rw [e]; rfl) (by decide) ?_
      exact lawc_name hX hnL hs hE hfr hlo hmc hms h
    · refine v_tableIn hX (off := 497) (tgt := 536) dL_law_39 (by omega) (by omega) (by rw [e]; rfl) (by decide) ?_
      exact lawc_count hX hnL hs hE hfr hlo hmc hms h
  · refine v_tableOut hX (tgt := 561) dL_law_39 (by omega) (by decide) ?_
    refine v_locals (lv' := [(4, .int 0), (0, .ref b)]) (by simp) ?_
    exact law_end hX hnL hs hE (Nat.le_refl 5) (by omega) (by omega)
