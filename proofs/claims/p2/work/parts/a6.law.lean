/-! ===== the law over memory: its script, its end ===== -/
def b_Sc (X : b_T) (b L : Nat) (xs : Nat → Int32) : Prop := match X with
  | (p, l, e, R, s, m, args, below, meth, c, Q, D, cy, kn, B, nL) => va_X b L xs s s.heap ∧ b < s.heap.size ∧ ¬ B ≤ b
def b_EndL (X : b_T) (b : Nat) : Prop := match X with
  | (p, l, e, R, s, m, args, below, meth, c, Q, D, cy, kn, B, nL) => args = #[Value.ref b] ∧ Q = lw_Z below #[Value.ref b] s ∧ meth.sig.returnType = ret ∧ meth.locks = false ∧ B = s.heap.size ∧ R = room_1
section BLAW
variable {X : b_T} {cc : ByteArray} {own : String} {fr lo mc ms : Nat} {S : b_M} {z ce sl pc : Nat} {lv : List (Nat × Value)} {st : List Value}
theorem v_sld (hX : b_X X cc own fr lo mc ms) {b L : Nat} {xs : Nat → Int32} (hs : b_Sc X b L xs) {i v : Int32} (hin : vp_in i L) (hv : xs i.toNatClampNeg = v) (d : decode cc pc = .ok (.iaload, 1)) (kk : b_V X S z ce sl (pc + 1) lv (.int v :: st)) : b_V X S z ce sl pc lv (.int i :: .ref b :: st) := by
  obtain ⟨p, l, e, R, s, m, args, below, meth, c, Q, D, cy, kn, B, nL⟩ := X
  intro H locs ls hR hS hl
  subst hv
  exact va_sld hX.1 hX.2.1 hs.1 hs.2.1 hs.2.2 hS hin d (kk H locs ls hR hS hl)
theorem v_slen (hX : b_X X cc own fr lo mc ms) {b L : Nat} {xs : Nat → Int32} (hs : b_Sc X b L xs) (d : decode cc pc = .ok (.arraylength, 1)) (kk : b_V X S z ce sl (pc + 1) lv (.int (nI L) :: st)) : b_V X S z ce sl pc lv (.ref b :: st) := by
  obtain ⟨p, l, e, R, s, m, args, below, meth, c, Q, D, cy, kn, B, nL⟩ := X
  intro H locs ls hR hS hl
  exact va_slen hX.1 hX.2.1 hs.1 hs.2.1 hs.2.2 hS d (kk H locs ls hR hS hl)
theorem v_lawret (hX : b_X X code own fr lo mc ms) {b : Nat} (hE : b_EndL X b) (hc : ce ≤ 601024) (hs : sl ≤ 7293034) (d : decode code pc = .ok (.ireturn, 1)) : b_V X S z ce sl pc lv [.int 1] := by
  obtain ⟨p, l, e, R, s, m, args, below, meth, c, Q, D, cy, kn, B, nL⟩ := X
  intro H locs ls hR hS hl
  obtain ⟨rfl, rfl, hr, hlocks, rfl, rfl⟩ := hE
  refine va_forget (fun q hq => hS.2.2 q hq) ?_
  refine W.widen (k := 601024) (n := 7293034) hc hs ?_
  exact lw_ret hX.1 hX.2.1 hr hlocks d
/-- the script's number at a place -/
def sv (xs : Nat → Int32) (t : Int) : Int := (xs t.toNat).toInt
theorem sv_b (xs : Nat → Int32) (t : Int) : -2147483648 ≤ sv xs t ∧ sv xs t < 2147483648 := iI_b _
theorem u_sld (hX : b_X X cc own fr lo mc ms) {b L : Nat} {xs : Nat → Int32} (hs : b_Sc X b L xs) {t : Int} (hi : 0 ≤ t ∧ t < (L : Int)) (hl : (L : Int) < 2147483648) (d : decode cc pc = .ok (.iaload, 1)) (kk : b_V X S z ce sl (pc + 1) lv (.int (iI (sv xs t)) :: st)) : b_V X S z ce sl pc lv (.int (iI t) :: .ref b :: st) := v_sld hX hs (v := iI (sv xs t)) (iI_in hi hl) (by rw [iI_clamp ⟨by omega, by omega⟩]; exact (iI_of _).symm) d kk
end BLAW
set_option maxRecDepth 100000 in
set_option maxHeartbeats 4000000 in
theorem lawc_error {X : b_T} {fr lo mc ms : Nat} (hX : b_X X code R_law fr lo mc ms) (hnL : b_n X = 7) {b L : Nat} {xs : Nat → Int32} (hs : b_Sc X b L xs) (hE : b_EndL X b) (hL : L ≤ 2560) (hfr : 15 ≤ fr) (hlo : 564 ≤ lo) (hmc : 601024 ≤ mc) (hms : 7293034 ≤ ms) {S : b_M} {z ce sl x : Nat} {n i : Int} (hi : 0 ≤ i ∧ i + 5 ≤ (L : Int)) (h : lI (b_kn X) S x n) (hz : x + 498 ≤ z) (ac : ((sl : Int) ≤ 200000 + 2 * lA S x + 12 * i ∧ 256 * (ce : Int) ≤ 256000 + 2 * lA S x + 512 * i)) (J : ∀ (S1 : b_M) (z1 ce1 sl1 : Nat) (n1 : Int), lI (b_kn X) S1 x n1 → x + 498 ≤ z1 → ((sl1 : Int) ≤ 200000 + 2 * lA S1 x + 12 * (i + 5) ∧ 256 * (ce1 : Int) ≤ 256000 + 2 * lA S1 x + 512 * (i + 5)) → b_V X S1 z1 ce1 sl1 393 [(4, .int (iI i)), (3, .ref (x + 497)), (2, .ref (x + 457)), (1, .ref x), (0, .ref b)] []) : b_V X S z ce sl 220 [(4, .int (iI i)), (3, .ref (x + 497)), (2, .ref (x + 457)), (1, .ref x), (0, .ref b)] [] := by
  obtain ⟨h1, h2, h3, h4, h5, h6⟩ := h
  have hrm := h1.room
  obtain ⟨ac1, ac2⟩ := ac
  refine v_aload_n hX dL_law_220 (i := 1) rfl rfl ?_
  refine v_aload_n hX dL_law_221 (i := 0) rfl rfl ?_
  refine v_iload hX dL_law_222 rfl ?_
  refine v_iconst hX (v := iI 1) dL_law_224 rfl ?_
  refine u_iadd hX dL_law_225 ?_
  refine u_sld hX hs ⟨by omega, by omega⟩ (by omega) dL_law_226 ?_
  refine v_aload_n hX dL_law_227 (i := 0) rfl rfl ?_
  refine v_iload hX dL_law_228 rfl ?_
  refine v_iconst hX (v := iI 2) dL_law_230 rfl ?_
  refine u_iadd hX dL_law_231 ?_
  refine u_sld hX hs ⟨by omega, by omega⟩ (by omega) dL_law_232 ?_
  refine v_aload_n hX dL_law_233 (i := 3) rfl rfl ?_
  refine v_callSW hX (n := 4) (l_error (x := x) (o := x + 497) (w := x + 498) (k := sv xs (i + 1)) (wh := sv xs (i + 2)) h1.1 h5 h6 ⟨by omega, by omega⟩ h1.2.2.2.2.1 (sv_b xs _) (sv_b xs _)) w_5_110 w_5_111 w_1_0 w_5_112 (by decide +kernel) rfl ⟨by omega, by omega⟩ ⟨by omega, by omega⟩ (Nat.le_of_ble_eq_true rfl) rfl dL_law_234 (fun _ _ _ h => h) ?_
  rintro r1 S1 z1 ⟨q1, ⟨v1, rfl⟩, q2⟩
  have f1 : cFr [] [] [] 0 S S1 x ∧ ∀ b, b ≠ x + 497 → b_eq S S1 b := by
    rcases q2 with rfl | ⟨v, rfl⟩
    · exact ⟨cFr.rf _ _, fun b _ => b_eq.rf _ _⟩
    · exact ⟨cFr_out, fun b g => e_s_B _ _ _ _ g⟩
  have h1a := h1.far f1.1 (by decide)
  have h2a : m_I S1 1001 x = iI n := (f1.1.2.1 _ (by decide) _).trans h2
  have h3a := h3.keep (fun b g1 g2 => f1.2 b (by omega))
  have h5a : m_K S1 (x + 497) = 14 := (f1.1.kl h5 (by decide)).1
  have h6a : m_L S1 (x + 497) = 1 := (f1.1.kl h5 (by decide)).2.trans h6
  have la1 := h1.same f1.1
  refine v_istore hX (lv' := [(5, .int v1), (4, .int (iI i)), (3, .ref (x + 497)), (2, .ref (x + 457)), (1, .ref x), (0, .ref b)]) dL_law_237 (by rw [hnL]; decide) rfl ?_
  refine v_aload_n hX dL_law_239 (i := 2) rfl rfl ?_
  refine v_aload_n hX dL_law_240 (i := 0) rfl rfl ?_
  refine v_iload hX dL_law_241 rfl ?_
  refine v_iconst hX (v := iI 1) dL_law_243 rfl ?_
  refine u_iadd hX dL_law_244 ?_
  refine u_sld hX hs ⟨by omega, by omega⟩ (by omega) dL_law_245 ?_
  refine v_aload_n hX dL_law_246 (i := 0) rfl rfl ?_
  refine v_iload hX dL_law_247 rfl ?_
  refine v_iconst hX (v := iI 2) dL_law_249 rfl ?_
  refine u_iadd hX dL_law_250 ?_
  refine u_sld hX hs ⟨by omega, by omega⟩ (by omega) dL_law_251 ?_
  obtain ⟨m1, m2, st, la, se, er, az, wt, wo, ⟨e1, e2, e3, e4, e5, e6, e7⟩, p0, pl, pr⟩ := id h3a
  refine v_callV hX (n := 2) (k_error (x := x + 457) (k := sv xs (i + 1)) (what := sv xs (i + 2)) m1 e4 ⟨by omega, by omega⟩ (sv_b xs _) (sv_b xs _) ⟨by omega, by omega⟩) (m1.1) bc_11 (by decide) w_7_216 w_7_217 w_7_218 w_1_16 w_7_219 (by decide +kernel) rfl ⟨by omega, by omega⟩ ⟨by omega, by omega⟩ (Nat.le_of_ble_eq_true rfl) rfl dL_law_252 (fun _ _ _ h => h) ?_
  rintro r2 S2 z2 ⟨rfl, f2, q, t1, rfl, -, -, -, -⟩
  obtain ⟨h7, la2⟩ := lI.ref (Js := []) h1a h2a h3a h4 h5a h6a (f2.mono (by decide) (by decide) (by decide)) ((f2.2.2.2.1 1103 (by decide)).trans m2) rfl
  refine v_istore hX (lv' := [(6, .int (iI q)), (5, .int v1), (4, .int (iI i)), (3, .ref (x + 497)), (2, .ref (x + 457)), (1, .ref x), (0, .ref b)]) dL_law_255 (by rw [hnL]; decide) rfl ?_
  refine v_goto hX (tgt := 393) dL_law_257 (by decide) ?_
  refine v_locals (lv' := [(4, .int (iI i)), (3, .ref (x + 497)), (2, .ref (x + 457)), (1, .ref x), (0, .ref b)]) (by simp) ?_
  exact J _ _ _ _ n h7 (by omega) ⟨by omega, by omega⟩
set_option maxRecDepth 100000 in
set_option maxHeartbeats 4000000 in
theorem lawc_word {X : b_T} {fr lo mc ms : Nat} (hX : b_X X code R_law fr lo mc ms) (hnL : b_n X = 7) {b L : Nat} {xs : Nat → Int32} (hs : b_Sc X b L xs) (hE : b_EndL X b) (hL : L ≤ 2560) (hfr : 15 ≤ fr) (hlo : 564 ≤ lo) (hmc : 601024 ≤ mc) (hms : 7293034 ≤ ms) {S : b_M} {z ce sl x : Nat} {n i : Int} (hi : 0 ≤ i ∧ i + 5 ≤ (L : Int)) (h : lI (b_kn X) S x n) (hz : x + 498 ≤ z) (ac : ((sl : Int) ≤ 200000 + 2 * lA S x + 12 * i ∧ 256 * (ce : Int) ≤ 256000 + 2 * lA S x + 512 * i)) (J : ∀ (S1 : b_M) (z1 ce1 sl1 : Nat) (n1 : Int), lI (b_kn X) S1 x n1 → x + 498 ≤ z1 → ((sl1 : Int) ≤ 200000 + 2 * lA S1 x + 12 * (i + 5) ∧ 256 * (ce1 : Int) ≤ 256000 + 2 * lA S1 x + 512 * (i + 5)) → b_V X S1 z1 ce1 sl1 393 [(4, .int (iI i)), (3, .ref (x + 497)), (2, .ref (x + 457)), (1, .ref x), (0, .ref b)] []) : b_V X S z ce sl 260 [(4, .int (iI i)), (3, .ref (x + 497)), (2, .ref (x + 457)), (1, .ref x), (0, .ref b)] [] := by
  obtain ⟨h1, h2, h3, h4, h5, h6⟩ := h
  have hrm := h1.room
  obtain ⟨ac1, ac2⟩ := ac
  refine v_aload_n hX dL_law_260 (i := 1) rfl rfl ?_
  refine v_aload_n hX dL_law_261 (i := 0) rfl rfl ?_
  refine v_iload hX dL_law_262 rfl ?_
  refine v_iconst hX (v := iI 1) dL_law_264 rfl ?_
  refine u_iadd hX dL_law_265 ?_
  refine u_sld hX hs ⟨by omega, by omega⟩ (by omega) dL_law_266 ?_
  refine v_aload_n hX dL_law_267 (i := 3) rfl rfl ?_
  refine v_callSW hX (n := 3) (l_word (x := x) (o := x + 497) (w := x + 498) (wi := sv xs (i + 1)) h1.1 h5 h6 ⟨by omega, by omega⟩ h1.2.2.2.2.2.2.1 h1.2.1 h1.2.2.2.2.2.1 (sv_b xs _)) w_5_134 w_5_135 w_1_0 w_5_136 (by decide +kernel) rfl ⟨by omega, by omega⟩ ⟨by omega, by omega⟩ (Nat.le_of_ble_eq_true rfl) rfl dL_law_268 (fun _ _ _ h => h) ?_
  rintro r1 S1 z1 ⟨q1, ⟨v1, rfl⟩, q2⟩
  have f1 : cFr [] [] [] 0 S S1 x ∧ ∀ b, b ≠ x + 497 → b_eq S S1 b := by
    rcases q2 with rfl | ⟨v, rfl⟩
    · exact ⟨cFr.rf _ _, fun b _ => b_eq.rf _ _⟩
    · exact ⟨cFr_out, fun b g => e_s_B _ _ _ _ g⟩
  have h1a := h1.far f1.1 (by decide)
  have h2a : m_I S1 1001 x = iI n := (f1.1.2.1 _ (by decide) _).trans h2
  have h3a := h3.keep (fun b g1 g2 => f1.2 b (by omega))
  have h5a : m_K S1 (x + 497) = 14 := (f1.1.kl h5 (by decide)).1
  have h6a : m_L S1 (x + 497) = 1 := (f1.1.kl h5 (by decide)).2.trans h6
  have la1 := h1.same f1.1
  refine v_istore hX (lv' := [(5, .int v1), (4, .int (iI i)), (3, .ref (x + 497)), (2, .ref (x + 457)), (1, .ref x), (0, .ref b)]) dL_law_271 (by rw [hnL]; decide) rfl ?_
  refine v_aload_n hX dL_law_273 (i := 2) rfl rfl ?_
  refine v_aload_n hX dL_law_274 (i := 0) rfl rfl ?_
  refine v_iload hX dL_law_275 rfl ?_
  refine v_iconst hX (v := iI 1) dL_law_277 rfl ?_
  refine u_iadd hX dL_law_278 ?_
  refine u_sld hX hs ⟨by omega, by omega⟩ (by omega) dL_law_279 ?_
  obtain ⟨m1, m2, st, la, se, er, az, wt, wo, ⟨e1, e2, e3, e4, e5, e6, e7⟩, p0, pl, pr⟩ := id h3a
  refine v_callV hX (n := 1) (k_word (x := x + 457) (i := sv xs (i + 1)) m1 e7 ⟨by omega, by omega⟩ (sv_b xs _) ⟨by omega, by omega⟩) (m1.1) bc_11 (by decide) w_7_220 w_7_221 w_7_222 w_1_16 w_7_223 (by decide +kernel) rfl ⟨by omega, by omega⟩ ⟨by omega, by omega⟩ (Nat.le_of_ble_eq_true rfl) rfl dL_law_280 (fun _ _ _ h => h) ?_
  rintro r2 S2 z2 ⟨rfl, f2, q, t1, rfl, -, -, -, -⟩
  obtain ⟨h7, la2⟩ := lI.ref (Js := []) h1a h2a h3a h4 h5a h6a (f2.mono (by decide) (by decide) (by decide)) ((f2.2.2.2.1 1103 (by decide)).trans m2) rfl
  refine v_istore hX (lv' := [(6, .int (iI q)), (5, .int v1), (4, .int (iI i)), (3, .ref (x + 497)), (2, .ref (x + 457)), (1, .ref x), (0, .ref b)]) dL_law_283 (by rw [hnL]; decide) rfl ?_
  refine v_goto hX (tgt := 393) dL_law_285 (by decide) ?_
  refine v_locals (lv' := [(4, .int (iI i)), (3, .ref (x + 497)), (2, .ref (x + 457)), (1, .ref x), (0, .ref b)]) (by simp) ?_
  exact J _ _ _ _ n h7 (by omega) ⟨by omega, by omega⟩
set_option maxRecDepth 100000 in
set_option maxHeartbeats 4000000 in
theorem lawc_statement {X : b_T} {fr lo mc ms : Nat} (hX : b_X X code R_law fr lo mc ms) (hnL : b_n X = 7) {b L : Nat} {xs : Nat → Int32} (hs : b_Sc X b L xs) (hE : b_EndL X b) (hL : L ≤ 2560) (hfr : 15 ≤ fr) (hlo : 564 ≤ lo) (hmc : 601024 ≤ mc) (hms : 7293034 ≤ ms) {S : b_M} {z ce sl x : Nat} {n i : Int} (hi : 0 ≤ i ∧ i + 5 ≤ (L : Int)) (h : lI (b_kn X) S x n) (hz : x + 498 ≤ z) (ac : ((sl : Int) ≤ 200000 + 2 * lA S x + 12 * i ∧ 256 * (ce : Int) ≤ 256000 + 2 * lA S x + 512 * i)) (J : ∀ (S1 : b_M) (z1 ce1 sl1 : Nat) (n1 : Int), lI (b_kn X) S1 x n1 → x + 498 ≤ z1 → ((sl1 : Int) ≤ 200000 + 2 * lA S1 x + 12 * (i + 5) ∧ 256 * (ce1 : Int) ≤ 256000 + 2 * lA S1 x + 512 * (i + 5)) → b_V X S1 z1 ce1 sl1 393 [(4, .int (iI i)), (3, .ref (x + 497)), (2, .ref (x + 457)), (1, .ref x), (0, .ref b)] []) : b_V X S z ce sl 288 [(4, .int (iI i)), (3, .ref (x + 497)), (2, .ref (x + 457)), (1, .ref x), (0, .ref b)] [] := by
  obtain ⟨h1, h2, h3, h4, h5, h6⟩ := h
  have hrm := h1.room
  obtain ⟨ac1, ac2⟩ := ac
  refine v_aload_n hX dL_law_288 (i := 1) rfl rfl ?_
  refine v_aload_n hX dL_law_289 (i := 0) rfl rfl ?_
  refine v_iload hX dL_law_290 rfl ?_
  refine v_iconst hX (v := iI 1) dL_law_292 rfl ?_
  refine u_iadd hX dL_law_293 ?_
  refine u_sld hX hs ⟨by omega, by omega⟩ (by omega) dL_law_294 ?_
  refine v_aload_n hX dL_law_295 (i := 0) rfl rfl ?_
  refine v_iload hX dL_law_296 rfl ?_
  refine v_iconst hX (v := iI 2) dL_law_298 rfl ?_
  refine u_iadd hX dL_law_299 ?_
  refine u_sld hX hs ⟨by omega, by omega⟩ (by omega) dL_law_300 ?_
  refine v_aload_n hX dL_law_301 (i := 3) rfl rfl ?_
  refine v_callSW hX (n := 4) (l_statement (x := x) (o := x + 497) (w := x + 498) (k := sv xs (i + 1)) (wh := sv xs (i + 2)) h1.1 h5 h6 ⟨by omega, by omega⟩ h1.2.2.2.2.2.1 (sv_b xs _) (sv_b xs _)) w_5_166 w_5_167 w_1_0 w_5_168 (by decide +kernel) rfl ⟨by omega, by omega⟩ ⟨by omega, by omega⟩ (Nat.le_of_ble_eq_true rfl) rfl dL_law_302 (fun _ _ _ h => h) ?_
  rintro r1 S1 z1 ⟨q1, ⟨v1, rfl⟩, q2⟩
  have f1 : cFr [] [] [] 0 S S1 x ∧ ∀ b, b ≠ x + 497 → b_eq S S1 b := by
    rcases q2 with rfl | ⟨v, rfl⟩
    · exact ⟨cFr.rf _ _, fun b _ => b_eq.rf _ _⟩
    · exact ⟨cFr_out, fun b g => e_s_B _ _ _ _ g⟩
  have h1a := h1.far f1.1 (by decide)
  have h2a : m_I S1 1001 x = iI n := (f1.1.2.1 _ (by decide) _).trans h2
  have h3a := h3.keep (fun b g1 g2 => f1.2 b (by omega))
  have h5a : m_K S1 (x + 497) = 14 := (f1.1.kl h5 (by decide)).1
  have h6a : m_L S1 (x + 497) = 1 := (f1.1.kl h5 (by decide)).2.trans h6
  have la1 := h1.same f1.1
  refine v_istore hX (lv' := [(5, .int v1), (4, .int (iI i)), (3, .ref (x + 497)), (2, .ref (x + 457)), (1, .ref x), (0, .ref b)]) dL_law_305 (by rw [hnL]; decide) rfl ?_
  refine v_aload_n hX dL_law_307 (i := 2) rfl rfl ?_
  refine v_aload_n hX dL_law_308 (i := 0) rfl rfl ?_
  refine v_iload hX dL_law_309 rfl ?_
  refine v_iconst hX (v := iI 1) dL_law_311 rfl ?_
  refine u_iadd hX dL_law_312 ?_
  refine u_sld hX hs ⟨by omega, by omega⟩ (by omega) dL_law_313 ?_
  refine v_aload_n hX dL_law_314 (i := 0) rfl rfl ?_
  refine v_iload hX dL_law_315 rfl ?_
  refine v_iconst hX (v := iI 2) dL_law_317 rfl ?_
  refine u_iadd hX dL_law_318 ?_
  refine u_sld hX hs ⟨by omega, by omega⟩ (by omega) dL_law_319 ?_
  obtain ⟨m1, m2, st, la, se, er, az, wt, wo, ⟨e1, e2, e3, e4, e5, e6, e7⟩, p0, pl, pr⟩ := id h3a
  refine v_callV hX (n := 2) (k_statement (x := x + 457) (k := sv xs (i + 1)) (what := sv xs (i + 2)) m1 e1 ⟨by omega, by omega⟩ (sv_b xs _) (sv_b xs _) pr ⟨by omega, by omega⟩) (m1.1) bc_11 (by decide) w_7_224 w_7_225 w_7_226 w_1_16 w_7_227 (by decide +kernel) rfl ⟨by omega, by omega⟩ ⟨by omega, by omega⟩ (Nat.le_of_ble_eq_true rfl) rfl dL_law_320 (fun _ _ _ h => h) ?_
  rintro r2 S2 z2 ⟨rfl, f2, q, t1, rfl, -, -, -, -⟩
  obtain ⟨h7, la2⟩ := lI.ref (Js := []) h1a h2a h3a h4 h5a h6a (f2.mono (by decide) (by decide) (by decide)) ((f2.2.2.2.1 1103 (by decide)).trans m2) rfl
  refine v_istore hX (lv' := [(6, .int (iI q)), (5, .int v1), (4, .int (iI i)), (3, .ref (x + 497)), (2, .ref (x + 457)), (1, .ref x), (0, .ref b)]) dL_law_323 (by rw [hnL]; decide) rfl ?_
  refine v_goto hX (tgt := 393) dL_law_325 (by decide) ?_
  refine v_locals (lv' := [(4, .int (iI i)), (3, .ref (x + 497)), (2, .ref (x + 457)), (1, .ref x), (0, .ref b)]) (by simp) ?_
  exact J _ _ _ _ n h7 (by omega) ⟨by omega, by omega⟩
set_option maxRecDepth 100000 in
set_option maxHeartbeats 4000000 in
theorem lawc_name {X : b_T} {fr lo mc ms : Nat} (hX : b_X X code R_law fr lo mc ms) (hnL : b_n X = 7) {b L : Nat} {xs : Nat → Int32} (hs : b_Sc X b L xs) (hE : b_EndL X b) (hL : L ≤ 2560) (hfr : 15 ≤ fr) (hlo : 564 ≤ lo) (hmc : 601024 ≤ mc) (hms : 7293034 ≤ ms) {S : b_M} {z ce sl x : Nat} {n i : Int} (hi : 0 ≤ i ∧ i + 5 ≤ (L : Int)) (h : lI (b_kn X) S x n) (hz : x + 498 ≤ z) (ac : ((sl : Int) ≤ 200000 + 2 * lA S x + 12 * i ∧ 256 * (ce : Int) ≤ 256000 + 2 * lA S x + 512 * i)) (J : ∀ (S1 : b_M) (z1 ce1 sl1 : Nat) (n1 : Int), lI (b_kn X) S1 x n1 → x + 498 ≤ z1 → ((sl1 : Int) ≤ 200000 + 2 * lA S1 x + 12 * (i + 5) ∧ 256 * (ce1 : Int) ≤ 256000 + 2 * lA S1 x + 512 * (i + 5)) → b_V X S1 z1 ce1 sl1 393 [(4, .int (iI i)), (3, .ref (x + 497)), (2, .ref (x + 457)), (1, .ref x), (0, .ref b)] []) : b_V X S z ce sl 328 [(4, .int (iI i)), (3, .ref (x + 497)), (2, .ref (x + 457)), (1, .ref x), (0, .ref b)] [] := by
  obtain ⟨h1, h2, h3, h4, h5, h6⟩ := h
  have hrm := h1.room
  obtain ⟨ac1, ac2⟩ := ac
  refine v_aload_n hX dL_law_328 (i := 1) rfl rfl ?_
  refine v_aload_n hX dL_law_329 (i := 0) rfl rfl ?_
  refine v_iload hX dL_law_330 rfl ?_
  refine v_iconst hX (v := iI 1) dL_law_332 rfl ?_
  refine u_iadd hX dL_law_333 ?_
  refine u_sld hX hs ⟨by omega, by omega⟩ (by omega) dL_law_334 ?_
  refine v_aload_n hX dL_law_335 (i := 0) rfl rfl ?_
  refine v_iload hX dL_law_336 rfl ?_
  refine v_iconst hX (v := iI 2) dL_law_338 rfl ?_
  refine u_iadd hX dL_law_339 ?_
  refine u_sld hX hs ⟨by omega, by omega⟩ (by omega) dL_law_340 ?_
  refine v_aload_n hX dL_law_341 (i := 3) rfl rfl ?_
  refine v_callSW hX (n := 4) (l_name (x := x) (o := x + 497) (w := x + 498) (k := sv xs (i + 1)) (wh := sv xs (i + 2)) h1.1 h5 h6 ⟨by omega, by omega⟩  (sv_b xs _) (sv_b xs _)) w_5_178 w_5_179 w_1_0 w_5_180 (by decide +kernel) rfl ⟨by omega, by omega⟩ ⟨by omega, by omega⟩ (Nat.le_of_ble_eq_true rfl) rfl dL_law_342 (fun _ _ _ h => h) ?_
  rintro r1 S1 z1 ⟨q1, ⟨v1, rfl⟩, q2⟩
  have f1 : cFr [] [] [] 0 S S1 x ∧ ∀ b, b ≠ x + 497 → b_eq S S1 b := by
    rcases q2 with rfl | ⟨v, rfl⟩
    · exact ⟨cFr.rf _ _, fun b _ => b_eq.rf _ _⟩
    · exact ⟨cFr_out, fun b g => e_s_B _ _ _ _ g⟩
  have h1a := h1.far f1.1 (by decide)
  have h2a : m_I S1 1001 x = iI n := (f1.1.2.1 _ (by decide) _).trans h2
  have h3a := h3.keep (fun b g1 g2 => f1.2 b (by omega))
  have h5a : m_K S1 (x + 497) = 14 := (f1.1.kl h5 (by decide)).1
  have h6a : m_L S1 (x + 497) = 1 := (f1.1.kl h5 (by decide)).2.trans h6
  have la1 := h1.same f1.1
  refine v_istore hX (lv' := [(5, .int v1), (4, .int (iI i)), (3, .ref (x + 497)), (2, .ref (x + 457)), (1, .ref x), (0, .ref b)]) dL_law_345 (by rw [hnL]; decide) rfl ?_
  refine v_aload_n hX dL_law_347 (i := 2) rfl rfl ?_
  refine v_aload_n hX dL_law_348 (i := 0) rfl rfl ?_
  refine v_iload hX dL_law_349 rfl ?_
  refine v_iconst hX (v := iI 1) dL_law_351 rfl ?_
  refine u_iadd hX dL_law_352 ?_
  refine u_sld hX hs ⟨by omega, by omega⟩ (by omega) dL_law_353 ?_
  refine v_aload_n hX dL_law_354 (i := 0) rfl rfl ?_
  refine v_iload hX dL_law_355 rfl ?_
  refine v_iconst hX (v := iI 2) dL_law_357 rfl ?_
  refine u_iadd hX dL_law_358 ?_
  refine u_sld hX hs ⟨by omega, by omega⟩ (by omega) dL_law_359 ?_
  obtain ⟨m1, m2, st, la, se, er, az, wt, wo, ⟨e1, e2, e3, e4, e5, e6, e7⟩, p0, pl, pr⟩ := id h3a
  refine v_callV hX (n := 2) (k_name (x := x + 457) (k := sv xs (i + 1)) (what := sv xs (i + 2)) m1 e1 ⟨by omega, by omega⟩ e2 ⟨by omega, by omega⟩ e3 ⟨by omega, by omega⟩ (sv_b xs _) (sv_b xs _) pl ⟨by omega, by omega, by omega, by omega, by omega, by omega⟩) (m1.1) bc_11 (by decide) w_7_228 w_7_229 w_7_230 w_1_16 w_7_231 (by decide +kernel) rfl ⟨by omega, by omega⟩ ⟨by omega, by omega⟩ (Nat.le_of_ble_eq_true rfl) rfl dL_law_360 (fun _ _ _ h => h) ?_
  rintro r2 S2 z2 ⟨rfl, f2, q, t1, rfl, -, -, -, -⟩
  obtain ⟨h7, la2⟩ := lI.ref (Js := []) h1a h2a h3a h4 h5a h6a (f2.mono (by decide) (by decide) (by decide)) ((f2.2.2.2.1 1103 (by decide)).trans m2) rfl
  refine v_istore hX (lv' := [(6, .int (iI q)), (5, .int v1), (4, .int (iI i)), (3, .ref (x + 497)), (2, .ref (x + 457)), (1, .ref x), (0, .ref b)]) dL_law_363 (by rw [hnL]; decide) rfl ?_
  refine v_goto hX (tgt := 393) dL_law_365 (by decide) ?_
  refine v_locals (lv' := [(4, .int (iI i)), (3, .ref (x + 497)), (2, .ref (x + 457)), (1, .ref x), (0, .ref b)]) (by simp) ?_
  exact J _ _ _ _ n h7 (by omega) ⟨by omega, by omega⟩
set_option maxRecDepth 100000 in
set_option maxHeartbeats 4000000 in
theorem lawc_count {X : b_T} {fr lo mc ms : Nat} (hX : b_X X code R_law fr lo mc ms) (hnL : b_n X = 7) {b L : Nat} {xs : Nat → Int32} (hs : b_Sc X b L xs) (hE : b_EndL X b) (hL : L ≤ 2560) (hfr : 15 ≤ fr) (hlo : 564 ≤ lo) (hmc : 601024 ≤ mc) (hms : 7293034 ≤ ms) {S : b_M} {z ce sl x : Nat} {n i : Int} (hi : 0 ≤ i ∧ i + 5 ≤ (L : Int)) (h : lI (b_kn X) S x n) (hz : x + 498 ≤ z) (ac : ((sl : Int) ≤ 200000 + 2 * lA S x + 12 * i ∧ 256 * (ce : Int) ≤ 256000 + 2 * lA S x + 512 * i)) (J : ∀ (S1 : b_M) (z1 ce1 sl1 : Nat) (n1 : Int), lI (b_kn X) S1 x n1 → x + 498 ≤ z1 → ((sl1 : Int) ≤ 200000 + 2 * lA S1 x + 12 * (i + 5) ∧ 256 * (ce1 : Int) ≤ 256000 + 2 * lA S1 x + 512 * (i + 5)) → b_V X S1 z1 ce1 sl1 393 [(4, .int (iI i)), (3, .ref (x + 497)), (2, .ref (x + 457)), (1, .ref x), (0, .ref b)] []) : b_V X S z ce sl 368 [(4, .int (iI i)), (3, .ref (x + 497)), (2, .ref (x + 457)), (1, .ref x), (0, .ref b)] [] := by
  obtain ⟨h1, h2, h3, h4, h5, h6⟩ := h
  have hrm := h1.room
  obtain ⟨ac1, ac2⟩ := ac
  refine v_aload_n hX dL_law_368 (i := 1) rfl rfl ?_
  refine v_aload_n hX dL_law_369 (i := 0) rfl rfl ?_
  refine v_iload hX dL_law_370 rfl ?_
  refine v_iconst hX (v := iI 1) dL_law_372 rfl ?_
  refine u_iadd hX dL_law_373 ?_
  refine u_sld hX hs ⟨by omega, by omega⟩ (by omega) dL_law_374 ?_
  refine v_callV hX (n := 1) (g_A_count (x := x) (w := x + 498) (wh := sv xs (i + 1)) h1.1 (sv_b xs _) h1.2.2.2.2.2.1) (cs_k_0 h1.1) bc_10 (by decide) w_2_191 w_2_192 w_2_193 w_1_1 w_2_194 (by decide +kernel) rfl ⟨by omega, by omega⟩ ⟨by omega, by omega⟩ (Nat.le_of_ble_eq_true rfl) rfl dL_law_375 (fun _ _ _ h => h) ?_
  rintro r1 S1 z1 ⟨rfl, rfl, q, rfl, -, -⟩
  refine v_pop hX dL_law_378 rfl ?_
  refine v_aload_n hX dL_law_379 (i := 2) rfl rfl ?_
  refine v_aload_n hX dL_law_380 (i := 0) rfl rfl ?_
  refine v_iload hX dL_law_381 rfl ?_
  refine v_iconst hX (v := iI 1) dL_law_383 rfl ?_
  refine u_iadd hX dL_law_384 ?_
  refine u_sld hX hs ⟨by omega, by omega⟩ (by omega) dL_law_385 ?_
  refine v_callV hX (n := 1) (k_count (x := x + 457) (what := sv xs (i + 1)) h3.1 (sv_b xs _)) (h3.1.1) bc_11 (by decide) w_7_232 w_7_233 w_7_234 w_1_16 w_7_235 (by decide +kernel) rfl ⟨by omega, by omega⟩ ⟨by omega, by omega⟩ (Nat.le_of_ble_eq_true rfl) rfl dL_law_386 (fun _ _ _ h => h) ?_
  rintro r2 S2 z2 ⟨rfl, f2, q2, t1, rfl, -, -, -, -⟩
  obtain ⟨h7, la2⟩ := lI.ref (Js := []) h1 h2 h3 h4 h5 h6 (f2.mono (by decide) (by decide) (by decide)) ((f2.2.2.2.1 1103 (by decide)).trans h3.2.1) rfl
  refine v_pop hX dL_law_389 rfl ?_
  refine v_goto hX (tgt := 393) dL_law_390 (by decide) ?_
  exact J _ _ _ _ n h7 (by omega) ⟨by omega, by omega⟩
set_option maxRecDepth 100000 in
set_option maxHeartbeats 4000000 in
theorem lawc_feed {X : b_T} {fr lo mc ms : Nat} (hX : b_X X code R_law fr lo mc ms) (hnL : b_n X = 7) {b L : Nat} {xs : Nat → Int32} (hs : b_Sc X b L xs) (hE : b_EndL X b) (hL : L ≤ 2560) (hfr : 15 ≤ fr) (hlo : 564 ≤ lo) (hmc : 601024 ≤ mc) (hms : 7293034 ≤ ms) {S : b_M} {z ce sl x : Nat} {n i : Int} (hi : 0 ≤ i ∧ i + 5 ≤ (L : Int)) (h : lI (b_kn X) S x n) (hz : x + 498 ≤ z) (ac : ((sl : Int) ≤ 200000 + 2 * lA S x + 12 * i ∧ 256 * (ce : Int) ≤ 256000 + 2 * lA S x + 512 * i)) (J : ∀ (S1 : b_M) (z1 ce1 sl1 : Nat) (n1 : Int), lI (b_kn X) S1 x n1 → x + 498 ≤ z1 → ((sl1 : Int) ≤ 200000 + 2 * lA S1 x + 12 * (i + 5) ∧ 256 * (ce1 : Int) ≤ 256000 + 2 * lA S1 x + 512 * (i + 5)) → b_V X S1 z1 ce1 sl1 393 [(4, .int (iI i)), (3, .ref (x + 497)), (2, .ref (x + 457)), (1, .ref x), (0, .ref b)] []) : b_V X S z ce sl 84 [(4, .int (iI i)), (3, .ref (x + 497)), (2, .ref (x + 457)), (1, .ref x), (0, .ref b)] [] := by
  obtain ⟨h1, h2, h3, h4, h5, h6⟩ := h
  have hrm := h1.room
  obtain ⟨ac1, ac2⟩ := ac
  refine v_aload_n hX dL_law_84 (i := 1) rfl rfl ?_
  refine v_aload_n hX dL_law_85 (i := 0) rfl rfl ?_
  refine v_iload hX dL_law_86 rfl ?_
  refine v_iconst hX (v := iI 1) dL_law_88 rfl ?_
  refine u_iadd hX dL_law_89 ?_
  refine u_sld hX hs ⟨by omega, by omega⟩ (by omega) dL_law_90 ?_
  refine v_aload_n hX dL_law_91 (i := 0) rfl rfl ?_
  refine v_iload hX dL_law_92 rfl ?_
  refine v_iconst hX (v := iI 2) dL_law_94 rfl ?_
  refine u_iadd hX dL_law_95 ?_
  refine u_sld hX hs ⟨by omega, by omega⟩ (by omega) dL_law_96 ?_
  refine v_aload_n hX dL_law_97 (i := 0) rfl rfl ?_
  refine v_iload hX dL_law_98 rfl ?_
  refine v_iconst hX (v := iI 3) dL_law_100 rfl ?_
  refine u_iadd hX dL_law_101 ?_
  refine u_sld hX hs ⟨by omega, by omega⟩ (by omega) dL_law_102 ?_
  refine v_aload_n hX dL_law_103 (i := 0) rfl rfl ?_
  refine v_iload hX dL_law_104 rfl ?_
  refine v_iconst hX (v := iI 4) dL_law_106 rfl ?_
  refine u_iadd hX dL_law_107 ?_
  refine u_sld hX hs ⟨by omega, by omega⟩ (by omega) dL_law_108 ?_
  refine v_aload_n hX dL_law_109 (i := 3) rfl rfl ?_
  refine v_callSW hX (n := 6) (l_feed (x := x) (o := x + 497) (w := x + 498) (a := sv xs (i + 1)) (b := sv xs (i + 2)) (c := sv xs (i + 3)) (d := sv xs (i + 4)) h1.1 h5 h6 ⟨by omega, by omega⟩ h2 ⟨by omega, by omega⟩ (sv_b xs _) (sv_b xs _) (sv_b xs _) (sv_b xs _)) w_2_199 w_2_200 w_1_0 w_2_201 (by decide +kernel) rfl ⟨by omega, by omega⟩ ⟨by omega, by omega⟩ (Nat.le_of_ble_eq_true rfl) rfl dL_law_110 (fun _ _ _ h => h) ?_
  rintro r1 S1 z1 ⟨q1, q2⟩
  rcases q2 with ⟨g0, rfl, hq9⟩ | ⟨g0, rfl, S2, fc, ec, rfl⟩
  · obtain rfl := hq9.symm
    have h1a := h1
    have h2a := h2
    have h3a := h3
    have h5a := h5
    have h6a := h6
    have la1 : lA S x = lA S x := rfl
    refine v_istore hX (lv' := [(5, .int (iI 1)), (4, .int (iI i)), (3, .ref (x + 497)), (2, .ref (x + 457)), (1, .ref x), (0, .ref b)]) dL_law_113 (by rw [hnL]; decide) rfl ?_
    refine v_aload_n hX dL_law_115 (i := 2) rfl rfl ?_
    refine v_aload_n hX dL_law_116 (i := 0) rfl rfl ?_
    refine v_iload hX dL_law_117 rfl ?_
    refine v_iconst hX (v := iI 1) dL_law_119 rfl ?_
    refine u_iadd hX dL_law_120 ?_
    refine u_sld hX hs ⟨by omega, by omega⟩ (by omega) dL_law_121 ?_
    refine v_aload_n hX dL_law_122 (i := 0) rfl rfl ?_
    refine v_iload hX dL_law_123 rfl ?_
    refine v_iconst hX (v := iI 2) dL_law_125 rfl ?_
    refine u_iadd hX dL_law_126 ?_
    refine u_sld hX hs ⟨by omega, by omega⟩ (by omega) dL_law_127 ?_
    refine v_aload_n hX dL_law_128 (i := 0) rfl rfl ?_
    refine v_iload hX dL_law_129 rfl ?_
    refine v_iconst hX (v := iI 3) dL_law_131 rfl ?_
    refine u_iadd hX dL_law_132 ?_
    refine u_sld hX hs ⟨by omega, by omega⟩ (by omega) dL_law_133 ?_
    refine v_aload_n hX dL_law_134 (i := 0) rfl rfl ?_
    refine v_iload hX dL_law_135 rfl ?_
    refine v_iconst hX (v := iI 4) dL_law_137 rfl ?_
    refine u_iadd hX dL_law_138 ?_
    refine u_sld hX hs ⟨by omega, by omega⟩ (by omega) dL_law_139 ?_
    refine v_callV hX (n := 4) (k_feed (x := x + 457) (a := sv xs (i + 1)) (b := sv xs (i + 2)) (c := sv xs (i + 3)) (d := sv xs (i + 4)) h3a.1 h3a.2.1 ⟨by omega, by omega⟩ (sv_b xs _) (sv_b xs _) (sv_b xs _) (sv_b xs _) h4) (h3a.1.1) bc_11 (by decide) w_6_198 w_6_199 w_6_200 w_1_16 w_6_201 (by decide +kernel) rfl ⟨by omega, by omega⟩ ⟨by omega, by omega⟩ (Nat.le_of_ble_eq_true rfl) rfl dL_law_140 (fun _ _ _ h => h) ?_
    rintro r2 S4 z2 ⟨rfl, f2, q, t1, s1, rfl, bq, e1, b1, e2, b2, hq⟩
    have ht : t1 = 1 ∧ s1 = n := by omega
    obtain ⟨h7, la2⟩ := lI.ref (Js := []) (n2 := s1) h1a h2a h3a ⟨by omega, by omega⟩ h5a h6a (f2.mono (by decide) (by decide) (by decide)) e2 ht.2
    have m9 : m_K S4 (x + 457) = 11 := (f2.2.2.2.2.2.1 _).trans h3a.1.1
    have t9 : m_I S4 1102 (x + 457) = iI 1 := by rw [e1, ht.1]
    have k9 := h7.2.2.2.2.1
    have l9 := h7.2.2.2.2.2
    refine v_istore hX (lv' := [(6, .int (iI q)), (5, .int (iI 1)), (4, .int (iI i)), (3, .ref (x + 497)), (2, .ref (x + 457)), (1, .ref x), (0, .ref b)]) dL_law_143 (by rw [hnL]; decide) rfl ?_
    refine v_aload_n hX dL_law_145 (i := 2) rfl rfl ?_
    refine v_callV hX (n := 0) (c_M_thrown (a := x + 457) m9) (m9) bc_11 (by decide) w_6_194 w_6_195 w_6_196 w_1_16 w_6_197 (by decide +kernel) rfl ⟨by omega, by omega⟩ ⟨by omega, by omega⟩ (Nat.le_of_ble_eq_true rfl) rfl dL_law_146 (fun _ _ _ h => h) ?_
    rintro r9 S9 z9 ⟨rfl, rfl, rfl⟩
    rw [t9]
    refine v_iload hX dL_law_149 rfl ?_
    refine u_icmp_eq hX (tgt := 156) dL_law_151 (by decide) ⟨by decide, by decide⟩ ⟨by decide, by decide⟩ (fun _ => ?_) (fun h => absurd rfl h)
    refine v_iload hX dL_law_156 rfl ?_
    refine u_if_ne hX (tgt := 173) dL_law_158 (by decide) ⟨by decide, by decide⟩ (fun _ => ?_) (fun h => absurd (by decide) h)
    refine v_goto hX (tgt := 393) dL_law_173 (by decide) ?_
    refine v_locals (lv' := [(4, .int (iI i)), (3, .ref (x + 497)), (2, .ref (x + 457)), (1, .ref x), (0, .ref b)]) (by simp) ?_
    exact J _ _ _ _ n h7 (by omega) ⟨by omega, by omega⟩
  · have h1a := (h1.far fc (by decide)).far (cFr_out (o := x + 497) (i := 0) (v := jJ (n + 16))) (by decide)
    have h2a : m_I (s_B S2 (x + 497) 0 (jJ (n + 16))) 1001 x = iI (n + 16) := ec
    have h3a := (h3.cfr fc).out (v := jJ (n + 16))
    have oq := fc.1.1 (x + 497) (by omega) (Or.inr (by omega))
    have h5a : m_K (s_B S2 (x + 497) 0 (jJ (n + 16))) (x + 497) = 14 := oq.1.trans h5
    have h6a : m_L (s_B S2 (x + 497) 0 (jJ (n + 16))) (x + 497) = 1 := oq.2.2.2.2.1.trans h6
    have o9a : lAt (s_B S2 (x + 497) 0 (jJ (n + 16))) (x + 497) 0 = (n + 16) := by
      unfold lAt
      rw [show (0 : Int).toNat = 0 from rfl, y_B_s_B, jJ_to ⟨by omega, by omega⟩]
    have la1 : lA (s_B S2 (x + 497) 0 (jJ (n + 16))) x = lA S x := ((h1.far fc (by decide)).same cFr_out).trans (h1.same fc)
    generalize s_B S2 (x + 497) 0 (jJ (n + 16)) = S3 at h1a h2a h3a h5a h6a o9a la1 ⊢
    refine v_istore hX (lv' := [(5, .int (iI 0)), (4, .int (iI i)), (3, .ref (x + 497)), (2, .ref (x + 457)), (1, .ref x), (0, .ref b)]) dL_law_113 (by rw [hnL]; decide) rfl ?_
    refine v_aload_n hX dL_law_115 (i := 2) rfl rfl ?_
    refine v_aload_n hX dL_law_116 (i := 0) rfl rfl ?_
    refine v_iload hX dL_law_117 rfl ?_
    refine v_iconst hX (v := iI 1) dL_law_119 rfl ?_
    refine u_iadd hX dL_law_120 ?_
    refine u_sld hX hs ⟨by omega, by omega⟩ (by omega) dL_law_121 ?_
    refine v_aload_n hX dL_law_122 (i := 0) rfl rfl ?_
    refine v_iload hX dL_law_123 rfl ?_
    refine v_iconst hX (v := iI 2) dL_law_125 rfl ?_
    refine u_iadd hX dL_law_126 ?_
    refine u_sld hX hs ⟨by omega, by omega⟩ (by omega) dL_law_127 ?_
    refine v_aload_n hX dL_law_128 (i := 0) rfl rfl ?_
    refine v_iload hX dL_law_129 rfl ?_
    refine v_iconst hX (v := iI 3) dL_law_131 rfl ?_
    refine u_iadd hX dL_law_132 ?_
    refine u_sld hX hs ⟨by omega, by omega⟩ (by omega) dL_law_133 ?_
    refine v_aload_n hX dL_law_134 (i := 0) rfl rfl ?_
    refine v_iload hX dL_law_135 rfl ?_
    refine v_iconst hX (v := iI 4) dL_law_137 rfl ?_
    refine u_iadd hX dL_law_138 ?_
    refine u_sld hX hs ⟨by omega, by omega⟩ (by omega) dL_law_139 ?_
    refine v_callV hX (n := 4) (k_feed (x := x + 457) (a := sv xs (i + 1)) (b := sv xs (i + 2)) (c := sv xs (i + 3)) (d := sv xs (i + 4)) h3a.1 h3a.2.1 ⟨by omega, by omega⟩ (sv_b xs _) (sv_b xs _) (sv_b xs _) (sv_b xs _) h4) (h3a.1.1) bc_11 (by decide) w_6_198 w_6_199 w_6_200 w_1_16 w_6_201 (by decide +kernel) rfl ⟨by omega, by omega⟩ ⟨by omega, by omega⟩ (Nat.le_of_ble_eq_true rfl) rfl dL_law_140 (fun _ _ _ h => h) ?_
    rintro r2 S4 z2 ⟨rfl, f2, q, t1, s1, rfl, bq, e1, b1, e2, b2, hq⟩
    have ht : t1 = 0 ∧ s1 = (n + 16) ∧ q = (n + 16) := by omega
    obtain ⟨h7, la2⟩ := lI.ref (Js := []) (n2 := s1) h1a h2a h3a ⟨by omega, by omega⟩ h5a h6a (f2.mono (by decide) (by decide) (by decide)) e2 ht.2.1
    have m9 : m_K S4 (x + 457) = 11 := (f2.2.2.2.2.2.1 _).trans h3a.1.1
    have t9 : m_I S4 1102 (x + 457) = iI 0 := by rw [e1, ht.1]
    have k9 := h7.2.2.2.2.1
    have l9 := h7.2.2.2.2.2
    have o9 : lAt S4 (x + 497) 0 = (n + 16) := ((f2.1 (x + 497) (by omega) (fun j hj => by have := List.mem_singleton.1 hj; omega)).lA 0).trans o9a
    have hqv := ht.2.2
    refine v_istore hX (lv' := [(6, .int (iI q)), (5, .int (iI 0)), (4, .int (iI i)), (3, .ref (x + 497)), (2, .ref (x + 457)), (1, .ref x), (0, .ref b)]) dL_law_143 (by rw [hnL]; decide) rfl ?_
    refine v_aload_n hX dL_law_145 (i := 2) rfl rfl ?_
    refine v_callV hX (n := 0) (c_M_thrown (a := x + 457) m9) (m9) bc_11 (by decide) w_6_194 w_6_195 w_6_196 w_1_16 w_6_197 (by decide +kernel) rfl ⟨by omega, by omega⟩ ⟨by omega, by omega⟩ (Nat.le_of_ble_eq_true rfl) rfl dL_law_146 (fun _ _ _ h => h) ?_
    rintro r9 S9 z9 ⟨rfl, rfl, rfl⟩
    rw [t9]
    refine v_iload hX dL_law_149 rfl ?_
    refine u_icmp_eq hX (tgt := 156) dL_law_151 (by decide) ⟨by decide, by decide⟩ ⟨by decide, by decide⟩ (fun _ => ?_) (fun h => absurd rfl h)
    refine v_iload hX dL_law_156 rfl ?_
    refine u_if_ne hX (tgt := 173) dL_law_158 (by decide) ⟨by decide, by decide⟩ (fun h => absurd rfl h) (fun _ => ?_)
    refine v_aload_n hX dL_law_161 (i := 3) rfl rfl ?_
    refine v_iconst hX (v := iI 0) dL_law_162 rfl ?_
    refine u_lald hX k9 l9 ⟨by decide, by decide⟩ (by decide) dL_law_163 ?_
    intro v9 e9 b9
    have e9 : v9 = q := (e9.trans o9).trans hqv.symm
    refine v_iload hX dL_law_164 rfl ?_
    refine u_i2l hX dL_law_166 ⟨by omega, by omega⟩ ?_
    refine u_lcmp hX dL_law_167 b9 ⟨by omega, by omega⟩ ?_
    intro c9 bc9 hc9
    refine u_if_eq hX (tgt := 173) dL_law_168 (by decide) bc9 (fun _ => ?_) (fun h => absurd (hc9.2.2.mpr e9) h)
    refine v_goto hX (tgt := 393) dL_law_173 (by decide) ?_
    refine v_locals (lv' := [(4, .int (iI i)), (3, .ref (x + 497)), (2, .ref (x + 457)), (1, .ref x), (0, .ref b)]) (by simp) ?_
    exact J _ _ _ _ (n + 16) h7 (by omega) ⟨by omega, by omega⟩
set_option maxRecDepth 100000 in
set_option maxHeartbeats 4000000 in
theorem lawc_end {X : b_T} {fr lo mc ms : Nat} (hX : b_X X code R_law fr lo mc ms) (hnL : b_n X = 7) {b L : Nat} {xs : Nat → Int32} (hs : b_Sc X b L xs) (hE : b_EndL X b) (hL : L ≤ 2560) (hfr : 15 ≤ fr) (hlo : 564 ≤ lo) (hmc : 601024 ≤ mc) (hms : 7293034 ≤ ms) {S : b_M} {z ce sl x : Nat} {n i : Int} (hi : 0 ≤ i ∧ i + 5 ≤ (L : Int)) (h : lI (b_kn X) S x n) (hz : x + 498 ≤ z) (ac : ((sl : Int) ≤ 200000 + 2 * lA S x + 12 * i ∧ 256 * (ce : Int) ≤ 256000 + 2 * lA S x + 512 * i)) (J : ∀ (S1 : b_M) (z1 ce1 sl1 : Nat) (n1 : Int), lI (b_kn X) S1 x n1 → x + 498 ≤ z1 → ((sl1 : Int) ≤ 200000 + 2 * lA S1 x + 12 * (i + 5) ∧ 256 * (ce1 : Int) ≤ 256000 + 2 * lA S1 x + 512 * (i + 5)) → b_V X S1 z1 ce1 sl1 393 [(4, .int (iI i)), (3, .ref (x + 497)), (2, .ref (x + 457)), (1, .ref x), (0, .ref b)] []) : b_V X S z ce sl 176 [(4, .int (iI i)), (3, .ref (x + 497)), (2, .ref (x + 457)), (1, .ref x), (0, .ref b)] [] := by
  obtain ⟨h1, h2, h3, h4, h5, h6⟩ := h
  have hrm := h1.room
  obtain ⟨ac1, ac2⟩ := ac
  refine v_aload_n hX dL_law_176 (i := 1) rfl rfl ?_
  refine v_aload_n hX dL_law_177 (i := 0) rfl rfl ?_
  refine v_iload hX dL_law_178 rfl ?_
  refine v_iconst hX (v := iI 1) dL_law_180 rfl ?_
  refine u_iadd hX dL_law_181 ?_
  refine u_sld hX hs ⟨by omega, by omega⟩ (by omega) dL_law_182 ?_
  refine v_aload_n hX dL_law_183 (i := 3) rfl rfl ?_
  refine v_callSW hX (n := 3) (l_end (x := x) (o := x + 497) (w := x + 498) (n := sv xs (i + 1)) h1.1 h5 h6 ⟨by omega, by omega⟩ h2 ⟨by omega, by omega⟩ (sv_b xs _)) w_3_38 w_3_39 w_1_0 w_3_40 (by decide +kernel) rfl ⟨by omega, by omega⟩ ⟨by omega, by omega⟩ (Nat.le_of_ble_eq_true rfl) rfl dL_law_184 (fun _ _ _ h => h) ?_
  rintro r1 S1 z1 ⟨q1, q2⟩
  rcases q2 with ⟨g0, rfl, hq9⟩ | ⟨g0, g1, rfl, hq9⟩ | ⟨g0, g1, rfl, S2, fc, ec, rfl⟩
  · obtain rfl := hq9.symm
    have h1a := h1
    have h2a := h2
    have h3a := h3
    have h5a := h5
    have h6a := h6
    have la1 : lA S x = lA S x := rfl
    refine v_istore hX (lv' := [(5, .int (iI 1)), (4, .int (iI i)), (3, .ref (x + 497)), (2, .ref (x + 457)), (1, .ref x), (0, .ref b)]) dL_law_187 (by rw [hnL]; decide) rfl ?_
    refine v_aload_n hX dL_law_189 (i := 2) rfl rfl ?_
    refine v_aload_n hX dL_law_190 (i := 0) rfl rfl ?_
    refine v_iload hX dL_law_191 rfl ?_
    refine v_iconst hX (v := iI 1) dL_law_193 rfl ?_
    refine u_iadd hX dL_law_194 ?_
    refine u_sld hX hs ⟨by omega, by omega⟩ (by omega) dL_law_195 ?_
    refine v_callV hX (n := 1) (k_end (x := x + 457) (n := sv xs (i + 1)) h3a.1 h3a.2.1 ⟨by omega, by omega⟩ (sv_b xs _) h4) (h3a.1.1) bc_11 (by decide) w_6_206 w_6_207 w_6_208 w_1_16 w_6_209 (by decide +kernel) rfl ⟨by omega, by omega⟩ ⟨by omega, by omega⟩ (Nat.le_of_ble_eq_true rfl) rfl dL_law_196 (fun _ _ _ h => h) ?_
    rintro r2 S4 z2 ⟨rfl, f2, q, t1, s1, rfl, bq, e1, b1, e2, b2, hq⟩
    have ht : t1 = 1 ∧ s1 = n := by omega
    obtain ⟨h7, la2⟩ := lI.ref (Js := []) (n2 := s1) h1a h2a h3a ⟨by omega, by omega⟩ h5a h6a (f2.mono (by decide) (by decide) (by decide)) e2 ht.2
    have m9 : m_K S4 (x + 457) = 11 := (f2.2.2.2.2.2.1 _).trans h3a.1.1
    have t9 : m_I S4 1102 (x + 457) = iI 1 := by rw [e1, ht.1]
    have k9 := h7.2.2.2.2.1
    have l9 := h7.2.2.2.2.2
    refine v_istore hX (lv' := [(6, .int (iI q)), (5, .int (iI 1)), (4, .int (iI i)), (3, .ref (x + 497)), (2, .ref (x + 457)), (1, .ref x), (0, .ref b)]) dL_law_199 (by rw [hnL]; decide) rfl ?_
    refine v_goto hX (tgt := 393) dL_law_201 (by decide) ?_
    refine v_locals (lv' := [(4, .int (iI i)), (3, .ref (x + 497)), (2, .ref (x + 457)), (1, .ref x), (0, .ref b)]) (by simp) ?_
    exact J _ _ _ _ n h7 (by omega) ⟨by omega, by omega⟩
  · obtain rfl := hq9.symm
    have h1a := h1
    have h2a := h2
    have h3a := h3
    have h5a := h5
    have h6a := h6
    have la1 : lA S x = lA S x := rfl
    refine v_istore hX (lv' := [(5, .int (iI 2)), (4, .int (iI i)), (3, .ref (x + 497)), (2, .ref (x + 457)), (1, .ref x), (0, .ref b)]) dL_law_187 (by rw [hnL]; decide) rfl ?_
    refine v_aload_n hX dL_law_189 (i := 2) rfl rfl ?_
    refine v_aload_n hX dL_law_190 (i := 0) rfl rfl ?_
    refine v_iload hX dL_law_191 rfl ?_
    refine v_iconst hX (v := iI 1) dL_law_193 rfl ?_
    refine u_iadd hX dL_law_194 ?_
    refine u_sld hX hs ⟨by omega, by omega⟩ (by omega) dL_law_195 ?_
    refine v_callV hX (n := 1) (k_end (x := x + 457) (n := sv xs (i + 1)) h3a.1 h3a.2.1 ⟨by omega, by omega⟩ (sv_b xs _) h4) (h3a.1.1) bc_11 (by decide) w_6_206 w_6_207 w_6_208 w_1_16 w_6_209 (by decide +kernel) rfl ⟨by omega, by omega⟩ ⟨by omega, by omega⟩ (Nat.le_of_ble_eq_true rfl) rfl dL_law_196 (fun _ _ _ h => h) ?_
    rintro r2 S4 z2 ⟨rfl, f2, q, t1, s1, rfl, bq, e1, b1, e2, b2, hq⟩
    have ht : t1 = 2 ∧ s1 = n := by omega
    obtain ⟨h7, la2⟩ := lI.ref (Js := []) (n2 := s1) h1a h2a h3a ⟨by omega, by omega⟩ h5a h6a (f2.mono (by decide) (by decide) (by decide)) e2 ht.2
    have m9 : m_K S4 (x + 457) = 11 := (f2.2.2.2.2.2.1 _).trans h3a.1.1
    have t9 : m_I S4 1102 (x + 457) = iI 2 := by rw [e1, ht.1]
    have k9 := h7.2.2.2.2.1
    have l9 := h7.2.2.2.2.2
    refine v_istore hX (lv' := [(6, .int (iI q)), (5, .int (iI 2)), (4, .int (iI i)), (3, .ref (x + 497)), (2, .ref (x + 457)), (1, .ref x), (0, .ref b)]) dL_law_199 (by rw [hnL]; decide) rfl ?_
    refine v_goto hX (tgt := 393) dL_law_201 (by decide) ?_
    refine v_locals (lv' := [(4, .int (iI i)), (3, .ref (x + 497)), (2, .ref (x + 457)), (1, .ref x), (0, .ref b)]) (by simp) ?_
    exact J _ _ _ _ n h7 (by omega) ⟨by omega, by omega⟩
  · have h1a := (h1.far fc (by decide)).far (cFr_out (o := x + 497) (i := 0) (v := jJ (n - (16 - sv xs (i + 1))))) (by decide)
    have h2a : m_I (s_B S2 (x + 497) 0 (jJ (n - (16 - sv xs (i + 1))))) 1001 x = iI (n - (16 - sv xs (i + 1))) := ec
    have h3a := (h3.cfr fc).out (v := jJ (n - (16 - sv xs (i + 1))))
    have oq := fc.1.1 (x + 497) (by omega) (Or.inr (by omega))
    have h5a : m_K (s_B S2 (x + 497) 0 (jJ (n - (16 - sv xs (i + 1))))) (x + 497) = 14 := oq.1.trans h5
    have h6a : m_L (s_B S2 (x + 497) 0 (jJ (n - (16 - sv xs (i + 1))))) (x + 497) = 1 := oq.2.2.2.2.1.trans h6
    have o9a : lAt (s_B S2 (x + 497) 0 (jJ (n - (16 - sv xs (i + 1))))) (x + 497) 0 = (n - (16 - sv xs (i + 1))) := by
      unfold lAt
      rw [show (0 : Int).toNat = 0 from rfl, y_B_s_B, jJ_to ⟨by omega, by omega⟩]
    have la1 : lA (s_B S2 (x + 497) 0 (jJ (n - (16 - sv xs (i + 1))))) x = lA S x := ((h1.far fc (by decide)).same cFr_out).trans (h1.same fc)
    generalize s_B S2 (x + 497) 0 (jJ (n - (16 - sv xs (i + 1)))) = S3 at h1a h2a h3a h5a h6a o9a la1 ⊢
    refine v_istore hX (lv' := [(5, .int (iI 0)), (4, .int (iI i)), (3, .ref (x + 497)), (2, .ref (x + 457)), (1, .ref x), (0, .ref b)]) dL_law_187 (by rw [hnL]; decide) rfl ?_
    refine v_aload_n hX dL_law_189 (i := 2) rfl rfl ?_
    refine v_aload_n hX dL_law_190 (i := 0) rfl rfl ?_
    refine v_iload hX dL_law_191 rfl ?_
    refine v_iconst hX (v := iI 1) dL_law_193 rfl ?_
    refine u_iadd hX dL_law_194 ?_
    refine u_sld hX hs ⟨by omega, by omega⟩ (by omega) dL_law_195 ?_
    refine v_callV hX (n := 1) (k_end (x := x + 457) (n := sv xs (i + 1)) h3a.1 h3a.2.1 ⟨by omega, by omega⟩ (sv_b xs _) h4) (h3a.1.1) bc_11 (by decide) w_6_206 w_6_207 w_6_208 w_1_16 w_6_209 (by decide +kernel) rfl ⟨by omega, by omega⟩ ⟨by omega, by omega⟩ (Nat.le_of_ble_eq_true rfl) rfl dL_law_196 (fun _ _ _ h => h) ?_
    rintro r2 S4 z2 ⟨rfl, f2, q, t1, s1, rfl, bq, e1, b1, e2, b2, hq⟩
    have ht : t1 = 0 ∧ s1 = (n - (16 - sv xs (i + 1))) ∧ q = (n - (16 - sv xs (i + 1))) := by omega
    obtain ⟨h7, la2⟩ := lI.ref (Js := []) (n2 := s1) h1a h2a h3a ⟨by omega, by omega⟩ h5a h6a (f2.mono (by decide) (by decide) (by decide)) e2 ht.2.1
    have m9 : m_K S4 (x + 457) = 11 := (f2.2.2.2.2.2.1 _).trans h3a.1.1
    have t9 : m_I S4 1102 (x + 457) = iI 0 := by rw [e1, ht.1]
    have k9 := h7.2.2.2.2.1
    have l9 := h7.2.2.2.2.2
    have o9 : lAt S4 (x + 497) 0 = (n - (16 - sv xs (i + 1))) := ((f2.1 (x + 497) (by omega) (fun j hj => absurd hj List.not_mem_nil)).lA 0).trans o9a
    have hqv := ht.2.2
    refine v_istore hX (lv' := [(6, .int (iI q)), (5, .int (iI 0)), (4, .int (iI i)), (3, .ref (x + 497)), (2, .ref (x + 457)), (1, .ref x), (0, .ref b)]) dL_law_199 (by rw [hnL]; decide) rfl ?_
    refine v_goto hX (tgt := 393) dL_law_201 (by decide) ?_
    refine v_locals (lv' := [(4, .int (iI i)), (3, .ref (x + 497)), (2, .ref (x + 457)), (1, .ref x), (0, .ref b)]) (by simp) ?_
    exact J _ _ _ _ (n - (16 - sv xs (i + 1))) h7 (by omega) ⟨by omega, by omega⟩
set_option maxRecDepth 100000 in
set_option maxHeartbeats 4000000 in
theorem lawc_assemble {X : b_T} {fr lo mc ms : Nat} (hX : b_X X code R_law fr lo mc ms) (hnL : b_n X = 7) {b L : Nat} {xs : Nat → Int32} (hs : b_Sc X b L xs) (hE : b_EndL X b) (hL : L ≤ 2560) (hfr : 15 ≤ fr) (hlo : 564 ≤ lo) (hmc : 601024 ≤ mc) (hms : 7293034 ≤ ms) {S : b_M} {z ce sl x : Nat} {n i : Int} (hi : 0 ≤ i ∧ i + 5 ≤ (L : Int)) (h : lI (b_kn X) S x n) (hz : x + 498 ≤ z) (ac : ((sl : Int) ≤ 200000 + 2 * lA S x + 12 * i ∧ 256 * (ce : Int) ≤ 256000 + 2 * lA S x + 512 * i)) (J : ∀ (S1 : b_M) (z1 ce1 sl1 : Nat) (n1 : Int), lI (b_kn X) S1 x n1 → x + 498 ≤ z1 → ((sl1 : Int) ≤ 200000 + 2 * lA S1 x + 12 * (i + 5) ∧ 256 * (ce1 : Int) ≤ 256000 + 2 * lA S1 x + 512 * (i + 5)) → b_V X S1 z1 ce1 sl1 393 [(4, .int (iI i)), (3, .ref (x + 497)), (2, .ref (x + 457)), (1, .ref x), (0, .ref b)] []) : b_V X S z ce sl 204 [(4, .int (iI i)), (3, .ref (x + 497)), (2, .ref (x + 457)), (1, .ref x), (0, .ref b)] [] := by
  obtain ⟨h1, h2, h3, h4, h5, h6⟩ := h
  have hrm := h1.room
  obtain ⟨ac1, ac2⟩ := ac
  refine v_aload_n hX dL_law_204 (i := 1) rfl rfl ?_
  refine v_aload_n hX dL_law_205 (i := 3) rfl rfl ?_
  obtain ⟨ma, hma⟩ : ∃ ma : Nat, (ma : Int) = 2 * (2162688 - lA S x) + 6 := ⟨(2 * (2162688 - lA S x) + 6).toNat, by omega⟩
  obtain ⟨ca, hca, hcb⟩ : ∃ ca : Nat, 2 * (2162688 - lA S x) + 256 ≤ 256 * (ca : Int) ∧ 256 * (ca : Int) ≤ 2 * (2162688 - lA S x) + 512 := ⟨((2 * (2162688 - lA S x) + 511) / 256).toNat, by omega, by omega⟩
  refine w_callSW hX (n := 2) (l_assemble (mc := ca) (ms := ma) (x := x) (o := x + 497) (w := x + 498) h1.1 h5 h6 ⟨by omega, by omega⟩ h1 h2 h4 ⟨by omega, by omega⟩ ⟨by omega, hz⟩) w_3_63 w_3_64 w_1_0 w_3_65 (by decide +kernel) rfl ⟨by omega, by omega⟩ ⟨by omega, by omega⟩ (Nat.le_of_ble_eq_true rfl) rfl dL_law_206 (fun _ _ _ _ _ h => h) ?_
  rintro r1 S1 z1 uc us ⟨q1, ⟨v1, rfl⟩, S2, fc, ec, u1, u2, h1b, q2⟩
  have f1 : cFr [] [] [] 0 S2 S1 x ∧ ∀ b, b ≠ x + 497 → b_eq S2 S1 b := by
    rcases q2 with rfl | ⟨v, rfl⟩
    · exact ⟨cFr.rf _ _, fun b _ => b_eq.rf _ _⟩
    · exact ⟨cFr_out, fun b g => e_s_B _ _ _ _ g⟩
  have oq := fc.1.1 (x + 497) (by omega) (Or.inr (by omega))
  have hrm2 := h1b.room
  have k5 := oq.1.trans h5
  have k6 := oq.2.2.2.2.1.trans h6
  have h1a := h1b.far f1.1 (by decide)
  have h2a : m_I S1 1001 x = iI 0 := (f1.1.2.1 _ (by decide) _).trans ec
  have h3a := (h3.cfr fc).keep (fun b g1 g2 => f1.2 b (by omega))
  have h5a : m_K S1 (x + 497) = 14 := (f1.1.kl k5 (by decide)).1
  have h6a : m_L S1 (x + 497) = 1 := (f1.1.kl k5 (by decide)).2.trans k6
  have la1 := h1b.same f1.1
  refine v_istore hX (lv' := [(5, .int v1), (4, .int (iI i)), (3, .ref (x + 497)), (2, .ref (x + 457)), (1, .ref x), (0, .ref b)]) dL_law_209 (by rw [hnL]; decide) rfl ?_
  refine v_aload_n hX dL_law_211 (i := 2) rfl rfl ?_
  obtain ⟨m1, m2, st, la, se, er, az, wt, wo, ⟨e1, e2, e3, e4, e5, e6, e7⟩, p0, pl, pr⟩ := id h3a
  refine v_callV hX (n := 0) (k_assemble (x := x + 457) m1 m2 ⟨by omega, by omega⟩ e5 ⟨by omega, by omega⟩ e6 ⟨by omega, by omega⟩ ⟨h4.1, h4.2, by omega, by omega, by omega⟩) (m1.1) bc_11 (by decide) w_6_213 w_6_214 w_6_215 w_1_16 w_6_216 (by decide +kernel) rfl ⟨by omega, by omega⟩ ⟨by omega, by omega⟩ (Nat.le_of_ble_eq_true rfl) rfl dL_law_212 (fun _ _ _ h => h) ?_
  rintro r2 S3 z2 ⟨rfl, f2, q, s1, l1, x1, y1, d1, c1, b1, r1, a1, w1, o1, n1, t1, rfl, -, i1, -, i2, -, i3, -, -, -, -, -, -, -, -, -, i4, -, i5, -, i6, -, i7, -, i8, -, -, -, ⟨v1, v2, v3, v4, v5, v6, v7, v8, v9⟩, ti⟩
  subst v1
  have c := f2.cls (x := x) m1 (Nat.le_refl _) (by decide)
  have o := c.kl h5a (by decide)
  have hr : rM S3 (x + 457) 0 := ⟨f2.keep m1, i8, s1, l1, x1, r1, a1, w1, o1, ⟨i1, i2, i3, i4, i5, i6, i7⟩, ⟨ti.2.2.2.1.1.1, ti.2.2.2.1.1.2, ti.1.2.1, ti.1.2.2, ti.2.1.1.1, ti.2.1.1.2, v3, v4, v7, v8, v9, v5, v6⟩, ti.2.2.2.2.1, fun j ja jb => ⟨(ti.2.2.2.1.2 j ja jb).2.1.1, (ti.2.2.2.1.2 j ja jb).2.1.2, (ti.2.2.2.1.2 j ja jb).2.2.1.1, (ti.2.2.2.1.2 j ja jb).2.2.1.2⟩⟩
  have h7 : lI (b_kn X) S3 x 0 := ⟨h1a.far c (by decide), (c.2.1 1001 (by decide) x).trans h2a, hr, by decide, o.1, o.2.trans h6a⟩
  have la2 := h1a.same c
  refine v_istore hX (lv' := [(6, .int (iI q)), (5, .int v1), (4, .int (iI i)), (3, .ref (x + 497)), (2, .ref (x + 457)), (1, .ref x), (0, .ref b)]) dL_law_215 (by rw [hnL]; decide) rfl ?_
  refine v_goto hX (tgt := 393) dL_law_217 (by decide) ?_
  refine v_locals (lv' := [(4, .int (iI i)), (3, .ref (x + 497)), (2, .ref (x + 457)), (1, .ref x), (0, .ref b)]) (by simp) ?_
  exact J _ _ _ _ 0 h7 (by omega) ⟨by omega, by omega⟩
set_option maxRecDepth 100000 in
set_option maxHeartbeats 4000000 in
theorem law_loop {X : b_T} {fr lo mc ms : Nat} (hX : b_X X code R_law fr lo mc ms) (hnL : b_n X = 7) {b L : Nat} {xs : Nat → Int32} (hs : b_Sc X b L xs) (hE : b_EndL X b) (hL : L ≤ 2560) (hfr : 15 ≤ fr) (hlo : 564 ≤ lo) (hmc : 601024 ≤ mc) (hms : 7293034 ≤ ms) {x : Nat} : ∀ (k : Nat) (S : b_M) (z ce sl : Nat) (n i : Int), (L : Int) + 5 ≤ i + k → 0 ≤ i → i ≤ (L : Int) + 5 → lI (b_kn X) S x n → x + 498 ≤ z → ((sl : Int) ≤ 200000 + 2 * lA S x + 12 * i ∧ 256 * (ce : Int) ≤ 256000 + 2 * lA S x + 512 * i) → b_V X S z ce sl 23 [(4, .int (iI i)), (3, .ref (x + 497)), (2, .ref (x + 457)), (1, .ref x), (0, .ref b)] [] := by
  intro k
  induction k with
  | zero =>
    intro S z ce sl n i h1 h2 h3 h hz ac
    have hrm := h.1.room
    refine v_iload hX dL_law_23 rfl ?_
    refine v_aload_n hX dL_law_25 (i := 0) rfl rfl ?_
    refine v_slen hX hs dL_law_26 ?_
    rw [nI_iI]
    refine v_iconst hX (v := iI 5) dL_law_27 rfl ?_
    refine u_isub hX dL_law_28 ?_
    refine u_icmp_gt hX (tgt := 399) dL_law_29 (by decide) ⟨by omega, by omega⟩ ⟨by omega, by omega⟩ (fun _ => ?_) (fun hg => absurd (by omega) hg)
    refine v_iconst hX (v := 1) dL_law_399 (by decide) ?_
    exact v_lawret hX hE (by omega) (by omega) dL_law_400
  | succ k ih =>
    intro S z ce sl n i h1 h2 h3 h hz ac
    have hrm := h.1.room
    refine v_iload hX dL_law_23 rfl ?_
    refine v_aload_n hX dL_law_25 (i := 0) rfl rfl ?_
    refine v_slen hX hs dL_law_26 ?_
    rw [nI_iI]
    refine v_iconst hX (v := iI 5) dL_law_27 rfl ?_
    refine u_isub hX dL_law_28 ?_
    refine u_icmp_gt hX (tgt := 399) dL_law_29 (by decide) ⟨by omega, by omega⟩ ⟨by omega, by omega⟩ (fun _ => ?_) (fun hg => ?_)
    · refine v_iconst hX (v := 1) dL_law_399 (by decide) ?_
      exact v_lawret hX hE (by omega) (by omega) dL_law_400
    have hi : 0 ≤ i ∧ i + 5 ≤ (L : Int) := ⟨h2, by omega⟩
    have J : ∀ (S1 : b_M) (z1 ce1 sl1 : Nat) (n1 : Int), lI (b_kn X) S1 x n1 → x + 498 ≤ z1 → ((sl1 : Int) ≤ 200000 + 2 * lA S1 x + 12 * (i + 5) ∧ 256 * (ce1 : Int) ≤ 256000 + 2 * lA S1 x + 512 * (i + 5)) → b_V X S1 z1 ce1 sl1 393 [(4, .int (iI i)), (3, .ref (x + 497)), (2, .ref (x + 457)), (1, .ref x), (0, .ref b)] [] := by
      intro S1 z1 ce1 sl1 n1 g1 g2 g3
      refine v_iinc hX (v := iI (i + 5)) (lv' := [(4, .int (iI (i + 5))), (3, .ref (x + 497)), (2, .ref (x + 457)), (1, .ref x), (0, .ref b)]) dL_law_393 rfl (iI_add _ _) (by rw [hnL]; decide) rfl ?_
      refine v_goto hX (tgt := 23) dL_law_396 (by decide) ?_
      exact ih S1 z1 ce1 sl1 n1 (i + 5) (by omega) (by omega) (by omega) g1 g2 g3
    refine v_aload_n hX dL_law_32 (i := 0) rfl rfl ?_
    refine v_iload hX dL_law_33 rfl ?_
    refine u_sld hX hs ⟨by omega, by omega⟩ (by omega) dL_law_35 ?_
    refine v_bipush hX (v := 7) dL_law_36 (by decide) ?_
    refine v_iand hX dL_law_38 ?_
    generalize iI (sv xs i) &&& 7 = k7
    by_cases hk : 0 ≤ k7.toInt ∧ k7.toInt ≤ 7
    · obtain ⟨k1, k2⟩ := hk
      have hc : k7.toInt = 0 ∨ k7.toInt = 1 ∨ k7.toInt = 2 ∨ k7.toInt = 3 ∨ k7.toInt = 4 ∨ k7.toInt = 5 ∨ k7.toInt = 6 ∨ k7.toInt = 7 := by omega
      rcases hc with e | e | e | e | e | e | e | e
      · refine v_tableIn hX (off := 45) (tgt := 84) dL_law_39 (by omega) (by omega) (by rw [e]; rfl) (by decide) ?_
        exact lawc_feed hX hnL hs hE hL hfr hlo hmc hms hi h hz ac J
      · refine v_tableIn hX (off := 137) (tgt := 176) dL_law_39 (by omega) (by omega) (by rw [e]; rfl) (by decide) ?_
        exact lawc_end hX hnL hs hE hL hfr hlo hmc hms hi h hz ac J
      · refine v_tableIn hX (off := 165) (tgt := 204) dL_law_39 (by omega) (by omega) (by rw [e]; rfl) (by decide) ?_
        exact lawc_assemble hX hnL hs hE hL hfr hlo hmc hms hi h hz ac J
      · refine v_tableIn hX (off := 181) (tgt := 220) dL_law_39 (by omega) (by omega) (by rw [e]; rfl) (by decide) ?_
        exact lawc_error hX hnL hs hE hL hfr hlo hmc hms hi h hz ac J
      · refine v_tableIn hX (off := 221) (tgt := 260) dL_law_39 (by omega) (by omega) (by rw [e]; rfl) (by decide) ?_
        exact lawc_word hX hnL hs hE hL hfr hlo hmc hms hi h hz ac J
      · refine v_tableIn hX (off := 249) (tgt := 288) dL_law_39 (by omega) (by omega) (by rw [e]; rfl) (by decide) ?_
        exact lawc_statement hX hnL hs hE hL hfr hlo hmc hms hi h hz ac J
      · refine v_tableIn hX (off := 289) (tgt := 328) dL_law_39 (by omega) (by omega) (by rw [e]; rfl) (by decide) ?_
        exact lawc_name hX hnL hs hE hL hfr hlo hmc hms hi h hz ac J
      · refine v_tableIn hX (off := 329) (tgt := 368) dL_law_39 (by omega) (by omega) (by rw [e]; rfl) (by decide) ?_
        exact lawc_count hX hnL hs hE hL hfr hlo hmc hms hi h hz ac J
    · refine v_tableOut hX (tgt := 393) dL_law_39 (by omega) (by decide) ?_
      exact J S z ce sl n h hz ⟨by omega, by omega⟩
set_option maxRecDepth 100000 in
set_option maxHeartbeats 4000000 in
theorem law_body {X : b_T} {fr lo mc ms : Nat} (hX : b_X X code R_law fr lo mc ms) (hnL : b_n X = 7) {b L : Nat} {xs : Nat → Int32} (hs : b_Sc X b L xs) (hE : b_EndL X b) (hL : L ≤ 2560) (hfr : 15 ≤ fr) (hlo : 564 ≤ lo) (hmc : 601024 ≤ mc) (hms : 7293034 ≤ ms) {S : b_M} {z : Nat} (hb : bY S) : b_V X S z 0 0 0 [(0, .ref b)] [] := by
  refine v_new hX (ci := 10) bc_10 (by decide) in_10 tyX12_ok dv_10 w_1_29 w_1_30 w_1_1 dL_law_0 (by omega) (by omega) ?_
  refine v_dup hX dL_law_3 rfl ?_
  refine v_callI hX (n := 0) (host := "AssembleLines") (c_AL_init2 (a := z) (by simp (disch := omega) only [q_K_s_I, q_K_s_J, q_K_s_P, q_K_s_A, q_K_s_B, q_K_s_C, q_K_r_A, q_K_r_B, y_K_n_O, x_K_n_O, y_K_n_A, x_K_n_A]) (by omega)) (Or.inl w_1_31) w_1_32 w_1_1 w_1_33 rfl (by decide +kernel) rfl ⟨by omega, by omega⟩ ⟨by omega, by omega⟩ (Nat.le_of_ble_eq_true rfl) rfl dL_law_4 (fun _ _ _ h => h) ?_
  rintro r1 S1 z1 ⟨rfl, e1, i1, j1, j2, j3, y1⟩
  subst e1
  refine v_astore_n hX (lv' := [(1, .ref z), (0, .ref b)]) dL_law_7 (i := 1) rfl (by rw [hnL]; decide) rfl ?_
  refine v_new hX (ci := 11) bc_11 (by decide) in_11 tyX13_ok dv_11 w_5_195 w_5_196 w_1_16 dL_law_8 (by omega) (by omega) ?_
  refine v_dup hX dL_law_11 rfl ?_
  refine v_callI hX (n := 0) (host := "AssembleLines") (c_Model_init (a := z + 1 + 456) (by simp (disch := omega) only [q_K_s_I, q_K_s_J, q_K_s_P, q_K_s_A, q_K_s_B, q_K_s_C, q_K_r_A, q_K_r_B, y_K_n_O, x_K_n_O, y_K_n_A, x_K_n_A]) (by omega)) (Or.inl w_5_197) w_5_198 w_1_16 w_5_199 rfl (by decide +kernel) rfl ⟨by omega, by omega⟩ ⟨by omega, by omega⟩ (Nat.le_of_ble_eq_true rfl) rfl dL_law_12 (fun _ _ _ h => h) ?_
  rintro r2 S2 z2 ⟨rfl, e2, i2⟩
  subst e2
  refine v_fresh (fun hf => ?_)
  refine v_astore_n hX (lv' := [(2, .ref (z + 1 + 456)), (1, .ref z), (0, .ref b)]) dL_law_15 (i := 2) rfl (by rw [hnL]; decide) rfl ?_
  refine v_iconst hX (v := 1) dL_law_16 (by decide) ?_
  refine v_newa_l hX (N := 1) w_1_98 dL_law_17 (by decide) (by decide) (by decide) (by omega) (by omega) ?_
  refine v_astore_n hX (lv' := [(3, .ref (z + 1 + 456 + 1 + 39)), (2, .ref (z + 1 + 456)), (1, .ref z), (0, .ref b)]) dL_law_19 (i := 3) rfl (by rw [hnL]; decide) rfl ?_
  refine v_iconst hX (v := 0) dL_law_20 (by decide) ?_
  refine v_istore hX (lv' := [(4, .int 0), (3, .ref (z + 1 + 456 + 1 + 39)), (2, .ref (z + 1 + 456)), (1, .ref z), (0, .ref b)]) dL_law_21 (by rw [hnL]; decide) rfl ?_
  have g2 : ∀ b, b < z + 457 → b_eq S1 S2 b := fun b h1 => (e_n_O _ _ _ (by omega)).tr (i2.1 b (by omega) (by omega))
  have g3 : ∀ b, b < z + 457 → b_eq S1 (n_A S2 (z + 1 + 456 + 1 + 39) 14 1) b := fun b h1 => (g2 b h1).tr (e_n_A _ _ _ _ (by omega))
  have y2 : bY S2 := bY_mod i2 (fun b q => by have := hf b q; omega) (bY_nO (by decide) (y1 (bY_nO (by decide) hb)))
  have hc := cI_of (w := z + 498) (i1.keep g3) (fun f => y_I_n_O _ _ _ _) (fun j hj => ((g3 (z + 1 + 6) (by omega)).2.2.2.2.2.1 j).trans (j1 j hj)) (fun j => ((g3 (z + 1 + 7) (by omega)).2.2.2.2.2.1 j).trans (j2 j)) (fun j hj => ((g3 (z + 1 + 16 + j) (by omega)).2.2.2.1 800).trans (j3 j hj)) (bY_nA y2)
  have hr : rM S2 (z + 457) 0 := rM_0 i2 (fun f => y_I_n_O _ _ _ _)
  have hr3 : rM (n_A S2 (z + 1 + 456 + 1 + 39) 14 1) (z + 457) 0 := hr.keep (fun b h1 h2 => e_n_A _ _ _ _ (by omega))
  refine v_widen (c1 := 498) (s1 := 196000) (by omega) (by omega) ?_
  exact law_loop hX hnL hs hE hL hfr hlo hmc hms (x := z) (L + 5) _ _ _ _ 0 0 (by omega) (by omega) (by omega) ⟨hc.1, hc.2.1, hr3, by decide, y_K_n_A _ _ _ _, y_L_n_A _ _ _ _⟩ (by omega) ⟨by have := hc.2.2; omega, by have := hc.2.2; omega⟩
