/-! ===== more calls: static ones, constructors; Object's own; throws ===== -/
theorem b_toMet {l : Launch} {y : MethodName} {ws : List Cond} {rm : Room} {Pc : Array Value → State → Prop} {Qc : Array Value → State → Outcome → State → Prop} {XC : String → State → State → Prop} {mc ms : Nat} {free : Addr → Prop} (h : vx_Met l y ws rm Pc Qc XC mc ms free) (hx : ∀ E st t, ¬ XC E st t) : Met l y ws rm Pc Qc mc ms free :=
  MetFree.mono h (fun _ _ h => h) (fun _ _ _ _ _ h => h) (fun a s o t _ hq => hq.elim id (fun ⟨_, _, _, _, _, hX, _⟩ => (hx _ _ _ hX).elim))
section BCALL2
variable {X : b_T} {cc : ByteArray} {own : String} {fr lo mc ms : Nat} {S : b_M} {z ce sl pc : Nat} {lv : List (Nat × Value)} {st : List Value}
variable {post : Option Value → b_M → Nat → Prop} {px : String → b_M → Nat → Prop}
theorem b_call0 {p : Program} {l : Launch} {e : Env} {R : Room} {s : State} {m : MethodId} {args : Array Value} {below : List Frame} {meth : Method} {c : Code} {H : Heap} {locs : List Loc} {cells slots mc1 ms1 : Nat} {Q : State → Prop} {D : va_G} {cy : Nat → ClassId} {B : Nat} {a : Array Value} {ls : Array Slot} {st0 rest : List Value}
    (hr : va_Run p l e R s m args below meth c H locs cells slots mc1 ms1 (F0 m pc ls st0) rest (b_Qc D cy B post a) (fun q => B ≤ q)) (hS : va_S (fun q => B ≤ q) s.heap H locs)
    (kk : ∀ (r : Option Value) (S : b_M) (z : Nat) (H1 : Heap) (locs1 : List Loc), post r S z → b_R D cy B S z H1 → va_S (fun q => B ≤ q) s.heap H1 locs1 → W p l e R s m args below meth c H1 locs1 (cells + mc1) (slots + ms1) Q (F0 m (pc + 3) ls (r.toList ++ rest))) :
    W p l e R s m args below meth c H locs cells slots Q (F0 m pc ls st0) := by
  intro T hT X
  obtain ⟨v, st₀, t, T', L, h0, X', hL, e1, e2, ⟨r, S1, z1, hv, hp, hb, hF⟩, st⟩ := hr T hT X
  have hv : v = r := Outcome.returned.inj hv
  subst hv
  obtain ⟨-, -, k3⟩ := vx_keep h0 e1 hS (fun _ _ h => h) (fun _ h => h) hL hF
  obtain ⟨t2, a1, b1⟩ := kk v S1 z1 T'.heap (locs ++ L) hp (by rw [e1]; exact hb) k3 T' rfl X'
  exact ⟨t2, st t2 a1, b1⟩
theorem v_callS (hX : b_X X cc own fr lo mc ms) {y : MethodName} {bytes : ByteArray} {maxL : Nat} {ret : Option FieldType} {fr1 lo1 mc1 ms1 idx n : Nat} {As : List Value} (hM : b_C (b_kn X) (b_B X) y bytes maxL ret fr1 lo1 mc1 ms1 As S z post px)
    (w1 : Cond.methodLink own idx y ∈ b_Ws) (w2 : Cond.static y ∈ b_Ws) (w4 : Cond.initialized y.cls ∈ b_Ws) (w5 : Cond.code y bytes maxL ret ∈ b_Ws)
    (hd : y.cls ≠ "java/lang/invoke/MethodHandle" ∧ y.cls ≠ "java/lang/invoke/VarHandle" ∧ (parseMethodDescriptor y.desc).map (fun d => d.parameters.length) = some n) (hn : As.length = n) (hroom : fr1 + 1 ≤ fr ∧ 8 + (maxL + 11) + lo1 ≤ lo) (hf : ce + mc1 ≤ mc ∧ sl + ms1 ≤ ms) (hW : (st.map fun v => v.category).sum ≤ 8) {st0 : List Value} (hst : st0 = As.reverse ++ st) (d : decode cc pc = .ok (.invokestatic idx, 3))
    (kx : ∀ E S z, px E S z → False) (kk : ∀ r S z, post r S z → b_V X S z (ce + mc1) (sl + ms1) (pc + 3) lv (r.toList ++ st)) : b_V X S z ce sl pc lv st0 := by
  obtain ⟨p, l, e, R, s, m, args, below, meth, c, Q, D, cy, kn, B, nL⟩ := X
  intro H locs ls hR hS hl
  obtain ⟨hx, hb, hml, hown, hts, hG, hR0, hst0⟩ := hX
  subst hR0
  have hw : ∀ w ∈ va_wsS own idx y (b_W y bytes maxL ret), w ∈ b_Ws ∧ ((w.onTables && w.keeps) = true ∨ ∃ ty, w = .arrayClass ty) := fun w h => by
    have h9 : w ∈ b_Ws := by
      unfold va_wsS at h
      simp only [List.mem_append, List.mem_cons, List.not_mem_nil, or_false] at h
      rcases h with (h | h | h) | h | h
      · rw [h]; exact w1
      · rw [h]; exact w2
      · rw [h]; exact w4
      · rw [h]; exact w5
      · exact h
    exact ⟨h9, good_of_word (List.mem_filter.mp h9).2⟩
  refine b_call (vx_runS (As := As) (rest := st) (g := F0 m pc ls st0) ⟨hx, hb, hml, hown, hts⟩ (hM l D cy hst0) (va_cwS n hts hw rfl rfl rfl hd hroom) ⟨b_blind, fun U hU hWm => ⟨rfl, by rw [hU]; exact hR, hG.at hS hU hWm⟩⟩ rfl hn hl.1 hst (lv_room hW) d hf) hS ?_ ?_
  · intro r S1 z1 H1 locs1 hp hR1 hS1
    exact kk r S1 z1 hp H1 locs1 ls hR1 hS1 hl
  · intro E S1 z1 q ce1 H1 locs1 hp
    exact (kx E S1 z1 hp).elim
/-- a constructor, by a plain link or as a nest mate's -/
theorem v_callI (hX : b_X X cc own fr lo mc ms) {y : MethodName} {bytes : ByteArray} {maxL fr1 lo1 mc1 ms1 a idx n : Nat} {host : String} {As : List Value} (hM : b_C (b_kn X) (b_B X) y bytes maxL none fr1 lo1 mc1 ms1 (.ref a :: As) S z post px)
    (w1 : Cond.methodLink own idx y ∈ b_Ws ∨ (own, idx, y, host) ∈ b_Nest) (w2 : Cond.instanceMethod y ∈ b_Ws) (w4 : Cond.initialized y.cls ∈ b_Ws) (w5 : Cond.code y bytes maxL none ∈ b_Ws) (hy1 : y.name = "<init>")
    (hd : y.cls ≠ "java/lang/invoke/MethodHandle" ∧ y.cls ≠ "java/lang/invoke/VarHandle" ∧ (parseMethodDescriptor y.desc).map (fun d => d.parameters.length) = some n) (hn : As.length = n) (hroom : fr1 + 1 ≤ fr ∧ 8 + (maxL + 11) + lo1 ≤ lo) (hf : ce + mc1 ≤ mc ∧ sl + ms1 ≤ ms) (hW : (st.map fun v => v.category).sum ≤ 8) {st0 : List Value} (hst : st0 = As.reverse ++ .ref a :: st) (d : decode cc pc = .ok (.invokespecial idx, 3))
    (kx : ∀ E S z, px E S z → False) (kk : ∀ r S z, post r S z → b_V X S z (ce + mc1) (sl + ms1) (pc + 3) lv (r.toList ++ st)) : b_V X S z ce sl pc lv st0 := by
  obtain ⟨p, l, e, R, s, m, args, below, meth, c, Q, D, cy, kn, B, nL⟩ := X
  intro H locs ls hR hS hl
  obtain ⟨hx, hb, hml, hown, hts, hG, hR0, hst0⟩ := hX
  subst hR0
  have hMet := b_toMet (hM l D cy hst0) (fun E st t h => by obtain ⟨S1, z1, h1, -⟩ := h; exact kx _ _ _ h1)
  have hg9 := b_goodIn w5
  rcases w1 with w1 | w1
  · refine b_call0 (va_runI (As := As) (rest := st) (g := F0 m pc ls st0) ⟨hx, hb, hml, hown, hts⟩ hMet (cwI n hts hg9 rfl rfl rfl (hts _ w4) (hts _ w1) (hts _ w2) hy1 hd hroom) ⟨b_blind, fun U hU hWm => ⟨rfl, by rw [hU]; exact hR, hG.at hS hU hWm⟩⟩ rfl hn hl.1 hst (lv_room hW) d hf) hS ?_
    intro r S1 z1 H1 locs1 hp hR1 hS1
    exact kk r S1 z1 hp H1 locs1 ls hR1 hS1 hl
  · refine b_call0 (va_runIN (As := As) (rest := st) (g := F0 m pc ls st0) (host := host) ⟨hx, hb, hml, hown, hts⟩ hMet ⟨va_cnB n hts hg9 rfl rfl rfl (hG.2.2.2.1 _ w1) (hts _ w4) hd hroom, hy1, hts _ w2⟩ ⟨b_blind, fun U hU hWm => ⟨rfl, by rw [hU]; exact hR, hG.at hS hU hWm⟩⟩ rfl hn hl.1 hst (lv_room hW) d hf) hS ?_
    intro r S1 z1 H1 locs1 hp hR1 hS1
    exact kk r S1 z1 hp H1 locs1 ls hR1 hS1 hl
theorem v_objInit (hX : b_X X cc own fr lo mc ms) {a idx : Nat} (w1 : Cond.methodLink own idx objectInit ∈ b_Ws) (w2 : Cond.instanceMethod objectInit ∈ b_Ws) (w3 : Cond.code objectInit ⟨#[0xb1]⟩ 1 none ∈ b_Ws) (hfr : 1 ≤ fr) (hlo : (st.map fun v => v.category).sum + 12 ≤ lo) (d : decode cc pc = .ok (.invokespecial idx, 3)) (kk : b_V X S z ce sl (pc + 3) lv st) : b_V X S z ce sl pc lv (.ref a :: st) := by
  obtain ⟨p, l, e, R, s, m, args, below, meth, c, Q, D, cy, kn, B, nL⟩ := X
  intro H locs ls hR hS hl
  obtain ⟨hx, hb, hml, hown, hts, hG, hR0, hst0⟩ := hX
  subst hR0
  refine W.objInit hx hb hown (hts _ w1) (hts _ w2) (hts _ w3) rfl (by rw [hml]; exact hl.1) rfl d hfr (by show 2 * 0 + _ + 12 ≤ lo; omega) ?_
  exact kk H locs ls hR hS hl
/-- the words of a throw that are not good ones -/
def b_Xw (cls : String) : List Cond := [.castable cls cls, .declares ⟨"java/lang/RuntimeException", "<init>", "(Ljava/lang/String;)V"⟩, .declares ⟨"java/lang/Exception", "<init>", "(Ljava/lang/String;)V"⟩, .declares ⟨"java/lang/Throwable", "<init>", "(Ljava/lang/String;)V"⟩]
theorem v_throw (hX : b_X X cc own fr lo mc ms) {ret : Option FieldType} (hE : b_End X ret mc ms post px) {ik is ic : Nat} {cls text : String} (hcls : Bundle.fit cls = true) (hk : Cond.classLink own ik cls ∈ b_Ws) (hini : Cond.initialized cls ∈ b_Ws) (hstr : (own, is, text) ∈ b_Str) (hca : (cls, cls) ∈ b_Cast)
    (hat : ∀ w ∈ (vx_atS own ic cls ["java/lang/RuntimeException", "java/lang/Exception"]).filter goodWord, w ∈ b_Ws) (hat2 : ∀ w ∈ (vx_atS own ic cls ["java/lang/RuntimeException", "java/lang/Exception"]).filter (fun w => !goodWord w), w ∈ b_Xw cls)
    (hgood : ∀ w ∈ Cond.classLink own ik cls :: Cond.initialized cls :: vx_atS own ic cls ["java/lang/RuntimeException", "java/lang/Exception"], vx_ot w = true)
    (d0 : decode cc pc = .ok (.new ik, 3)) (d3 : decode cc (pc + 3) = .ok (.dup, 1)) (d4 : decode cc (pc + 4) = .ok (.ldc is, 2)) (d6 : decode cc (pc + 6) = .ok (.invokespecial ic, 3)) (d9 : decode cc (pc + 9) = .ok (.athrow, 1))
    (hfr : 5 < fr) (hlo : (st.map fun v => v.category).sum + 82 ≤ lo) (hce : ce + 1 ≤ mc) (hsl : sl + 6 ≤ ms) (hp : ∀ z', z ≤ z' → px cls S z') : b_V X S z ce sl pc lv st := by
  obtain ⟨p, l, e, R, s, m, args, below, meth, c, Q, D, cy, kn, B, nL⟩ := X
  intro H locs ls hR hS hl
  obtain ⟨hx, hb, hml, hown, hts, hG, hR0, hst0⟩ := hX
  obtain ⟨rfl, hr, hlocks, htb⟩ := hE
  subst hR0
  obtain ⟨hK, hB, ⟨hZ1, hZ2, hZ3, hZ4⟩, hNe, hCa, hDe, hSt, hOv⟩ := hG
  obtain ⟨sa, hsa⟩ := hSt _ hstr
  refine vx_throwS hx hb hst0 (names := ["java/lang/RuntimeException", "java/lang/Exception"]) hown hcls (by decide +kernel) (hts _ hk) (hts _ hini) hsa (vx_hat (fun w hw => hts w (hat w hw)) hat2 ?_) hgood hZ2 hZ3 hS (hl.1.trans hml.symm) d0 d3 d4 d6 d9 (fun x hx => (htb x hx).elim) (by show 2 + 3 < fr; omega) (by show _ + (13 * (2 + 1) + 43) ≤ lo; omega) hce hsl hlocks ?_ hS.2.2 hce hsl
  · intro w hw
    simp only [b_Xw, List.mem_cons, List.not_mem_nil, or_false] at hw
    rcases hw with h | h | h | h
    · rw [h]; exact va_Nw.use rfl (hCa _ hca)
    · rw [h]; exact va_Nw.use rfl (hDe _ (by simp [b_Decl]))
    · rw [h]; exact va_Nw.use rfl (hDe _ (by simp [b_Decl]))
    · rw [h]; exact va_Nw.use rfl (hDe _ (by simp [b_Decl]))
  · intro t hvm hz hk9
    refine ⟨S, t.heap.size, hp _ (by rw [← hR.1]; exact hz), ⟨rfl, fun a ha => ?_⟩, Nat.le_trans hS.1 hz, fun q h1 h2 => (hk9 q (Nat.lt_of_lt_of_le h1 hS.1)).trans (hS.2.1 q h1 h2)⟩
    obtain ⟨g1, g2⟩ := hR.2 a ha
    exact ⟨g1, g2.kept (hk9 a g2.lt) rfl (fun _ => rfl) (fun _ => rfl) (fun _ => rfl) rfl (fun _ => rfl) (fun _ => rfl) (fun _ => rfl)⟩
end BCALL2
section BPUT
variable {X : b_T} {cc : ByteArray} {own : String} {fr lo mc ms : Nat} {S : b_M} {z ce sl pc : Nat} {lv : List (Nat × Value)} {st : List Value}
theorem v_putI (hX : b_X X cc own fr lo mc ms) {a ci k idx f : Nat} {C : String} {Tf : u_T} {N : Nat} {ty0 : Nat → FieldType} {v : Int32} (hk : m_K S a = ci) (hc : vwCl[ci]? = some (C, Tf, N)) (hci : ci < 12) (hkN : k < N) (hin : ∀ w ∈ u_ws C Tf N, w ∈ b_Ws) (hty : ∀ k, k < N → parseFieldDescriptor (Tf k).2.2.1 = some (ty0 k)) (hnm : ∀ a, a < N → ∀ b, b < N → a ≠ b → (Tf a).2.1 ≠ (Tf b).2.1) (hlink : Cond.fieldLink own idx (Tf k).1 (Tf k).2.1 (Tf k).2.2.1 ∈ b_Ws) (hfin : (Tf k).2.2.2 = false ∨ ((Tf k).2.2.2 = true ∧ b_I X ∧ (Tf k).1 = own)) (hn : narrow (ty0 k) (.int v) = .int v) (hfit : fits (ty0 k) (.int v) = true) (d : decode cc pc = .ok (.putfield idx, 3)) (hy : m_Y ci k = 1) (hf : 100 * ci + k = f) (kk : b_V X (s_I S f a v) z ce sl (pc + 3) lv st) : b_V X S z ce sl pc lv (.int v :: .ref a :: st) := by
  subst hf
  exact v_putX hX hk hc hci hkN hin hty hnm hlink hfin hn hfit d (b_only_I _ _ _ _) (b_V_I S a v hy) kk
theorem v_putJ (hX : b_X X cc own fr lo mc ms) {a ci k idx f : Nat} {C : String} {Tf : u_T} {N : Nat} {ty0 : Nat → FieldType} {v : Int64} (hk : m_K S a = ci) (hc : vwCl[ci]? = some (C, Tf, N)) (hci : ci < 12) (hkN : k < N) (hin : ∀ w ∈ u_ws C Tf N, w ∈ b_Ws) (hty : ∀ k, k < N → parseFieldDescriptor (Tf k).2.2.1 = some (ty0 k)) (hnm : ∀ a, a < N → ∀ b, b < N → a ≠ b → (Tf a).2.1 ≠ (Tf b).2.1) (hlink : Cond.fieldLink own idx (Tf k).1 (Tf k).2.1 (Tf k).2.2.1 ∈ b_Ws) (hfin : (Tf k).2.2.2 = false ∨ ((Tf k).2.2.2 = true ∧ b_I X ∧ (Tf k).1 = own)) (hn : narrow (ty0 k) (.long v) = .long v) (hfit : fits (ty0 k) (.long v) = true) (d : decode cc pc = .ok (.putfield idx, 3)) (hy : m_Y ci k = 2) (hf : 100 * ci + k = f) (kk : b_V X (s_J S f a v) z ce sl (pc + 3) lv st) : b_V X S z ce sl pc lv (.long v :: .ref a :: st) := by
  subst hf
  exact v_putX hX hk hc hci hkN hin hty hnm hlink hfin hn hfit d (b_only_J _ _ _ _) (b_V_J S a v hy) kk
theorem v_putP (hX : b_X X cc own fr lo mc ms) {a ci k idx f : Nat} {C : String} {Tf : u_T} {N : Nat} {ty0 : Nat → FieldType} {v : Nat} (hk : m_K S a = ci) (hc : vwCl[ci]? = some (C, Tf, N)) (hci : ci < 12) (hkN : k < N) (hin : ∀ w ∈ u_ws C Tf N, w ∈ b_Ws) (hty : ∀ k, k < N → parseFieldDescriptor (Tf k).2.2.1 = some (ty0 k)) (hnm : ∀ a, a < N → ∀ b, b < N → a ≠ b → (Tf a).2.1 ≠ (Tf b).2.1) (hlink : Cond.fieldLink own idx (Tf k).1 (Tf k).2.1 (Tf k).2.2.1 ∈ b_Ws) (hfin : (Tf k).2.2.2 = false ∨ ((Tf k).2.2.2 = true ∧ b_I X ∧ (Tf k).1 = own)) (hn : narrow (ty0 k) (.ref v) = .ref v) (hfit : fits (ty0 k) (.ref v) = true) (d : decode cc pc = .ok (.putfield idx, 3)) (hy : m_Y ci k = 0) (hf : 100 * ci + k = f) (kk : b_V X (s_P S f a (some v)) z ce sl (pc + 3) lv st) : b_V X S z ce sl pc lv (.ref v :: .ref a :: st) := by
  subst hf
  exact v_putX hX hk hc hci hkN hin hty hnm hlink hfin hn hfit d (b_only_P _ _ _ _) (b_V_P S a (some v) hy) kk
end BPUT
section BMATH
variable {X : b_T} {cc : ByteArray} {own : String} {fr lo mc ms : Nat} {S : b_M} {z ce sl pc : Nat} {lv : List (Nat × Value)} {st : List Value}
theorem v_mmin (hX : b_X X cc own fr lo mc ms) {idx : Nat} {x y : Int32} (w1 : Cond.methodLink own idx Lib.Math.min.name ∈ b_Ws) (w2 : Cond.static Lib.Math.min.name ∈ b_Ws) (w3 : Cond.initialized "java/lang/Math" ∈ b_Ws) (w4 : Cond.code Lib.Math.min.name Lib.Math.min.code 2 (some .int) ∈ b_Ws) (hfr : 1 ≤ fr) (hlo : (st.map fun v => v.category).sum + 13 ≤ lo) (hc : ce ≤ mc) (hs : sl ≤ ms) (d : decode cc pc = .ok (.invokestatic idx, 3)) (kk : b_V X S z ce sl (pc + 3) lv (.int (if y < x then y else x) :: st)) : b_V X S z ce sl pc lv (.int y :: .int x :: st) := by
  obtain ⟨p, l, e, R, s, m, args, below, meth, c, Q, D, cy, kn, B, nL⟩ := X
  intro H locs ls hR hS hl
  obtain ⟨hx, hb, hml, hown, hts, hG, hR0, hst0⟩ := hX
  subst hR0
  exact va_mmin hx hb (hml.trans hl.1.symm) hown (hts _ w1) (hts _ w2) (hts _ w3) (hts _ w4) hfr hlo hc hs d (kk H locs ls hR hS hl)
theorem v_mmax (hX : b_X X cc own fr lo mc ms) {idx : Nat} {x y : Int32} (w1 : Cond.methodLink own idx Lib.Math.max.name ∈ b_Ws) (w2 : Cond.static Lib.Math.max.name ∈ b_Ws) (w3 : Cond.initialized "java/lang/Math" ∈ b_Ws) (w4 : Cond.code Lib.Math.max.name Lib.Math.max.code 2 (some .int) ∈ b_Ws) (hfr : 1 ≤ fr) (hlo : (st.map fun v => v.category).sum + 13 ≤ lo) (hc : ce ≤ mc) (hs : sl ≤ ms) (d : decode cc pc = .ok (.invokestatic idx, 3)) (kk : b_V X S z ce sl (pc + 3) lv (.int (if x < y then y else x) :: st)) : b_V X S z ce sl pc lv (.int y :: .int x :: st) := by
  obtain ⟨p, l, e, R, s, m, args, below, meth, c, Q, D, cy, kn, B, nL⟩ := X
  intro H locs ls hR hS hl
  obtain ⟨hx, hb, hml, hown, hts, hG, hR0, hst0⟩ := hX
  subst hR0
  exact va_mmax hx hb (hml.trans hl.1.symm) hown (hts _ w1) (hts _ w2) (hts _ w3) (hts _ w4) hfr hlo hc hs d (kk H locs ls hR hS hl)
end BMATH
