/-! ===== methods with a table of their own ===== -/
abbrev b_WW (y : MethodName) (bytes : ByteArray) (maxL : Nat) (ret : Option FieldType) (hh : List (Nat × Nat × Nat × Nat)) : List Cond := Cond.codeWith y bytes maxL ret hh :: b_Ws
def b_CW (kn : Nat → Nat) (B : Nat) (y : MethodName) (bytes : ByteArray) (maxL : Nat) (ret : Option FieldType) (hh : List (Nat × Nat × Nat × Nat)) (fr lo mc ms : Nat) (as : List Value) (S : b_M) (z : Nat) (post : Option Value → b_M → Nat → Prop) (px : String → b_M → Nat → Prop) : Prop :=
  ∀ (l : Launch) (D : va_G) (cy : Nat → ClassId), l.stackTraces = false → vx_Met l y (b_WW y bytes maxL ret hh) { frames := fr, cells := mc, slots := ms, locals := lo } (b_Pc kn D cy B as S z) (b_Qc D cy B post) (b_Xc D cy B px) mc ms (fun q => B ≤ q)
def b_EndW (X : b_T) (ret : Option FieldType) (mc ms : Nat) (post : Option Value → b_M → Nat → Prop) (px : String → b_M → Nat → Prop) (tab : List ExceptionTableEntry) : Prop := match X with
  | (p, l, e, R, s, m, args, below, meth, c, Q, D, cy, kn, B, nL) => Q = vx_MQ below (b_Qc D cy B post) (b_Xc D cy B px) args s mc ms (fun q => B ≤ q) ∧ meth.sig.returnType = ret ∧ meth.locks = false ∧ c.exceptionTable.toList = tab
theorem b_enterW {kn : Nat → Nat} {B : Nat} {y : MethodName} {bytes : ByteArray} {maxL : Nat} {ret : Option FieldType} {hh : List (Nat × Nat × Nat × Nat)} {fr lo mc ms : Nat} {as : List Value} {S : b_M} {z : Nat} {post : Option Value → b_M → Nat → Prop} {px : String → b_M → Nat → Prop} (hy : plainName y.cls = true) (hlen : (lg_sl as).length ≤ maxL)
    (body : ∀ X : b_T, b_X X bytes y.cls fr lo mc ms → b_EndW X ret mc ms post px (tableOf hh) → b_n X = maxL → b_kn X = kn → b_B X = B → b_V X S z 0 0 0 (lv_args 0 as) []) : b_CW kn B y bytes maxL ret hh fr lo mc ms as S z post px := by
  intro l D cy hl
  refine vx_ofWH (cc := bytes) (maxL := maxL) (ret := ret) (hh := hh) (ws := b_WW y bytes maxL ret hh) hy rfl ?_
  intro p e s m args below meth c s₁ Bd hml hP
  obtain ⟨rfl, hR, hG⟩ := hP
  have hts := atoms_spec (ws := b_WW y bytes maxL ret hh) Bd.pre
  have hown : s.vm.findClass y.cls = some m.cls := findClass_of_methodNamed Bd.named
  have htab := vx_table (x := y) Bd (hts _ List.mem_cons_self)
  have h1 := body (p, l, e, { frames := fr, cells := mc, slots := ms, locals := lo }, s, m, as.toArray, below, meth, c, vx_MQ below (b_Qc D cy B post) (b_Xc D cy B px) as.toArray s mc ms (fun q => B ≤ q), D, cy, kn, B, maxL)
    ⟨Bd.exec, Bd.bytes, hml, hown, fun w hw => hts w (List.mem_cons_of_mem _ hw), hG, rfl, hl⟩ ⟨rfl, Bd.returns, Bd.notSynchronized, htab⟩ rfl rfl rfl
  rw [lg_entry_eq]
  exact h1 s.heap [] _ hR va_S.rf (lv_entry as hlen)
section BWRAP
variable {X : b_T} {cc : ByteArray} {own : String} {fr lo mc ms : Nat} {S : b_M} {z ce sl pc : Nat} {lv : List (Nat × Value)} {st : List Value}
variable {post : Option Value → b_M → Nat → Prop} {px : String → b_M → Nat → Prop}
theorem v_ireturnW (hX : b_X X cc own fr lo mc ms) {v : Int32} {tab : List ExceptionTableEntry} (hE : b_EndW X (some .int) mc ms post px tab) (d : decode cc pc = .ok (.ireturn, 1)) (hc : ce ≤ mc) (hs : sl ≤ ms) (hp : post (some (.int v)) S z) : b_V X S z ce sl pc lv [.int v] := by
  obtain ⟨p, l, e, R, s, m, args, below, meth, c, Q, D, cy, kn, B, nL⟩ := X
  intro H locs ls hR hS hl
  obtain ⟨rfl, hr, hlocks, htb⟩ := hE
  refine vx_ret (W.widen hc hs ?_)
  exact W.iret hX.1 hX.2.1 hr (fun t ht hW => ⟨(some (.int v)), S, z, rfl, hp, by rw [ht]; exact hR, hS.F ht⟩) hS.2.2 d
/-- the frame at pc, with an object of the class E thrown over it -/
def b_VX (X : b_T) (E : String) (S : b_M) (z ce sl pc : Nat) (lv : List (Nat × Value)) (st : List Value) (q : Nat) : Prop := match X with
  | (p, l, e, R, s, m, args, below, meth, c, Q, D, cy, kn, B, nL) => ∀ (H : Heap) (locs : List Loc) (ls : Array Slot) (cell : Cell), b_R D cy B S z H → va_S (fun q => B ≤ q) s.heap H locs → lv_has ls nL lv → H[q]? = some cell → cell.vm = .none → s.vm.findClass E = some cell.cls → vx_W p l e R s m args below meth c H locs ce sl Q (F0 m pc ls st) q
theorem v_catch (hX : b_X X cc own fr lo mc ms) {ret : Option FieldType} {tab : List ExceptionTableEntry} (hE : b_EndW X ret mc ms post px tab) {E name : String} {q : Nat} (pre : List ExceptionTableEntry) (x : ExceptionTableEntry) (suf : List ExceptionTableEntry) (hsplit : tab = pre ++ x :: suf) (hpass : ∀ y ∈ pre, covers y pc = true ∧ y.catchType ≠ 0 ∧ ∃ nm : String, Cond.classLink own y.catchType nm ∈ b_Ws ∧ (E, nm) ∈ b_Nc) (hx : covers x pc = true) (h0 : x.catchType ≠ 0) (hlink : Cond.classLink own x.catchType name ∈ b_Ws) (hcast : (E, name) ∈ b_Cast) (kk : b_V X S z ce sl x.handlerPc lv [.ref q]) : b_VX X E S z ce sl pc lv st q := by
  obtain ⟨p, l, e, R, s, m, args, below, meth, c, Q, D, cy, kn, B, nL⟩ := X
  intro H locs ls cell hR hS hl hcell hv hcl
  obtain ⟨hx0, hb, hml, hown, hts, hG, hR0, hst0⟩ := hX
  obtain ⟨rfl, hr, hlocks, htb⟩ := hE
  exact b_catch hown pre x suf (htb.trans hsplit) (fun y hy => by
    obtain ⟨a1, a2, nm, a3, a4⟩ := hpass y hy
    exact ⟨a1, a2, nm, hts _ a3, hG.2.2.2.2.2.2.2.2 _ a4⟩) hx h0 (hts _ hlink) (va_Nw.use rfl (hG.2.2.2.2.1 _ hcast)) hcell hv hcl (kk H locs ls hR hS hl)
theorem v_callVX (hX : b_X X cc own fr lo mc ms) {y : MethodName} {bytes : ByteArray} {maxL : Nat} {ret : Option FieldType} {fr1 lo1 mc1 ms1 a ci idx n : Nat} {As : List Value} {Tf : u_T} {N : Nat} (hM : b_C (b_kn X) (b_B X) y bytes maxL ret fr1 lo1 mc1 ms1 (.ref a :: As) S z post px) (hk : m_K S a = ci) (hc : vwCl[ci]? = some (y.cls, Tf, N)) (hci : ci < 12)
    (w1 : Cond.methodLink own idx y ∈ b_Ws) (w2 : Cond.instanceMethod y ∈ b_Ws) (w3 : Cond.selects y.cls y y ∈ b_Ws) (w4 : Cond.initialized y.cls ∈ b_Ws) (w5 : Cond.code y bytes maxL ret ∈ b_Ws)
    (hd : y.cls ≠ "java/lang/invoke/MethodHandle" ∧ y.cls ≠ "java/lang/invoke/VarHandle" ∧ (parseMethodDescriptor y.desc).map (fun d => d.parameters.length) = some n) (hn : As.length = n) (hroom : fr1 + 1 ≤ fr ∧ 8 + (maxL + 11) + lo1 ≤ lo) (hf : ce + mc1 ≤ mc ∧ sl + ms1 ≤ ms) (hW : (st.map fun v => v.category).sum ≤ 8) {st0 : List Value} (hst : st0 = As.reverse ++ .ref a :: st) (d : decode cc pc = .ok (.invokevirtual idx, 3))
    (kx : ∀ E S z q, px E S z → b_VX X E S z (ce + mc1) (sl + ms1) pc lv st q) (kk : ∀ r S z, post r S z → b_V X S z (ce + mc1) (sl + ms1) (pc + 3) lv (r.toList ++ st)) : b_V X S z ce sl pc lv st0 := by
  obtain ⟨p, l, e, R, s, m, args, below, meth, c, Q, D, cy, kn, B, nL⟩ := X
  intro H locs ls hR hS hl
  obtain ⟨hx, hb, hml, hown, hts, hG, hR0, hst0⟩ := hX
  subst hR0
  have hw : ∀ w ∈ wsV own idx y.cls y (b_W y bytes maxL ret), w ∈ b_Ws ∧ ((w.onTables && w.keeps) = true ∨ ∃ ty, w = .arrayClass ty) := fun w h => by
    have h9 : w ∈ b_Ws := by
      unfold wsV at h
      simp only [List.mem_append, List.mem_cons, List.not_mem_nil, or_false] at h
      rcases h with (h | h | h | h) | h | h
      · rw [h]; exact w1
      · rw [h]; exact w2
      · rw [h]; exact w3
      · rw [h]; exact w4
      · rw [h]; exact w5
      · exact h
    exact ⟨h9, good_of_word (List.mem_filter.mp h9).2⟩
  refine b_call (vx_runV (As := As) (rest := st) (g := F0 m pc ls st0) ⟨hx, hb, hml, hown, hts⟩ (hM l D cy hst0) (cwV n hts hw rfl rfl rfl ⟨rfl, hd⟩ hroom) ⟨b_blind, b_recv hG.1 hR hk hci hc, fun U hU hWm => ⟨rfl, by rw [hU]; exact hR, hG.at hS hU hWm⟩⟩ rfl hn hl.1 hst (lv_room hW) d hf) hS ?_ ?_
  · intro r S1 z1 H1 locs1 hp hR1 hS1
    exact kk r S1 z1 hp H1 locs1 ls hR1 hS1 hl
  · intro E S1 z1 q ce1 H1 locs1 hp hR1 hS1 hcell hv hcl
    exact kx E S1 z1 q hp H1 locs1 ls ce1 hR1 hS1 hl hcell hv hcl
/-- a static call of a method with a table, that does not throw -/
theorem v_callSW (hX : b_X X cc own fr lo mc ms) {y : MethodName} {bytes : ByteArray} {maxL : Nat} {ret : Option FieldType} {hh : List (Nat × Nat × Nat × Nat)} {fr1 lo1 mc1 ms1 idx n : Nat} {As : List Value} (hM : b_CW (b_kn X) (b_B X) y bytes maxL ret hh fr1 lo1 mc1 ms1 As S z post px)
    (w1 : Cond.methodLink own idx y ∈ b_Ws) (w2 : Cond.static y ∈ b_Ws) (w4 : Cond.initialized y.cls ∈ b_Ws) (w5 : Cond.codeWith y bytes maxL ret hh ∈ b_Ws)
    (hd : y.cls ≠ "java/lang/invoke/MethodHandle" ∧ y.cls ≠ "java/lang/invoke/VarHandle" ∧ (parseMethodDescriptor y.desc).map (fun d => d.parameters.length) = some n) (hn : As.length = n) (hroom : fr1 + 1 ≤ fr ∧ 8 + (maxL + 11) + lo1 ≤ lo) (hf : ce + mc1 ≤ mc ∧ sl + ms1 ≤ ms) (hW : (st.map fun v => v.category).sum ≤ 8) {st0 : List Value} (hst : st0 = As.reverse ++ st) (d : decode cc pc = .ok (.invokestatic idx, 3))
    (kx : ∀ E S z, px E S z → False) (kk : ∀ r S z, post r S z → b_V X S z (ce + mc1) (sl + ms1) (pc + 3) lv (r.toList ++ st)) : b_V X S z ce sl pc lv st0 := by
  obtain ⟨p, l, e, R, s, m, args, below, meth, c, Q, D, cy, kn, B, nL⟩ := X
  intro H locs ls hR hS hl
  obtain ⟨hx, hb, hml, hown, hts, hG, hR0, hst0⟩ := hX
  subst hR0
  have hw : ∀ w ∈ va_wsS own idx y (b_WW y bytes maxL ret hh), w ∈ b_Ws ∧ ((w.onTables && w.keeps) = true ∨ ∃ ty, w = .arrayClass ty) := fun w h => by
    have h9 : w ∈ b_Ws := by
      unfold va_wsS at h
      simp only [List.mem_append, List.mem_cons, List.not_mem_nil, or_false] at h
      rcases h with (h | h | h) | h | h
      · rw [h]; exact w1
      · rw [h]; exact w2
      · rw [h]; exact w4
      · rw [h]; exact w5
      · exact h
    exact ⟨h9, good_of_word (List.mem_filter.mp h9).2⟩
  refine b_call (vx_runSX (As := As) (rest := st) (g := F0 m pc ls st0) ⟨hx, hb, hml, hown, hts⟩ (hM l D cy hst0) (vx_cwSW n hts hw rfl rfl rfl hd hroom) ⟨b_blind, fun U hU hWm => ⟨rfl, by rw [hU]; exact hR, hG.at hS hU hWm⟩⟩ rfl hn hl.1 hst (lv_room hW) d hf) hS ?_ ?_
  · intro r S1 z1 H1 locs1 hp hR1 hS1
    exact kk r S1 z1 hp H1 locs1 ls hR1 hS1 hl
  · intro E S1 z1 q ce1 H1 locs1 hp
    exact (kx E S1 z1 hp).elim
end BWRAP
