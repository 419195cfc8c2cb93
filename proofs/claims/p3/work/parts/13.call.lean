/-! ===== contracts, calls and ends ===== -/
abbrev b_W (y : MethodName) (bytes : ByteArray) (maxL : Nat) (ret : Option FieldType) : List Cond := Cond.code y bytes maxL ret :: b_Ws
def b_Pc (kn : Nat → Nat) (D : va_G) (cy : Nat → ClassId) (B : Nat) (as : List Value) (S : b_M) (z : Nat) : Array Value → State → Prop := fun v U => v = as.toArray ∧ b_R D cy B S z U.heap ∧ b_G kn D cy B U
def b_Qc (D : va_G) (cy : Nat → ClassId) (B : Nat) (post : Option Value → b_M → Nat → Prop) : Array Value → State → Outcome → State → Prop := fun _ st oc t => ∃ r S z, oc = .returned r ∧ post r S z ∧ b_R D cy B S z t.heap ∧ va_F (fun q => B ≤ q) st t
def b_Xc (D : va_G) (cy : Nat → ClassId) (B : Nat) (px : String → b_M → Nat → Prop) : String → State → State → Prop := fun E st t => ∃ S z, px E S z ∧ b_R D cy B S z t.heap ∧ va_F (fun q => B ≤ q) st t
/-- a method's contract at a memory: it returns with post, or throws with px -/
def b_C (kn : Nat → Nat) (B : Nat) (y : MethodName) (bytes : ByteArray) (maxL : Nat) (ret : Option FieldType) (fr lo mc ms : Nat) (as : List Value) (S : b_M) (z : Nat) (post : Option Value → b_M → Nat → Prop) (px : String → b_M → Nat → Prop) : Prop :=
  ∀ (l : Launch) (D : va_G) (cy : Nat → ClassId), l.stackTraces = false → vx_Met l y (b_W y bytes maxL ret) { frames := fr, cells := mc, slots := ms, locals := lo } (b_Pc kn D cy B as S z) (b_Qc D cy B post) (b_Xc D cy B px) mc ms (fun q => B ≤ q)
def b_kn (X : b_T) : Nat → Nat := X.2.2.2.2.2.2.2.2.2.2.2.2.2.1
def b_B (X : b_T) : Nat := X.2.2.2.2.2.2.2.2.2.2.2.2.2.2.1
/-- how the method under way ends -/
def b_End (X : b_T) (ret : Option FieldType) (mc ms : Nat) (post : Option Value → b_M → Nat → Prop) (px : String → b_M → Nat → Prop) : Prop := match X with
  | (p, l, e, R, s, m, args, below, meth, c, Q, D, cy, kn, B, nL) => Q = vx_MQ below (b_Qc D cy B post) (b_Xc D cy B px) args s mc ms (fun q => B ≤ q) ∧ meth.sig.returnType = ret ∧ meth.locks = false ∧ ∀ x ∈ c.exceptionTable.toList, False
/-- the way in -/
theorem b_enter {kn : Nat → Nat} {B : Nat} {y : MethodName} {bytes : ByteArray} {maxL : Nat} {ret : Option FieldType} {fr lo mc ms : Nat} {as : List Value} {S : b_M} {z : Nat} {post : Option Value → b_M → Nat → Prop} {px : String → b_M → Nat → Prop} (hy : plainName y.cls = true) (hlen : (lg_sl as).length ≤ maxL)
    (body : ∀ X : b_T, b_X X bytes y.cls fr lo mc ms → b_End X ret mc ms post px → b_n X = maxL → b_kn X = kn → b_B X = B → (y.name = "<init>" → b_I X) → b_V X S z 0 0 0 (lv_args 0 as) []) : b_C kn B y bytes maxL ret fr lo mc ms as S z post px := by
  intro l D cy hl
  refine vx_ofW (cc := bytes) (maxL := maxL) (ret := ret) (ws := b_W y bytes maxL ret) hy rfl ?_
  intro p e s m args below meth c s₁ Bd hml ht hP
  obtain ⟨rfl, hR, hG⟩ := hP
  have hts := atoms_spec (ws := b_W y bytes maxL ret) Bd.pre
  have hown : s.vm.findClass y.cls = some m.cls := findClass_of_methodNamed Bd.named
  have h1 := body (p, l, e, { frames := fr, cells := mc, slots := ms, locals := lo }, s, m, as.toArray, below, meth, c, vx_MQ below (b_Qc D cy B post) (b_Xc D cy B px) as.toArray s mc ms (fun q => B ≤ q), D, cy, kn, B, maxL)
    ⟨Bd.exec, Bd.bytes, hml, hown, fun w hw => hts w (List.mem_cons_of_mem _ hw), hG, rfl, hl⟩ ⟨rfl, Bd.returns, Bd.notSynchronized, ht⟩ rfl rfl rfl (fun hn => (name_of_methodNamed Bd.named Bd.method).1.trans hn)
  rw [lg_entry_eq]
  exact h1 s.heap [] _ hR va_S.rf (lv_entry as hlen)
theorem b_C.mono {kn : Nat → Nat} {B : Nat} {y : MethodName} {bytes : ByteArray} {maxL : Nat} {ret : Option FieldType} {fr lo mc ms : Nat} {as : List Value} {S : b_M} {z : Nat} {post post' : Option Value → b_M → Nat → Prop} {px px' : String → b_M → Nat → Prop} (h : b_C kn B y bytes maxL ret fr lo mc ms as S z post px) (h1 : ∀ r S z, post r S z → post' r S z) (h2 : ∀ E S z, px E S z → px' E S z) : b_C kn B y bytes maxL ret fr lo mc ms as S z post' px' := fun l D cy hl =>
  MetFree.mono (h l D cy hl) (fun _ _ h => h) (fun _ _ _ _ _ h => h) (fun a s o t _ hq => by
    rcases hq with ⟨⟨r, S1, z1, a1, a2, a3, a4⟩, a5⟩ | ⟨q, a1, E, ce, L, ⟨S1, z1, a2, a3, a4⟩, a5⟩
    · exact Or.inl ⟨⟨r, S1, z1, a1, h1 _ _ _ a2, a3, a4⟩, a5⟩
    · exact Or.inr ⟨q, a1, E, ce, L, ⟨S1, z1, h2 _ _ _ a2, a3, a4⟩, a5⟩)
section BCALL
variable {X : b_T} {cc : ByteArray} {own : String} {fr lo mc ms : Nat} {S : b_M} {z ce sl pc : Nat} {lv : List (Nat × Value)} {st : List Value}
variable {post : Option Value → b_M → Nat → Prop} {px : String → b_M → Nat → Prop}
theorem v_ireturn (hX : b_X X cc own fr lo mc ms) {v : Int32} (hE : b_End X (some .int) mc ms post px) (d : decode cc pc = .ok (.ireturn, 1)) (hc : ce ≤ mc) (hs : sl ≤ ms) (hp : post (some (.int v)) S z) : b_V X S z ce sl pc lv [.int v] := by
  obtain ⟨p, l, e, R, s, m, args, below, meth, c, Q, D, cy, kn, B, nL⟩ := X
  intro H locs ls hR hS hl
  obtain ⟨rfl, hr, hlocks, htb⟩ := hE
  refine vx_ret (W.widen hc hs ?_)
  exact W.iret hX.1 hX.2.1 hr (fun t ht hW => ⟨(some (.int v)), S, z, rfl, hp, by rw [ht]; exact hR, hS.F ht⟩) hS.2.2 d
theorem v_zreturn (hX : b_X X cc own fr lo mc ms) {v : Int32} {ty : FieldType} (hn : narrow ty (.int v) = .int v) (hE : b_End X (some ty) mc ms post px) (d : decode cc pc = .ok (.ireturn, 1)) (hc : ce ≤ mc) (hs : sl ≤ ms) (hp : post (some (.int v)) S z) : b_V X S z ce sl pc lv [.int v] := by
  obtain ⟨p, l, e, R, s, m, args, below, meth, c, Q, D, cy, kn, B, nL⟩ := X
  intro H locs ls hR hS hl
  obtain ⟨rfl, hr, hlocks, htb⟩ := hE
  refine vx_ret (W.widen hc hs ?_)
  exact W.zret hX.1 hX.2.1 hr hn (fun t ht hW => ⟨(some (.int v)), S, z, rfl, hp, by rw [ht]; exact hR, hS.F ht⟩) hS.2.2 d
theorem v_lreturn (hX : b_X X cc own fr lo mc ms) {v : Int64} (hE : b_End X (some .long) mc ms post px) (d : decode cc pc = .ok (.lreturn, 1)) (hc : ce ≤ mc) (hs : sl ≤ ms) (hp : post (some (.long v)) S z) : b_V X S z ce sl pc lv [.long v] := by
  obtain ⟨p, l, e, R, s, m, args, below, meth, c, Q, D, cy, kn, B, nL⟩ := X
  intro H locs ls hR hS hl
  obtain ⟨rfl, hr, hlocks, htb⟩ := hE
  refine vx_ret (W.widen hc hs ?_)
  exact W.lret hX.1 hX.2.1 hr (fun t ht hW => ⟨(some (.long v)), S, z, rfl, hp, by rw [ht]; exact hR, hS.F ht⟩) hS.2.2 d
theorem v_return (hX : b_X X cc own fr lo mc ms) (hE : b_End X (none) mc ms post px) (d : decode cc pc = .ok (.return_, 1)) (hc : ce ≤ mc) (hs : sl ≤ ms) (hp : post none S z) : b_V X S z ce sl pc lv [] := by
  obtain ⟨p, l, e, R, s, m, args, below, meth, c, Q, D, cy, kn, B, nL⟩ := X
  intro H locs ls hR hS hl
  obtain ⟨rfl, hr, hlocks, htb⟩ := hE
  refine vx_ret (W.widen hc hs ?_)
  exact W.vret hX.1 hX.2.1 hr (fun t ht hW => ⟨none, S, z, rfl, hp, by rw [ht]; exact hR, hS.F ht⟩) hS.2.2 d
theorem v_areturn (hX : b_X X cc own fr lo mc ms) {v : Nat} {rt : FieldType} (hrt : (∃ n, rt = .object n) ∨ ∃ t, rt = .array t) (hE : b_End X (some rt) mc ms post px) (d : decode cc pc = .ok (.areturn, 1)) (hc : ce ≤ mc) (hs : sl ≤ ms) (hp : post (some (.ref v)) S z) : b_V X S z ce sl pc lv [.ref v] := by
  obtain ⟨p, l, e, R, s, m, args, below, meth, c, Q, D, cy, kn, B, nL⟩ := X
  intro H locs ls hR hS hl
  obtain ⟨rfl, hr, hlocks, htb⟩ := hE
  refine vx_ret (W.widen hc hs ?_)
  exact W.aret hX.1 hX.2.1 hr hrt (Or.inr ⟨_, rfl⟩) (fun t ht hW => ⟨(some (.ref v)), S, z, rfl, hp, by rw [ht]; exact hR, hS.F ht⟩) hS.2.2 d
/-- behind a call -/
theorem b_call {p : Program} {l : Launch} {e : Env} {R : Room} {s : State} {m : MethodId} {args : Array Value} {below : List Frame} {meth : Method} {c : Code} {H : Heap} {locs : List Loc} {cells slots mc1 ms1 : Nat} {Q : State → Prop} {D : va_G} {cy : Nat → ClassId} {B : Nat} {a : Array Value} {ls : Array Slot} {st0 rest : List Value}
    (hr : vx_Run p l e R s m args below meth c H locs cells slots mc1 ms1 (F0 m pc ls st0) rest (b_Qc D cy B post a) (b_Xc D cy B px) (fun q => B ≤ q)) (hS : va_S (fun q => B ≤ q) s.heap H locs)
    (kk : ∀ (r : Option Value) (S : b_M) (z : Nat) (H1 : Heap) (locs1 : List Loc), post r S z → b_R D cy B S z H1 → va_S (fun q => B ≤ q) s.heap H1 locs1 → W p l e R s m args below meth c H1 locs1 (cells + mc1) (slots + ms1) Q (F0 m (pc + 3) ls (r.toList ++ rest)))
    (kx : ∀ (E : String) (S : b_M) (z : Nat) (q : Addr) (ce : Cell) (H1 : Heap) (locs1 : List Loc), px E S z → b_R D cy B S z H1 → va_S (fun q => B ≤ q) s.heap H1 locs1 → H1[q]? = some ce → ce.vm = .none → s.vm.findClass E = some ce.cls → vx_W p l e R s m args below meth c H1 locs1 (cells + mc1) (slots + ms1) Q (F0 m pc ls rest) q) :
    W p l e R s m args below meth c H locs cells slots Q (F0 m pc ls st0) := by
  intro T hT X
  rcases hr T hT X with ⟨v, st₀, t, T', L, h0, X', hL, e1, e2, ⟨r, S1, z1, hv, hp, hb, hF⟩, st⟩ | ⟨q, st₀, t, T', L, E, ce, h0, X', hL, e1, e2, ⟨S1, z1, hp, hb, hF⟩, hce, hcv, hcl, st⟩
  · have hv : v = r := Outcome.returned.inj hv
    subst hv
    obtain ⟨-, -, k3⟩ := vx_keep h0 e1 hS (fun _ _ h => h) (fun _ h => h) hL hF
    obtain ⟨t2, a1, b1⟩ := kk v S1 z1 T'.heap (locs ++ L) hp (by rw [e1]; exact hb) k3 T' rfl X'
    exact ⟨t2, st t2 a1, b1⟩
  · obtain ⟨-, -, k3⟩ := vx_keep h0 e1 hS (fun _ _ h => h) (fun _ h => h) hL hF
    obtain ⟨t2, a1, b1⟩ := kx E S1 z1 q ce T'.heap (locs ++ L) hp (by rw [e1]; exact hb) k3 (by rw [e1]; exact hce) hcv hcl T' rfl X'
    exact ⟨t2, st.trans a1, b1⟩
theorem b_blind {kn : Nat → Nat} {D : va_G} {cy : Nat → ClassId} {B : Nat} {as : List Value} {S : b_M} {z : Nat} : FrameBlind (b_Pc kn D cy B as S z) := fun a U g mk h => ⟨h.1, h.2.1, b_G.moved (u := U) (U := U.calling g mk a) (State.WarmedH.refl U) (Nat.le_refl _) (fun _ _ _ => rfl) h.2.2⟩
theorem b_goodIn {y : MethodName} {bytes : ByteArray} {maxL : Nat} {ret : Option FieldType} (h : Cond.code y bytes maxL ret ∈ b_Ws) : GoodIn b_Ws (b_W y bytes maxL ret) := by
  intro w hw
  have h9 : w ∈ b_Ws := (List.mem_cons.mp hw).elim (fun e => by rw [e]; exact h) id
  exact ⟨h9, good_of_word (List.mem_filter.mp h9).2⟩
theorem b_G.at {kn : Nat → Nat} {D : va_G} {cy : Nat → ClassId} {B : Nat} {s U : State} {H : Heap} {locs : List Loc} (hG : b_G kn D cy B s) (hS : va_S (fun q => B ≤ q) s.heap H locs) (hU : U.heap = H) (hW : s.WarmedH U.vm) : b_G kn D cy B U := b_G.moved hW (by rw [hU]; exact hS.1) (fun q h1 h2 => by rw [hU]; exact hS.2.1 q h1 h2) hG
/-- an object of a known kind as a receiver -/
theorem b_recv {D : va_G} {cy : Nat → ClassId} {B : Nat} {S : b_M} {z : Nat} {H : Heap} {s : State} {tys : List (ClassId × FieldType)} {a ci : Nat} {C : String} {Tf : u_T} {N : Nat} (hK : va_K D vwCl tys s) (hR : b_R D cy B S z H) (hk : m_K S a = ci) (hci : ci < 12) (hc : vwCl[ci]? = some (C, Tf, N)) : ∃ cell : Cell, H[a]? = some cell ∧ cell.vm.isStatics = false ∧ s.vm.findClass C = some cell.cls := by
  obtain ⟨-, h1, -⟩ := hR.2 a (by rw [hk]; omega)
  have h1 := h1 (by rw [hk]; exact hci)
  rw [hk] at h1
  obtain ⟨cell, q1, q2, q3, q4⟩ := h1
  exact ⟨cell, q1, by rw [q3]; rfl, by rw [q2]; exact (hK.1 ci _ hc).2.1⟩
/-- invokevirtual of a method of the receiver's own kind, that does not throw -/
theorem v_callV (hX : b_X X cc own fr lo mc ms) {y : MethodName} {bytes : ByteArray} {maxL : Nat} {ret : Option FieldType} {fr1 lo1 mc1 ms1 a ci idx n : Nat} {As : List Value} {Tf : u_T} {N : Nat} (hM : b_C (b_kn X) (b_B X) y bytes maxL ret fr1 lo1 mc1 ms1 (.ref a :: As) S z post px) (hk : m_K S a = ci) (hc : vwCl[ci]? = some (y.cls, Tf, N)) (hci : ci < 12)
    (w1 : Cond.methodLink own idx y ∈ b_Ws) (w2 : Cond.instanceMethod y ∈ b_Ws) (w3 : Cond.selects y.cls y y ∈ b_Ws) (w4 : Cond.initialized y.cls ∈ b_Ws) (w5 : Cond.code y bytes maxL ret ∈ b_Ws)
    (hd : y.cls ≠ "java/lang/invoke/MethodHandle" ∧ y.cls ≠ "java/lang/invoke/VarHandle" ∧ (parseMethodDescriptor y.desc).map (fun d => d.parameters.length) = some n) (hn : As.length = n) (hroom : fr1 + 1 ≤ fr ∧ 8 + (maxL + 11) + lo1 ≤ lo) (hf : ce + mc1 ≤ mc ∧ sl + ms1 ≤ ms) (hW : (st.map fun v => v.category).sum ≤ 8) {st0 : List Value} (hst : st0 = As.reverse ++ .ref a :: st) (d : decode cc pc = .ok (.invokevirtual idx, 3))
    (kx : ∀ E S z, px E S z → False) (kk : ∀ r S z, post r S z → b_V X S z (ce + mc1) (sl + ms1) (pc + 3) lv (r.toList ++ st)) : b_V X S z ce sl pc lv st0 := by
  obtain ⟨p, l, e, R, s, m, args, below, meth, c, Q, D, cy, kn, B, nL⟩ := X
  intro H locs ls hR hS hl
  obtain ⟨hx, hb, hml, hown, hts, hG, hR0, hst0⟩ := hX
  subst hR0
  have hw : ∀ w ∈ wsV own idx y.cls y (b_W y bytes maxL ret), w ∈ b_Ws ∧ ((w.onTables && w.keeps) = true ∨ ∃ ty, w = .arrayClass ty) := fun w h => by
    have h9 : w ∈ b_Ws := by
      unfold wsV at h
      simp only [List.mem_append, List.mem_cons, List.not_mem_nil, or_false] at h
      rcases h with (h | h | h | h) | h | h
      · rw [h]; exact w1
      · rw [h]; exact w2
      · rw [h]; exact w3
      · rw [h]; exact w4
      · rw [h]; exact w5
      · exact h
    exact ⟨h9, good_of_word (List.mem_filter.mp h9).2⟩
  refine b_call (vx_runV (As := As) (rest := st) (g := F0 m pc ls st0) ⟨hx, hb, hml, hown, hts⟩ (hM l D cy hst0) (cwV n hts hw rfl rfl rfl ⟨rfl, hd⟩ hroom) ⟨b_blind, b_recv hG.1 hR hk hci hc, fun U hU hWm => ⟨rfl, by rw [hU]; exact hR, hG.at hS hU hWm⟩⟩ rfl hn hl.1 hst (lv_room hW) d hf) hS ?_ ?_
  · intro r S1 z1 H1 locs1 hp hR1 hS1
    exact kk r S1 z1 hp H1 locs1 ls hR1 hS1 hl
  · intro E S1 z1 q ce1 H1 locs1 hp
    exact (kx E S1 z1 hp).elim
end BCALL
