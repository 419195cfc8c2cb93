section BEN
variable {X : b_T} {cc : ByteArray} {own : String} {fr lo mc ms : Nat} {S : b_M} {z ce sl pc : Nat} {lv : List (Nat × Value)} {st : List Value}
variable {post : Option Value → b_M → Nat → Prop} {px : String → b_M → Nat → Prop}
theorem v_getsK (hX : b_X X cc own fr lo mc ms) {i idx : Nat} {nm : String} (hi : i < 17) (hn : b_on.getD i "" = nm) (hlink : Cond.fieldLink own idx "AssembleLines$Operation" nm "LAssembleLines$Operation;" ∈ b_Ws) (d : decode cc pc = .ok (.getstatic idx, 3)) (kk : b_V X S z ce sl (pc + 3) lv (.ref (b_kn X i) :: st)) : b_V X S z ce sl pc lv st := by
  obtain ⟨p, l, e, R, s, m, args, below, meth, c, Q, D, cy, kn, B, nL⟩ := X
  intro H locs ls hR hS hl
  obtain ⟨hx, hb, hml, hown, hts, ⟨hK, hB, hZ⟩, hR0, hst0⟩ := hX
  subst hn
  exact va_gets hx hb (hZ.1.2.2.2.1 i hi).1 hS hown (hts _ hlink) (fun _ h9 => h9) d (kk H locs ls hR hS hl)
theorem v_getsA (hX : b_X X cc own fr lo mc ms) {idx : Nat} (hlink : Cond.fieldLink own idx "AssembleLines$Operation" "ALL" "[LAssembleLines$Operation;" ∈ b_Ws) (d : decode cc pc = .ok (.getstatic idx, 3)) (kk : b_V X S z ce sl (pc + 3) lv (.ref (b_kn X 17) :: st)) : b_V X S z ce sl pc lv st := by
  obtain ⟨p, l, e, R, s, m, args, below, meth, c, Q, D, cy, kn, B, nL⟩ := X
  intro H locs ls hR hS hl
  obtain ⟨hx, hb, hml, hown, hts, ⟨hK, hB, hZ⟩, hR0, hst0⟩ := hX
  exact va_gets hx hb hZ.1.2.2.2.2.1 hS hown (hts _ hlink) (fun _ h9 => h9) d (kk H locs ls hR hS hl)
theorem v_getsW (hX : b_X X cc own fr lo mc ms) {idx : Nat} (hlink : Cond.fieldLink own idx "AssembleLines$1" "$SwitchMap$AssembleLines$Operation" "[I" ∈ b_Ws) (d : decode cc pc = .ok (.getstatic idx, 3)) (kk : b_V X S z ce sl (pc + 3) lv (.ref (b_kn X 18) :: st)) : b_V X S z ce sl pc lv st := by
  obtain ⟨p, l, e, R, s, m, args, below, meth, c, Q, D, cy, kn, B, nL⟩ := X
  intro H locs ls hR hS hl
  obtain ⟨hx, hb, hml, hown, hts, ⟨hK, hB, hZ⟩, hR0, hst0⟩ := hX
  exact va_gets hx hb hZ.1.2.2.2.2.2.2.1 hS hown (hts _ hlink) (fun _ h9 => h9) d (kk H locs ls hR hS hl)
theorem v_getsC (hX : b_X X cc own fr lo mc ms) {idx : Nat} (hlink : Cond.fieldLink own idx "java/lang/String" "COMPACT_STRINGS" "Z" ∈ b_Ws) (d : decode cc pc = .ok (.getstatic idx, 3)) (kk : b_V X S z ce sl (pc + 3) lv (.int 1 :: st)) : b_V X S z ce sl pc lv st := by
  obtain ⟨p, l, e, R, s, m, args, below, meth, c, Q, D, cy, kn, B, nL⟩ := X
  intro H locs ls hR hS hl
  obtain ⟨hx, hb, hml, hown, hts, ⟨hK, hB, hZ⟩, hR0, hst0⟩ := hX
  exact va_gets hx hb hZ.1.2.2.2.2.2.2.2.2.1 hS hown (hts _ hlink) (fun _ h9 => h9) d (kk H locs ls hR hS hl)
theorem v_getsQ (hX : b_X X cc own fr lo mc ms) {idx : Nat} (hlink : Cond.fieldLink own idx "jdk/internal/util/Preconditions" "SIOOBE_FORMATTER" "Ljava/util/function/BiFunction;" ∈ b_Ws) (d : decode cc pc = .ok (.getstatic idx, 3)) (kk : ∀ r : Option Nat, b_V X S z ce sl (pc + 3) lv (va_rf r :: st)) : b_V X S z ce sl pc lv st := by
  obtain ⟨p, l, e, R, s, m, args, below, meth, c, Q, D, cy, kn, B, nL⟩ := X
  intro H locs ls hR hS hl
  obtain ⟨hx, hb, hml, hown, hts, ⟨hK, hB, hZ⟩, hR0, hst0⟩ := hX
  rcases hZ.1.2.2.2.2.2.2.2.2.2 with h | ⟨t, h⟩
  · exact va_gets hx hb h hS hown (hts _ hlink) (fun _ h9 => h9) d (kk none H locs ls hR hS hl)
  · exact va_gets hx hb h hS hown (hts _ hlink) (fun _ h9 => h9) d (kk (some t) H locs ls hR hS hl)
theorem v_getO (hX : b_X X cc own fr lo mc ms) {i idx : Nat} {q : String × String × String × List Int32} (hi : i < 17) (hq : q ∈ b_oF) (hlink : Cond.fieldLink own idx q.1 q.2.1 q.2.2.1 ∈ b_Ws) (d : decode cc pc = .ok (.getfield idx, 3)) (kk : b_V X S z ce sl (pc + 3) lv (.int (q.2.2.2.getD i 0) :: st)) : b_V X S z ce sl pc lv (.ref (b_kn X i) :: st) := by
  obtain ⟨p, l, e, R, s, m, args, below, meth, c, Q, D, cy, kn, B, nL⟩ := X
  intro H locs ls hR hS hl
  obtain ⟨hx, hb, hml, hown, hts, ⟨hK, hB, hZ⟩, hR0, hst0⟩ := hX
  exact vk_getf hx hb ((hZ.1.2.2.2.1 i hi).2.2.1 q hq) hS hown (hts _ hlink) (fun _ h9 => h9) d (kk H locs ls hR hS hl)
theorem v_getSp (hX : b_X X cc own fr lo mc ms) {i idx : Nat} (hi : i < 17) (hlink : Cond.fieldLink own idx "AssembleLines$Operation" "spelling" "Ljava/lang/String;" ∈ b_Ws) (d : decode cc pc = .ok (.getfield idx, 3)) (kk : b_V X S z ce sl (pc + 3) lv (.ref (b_kn X (20 + i)) :: st)) : b_V X S z ce sl pc lv (.ref (b_kn X i) :: st) := by
  obtain ⟨p, l, e, R, s, m, args, below, meth, c, Q, D, cy, kn, B, nL⟩ := X
  intro H locs ls hR hS hl
  obtain ⟨hx, hb, hml, hown, hts, ⟨hK, hB, hZ⟩, hR0, hst0⟩ := hX
  exact vk_getf hx hb (hZ.1.2.2.2.1 i hi).2.2.2.1 hS hown (hts _ hlink) (fun _ h9 => h9) d (kk H locs ls hR hS hl)
theorem v_getCo (hX : b_X X cc own fr lo mc ms) {i idx : Nat} (hi : i < 17) (hlink : Cond.fieldLink own idx "java/lang/String" "coder" "B" ∈ b_Ws) (d : decode cc pc = .ok (.getfield idx, 3)) (kk : b_V X S z ce sl (pc + 3) lv (.int 0 :: st)) : b_V X S z ce sl pc lv (.ref (b_kn X (20 + i)) :: st) := by
  obtain ⟨p, l, e, R, s, m, args, below, meth, c, Q, D, cy, kn, B, nL⟩ := X
  intro H locs ls hR hS hl
  obtain ⟨hx, hb, hml, hown, hts, ⟨hK, hB, hZ⟩, hR0, hst0⟩ := hX
  exact vk_getf hx hb (hZ.1.2.2.2.1 i hi).2.2.2.2.2.1 hS hown (hts _ hlink) (fun _ h9 => h9) d (kk H locs ls hR hS hl)
theorem v_getVa (hX : b_X X cc own fr lo mc ms) {i idx : Nat} (hi : i < 17) (hlink : Cond.fieldLink own idx "java/lang/String" "value" "[B" ∈ b_Ws) (d : decode cc pc = .ok (.getfield idx, 3)) (kk : b_V X S z ce sl (pc + 3) lv (.ref (b_kn X (40 + i)) :: st)) : b_V X S z ce sl pc lv (.ref (b_kn X (20 + i)) :: st) := by
  obtain ⟨p, l, e, R, s, m, args, below, meth, c, Q, D, cy, kn, B, nL⟩ := X
  intro H locs ls hR hS hl
  obtain ⟨hx, hb, hml, hown, hts, ⟨hK, hB, hZ⟩, hR0, hst0⟩ := hX
  exact vk_getf hx hb (hZ.1.2.2.2.1 i hi).2.2.2.2.2.2.1 hS hown (hts _ hlink) (fun _ h9 => h9) d (kk H locs ls hR hS hl)
theorem v_tlenB (hX : b_X X cc own fr lo mc ms) {i : Nat} (hi : i < 17) (d : decode cc pc = .ok (.arraylength, 1)) (kk : b_V X S z ce sl (pc + 1) lv (.int (nI (b_sl.getD i 0)) :: st)) : b_V X S z ce sl pc lv (.ref (b_kn X (40 + i)) :: st) := by
  obtain ⟨p, l, e, R, s, m, args, below, meth, c, Q, D, cy, kn, B, nL⟩ := X
  intro H locs ls hR hS hl
  obtain ⟨hx, hb, hml, hown, hts, ⟨hK, hB, hZ⟩, hR0, hst0⟩ := hX
  exact va_tlen hx hb (hZ.1.2.2.2.1 i hi).2.2.2.2.2.2.2 hS rfl d (kk H locs ls hR hS hl)
theorem v_tlenA (hX : b_X X cc own fr lo mc ms) (d : decode cc pc = .ok (.arraylength, 1)) (kk : b_V X S z ce sl (pc + 1) lv (.int 17 :: st)) : b_V X S z ce sl pc lv (.ref (b_kn X 17) :: st) := by
  obtain ⟨p, l, e, R, s, m, args, below, meth, c, Q, D, cy, kn, B, nL⟩ := X
  intro H locs ls hR hS hl
  obtain ⟨hx, hb, hml, hown, hts, ⟨hK, hB, hZ⟩, hR0, hst0⟩ := hX
  exact va_tlen hx hb hZ.1.2.2.2.2.2.1 hS rfl d (kk H locs ls hR hS hl)
theorem v_taA (hX : b_X X cc own fr lo mc ms) {i : Int32} {j : Nat} (hin : vp_in i 17) (hj : i.toNatClampNeg = j) (d : decode cc pc = .ok (.aaload, 1)) (kk : b_V X S z ce sl (pc + 1) lv (.ref (b_kn X j) :: st)) : b_V X S z ce sl pc lv (.int i :: .ref (b_kn X 17) :: st) := by
  obtain ⟨p, l, e, R, s, m, args, below, meth, c, Q, D, cy, kn, B, nL⟩ := X
  intro H locs ls hR hS hl
  obtain ⟨hx, hb, hml, hown, hts, ⟨hK, hB, hZ⟩, hR0, hst0⟩ := hX
  subst hj
  exact vb_tq hx hb hZ.1.2.2.2.2.2.1 hS hin rfl d (kk H locs ls hR hS hl)
theorem v_tiW (hX : b_X X cc own fr lo mc ms) {i : Int32} (hin : vp_in i 17) (d : decode cc pc = .ok (.iaload, 1)) (kk : b_V X S z ce sl (pc + 1) lv (.int (b_sw.getD i.toNatClampNeg 0) :: st)) : b_V X S z ce sl pc lv (.int i :: .ref (b_kn X 18) :: st) := by
  obtain ⟨p, l, e, R, s, m, args, below, meth, c, Q, D, cy, kn, B, nL⟩ := X
  intro H locs ls hR hS hl
  obtain ⟨hx, hb, hml, hown, hts, ⟨hK, hB, hZ⟩, hR0, hst0⟩ := hX
  exact va_ti hx hb hZ.1.2.2.2.2.2.2.2.1 hS hin rfl d (kk H locs ls hR hS hl)
theorem v_tbB (hX : b_X X cc own fr lo mc ms) {k : Nat} {i : Int32} (hk : k < 17) (hin : vp_in i (b_sl.getD k 0)) (d : decode cc pc = .ok (.baload, 1)) (kk : b_V X S z ce sl (pc + 1) lv (.int ((b_sb.getD k []).getD i.toNatClampNeg 0) :: st)) : b_V X S z ce sl pc lv (.int i :: .ref (b_kn X (40 + k)) :: st) := by
  obtain ⟨p, l, e, R, s, m, args, below, meth, c, Q, D, cy, kn, B, nL⟩ := X
  intro H locs ls hR hS hl
  obtain ⟨hx, hb, hml, hown, hts, ⟨hK, hB, hZ⟩, hR0, hst0⟩ := hX
  exact va_tb hx hb (hZ.1.2.2.2.1 k hk).2.2.2.2.2.2.2 hS hin rfl d (kk H locs ls hR hS hl)
theorem v_acmp_eq (hX : b_X X cc own fr lo mc ms) {a b : Nat} {off : Int} {tgt : Nat} (d : decode cc pc = .ok (.if_acmp .eq off, 3)) (ht : (pc : Int) + off = (tgt : Int)) (kt : a = b → b_V X S z ce sl tgt lv st) (kf : a ≠ b → b_V X S z ce sl (pc + 3) lv st) : b_V X S z ce sl pc lv (.ref b :: .ref a :: st) := by
  obtain ⟨p, l, e, R, s, m, args, below, meth, c, Q, D, cy, kn, B, nL⟩ := X
  intro H locs ls hR hS hl
  obtain ⟨hx, hb, hml, hown, hts, ⟨hK, hB, hZ⟩, hR0, hst0⟩ := hX
  exact lv_acmp_eq (rx := some a) (ry := some b) hx hb d ht (fun q => kt (Option.some.inj q) H locs ls hR hS hl) (fun q => kf (fun q9 => q (by rw [q9])) H locs ls hR hS hl)
theorem v_acmp_ne (hX : b_X X cc own fr lo mc ms) {a b : Nat} {off : Int} {tgt : Nat} (d : decode cc pc = .ok (.if_acmp .ne off, 3)) (ht : (pc : Int) + off = (tgt : Int)) (kt : a ≠ b → b_V X S z ce sl tgt lv st) (kf : a = b → b_V X S z ce sl (pc + 3) lv st) : b_V X S z ce sl pc lv (.ref b :: .ref a :: st) := by
  obtain ⟨p, l, e, R, s, m, args, below, meth, c, Q, D, cy, kn, B, nL⟩ := X
  intro H locs ls hR hS hl
  obtain ⟨hx, hb, hml, hown, hts, ⟨hK, hB, hZ⟩, hR0, hst0⟩ := hX
  exact lv_acmp_ne (rx := some a) (ry := some b) hx hb d ht (fun q => kt (fun q9 => q (by rw [q9])) H locs ls hR hS hl) (fun q => kf (Option.some.inj q) H locs ls hR hS hl)
/-- a contract that never throws -/
theorem b_C.met {kn : Nat → Nat} {B : Nat} {y : MethodName} {bytes : ByteArray} {maxL : Nat} {ret : Option FieldType} {fr lo mc ms : Nat} {as : List Value} {S : b_M} {z : Nat} (h : b_C kn B y bytes maxL ret fr lo mc ms as S z post px) (hx : ∀ E S z, px E S z → False) (l : Launch) (D : va_G) (cy : Nat → ClassId) (hl : l.stackTraces = false) : Met l y (b_W y bytes maxL ret) { frames := fr, cells := mc, slots := ms, locals := lo } (b_Pc kn D cy B as S z) (b_Qc D cy B post) mc ms (fun q => B ≤ q) :=
  MetFree.mono (h l D cy hl) (fun _ _ h => h) (fun _ _ _ _ _ h => h) (fun a s o t _ hq => by
    rcases hq with h | ⟨q, a1, E, ce, L, ⟨S1, z1, a2, a3, a4⟩, a5⟩
    · exact h
    · exact (hx _ _ _ a2).elim)
theorem b_callM {p : Program} {l : Launch} {e : Env} {R : Room} {s : State} {m : MethodId} {args : Array Value} {below : List Frame} {meth : Method} {c : Code} {H : Heap} {locs : List Loc} {cells slots mc1 ms1 : Nat} {Q : State → Prop} {D : va_G} {cy : Nat → ClassId} {B : Nat} {a : Array Value} {ls : Array Slot} {st0 rest : List Value}
    (hr : va_Run p l e R s m args below meth c H locs cells slots mc1 ms1 (F0 m pc ls st0) rest (b_Qc D cy B post a) (fun q => B ≤ q)) (hS : va_S (fun q => B ≤ q) s.heap H locs)
    (kk : ∀ (r : Option Value) (S : b_M) (z : Nat) (H1 : Heap) (locs1 : List Loc), post r S z → b_R D cy B S z H1 → va_S (fun q => B ≤ q) s.heap H1 locs1 → W p l e R s m args below meth c H1 locs1 (cells + mc1) (slots + ms1) Q (F0 m (pc + 3) ls (r.toList ++ rest))) : W p l e R s m args below meth c H locs cells slots Q (F0 m pc ls st0) := by
  intro T hT X
  obtain ⟨v, st₀, t, T', L, h0, X', hL, e1, e2, ⟨r, S1, z1, hv, hp, hb, hF⟩, st⟩ := hr T hT X
  have hv : v = r := Outcome.returned.inj hv
  subst hv
  obtain ⟨-, -, k3⟩ := vx_keep h0 e1 hS (fun _ _ h => h) (fun _ h => h) hL hF
  obtain ⟨t2, a1, b1⟩ := kk v S1 z1 T'.heap (locs ++ L) hp (by rw [e1]; exact hb) k3 T' rfl X'
  exact ⟨t2, st t2 a1, b1⟩
/-- ordinal, which Operation inherits -/
theorem v_callU (hX : b_X X cc own fr lo mc ms) {x y : MethodName} {bytes : ByteArray} {maxL : Nat} {ret : Option FieldType} {fr1 lo1 mc1 ms1 i idx : Nat} (hi : i < 17) (hM : b_C (b_kn X) (b_B X) y bytes maxL ret fr1 lo1 mc1 ms1 [.ref (b_kn X i)] S z post px) (hyx : y = ⟨"java/lang/Enum", x.name, x.desc⟩) (hpl : "java/lang/Enum" ≠ "java/lang/invoke/MethodHandle" ∧ "java/lang/Enum" ≠ "java/lang/invoke/VarHandle" ∧ (parseMethodDescriptor x.desc).map (fun d => d.parameters.length) = some 0)
    (hw : ∀ w ∈ va_wsU own idx "AssembleLines$Operation" "java/lang/Enum" x y (b_W y bytes maxL ret), w ∈ b_Ws) (hroom : fr1 + 1 ≤ fr ∧ 8 + (maxL + 11) + lo1 ≤ lo) (hf : ce + mc1 ≤ mc ∧ sl + ms1 ≤ ms) (hW : (st.map fun v => v.category).sum ≤ 8) (d : decode cc pc = .ok (.invokevirtual idx, 3))
    (kx : ∀ E S z, px E S z → False) (kk : ∀ r S z, post r S z → b_V X S z (ce + mc1) (sl + ms1) (pc + 3) lv (r.toList ++ st)) : b_V X S z ce sl pc lv (.ref (b_kn X i) :: st) := by
  obtain ⟨p, l, e, R, s, m, args, below, meth, c, Q, D, cy, kn, B, nL⟩ := X
  intro H locs ls hR hS hl
  obtain ⟨hx, hb, hml, hown, hts, hG, hR0, hst0⟩ := hX
  subst hR0
  obtain ⟨cell, q1, q2, q3, -⟩ := (hG.2.2.1.2.2.2.1 i hi).2.1.kept hS.2.1
  refine b_callM (va_runU (As := []) (rest := st) (g := F0 m pc ls (.ref (kn i) :: st)) (C := "AssembleLines$Operation") ⟨hx, hb, hml, hown, hts⟩ (hM.met kx l D cy hst0) (va_cwU 0 hts (fun w h => ⟨hw w h, good_of_word (List.mem_filter.mp (hw w h)).2⟩) rfl rfl rfl hyx hpl hroom) ⟨b_blind, ⟨cell, q1, q2, q3⟩, fun U hU hWm => ⟨rfl, by rw [hU]; exact hR, hG.at hS hU hWm⟩⟩ rfl rfl hl.1 rfl (lv_room hW) d hf) hS ?_
  intro r S1 z1 H1 locs1 hp hR1 hS1
  exact kk r S1 z1 hp H1 locs1 ls hR1 hS1 hl
/-- a method of a constant's text -/
theorem v_callT (hX : b_X X cc own fr lo mc ms) {y : MethodName} {bytes : ByteArray} {maxL : Nat} {ret : Option FieldType} {fr1 lo1 mc1 ms1 i idx n : Nat} {As : List Value} (hi : i < 17) (hcls : y.cls = "java/lang/String") (hM : b_C (b_kn X) (b_B X) y bytes maxL ret fr1 lo1 mc1 ms1 (.ref (b_kn X (20 + i)) :: As) S z post px)
    (w1 : Cond.methodLink own idx y ∈ b_Ws) (w2 : Cond.instanceMethod y ∈ b_Ws) (w3 : Cond.selects y.cls y y ∈ b_Ws) (w4 : Cond.initialized y.cls ∈ b_Ws) (w5 : Cond.code y bytes maxL ret ∈ b_Ws)
    (hd : y.cls ≠ "java/lang/invoke/MethodHandle" ∧ y.cls ≠ "java/lang/invoke/VarHandle" ∧ (parseMethodDescriptor y.desc).map (fun d => d.parameters.length) = some n) (hn : As.length = n) (hroom : fr1 + 1 ≤ fr ∧ 8 + (maxL + 11) + lo1 ≤ lo) (hf : ce + mc1 ≤ mc ∧ sl + ms1 ≤ ms) (hW : (st.map fun v => v.category).sum ≤ 8) {st0 : List Value} (hst : st0 = As.reverse ++ .ref (b_kn X (20 + i)) :: st) (d : decode cc pc = .ok (.invokevirtual idx, 3))
    (kx : ∀ E S z, px E S z → False) (kk : ∀ r S z, post r S z → b_V X S z (ce + mc1) (sl + ms1) (pc + 3) lv (r.toList ++ st)) : b_V X S z ce sl pc lv st0 := by
  obtain ⟨p, l, e, R, s, m, args, below, meth, c, Q, D, cy, kn, B, nL⟩ := X
  intro H locs ls hR hS hl
  obtain ⟨hx, hb, hml, hown, hts, hG, hR0, hst0⟩ := hX
  subst hR0
  have hw : ∀ w ∈ wsV own idx y.cls y (b_W y bytes maxL ret), w ∈ b_Ws ∧ ((w.onTables && w.keeps) = true ∨ ∃ ty, w = .arrayClass ty) := fun w h => by
    have h9 : w ∈ b_Ws := by
      unfold wsV at h
      simp only [List.mem_append, List.mem_cons, List.not_mem_nil, or_false] at h
      rcases h with (h | h | h | h) | h | h
      · rw [h]; exact w1
      · rw [h]; exact w2
      · rw [h]; exact w3
      · rw [h]; exact w4
      · rw [h]; exact w5
      · exact h
    exact ⟨h9, good_of_word (List.mem_filter.mp h9).2⟩
  obtain ⟨cell, q1, q2, q3, -⟩ := (hG.2.2.1.2.2.2.1 i hi).2.2.2.2.1.kept hS.2.1
  refine b_call (vx_runV (As := As) (rest := st) (g := F0 m pc ls st0) ⟨hx, hb, hml, hown, hts⟩ (hM l D cy hst0) (cwV n hts hw rfl rfl rfl ⟨rfl, hd⟩ hroom) ⟨b_blind, ⟨cell, q1, q2, by rw [hcls]; exact q3⟩, fun U hU hWm => ⟨rfl, by rw [hU]; exact hR, hG.at hS hU hWm⟩⟩ rfl hn hl.1 hst (lv_room hW) d hf) hS ?_ ?_
  · intro r S1 z1 H1 locs1 hp hR1 hS1
    exact kk r S1 z1 hp H1 locs1 ls hR1 hS1 hl
  · intro E S1 z1 q ce1 H1 locs1 hp
    exact (kx E S1 z1 hp).elim
end BEN
