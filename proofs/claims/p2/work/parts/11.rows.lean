def b_on : List String := ["NOTHING", "UNHEARD", "LABEL", "CALL", "NOP", "LI", "ADD", "SUB", "B", "BZ", "LW", "WORD", "SPACE", "POOL", "SET", "MACRO", "END"]
def b_oF : List (String × String × String × List Int32) := [("java/lang/Enum", "ordinal", "I", [0, 1, 2, 3, 4, 5, 6, 7, 8, 9, 10, 11, 12, 13, 14, 15, 16]), ("AssembleLines$Operation", "isStatement", "Z", [0, 0, 0, 0, 1, 1, 1, 1, 1, 1, 1, 1, 1, 1, 0, 0, 0]), ("AssembleLines$Operation", "code", "I", [0, 0, 0, 0, 0, 1, 3, 4, 5, 7, 9, 0, 0, 0, 0, 0, 0]), ("AssembleLines$Operation", "bits", "I", [0, 0, 0, 0, 0, 9, 0, 0, 6, 5, 0, 0, 0, 0, 0, 0, 0]), ("AssembleLines$Operation", "most", "I", [0, 0, 0, 0, 0, 1, 0, 0, 1, 1, 1, 8, 1, 0, 1, 0, 0])]
def b_sl : List Nat := [0, 0, 0, 0, 3, 2, 3, 3, 1, 2, 2, 5, 6, 5, 4, 6, 4]
def b_sb : List (List Int32) := [[], [], [], [], [110, 111, 112], [108, 105], [97, 100, 100], [115, 117, 98], [98], [98, 122], [108, 119], [46, 119, 111, 114, 100], [46, 115, 112, 97, 99, 101], [46, 112, 111, 111, 108], [46, 115, 101, 116], [46, 109, 97, 99, 114, 111], [46, 101, 110, 100]]
def b_sw : List Int32 := [0, 0, 10, 8, 0, 1, 4, 5, 14, 2, 3, 11, 12, 13, 6, 7, 9]
/-- the constants of Operation, their table and the switch's, the texts' own static -/
def b_E (kn : Nat → Nat) (A : Nat → Prop) (U : State) (H : Heap) : Prop := (∀ i, i < 17 → va_Z "AssembleLines$Operation" (b_on.getD i "") "LAssembleLines$Operation;" (.ref (kn i)) A U H ∧ va_O "AssembleLines$Operation" (kn i) A U H ∧ (∀ q ∈ b_oF, va_OF q.1 q.2.1 q.2.2.1 (.int (q.2.2.2.getD i 0)) (kn i) A U H) ∧ va_OF "AssembleLines$Operation" "spelling" "Ljava/lang/String;" (.ref (kn (20 + i))) (kn i) A U H ∧ va_O "java/lang/String" (kn (20 + i)) A U H ∧ va_OF "java/lang/String" "coder" "B" (.int 0) (kn (20 + i)) A U H ∧ va_OF "java/lang/String" "value" "[B" (.ref (kn (40 + i))) (kn (20 + i)) A U H ∧ va_T .byte (kn (40 + i)) (b_sl.getD i 0) (fun j => .int ((b_sb.getD i []).getD j 0)) A U H) ∧ va_Z "AssembleLines$Operation" "ALL" "[LAssembleLines$Operation;" (.ref (kn 17)) A U H ∧ va_T (.object "AssembleLines$Operation") (kn 17) 17 (fun j => .ref (kn j)) A U H ∧ va_Z "AssembleLines$1" "$SwitchMap$AssembleLines$Operation" "[I" (.ref (kn 18)) A U H ∧ va_T .int (kn 18) 17 (fun j => .int (b_sw.getD j 0)) A U H ∧ va_Z "java/lang/String" "COMPACT_STRINGS" "Z" (.int 1) A U H ∧ va_Zq "jdk/internal/util/Preconditions" "SIOOBE_FORMATTER" "Ljava/util/function/BiFunction;" A U H
theorem b_E.moved {kn : Nat → Nat} {A : Nat → Prop} {u U : State} {H H1 : Heap} (hvm : u.vm.Alike U.vm) (hk : ∀ q : Nat, q < H.size → ¬ A q → H1[q]? = H[q]?) (h : b_E kn A u H) : b_E kn A U H1 := by
  obtain ⟨h1, h2, h3, h4, h5, h6, h7⟩ := h
  refine ⟨fun i hi => ?_, (va_Z.moved hvm h2).kept hk, (va_T.moved hvm h3).kept hk, (va_Z.moved hvm h4).kept hk, (va_T.moved hvm h5).kept hk, (va_Z.moved hvm h6).kept hk, (va_Zq.moved hvm h7).kept hk⟩
  obtain ⟨g1, g2, g3, g4, g5, g6, g7, g8⟩ := h1 i hi
  exact ⟨(va_Z.moved hvm g1).kept hk, (va_O.moved hvm g2).kept hk, fun q hq => (va_OF.moved hvm (g3 q hq)).kept hk, (va_OF.moved hvm g4).kept hk, (va_O.moved hvm g5).kept hk, (va_OF.moved hvm g6).kept hk, (va_OF.moved hvm g7).kept hk, (va_T.moved hvm g8).kept hk⟩
/-- what holds of a state all along: tables and constants, which lie below B -/
def b_Z (kn : Nat → Nat) (B : Nat) (U : State) (H : Heap) : Prop := va_Z "AssembleLines$Operation" "NOTHING" "LAssembleLines$Operation;" (.ref (kn 0)) (fun q => B ≤ q) U H ∧ vx_Zq Bundle.tN "UNASSIGNED_STACK" Bundle.steD (fun q => B ≤ q) U H ∧ vx_Zq Bundle.tN "SUPPRESSED_SENTINEL" Bundle.listD (fun q => B ≤ q) U H ∧ b_E kn (fun q => B ≤ q) U H
def b_Nest : List (String × Nat × MethodName × String) := [("AssembleLines", 15, yX2_init, "AssembleLines"), ("AssembleLines$Program", 37, yX10_init, "AssembleLines"), ("AssembleLines$TurnOne", 11, yX9_init, "AssembleLines"), ("AssembleLines$TurnOne", 20, yX5_init, "AssembleLines"), ("AssembleLines$Lines", 27, yX1_init, "AssembleLines")]
def b_Cast : List (String × String) := [("java/lang/IllegalStateException", "java/lang/IllegalStateException"), ("java/lang/IllegalArgumentException", "java/lang/IllegalArgumentException"), ("java/lang/IndexOutOfBoundsException", "java/lang/IndexOutOfBoundsException")]
def b_Decl : List MethodName := [⟨"java/lang/RuntimeException", "<init>", "(Ljava/lang/String;)V"⟩, ⟨"java/lang/Exception", "<init>", "(Ljava/lang/String;)V"⟩, ⟨"java/lang/Throwable", "<init>", "(Ljava/lang/String;)V"⟩]
def b_Str : List (String × Nat × String) := [("AssembleLines", 44, "the text has no room for sixteen bytes more"), ("AssembleLines", 55, "n is not from 0 to 16"), ("AssembleLines", 58, "the text has less than sixteen bytes"), ("AssembleLines", 76, "the text has errors"), ("AssembleLines", 83, "no such error, or no such what"), ("AssembleLines", 93, "no such word"), ("AssembleLines", 102, "no such statement, or no such what"), ("AssembleLines", 125, "no such name, or no such what")]
def b_Over : List String := [RX10, RX1]
def b_Nc : List (String × String) := [("java/lang/IllegalStateException", "java/lang/IllegalArgumentException")]
def b_G (kn : Nat → Nat) (D : va_G) (cy : Nat → ClassId) (B : Nat) (U : State) : Prop := va_K D vwCl (b_Tys cy) U ∧ B ≤ U.heap.size ∧ b_Z kn B U U.heap ∧ (∀ q ∈ b_Nest, va_Nw (.methodLinkNest q.1 q.2.1 q.2.2.1 q.2.2.2) U) ∧ (∀ q ∈ b_Cast, va_Nw (.castable q.1 q.2) U) ∧ (∀ y ∈ b_Decl, va_Nw (.declares y) U) ∧ (∀ q ∈ b_Str, ∃ a, vk_R q.1 q.2.1 q.2.2 a U) ∧ (∀ C ∈ b_Over, va_AO C U) ∧ ∀ q ∈ b_Nc, va_Nc q.1 q.2 U
theorem b_Z.moved {kn : Nat → Nat} {B : Nat} {u U : State} {H H1 : Heap} (hvm : u.vm.Alike U.vm) (hk : ∀ q : Nat, q < H.size → ¬ B ≤ q → H1[q]? = H[q]?) (h : b_Z kn B u H) : b_Z kn B U H1 := ⟨(va_Z.moved hvm h.1).kept hk, (vx_Zq.moved hvm h.2.1).kept hk, (vx_Zq.moved hvm h.2.2.1).kept hk, b_E.moved hvm hk h.2.2.2⟩
theorem b_G.moved {kn : Nat → Nat} {D : va_G} {cy : Nat → ClassId} {B : Nat} {u U : State} (hW : u.WarmedH U.vm) (hz : u.heap.size ≤ U.heap.size) (hk : ∀ q : Nat, q < u.heap.size → ¬ B ≤ q → U.heap[q]? = u.heap[q]?) (h : b_G kn D cy B u) : b_G kn D cy B U := by
  obtain ⟨h1, h2, h3, h4, h5, h6, h7, h8, h9⟩ := h
  exact ⟨va_K.moved hW.alike h1, Nat.le_trans h2 hz, b_Z.moved hW.alike hk h3, fun q hq => va_Nw.warmM hW (h4 q hq), fun q hq => va_Nw.warmC hW (h5 q hq), fun y hy => va_Nw.warmD hW (h6 y hy), fun q hq => by
    obtain ⟨a, ha⟩ := h7 q hq
    exact ⟨a, vk_R.warm hW ha⟩, fun C hC => va_AO.moved hW.alike (h8 C hC), fun q hq => va_Nc.moved hW.alike (h9 q hq)⟩
/-- a method under way: machine, room, its own start s, its frame's code, its end, the worlds' numbers, its locals -/
abbrev b_T : Type := Program × Launch × Env × Room × State × MethodId × Array Value × List Frame × Method × Code × (State → Prop) × va_G × (Nat → ClassId) × (Nat → Nat) × Nat × Nat
def b_X (X : b_T) (cc : ByteArray) (own : String) (fr lo mc ms : Nat) : Prop := match X with
  | (p, l, e, R, s, m, args, below, meth, c, Q, D, cy, kn, B, nL) => p.tables.exec = Jvm.exec ∧ c.code = cc ∧ c.maxLocals = nL ∧ s.vm.findClass own = some m.cls ∧ (∀ w ∈ b_Ws, w.before args s = true) ∧ b_G kn D cy B s ∧ R = { frames := fr, cells := mc, slots := ms, locals := lo } ∧ l.stackTraces = false
def b_V (X : b_T) (S : b_M) (z ce sl pc : Nat) (lv : List (Nat × Value)) (st : List Value) : Prop := match X with
  | (p, l, e, R, s, m, args, below, meth, c, Q, D, cy, kn, B, nL) => ∀ (H : Heap) (locs : List Loc) (ls : Array Slot), b_R D cy B S z H → va_S (fun q => B ≤ q) s.heap H locs → lv_has ls nL lv → W p l e R s m args below meth c H locs ce sl Q (F0 m pc ls st)
/-- the constructor's own right to write final fields -/
def b_I (X : b_T) : Prop := match X with
  | (p, l, e, R, s, m, args, below, meth, c, Q, D, cy, kn, B, nL) => meth.name = "<init>"
def b_n (X : b_T) : Nat := X.2.2.2.2.2.2.2.2.2.2.2.2.2.2.2
def b_L (lv : List (Nat × Value)) (i : Nat) : Option Value := (lv.find? (fun q => q.1 == i)).map (fun q => q.2)
theorem b_L_at {lv : List (Nat × Value)} {i : Nat} {v : Value} {ls : Array Slot} {nL : Nat} (hl : lv_has ls nL lv) (h : b_L lv i = some v) : ls[i]? = some (.val v) := by
  unfold b_L at h
  cases hf : lv.find? (fun q => q.1 == i) with
  | none => rw [hf] at h; cases h
  | some q =>
    rw [hf] at h
    have h1 := List.find?_some hf
    have h2 := List.mem_of_find?_eq_some hf
    have h3 : q.2 = v := Option.some.inj h
    have h4 : q.1 = i := by simpa using h1
    have := hl.2.2 q h2
    rw [h4, h3] at this
    exact this
def b_1 (lv : List (Nat × Value)) (i : Nat) (v : Value) : List (Nat × Value) := (i, v) :: lv.filter (fun q => !(q.1 == i) && !(q.1 + 1 == i && q.2.category == 2))
def b_2 (lv : List (Nat × Value)) (i : Nat) (v : Value) : List (Nat × Value) := (i, v) :: lv.filter (fun q => !(q.1 == i) && (!(q.1 == i + 1) && !(q.1 + 1 == i && q.2.category == 2)))
section BROWS
variable {X : b_T} {cc : ByteArray} {own : String} {fr lo mc ms : Nat} {S : b_M} {z ce sl pc : Nat} {lv : List (Nat × Value)} {st : List Value}
theorem v_iconst (hX : b_X X cc own fr lo mc ms) {n : Int} {v : Int32} (d : decode cc pc = .ok (.iconst n, 1)) (hv : Int32.ofInt n = v) (k : b_V X S z ce sl (pc + 1) lv (.int v :: st)) : b_V X S z ce sl pc lv (st) := by
  obtain ⟨p, l, e, R, s, m, args, below, meth, c, Q, D, cy, kn, B, nL⟩ := X
  intro H locs ls hR hS hl
  exact lv_iconst hX.1 hX.2.1 d hv (k H locs ls hR hS hl)
theorem v_bipush (hX : b_X X cc own fr lo mc ms) {n : Int} {v : Int32} (d : decode cc pc = .ok (.bipush n, 2)) (hv : (Int8.ofInt n).toInt32 = v) (k : b_V X S z ce sl (pc + 2) lv (.int v :: st)) : b_V X S z ce sl pc lv (st) := by
  obtain ⟨p, l, e, R, s, m, args, below, meth, c, Q, D, cy, kn, B, nL⟩ := X
  intro H locs ls hR hS hl
  exact lv_bipush hX.1 hX.2.1 d hv (k H locs ls hR hS hl)
theorem v_sipush (hX : b_X X cc own fr lo mc ms) {n : Int} {v : Int32} (d : decode cc pc = .ok (.sipush n, 3)) (hv : (Int16.ofInt n).toInt32 = v) (k : b_V X S z ce sl (pc + 3) lv (.int v :: st)) : b_V X S z ce sl pc lv (st) := by
  obtain ⟨p, l, e, R, s, m, args, below, meth, c, Q, D, cy, kn, B, nL⟩ := X
  intro H locs ls hR hS hl
  exact lv_sipush hX.1 hX.2.1 d hv (k H locs ls hR hS hl)
theorem v_lconst (hX : b_X X cc own fr lo mc ms) {n : Fin 2} {v : Int64} (d : decode cc pc = .ok (.lconst n, 1)) (hv : Int64.ofNat (n : Nat) = v) (k : b_V X S z ce sl (pc + 1) lv (.long v :: st)) : b_V X S z ce sl pc lv (st) := by
  obtain ⟨p, l, e, R, s, m, args, below, meth, c, Q, D, cy, kn, B, nL⟩ := X
  intro H locs ls hR hS hl
  exact lv_lconst hX.1 hX.2.1 d hv (k H locs ls hR hS hl)
theorem v_iload_n (hX : b_X X cc own fr lo mc ms) {j : Fin 4} {i : Nat} {x : Int32} (d : decode cc pc = .ok (.iload_n j, 1)) (hi : (j : Nat) = i) (hx : b_L lv i = some (.int x)) (k : b_V X S z ce sl (pc + 1) lv (.int x :: st)) : b_V X S z ce sl pc lv (st) := by
  obtain ⟨p, l, e, R, s, m, args, below, meth, c, Q, D, cy, kn, B, nL⟩ := X
  intro H locs ls hR hS hl
  exact lv_iload_n hX.1 hX.2.1 d hi (b_L_at hl hx) (k H locs ls hR hS hl)
theorem v_iload (hX : b_X X cc own fr lo mc ms) {i : Nat} {x : Int32} (d : decode cc pc = .ok (.iload i, 2)) (hx : b_L lv i = some (.int x)) (k : b_V X S z ce sl (pc + 2) lv (.int x :: st)) : b_V X S z ce sl pc lv (st) := by
  obtain ⟨p, l, e, R, s, m, args, below, meth, c, Q, D, cy, kn, B, nL⟩ := X
  intro H locs ls hR hS hl
  exact lv_iload hX.1 hX.2.1 d (b_L_at hl hx) (k H locs ls hR hS hl)
theorem v_istore_n (hX : b_X X cc own fr lo mc ms) {j : Fin 4} {i : Nat} {x : Int32} {lv' : List (Nat × Value)} (d : decode cc pc = .ok (.istore_n j, 1)) (hi : (j : Nat) = i) (hn : i < b_n X) (hv : b_1 lv i (.int x) = lv') (k : b_V X S z ce sl (pc + 1) lv' st) : b_V X S z ce sl pc lv (.int x :: st) := by
  obtain ⟨p, l, e, R, s, m, args, below, meth, c, Q, D, cy, kn, B, nL⟩ := X
  intro H locs ls hR hS hl
  exact lv_istore_n hX.1 hX.2.1 d hi hl hn hv (fun ls hl => k H locs ls hR hS hl)
theorem v_istore (hX : b_X X cc own fr lo mc ms) {i : Nat} {x : Int32} {lv' : List (Nat × Value)} (d : decode cc pc = .ok (.istore i, 2)) (hn : i < b_n X) (hv : b_1 lv i (.int x) = lv') (k : b_V X S z ce sl (pc + 2) lv' st) : b_V X S z ce sl pc lv (.int x :: st) := by
  obtain ⟨p, l, e, R, s, m, args, below, meth, c, Q, D, cy, kn, B, nL⟩ := X
  intro H locs ls hR hS hl
  exact lv_istore hX.1 hX.2.1 d hl hn hv (fun ls hl => k H locs ls hR hS hl)
theorem v_lload_n (hX : b_X X cc own fr lo mc ms) {j : Fin 4} {i : Nat} {x : Int64} (d : decode cc pc = .ok (.lload_n j, 1)) (hi : (j : Nat) = i) (hx : b_L lv i = some (.long x)) (k : b_V X S z ce sl (pc + 1) lv (.long x :: st)) : b_V X S z ce sl pc lv (st) := by
  obtain ⟨p, l, e, R, s, m, args, below, meth, c, Q, D, cy, kn, B, nL⟩ := X
  intro H locs ls hR hS hl
  exact lv_lload_n hX.1 hX.2.1 d hi (b_L_at hl hx) (k H locs ls hR hS hl)
theorem v_lload (hX : b_X X cc own fr lo mc ms) {i : Nat} {x : Int64} (d : decode cc pc = .ok (.lload i, 2)) (hx : b_L lv i = some (.long x)) (k : b_V X S z ce sl (pc + 2) lv (.long x :: st)) : b_V X S z ce sl pc lv (st) := by
  obtain ⟨p, l, e, R, s, m, args, below, meth, c, Q, D, cy, kn, B, nL⟩ := X
  intro H locs ls hR hS hl
  exact lv_lload hX.1 hX.2.1 d (b_L_at hl hx) (k H locs ls hR hS hl)
theorem v_lstore_n (hX : b_X X cc own fr lo mc ms) {j : Fin 4} {i : Nat} {x : Int64} {lv' : List (Nat × Value)} (d : decode cc pc = .ok (.lstore_n j, 1)) (hi : (j : Nat) = i) (hn : i + 1 < b_n X) (hv : b_2 lv i (.long x) = lv') (k : b_V X S z ce sl (pc + 1) lv' st) : b_V X S z ce sl pc lv (.long x :: st) := by
  obtain ⟨p, l, e, R, s, m, args, below, meth, c, Q, D, cy, kn, B, nL⟩ := X
  intro H locs ls hR hS hl
  exact lv_lstore_n hX.1 hX.2.1 d hi hl hn hv (fun ls hl => k H locs ls hR hS hl)
theorem v_lstore (hX : b_X X cc own fr lo mc ms) {i : Nat} {x : Int64} {lv' : List (Nat × Value)} (d : decode cc pc = .ok (.lstore i, 2)) (hn : i + 1 < b_n X) (hv : b_2 lv i (.long x) = lv') (k : b_V X S z ce sl (pc + 2) lv' st) : b_V X S z ce sl pc lv (.long x :: st) := by
  obtain ⟨p, l, e, R, s, m, args, below, meth, c, Q, D, cy, kn, B, nL⟩ := X
  intro H locs ls hR hS hl
  exact lv_lstore hX.1 hX.2.1 d hl hn hv (fun ls hl => k H locs ls hR hS hl)
theorem v_aload_n (hX : b_X X cc own fr lo mc ms) {j : Fin 4} {i : Nat} {x : Nat} (d : decode cc pc = .ok (.aload_n j, 1)) (hi : (j : Nat) = i) (hx : b_L lv i = some (.ref x)) (k : b_V X S z ce sl (pc + 1) lv (.ref x :: st)) : b_V X S z ce sl pc lv (st) := by
  obtain ⟨p, l, e, R, s, m, args, below, meth, c, Q, D, cy, kn, B, nL⟩ := X
  intro H locs ls hR hS hl
  exact lv_aload_n hX.1 hX.2.1 d hi (b_L_at hl hx) (k H locs ls hR hS hl)
theorem v_aload (hX : b_X X cc own fr lo mc ms) {i : Nat} {x : Nat} (d : decode cc pc = .ok (.aload i, 2)) (hx : b_L lv i = some (.ref x)) (k : b_V X S z ce sl (pc + 2) lv (.ref x :: st)) : b_V X S z ce sl pc lv (st) := by
  obtain ⟨p, l, e, R, s, m, args, below, meth, c, Q, D, cy, kn, B, nL⟩ := X
  intro H locs ls hR hS hl
  exact lv_aload hX.1 hX.2.1 d (b_L_at hl hx) (k H locs ls hR hS hl)
theorem v_astore_n (hX : b_X X cc own fr lo mc ms) {j : Fin 4} {i : Nat} {x : Nat} {lv' : List (Nat × Value)} (d : decode cc pc = .ok (.astore_n j, 1)) (hi : (j : Nat) = i) (hn : i < b_n X) (hv : b_1 lv i (.ref x) = lv') (k : b_V X S z ce sl (pc + 1) lv' st) : b_V X S z ce sl pc lv (.ref x :: st) := by
  obtain ⟨p, l, e, R, s, m, args, below, meth, c, Q, D, cy, kn, B, nL⟩ := X
  intro H locs ls hR hS hl
  exact lv_astore_n hX.1 hX.2.1 d hi hl hn hv (fun ls hl => k H locs ls hR hS hl)
theorem v_astore (hX : b_X X cc own fr lo mc ms) {i : Nat} {x : Nat} {lv' : List (Nat × Value)} (d : decode cc pc = .ok (.astore i, 2)) (hn : i < b_n X) (hv : b_1 lv i (.ref x) = lv') (k : b_V X S z ce sl (pc + 2) lv' st) : b_V X S z ce sl pc lv (.ref x :: st) := by
  obtain ⟨p, l, e, R, s, m, args, below, meth, c, Q, D, cy, kn, B, nL⟩ := X
  intro H locs ls hR hS hl
  exact lv_astore hX.1 hX.2.1 d hl hn hv (fun ls hl => k H locs ls hR hS hl)
theorem v_iinc (hX : b_X X cc own fr lo mc ms) {i : Nat} {n : Int} {x v : Int32} {lv' : List (Nat × Value)} (d : decode cc pc = .ok (.iinc i n, 3)) (hx : b_L lv i = some (.int x)) (hv : x + Int32.ofInt n = v) (hn : i < b_n X) (hw : b_1 lv i (.int v) = lv') (k : b_V X S z ce sl (pc + 3) lv' st) : b_V X S z ce sl pc lv st := by
  obtain ⟨p, l, e, R, s, m, args, below, meth, c, Q, D, cy, kn, B, nL⟩ := X
  intro H locs ls hR hS hl
  unfold b_L at hx
  cases hf : lv.find? (fun q => q.1 == i) with
  | none => rw [hf] at hx; cases hx
  | some q =>
    rw [hf] at hx
    have h1 := List.find?_some hf
    obtain ⟨j, hj⟩ := List.getElem?_of_mem (List.mem_of_find?_eq_some hf)
    have h3 : q.2 = .int x := Option.some.inj hx
    have h4 : q.1 = i := by simpa using h1
    have h5 : lv[j]? = some (i, .int x) := by rw [hj, ← h4, ← h3]
    exact lv_iinc hX.1 hX.2.1 d hl h5 hv hn hw (fun ls hl => k H locs ls hR hS hl)
theorem v_iadd (hX : b_X X cc own fr lo mc ms) {x y : Int32} (d : decode cc pc = .ok (.iadd, 1)) (k : b_V X S z ce sl (pc + 1) lv (.int (x + y) :: st)) : b_V X S z ce sl pc lv (.int y :: .int x :: st) := by
  obtain ⟨p, l, e, R, s, m, args, below, meth, c, Q, D, cy, kn, B, nL⟩ := X
  intro H locs ls hR hS hl
  exact lv_iadd hX.1 hX.2.1 d (k H locs ls hR hS hl)
theorem v_isub (hX : b_X X cc own fr lo mc ms) {x y : Int32} (d : decode cc pc = .ok (.isub, 1)) (k : b_V X S z ce sl (pc + 1) lv (.int (x - y) :: st)) : b_V X S z ce sl pc lv (.int y :: .int x :: st) := by
  obtain ⟨p, l, e, R, s, m, args, below, meth, c, Q, D, cy, kn, B, nL⟩ := X
  intro H locs ls hR hS hl
  exact lv_isub hX.1 hX.2.1 d (k H locs ls hR hS hl)
theorem v_imul (hX : b_X X cc own fr lo mc ms) {x y : Int32} (d : decode cc pc = .ok (.imul, 1)) (k : b_V X S z ce sl (pc + 1) lv (.int (x * y) :: st)) : b_V X S z ce sl pc lv (.int y :: .int x :: st) := by
  obtain ⟨p, l, e, R, s, m, args, below, meth, c, Q, D, cy, kn, B, nL⟩ := X
  intro H locs ls hR hS hl
  exact lv_imul hX.1 hX.2.1 d (k H locs ls hR hS hl)
theorem v_iand (hX : b_X X cc own fr lo mc ms) {x y : Int32} (d : decode cc pc = .ok (.iand, 1)) (k : b_V X S z ce sl (pc + 1) lv (.int (x &&& y) :: st)) : b_V X S z ce sl pc lv (.int y :: .int x :: st) := by
  obtain ⟨p, l, e, R, s, m, args, below, meth, c, Q, D, cy, kn, B, nL⟩ := X
  intro H locs ls hR hS hl
  exact lv_iand hX.1 hX.2.1 d (k H locs ls hR hS hl)
theorem v_ior (hX : b_X X cc own fr lo mc ms) {x y : Int32} (d : decode cc pc = .ok (.ior, 1)) (k : b_V X S z ce sl (pc + 1) lv (.int (x ||| y) :: st)) : b_V X S z ce sl pc lv (.int y :: .int x :: st) := by
  obtain ⟨p, l, e, R, s, m, args, below, meth, c, Q, D, cy, kn, B, nL⟩ := X
  intro H locs ls hR hS hl
  exact lv_ior hX.1 hX.2.1 d (k H locs ls hR hS hl)
theorem v_ishl (hX : b_X X cc own fr lo mc ms) {x y : Int32} (d : decode cc pc = .ok (.ishl, 1)) (k : b_V X S z ce sl (pc + 1) lv (.int (x <<< (y &&& 31)) :: st)) : b_V X S z ce sl pc lv (.int y :: .int x :: st) := by
  obtain ⟨p, l, e, R, s, m, args, below, meth, c, Q, D, cy, kn, B, nL⟩ := X
  intro H locs ls hR hS hl
  exact lv_ishl hX.1 hX.2.1 d (k H locs ls hR hS hl)
theorem v_ishr (hX : b_X X cc own fr lo mc ms) {x y : Int32} (d : decode cc pc = .ok (.ishr, 1)) (k : b_V X S z ce sl (pc + 1) lv (.int (x >>> (y &&& 31)) :: st)) : b_V X S z ce sl pc lv (.int y :: .int x :: st) := by
  obtain ⟨p, l, e, R, s, m, args, below, meth, c, Q, D, cy, kn, B, nL⟩ := X
  intro H locs ls hR hS hl
  exact lv_ishr hX.1 hX.2.1 d (k H locs ls hR hS hl)
theorem v_idiv (hX : b_X X cc own fr lo mc ms) {x y : Int32} (d : decode cc pc = .ok (.idiv, 1)) (hy : ¬ y = 0) (k : b_V X S z ce sl (pc + 1) lv (.int (x / y) :: st)) : b_V X S z ce sl pc lv (.int y :: .int x :: st) := by
  obtain ⟨p, l, e, R, s, m, args, below, meth, c, Q, D, cy, kn, B, nL⟩ := X
  intro H locs ls hR hS hl
  exact lv_idiv hX.1 hX.2.1 d hy (k H locs ls hR hS hl)
theorem v_irem (hX : b_X X cc own fr lo mc ms) {x y : Int32} (d : decode cc pc = .ok (.irem, 1)) (hy : ¬ y = 0) (k : b_V X S z ce sl (pc + 1) lv (.int (x - x / y * y) :: st)) : b_V X S z ce sl pc lv (.int y :: .int x :: st) := by
  obtain ⟨p, l, e, R, s, m, args, below, meth, c, Q, D, cy, kn, B, nL⟩ := X
  intro H locs ls hR hS hl
  exact lv_irem hX.1 hX.2.1 d hy (k H locs ls hR hS hl)
theorem v_ineg (hX : b_X X cc own fr lo mc ms) {x : Int32} (d : decode cc pc = .ok (.ineg, 1)) (k : b_V X S z ce sl (pc + 1) lv (.int (-x) :: st)) : b_V X S z ce sl pc lv (.int x :: st) := by
  obtain ⟨p, l, e, R, s, m, args, below, meth, c, Q, D, cy, kn, B, nL⟩ := X
  intro H locs ls hR hS hl
  exact lv_ineg hX.1 hX.2.1 d (k H locs ls hR hS hl)
theorem v_lneg (hX : b_X X cc own fr lo mc ms) {x : Int64} (d : decode cc pc = .ok (.lneg, 1)) (k : b_V X S z ce sl (pc + 1) lv (.long (-x) :: st)) : b_V X S z ce sl pc lv (.long x :: st) := by
  obtain ⟨p, l, e, R, s, m, args, below, meth, c, Q, D, cy, kn, B, nL⟩ := X
  intro H locs ls hR hS hl
  exact lv_lneg hX.1 hX.2.1 d (k H locs ls hR hS hl)
theorem v_ladd (hX : b_X X cc own fr lo mc ms) {x y : Int64} (d : decode cc pc = .ok (.ladd, 1)) (k : b_V X S z ce sl (pc + 1) lv (.long (x + y) :: st)) : b_V X S z ce sl pc lv (.long y :: .long x :: st) := by
  obtain ⟨p, l, e, R, s, m, args, below, meth, c, Q, D, cy, kn, B, nL⟩ := X
  intro H locs ls hR hS hl
  exact lv_ladd hX.1 hX.2.1 d (k H locs ls hR hS hl)
theorem v_lsub (hX : b_X X cc own fr lo mc ms) {x y : Int64} (d : decode cc pc = .ok (.lsub, 1)) (k : b_V X S z ce sl (pc + 1) lv (.long (x - y) :: st)) : b_V X S z ce sl pc lv (.long y :: .long x :: st) := by
  obtain ⟨p, l, e, R, s, m, args, below, meth, c, Q, D, cy, kn, B, nL⟩ := X
  intro H locs ls hR hS hl
  exact lv_lsub hX.1 hX.2.1 d (k H locs ls hR hS hl)
theorem v_lmul (hX : b_X X cc own fr lo mc ms) {x y : Int64} (d : decode cc pc = .ok (.lmul, 1)) (k : b_V X S z ce sl (pc + 1) lv (.long (x * y) :: st)) : b_V X S z ce sl pc lv (.long y :: .long x :: st) := by
  obtain ⟨p, l, e, R, s, m, args, below, meth, c, Q, D, cy, kn, B, nL⟩ := X
  intro H locs ls hR hS hl
  exact lv_lmul hX.1 hX.2.1 d (k H locs ls hR hS hl)
theorem v_lrem (hX : b_X X cc own fr lo mc ms) {x y : Int64} (d : decode cc pc = .ok (.lrem, 1)) (hy : ¬ y = 0) (k : b_V X S z ce sl (pc + 1) lv (.long (x - x / y * y) :: st)) : b_V X S z ce sl pc lv (.long y :: .long x :: st) := by
  obtain ⟨p, l, e, R, s, m, args, below, meth, c, Q, D, cy, kn, B, nL⟩ := X
  intro H locs ls hR hS hl
  exact lv_lrem hX.1 hX.2.1 d hy (k H locs ls hR hS hl)
theorem v_lcmp (hX : b_X X cc own fr lo mc ms) {x y : Int64} (d : decode cc pc = .ok (.lcmp, 1)) (k : b_V X S z ce sl (pc + 1) lv (.int (lg_cmp x y) :: st)) : b_V X S z ce sl pc lv (.long y :: .long x :: st) := by
  obtain ⟨p, l, e, R, s, m, args, below, meth, c, Q, D, cy, kn, B, nL⟩ := X
  intro H locs ls hR hS hl
  exact W.lcmp hX.1 hX.2.1 d (k H locs ls hR hS hl)
theorem v_i2l (hX : b_X X cc own fr lo mc ms) {x : Int32} (d : decode cc pc = .ok (.i2l, 1)) (k : b_V X S z ce sl (pc + 1) lv (.long x.toInt64 :: st)) : b_V X S z ce sl pc lv (.int x :: st) := by
  obtain ⟨p, l, e, R, s, m, args, below, meth, c, Q, D, cy, kn, B, nL⟩ := X
  intro H locs ls hR hS hl
  exact lv_i2l hX.1 hX.2.1 d rfl (k H locs ls hR hS hl)
theorem v_l2i (hX : b_X X cc own fr lo mc ms) {x : Int64} (d : decode cc pc = .ok (.l2i, 1)) (k : b_V X S z ce sl (pc + 1) lv (.int x.toInt32 :: st)) : b_V X S z ce sl pc lv (.long x :: st) := by
  obtain ⟨p, l, e, R, s, m, args, below, meth, c, Q, D, cy, kn, B, nL⟩ := X
  intro H locs ls hR hS hl
  exact lv_l2i hX.1 hX.2.1 d rfl (k H locs ls hR hS hl)
theorem v_i2b (hX : b_X X cc own fr lo mc ms) {x : Int32} (d : decode cc pc = .ok (.i2b, 1)) (k : b_V X S z ce sl (pc + 1) lv (.int x.toInt8.toInt32 :: st)) : b_V X S z ce sl pc lv (.int x :: st) := by
  obtain ⟨p, l, e, R, s, m, args, below, meth, c, Q, D, cy, kn, B, nL⟩ := X
  intro H locs ls hR hS hl
  exact lv_i2b hX.1 hX.2.1 d rfl (k H locs ls hR hS hl)
theorem v_i2c (hX : b_X X cc own fr lo mc ms) {x : Int32} (d : decode cc pc = .ok (.i2c, 1)) (k : b_V X S z ce sl (pc + 1) lv (.int (x.toUInt32 % 65536).toInt32 :: st)) : b_V X S z ce sl pc lv (.int x :: st) := by
  obtain ⟨p, l, e, R, s, m, args, below, meth, c, Q, D, cy, kn, B, nL⟩ := X
  intro H locs ls hR hS hl
  exact lv_i2c hX.1 hX.2.1 d rfl (k H locs ls hR hS hl)
theorem v_dup (hX : b_X X cc own fr lo mc ms) {va : Value} (d : decode cc pc = .ok (.dup, 1)) (h1 : va.category = 1) (k : b_V X S z ce sl (pc + 1) lv (va :: va :: st)) : b_V X S z ce sl pc lv (va :: st) := by
  obtain ⟨p, l, e, R, s, m, args, below, meth, c, Q, D, cy, kn, B, nL⟩ := X
  intro H locs ls hR hS hl
  exact lv_dup hX.1 hX.2.1 d h1 (k H locs ls hR hS hl)
theorem v_pop (hX : b_X X cc own fr lo mc ms) {va : Value} (d : decode cc pc = .ok (.pop, 1)) (h1 : va.category = 1) (k : b_V X S z ce sl (pc + 1) lv (st)) : b_V X S z ce sl pc lv (va :: st) := by
  obtain ⟨p, l, e, R, s, m, args, below, meth, c, Q, D, cy, kn, B, nL⟩ := X
  intro H locs ls hR hS hl
  exact lv_pop hX.1 hX.2.1 d h1 (k H locs ls hR hS hl)
theorem v_dup2 (hX : b_X X cc own fr lo mc ms) {va vb : Value} (d : decode cc pc = .ok (.dup2, 1)) (h1 : va.category = 1) (h2 : vb.category = 1) (k : b_V X S z ce sl (pc + 1) lv (va :: vb :: va :: vb :: st)) : b_V X S z ce sl pc lv (va :: vb :: st) := by
  obtain ⟨p, l, e, R, s, m, args, below, meth, c, Q, D, cy, kn, B, nL⟩ := X
  intro H locs ls hR hS hl
  exact lv_dup2_11 hX.1 hX.2.1 d h1 h2 (k H locs ls hR hS hl)
theorem v_dup2_2 (hX : b_X X cc own fr lo mc ms) {va : Value} (d : decode cc pc = .ok (.dup2, 1)) (h1 : va.category = 2) (k : b_V X S z ce sl (pc + 1) lv (va :: va :: st)) : b_V X S z ce sl pc lv (va :: st) := by
  obtain ⟨p, l, e, R, s, m, args, below, meth, c, Q, D, cy, kn, B, nL⟩ := X
  intro H locs ls hR hS hl
  exact lv_dup2_2 hX.1 hX.2.1 d h1 (k H locs ls hR hS hl)
theorem v_pop2_2 (hX : b_X X cc own fr lo mc ms) {va : Value} (d : decode cc pc = .ok (.pop2, 1)) (h1 : va.category = 2) (k : b_V X S z ce sl (pc + 1) lv (st)) : b_V X S z ce sl pc lv (va :: st) := by
  obtain ⟨p, l, e, R, s, m, args, below, meth, c, Q, D, cy, kn, B, nL⟩ := X
  intro H locs ls hR hS hl
  exact lv_pop2_2 hX.1 hX.2.1 d h1 (k H locs ls hR hS hl)
theorem v_ldc2 (hX : b_X X cc own fr lo mc ms) {idx : Nat} {v : Int64} (d : decode cc pc = .ok (.ldc2_w idx, 3)) (hc : Cond.constantLong own idx v ∈ b_Ws) (k : b_V X S z ce sl (pc + 3) lv (.long v :: st)) : b_V X S z ce sl pc lv (st) := by
  obtain ⟨p, l, e, R, s, m, args, below, meth, c, Q, D, cy, kn, B, nL⟩ := X
  intro H locs ls hR hS hl
  exact lv_ldc2 hX.1 hX.2.1 hX.2.2.2.1 (hX.2.2.2.2.1 _ hc) d (k H locs ls hR hS hl)
theorem v_ldc (hX : b_X X cc own fr lo mc ms) {idx : Nat} {v : Int32} (d : decode cc pc = .ok (.ldc idx, 2)) (hc : Cond.constant own idx v ∈ b_Ws) (k : b_V X S z ce sl (pc + 2) lv (.int v :: st)) : b_V X S z ce sl pc lv (st) := by
  obtain ⟨p, l, e, R, s, m, args, below, meth, c, Q, D, cy, kn, B, nL⟩ := X
  intro H locs ls hR hS hl
  exact lv_ldc hX.1 hX.2.1 hX.2.2.2.1 (hX.2.2.2.2.1 _ hc) d (k H locs ls hR hS hl)
theorem v_ldcw (hX : b_X X cc own fr lo mc ms) {idx : Nat} {v : Int32} (d : decode cc pc = .ok (.ldc_w idx, 3)) (hc : Cond.constant own idx v ∈ b_Ws) (k : b_V X S z ce sl (pc + 3) lv (.int v :: st)) : b_V X S z ce sl pc lv (st) := by
  obtain ⟨p, l, e, R, s, m, args, below, meth, c, Q, D, cy, kn, B, nL⟩ := X
  intro H locs ls hR hS hl
  exact lv_ldcw hX.1 hX.2.1 hX.2.2.2.1 (hX.2.2.2.2.1 _ hc) d (k H locs ls hR hS hl)
theorem v_if_eq (hX : b_X X cc own fr lo mc ms) {x : Int32} {off : Int} {tgt : Nat} (d : decode cc pc = .ok (.ifCond .eq off, 3)) (ht : (pc : Int) + off = (tgt : Int)) (kt : x = 0 → b_V X S z ce sl tgt lv st) (kf : ¬ (x = 0) → b_V X S z ce sl (pc + 3) lv st) : b_V X S z ce sl pc lv (.int x :: st) := by
  obtain ⟨p, l, e, R, s, m, args, below, meth, c, Q, D, cy, kn, B, nL⟩ := X
  intro H locs ls hR hS hl
  exact lv_if_eq hX.1 hX.2.1 d ht (fun h => kt h H locs ls hR hS hl) (fun h => kf h H locs ls hR hS hl)
theorem v_icmp_eq (hX : b_X X cc own fr lo mc ms) {x y : Int32} {off : Int} {tgt : Nat} (d : decode cc pc = .ok (.if_icmp .eq off, 3)) (ht : (pc : Int) + off = (tgt : Int)) (kt : x = y → b_V X S z ce sl tgt lv st) (kf : ¬ (x = y) → b_V X S z ce sl (pc + 3) lv st) : b_V X S z ce sl pc lv (.int y :: .int x :: st) := by
  obtain ⟨p, l, e, R, s, m, args, below, meth, c, Q, D, cy, kn, B, nL⟩ := X
  intro H locs ls hR hS hl
  exact lv_icmp_eq hX.1 hX.2.1 d ht (fun h => kt h H locs ls hR hS hl) (fun h => kf h H locs ls hR hS hl)
theorem v_if_ne (hX : b_X X cc own fr lo mc ms) {x : Int32} {off : Int} {tgt : Nat} (d : decode cc pc = .ok (.ifCond .ne off, 3)) (ht : (pc : Int) + off = (tgt : Int)) (kt : x ≠ 0 → b_V X S z ce sl tgt lv st) (kf : x = 0 → b_V X S z ce sl (pc + 3) lv st) : b_V X S z ce sl pc lv (.int x :: st) := by
  obtain ⟨p, l, e, R, s, m, args, below, meth, c, Q, D, cy, kn, B, nL⟩ := X
  intro H locs ls hR hS hl
  exact lv_if_ne hX.1 hX.2.1 d ht (fun h => kt h H locs ls hR hS hl) (fun h => kf h H locs ls hR hS hl)
theorem v_icmp_ne (hX : b_X X cc own fr lo mc ms) {x y : Int32} {off : Int} {tgt : Nat} (d : decode cc pc = .ok (.if_icmp .ne off, 3)) (ht : (pc : Int) + off = (tgt : Int)) (kt : x ≠ y → b_V X S z ce sl tgt lv st) (kf : x = y → b_V X S z ce sl (pc + 3) lv st) : b_V X S z ce sl pc lv (.int y :: .int x :: st) := by
  obtain ⟨p, l, e, R, s, m, args, below, meth, c, Q, D, cy, kn, B, nL⟩ := X
  intro H locs ls hR hS hl
  exact lv_icmp_ne hX.1 hX.2.1 d ht (fun h => kt h H locs ls hR hS hl) (fun h => kf h H locs ls hR hS hl)
theorem v_if_lt (hX : b_X X cc own fr lo mc ms) {x : Int32} {off : Int} {tgt : Nat} (d : decode cc pc = .ok (.ifCond .lt off, 3)) (ht : (pc : Int) + off = (tgt : Int)) (kt : x < 0 → b_V X S z ce sl tgt lv st) (kf : ¬ (x < 0) → b_V X S z ce sl (pc + 3) lv st) : b_V X S z ce sl pc lv (.int x :: st) := by
  obtain ⟨p, l, e, R, s, m, args, below, meth, c, Q, D, cy, kn, B, nL⟩ := X
  intro H locs ls hR hS hl
  exact lv_if_lt hX.1 hX.2.1 d ht (fun h => kt h H locs ls hR hS hl) (fun h => kf h H locs ls hR hS hl)
theorem v_icmp_lt (hX : b_X X cc own fr lo mc ms) {x y : Int32} {off : Int} {tgt : Nat} (d : decode cc pc = .ok (.if_icmp .lt off, 3)) (ht : (pc : Int) + off = (tgt : Int)) (kt : x < y → b_V X S z ce sl tgt lv st) (kf : ¬ (x < y) → b_V X S z ce sl (pc + 3) lv st) : b_V X S z ce sl pc lv (.int y :: .int x :: st) := by
  obtain ⟨p, l, e, R, s, m, args, below, meth, c, Q, D, cy, kn, B, nL⟩ := X
  intro H locs ls hR hS hl
  exact lv_icmp_lt hX.1 hX.2.1 d ht (fun h => kt h H locs ls hR hS hl) (fun h => kf h H locs ls hR hS hl)
theorem v_if_ge (hX : b_X X cc own fr lo mc ms) {x : Int32} {off : Int} {tgt : Nat} (d : decode cc pc = .ok (.ifCond .ge off, 3)) (ht : (pc : Int) + off = (tgt : Int)) (kt : x ≥ 0 → b_V X S z ce sl tgt lv st) (kf : ¬ (x ≥ 0) → b_V X S z ce sl (pc + 3) lv st) : b_V X S z ce sl pc lv (.int x :: st) := by
  obtain ⟨p, l, e, R, s, m, args, below, meth, c, Q, D, cy, kn, B, nL⟩ := X
  intro H locs ls hR hS hl
  exact lv_if_ge hX.1 hX.2.1 d ht (fun h => kt h H locs ls hR hS hl) (fun h => kf h H locs ls hR hS hl)
theorem v_icmp_ge (hX : b_X X cc own fr lo mc ms) {x y : Int32} {off : Int} {tgt : Nat} (d : decode cc pc = .ok (.if_icmp .ge off, 3)) (ht : (pc : Int) + off = (tgt : Int)) (kt : x ≥ y → b_V X S z ce sl tgt lv st) (kf : ¬ (x ≥ y) → b_V X S z ce sl (pc + 3) lv st) : b_V X S z ce sl pc lv (.int y :: .int x :: st) := by
  obtain ⟨p, l, e, R, s, m, args, below, meth, c, Q, D, cy, kn, B, nL⟩ := X
  intro H locs ls hR hS hl
  exact lv_icmp_ge hX.1 hX.2.1 d ht (fun h => kt h H locs ls hR hS hl) (fun h => kf h H locs ls hR hS hl)
theorem v_if_gt (hX : b_X X cc own fr lo mc ms) {x : Int32} {off : Int} {tgt : Nat} (d : decode cc pc = .ok (.ifCond .gt off, 3)) (ht : (pc : Int) + off = (tgt : Int)) (kt : x > 0 → b_V X S z ce sl tgt lv st) (kf : ¬ (x > 0) → b_V X S z ce sl (pc + 3) lv st) : b_V X S z ce sl pc lv (.int x :: st) := by
  obtain ⟨p, l, e, R, s, m, args, below, meth, c, Q, D, cy, kn, B, nL⟩ := X
  intro H locs ls hR hS hl
  exact lv_if_gt hX.1 hX.2.1 d ht (fun h => kt h H locs ls hR hS hl) (fun h => kf h H locs ls hR hS hl)
theorem v_icmp_gt (hX : b_X X cc own fr lo mc ms) {x y : Int32} {off : Int} {tgt : Nat} (d : decode cc pc = .ok (.if_icmp .gt off, 3)) (ht : (pc : Int) + off = (tgt : Int)) (kt : x > y → b_V X S z ce sl tgt lv st) (kf : ¬ (x > y) → b_V X S z ce sl (pc + 3) lv st) : b_V X S z ce sl pc lv (.int y :: .int x :: st) := by
  obtain ⟨p, l, e, R, s, m, args, below, meth, c, Q, D, cy, kn, B, nL⟩ := X
  intro H locs ls hR hS hl
  exact lv_icmp_gt hX.1 hX.2.1 d ht (fun h => kt h H locs ls hR hS hl) (fun h => kf h H locs ls hR hS hl)
theorem v_if_le (hX : b_X X cc own fr lo mc ms) {x : Int32} {off : Int} {tgt : Nat} (d : decode cc pc = .ok (.ifCond .le off, 3)) (ht : (pc : Int) + off = (tgt : Int)) (kt : x ≤ 0 → b_V X S z ce sl tgt lv st) (kf : ¬ (x ≤ 0) → b_V X S z ce sl (pc + 3) lv st) : b_V X S z ce sl pc lv (.int x :: st) := by
  obtain ⟨p, l, e, R, s, m, args, below, meth, c, Q, D, cy, kn, B, nL⟩ := X
  intro H locs ls hR hS hl
  exact lv_if_le hX.1 hX.2.1 d ht (fun h => kt h H locs ls hR hS hl) (fun h => kf h H locs ls hR hS hl)
theorem v_icmp_le (hX : b_X X cc own fr lo mc ms) {x y : Int32} {off : Int} {tgt : Nat} (d : decode cc pc = .ok (.if_icmp .le off, 3)) (ht : (pc : Int) + off = (tgt : Int)) (kt : x ≤ y → b_V X S z ce sl tgt lv st) (kf : ¬ (x ≤ y) → b_V X S z ce sl (pc + 3) lv st) : b_V X S z ce sl pc lv (.int y :: .int x :: st) := by
  obtain ⟨p, l, e, R, s, m, args, below, meth, c, Q, D, cy, kn, B, nL⟩ := X
  intro H locs ls hR hS hl
  exact lv_icmp_le hX.1 hX.2.1 d ht (fun h => kt h H locs ls hR hS hl) (fun h => kf h H locs ls hR hS hl)
theorem v_goto (hX : b_X X cc own fr lo mc ms) {off : Int} {tgt : Nat} (d : decode cc pc = .ok (.goto off, 3)) (ht : (pc : Int) + off = (tgt : Int)) (k : b_V X S z ce sl tgt lv st) : b_V X S z ce sl pc lv st := by
  obtain ⟨p, l, e, R, s, m, args, below, meth, c, Q, D, cy, kn, B, nL⟩ := X
  intro H locs ls hR hS hl
  exact lv_goto hX.1 hX.2.1 d ht (k H locs ls hR hS hl)
theorem v_tableOut (hX : b_X X cc own fr lo mc ms) {dflt lo1 hi1 : Int} {offs : Array Int} {len : Nat} {x : Int32} {tgt : Nat} (d : decode cc pc = .ok (.tableswitch dflt lo1 hi1 offs, len)) (h : x.toInt < lo1 ∨ hi1 < x.toInt) (ht : (pc : Int) + dflt = (tgt : Int)) (k : b_V X S z ce sl tgt lv st) : b_V X S z ce sl pc lv (.int x :: st) := by
  obtain ⟨p, l, e, R, s, m, args, below, meth, c, Q, D, cy, kn, B, nL⟩ := X
  intro H locs ls hR hS hl
  exact lv_tableOut hX.1 hX.2.1 d h ht (k H locs ls hR hS hl)
theorem v_tableIn (hX : b_X X cc own fr lo mc ms) {dflt lo1 hi1 : Int} {offs : Array Int} {len : Nat} {x : Int32} {off : Int} {tgt : Nat} (d : decode cc pc = .ok (.tableswitch dflt lo1 hi1 offs, len)) (h1 : ¬ x.toInt < lo1) (h2 : ¬ hi1 < x.toInt) (ho : offs[(x.toInt - lo1).toNat]? = some off) (ht : (pc : Int) + off = (tgt : Int)) (k : b_V X S z ce sl tgt lv st) : b_V X S z ce sl pc lv (.int x :: st) := by
  obtain ⟨p, l, e, R, s, m, args, below, meth, c, Q, D, cy, kn, B, nL⟩ := X
  intro H locs ls hR hS hl
  exact lv_tableIn hX.1 hX.2.1 d h1 h2 ho ht (k H locs ls hR hS hl)
/-- counts rounded up -/
theorem v_widen {c1 s1 : Nat} (h1 : ce ≤ c1) (h2 : sl ≤ s1) (k : b_V X S z c1 s1 pc lv st) : b_V X S z ce sl pc lv st := by
  obtain ⟨p, l, e, R, s, m, args, below, meth, c, Q, D, cy, kn, B, nL⟩ := X
  intro H locs ls hR hS hl
  exact W.widen h1 h2 (k H locs ls hR hS hl)
/-- fewer locals -/
theorem v_locals {lv' : List (Nat × Value)} (h : ∀ q ∈ lv', q ∈ lv) (k : b_V X S z ce sl pc lv' st) : b_V X S z ce sl pc lv st := by
  obtain ⟨p, l, e, R, s, m, args, below, meth, c, Q, D, cy, kn, B, nL⟩ := X
  intro H locs ls hR hS hl
  exact k H locs ls hR hS ⟨hl.1, hl.2.1, fun q hq => hl.2.2 q (h q hq)⟩
/-- reading a field -/
theorem v_get (hX : b_X X cc own fr lo mc ms) {a ci k idx : Nat} {C : String} {Tf : u_T} {N : Nat} {v : Value} (hk : m_K S a = ci) (hc : vwCl[ci]? = some (C, Tf, N)) (hci : ci < 12) (hkN : k < N) (hin : ∀ w ∈ u_ws C Tf N, w ∈ b_Ws) (hlink : Cond.fieldLink own idx (Tf k).1 (Tf k).2.1 (Tf k).2.2.1 ∈ b_Ws) (d : decode cc pc = .ok (.getfield idx, 3)) (hv : m_V S ci a k = v) (kk : b_V X S z ce sl (pc + 3) lv (v :: st)) : b_V X S z ce sl pc lv (.ref a :: st) := by
  obtain ⟨p, l, e, R, s, m, args, below, meth, c, Q, D, cy, kn, B, nL⟩ := X
  intro H locs ls hR hS hl
  obtain ⟨hx, hb, hml, hown, hts, ⟨hK, hB, hZ⟩, hR0, hst0⟩ := hX
  obtain ⟨-, h1, -⟩ := hR.2 a (by rw [hk]; omega)
  have h1 := h1 (by rw [hk]; exact hci)
  rw [hk] at h1
  obtain ⟨cell, q1, q2, q3, q4⟩ := h1
  obtain ⟨hSl, hfc, kC, hkC, hkind⟩ := hK.1 ci _ hc
  obtain ⟨cf, kf, fi, f, hi, hsl⟩ := hSl k hkN
  have hN : m_N ci = N := by unfold m_N; rw [hc]
  refine W.getf hx hb hown (hts _ hlink) hi (u_facts hfc hkC (u_lays hts hin hkN) hi).1 q1 (by rw [q3]; exact fun h => by cases h) (v := v) ?_ rfl rfl d (kk H locs ls hR hS hl)
  rw [hsl, q4 k (by rw [hN]; exact hkN), hv]
end BROWS
