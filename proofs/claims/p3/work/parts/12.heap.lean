section BHEAP
variable {X : b_T} {cc : ByteArray} {own : String} {fr lo mc ms : Nat} {S : b_M} {z ce sl pc : Nat} {lv : List (Nat × Value)} {st : List Value}
/-- the same memory but for the fields of the object a -/
def b_only (S S' : b_M) (a : Nat) : Prop := (∀ b, m_K S' b = m_K S b) ∧ (∀ b, b ≠ a → (∀ f, m_I S' f b = m_I S f b) ∧ (∀ f, m_J S' f b = m_J S f b) ∧ ∀ f, m_P S' f b = m_P S f b) ∧ (∀ b, m_L S' b = m_L S b) ∧ (∀ b i, m_A S' b i = m_A S b i) ∧ (∀ b i, m_B S' b i = m_B S b i) ∧ ∀ b i, m_C S' b i = m_C S b i
/-- .. or but for the row of the array a -/
def b_orow (S S' : b_M) (a : Nat) : Prop := (∀ b, m_K S' b = m_K S b) ∧ (∀ f b, m_I S' f b = m_I S f b) ∧ (∀ f b, m_J S' f b = m_J S f b) ∧ (∀ f b, m_P S' f b = m_P S f b) ∧ (∀ b, m_L S' b = m_L S b) ∧ ∀ b, b ≠ a → (∀ i, m_A S' b i = m_A S b i) ∧ (∀ i, m_B S' b i = m_B S b i) ∧ ∀ i, m_C S' b i = m_C S b i
theorem b_R.obj {D : va_G} {cy : Nat → ClassId} {B : Nat} {S S' : b_M} {z : Nat} {H H' : Heap} {a ci : Nat} (hR : b_R D cy B S z H) (hk : m_K S a = ci) (hci : ci < 12) (ho : b_only S S' a) (hz : H'.size = H.size) (hq : ∀ q, q ≠ a → H'[q]? = H[q]?) (ha : t_OB a (D.1 ci) (m_N ci) (D.2 ci) H' (m_V S' ci a)) : b_R D cy B S' z H' := by
  obtain ⟨o1, o2, o3, o4, o5, o6⟩ := ho
  refine ⟨hz.trans hR.1, fun b hb => ?_⟩
  rw [o1 b] at hb
  by_cases e : b = a
  · subst e
    refine ⟨(hR.2 b hb).1, fun _ => ?_, fun q => ?_⟩
    · rw [o1 b, hk]; exact ha
    · rw [o1 b, hk] at q; omega
  · obtain ⟨i1, i2, i3⟩ := o2 b e
    exact ⟨(hR.2 b hb).1, (hR.2 b hb).2.kept (hq b e) (o1 b) i1 i2 i3 (o3 b) (o4 b) (o5 b) (o6 b)⟩
theorem b_R.arr {D : va_G} {cy : Nat → ClassId} {B : Nat} {S S' : b_M} {z : Nat} {H H' : Heap} {a ci : Nat} (hR : b_R D cy B S z H) (hk : m_K S a = ci) (hci : 12 ≤ ci) (ho : b_orow S S' a) (hz : H'.size = H.size) (hq : ∀ q, q ≠ a → H'[q]? = H[q]?) (ha : H'[a]? = some (arrV (cy ci) (m_L S a) (m_E S' a))) : b_R D cy B S' z H' := by
  obtain ⟨o1, o2, o3, o4, o5, o6⟩ := ho
  refine ⟨hz.trans hR.1, fun b hb => ?_⟩
  rw [o1 b] at hb
  by_cases e : b = a
  · subst e
    refine ⟨(hR.2 b hb).1, fun q => ?_, fun _ => ?_⟩
    · rw [o1 b, hk] at q; omega
    · rw [o1 b, hk, o5 b]; exact ha
  · obtain ⟨i1, i2, i3⟩ := o6 b e
    exact ⟨(hR.2 b hb).1, (hR.2 b hb).2.kept (hq b e) (o1 b) (fun f => o2 f b) (fun f => o3 f b) (fun f => o4 f b) (o5 b) i1 i2 i3⟩
/-- a new cell at the heap's end -/
theorem b_R.new {D : va_G} {cy : Nat → ClassId} {B : Nat} {S S' : b_M} {z : Nat} {H H' : Heap} (hR : b_R D cy B S z H) (hB : B ≤ z) (hK : ∀ b, b ≠ z → m_K S' b = m_K S b) (ho : ∀ b, b ≠ z → (∀ f, m_I S' f b = m_I S f b) ∧ (∀ f, m_J S' f b = m_J S f b) ∧ (∀ f, m_P S' f b = m_P S f b) ∧ m_L S' b = m_L S b ∧ (∀ i, m_A S' b i = m_A S b i) ∧ (∀ i, m_B S' b i = m_B S b i) ∧ ∀ i, m_C S' b i = m_C S b i) (hz : H'.size = z + 1) (hq : ∀ q, q < z → H'[q]? = H[q]?) (ha : b_At D cy S' z H') : b_R D cy B S' (z + 1) H' := by
  refine ⟨hz, fun b hb => ?_⟩
  by_cases e : b = z
  · subst e; exact ⟨hB, ha⟩
  · rw [hK b e] at hb
    obtain ⟨h1, h2⟩ := hR.2 b hb
    have hlt : b < z := by have := h2.lt; rw [hR.1] at this; exact this
    obtain ⟨i1, i2, i3, i4, i5, i6, i7⟩ := ho b e
    exact ⟨h1, h2.kept (hq b hlt) (hK b e) i1 i2 i3 i4 i5 i6 i7⟩
theorem v_putX (hX : b_X X cc own fr lo mc ms) {a ci k idx : Nat} {C : String} {Tf : u_T} {N : Nat} {ty0 : Nat → FieldType} {v : Value} {S' : b_M} (hk : m_K S a = ci) (hc : vwCl[ci]? = some (C, Tf, N)) (hci : ci < 12) (hkN : k < N) (hin : ∀ w ∈ u_ws C Tf N, w ∈ b_Ws) (hty : ∀ k, k < N → parseFieldDescriptor (Tf k).2.2.1 = some (ty0 k)) (hnm : ∀ a, a < N → ∀ b, b < N → a ≠ b → (Tf a).2.1 ≠ (Tf b).2.1) (hlink : Cond.fieldLink own idx (Tf k).1 (Tf k).2.1 (Tf k).2.2.1 ∈ b_Ws) (hfin : (Tf k).2.2.2 = false ∨ ((Tf k).2.2.2 = true ∧ b_I X ∧ (Tf k).1 = own)) (hn : narrow (ty0 k) v = v) (hfit : fits (ty0 k) v = true) (d : decode cc pc = .ok (.putfield idx, 3)) (ho : b_only S S' a) (hV : ∀ j, m_V S' ci a j = updV (m_V S ci a) k v j) (kk : b_V X S' z ce sl (pc + 3) lv st) : b_V X S z ce sl pc lv (v :: .ref a :: st) := by
  obtain ⟨p, l, e, R, s, m, args, below, meth, c, Q, D, cy, kn, B, nL⟩ := X
  intro H locs ls hR hS hl
  obtain ⟨hx, hb, hml, hown, hts, ⟨hK, hB, hZ⟩, hR0, hst0⟩ := hX
  have hap := va_apart (own := own) hts hin ty0 hty hnm hK hc
  obtain ⟨hBa, h1, -⟩ := hR.2 a (by rw [hk]; omega)
  have h1 := h1 (by rw [hk]; exact hci)
  rw [hk] at h1
  obtain ⟨cell, q1, q2, q3, q4⟩ := h1
  obtain ⟨hSl, hfc, kC, hkC, hkind⟩ := hK.1 ci _ hc
  obtain ⟨cf, kf, fi, f, hi, hsl⟩ := hSl k hkN
  have hN : m_N ci = N := by unfold m_N; rw [hc]
  rw [hN] at q4
  have hst := (u_facts hfc hkC (u_lays hts hin hkN) hi).1
  have hlay := hts _ (hin _ (u_in_lay hkN))
  unfold u_lay at hlay
  have fin : ∀ H', H'[a]? = some (cell.setSlot (D.2 ci k) v) → H'.size = H.size → (∀ q, q ≠ a → H'[q]? = H[q]?) → b_R D cy B S' z H' := fun H' e1 e2 e3 => hR.obj hk hci ho e2 e3 (by
    rw [hN]
    exact (show t_OB a (D.1 ci) N (D.2 ci) H' (updV (m_V S ci a) k v) from ⟨_, e1, q2, q3, t_set q4 hap hkN v⟩).to (fun j _ => (hV j).symm))
  rcases hfin with hfin | ⟨hfin, hin2, hdecl⟩
  · rw [if_neg (by rw [hfin]; decide)] at hlay
    have h6 := u_store hfc hkC hkind hlay hi (hty k hkN) hn hfit
    refine W.putK hx hb (f := f) ⟨hown, hts _ hlink, ⟨_, _, _, hi⟩, hst⟩ (by rw [q2]; exact h6) q1 q3 (by rw [hsl]; exact k2_hasslot (q4 k hkN)) rfl rfl d fun H' e1 e2 e3 => ?_
    rw [hsl] at e1 ⊢
    exact kk H' _ ls (fin H' e1 e2 e3) (hS.put e2 e3 hBa) hl
  · rw [if_pos hfin] at hlay
    have hcf : m.cls = cf := by
      obtain ⟨_, _, c', _, _, _, -, -, hf', -, -, -, hown2, -⟩ := Cond.laysFinal_spec hlay
      have e1 : c' = cf := by have := hi.symm.trans hf'; simp at this; exact this.1.symm
      rw [hdecl] at hown2
      rw [← e1]; exact Option.some.inj (hown.symm.trans hown2)
    have h6 := u_fits hfc hkC hkind (Or.inr hlay) hi (hty k hkN) hn hfit
    refine W.putFinK hx hb hown (hts _ hlink) hi hst hcf hin2 (by rw [q2]; exact h6) q1 q3 (by rw [hsl]; exact k2_hasslot (q4 k hkN)) rfl rfl d fun H' e1 e2 e3 => ?_
    rw [hsl] at e1 ⊢
    exact kk H' _ ls (fin H' e1 e2 e3) (hS.put e2 e3 hBa) hl
theorem b_only_I (S : b_M) (f a : Nat) (v : Int32) : b_only S (s_I S f a v) a := ⟨fun _ => rfl, fun b hb => ⟨fun g => by rw [q_I_s_I, if_neg (fun h => hb h.2)], fun _ => rfl, fun _ => rfl⟩, fun _ => rfl, fun _ _ => rfl, fun _ _ => rfl, fun _ _ => rfl⟩
theorem b_only_J (S : b_M) (f a : Nat) (v : Int64) : b_only S (s_J S f a v) a := ⟨fun _ => rfl, fun b hb => ⟨fun _ => rfl, fun g => by rw [q_J_s_J, if_neg (fun h => hb h.2)], fun _ => rfl⟩, fun _ => rfl, fun _ _ => rfl, fun _ _ => rfl, fun _ _ => rfl⟩
theorem b_only_P (S : b_M) (f a : Nat) (v : Option Nat) : b_only S (s_P S f a v) a := ⟨fun _ => rfl, fun b hb => ⟨fun _ => rfl, fun _ => rfl, fun g => by rw [q_P_s_P, if_neg (fun h => hb h.2)]⟩, fun _ => rfl, fun _ _ => rfl, fun _ _ => rfl, fun _ _ => rfl⟩
theorem b_V_I (S : b_M) {ci k : Nat} (a : Nat) (v : Int32) (hy : m_Y ci k = 1) (j : Nat) : m_V (s_I S (100 * ci + k) a v) ci a j = updV (m_V S ci a) k (.int v) j := by
  by_cases e : j = k
  · subst e; simp [m_V, updV, hy, q_I_s_I]
  · have h1 : ¬ (100 * ci + j = 100 * ci + k) := by omega
    simp [m_V, updV, e, q_I_s_I, q_J_s_I, q_P_s_I]
theorem b_V_J (S : b_M) {ci k : Nat} (a : Nat) (v : Int64) (hy : m_Y ci k = 2) (j : Nat) : m_V (s_J S (100 * ci + k) a v) ci a j = updV (m_V S ci a) k (.long v) j := by
  by_cases e : j = k
  · subst e; simp [m_V, updV, hy, q_J_s_J]
  · have h1 : ¬ (100 * ci + j = 100 * ci + k) := by omega
    simp [m_V, updV, e, q_I_s_J, q_J_s_J, q_P_s_J]
theorem b_V_P (S : b_M) {ci k : Nat} (a : Nat) (v : Option Nat) (hy : m_Y ci k = 0) (j : Nat) : m_V (s_P S (100 * ci + k) a v) ci a j = updV (m_V S ci a) k (va_rf v) j := by
  by_cases e : j = k
  · subst e; simp [m_V, updV, hy, q_P_s_P]
  · have h1 : ¬ (100 * ci + j = 100 * ci + k) := by omega
    simp [m_V, updV, e, q_I_s_P, q_J_s_P, q_P_s_P]
/-- making an object -/
theorem v_new (hX : b_X X cc own fr lo mc ms) {ci idx : Nat} {C : String} {Tf : u_T} {N : Nat} {ty0 : Nat → FieldType} (hc : vwCl[ci]? = some (C, Tf, N)) (hci : ci < 12) (hin : ∀ w ∈ u_ws C Tf N, w ∈ b_Ws) (hty : ∀ k, k < N → parseFieldDescriptor (Tf k).2.2.1 = some (ty0 k)) (hdv : ∀ k, k < N → defaultValue (ty0 k) = (if m_Y ci k = 1 then .int 0 else if m_Y ci k = 2 then .long 0 else .null)) (hcl : Cond.classLink own idx C ∈ b_Ws) (hinst : Cond.instantiable C N ∈ b_Ws) (hini : Cond.initialized C ∈ b_Ws) (d : decode cc pc = .ok (.new idx, 3)) (hce : ce + 1 ≤ mc) (hsl : sl + N ≤ ms) (kk : b_V X (n_O S z ci) (z + 1) (ce + 1) (sl + N) (pc + 3) lv (.ref z :: st)) : b_V X S z ce sl pc lv st := by
  obtain ⟨p, l, e, R, s, m, args, below, meth, c, Q, D, cy, kn, B, nL⟩ := X
  intro H locs ls hR hS hl
  obtain ⟨hx, hb, hml, hown, hts, ⟨hK, hB, hZ⟩, hR0, hst0⟩ := hX
  have hKn := hK.1 ci _ hc
  have hN : m_N ci = N := by unfold m_N; rw [hc]
  have hBz : B ≤ z := Nat.le_trans hB (by rw [← hR.1]; exact hS.1)
  refine W.newcK hx hb hown (hts _ hcl) (hts _ hinst) (hts _ hini) rfl d (by rw [hR0]; exact hce) (by rw [hR0]; exact hsl) hKn.2.1 hR.1 fun H1 kC hkC e1 z1 o1 => ?_
  refine kk H1 locs ls (hR.new hBz (fun b hb => by rw [q_K_n_O, if_neg hb]) (fun b hb => ⟨fun f => by rw [q_I_n_O, if_neg hb], fun f => by rw [q_J_n_O, if_neg hb], fun f => by rw [q_P_n_O, if_neg hb], rfl, fun _ => rfl, fun _ => rfl, fun _ => rfl⟩) z1 o1 ⟨fun _ => ?_, fun q => ?_⟩) ⟨by rw [z1, ← hR.1]; exact Nat.le_succ_of_le hS.1, fun x h1 h2 => (o1 x (by rw [← hR.1]; exact Nat.lt_of_lt_of_le h1 hS.1)).trans (hS.2.1 x h1 h2), hS.2.2⟩ hl
  · rw [q_K_n_O, if_pos rfl, hN]
    refine (u_born ty0 hts hin hKn hkC e1 hty).to (fun k hk => ?_)
    rw [hdv k hk]
    simp [m_V, q_I_n_O, q_J_n_O, q_P_n_O, va_rf]
  · rw [q_K_n_O, if_pos rfl] at q; omega
theorem v_newa_b (hX : b_X X cc own fr lo mc ms) {n : Int32} {N : Nat} (hw : Cond.arrayClass .byte ∈ b_Ws) (d : decode cc pc = .ok (.newarray .byte, 2)) (hn : ¬ n < 0) (hN : n.toNatClampNeg = N) (hby : N * componentBytes .byte ≤ 536870912) (hce : ce + 1 ≤ mc) (hsl : sl + N ≤ ms) (kk : b_V X (n_A S z 12 N) (z + 1) (ce + 1) (sl + N) (pc + 2) lv (.ref z :: st)) : b_V X S z ce sl pc lv (.int n :: st) := by
  obtain ⟨p, l, e, R, s, m, args, below, meth, c, Q, D, cy, kn, B, nL⟩ := X
  intro H locs ls hR hS hl
  obtain ⟨hx, hb, hml, hown, hts, ⟨hK, hB, hZ⟩, hR0, hst0⟩ := hX
  have hBz : B ≤ z := Nat.le_trans hB (by rw [← hR.1]; exact hS.1)
  refine va_newaK hx hb (atype := .byte) (hts _ hw) rfl d rfl hn hN hby (by rw [hR0]; exact hce) (by rw [hR0]; exact hsl) hR.1 fun H1 cA e1 z1 o1 hAr hNm => ?_
  have hcA : cA = cy 12 := by
    have h9 := (hK.2 0 _ rfl).2
    exact Option.some.inj (hNm.symm.trans h9)
  subst hcA
  refine kk H1 locs ls (hR.new hBz (fun b hb => by rw [q_K_n_A, if_neg hb]) (fun b hb => ⟨fun _ => rfl, fun _ => rfl, fun _ => rfl, by rw [q_L_n_A, if_neg hb], fun i => by rw [q_A_n_A, if_neg hb], fun i => by rw [q_B_n_A, if_neg hb], fun i => by rw [q_C_n_A, if_neg hb]⟩) z1 o1 ⟨fun q => ?_, fun _ => ?_⟩) ⟨by rw [z1, ← hR.1]; exact Nat.le_succ_of_le hS.1, fun x h1 h2 => (o1 x (by rw [← hR.1]; exact Nat.lt_of_lt_of_le h1 hS.1)).trans (hS.2.1 x h1 h2), hS.2.2⟩ hl
  · rw [q_K_n_A, if_pos rfl] at q; omega
  · rw [q_K_n_A, if_pos rfl, q_L_n_A, if_pos rfl, e1]
    congr 2
    funext j
    simp [m_E, q_K_n_A, q_A_n_A, q_B_n_A, newarray.typeOf, defaultValue]
theorem v_newa_i (hX : b_X X cc own fr lo mc ms) {n : Int32} {N : Nat} (hw : Cond.arrayClass .int ∈ b_Ws) (d : decode cc pc = .ok (.newarray .int, 2)) (hn : ¬ n < 0) (hN : n.toNatClampNeg = N) (hby : N * componentBytes .int ≤ 536870912) (hce : ce + 1 ≤ mc) (hsl : sl + N ≤ ms) (kk : b_V X (n_A S z 13 N) (z + 1) (ce + 1) (sl + N) (pc + 2) lv (.ref z :: st)) : b_V X S z ce sl pc lv (.int n :: st) := by
  obtain ⟨p, l, e, R, s, m, args, below, meth, c, Q, D, cy, kn, B, nL⟩ := X
  intro H locs ls hR hS hl
  obtain ⟨hx, hb, hml, hown, hts, ⟨hK, hB, hZ⟩, hR0, hst0⟩ := hX
  have hBz : B ≤ z := Nat.le_trans hB (by rw [← hR.1]; exact hS.1)
  refine va_newaK hx hb (atype := .int) (hts _ hw) rfl d rfl hn hN hby (by rw [hR0]; exact hce) (by rw [hR0]; exact hsl) hR.1 fun H1 cA e1 z1 o1 hAr hNm => ?_
  have hcA : cA = cy 13 := by
    have h9 := (hK.2 1 _ rfl).2
    exact Option.some.inj (hNm.symm.trans h9)
  subst hcA
  refine kk H1 locs ls (hR.new hBz (fun b hb => by rw [q_K_n_A, if_neg hb]) (fun b hb => ⟨fun _ => rfl, fun _ => rfl, fun _ => rfl, by rw [q_L_n_A, if_neg hb], fun i => by rw [q_A_n_A, if_neg hb], fun i => by rw [q_B_n_A, if_neg hb], fun i => by rw [q_C_n_A, if_neg hb]⟩) z1 o1 ⟨fun q => ?_, fun _ => ?_⟩) ⟨by rw [z1, ← hR.1]; exact Nat.le_succ_of_le hS.1, fun x h1 h2 => (o1 x (by rw [← hR.1]; exact Nat.lt_of_lt_of_le h1 hS.1)).trans (hS.2.1 x h1 h2), hS.2.2⟩ hl
  · rw [q_K_n_A, if_pos rfl] at q; omega
  · rw [q_K_n_A, if_pos rfl, q_L_n_A, if_pos rfl, e1]
    congr 2
    funext j
    simp [m_E, q_K_n_A, q_A_n_A, q_B_n_A, newarray.typeOf, defaultValue]
theorem v_newa_l (hX : b_X X cc own fr lo mc ms) {n : Int32} {N : Nat} (hw : Cond.arrayClass .long ∈ b_Ws) (d : decode cc pc = .ok (.newarray .long, 2)) (hn : ¬ n < 0) (hN : n.toNatClampNeg = N) (hby : N * componentBytes .long ≤ 536870912) (hce : ce + 1 ≤ mc) (hsl : sl + N ≤ ms) (kk : b_V X (n_A S z 14 N) (z + 1) (ce + 1) (sl + N) (pc + 2) lv (.ref z :: st)) : b_V X S z ce sl pc lv (.int n :: st) := by
  obtain ⟨p, l, e, R, s, m, args, below, meth, c, Q, D, cy, kn, B, nL⟩ := X
  intro H locs ls hR hS hl
  obtain ⟨hx, hb, hml, hown, hts, ⟨hK, hB, hZ⟩, hR0, hst0⟩ := hX
  have hBz : B ≤ z := Nat.le_trans hB (by rw [← hR.1]; exact hS.1)
  refine va_newaK hx hb (atype := .long) (hts _ hw) rfl d rfl hn hN hby (by rw [hR0]; exact hce) (by rw [hR0]; exact hsl) hR.1 fun H1 cA e1 z1 o1 hAr hNm => ?_
  have hcA : cA = cy 14 := by
    have h9 := (hK.2 2 _ rfl).2
    exact Option.some.inj (hNm.symm.trans h9)
  subst hcA
  refine kk H1 locs ls (hR.new hBz (fun b hb => by rw [q_K_n_A, if_neg hb]) (fun b hb => ⟨fun _ => rfl, fun _ => rfl, fun _ => rfl, by rw [q_L_n_A, if_neg hb], fun i => by rw [q_A_n_A, if_neg hb], fun i => by rw [q_B_n_A, if_neg hb], fun i => by rw [q_C_n_A, if_neg hb]⟩) z1 o1 ⟨fun q => ?_, fun _ => ?_⟩) ⟨by rw [z1, ← hR.1]; exact Nat.le_succ_of_le hS.1, fun x h1 h2 => (o1 x (by rw [← hR.1]; exact Nat.lt_of_lt_of_le h1 hS.1)).trans (hS.2.1 x h1 h2), hS.2.2⟩ hl
  · rw [q_K_n_A, if_pos rfl] at q; omega
  · rw [q_K_n_A, if_pos rfl, q_L_n_A, if_pos rfl, e1]
    congr 2
    funext j
    simp [m_E, q_K_n_A, q_A_n_A, q_B_n_A, newarray.typeOf, defaultValue]
theorem v_newa_z (hX : b_X X cc own fr lo mc ms) {n : Int32} {N : Nat} (hw : Cond.arrayClass .boolean ∈ b_Ws) (d : decode cc pc = .ok (.newarray .boolean, 2)) (hn : ¬ n < 0) (hN : n.toNatClampNeg = N) (hby : N * componentBytes .boolean ≤ 536870912) (hce : ce + 1 ≤ mc) (hsl : sl + N ≤ ms) (kk : b_V X (n_A S z 15 N) (z + 1) (ce + 1) (sl + N) (pc + 2) lv (.ref z :: st)) : b_V X S z ce sl pc lv (.int n :: st) := by
  obtain ⟨p, l, e, R, s, m, args, below, meth, c, Q, D, cy, kn, B, nL⟩ := X
  intro H locs ls hR hS hl
  obtain ⟨hx, hb, hml, hown, hts, ⟨hK, hB, hZ⟩, hR0, hst0⟩ := hX
  have hBz : B ≤ z := Nat.le_trans hB (by rw [← hR.1]; exact hS.1)
  refine va_newaK hx hb (atype := .boolean) (hts _ hw) rfl d rfl hn hN hby (by rw [hR0]; exact hce) (by rw [hR0]; exact hsl) hR.1 fun H1 cA e1 z1 o1 hAr hNm => ?_
  have hcA : cA = cy 15 := by
    have h9 := (hK.2 3 _ rfl).2
    exact Option.some.inj (hNm.symm.trans h9)
  subst hcA
  refine kk H1 locs ls (hR.new hBz (fun b hb => by rw [q_K_n_A, if_neg hb]) (fun b hb => ⟨fun _ => rfl, fun _ => rfl, fun _ => rfl, by rw [q_L_n_A, if_neg hb], fun i => by rw [q_A_n_A, if_neg hb], fun i => by rw [q_B_n_A, if_neg hb], fun i => by rw [q_C_n_A, if_neg hb]⟩) z1 o1 ⟨fun q => ?_, fun _ => ?_⟩) ⟨by rw [z1, ← hR.1]; exact Nat.le_succ_of_le hS.1, fun x h1 h2 => (o1 x (by rw [← hR.1]; exact Nat.lt_of_lt_of_le h1 hS.1)).trans (hS.2.1 x h1 h2), hS.2.2⟩ hl
  · rw [q_K_n_A, if_pos rfl] at q; omega
  · rw [q_K_n_A, if_pos rfl, q_L_n_A, if_pos rfl, e1]
    congr 2
    funext j
    simp [m_E, q_K_n_A, q_A_n_A, q_B_n_A, newarray.typeOf, defaultValue]
theorem v_iald (hX : b_X X cc own fr lo mc ms) {a : Nat} {i : Int32} (hk : m_K S a = 13) (hin : vp_in i (m_L S a)) (d : decode cc pc = .ok (.iaload, 1)) (kk : b_V X S z ce sl (pc + 1) lv (.int (m_A S a i.toNatClampNeg) :: st)) : b_V X S z ce sl pc lv (.int i :: .ref a :: st) := by
  obtain ⟨p, l, e, R, s, m, args, below, meth, c, Q, D, cy, kn, B, nL⟩ := X
  intro H locs ls hR hS hl
  obtain ⟨hx, hb, hml, hown, hts, ⟨hK, hB, hZ⟩, hR0, hst0⟩ := hX
  have hlt : i.toNatClampNeg < m_L S a := Nat.not_le.mp fun q => hin (Or.inr q)
  have h1 := (hR.2 a (by rw [hk]; omega)).2.2 (by rw [hk]; omega)
  rw [hk] at h1
  exact W.iald (v := .int (m_A S a i.toNatClampNeg)) hx hb h1 ((hK.2 1 _ rfl).1 _ _) (fun q => by cases q) (by rw [arrV_size]; exact hin) (by rw [arrV_read _ _ hlt]; simp [m_E, hk]) rfl rfl d (kk H locs ls hR hS hl)
theorem v_bald (hX : b_X X cc own fr lo mc ms) {a : Nat} {i : Int32} (hk : m_K S a = 12) (hin : vp_in i (m_L S a)) (d : decode cc pc = .ok (.baload, 1)) (kk : b_V X S z ce sl (pc + 1) lv (.int (m_A S a i.toNatClampNeg) :: st)) : b_V X S z ce sl pc lv (.int i :: .ref a :: st) := by
  obtain ⟨p, l, e, R, s, m, args, below, meth, c, Q, D, cy, kn, B, nL⟩ := X
  intro H locs ls hR hS hl
  obtain ⟨hx, hb, hml, hown, hts, ⟨hK, hB, hZ⟩, hR0, hst0⟩ := hX
  have hlt : i.toNatClampNeg < m_L S a := Nat.not_le.mp fun q => hin (Or.inr q)
  have h1 := (hR.2 a (by rw [hk]; omega)).2.2 (by rw [hk]; omega)
  rw [hk] at h1
  exact W.bald (v := .int (m_A S a i.toNatClampNeg)) hx hb h1 ((hK.2 0 _ rfl).1 _ _) (fun q => by cases q) (by rw [arrV_size]; exact hin) (by rw [arrV_read _ _ hlt]; simp [m_E, hk]) rfl rfl d (kk H locs ls hR hS hl)
theorem v_zald (hX : b_X X cc own fr lo mc ms) {a : Nat} {i : Int32} (hk : m_K S a = 15) (hin : vp_in i (m_L S a)) (d : decode cc pc = .ok (.baload, 1)) (kk : b_V X S z ce sl (pc + 1) lv (.int (m_A S a i.toNatClampNeg) :: st)) : b_V X S z ce sl pc lv (.int i :: .ref a :: st) := by
  obtain ⟨p, l, e, R, s, m, args, below, meth, c, Q, D, cy, kn, B, nL⟩ := X
  intro H locs ls hR hS hl
  obtain ⟨hx, hb, hml, hown, hts, ⟨hK, hB, hZ⟩, hR0, hst0⟩ := hX
  have hlt : i.toNatClampNeg < m_L S a := Nat.not_le.mp fun q => hin (Or.inr q)
  have h1 := (hR.2 a (by rw [hk]; omega)).2.2 (by rw [hk]; omega)
  rw [hk] at h1
  exact W.zald (v := .int (m_A S a i.toNatClampNeg)) hx hb h1 ((hK.2 3 _ rfl).1 _ _) (fun q => by cases q) (by rw [arrV_size]; exact hin) (by rw [arrV_read _ _ hlt]; simp [m_E, hk]) rfl rfl d (kk H locs ls hR hS hl)
theorem v_lald (hX : b_X X cc own fr lo mc ms) {a : Nat} {i : Int32} (hk : m_K S a = 14) (hin : vp_in i (m_L S a)) (d : decode cc pc = .ok (.laload, 1)) (kk : b_V X S z ce sl (pc + 1) lv (.long (m_B S a i.toNatClampNeg) :: st)) : b_V X S z ce sl pc lv (.int i :: .ref a :: st) := by
  obtain ⟨p, l, e, R, s, m, args, below, meth, c, Q, D, cy, kn, B, nL⟩ := X
  intro H locs ls hR hS hl
  obtain ⟨hx, hb, hml, hown, hts, ⟨hK, hB, hZ⟩, hR0, hst0⟩ := hX
  have hlt : i.toNatClampNeg < m_L S a := Nat.not_le.mp fun q => hin (Or.inr q)
  have h1 := (hR.2 a (by rw [hk]; omega)).2.2 (by rw [hk]; omega)
  rw [hk] at h1
  exact W.lald (v := .long (m_B S a i.toNatClampNeg)) hx hb h1 ((hK.2 2 _ rfl).1 _ _) (fun q => by cases q) (by rw [arrV_size]; exact hin) (by rw [arrV_read _ _ hlt]; simp [m_E, hk]) rfl rfl d (kk H locs ls hR hS hl)
theorem v_iast (hX : b_X X cc own fr lo mc ms) {a : Nat} {i : Int32} {x : Int32} (hk : m_K S a = 13) (hin : vp_in i (m_L S a)) (d : decode cc pc = .ok (.iastore, 1)) (kk : b_V X (s_A S a i.toNatClampNeg x) z ce sl (pc + 1) lv st) : b_V X S z ce sl pc lv (.int x :: .int i :: .ref a :: st) := by
  obtain ⟨p, l, e, R, s, m, args, below, meth, c, Q, D, cy, kn, B, nL⟩ := X
  intro H locs ls hR hS hl
  obtain ⟨hx, hb, hml, hown, hts, ⟨hK, hB, hZ⟩, hR0, hst0⟩ := hX
  obtain ⟨hBa, -, h1⟩ := hR.2 a (by rw [hk]; omega)
  have h1 := h1 (by rw [hk]; omega)
  rw [hk] at h1
  refine W.iast hx hb h1 ((hK.2 1 _ rfl).1 _ _) (fun q => by cases q) (by rw [arrV_size]; exact hin) rfl rfl d fun H1 e1 z1 o1 => ?_
  refine kk H1 _ ls (hR.arr hk (by omega) ⟨fun _ => rfl, fun _ _ => rfl, fun _ _ => rfl, fun _ _ => rfl, fun _ => rfl, fun b hb => ⟨fun j => by simp [q_A_s_A, hb], fun j => by simp [q_B_s_A, hb], fun _ => rfl⟩⟩ z1 o1 ?_) (hS.put z1 o1 hBa) hl
  rw [e1, arrV_store]
  congr 2
  funext j
  by_cases hj : j = i.toNatClampNeg
  · subst hj; simp [updV, m_E, hk, q_K_s_A, q_A_s_A]
  · simp [updV, m_E, hk, hj, q_K_s_A, q_A_s_A, q_B_s_A, q_C_s_A]
theorem v_bast (hX : b_X X cc own fr lo mc ms) {a : Nat} {i : Int32} {x : Int32} (hk : m_K S a = 12) (hin : vp_in i (m_L S a)) (d : decode cc pc = .ok (.bastore, 1)) (kk : b_V X (s_A S a i.toNatClampNeg x.toInt8.toInt32) z ce sl (pc + 1) lv st) : b_V X S z ce sl pc lv (.int x :: .int i :: .ref a :: st) := by
  obtain ⟨p, l, e, R, s, m, args, below, meth, c, Q, D, cy, kn, B, nL⟩ := X
  intro H locs ls hR hS hl
  obtain ⟨hx, hb, hml, hown, hts, ⟨hK, hB, hZ⟩, hR0, hst0⟩ := hX
  obtain ⟨hBa, -, h1⟩ := hR.2 a (by rw [hk]; omega)
  have h1 := h1 (by rw [hk]; omega)
  rw [hk] at h1
  refine W.bast hx hb h1 ((hK.2 0 _ rfl).1 _ _) (fun q => by cases q) (by rw [arrV_size]; exact hin) rfl rfl d fun H1 e1 z1 o1 => ?_
  refine kk H1 _ ls (hR.arr hk (by omega) ⟨fun _ => rfl, fun _ _ => rfl, fun _ _ => rfl, fun _ _ => rfl, fun _ => rfl, fun b hb => ⟨fun j => by simp [q_A_s_A, hb], fun j => by simp [q_B_s_A, hb], fun _ => rfl⟩⟩ z1 o1 ?_) (hS.put z1 o1 hBa) hl
  rw [e1, arrV_store]
  congr 2
  funext j
  by_cases hj : j = i.toNatClampNeg
  · subst hj; simp [updV, m_E, hk, q_K_s_A, q_A_s_A, narrow_byte]
  · simp [updV, m_E, hk, hj, q_K_s_A, q_A_s_A, q_B_s_A, q_C_s_A]
theorem v_last (hX : b_X X cc own fr lo mc ms) {a : Nat} {i : Int32} {x : Int64} (hk : m_K S a = 14) (hin : vp_in i (m_L S a)) (d : decode cc pc = .ok (.lastore, 1)) (kk : b_V X (s_B S a i.toNatClampNeg x) z ce sl (pc + 1) lv st) : b_V X S z ce sl pc lv (.long x :: .int i :: .ref a :: st) := by
  obtain ⟨p, l, e, R, s, m, args, below, meth, c, Q, D, cy, kn, B, nL⟩ := X
  intro H locs ls hR hS hl
  obtain ⟨hx, hb, hml, hown, hts, ⟨hK, hB, hZ⟩, hR0, hst0⟩ := hX
  obtain ⟨hBa, -, h1⟩ := hR.2 a (by rw [hk]; omega)
  have h1 := h1 (by rw [hk]; omega)
  rw [hk] at h1
  refine W.last hx hb h1 ((hK.2 2 _ rfl).1 _ _) (fun q => by cases q) (by rw [arrV_size]; exact hin) rfl rfl d fun H1 e1 z1 o1 => ?_
  refine kk H1 _ ls (hR.arr hk (by omega) ⟨fun _ => rfl, fun _ _ => rfl, fun _ _ => rfl, fun _ _ => rfl, fun _ => rfl, fun b hb => ⟨fun j => by simp [q_A_s_B, hb], fun j => by simp [q_B_s_B, hb], fun _ => rfl⟩⟩ z1 o1 ?_) (hS.put z1 o1 hBa) hl
  rw [e1, arrV_store]
  congr 2
  funext j
  by_cases hj : j = i.toNatClampNeg
  · subst hj; simp [updV, m_E, hk, q_K_s_B, q_B_s_B]
  · simp [updV, m_E, hk, hj, q_K_s_B, q_A_s_B, q_B_s_B, q_C_s_B]
theorem v_zast (hX : b_X X cc own fr lo mc ms) {a : Nat} {i x : Int32} (hk : m_K S a = 15) (hin : vp_in i (m_L S a)) (hn : narrow .boolean (.int x) = .int x) (d : decode cc pc = .ok (.bastore, 1)) (kk : b_V X (s_A S a i.toNatClampNeg x) z ce sl (pc + 1) lv st) : b_V X S z ce sl pc lv (.int x :: .int i :: .ref a :: st) := by
  obtain ⟨p, l, e, R, s, m, args, below, meth, c, Q, D, cy, kn, B, nL⟩ := X
  intro H locs ls hR hS hl
  obtain ⟨hx, hb, hml, hown, hts, ⟨hK, hB, hZ⟩, hR0, hst0⟩ := hX
  obtain ⟨hBa, -, h1⟩ := hR.2 a (by rw [hk]; omega)
  have h1 := h1 (by rw [hk]; omega)
  rw [hk] at h1
  refine W.zast hx hb h1 ((hK.2 3 _ rfl).1 _ _) (fun q => by cases q) (by rw [arrV_size]; exact hin) rfl rfl d fun H1 e1 z1 o1 => ?_
  refine kk H1 _ ls (hR.arr hk (by omega) ⟨fun _ => rfl, fun _ _ => rfl, fun _ _ => rfl, fun _ _ => rfl, fun _ => rfl, fun b hb => ⟨fun j => by simp [q_A_s_A, hb], fun j => by simp [q_B_s_A], fun _ => rfl⟩⟩ z1 o1 ?_) (hS.put z1 o1 hBa) hl
  rw [e1, arrV_store, hn]
  congr 2
  funext j
  by_cases hj : j = i.toNatClampNeg
  · subst hj; simp [updV, m_E, hk, q_K_s_A, q_A_s_A]
  · simp [updV, m_E, hk, hj, q_K_s_A, q_A_s_A, q_B_s_A, q_C_s_A]
theorem v_alen (hX : b_X X cc own fr lo mc ms) {a kd t0 : Nat} {ty : FieldType} (hk : m_K S a = kd) (hkd : 12 ≤ kd ∧ kd < 18) (ht : (b_Tys (X.2.2.2.2.2.2.2.2.2.2.2.2.1))[t0]? = some (X.2.2.2.2.2.2.2.2.2.2.2.2.1 kd, ty)) (d : decode cc pc = .ok (.arraylength, 1)) (kk : b_V X S z ce sl (pc + 1) lv (.int (nI (m_L S a)) :: st)) : b_V X S z ce sl pc lv (.ref a :: st) := by
  obtain ⟨p, l, e, R, s, m, args, below, meth, c, Q, D, cy, kn, B, nL⟩ := X
  intro H locs ls hR hS hl
  obtain ⟨hx, hb, hml, hown, hts, ⟨hK, hB, hZ⟩, hR0, hst0⟩ := hX
  have h1 := (hR.2 a (by rw [hk]; exact hkd.2)).2.2 (by rw [hk]; exact hkd.1)
  rw [hk] at h1
  exact W.alen (n := nI (m_L S a)) hx hb h1 ((hK.2 t0 _ ht).1 _ _) (by rw [arrV_size]; rfl) rfl rfl d (kk H locs ls hR hS hl)
theorem v_gets0 (hX : b_X X cc own fr lo mc ms) {idx : Nat} (hlink : Cond.fieldLink own idx "AssembleLines$Operation" "NOTHING" "LAssembleLines$Operation;" ∈ b_Ws) (d : decode cc pc = .ok (.getstatic idx, 3)) (kk : b_V X S z ce sl (pc + 3) lv (.ref (X.2.2.2.2.2.2.2.2.2.2.2.2.2.1 0) :: st)) : b_V X S z ce sl pc lv st := by
  obtain ⟨p, l, e, R, s, m, args, below, meth, c, Q, D, cy, kn, B, nL⟩ := X
  intro H locs ls hR hS hl
  obtain ⟨hx, hb, hml, hown, hts, ⟨hK, hB, hZ⟩, hR0, hst0⟩ := hX
  exact va_gets hx hb hZ.1.1 hS hown (hts _ hlink) (fun _ h9 => h9) d (kk H locs ls hR hS hl)
/-- an array of objects of a kind: made, read, written -/
theorem v_anew (hX : b_X X cc own fr lo mc ms) {kd t0 idx : Nat} {C : String} {n : Int32} {N : Nat} (hkd : kd = 16 ∨ kd = 17) (ht : ∀ cy : Nat → ClassId, (b_Tys cy)[t0]? = some (cy kd, .object C)) (hcl : Cond.classLink own idx C ∈ b_Ws) (hov : C ∈ b_Over) (d : decode cc pc = .ok (.anewarray idx, 3)) (hn : ¬ n < 0) (hN : n.toNatClampNeg = N) (hby : N * 4 ≤ 536870912) (hce : ce + 1 ≤ mc) (hsl : sl + N ≤ ms) (kk : b_V X (n_A S z kd N) (z + 1) (ce + 1) (sl + N) (pc + 3) lv (.ref z :: st)) : b_V X S z ce sl pc lv (.int n :: st) := by
  obtain ⟨p, l, e, R, s, m, args, below, meth, c, Q, D, cy, kn, B, nL⟩ := X
  intro H locs ls hR hS hl
  obtain ⟨hx, hb, hml, hown, hts, ⟨hK, hB, hZ⟩, hR0, hst0⟩ := hX
  have hBz : B ≤ z := Nat.le_trans hB (by rw [← hR.1]; exact hS.1)
  subst hN
  refine W.anew hx hb hown (hts _ hcl) (va_AO.use (hZ.2.2.2.2.2.1 C hov)) rfl d rfl hn hby (by rw [hR0]; exact hce) (by rw [hR0]; exact hsl) fun cA kA comp f1 f2 f3 f4 => ?_
  generalize hH1 : H.push ({ cls := cA, slots := Array.replicate n.toNatClampNeg .null, vm := .none } : Cell) = H1
  have z1 : H1.size = z + 1 := by rw [← hH1, Array.size_push, hR.1]
  have e1 : H1[z]? = some (arrV cA n.toNatClampNeg (fun _ => .null)) := by rw [← hH1, ← hR.1, Array.getElem?_push_size, ← arrV_new]
  have o1 : ∀ q : Nat, q < z → H1[q]? = H[q]? := fun q hq => by rw [← hH1, Array.getElem?_push, if_neg (by rw [hR.1]; exact Nat.ne_of_lt hq)]
  have hcA : cA = cy kd := by
    obtain ⟨_, _, _, _, _, k4⟩ := (hK.2 t0 _ (ht cy)).2
    exact Option.some.inj (f1.symm.trans k4)
  subst hcA
  rw [hR.1]
  refine kk H1 locs ls (hR.new hBz (fun b hb => by rw [q_K_n_A, if_neg hb]) (fun b hb => ⟨fun _ => rfl, fun _ => rfl, fun _ => rfl, by rw [q_L_n_A, if_neg hb], fun i => by rw [q_A_n_A, if_neg hb], fun i => by rw [q_B_n_A, if_neg hb], fun i => by rw [q_C_n_A, if_neg hb]⟩) z1 o1 ⟨fun q => ?_, fun _ => ?_⟩) ⟨by rw [z1, ← hR.1]; exact Nat.le_succ_of_le hS.1, fun x h1 h2 => (o1 x (by rw [← hR.1]; exact Nat.lt_of_lt_of_le h1 hS.1)).trans (hS.2.1 x h1 h2), hS.2.2⟩ hl
  · rw [q_K_n_A, if_pos rfl] at q; omega
  · rw [q_K_n_A, if_pos rfl, q_L_n_A, if_pos rfl, e1]
    congr 2
    funext j
    rcases hkd with rfl | rfl <;> simp [m_E, q_K_n_A, q_C_n_A, va_rf]
theorem v_aald (hX : b_X X cc own fr lo mc ms) {a kd t0 : Nat} {C : String} {i : Int32} {q : Nat} (hkd : kd = 16 ∨ kd = 17) (ht : ∀ cy : Nat → ClassId, (b_Tys cy)[t0]? = some (cy kd, .object C)) (hk : m_K S a = kd) (hin : vp_in i (m_L S a)) (hq : m_C S a i.toNatClampNeg = some q) (d : decode cc pc = .ok (.aaload, 1)) (kk : b_V X S z ce sl (pc + 1) lv (.ref q :: st)) : b_V X S z ce sl pc lv (.int i :: .ref a :: st) := by
  obtain ⟨p, l, e, R, s, m, args, below, meth, c, Q, D, cy, kn, B, nL⟩ := X
  intro H locs ls hR hS hl
  obtain ⟨hx, hb, hml, hown, hts, ⟨hK, hB, hZ⟩, hR0, hst0⟩ := hX
  have hlt : i.toNatClampNeg < m_L S a := Nat.not_le.mp fun q => hin (Or.inr q)
  have h1 := (hR.2 a (by rw [hk]; omega)).2.2 (by rw [hk]; omega)
  rw [hk] at h1
  exact W.aald (v := .ref q) (ty := .object C) hx hb h1 ((hK.2 t0 _ (ht cy)).1 _ _) rfl (fun q => by cases q) (by rw [arrV_size]; exact hin) (by rw [arrV_read _ _ hlt]; rcases hkd with rfl | rfl <;> simp [m_E, hk, hq, va_rf]) rfl rfl d (kk H locs ls hR hS hl)
theorem v_aast (hX : b_X X cc own fr lo mc ms) {a kd t0 v ci : Nat} {C : String} {Tf : u_T} {N : Nat} {i : Int32} (hkd : kd = 16 ∨ kd = 17) (ht : ∀ cy : Nat → ClassId, (b_Tys cy)[t0]? = some (cy kd, .object C)) (hk : m_K S a = kd) (hin : vp_in i (m_L S a)) (hv : m_K S v = ci) (hci : ci < 12) (hc : vwCl[ci]? = some (C, Tf, N)) (d : decode cc pc = .ok (.aastore, 1)) (kk : b_V X (s_C S a i.toNatClampNeg (some v)) z ce sl (pc + 1) lv st) : b_V X S z ce sl pc lv (.ref v :: .int i :: .ref a :: st) := by
  obtain ⟨p, l, e, R, s, m, args, below, meth, c, Q, D, cy, kn, B, nL⟩ := X
  intro H locs ls hR hS hl
  obtain ⟨hx, hb, hml, hown, hts, ⟨hK, hB, hZ⟩, hR0, hst0⟩ := hX
  have hlt : i.toNatClampNeg < m_L S a := Nat.not_le.mp fun q => hin (Or.inr q)
  have h0 : ¬ i < 0 := fun q => hin (Or.inl q)
  obtain ⟨hBa, -, h1⟩ := hR.2 a (by rw [hk]; omega)
  have h1 := h1 (by rw [hk]; omega)
  rw [hk] at h1
  obtain ⟨-, h2, -⟩ := hR.2 v (by rw [hv]; omega)
  have h2 := h2 (by rw [hv]; exact hci)
  rw [hv] at h2
  obtain ⟨cellV, g1, g2, g3, -⟩ := h2
  have hcls := (hK.1 ci _ hc).2
  obtain ⟨kA, comp, k1, k2, k3, -⟩ := (hK.2 t0 _ (ht cy)).2
  have hcomp : comp = D.1 ci := Option.some.inj (k3.symm.trans hcls.1)
  subst hcomp
  obtain ⟨kC, hkC, -⟩ := hcls.2
  refine W.aast hx hb h1 (fun q h => by cases h) (fun h => by cases h) k1 k2 rfl hkC ⟨h0, by rw [arrV_size]; exact hlt⟩ g1 (fun q h => by rw [g3] at h; cases h) (by rw [g2]; exact hkC) (by rw [g2]; exact va_assign hcls) rfl rfl d fun H1 e1 z1 o1 => ?_
  refine kk H1 _ ls (hR.arr hk (by omega) ⟨fun _ => rfl, fun _ _ => rfl, fun _ _ => rfl, fun _ _ => rfl, fun _ => rfl, fun b hb => ⟨fun _ => rfl, fun _ => rfl, fun j => by simp [q_C_s_C, hb]⟩⟩ z1 o1 ?_) (hS.put z1 o1 hBa) hl
  rw [e1, arrV_store]
  congr 2
  funext j
  by_cases hj : j = i.toNatClampNeg
  · subst hj; rcases hkd with rfl | rfl <;> simp [updV, m_E, hk, q_K_s_C, q_C_s_C, va_rf]
  · rcases hkd with rfl | rfl <;> simp [updV, m_E, hk, hj, q_K_s_C, q_C_s_C]
end BHEAP
