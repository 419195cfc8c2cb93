/-- the class's invariant between calls -/
def cI (kn : Nat → Nat) (S : b_M) (x w : Nat) : Prop := cS S x ∧ eI S x w ∧ hM S x w ∧ gN S x ∧ gR S x ∧ gP S x ∧ oOk kn S x ∧ bY S ∧ sE S x ∧ tJ kn S x
theorem cI.far {kn : Nat → Nat} {Fs : List Nat} {w w' : Nat} {S S1 : b_M} {x : Nat} (h : cI kn S x w') (f : cFr Fs [] [] w S S1 x) (hF : ∀ q ∈ Fs, 1000 ≤ q) : cI kn S1 x w' := by
  obtain ⟨g, a1, a2, a3, a4, a5, a6, a7, a8, a9⟩ := h
  have n : ∀ k, k < 1000 → k ∉ Fs := fun k hk q => by have := hF k q; omega
  exact ⟨f.keep (fun _ q => absurd q List.not_mem_nil) g, a1.fr g f ⟨⟨n _ (by decide), n _ (by decide)⟩, List.not_mem_nil, List.not_mem_nil⟩, a2.fr g f List.not_mem_nil, a3.fr g f ⟨⟨n _ (by decide), n _ (by decide)⟩, List.not_mem_nil, List.not_mem_nil⟩, a4.fr g f (n _ (by decide)), a5.fr g f (n _ (by decide)), a6.fr g f List.not_mem_nil, a7.fr g f trivial, a8.fr g f ⟨⟨n _ (by decide), n _ (by decide), n _ (by decide), n _ (by decide)⟩, List.not_mem_nil⟩, a9.fr g f ⟨List.not_mem_nil, List.not_mem_nil⟩⟩
theorem cI.same {kn : Nat → Nat} {Fs : List Nat} {w w' : Nat} {S S1 : b_M} {x : Nat} (h : cI kn S x w') (f : cFr Fs [] [] w S S1 x) : lA S1 x = lA S x := lA.fr h.2.1 h.2.2.1 f ⟨List.not_mem_nil, List.not_mem_nil⟩
theorem cFr_out {S : b_M} {x o i : Nat} {v : Int64} : cFr [] [] [] 0 S (s_B S o i v) x := (cFr.rf S x).sB (Or.inr (Nat.zero_le o))
theorem cI.room {kn : Nat → Nat} {w : Nat} {S : b_M} {x : Nat} (h : cI kn S x w) : 0 ≤ lA S x ∧ lA S x ≤ 2162688 := by
  have h1 := h.2.1.2.1
  have h2 := isP_b h.2.2.1.1
  unfold lA
  omega
set_option maxRecDepth 100000 in
set_option maxHeartbeats 4000000 in
theorem cI_of {kn : Nat → Nat} {S S' : b_M} {x w : Nat} (h : iAL kn S S' x (x + 1)) (h0 : ∀ f, m_I S f x = 0) (j1 : ∀ j, j < 1021 → m_A S' (x + 1 + 6) j = -1) (j2 : ∀ j, m_A S' (x + 1 + 7) j = 0) (j3 : ∀ j, j < 401 → m_P S' 800 (x + 1 + 16 + j) = some (kn 0)) (hb : bY S') : cI kn S' x w ∧ m_I S' 1001 x = iI 0 ∧ lA S' x = 512 := by
  obtain ⟨a1, a2, a3, ⟨a4, a5, a6, a7⟩, ⟨a8, a9⟩, ⟨E1, E2, ⟨e1, e2, e3, e4, e5, e6, e7, e8, e9, e10⟩, e0, q1⟩, ⟨P1, P2, ⟨p1, p2, p3, ⟨p4, p5, p6, p7⟩, ⟨N1, N2, ⟨n1, n2, ⟨n3, n4, n5, n6, n7, n8⟩, n9, n10, n11, n12, n13, n14, n15, n16⟩, nq⟩, ⟨X1, X2, ⟨x1, x2, x3, ⟨x4, x5, x6, x7, x8⟩, x9, x10, x11, x12, x13, x14, x15, x16, x17⟩, x0, xq⟩, p8, p9, p10⟩, p0, q2⟩, ⟨T1, T2, ⟨t1, t2, t3, ⟨t4, t5, t6, t7, t8, t9, t10, t11, t12⟩, ⟨C1, C2, ⟨c1, c2, c3, c4, c5, c6, c7⟩, c0, cq⟩, ⟨M1, M2, ⟨m1, m2, m3, m4, m5, m6, m7, m8, m9, m10, m11, m12, m13⟩, m0, mq⟩, ⟨L1, L2, ⟨l1, l2, l3, ⟨l4, l5, l6, l7⟩, ⟨l8, l9, l10, l11⟩, l12, l13, l14⟩, l0, lq⟩⟩, t0, q3⟩⟩ := h
  have fN : ∀ b, x + 6 ≤ b → b < x + 11 → b_eq N2 S' b := fun b g1 g2 => (nq b (by omega) (by omega)).tr (q2 b (by omega) (by omega))
  have fX : ∀ b, x + 11 ≤ b → b < x + 16 → b_eq X2 S' b := fun b g1 g2 => (xq b (by omega) (by omega)).tr (q2 b (by omega) (by omega))
  have fC : ∀ b, x + 419 ≤ b → b < x + 421 → b_eq C2 S' b := fun b g1 g2 => (cq b (by omega) (by omega)).tr (q3 b (by omega) (by omega))
  have fM : ∀ b, x + 421 ≤ b → b < x + 425 → b_eq M2 S' b := fun b g1 g2 => (mq b (by omega) (by omega)).tr (q3 b (by omega) (by omega))
  have fL : ∀ b, x + 425 ≤ b → b < x + 457 → b_eq L2 S' b := fun b g1 g2 => (lq b (by omega) (by omega)).tr (q3 b (by omega) (by omega))
  have hS : cS S' x := by
    refine ⟨?_, ?_, ?_, ?_, ?_⟩
    · exact (List.forall_mem_cons.2 ⟨a2, (List.forall_mem_cons.2 ⟨a8, (List.forall_mem_cons.2 ⟨(q1 (x + 2) (by omega) (by omega)).1.trans e2, (List.forall_mem_cons.2 ⟨(q1 (x + 3) (by omega) (by omega)).1.trans e7, (List.forall_mem_cons.2 ⟨(q1 (x + 4) (by omega) (by omega)).1.trans e9, (List.forall_mem_cons.2 ⟨(q2 (x + 5) (by omega) (by omega)).1.trans p2, (List.forall_mem_cons.2 ⟨(fN (x + 6) (by omega) (by omega)).1.trans n2, (List.forall_mem_cons.2 ⟨(fN (x + 7) (by omega) (by omega)).1.trans n9, (List.forall_mem_cons.2 ⟨(fN (x + 8) (by omega) (by omega)).1.trans n11, (List.forall_mem_cons.2 ⟨(fN (x + 9) (by omega) (by omega)).1.trans n13, (List.forall_mem_cons.2 ⟨(fN (x + 10) (by omega) (by omega)).1.trans n15, (List.forall_mem_cons.2 ⟨(fX (x + 11) (by omega) (by omega)).1.trans x2, (List.forall_mem_cons.2 ⟨(fX (x + 12) (by omega) (by omega)).1.trans x9, (List.forall_mem_cons.2 ⟨(fX (x + 13) (by omega) (by omega)).1.trans x11, (List.forall_mem_cons.2 ⟨(fX (x + 14) (by omega) (by omega)).1.trans x13, (List.forall_mem_cons.2 ⟨(q2 (x + 16) (by omega) (by omega)).1.trans p8, (List.forall_mem_cons.2 ⟨(q3 (x + 418) (by omega) (by omega)).1.trans t2, (List.forall_mem_cons.2 ⟨(fC (x + 419) (by omega) (by omega)).1.trans c2, (List.forall_mem_cons.2 ⟨(fM (x + 421) (by omega) (by omega)).1.trans m2, (List.forall_mem_cons.2 ⟨(fM (x + 422) (by omega) (by omega)).1.trans m8, (List.forall_mem_cons.2 ⟨(fM (x + 423) (by omega) (by omega)).1.trans m10, (List.forall_mem_cons.2 ⟨(fM (x + 424) (by omega) (by omega)).1.trans m12, (List.forall_mem_cons.2 ⟨(fL (x + 425) (by omega) (by omega)).1.trans l2, (List.forall_mem_cons.2 ⟨(fL (x + 426) (by omega) (by omega)).1.trans l12, (fun q hq => absurd hq List.not_mem_nil)⟩)⟩)⟩)⟩)⟩)⟩)⟩)⟩)⟩)⟩)⟩)⟩)⟩)⟩)⟩)⟩)⟩)⟩)⟩)⟩)⟩)⟩)⟩)⟩)
    · exact (List.forall_mem_cons.2 ⟨a4, (List.forall_mem_cons.2 ⟨a5, (List.forall_mem_cons.2 ⟨a6, (List.forall_mem_cons.2 ⟨a7, (List.forall_mem_cons.2 ⟨((q1 (x + 2) (by omega) (by omega)).2.2.2.1 _).trans e5, (List.forall_mem_cons.2 ⟨((q1 (x + 2) (by omega) (by omega)).2.2.2.1 _).trans e6, (List.forall_mem_cons.2 ⟨((q2 (x + 5) (by omega) (by omega)).2.2.2.1 _).trans p4, (List.forall_mem_cons.2 ⟨((q2 (x + 5) (by omega) (by omega)).2.2.2.1 _).trans p5, (List.forall_mem_cons.2 ⟨((q2 (x + 5) (by omega) (by omega)).2.2.2.1 _).trans p6, (List.forall_mem_cons.2 ⟨((q2 (x + 5) (by omega) (by omega)).2.2.2.1 _).trans p7, (List.forall_mem_cons.2 ⟨((fN (x + 6) (by omega) (by omega)).2.2.2.1 _).trans n3, (List.forall_mem_cons.2 ⟨((fN (x + 6) (by omega) (by omega)).2.2.2.1 _).trans n4, (List.forall_mem_cons.2 ⟨((fN (x + 6) (by omega) (by omega)).2.2.2.1 _).trans n5, (List.forall_mem_cons.2 ⟨((fN (x + 6) (by omega) (by omega)).2.2.2.1 _).trans n6, (List.forall_mem_cons.2 ⟨((fX (x + 11) (by omega) (by omega)).2.2.2.1 _).trans x4, (List.forall_mem_cons.2 ⟨((fX (x + 11) (by omega) (by omega)).2.2.2.1 _).trans x5, (List.forall_mem_cons.2 ⟨((fX (x + 11) (by omega) (by omega)).2.2.2.1 _).trans x6, (List.forall_mem_cons.2 ⟨((fX (x + 11) (by omega) (by omega)).2.2.2.1 _).trans x7, (List.forall_mem_cons.2 ⟨((q3 (x + 418) (by omega) (by omega)).2.2.2.1 _).trans t4, (List.forall_mem_cons.2 ⟨((q3 (x + 418) (by omega) (by omega)).2.2.2.1 _).trans t5, (List.forall_mem_cons.2 ⟨((q3 (x + 418) (by omega) (by omega)).2.2.2.1 _).trans t6, (List.forall_mem_cons.2 ⟨((q3 (x + 418) (by omega) (by omega)).2.2.2.1 _).trans t7, (List.forall_mem_cons.2 ⟨((q3 (x + 418) (by omega) (by omega)).2.2.2.1 _).trans t8, (List.forall_mem_cons.2 ⟨((q3 (x + 418) (by omega) (by omega)).2.2.2.1 _).trans t9, (List.forall_mem_cons.2 ⟨((q3 (x + 418) (by omega) (by omega)).2.2.2.1 _).trans t10, (List.forall_mem_cons.2 ⟨((fM (x + 421) (by omega) (by omega)).2.2.2.1 _).trans m5, (List.forall_mem_cons.2 ⟨((fM (x + 421) (by omega) (by omega)).2.2.2.1 _).trans m6, (List.forall_mem_cons.2 ⟨((fM (x + 421) (by omega) (by omega)).2.2.2.1 _).trans m7, (List.forall_mem_cons.2 ⟨((fL (x + 425) (by omega) (by omega)).2.2.2.1 _).trans l4, (fun q hq => absurd hq List.not_mem_nil)⟩)⟩)⟩)⟩)⟩)⟩)⟩)⟩)⟩)⟩)⟩)⟩)⟩)⟩)⟩)⟩)⟩)⟩)⟩)⟩)⟩)⟩)⟩)⟩)⟩)⟩)⟩)⟩)⟩)
    · exact (List.forall_mem_cons.2 ⟨a9, (List.forall_mem_cons.2 ⟨(q1 (x + 3) (by omega) (by omega)).2.2.2.2.1.trans e8, (List.forall_mem_cons.2 ⟨(q1 (x + 4) (by omega) (by omega)).2.2.2.2.1.trans e10, (List.forall_mem_cons.2 ⟨(fN (x + 7) (by omega) (by omega)).2.2.2.2.1.trans n10, (List.forall_mem_cons.2 ⟨(fN (x + 8) (by omega) (by omega)).2.2.2.2.1.trans n12, (List.forall_mem_cons.2 ⟨(fN (x + 9) (by omega) (by omega)).2.2.2.2.1.trans n14, (List.forall_mem_cons.2 ⟨(fN (x + 10) (by omega) (by omega)).2.2.2.2.1.trans n16, (List.forall_mem_cons.2 ⟨(fX (x + 12) (by omega) (by omega)).2.2.2.2.1.trans x10, (List.forall_mem_cons.2 ⟨(fX (x + 13) (by omega) (by omega)).2.2.2.2.1.trans x12, (List.forall_mem_cons.2 ⟨(fX (x + 14) (by omega) (by omega)).2.2.2.2.1.trans x14, (List.forall_mem_cons.2 ⟨(q2 (x + 16) (by omega) (by omega)).2.2.2.2.1.trans p9, (List.forall_mem_cons.2 ⟨(fM (x + 422) (by omega) (by omega)).2.2.2.2.1.trans m9, (List.forall_mem_cons.2 ⟨(fM (x + 423) (by omega) (by omega)).2.2.2.2.1.trans m11, (List.forall_mem_cons.2 ⟨(fM (x + 424) (by omega) (by omega)).2.2.2.2.1.trans m13, (List.forall_mem_cons.2 ⟨(fL (x + 426) (by omega) (by omega)).2.2.2.2.1.trans l13, (fun q hq => absurd hq List.not_mem_nil)⟩)⟩)⟩)⟩)⟩)⟩)⟩)⟩)⟩)⟩)⟩)⟩)⟩)⟩)⟩)
    · intro j hj
      obtain ⟨g1, g2⟩ := p10 j hj
      exact ⟨(q2 (x + 17 + j) (by omega) (by omega)).1.trans g2, ((q2 (x + 16) (by omega) (by omega)).2.2.2.2.2.2.2 j).trans g1⟩
    · intro j hj
      obtain ⟨g1, A1, A2, ⟨i1, i2, i3, i4, i5, i6, i7, i8, i9, i10, i11, i12, i13, i14⟩, g3, g4⟩ := l14 j hj
      have fA : ∀ b, x + 429 + 4 * j ≤ b → b < x + 429 + 4 * j + 4 → b_eq A2 S' b := fun b h1 h2 => (g4 b (by omega) (by omega)).tr (fL b (by omega) (by omega))
      have e0 := fA (x + 429 + 4 * j) (by omega) (by omega)
      have e1 := fA (x + 429 + 4 * j + 1) (by omega) (by omega)
      have e2 := fA (x + 429 + 4 * j + 2) (by omega) (by omega)
      have e3 := fA (x + 429 + 4 * j + 3) (by omega) (by omega)
      exact ⟨e0.1.trans i2, ((fL (x + 426) (by omega) (by omega)).2.2.2.2.2.2.2 j).trans g1, (e0.2.2.2.1 _).trans i5, (e0.2.2.2.1 _).trans i7, (e0.2.2.2.1 _).trans i8, ⟨e1.1.trans i9, e1.2.2.2.2.1.trans i10⟩, ⟨e2.1.trans i11, e2.2.2.2.2.1.trans i12⟩, e3.1.trans i13, e3.2.2.2.2.1.trans i14⟩
  have P4 : m_P S' 204 (x + 11) = some (x + 15) := ((fX (x + 11) (by omega) (by omega)).2.2.2.1 _).trans x8
  have P3 : m_P S' 304 (x + 425) = some (x + 428) := ((fL (x + 425) (by omega) (by omega)).2.2.2.1 _).trans l6
  have eT : lT S' x = 256 := by rw [lT_at P4, show m_L S' (x + 15) = 256 from (fX (x + 15) (by omega) (by omega)).2.2.2.2.1.trans x17]; rfl
  have eM : lM S' x = 256 := by rw [lM_at P3, show m_L S' (x + 428) = 256 from (fL (x + 428) (by omega) (by omega)).2.2.2.2.1.trans l11]; rfl
  have hE : eI S' x w := by
    refine ⟨fun i h1 h2 => ?_, by omega, x + 15, 0, 0, P4, (fX (x + 15) (by omega) (by omega)).1.trans x16, Or.inl ⟨by omega, by omega⟩, (((fX (x + 11) (by omega) (by omega)).2.1 _).trans ((x3 _).trans (x0 _))).trans iI_0, (((fX (x + 11) (by omega) (by omega)).2.1 _).trans ((x3 _).trans (x0 _))).trans iI_0, by omega, by omega, by omega, by omega⟩
    have e : rAt S' (x + 14) i = 0 := by
      unfold rAt
      rw [((fX (x + 14) (by omega) (by omega)).2.2.2.2.2.1 i.toNat).trans (x15 i.toNat)]; rfl
    omega
  have hM_ : hM S' x w := ⟨⟨0, by omega, by rw [eM]; rfl⟩, x + 428, P3, (fL (x + 428) (by omega) (by omega)).1.trans l10, Or.inl ⟨by omega, by omega⟩⟩
  have hN : gN S' x := by
    refine ⟨⟨fun i h1 h2 => ?_, fun i h1 h2 => ?_⟩, 0, 0, ?_, ?_, by omega, by omega, by omega, by omega⟩
    · have e : rAt S' (x + 7) i = -1 := by
        unfold rAt
        rw [show m_A S' (x + 7) i.toNat = -1 from j1 i.toNat (by omega)]; rfl
      omega
    · have e : rAt S' (x + 8) i = 0 := by
        unfold rAt
        rw [show m_A S' (x + 8) i.toNat = 0 from j2 i.toNat]; rfl
      omega
    · exact (((fN (x + 6) (by omega) (by omega)).2.1 _).trans n7).trans iI_0
    · exact (((fN (x + 6) (by omega) (by omega)).2.1 _).trans n8).trans iI_0
  have hR : gR S' x := ⟨0, (((q1 (x + 2) (by omega) (by omega)).2.1 _).trans ((e3 _).trans (e0 _))).trans iI_0, by omega, by omega⟩
  have hP : gP S' x := ⟨0, (((q2 (x + 5) (by omega) (by omega)).2.1 _).trans ((p3 _).trans (p0 _))).trans iI_0, by omega, by omega⟩
  have hO : oOk kn S' x := fun j hj => ⟨0, by decide, j3 j hj⟩
  have hC : sE S' x := ⟨0, 0, x + 420, 0, 0, 0, 0, 0, ((fC (x + 419) (by omega) (by omega)).2.2.2.1 _).trans c5, (fC (x + 420) (by omega) (by omega)).1.trans c6, (fC (x + 420) (by omega) (by omega)).2.2.2.2.1.trans c7, (((fC (x + 419) (by omega) (by omega)).2.1 _).trans ((c3 _).trans (c0 _))).trans iI_0, (((fC (x + 419) (by omega) (by omega)).2.1 _).trans ((c3 _).trans (c0 _))).trans iI_0, (((fC (x + 419) (by omega) (by omega)).2.1 _).trans ((c3 _).trans (c0 _))).trans iI_0, (((fC (x + 419) (by omega) (by omega)).2.1 _).trans ((c3 _).trans (c0 _))).trans iI_0, by omega, by omega, by omega, by omega, by omega, by omega, by omega, by omega, by omega⟩
  have hT : tJ kn S' x := ⟨0, x + 17, by decide, ((q3 (x + 418) (by omega) (by omega)).2.2.2.1 _).trans t12, ⟨0, by omega, by omega⟩, ((q3 (x + 418) (by omega) (by omega)).2.2.2.1 _).trans t11⟩
  exact ⟨⟨hS, hE, hM_, hN, hR, hP, hO, hb, hC, hT⟩, ((a3 _).trans (h0 _)).trans iI_0, by unfold lA; omega⟩
