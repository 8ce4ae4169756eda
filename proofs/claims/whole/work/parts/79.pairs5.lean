/-! the image: calls of both -/
section PAIR5
variable {F : FT} {l : Launch} {G : GT} {d c m t a1 a2 a3 n r : Nat} {h h1 h2 : Hp} {g : Nat → Int32} {U U' : MS}
theorem SeR.fx {f f' : Nat → Int32} {a : Nat} (hS : SeR f g a) (ha : a ≤ 5) (e : ∀ i, i < 3 * 5 → f' i = f i) : SeR f' g a := fun r hr =>
  ⟨(e _ (by omega)).trans (hS r hr).1, (e _ (by omega)).trans (hS r hr).2.1, (e _ (by omega)).trans (hS r hr).2.2⟩
theorem PlR.fx {f f' : Nat → Int32} {a : Nat} (hS : PlR f g a) (ha : a ≤ 10) (e : ∀ i, i < 3 * 10 → f' i = f i) : PlR f' g a := fun r hr =>
  ⟨(e _ (by omega)).trans (hS r hr).1, (e _ (by omega)).trans (hS r hr).2⟩
theorem BoR.fx {f f' : Nat → Int32} {a : Nat} (hS : BoR f g a) (ha : a ≤ 8) (e : ∀ i, i < 3 * 8 → f' i = f i) : BoR f' g a := fun r hr =>
  ⟨(e _ (by omega)).trans (hS r hr).1, (e _ (by omega)).trans (hS r hr).2⟩
theorem p_image (hI : Inv h U) (hd : 46 ≤ d) : Pr Value.int l G d h mX6_image yX6_image mX7_image yX7_image [] := by
  obtain ⟨c, m, t, a1, a2, a3, n, r, hI1, hC, hM, hh⟩ := hI
  have hR : RowI c (U.1 1) m t a1 a2 a3 := hI1.2.2.2.1
  have ht9 := hR.t9
  have hz := hI1.2.1.1
  have hm : mOk U m := ⟨hR.ok.1, hR.ok.2.1⟩
  obtain ⟨⟨i1, i2, i3, i4⟩, ⟨i5, i6⟩, ⟨i7, i8⟩, i9, i10, ⟨i11, i12, i13⟩, i14, i15⟩ := hI1
  obtain ⟨b1, f1, x1, x2, x3, x4⟩ := hC.r1
  obtain ⟨b2, f2, y1, y2, y3, y4⟩ := hC.r2
  obtain ⟨b3, f3, z1, z2, z3, z4⟩ := hC.r3
  obtain ⟨d1, k1, u1, _, _⟩ := hC.e1
  obtain ⟨d2, k2, u2, _, _⟩ := hC.e2
  obtain ⟨d3, k3, u3, _, _⟩ := hC.e3
  have hD : DT h 37 (nI 9999) := hC.im.elim (fun q => q.2) (fun q => q.2.dt)
  refine ⟨_, c_X6_image hC.ob hC.now hC.tri hD x1 y1 z1 u1 u2 u3 x2 y2 z2 (by omega), ?_⟩
  rintro _ h1 ⟨rfl, o1, o2, o3, o4, ⟨o5, o6, o7⟩, ⟨g1, o8, o9⟩, ⟨g2, o10, o11⟩, ⟨g3, o12, o13⟩, hs⟩
  have hM2 := hM.fr hs (by omega)
  refine ⟨hM2.zo, _, rfl, _, c_X7_image hM2 (by omega), ?_⟩
  rintro _ h2 ⟨rfl, hM3, hs3⟩
  refine ⟨rfl, _, Inv.close (U' := mset (msc U 3 1) 3 (U.1 1)) (c := c) (m := m) (t := t) (a1 := a1) (a2 := a2) (a3 := a3) (n := n) (r := r) ⟨⟨i1, i2, i3, i4⟩, ⟨i5, i6⟩, ⟨i7, i8⟩, i9, Or.inr ⟨rfl, m, t, a1, a2, a3, i9⟩, ⟨i11, i12, i13⟩, i14, i15⟩ ?_ hM3 hs3 (by rw [hs.1]; exact hh)⟩
  rw [mRd_e (U := U) (U' := mset (msc U 3 1) 3 (U.1 1)) rfl rfl rfl rfl]
  exact ⟨o1, o2, o3, Or.inr ⟨rfl, o4⟩, ⟨b1, f1, o5, x2, x3, x4⟩, ⟨b2, f2, o6, y2, y3, y4⟩, ⟨b3, f3, o7, z2, z3, z4⟩, ⟨b1, g1, o9, x2, fun _ => ⟨x3, x4.fx x2 o8⟩⟩, ⟨b2, g2, o11, y2, fun _ => ⟨y3, y4.fx y2 o10⟩⟩, ⟨b3, g3, o13, z2, fun _ => ⟨z3, z4.fx z2 o12⟩⟩, fr_rd hC.rd hs (by omega), hC.tp.fr hs (by omega), fr_vo hC.vo hs (by omega)⟩
theorem p_undo (hI : Inv h U) (hd : 46 ≤ d) : Pr Value.int l G d h mX6_undo yX6_undo mX7_undo yX7_undo [] := by
  have hI0 := hI
  obtain ⟨c, m, t, a1, a2, a3, n, r, hI1, hC, hM, hh⟩ := hI
  have hR : RowI c (U.1 1) m t a1 a2 a3 := hI1.2.2.2.1
  have ht9 := hR.t9
  have hz := hI1.2.1.1
  have hm : mOk U m := ⟨hR.ok.1, hR.ok.2.1⟩
  obtain ⟨⟨i1, i2, i3, i4⟩, ⟨i5, i6⟩, ⟨i7, i8⟩, i9, i10, ⟨i11, i12, i13⟩, i14, i15⟩ := hI1
  by_cases b0 : U.2.1 3 = 0
  · have hO := hC.ob
    rw [b0] at hO
    refine ⟨_, f_X6_undo hO (by omega), ?_⟩
    rintro _ h1 ⟨rfl, rfl⟩
    refine ⟨hM.zo, _, rfl, _, c_X7_undo hM (by omega), ?_⟩
    rintro _ h2 ⟨rfl, hM3, hs3⟩
    rw [if_pos b0] at hM3 ⊢
    exact ⟨rfl, U, Inv.close ⟨⟨i1, i2, i3, i4⟩, ⟨i5, i6⟩, ⟨i7, i8⟩, i9, i10, ⟨i11, i12, i13⟩, i14, i15⟩ hC hM3 hs3 hh⟩
  · obtain ⟨bi, m9, t9, p1, p2, p3, hR9⟩ := i10.resolve_left b0
    have hW := (hC.im.resolve_left fun q => b0 q.1).2
    obtain ⟨d1, k1, u1, v1, w1⟩ := hC.e1
    obtain ⟨d2, k2, u2, v2, w2⟩ := hC.e2
    obtain ⟨d3, k3, u3, v3, w3⟩ := hC.e3
    obtain ⟨b1, f1, x1, x2, x3, x4⟩ := hC.r1
    obtain ⟨b2, f2, y1, y2, y3, y4⟩ := hC.r2
    obtain ⟨b3, f3, z1, z2, z3, z4⟩ := hC.r3
    refine ⟨_, c_X6_undo hC.ob hC.now hC.tri hW x1 y1 z1 u1 u2 u3 v1 v2 v3 bi (by omega), ?_⟩
    rintro _ h1 ⟨rfl, o1, o2, o3, o4, ⟨o5, o6, o7⟩, ⟨g1, o8, o9⟩, ⟨g2, o10, o11⟩, ⟨g3, o12, o13⟩, hs⟩
    have hM2 := hM.fr hs (by omega)
    refine ⟨hM2.zo, _, rfl, _, c_X7_undo hM2 (by omega), ?_⟩
    rintro _ h2 ⟨rfl, hM3, hs3⟩
    rw [if_neg b0] at hM3 ⊢
    refine ⟨rfl, _, Inv.close (U' := mset U 1 (U.1 3)) (c := c) (m := m9) (t := t9) (a1 := p1) (a2 := p2) (a3 := p3) (n := n) (r := r) ⟨⟨i1, i2, i3, i4⟩, ⟨i5, i6⟩, ⟨i7, i8⟩, hR9, Or.inr ⟨bi, m9, t9, p1, p2, p3, hR9⟩, ⟨i11, i12, i13⟩, i14, i15⟩ ?_ hM3 hs3 (by rw [hs.1]; exact hh)⟩
    rw [mRd_e (U := U) (U' := mset U 1 (U.1 3)) rfl rfl rfl rfl]
    exact ⟨o1, o2, o3, Or.inr ⟨bi, o4⟩, ⟨d1, g1, o9, v1, (w1 bi).1, (w1 bi).2.fx v1 o8⟩, ⟨d2, g2, o11, v2, (w2 bi).1, (w2 bi).2.fx v2 o10⟩, ⟨d3, g3, o13, v3, (w3 bi).1, (w3 bi).2.fx v3 o12⟩, ⟨d1, k1, o5, v1, w1⟩, ⟨d2, k2, o6, v2, w2⟩, ⟨d3, k3, o7, v3, w3⟩, fr_rd hC.rd hs (by omega), hC.tp.fr hs (by omega), fr_vo hC.vo hs (by omega)⟩
end PAIR5
