/-! charting: calls of both -/
section PAIR6
variable {F : FT} {l : Launch} {G : GT} {d c m t a1 a2 a3 n r : Nat} {h h1 h2 : Hp} {g : Nat → Int32} {U U' : MS}
def PrC (l : Launch) (G : GT) (d : Nat) (h : Hp) : Prop := ∃ (Q1 : Option Value → Hp → Prop), Ct l G mX6_chart yX6_chart d 2 102 [.ref 16] h Q1 ∧ ∀ r1 h1, Q1 r1 h1 → zOb (h1.2 77) 7 28 ∧ ∃ v, r1 = some (.int v) ∧ ∃ Q2, Ct l G mX7_chart yX7_chart d 0 0 [.ref 77] h1 Q2 ∧ ∀ r2 h2, Q2 r2 h2 → r2 = some (.int v) ∧ ∃ U', Inv h2 U'
theorem f_chart (hI1 : MI U c m t a1 a2 a3 n r) (hC : CU h (mRd U) U c n r) (hM : MAt h 77 U) (hh : 80 ≤ h.1) (hc6 : c = 6) (hd : 46 ≤ d) : PrC l G d h := by
  have hI2 := hI1
  obtain ⟨⟨i1, i2, i3, i4⟩, ⟨i5, i6⟩, ⟨i7, i8⟩, i9, i10, ⟨i11, i12, i13⟩, i14, i15⟩ := hI2
  refine ⟨_, f_X6_chart hC.ob hc6 (by omega), ?_⟩
  rintro _ h1 ⟨rfl, rfl⟩
  refine ⟨hM.zo, _, rfl, _, c_X7_chart hM i8 i7 i12 i11 (by omega), ?_⟩
  rintro r2 h2 ⟨U', hM3, hq, hs3⟩
  rw [if_pos (show U.2.1 8 = 6 by rw [i8, hc6]; rfl)] at hq
  obtain ⟨rfl, rfl⟩ := hq
  exact ⟨rfl, _, Inv.close hI1 hC hM3 hs3 hh⟩
theorem n_chart (hI1 : MI U c m t a1 a2 a3 n r) (hC : CU h (mRd U) U c n r) (hM : MAt h 77 U) (hh : 80 ≤ h.1) (hc6 : c < 6) (hg : ¬ pGood n (pRA (U.1 4) n mLe N0 mWo) = true) (hd : 46 ≤ d) : PrC l G d h := by
  obtain ⟨⟨i1, i2, i3, i4⟩, ⟨i5, i6⟩, ⟨i7, i8⟩, i9, i10, ⟨i11, i12, i13⟩, i14, i15⟩ := hI1
  obtain ⟨x1, x2, x3, x4, hRd⟩ := hC.rd
  refine ⟨_, n_X6_chart hC.ob hRd i11 i13 (by omega) hc6 hg (by omega), ?_⟩
  rintro _ h1 ⟨rfl, hR2, hs⟩
  have hM2 := hM.fr hs (by omega)
  refine ⟨hM2.zo, _, rfl, _, c_X7_chart hM2 i8 i7 i12 i11 (by omega), ?_⟩
  rintro r2 h2 ⟨U', hM3, hq, hs3⟩
  rw [if_neg (show ¬ U.2.1 8 = 6 by rw [i8]; exact fun z => absurd ((nI_eq (b := 6) (by omega) (by omega)).mp z) (by omega)), i1, i2, if_neg (by rw [pGood_pos (N := U.1 8) (N' := N0)]; exact hg), pRA_pos (N := U.1 8) (N' := N0)] at hq
  obtain ⟨rfl, q1, q2, q3, q4⟩ := hq
  have hh1 : 80 ≤ h1.1 := by rw [hs.1]; exact hh
  have e : ∀ j, j ≠ 7 → U'.1 j = U.1 j := q1
  refine ⟨rfl, U', Inv.close (c := c) (m := m) (t := t) (a1 := a1) (a2 := a2) (a3 := a3) (n := 0) (r := r) ⟨⟨(e 9 (by decide)).trans i1, (e 10 (by decide)).trans i2, ?_, ?_⟩, ⟨?_, ?_⟩, ⟨i7, (q2 8 (by omega) (by decide)).trans i8⟩, ?_, ?_, ⟨by omega, q3, fun i hi => absurd hi (Nat.not_lt_zero i)⟩, i14, (q2 23 (by omega) (by decide)).trans i15⟩ ?_ hM3 hs3 hh1⟩
  · unfold mA; rw [e 12 (by decide)]; exact i3
  · unfold mBo; rw [e 13 (by decide)]; exact i4
  · unfold mZ; rw [e 6 (by decide)]; exact i5
  · unfold mT; rw [e 16 (by decide), e 15 (by decide)]; exact i6
  · rw [e 1 (by decide)]; exact i9
  · rw [q2 3 (by omega) (by decide), e 3 (by decide)]; exact i10
  · rw [mRd_e (e 5 (by decide)) (e 6 (by decide)) (e 9 (by decide)) (e 10 (by decide))]
    unfold CU
    rw [q2 3 (by omega) (by decide), e 1 (by decide), e 3 (by decide), e 4 (by decide), e 15 (by decide), e 16 (by decide), e 14 (by decide), q4]
    obtain ⟨y1, y2, y3, y4, y5⟩ := hR2
    refine hC.tx ⟨y1, y2, y3, y4, y5.1, ?_, y5.2.2⟩ hs
    obtain ⟨T, t1, t2⟩ := y5.2.1
    exact ⟨T, t1, fun i hi => absurd hi (Nat.not_lt_zero i)⟩
theorem fx_r {a0 mo : Nat} {P : Nat → (Nat → Int32) → Prop} (hr : ∃ a f, RAt h a0 mo a f ∧ P a f) (q : ∀ x, a0 ≤ x → x < a0 + 2 → h1.2 x = h.2 x) : ∃ a f, RAt h1 a0 mo a f ∧ P a f := by
  obtain ⟨a, f, x1, x2⟩ := hr
  exact ⟨a, f, x1.fx q, x2⟩
theorem WF.fx {w : Nat} {o : Int32} (hW : WF F h w g o) (q : ∀ x, w ≤ x → x < w + 10 → h1.2 x = h.2 x) (q2 : ∀ x, 96 ≤ x → h.2 x ≠ zdead → h1.2 x = h.2 x) : WF F h1 w g o := by
  obtain ⟨z, L, v, sd, hG, hS, hF⟩ := hW
  refine ⟨z, L, v, sd, hG.fx q, ?_, hF⟩
  match sd, hS with
  | none, hS => exact hS
  | some (n, f, r), hS =>
    obtain ⟨s, a, e1, e2, e3, e4, e5, e6⟩ := hS
    exact ⟨s, a, e1, ⟨(q2 s e5 (by rw [e2.1]; intro y; cases y)).trans e2.1, e2.2⟩, ⟨(q2 a e6 (by rw [e3.1]; intro y; cases y)).trans e3.1, e3.2⟩, e4, e5, e6⟩
end PAIR6
