/-! charting: calls of both -/
section PAIR6
variable {F : FT} {l : Launch} {G : GT} {d c m t a1 a2 a3 n r : Nat} {h h1 h2 : Hp} {g : Nat → Int32} {U U' : MS}
def PrC (l : Launch) (G : GT) (d : Nat) (h : Hp) : Prop := ∃ (Q1 : Option Value → Hp → Prop), Ct l G mX6_chart yX6_chart d 2 102 [.ref 16] h Q1 ∧ ∀ r1 h1, Q1 r1 h1 → zOb (h1.2 77) 7 28 ∧ ∃ v, r1 = some (.int v) ∧ ∃ Q2, Ct l G mX7_chart yX7_chart d 0 0 [.ref 77] h1 Q2 ∧ ∀ r2 h2, Q2 r2 h2 → r2 = some (.int v) ∧ ∃ U', Inv h2 U'
theorem f_chart (hI1 : MI U c m t a1 a2 a3 n r) (hC : CU h (mRd U) U c n r) (hM : MAt h 77 U) (hh : 80 ≤ h.1) (hc6 : c = 6) (hd : 46 ≤ d) : PrC l G d h := by
  have hI2 := hI1
  obtain ⟨⟨i1, i2, i3, i4⟩, ⟨i5, i6⟩, ⟨i7, i8⟩, i9, i10, ⟨i11, i12, i13⟩, i14, i15⟩ := hI2
  refine ⟨_, f_X6_chart hC.ob hc6 (by omega), ?_⟩
  rintro _ h1 ⟨rfl, rfl⟩
  refine ⟨hM.zo, _, rfl, _, c_X7_chart hM i8 i7 i12 i11 (by omega), ?_⟩
  rintro r2 h2 ⟨U', hM3, hq, hs3⟩
  rw [if_pos (show U.2.1 8 = 6 by rw [i8, hc6]; rfl)] at hq
  obtain ⟨rfl, rfl⟩ := hq
  exact ⟨rfl, _, Inv.close hI1 hC hM3 hs3 hh⟩
theorem n_chart (hI1 : MI U c m t a1 a2 a3 n r) (hC : CU h (mRd U) U c n r) (hM : MAt h 77 U) (hh : 80 ≤ h.1) (hc6 : c < 6) (hg : ¬ pGood n (pRA (U.1 4) n mLe N0 mWo) = true) (hd : 46 ≤ d) : PrC l G d h := by
  obtain ⟨⟨i1, i2, i3, i4⟩, ⟨i5, i6⟩, ⟨i7, i8⟩, i9, i10, ⟨i11, i12, i13⟩, i14, i15⟩ := hI1
  obtain ⟨x1, x2, x3, x4, hRd⟩ := hC.rd
  refine ⟨_, n_X6_chart hC.ob hRd i11 i13 (by omega) hc6 hg (by omega), ?_⟩
  rintro _ h1 ⟨rfl, hR2, hs⟩
  have hM2 := hM.fr hs (by omega)
  refine ⟨hM2.zo, _, rfl, _, c_X7_chart hM2 i8 i7 i12 i11 (by omega), ?_⟩
  rintro r2 h2 ⟨U', hM3, hq, hs3⟩
  rw [if_neg (show ¬ U.2.1 8 = 6 by rw [i8]; exact fun z => absurd ((nI_eq (b := 6) (by omega) (by omega)).mp z) (by omega)), i1, i2, if_neg (by rw [pGood_pos (N := U.1 8) (N' := N0)]; exact hg), pRA_pos (N := U.1 8) (N' := N0)] at hq
  obtain ⟨rfl, q1, q2, q3, q4⟩ := hq
  have hh1 : 80 ≤ h1.1 := by rw [hs.1]; exact hh
  have e : ∀ j, j ≠ 7 → U'.1 j = U.1 j := q1
  refine ⟨rfl, U', Inv.close (c := c) (m := m) (t := t) (a1 := a1) (a2 := a2) (a3 := a3) (n := 0) (r := r) ⟨⟨(e 9 (by decide)).trans i1, (e 10 (by decide)).trans i2, ?_, ?_⟩, ⟨?_, ?_⟩, ⟨i7, (q2 8 (by omega) (by decide)).trans i8⟩, ?_, ?_, ⟨by omega, q3, fun i hi => absurd hi (Nat.not_lt_zero i)⟩, i14, (q2 23 (by omega) (by decide)).trans i15⟩ ?_ hM3 hs3 hh1⟩
  · unfold mA; rw [e 12 (by decide)]; exact i3
  · unfold mBo; rw [e 13 (by decide)]; exact i4
  · unfold mZ; rw [e 6 (by decide)]; exact i5
  · unfold mT; rw [e 16 (by decide), e 15 (by decide)]; exact i6
  · rw [e 1 (by decide)]; exact i9
  · rw [q2 3 (by omega) (by decide), e 3 (by decide)]; exact i10
  · rw [mRd_e (e 5 (by decide)) (e 6 (by decide)) (e 9 (by decide)) (e 10 (by decide))]
    unfold CU
    rw [q2 3 (by omega) (by decide), e 1 (by decide), e 3 (by decide), e 4 (by decide), e 15 (by decide), e 16 (by decide), e 14 (by decide), q4]
    obtain ⟨y1, y2, y3, y4, y5⟩ := hR2
    refine hC.tx ⟨y1, y2, y3, y4, y5.1, ?_, y5.2.2⟩ hs
    obtain ⟨T, t1, t2⟩ := y5.2.1
    exact ⟨T, t1, fun i hi => absurd hi (Nat.not_lt_zero i)⟩
theorem fx_r {a0 mo : Nat} {P : Nat → (Nat → Int32) → Prop} (hr : ∃ a f, RAt h a0 mo a f ∧ P a f) (q : ∀ x, a0 ≤ x → x < a0 + 2 → h1.2 x = h.2 x) : ∃ a f, RAt h1 a0 mo a f ∧ P a f := by
  obtain ⟨a, f, x1, x2⟩ := hr
  exact ⟨a, f, x1.fx q, x2⟩
theorem WF.fx {w : Nat} {o : Int32} (hW : WF F h w g o) (q : ∀ x, w ≤ x → x < w + 10 → h1.2 x = h.2 x) (q2 : ∀ x, 96 ≤ x → h.2 x ≠ zdead → h1.2 x = h.2 x) : WF F h1 w g o := by
  obtain ⟨z, L, v, sd, hG, hS, hF⟩ := hW
  refine ⟨z, L, v, sd, hG.fx q, ?_, hF⟩
  match sd, hS with
  | none, hS => exact hS
  | some (n, f, r), hS =>
    obtain ⟨s, a, e1, e2, e3, e4, e5, e6⟩ := hS
    exact ⟨s, a, e1, ⟨(q2 s e5 (by rw [e2.1]; intro y; cases y)).trans e2.1, e2.2⟩, ⟨(q2 a e6 (by rw [e3.1]; intro y; cases y)).trans e3.1, e3.2⟩, e4, e5, e6⟩
theorem g_chart (hI1 : MI U c m t a1 a2 a3 n r) (hC : CU h (mRd U) U c n r) (hM : MAt h 77 U) (hh : 80 ≤ h.1) (hD : ∀ i, h.1 + 16 ≤ i → h.2 i = zdead) (hc6 : c < 6) (hg : pGood n (pRA (U.1 4) n mLe N0 mWo) = true) (hd : 46 ≤ d) : PrC l G d h := by
  obtain ⟨⟨i1, i2, i3, i4⟩, ⟨i5, i6⟩, ⟨i7, i8⟩, i9, i10, ⟨i11, i12, i13⟩, i14, i15⟩ := hI1
  obtain ⟨x1, x2, x3, x4, hRd⟩ := hC.rd
  obtain ⟨w0, Lw, vw, sw, hG, hSw, hFw⟩ := hC.now
  refine ⟨_, c_X6_chart hG hC.ob hRd i11 i13 (by omega) hc6 hg (by omega), ?_⟩
  rintro _ h1 ⟨rfl, o1, o2, ⟨y1, y2, y3, y4, y5⟩, o4, o5, L6, f6, rr6, o6, o7, o8, o9⟩
  have hL : ∀ x, 96 ≤ x → h.2 x ≠ zdead → h1.2 x = h.2 x := fun x hx hz => o5 x (Nat.lt_of_not_le fun q => hz (hD x q)) (by omega) (by omega)
  have hf : ∀ x, 27 ≤ x → x < 96 → (x < 59 ∨ 62 ≤ x) → h1.2 x = h.2 x := fun x q1 q2 q3 => o5 x (by omega) (by omega) q3
  have hM2 : MAt h1 77 U := by
    obtain ⟨m1, m2, m3, m4⟩ := hM
    refine ⟨m1, (hf 77 (by omega) (by omega) (by omega)).trans m2, fun j j1 j2 => ?_, fun j j1 j2 => ?_⟩
    · obtain ⟨f, z1, z2⟩ := m3 j j1 j2
      exact ⟨f, (hf (77 + j) (by omega) (by omega) (by omega)).trans z1, z2⟩
    · obtain ⟨f, z1, z2⟩ := m4 j j1 j2
      exact ⟨f, (hf (77 + j) (by omega) (by omega) (by omega)).trans z1, z2⟩
  refine ⟨hM2.zo, _, rfl, _, c_X7_chart hM2 i8 i7 i12 i11 (by omega), ?_⟩
  rintro r2 h2 ⟨U', hM3, hq, hs3⟩
  rw [if_neg (show ¬ U.2.1 8 = 6 by rw [i8]; exact fun z => absurd ((nI_eq (b := 6) (by omega) (by omega)).mp z) (by omega)), i1, i2, if_pos (by rw [pGood_pos (N := U.1 8) (N' := N0)]; exact hg)] at hq
  obtain ⟨rfl, hY⟩ := hq
  have hY0 := hY
  obtain ⟨q1, q2, q3, q4, q5, q6, q7, q8⟩ := hY
  have e : ∀ j, j ≠ 1 → j ≠ 5 → j ≠ 6 → j ≠ 7 → U'.1 j = U.1 j := q1
  have e68 : ∀ j, j ≠ 68 → U'.1 1 j = U.1 1 j := fun j hj => by rw [q2]; exact upd_ne hj
  have eq68 : U'.1 1 68 = nI (c + 1) := by rw [q2]; exact upd_eq _ _ _
  have up : ∀ {g : Nat → Int32} {m t a1 a2 a3 : Nat}, RowI c g m t a1 a2 a3 → RowI (c + 1) g m t a1 a2 a3 := fun z => ⟨z.ok, z.t9, z.age, z.kd, z.se, z.pl, z.bo, z.q.elim fun q hq => ⟨q, by omega, hq.2⟩⟩
  have hR : RowI (c + 1) (U'.1 1) m t a1 a2 a3 := by
    have hm := i9.ok.2.1
    refine ⟨⟨(e68 60 (by omega)).trans i9.ok.1, hm, (e68 67 (by omega)).trans i9.ok.2.2.1, i9.ok.2.2.2.1, c + 1, by omega, eq68⟩, i9.t9, i9.age.of fun i hi => e68 _ (by omega), fun i hi => ?_, i9.se.of fun j h1 _ => e68 j (by omega), i9.pl.of fun j h1 => e68 j (by omega), i9.bo.of fun j h1 => e68 j (by omega), c + 1, Nat.le_refl _, eq68⟩
    rw [e68 _ (by omega)]; exact i9.kd i hi
  have hF : ∀ g : Nat → Int32, (∃ q, q ≤ c ∧ g 68 = nI q) → ∀ i, i < 6 → mRd U' g i = mRd U g i := fun g ⟨q, hq, hg⟩ i _ => mRd_ch hY0 i5 hc6 hq hg i
  have e5 := e 3 (by decide) (by decide) (by decide) (by decide)
  have s3 := q5 3 (by omega) (by decide) (by decide)
  refine ⟨rfl, U', Inv.close (c := c + 1) (m := m) (t := t) (a1 := a1) (a2 := a2) (a3 := a3) (n := 0) (r := r) ⟨⟨(e 9 (by decide) (by decide) (by decide) (by decide)).trans i1, (e 10 (by decide) (by decide) (by decide) (by decide)).trans i2, ?_, ?_⟩, ⟨?_, ?_⟩, ⟨by omega, q7⟩, hR, ?_, ⟨by omega, q6, fun i hi => absurd hi (Nat.not_lt_zero i)⟩, i14, (q5 23 (by omega) (by decide) (by decide)).trans i15⟩ ?_ hM3 hs3 (by omega)⟩
  · unfold mA; rw [e 12 (by decide) (by decide) (by decide) (by decide)]; exact i3
  · unfold mBo; rw [e 13 (by decide) (by decide) (by decide) (by decide)]; exact i4
  · intro z hz
    rw [q4]
    by_cases y : z = c
    · subst y; exact ⟨n, i11, upd_eq _ _ _⟩
    · rw [upd_ne y]; exact i5 z hz
  · unfold mT; rw [e 16 (by decide) (by decide) (by decide) (by decide), e 15 (by decide) (by decide) (by decide) (by decide)]; exact i6
  · rw [s3, e5]
    exact i10.imp id fun z => ⟨z.1, z.2.elim fun m h => h.elim fun t h => h.elim fun a1 h => h.elim fun a2 h => h.elim fun a3 h => ⟨m, t, a1, a2, a3, up h⟩⟩
  · unfold CU
    rw [s3, e5, e 4 (by decide) (by decide) (by decide) (by decide), e 15 (by decide) (by decide) (by decide) (by decide), e 16 (by decide) (by decide) (by decide) (by decide), e 14 (by decide) (by decide) (by decide) (by decide), q8]
    have h96 : 96 ≤ h.1 + 16 := by omega
    have h97 : 96 ≤ h.1 + 17 := by omega
    have hW : WF (mRd U') h1 17 (U'.1 1) (nI 9999) := by
      refine ⟨w0, Lw, _, some (L6, f6, rr6), WG.gx o2 (fun j hj => (e68 j (by omega)).symm), ⟨h.1 + 16, h.1 + 17, rfl, o6, o7, o8, h96, h97⟩, ?_⟩
      rw [eq68]
      exact SR_new hY0 hc6 i11 i1 i2 o9
    have rd : ∃ ra rb rs rr, RdAt h1 59 0 (U.1 4) ra rb rs rr := by
      refine ⟨y1, y2, y3, y4, y5.1, ?_, y5.2.2⟩
      obtain ⟨T, t1, t2⟩ := y5.2.1
      exact ⟨T, t1, fun i hi => absurd hi (Nat.not_lt_zero i)⟩
    refine ⟨o1, hW, ?_, ?_, ?_, ?_, ?_, fx_r hC.e1 fun x z1 z2 => hf x (by omega) (by omega) (by omega), fx_r hC.e2 fun x z1 z2 => hf x (by omega) (by omega) (by omega), fx_r hC.e3 fun x z1 z2 => hf x (by omega) (by omega) (by omega), rd, ?_, ?_⟩
    · obtain ⟨S9, z1, z2⟩ := hC.tri
      exact ⟨S9, z1.fx fun x q1 q2 => hf x (by omega) (by omega) (by omega), z2⟩
    · refine hC.im.imp (fun z => ⟨z.1, ?_⟩) (fun z => ⟨z.1, ?_⟩)
      · obtain ⟨S9, z1, z2⟩ := z.2
        exact ⟨S9, z1.fx fun x q1 q2 => hf x (by omega) (by omega) (by omega), z2⟩
      · have hi := i10.resolve_left (fun y => by rw [z.1] at y; exact absurd y (by decide))
        obtain ⟨m9, t9, p1, p2, p3, hR9⟩ := hi.2
        refine (z.2.fx (h1 := h1) (fun x q1 q2 => hf x (by omega) (by omega) (by omega)) hL).ff fun g' hg' i hi6 => hF g' ?_ i hi6
        rw [hg']; exact hR9.q
    · obtain ⟨a, f, z1, z2, z3, z4⟩ := hC.r1
      exact ⟨a, f, z1.fx fun x q1 q2 => hf x (by omega) (by omega) (by omega), z2, (e68 69 (by omega)).trans z3, z4.gx z2 fun j j1 _ => e68 j (by omega)⟩
    · obtain ⟨a, f, z1, z2, z3, z4⟩ := hC.r2
      exact ⟨a, f, z1.fx fun x q1 q2 => hf x (by omega) (by omega) (by omega), z2, (e68 85 (by omega)).trans z3, z4.gx z2 fun j j1 _ => e68 j (by omega)⟩
    · obtain ⟨a, f, z1, z2, z3, z4⟩ := hC.r3
      exact ⟨a, f, z1.fx fun x q1 q2 => hf x (by omega) (by omega) (by omega), z2, (e68 106 (by omega)).trans z3, z4.gx z2 fun j j1 _ => e68 j (by omega)⟩
    · obtain ⟨fa, z1, z2, z3⟩ := hC.tp
      refine ⟨fa, z1.fx fun x q1 q2 => hf x (by omega) (by omega) (by omega), z2, fun t ht => ?_⟩
      obtain ⟨f, z4, z5⟩ := z3 t ht
      exact ⟨f, z4.fx fun x q1 q2 => hf x (by omega) (by omega) (by omega), z5⟩
    · obtain ⟨v1, v2, v3, hV⟩ := hC.vo
      exact ⟨v1, v2, v3, hV.fx fun x q1 q2 => hf x (by omega) (by omega) (by omega)⟩
end PAIR6
