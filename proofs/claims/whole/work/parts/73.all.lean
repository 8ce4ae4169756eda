/-! what holds between two calls: all of it -/
section ALL
variable {F : FT} {h h1 h2 : Hp} {c m t a1 a2 a3 n r : Nat} {g g' : Nat → Int32} {U U' : MS}
/-- the model's side -/
def MI (U : MS) (c m t a1 a2 a3 n r : Nat) : Prop := (U.1 9 = mLe ∧ U.1 10 = mWo ∧ mA U ∧ mBo U) ∧ (mZ U ∧ mT U) ∧ (c ≤ 6 ∧ U.2.1 8 = nI c) ∧ RowI c (U.1 1) m t a1 a2 a3 ∧ (U.2.1 3 = 0 ∨ (U.2.1 3 = 1 ∧ ∃ m t a1 a2 a3, RowI c (U.1 3) m t a1 a2 a3)) ∧ (n ≤ 100 ∧ U.2.1 5 = nI n ∧ RA (U.1 4) n) ∧ r ≤ 1000000000 ∧ U.2.1 23 = nI r
abbrev CU (h : Hp) (F : FT) (U : MS) (c n r : Nat) : Prop := CI h F c (U.2.1 3) (U.1 1) (U.1 3) n (U.1 4) (U.1 15) (U.1 16) (U.2.2 17) (U.1 14, r)
def Inv (h : Hp) (U : MS) : Prop := ∃ c m t a1 a2 a3 n r, MI U c m t a1 a2 a3 n r ∧ CU h (mRd U) U c n r ∧ MAt h 77 U ∧ 80 ≤ h.1
theorem Inv.close (hI : MI U' c m t a1 a2 a3 n r) (hC : CU h1 (mRd U') U' c n r) (hM : MAt h2 77 U') (hs : Same 77 19 h1 h2) (hh : 80 ≤ h1.1) : Inv h2 U' :=
  ⟨c, m, t, a1, a2, a3, n, r, hI, hC.mo hs, hM, by rw [hs.1]; exact hh⟩
theorem Mg.one {j : Nat} (q : Mg U U') (hj : j ≠ 1 ∧ j ≠ 2 ∧ j ≠ 7 ∧ j ≠ 8 ∧ j ≠ 11 ∧ j ≠ 18) : U'.1 j = U.1 j := q.1 j hj.1 hj.2.1 hj.2.2.1 hj.2.2.2.1 hj.2.2.2.2.1 hj.2.2.2.2.2
/-- only the row is another -/
theorem MI.mg {m' t' b1 b2 b3 : Nat} (hI : MI U c m t a1 a2 a3 n r) (q : Mg U U') (hR : RowI c (U'.1 1) m' t' b1 b2 b3) : MI U' c m' t' b1 b2 b3 n r := by
  obtain ⟨⟨i1, i2, i3, i4⟩, ⟨i5, i6⟩, ⟨i7, i8⟩, i9, i10, ⟨i11, i12, i13⟩, i14, i15⟩ := hI
  have s := q.2.1
  refine ⟨⟨(q.one (by decide)).trans i1, (q.one (by decide)).trans i2, ?_, ?_⟩, ⟨?_, ?_⟩, ⟨i7, (s 8 (by omega)).trans i8⟩, hR, ?_, ⟨i11, (s 5 (by omega)).trans i12, ?_⟩, i14, (s 23 (by omega)).trans i15⟩
  · unfold mA; rw [q.one (j := 12) (by decide)]; exact i3
  · unfold mBo; rw [q.one (j := 13) (by decide)]; exact i4
  · unfold mZ; rw [q.one (j := 6) (by decide)]; exact i5
  · unfold mT; rw [q.one (j := 16) (by decide), q.one (j := 15) (by decide)]; exact i6
  · rw [s 3 (by omega), q.one (j := 3) (by decide)]; exact i10
  · rw [q.one (j := 4) (by decide)]; exact i13
theorem CU.mg (hC : CI h F c (U.2.1 3) g' (U.1 3) n (U.1 4) (U.1 15) (U.1 16) (U.2.2 17) (U.1 14, r)) (q : Mg U U') (e : U'.1 1 = g') : CU h F U' c n r := by
  subst e
  unfold CU
  rw [q.2.1 3 (by omega), q.one (j := 3) (by decide), q.one (j := 4) (by decide), q.one (j := 15) (by decide), q.one (j := 16) (by decide), q.one (j := 14) (by decide), q.2.2]
  exact hC
/-- a call that changes but the row -/
theorem Inv.row {m' t' b1 b2 b3 : Nat} (hI : MI U c m t a1 a2 a3 n r) (hC : CI h1 (mRd U) c (U.2.1 3) g' (U.1 3) n (U.1 4) (U.1 15) (U.1 16) (U.2.2 17) (U.1 14, r)) (q : Mg U U') (e : U'.1 1 = g') (hR : RowI c g' m' t' b1 b2 b3) (hM : MAt h2 77 U') (hs : Same 77 19 h1 h2) (hh : 80 ≤ h1.1) : Inv h2 U' := by
  refine Inv.close (hI.mg q (by rw [e]; exact hR)) ?_ hM hs hh
  rw [q.rd]
  exact CU.mg hC q e
end ALL
