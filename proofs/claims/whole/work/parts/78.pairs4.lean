/-! tapes: calls of both -/
section PAIR4
variable {F : FT} {l : Launch} {G : GT} {d c m t a1 a2 a3 n r : Nat} {h h1 h2 : Hp} {U U' : MS}
def Mt (U U' : MS) : Prop := (∀ j, j ≠ 15 → j ≠ 16 → U'.1 j = U.1 j) ∧ U'.2.1 = U.2.1
theorem Mt.it {P : Prop} [Decidable P] {A B : Int32 × MS} (hA : Mt U A.2) (hB : Mt U B.2) : Mt U (if P then A else B).2 := by
  split
  · exact hA
  · exact hB
theorem Mt.rf : Mt U U := ⟨fun _ _ _ => rfl, rfl⟩
theorem mt_tape (tl s n : Int32) : Mt U (sTape U tl s n).2 := by
  unfold sTape
  refine Mt.it (Mt.it (Mt.it Mt.rf ⟨fun j h15 h16 => ?_, rfl⟩) Mt.rf) Mt.rf
  show (if j = 16 then _ else if j = 15 then _ else U.1 j) = U.1 j
  rw [if_neg h16, if_neg h15]
theorem mt_item (tl i : Int32) (v : Int64) : Mt U (sItem U tl i v).2 := by
  unfold sItem
  exact Mt.it (Mt.it Mt.rf (Mt.it ⟨fun _ _ _ => rfl, rfl⟩ Mt.rf)) Mt.rf
theorem mT.it {P : Prop} [Decidable P] {A B : Int32 × MS} (hA : mT A.2) (hB : mT B.2) : mT (if P then A else B).2 := by
  split
  · exact hA
  · exact hB
theorem mT.item (hT : mT U) (tl i : Int32) (v : Int64) : mT (sItem U tl i v).2 := by
  unfold sItem
  exact mT.it (mT.it hT (mT.it hT hT)) hT
theorem mT.tape (hT : mT U) (tl s n : Int32) : mT (sTape U tl s n).2 := by
  unfold sTape
  split
  · rename_i z1
    split
    · rename_i z2
      split
      · exact hT
      · rename_i z3
        obtain ⟨b, hb, rfl⟩ := (bIn_lit (N := 5) (by omega)).mp z1
        intro t ht
        show (∃ q, q ≤ 60 ∧ upd (U.1 16) (nI b).toNatClampNeg (if s < 0 then 0 else n) t = nI q) ∧ (upd (U.1 15) (nI b).toNatClampNeg s t = -1 ∨ ∃ q, q < 5 ∧ upd (U.1 15) (nI b).toNatClampNeg s t = nI q)
        rw [nI_clamp (by omega)]
        by_cases e : t = b
        · subst e
          rw [upd_eq, upd_eq]
          by_cases q : s < 0
          · rw [if_pos q]
            exact ⟨⟨0, by omega, rfl⟩, Or.inl (Decidable.byContradiction fun y => by rw [tp_f1 q y] at z2; exact absurd z2.1 (by decide))⟩
          · rw [if_neg q]
            have hn0 : ¬ n < 0 := fun y => z3 ⟨Int32.not_lt.mp q, y⟩
            have hn1 : n ≤ 60 := z2.2.resolve_left q
            refine ⟨?_, Or.inr ?_⟩
            · exact (bIn_lit (N := 60) (by omega)).mp (show bIn n 0 (nI 60) = true from bI_tle hn0 hn1)
            · obtain ⟨k, hk, e⟩ := (bIn_lit (N := 4) (by omega)).mp (show bIn s 0 (nI 4) = true from bI_tle q (Int32.le_iff_toInt_le.mpr (bIn_toInt.mp z2.1).2))
              exact ⟨k, by omega, e⟩
        · rw [upd_ne e, upd_ne e]; exact hT t ht
    · exact hT
  · exact hT
theorem Mt.one {j : Nat} (q : Mt U U') (hj : j ≠ 15 ∧ j ≠ 16) : U'.1 j = U.1 j := q.1 j hj.1 hj.2
theorem Inv.tp (hI : MI U c m t a1 a2 a3 n r) (hC : CI h1 (mRd U) c (U.2.1 3) (U.1 1) (U.1 3) n (U.1 4) (U'.1 15) (U'.1 16) (U'.2.2 17) (U.1 14, r)) (q : Mt U U') (hT : mT U') (hM : MAt h2 77 U') (hs : Same 77 19 h1 h2) (hh : 80 ≤ h1.1) : Inv h2 U' := by
  obtain ⟨⟨i1, i2, i3, i4⟩, ⟨i5, i6⟩, ⟨i7, i8⟩, i9, i10, ⟨i11, i12, i13⟩, i14, i15⟩ := hI
  have s := q.2
  refine Inv.close (c := c) (m := m) (t := t) (a1 := a1) (a2 := a2) (a3 := a3) (n := n) (r := r) ⟨⟨(q.one (by decide)).trans i1, (q.one (by decide)).trans i2, ?_, ?_⟩, ⟨?_, hT⟩, ⟨i7, by rw [s]; exact i8⟩, ?_, ?_, ⟨i11, by rw [s]; exact i12, ?_⟩, i14, by rw [s]; exact i15⟩ ?_ hM hs hh
  · unfold mA; rw [q.one (j := 12) (by decide)]; exact i3
  · unfold mBo; rw [q.one (j := 13) (by decide)]; exact i4
  · unfold mZ; rw [q.one (j := 6) (by decide)]; exact i5
  · rw [q.one (j := 1) (by decide)]; exact i9
  · rw [s, q.one (j := 3) (by decide)]; exact i10
  · rw [q.one (j := 4) (by decide)]; exact i13
  · rw [mRd_e (q.one (j := 5) (by decide)) (q.one (j := 6) (by decide)) (q.one (j := 9) (by decide)) (q.one (j := 10) (by decide))]
    unfold CU
    rw [s, q.one (j := 1) (by decide), q.one (j := 3) (by decide), q.one (j := 4) (by decide), q.one (j := 14) (by decide)]
    exact hC
theorem p_tape (hI : Inv h U) (tl s n : Int32) (hd : 46 ≤ d) : Pr Value.int l G d h mX6_tape yX6_tape mX7_tape yX7_tape [.int tl, .int s, .int n] := by
  obtain ⟨c, m, t, a1, a2, a3, nn, r, hI1, hC, hM, hh⟩ := hI
  have hR : RowI c (U.1 1) m t a1 a2 a3 := hI1.2.2.2.1
  have ht9 := hR.t9
  have hz := hI1.2.1.1
  have hm : mOk U m := ⟨hR.ok.1, hR.ok.2.1⟩
  have hT6 := hI1.2.1.2
  refine ⟨_, c_X6_tape hC.ob hC.tp hT6 tl s n (by omega), ?_⟩
  rintro _ h1 ⟨rfl, hT2, hs⟩
  have hM2 := hM.fr hs (by omega)
  refine ⟨hM2.zo, _, rfl, _, c_X7_tape hM2 tl s n (by omega), ?_⟩
  rintro _ h2 ⟨rfl, hM3, hs3⟩
  exact ⟨rfl, _, Inv.tp hI1 (hC.ta hT2 hs) (mt_tape tl s n) (hT6.tape tl s n) hM3 hs3 (by rw [hs.1]; exact hh)⟩
theorem p_item (hI : Inv h U) (tl i : Int32) (v : Int64) (hd : 46 ≤ d) : Pr Value.int l G d h mX6_item yX6_item mX7_item yX7_item [.int tl, .int i, .long v] := by
  obtain ⟨c, m, t, a1, a2, a3, n, r, hI1, hC, hM, hh⟩ := hI
  have hR : RowI c (U.1 1) m t a1 a2 a3 := hI1.2.2.2.1
  have ht9 := hR.t9
  have hz := hI1.2.1.1
  have hm : mOk U m := ⟨hR.ok.1, hR.ok.2.1⟩
  have hT6 := hI1.2.1.2
  refine ⟨_, c_X6_item hC.ob hC.tp hT6 tl i v (by omega), ?_⟩
  rintro _ h1 ⟨rfl, hT2, hs⟩
  have hM2 := hM.fr hs (by omega)
  refine ⟨hM2.zo, _, rfl, _, c_X7_item hM2 hT6 tl i v (by omega), ?_⟩
  rintro _ h2 ⟨rfl, hM3, hs3⟩
  exact ⟨rfl, _, Inv.tp hI1 (hC.ta hT2 hs) (mt_item tl i v) (hT6.item tl i v) hM3 hs3 (by rw [hs.1]; exact hh)⟩
theorem p_shift (hI : Inv h U) (tl x tk y z : Int32) (hd : 46 ≤ d) : Pr Value.int l G d h mX6_shift yX6_shift mX7_shift yX7_shift [.int tl, .int x, .int tk, .int y, .int z] := by
  obtain ⟨c, m, t, a1, a2, a3, n, r, hI1, hC, hM, hh⟩ := hI
  have hR : RowI c (U.1 1) m t a1 a2 a3 := hI1.2.2.2.1
  have ht9 := hR.t9
  have hz := hI1.2.1.1
  have hm : mOk U m := ⟨hR.ok.1, hR.ok.2.1⟩
  have hT6 := hI1.2.1.2
  refine ⟨_, c_X6_shift hC.ob hC.tp hT6 tl x tk y z (by omega), ?_⟩
  rintro _ h1 ⟨rfl, hT2, hs⟩
  have hM2 := hM.fr hs (by omega)
  refine ⟨hM2.zo, _, rfl, _, c_X7_shift hM2 hT6 tl x tk y z (by omega), ?_⟩
  rintro _ h2 ⟨rfl, f, hM3, hs3⟩
  exact ⟨rfl, _, Inv.tp (U' := msL (msL U 18 f) 17 (sShift U tl x tk y z).2) hI1 (by rw [msL_eq]; exact hC.ta hT2 hs) ⟨fun _ _ _ => rfl, rfl⟩ hT6 hM3 hs3 (by rw [hs.1]; exact hh)⟩
end PAIR4
