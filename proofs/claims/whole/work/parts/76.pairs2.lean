/-! more calls of both -/
section PAIR2
variable {l : Launch} {G : GT} {d c m t a1 a2 a3 n r : Nat} {h : Hp} {g g' : Nat → Int32} {U U' : MS}
theorem gP2.gP {a : Nat} (hS : gP2 g m a) (hm : m ≤ 6) : gP g a := ⟨hS.1, hS.2.1, fun r hr q => by
  rcases hS.2.2 r hr with z | z | z
  · rw [z] at q; exact q.elim (fun y => absurd y (by decide)) (fun y => absurd y (by decide))
  · exact z.2.elim fun b hb => ⟨b, by omega, hb.2⟩
  · rw [z] at q; exact q.elim (fun y => absurd y (by decide)) (fun y => absurd y (by decide))⟩
theorem p_ends (hI : Inv h U) (w : Int32) (hd : 46 ≤ d) : Pr Value.int l G d h mX6_ends yX6_ends mX7_ends yX7_ends [.int w] := by
  obtain ⟨c, m, t, a1, a2, a3, n, r, hI1, hC, hM, hh⟩ := hI
  have hR : RowI c (U.1 1) m t a1 a2 a3 := hI1.2.2.2.1
  have ht9 := hR.t9
  have hz := hI1.2.1.1
  have hm : mOk U m := ⟨hR.ok.1, hR.ok.2.1⟩
  obtain ⟨a9, f9, hS9, ha9, hc9, hSe9⟩ := hC.r2
  obtain rfl : a9 = a2 := (nI_eq (by omega) (by have := hR.pl.2.1; omega)).mp (hc9.symm.trans hR.pl.1)
  refine ⟨_, c_X6_ends hC.ob hC.now hC.tri hR.ok hR.age (by omega) hS9 hSe9 hR.pl w (by omega), ?_⟩
  rintro _ h1 ⟨rfl, hT, hs⟩
  have hM2 := hM.fr hs (by omega)
  refine ⟨hM2.zo, _, rfl, _, c_X7_ends (MK.rf (n := 2)) hM2 hz hR.ok (by omega) (hR.pl.gP hm.2) (by omega) w (by omega), ?_⟩
  rintro _ h2 ⟨rfl, U', hM3, hK, hs3⟩
  exact ⟨rfl, _, Inv.row hI1 (hC.tq hT hs) hK.mgg hK.1 hR hM3 hs3 (by rw [hs.1]; exact hh)⟩
theorem p_looked (hI : Inv h U) (hd : 46 ≤ d) : Pr Value.int l G d h mX6_looked yX6_looked mX7_looked yX7_looked [] := by
  have hI0 := hI
  obtain ⟨c, m, t, a1, a2, a3, n, r, hI1, hC, hM, hh⟩ := hI
  have hR : RowI c (U.1 1) m t a1 a2 a3 := hI1.2.2.2.1
  have ht9 := hR.t9
  have hz := hI1.2.1.1
  have hm : mOk U m := ⟨hR.ok.1, hR.ok.2.1⟩
  obtain ⟨⟨i1, i2, i3, i4⟩, ⟨i5, i6⟩, ⟨i7, i8⟩, i9, i10, ⟨i11, i12, i13⟩, i14, i15⟩ := hI1
  obtain ⟨a9, f9, hS9, ha9, hc9, hSe9⟩ := hC.r3
  obtain rfl : a9 = a3 := (nI_eq (by omega) (by have := hR.bo.2.1; omega)).mp (hc9.symm.trans hR.bo.1)
  refine ⟨_, c_X6_looked hC.ob hC.now hm.1 hm.2 hS9 hSe9 hR.bo (by omega), ?_⟩
  rintro _ h1 ⟨rfl, rfl⟩
  refine ⟨hM.zo, _, rfl, _, c_X7_looked hM hR.bo.2.1 hR.bo.1 (fun r hr => (hR.bo.2.2 r hr).elim fun b hb => ⟨b, by have := hm.2; omega, hb.2⟩) (by omega), ?_⟩
  rintro _ h2 ⟨rfl, rfl⟩
  exact ⟨rfl, U, hI0⟩
theorem p_read (hI : Inv h U) (tl i : Int32) (hd : 46 ≤ d) : Pr Value.long l G d h mX6_read yX6_read mX7_read yX7_read [.int tl, .int i] := by
  have hI0 := hI
  obtain ⟨c, m, t, a1, a2, a3, n, r, hI1, hC, hM, hh⟩ := hI
  have hR : RowI c (U.1 1) m t a1 a2 a3 := hI1.2.2.2.1
  have ht9 := hR.t9
  have hz := hI1.2.1.1
  have hm : mOk U m := ⟨hR.ok.1, hR.ok.2.1⟩
  obtain ⟨⟨i1, i2, i3, i4⟩, ⟨i5, i6⟩, ⟨i7, i8⟩, i9, i10, ⟨i11, i12, i13⟩, i14, i15⟩ := hI1
  refine ⟨_, c_X6_read hC.ob hC.tp i6 tl i (by omega), ?_⟩
  rintro _ h1 ⟨rfl, rfl⟩
  refine ⟨hM.zo, _, rfl, _, c_X7_read hM i6 tl i (by omega), ?_⟩
  rintro _ h2 ⟨rfl, rfl⟩
  exact ⟨rfl, U, hI0⟩
theorem p_judge (hI : Inv h U) (tl i : Int32) (hd : 46 ≤ d) : Pr Value.int l G d h mX6_judge yX6_judge mX7_judge yX7_judge [.int tl, .int i] := by
  have hI0 := hI
  obtain ⟨c, m, t, a1, a2, a3, n, r, hI1, hC, hM, hh⟩ := hI
  have hR : RowI c (U.1 1) m t a1 a2 a3 := hI1.2.2.2.1
  have ht9 := hR.t9
  have hz := hI1.2.1.1
  have hm : mOk U m := ⟨hR.ok.1, hR.ok.2.1⟩
  obtain ⟨⟨i1, i2, i3, i4⟩, ⟨i5, i6⟩, ⟨i7, i8⟩, i9, i10, ⟨i11, i12, i13⟩, i14, i15⟩ := hI1
  refine ⟨_, c_X6_judge hC.ob hC.now hm.1 hm.2 rfl hC.tp i6 tl i (by omega), ?_⟩
  rintro _ h1 ⟨rfl, rfl⟩
  refine ⟨hM.zo, _, rfl, _, c_X7_judge hM hm i6 tl i (by omega), ?_⟩
  rintro _ h2 ⟨rfl, rfl⟩
  exact ⟨rfl, U, hI0⟩
theorem p_trace (hI : Inv h U) (x : Int32) (hd : 46 ≤ d) : Pr Value.int l G d h mX6_trace yX6_trace mX7_trace yX7_trace [.int x] := by
  have hI0 := hI
  obtain ⟨c, m, t, a1, a2, a3, n, r, hI1, hC, hM, hh⟩ := hI
  have hR : RowI c (U.1 1) m t a1 a2 a3 := hI1.2.2.2.1
  have ht9 := hR.t9
  have hz := hI1.2.1.1
  have hm : mOk U m := ⟨hR.ok.1, hR.ok.2.1⟩
  obtain ⟨⟨i1, i2, i3, i4⟩, ⟨i5, i6⟩, ⟨i7, i8⟩, i9, i10, ⟨i11, i12, i13⟩, i14, i15⟩ := hI1
  obtain ⟨v1, v2, v3, hV⟩ := hC.vo
  refine ⟨_, c_X6_trace hC.ob hV (by show r < _; omega) x (by omega), ?_⟩
  rintro _ h1 ⟨rfl, rfl⟩
  refine ⟨hM.zo, _, rfl, _, c_X7_trace hM i15 (by omega) x (by omega), ?_⟩
  rintro _ h2 ⟨rfl, rfl⟩
  exact ⟨by rw [i15], U, hI0⟩
theorem p_taken (hI : Inv h U) (tl x : Int32) (hd : 46 ≤ d) : Pr Value.int l G d h mX6_taken yX6_taken mX7_taken yX7_taken [.int tl, .int x] := by
  have hI0 := hI
  obtain ⟨c, m, t, a1, a2, a3, n, r, hI1, hC, hM, hh⟩ := hI
  have hR : RowI c (U.1 1) m t a1 a2 a3 := hI1.2.2.2.1
  have ht9 := hR.t9
  have hz := hI1.2.1.1
  have hm : mOk U m := ⟨hR.ok.1, hR.ok.2.1⟩
  obtain ⟨⟨i1, i2, i3, i4⟩, ⟨i5, i6⟩, ⟨i7, i8⟩, i9, i10, ⟨i11, i12, i13⟩, i14, i15⟩ := hI1
  refine ⟨_, c_X6_taken hC.ob hC.now hm.1 hm.2 hR.kd tl x (by omega), ?_⟩
  rintro _ h1 ⟨rfl, rfl⟩
  refine ⟨hM.zo, _, rfl, _, c_X7_taken hM hm i3 hR.kd tl x (by omega), ?_⟩
  rintro _ h2 ⟨rfl, rfl⟩
  exact ⟨rfl, U, hI0⟩
theorem p_count (hI : Inv h U) (w : Int32) (hd : 46 ≤ d) : Pr Value.int l G d h mX6_count yX6_count mX7_count yX7_count [.int w] := by
  have hI0 := hI
  obtain ⟨c, m, t, a1, a2, a3, n, r, hI1, hC, hM, hh⟩ := hI
  have hR : RowI c (U.1 1) m t a1 a2 a3 := hI1.2.2.2.1
  have ht9 := hR.t9
  have hz := hI1.2.1.1
  have hm : mOk U m := ⟨hR.ok.1, hR.ok.2.1⟩
  obtain ⟨⟨i1, i2, i3, i4⟩, ⟨i5, i6⟩, ⟨i7, i8⟩, i9, i10, ⟨i11, i12, i13⟩, i14, i15⟩ := hI1
  obtain ⟨v1, v2, v3, hV⟩ := hC.vo
  obtain ⟨b1, f1, hS1, _, hc1, _⟩ := hC.r1
  obtain ⟨b2, f2, hS2, _, hc2, _⟩ := hC.r2
  obtain ⟨b3, f3, hS3, _, hc3, _⟩ := hC.r3
  obtain ⟨x1, x2, x3, x4, hRd⟩ := hC.rd
  refine ⟨_, c_X6_count hC.ob hC.now hV hS1 hS2 hS3 hRd w (by omega), ?_⟩
  rintro _ h1 ⟨rfl, rfl⟩
  refine ⟨hM.zo, _, rfl, _, c_X7_count hM w (by omega), ?_⟩
  rintro _ h2 ⟨rfl, rfl⟩
  exact ⟨by rw [sCount, cCnt, i8, hc1, hc2, hc3, i12, i15], U, hI0⟩
theorem p_act (hI : Inv h U) (tl y x : Int32) (hd : 47 ≤ d) : Pr Value.int l G d h mX6_act yX6_act mX7_act yX7_act [.int tl, .int y, .int x] := by
  have hI0 := hI
  obtain ⟨c, m, t, a1, a2, a3, n, r, hI1, hC, hM, hh⟩ := hI
  have hR : RowI c (U.1 1) m t a1 a2 a3 := hI1.2.2.2.1
  have ht9 := hR.t9
  have hz := hI1.2.1.1
  have hm : mOk U m := ⟨hR.ok.1, hR.ok.2.1⟩
  obtain ⟨⟨i1, i2, i3, i4⟩, ⟨i5, i6⟩, ⟨i7, i8⟩, i9, i10, ⟨i11, i12, i13⟩, i14, i15⟩ := hI1
  obtain ⟨v1, v2, v3, hV⟩ := hC.vo
  refine ⟨_, c_X6_act hC.ob hC.now hm.1 hm.2 hV hR.kd tl y x (by omega), ?_⟩
  rintro _ h1 ⟨rfl, hV2, hs⟩
  have hM2 := hM.fr hs (by omega)
  refine ⟨hM2.zo, _, rfl, _, c_X7_act hM2 hm i3 i4 hR.kd tl y x (by omega), ?_⟩
  rintro _ h2 ⟨rfl, hM3, hs3⟩
  have hle : (sAct (U.1 1) m tl y x (U.1 14)).2.2 ≤ 1000000000 := by
    unfold sAct
    split
    · have := aRun_le (K := (U.1 1 (10 * tl.toNatClampNeg)).toNatClampNeg) (v := U.1 1 (10 * tl.toNatClampNeg + 1)) (i := tl) 21 (U.1 1 (10 * tl.toNatClampNeg)).toNatClampNeg y.toNatClampNeg x (U.1 14, 0)
      rw [pw_21] at this
      have e : ((U.1 14, 0) : TS).2 = 0 := rfl
      omega
    · exact Nat.zero_le _
  exact ⟨rfl, _, Inv.close (U' := mtr U (sAct (U.1 1) m tl y x (U.1 14)).2) (r := (sAct (U.1 1) m tl y x (U.1 14)).2.2) ⟨⟨i1, i2, i3, i4⟩, ⟨i5, i6⟩, ⟨i7, i8⟩, i9, i10, ⟨i11, i12, i13⟩, hle, rfl⟩ (hC.ac hV2 hs) hM3 hs3 (by rw [hs.1]; exact hh)⟩
end PAIR2
