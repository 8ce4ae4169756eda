/-! rows told by hand, the text: calls of both -/
section PAIR3
variable {F : FT} {l : Launch} {G : GT} {d c m t a1 a2 a3 n r : Nat} {h h' : Hp} {bi : Int32} {g g' gi R S N : Nat → Int32} {V : Nat → Int64} {s : TS} {U U' : MS}
theorem CI.rw (hC : CI h F c bi g gi n R S N V s) (e : ∀ j, j < 69 → g' j = g j) {w N' : Nat} (hs : Same w N' h h') (hw : 47 ≤ w ∧ w + N' ≤ 53) (q1 : ∃ a f, RAt h' 47 5 a f ∧ a ≤ 5 ∧ g' 69 = nI a ∧ SeR f g' a) (q2 : ∃ a f, RAt h' 49 10 a f ∧ a ≤ 10 ∧ g' 85 = nI a ∧ PlR f g' a) (q3 : ∃ a f, RAt h' 51 8 a f ∧ a ≤ 8 ∧ g' 106 = nI a ∧ BoR f g' a) : CI h' F c bi g' gi n R S N V s :=
  ⟨hC.ob.fr hs (by omega), (hC.now.fr hs ⟨by omega, by omega⟩).gx (fun j hj => (e j hj).symm), hC.tri.fr hs (by omega), fr_im hC.im hs (by omega), q1, q2, q3, fr_r hC.e1 hs (by omega), fr_r hC.e2 hs (by omega), fr_r hC.e3 hs (by omega), fr_rd hC.rd hs (by omega), hC.tp.fr hs (by omega), fr_vo hC.vo hs (by omega)⟩
theorem p_see (hI : Inv h U) (tl x y : Int32) (hd : 46 ≤ d) : Pr Value.int l G d h mX6_see yX6_see mX7_see yX7_see [.int tl, .int x, .int y] := by
  obtain ⟨c, m, t, a1, a2, a3, n, r, hI1, hC, hM, hh⟩ := hI
  have hR : RowI c (U.1 1) m t a1 a2 a3 := hI1.2.2.2.1
  have ht9 := hR.t9
  have hz := hI1.2.1.1
  have hm : mOk U m := ⟨hR.ok.1, hR.ok.2.1⟩
  obtain ⟨a9, f9, hS9, ha9, hc9, hSe9⟩ := hC.r1
  obtain rfl : a9 = a1 := (nI_eq (by omega) (by have := hR.se.2.1; omega)).mp (hc9.symm.trans hR.se.1)
  have hk := see_ok hR hSe9 tl x y
  refine ⟨_, c_X6_see hC.ob hC.now hm.1 hm.2 hS9 ha9 tl x y (by omega), ?_⟩
  rintro _ h1 ⟨rfl, hS2, hs⟩
  have hM2 := hM.fr hs (by omega)
  refine ⟨hM2.zo, _, rfl, _, c_X7_see hM2 hm hR.se.2.1 hR.se.1 tl x y (by omega), ?_⟩
  rintro _ h2 ⟨rfl, hM3, hs3⟩
  refine ⟨by rw [hk.1], _, Inv.row hI1 (CI.rw hC (fun j hj => hk.2.2.2 j (Or.inl (by omega))) hs (by omega) ⟨_, _, hS2, hk.2.1.se.2.1, hk.2.1.se.1, hk.2.2.1⟩ ?_ ?_) mg_Mg mg_row hk.2.1 hM3 hs3 (by rw [hs.1]; exact hh)⟩
  · obtain ⟨a, f, x1, x2, x3, x4⟩ := hC.r2
    exact ⟨a, f, x1.fr hs (by omega), x2, (hk.2.2.2 85 (by omega)).trans x3, fun r hr => ⟨(x4 r hr).1.trans (hk.2.2.2 _ (by omega)).symm, (x4 r hr).2.trans (hk.2.2.2 _ (by omega)).symm⟩⟩
  · obtain ⟨a, f, x1, x2, x3, x4⟩ := hC.r3
    exact ⟨a, f, x1.fr hs (by omega), x2, (hk.2.2.2 106 (by omega)).trans x3, fun r hr => ⟨(x4 r hr).1.trans (hk.2.2.2 _ (by omega)).symm, (x4 r hr).2.trans (hk.2.2.2 _ (by omega)).symm⟩⟩
theorem p_plan (hI : Inv h U) (tl p : Int32) (hd : 46 ≤ d) : Pr Value.int l G d h mX6_plan yX6_plan mX7_plan yX7_plan [.int tl, .int p] := by
  obtain ⟨c, m, t, a1, a2, a3, n, r, hI1, hC, hM, hh⟩ := hI
  have hR : RowI c (U.1 1) m t a1 a2 a3 := hI1.2.2.2.1
  have ht9 := hR.t9
  have hz := hI1.2.1.1
  have hm : mOk U m := ⟨hR.ok.1, hR.ok.2.1⟩
  obtain ⟨a9, f9, hS9, ha9, hc9, hSe9⟩ := hC.r2
  obtain rfl : a9 = a2 := (nI_eq (by omega) (by have := hR.pl.2.1; omega)).mp (hc9.symm.trans hR.pl.1)
  have hk := plan_ok hR hSe9 tl p
  refine ⟨_, c_X6_plan hC.ob hC.now hm.1 hm.2 hS9 ha9 tl p (by omega), ?_⟩
  rintro _ h1 ⟨rfl, hS2, hs⟩
  have hM2 := hM.fr hs (by omega)
  refine ⟨hM2.zo, _, rfl, _, c_X7_plan hM2 hm hR.pl.2.1 hR.pl.1 tl p (by omega), ?_⟩
  rintro _ h2 ⟨rfl, hM3, hs3⟩
  refine ⟨by rw [hk.1], _, Inv.row hI1 (CI.rw hC (fun j hj => hk.2.2.2 j (Or.inl (by omega))) hs (by omega) ?_ ⟨_, _, hS2, hk.2.1.pl.2.1, hk.2.1.pl.1, hk.2.2.1⟩ ?_) mg_Mg mg_row hk.2.1 hM3 hs3 (by rw [hs.1]; exact hh)⟩
  · obtain ⟨a, f, x1, x2, x3, x4⟩ := hC.r1
    exact ⟨a, f, x1.fr hs (by omega), x2, (hk.2.2.2 69 (by omega)).trans x3, fun r hr => ⟨(x4 r hr).1.trans (hk.2.2.2 _ (by omega)).symm, (x4 r hr).2.1.trans (hk.2.2.2 _ (by omega)).symm, (x4 r hr).2.2.trans (hk.2.2.2 _ (by omega)).symm⟩⟩
  · obtain ⟨a, f, x1, x2, x3, x4⟩ := hC.r3
    exact ⟨a, f, x1.fr hs (by omega), x2, (hk.2.2.2 106 (by omega)).trans x3, fun r hr => ⟨(x4 r hr).1.trans (hk.2.2.2 _ (by omega)).symm, (x4 r hr).2.trans (hk.2.2.2 _ (by omega)).symm⟩⟩
theorem p_book (hI : Inv h U) (tl p : Int32) (hd : 46 ≤ d) : Pr Value.int l G d h mX6_book yX6_book mX7_book yX7_book [.int tl, .int p] := by
  obtain ⟨c, m, t, a1, a2, a3, n, r, hI1, hC, hM, hh⟩ := hI
  have hR : RowI c (U.1 1) m t a1 a2 a3 := hI1.2.2.2.1
  have ht9 := hR.t9
  have hz := hI1.2.1.1
  have hm : mOk U m := ⟨hR.ok.1, hR.ok.2.1⟩
  obtain ⟨a9, f9, hS9, ha9, hc9, hSe9⟩ := hC.r3
  obtain rfl : a9 = a3 := (nI_eq (by omega) (by have := hR.bo.2.1; omega)).mp (hc9.symm.trans hR.bo.1)
  have hk := book_ok hR hSe9 tl p
  refine ⟨_, c_X6_book hC.ob hC.now hm.1 hm.2 hS9 ha9 tl p (by omega), ?_⟩
  rintro _ h1 ⟨rfl, hS2, hs⟩
  have hM2 := hM.fr hs (by omega)
  refine ⟨hM2.zo, _, rfl, _, c_X7_book hM2 hm hR.bo.2.1 hR.bo.1 tl p (by omega), ?_⟩
  rintro _ h2 ⟨rfl, hM3, hs3⟩
  refine ⟨by rw [hk.1], _, Inv.row hI1 (CI.rw hC (fun j hj => hk.2.2.2 j (Or.inl (by omega))) hs (by omega) ?_ ?_ ⟨_, _, hS2, hk.2.1.bo.2.1, hk.2.1.bo.1, hk.2.2.1⟩) mg_Mg mg_row hk.2.1 hM3 hs3 (by rw [hs.1]; exact hh)⟩
  · obtain ⟨a, f, x1, x2, x3, x4⟩ := hC.r1
    exact ⟨a, f, x1.fr hs (by omega), x2, (hk.2.2.2 69 (by omega)).trans x3, fun r hr => ⟨(x4 r hr).1.trans (hk.2.2.2 _ (by omega)).symm, (x4 r hr).2.1.trans (hk.2.2.2 _ (by omega)).symm, (x4 r hr).2.2.trans (hk.2.2.2 _ (by omega)).symm⟩⟩
  · obtain ⟨a, f, x1, x2, x3, x4⟩ := hC.r2
    exact ⟨a, f, x1.fr hs (by omega), x2, (hk.2.2.2 85 (by omega)).trans x3, fun r hr => ⟨(x4 r hr).1.trans (hk.2.2.2 _ (by omega)).symm, (x4 r hr).2.trans (hk.2.2.2 _ (by omega)).symm⟩⟩
theorem p_feed (hI : Inv h U) (x : Int32) (hd : 46 ≤ d) : Pr Value.int l G d h mX6_feed yX6_feed mX7_feed yX7_feed [.int x] := by
  obtain ⟨c, m, t, a1, a2, a3, n, r, hI1, hC, hM, hh⟩ := hI
  have hR : RowI c (U.1 1) m t a1 a2 a3 := hI1.2.2.2.1
  have ht9 := hR.t9
  have hz := hI1.2.1.1
  have hm : mOk U m := ⟨hR.ok.1, hR.ok.2.1⟩
  have hI2 := hI1
  obtain ⟨⟨i1, i2, i3, i4⟩, ⟨i5, i6⟩, ⟨i7, i8⟩, i9, i10, ⟨i11, i12, i13⟩, i14, i15⟩ := hI2
  obtain ⟨x1, x2, x3, x4, hRd⟩ := hC.rd
  refine ⟨_, c_X6_feed hC.ob hRd i11 x (by omega), ?_⟩
  rintro _ h1 ⟨rfl, hR2, hs⟩
  have hM2 := hM.fr hs (by omega)
  refine ⟨hM2.zo, _, rfl, _, c_X7_feed hM2 i11 i12 x (by omega), ?_⟩
  rintro _ h2 ⟨rfl, hM3, hs3⟩
  have hh1 : 80 ≤ h1.1 := by rw [hs.1]; exact hh
  by_cases b1 : bIn x 0 127 = true
  · by_cases b2 : n = 100
    · rw [cFeed, if_pos b1, if_pos b2] at hR2 ⊢
      rw [sFeed, if_pos b1, if_pos (show nI n = 100 by rw [b2]; rfl)] at hM3 ⊢
      exact ⟨rfl, U, Inv.close hI1 (hC.tx ⟨_, _, _, _, hR2⟩ hs) hM3 hs3 hh1⟩
    · rw [cFeed, if_pos b1, if_neg b2] at hR2 ⊢
      rw [sFeed, if_pos b1, if_neg (show ¬ nI n = 100 from fun z => b2 ((nI_eq (b := 100) (by omega) (by omega)).mp z))] at hM3 ⊢
      refine ⟨by rw [show nI n + 1 = nI (n + 1) from nI_1 n], msc (mup U 4 n x) 5 (nI n + 1), Inv.close (n := n + 1) (r := r) ⟨⟨i1, i2, i3, i4⟩, ⟨i5, i6⟩, ⟨i7, i8⟩, i9, i10, ⟨by omega, nI_1 n, ?_⟩, i14, i15⟩ ?_ hM3 hs3 hh1⟩
      · intro i hi
        show ∃ cc, cc < 128 ∧ upd (U.1 4) n x i = nI cc
        by_cases e : i = n
        · subst e
          rw [upd_eq]
          obtain ⟨k, hk, e⟩ := (bIn_lit (N := 127) (by omega)).mp b1
          exact ⟨k, by omega, e⟩
        · rw [upd_ne e]; exact i13 i (by omega)
      · rw [mRd_e (U := U) (U' := msc (mup U 4 n x) 5 (nI n + 1)) rfl rfl rfl rfl]
        exact hC.tx ⟨_, _, _, _, hR2⟩ hs
  · rw [cFeed, if_neg b1] at hR2 ⊢
    rw [sFeed, if_neg b1] at hM3 ⊢
    exact ⟨rfl, U, Inv.close hI1 (hC.tx ⟨_, _, _, _, hR2⟩ hs) hM3 hs3 hh1⟩
end PAIR3
