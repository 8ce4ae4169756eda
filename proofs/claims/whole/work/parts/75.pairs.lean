/-! a call of both: the same answer, and what held holds again -/
section PAIR
variable {l : Launch} {G : GT} {d c m t a1 a2 a3 n r : Nat} {h : Hp} {g g' : Nat → Int32} {U U' : MS}
def Pr {α : Type} (mk : α → Value) (l : Launch) (G : GT) (d : Nat) (h : Hp) (mx : MT) (yx : MethodName) (mm : MT) (ym : MethodName) (as : List Value) : Prop := ∃ (Q1 : Option Value → Hp → Prop), Ct l G mx yx d 0 0 (.ref 16 :: as) h Q1 ∧ ∀ r1 h1, Q1 r1 h1 → zOb (h1.2 77) 7 28 ∧ ∃ v, r1 = some (mk v) ∧ ∃ Q2, Ct l G mm ym d 0 0 (.ref 77 :: as) h1 Q2 ∧ ∀ r2 h2, Q2 r2 h2 → r2 = some (mk v) ∧ ∃ U', Inv h2 U'
def Tl (g g' : Nat → Int32) : Prop := ∀ j, 69 ≤ j → g' j = g j
theorem Tl.rf : Tl g g := fun _ _ => rfl
theorem Tl.it {P : Prop} [Decidable P] {A B : Int32 × (Nat → Int32)} (hA : Tl g A.2) (hB : Tl g B.2) : Tl g (if P then A else B).2 := by
  split
  · exact hA
  · exact hB
theorem Tl.u {p : Nat} {x : Int32} (hT : Tl g g') (hp : p < 69) : Tl g (upd g' p x) := fun j hj => (upd_ne (by omega)).trans (hT j hj)
theorem Tl.bd (hT : Tl g g') : ∀ j, 69 ≤ j → j < 123 → g' j = g j := fun j hj _ => hT j hj
theorem mg_Mg {g' : Nat → Int32} : Mg U (mg U g') := ⟨fun _ h1 _ _ _ _ _ => if_neg h1, fun _ _ => rfl, rfl⟩
theorem mg_row {g' : Nat → Int32} : (mg U g').1 1 = g' := by
  show (if (1 : Nat) = 1 then g' else U.1 1) = g'
  exact if_pos rfl
theorem MAt.zo (hM : MAt h 77 U) : zOb (h.2 77) 7 28 := by
  rw [hM.2.1]; exact ⟨rfl, rfl⟩
theorem gS2.gS {a : Nat} (hS : gS2 g m a) (hm : m ≤ 6) : gS g a := ⟨hS.1, hS.2.1, fun r hr => (hS.2.2 r hr).1.elim fun b hb => ⟨b, by omega, hb.2⟩⟩
theorem RowI.tlweigh (hR : RowI c g m t a1 a2 a3) (tl x : Int32) : Tl g (sWeigh g m tl x).2 := by
  have hm := hR.ok.2.1
  unfold sWeigh
  split
  · rename_i z
    obtain ⟨b, hb, rfl⟩ := (bIn_one hm).mp z
    rw [nI_clamp (by omega)]
    exact Tl.it (Tl.rf.u (by omega)) Tl.rf
  · exact Tl.rf
theorem RowI.tlput (hR : RowI c g m t a1 a2 a3) (tl p x : Int32) : Tl g (sPut g m tl p x).2 := by
  have hm := hR.ok.2.1
  unfold sPut
  split
  · rename_i z
    obtain ⟨b, hb, rfl⟩ := (bIn_one hm).mp z.1
    rw [nI_clamp (by omega)]
    exact Tl.it ((Tl.rf.u (by omega)).u (by omega)) Tl.rf
  · exact Tl.rf
theorem RowI.tlrow (hR : RowI c g m t a1 a2 a3) (tl p x : Int32) : Tl g (sRow g m tl p x).2 := by
  have hm := hR.ok.2.1
  unfold sRow
  split
  · rename_i z
    obtain ⟨b, hb, rfl⟩ := (bIn_one hm).mp z.1
    obtain ⟨y, hy, rfl⟩ := (bIn_lit (N := 3) (by omega)).mp z.2
    rw [nI_clamp (n := b) (by omega), nI_clamp (n := y) (by omega)]
    exact Tl.it (Tl.it (Tl.rf.u (by omega)) Tl.rf) Tl.rf
  · exact Tl.rf
theorem RowI.tlsea (hR : RowI c g m t a1 a2 a3) (tl x : Int32) : Tl g (sSea g tl x).2 := by
  unfold sSea
  split
  · rename_i z
    obtain ⟨b, hb, rfl⟩ := (bIn_lit (N := 5) (by omega)).mp z
    rw [nI_clamp (n := b) (by omega)]
    exact Tl.it (Tl.rf.u (by omega)) Tl.rf
  · exact Tl.rf
theorem RowI.tltell (hR : RowI c g m t a1 a2 a3) (tl : Int32) : Tl g (sTell g m tl).2 := by
  have hm := hR.ok.2.1
  unfold sTell
  split
  · rename_i z
    obtain ⟨b, hb, rfl⟩ := (bIn_one hm).mp z
    rw [nI_clamp (by omega)]
    refine Tl.it ?_ Tl.rf
    show Tl g (sSays g b)
    unfold sSays
    split
    · exact (Tl.rf.u (by omega)).u (by omega)
    · exact Tl.rf
  · exact Tl.rf
theorem RowI.tlteller (hR : RowI c g m t a1 a2 a3) (kd v w : Int32) : Tl g (sTeller g m kd v w).2 := by
  have hm := hR.ok.2.1
  unfold sTeller
  refine Tl.it (Tl.it ?_ Tl.rf) Tl.rf
  split
  · exact Tl.rf
  · intro j hj
    show sNew g m kd v w j = g j
    unfold sNew
    rw [if_neg (by omega), if_neg (by omega), if_neg (by omega), if_neg (by omega), if_neg (by omega)]
theorem RowI.tlpass {F : FT} (hR : RowI c g m t a1 a2 a3) (x : Int32) : Tl g (sPass F g m t x).2 := by
  have hm := hR.ok.2.1
  unfold sPass
  exact Tl.it (Tl.it Tl.rf fun j hj => sDys_hi hm (by omega) (by omega) (by omega) _ t g) Tl.rf

theorem p_teller (hI : Inv h U) (k v w : Int32) (hd : 46 ≤ d)   : Pr Value.int l G d h mX6_teller yX6_teller mX7_teller yX7_teller [.int k, .int v, .int w] := by
  obtain ⟨c, m, t, a1, a2, a3, n, r, hI1, hC, hM, hh⟩ := hI
  have hR : RowI c (U.1 1) m t a1 a2 a3 := hI1.2.2.2.1
  have ht9 := hR.t9
  have hz := hI1.2.1.1
  have hm : mOk U m := ⟨hR.ok.1, hR.ok.2.1⟩
  refine ⟨_, c_X6_teller hC.ob hC.now hm.1 hm.2 k v w (by omega), ?_⟩
  rintro _ h1 ⟨rfl, hW, hs⟩
  have hM2 := hM.fr hs (by omega)
  refine ⟨hM2.zo, _, rfl, _, c_X7_teller hM2 hm k v w (by omega), ?_⟩
  rintro _ h2 ⟨rfl, hM3, hs3⟩
  obtain ⟨m9, hR9⟩ := hR.teller k v w
  exact ⟨rfl, _, Inv.row hI1 (hC.nw hW hs (hR.tlteller k v w).bd) mg_Mg mg_row hR9 hM3 hs3 (by rw [hs.1]; exact hh)⟩
theorem p_tell (hI : Inv h U) (tl : Int32) (hd : 46 ≤ d)   : Pr Value.int l G d h mX6_tell yX6_tell mX7_tell yX7_tell [.int tl] := by
  obtain ⟨c, m, t, a1, a2, a3, n, r, hI1, hC, hM, hh⟩ := hI
  have hR : RowI c (U.1 1) m t a1 a2 a3 := hI1.2.2.2.1
  have ht9 := hR.t9
  have hz := hI1.2.1.1
  have hm : mOk U m := ⟨hR.ok.1, hR.ok.2.1⟩
  refine ⟨_, c_X6_tell hC.ob hC.now hm.1 hm.2 tl (by omega), ?_⟩
  rintro _ h1 ⟨rfl, hW, hs⟩
  have hM2 := hM.fr hs (by omega)
  refine ⟨hM2.zo, _, rfl, _, c_X7_tell hM2 hm tl (by omega), ?_⟩
  rintro _ h2 ⟨rfl, hM3, hs3⟩
  have hR9 := hR.tell tl
  exact ⟨rfl, _, Inv.row hI1 (hC.nw hW hs (hR.tltell tl).bd) mg_Mg mg_row hR9 hM3 hs3 (by rw [hs.1]; exact hh)⟩
theorem p_weigh (hI : Inv h U) (tl x : Int32) (hd : 46 ≤ d)   : Pr Value.int l G d h mX6_weigh yX6_weigh mX7_weigh yX7_weigh [.int tl, .int x] := by
  obtain ⟨c, m, t, a1, a2, a3, n, r, hI1, hC, hM, hh⟩ := hI
  have hR : RowI c (U.1 1) m t a1 a2 a3 := hI1.2.2.2.1
  have ht9 := hR.t9
  have hz := hI1.2.1.1
  have hm : mOk U m := ⟨hR.ok.1, hR.ok.2.1⟩
  refine ⟨_, c_X6_weigh hC.ob hC.now hm.1 hm.2 tl x (by omega), ?_⟩
  rintro _ h1 ⟨rfl, hW, hs⟩
  have hM2 := hM.fr hs (by omega)
  refine ⟨hM2.zo, _, rfl, _, c_X7_weigh hM2 hm tl x (by omega), ?_⟩
  rintro _ h2 ⟨rfl, hM3, hs3⟩
  have hR9 := hR.weigh tl x
  exact ⟨rfl, _, Inv.row hI1 (hC.nw hW hs (hR.tlweigh tl x).bd) mg_Mg mg_row hR9 hM3 hs3 (by rw [hs.1]; exact hh)⟩
theorem p_put (hI : Inv h U) (tl p x : Int32) (hd : 46 ≤ d)   : Pr Value.int l G d h mX6_put yX6_put mX7_put yX7_put [.int tl, .int p, .int x] := by
  obtain ⟨c, m, t, a1, a2, a3, n, r, hI1, hC, hM, hh⟩ := hI
  have hR : RowI c (U.1 1) m t a1 a2 a3 := hI1.2.2.2.1
  have ht9 := hR.t9
  have hz := hI1.2.1.1
  have hm : mOk U m := ⟨hR.ok.1, hR.ok.2.1⟩
  refine ⟨_, c_X6_put hC.ob hC.now hm.1 hm.2 tl p x (by omega), ?_⟩
  rintro _ h1 ⟨rfl, hW, hs⟩
  have hM2 := hM.fr hs (by omega)
  refine ⟨hM2.zo, _, rfl, _, c_X7_put hM2 hm tl p x (by omega), ?_⟩
  rintro _ h2 ⟨rfl, hM3, hs3⟩
  have hR9 := hR.put tl p x
  exact ⟨rfl, _, Inv.row hI1 (hC.nw hW hs (hR.tlput tl p x).bd) mg_Mg mg_row hR9 hM3 hs3 (by rw [hs.1]; exact hh)⟩
theorem p_sea (hI : Inv h U) (w x : Int32) (hd : 46 ≤ d)   : Pr Value.int l G d h mX6_sea yX6_sea mX7_sea yX7_sea [.int w, .int x] := by
  obtain ⟨c, m, t, a1, a2, a3, n, r, hI1, hC, hM, hh⟩ := hI
  have hR : RowI c (U.1 1) m t a1 a2 a3 := hI1.2.2.2.1
  have ht9 := hR.t9
  have hz := hI1.2.1.1
  have hm : mOk U m := ⟨hR.ok.1, hR.ok.2.1⟩
  refine ⟨_, c_X6_sea hC.ob hC.now w x (by omega), ?_⟩
  rintro _ h1 ⟨rfl, hW, hs⟩
  have hM2 := hM.fr hs (by omega)
  refine ⟨hM2.zo, _, rfl, _, c_X7_sea hM2 hm w x (by omega), ?_⟩
  rintro _ h2 ⟨rfl, hM3, hs3⟩
  have hR9 := hR.sea w x
  exact ⟨rfl, _, Inv.row hI1 (hC.nw hW hs (hR.tlsea w x).bd) mg_Mg mg_row hR9 hM3 hs3 (by rw [hs.1]; exact hh)⟩
theorem p_row (hI : Inv h U) (tl p x : Int32) (hd : 46 ≤ d)   : Pr Value.int l G d h mX6_row yX6_row mX7_row yX7_row [.int tl, .int p, .int x] := by
  obtain ⟨c, m, t, a1, a2, a3, n, r, hI1, hC, hM, hh⟩ := hI
  have hR : RowI c (U.1 1) m t a1 a2 a3 := hI1.2.2.2.1
  have ht9 := hR.t9
  have hz := hI1.2.1.1
  have hm : mOk U m := ⟨hR.ok.1, hR.ok.2.1⟩
  refine ⟨_, c_X6_row hC.ob hC.now hm.1 hm.2 tl p x (by omega), ?_⟩
  rintro _ h1 ⟨rfl, hW, hs⟩
  have hM2 := hM.fr hs (by omega)
  refine ⟨hM2.zo, _, rfl, _, c_X7_row hM2 hm tl p x (by omega), ?_⟩
  rintro _ h2 ⟨rfl, hM3, hs3⟩
  have hR9 := hR.row tl p x
  exact ⟨rfl, _, Inv.row hI1 (hC.nw hW hs (hR.tlrow tl p x).bd) mg_Mg mg_row hR9 hM3 hs3 (by rw [hs.1]; exact hh)⟩
theorem p_pass (hI : Inv h U) (x : Int32) (hd : 46 ≤ d)   : Pr Value.int l G d h mX6_pass yX6_pass mX7_pass yX7_pass [.int x] := by
  obtain ⟨c, m, t, a1, a2, a3, n, r, hI1, hC, hM, hh⟩ := hI
  have hR : RowI c (U.1 1) m t a1 a2 a3 := hI1.2.2.2.1
  have ht9 := hR.t9
  have hz := hI1.2.1.1
  have hm : mOk U m := ⟨hR.ok.1, hR.ok.2.1⟩
  refine ⟨_, c_X6_pass hC.ob hC.now hR.ok hR.age ht9 x (by omega), ?_⟩
  rintro _ h1 ⟨rfl, hW, hs⟩
  have hM2 := hM.fr hs (by omega)
  refine ⟨hM2.zo, _, rfl, _, c_X7_pass hM2 hz hR.ok (by omega) x (by omega), ?_⟩
  rintro _ h2 ⟨rfl, U', hM3, hK, hs3⟩
  obtain ⟨t9, hR9⟩ := hR.pass (F := mRd U) x
  exact ⟨rfl, _, Inv.row hI1 (hC.nw hW hs (hR.tlpass x).bd) hK.mgg hK.1 hR9 hM3 hs3 (by rw [hs.1]; exact hh)⟩
theorem p_of (hI : Inv h U) (tl w : Int32) (hd : 46 ≤ d)   : Pr Value.int l G d h mX6_of yX6_of mX7_of yX7_of [.int tl, .int w] := by
  obtain ⟨c, m, t, a1, a2, a3, n, r, hI1, hC, hM, hh⟩ := hI
  have hR : RowI c (U.1 1) m t a1 a2 a3 := hI1.2.2.2.1
  have ht9 := hR.t9
  have hz := hI1.2.1.1
  have hm : mOk U m := ⟨hR.ok.1, hR.ok.2.1⟩
  refine ⟨_, c_X6_of hC.ob hC.now hC.tri hR.ok hR.age (by omega) tl w (by omega), ?_⟩
  rintro _ h1 ⟨rfl, hW, hT, hs⟩
  have hM2 := hM.fr hs (by omega)
  refine ⟨hM2.zo, _, rfl, _, c_X7_of hM2 hz hR.ok (by omega) tl w (by omega), ?_⟩
  rintro _ h2 ⟨rfl, U', hM3, hK, hs3⟩
  exact ⟨rfl, _, Inv.row hI1 (hC.tr hW hT hs) hK.mgg hK.1 hR hM3 hs3 (by rw [hs.1]; exact hh)⟩
theorem p_told (hI : Inv h U) (w : Int32) (hd : 46 ≤ d)   : Pr Value.int l G d h mX6_told yX6_told mX7_told yX7_told [.int w] := by
  obtain ⟨c, m, t, a1, a2, a3, n, r, hI1, hC, hM, hh⟩ := hI
  have hR : RowI c (U.1 1) m t a1 a2 a3 := hI1.2.2.2.1
  have ht9 := hR.t9
  have hz := hI1.2.1.1
  have hm : mOk U m := ⟨hR.ok.1, hR.ok.2.1⟩
  refine ⟨_, c_X6_told hC.ob hC.now hR.ok w (by omega), ?_⟩
  rintro _ h1 ⟨rfl, hW, hs⟩
  have hM2 := hM.fr hs (by omega)
  refine ⟨hM2.zo, _, rfl, _, c_X7_told hM2 hz hR.ok (by omega) w (by omega), ?_⟩
  rintro _ h2 ⟨rfl, U', hM3, hK, hs3⟩
  exact ⟨rfl, _, Inv.row hI1 (hC.nw hW hs (fun _ _ _ => rfl)) hK.mgg hK.1 hR hM3 hs3 (by rw [hs.1]; exact hh)⟩
theorem p_mean (hI : Inv h U) (p : Int32) (hd : 46 ≤ d)   : Pr Value.long l G d h mX6_mean yX6_mean mX7_mean yX7_mean [.int p] := by
  obtain ⟨c, m, t, a1, a2, a3, n, r, hI1, hC, hM, hh⟩ := hI
  have hR : RowI c (U.1 1) m t a1 a2 a3 := hI1.2.2.2.1
  have ht9 := hR.t9
  have hz := hI1.2.1.1
  have hm : mOk U m := ⟨hR.ok.1, hR.ok.2.1⟩
  refine ⟨_, c_X6_mean hC.ob hC.now hR.ok p (by omega), ?_⟩
  rintro _ h1 ⟨rfl, hW, hs⟩
  have hM2 := hM.fr hs (by omega)
  refine ⟨hM2.zo, _, rfl, _, c_X7_mean (MK.rf (n := 2)) hM2 hz hR.ok p (by omega), ?_⟩
  rintro _ h2 ⟨rfl, U', hM3, hK, hs3⟩
  exact ⟨rfl, _, Inv.row hI1 (hC.nw hW hs (fun _ _ _ => rfl)) hK.mgg hK.1 hR hM3 hs3 (by rw [hs.1]; exact hh)⟩
theorem p_on (hI : Inv h U) (x w : Int32) (hd : 46 ≤ d)   : Pr Value.int l G d h mX6_on yX6_on mX7_on yX7_on [.int x, .int w] := by
  obtain ⟨c, m, t, a1, a2, a3, n, r, hI1, hC, hM, hh⟩ := hI
  have hR : RowI c (U.1 1) m t a1 a2 a3 := hI1.2.2.2.1
  have ht9 := hR.t9
  have hz := hI1.2.1.1
  have hm : mOk U m := ⟨hR.ok.1, hR.ok.2.1⟩
  refine ⟨_, c_X6_on hC.ob hC.now hC.tri hR.ok hR.age (by omega) x w (by omega), ?_⟩
  rintro _ h1 ⟨rfl, hT, hs⟩
  have hM2 := hM.fr hs (by omega)
  refine ⟨hM2.zo, _, rfl, _, c_X7_on (MK.rf (n := 2)) hM2 hz hR.ok (by omega) (by omega) x w (by omega), ?_⟩
  rintro _ h2 ⟨rfl, U', hM3, hK, hs3⟩
  exact ⟨rfl, _, Inv.row hI1 (hC.tq hT hs) hK.mgg hK.1 hR hM3 hs3 (by rw [hs.1]; exact hh)⟩
theorem p_begin (hI : Inv h U) (x w : Int32) (hd : 46 ≤ d)   : Pr Value.int l G d h mX6_begin yX6_begin mX7_begin yX7_begin [.int x, .int w] := by
  obtain ⟨c, m, t, a1, a2, a3, n, r, hI1, hC, hM, hh⟩ := hI
  have hR : RowI c (U.1 1) m t a1 a2 a3 := hI1.2.2.2.1
  have ht9 := hR.t9
  have hz := hI1.2.1.1
  have hm : mOk U m := ⟨hR.ok.1, hR.ok.2.1⟩
  refine ⟨_, c_X6_begin hC.ob hC.now hC.tri hR.ok hR.age (by omega) x w (by omega), ?_⟩
  rintro _ h1 ⟨rfl, hT, hs⟩
  have hM2 := hM.fr hs (by omega)
  refine ⟨hM2.zo, _, rfl, _, c_X7_begin (MK.rf (n := 2)) hM2 hz hR.ok (by omega) (by omega) x w (by omega), ?_⟩
  rintro _ h2 ⟨rfl, U', hM3, hK, hs3⟩
  exact ⟨rfl, _, Inv.row hI1 (hC.tq hT hs) hK.mgg hK.1 hR hM3 hs3 (by rw [hs.1]; exact hh)⟩
theorem p_odds (hI : Inv h U) (tl x p : Int32) (hd : 46 ≤ d)   : Pr Value.long l G d h mX6_odds yX6_odds mX7_odds yX7_odds [.int tl, .int x, .int p] := by
  obtain ⟨c, m, t, a1, a2, a3, n, r, hI1, hC, hM, hh⟩ := hI
  have hR : RowI c (U.1 1) m t a1 a2 a3 := hI1.2.2.2.1
  have ht9 := hR.t9
  have hz := hI1.2.1.1
  have hm : mOk U m := ⟨hR.ok.1, hR.ok.2.1⟩
  refine ⟨_, c_X6_odds hC.ob hC.now hC.tri hR.ok hR.age (by omega) tl x p (by omega), ?_⟩
  rintro _ h1 ⟨rfl, hT, hs⟩
  have hM2 := hM.fr hs (by omega)
  refine ⟨hM2.zo, _, rfl, _, c_X7_odds (MK.rf (n := 2)) hM2 hz hR.ok (by omega) (by omega) tl x p (by omega), ?_⟩
  rintro _ h2 ⟨rfl, U', hM3, hK, hs3⟩
  exact ⟨rfl, _, Inv.row hI1 (hC.tq hT hs) hK.mgg hK.1 hR hM3 hs3 (by rw [hs.1]; exact hh)⟩
theorem p_weights (hI : Inv h U) (tl : Int32) (hd : 46 ≤ d)   : Pr Value.int l G d h mX6_weights yX6_weights mX7_weights yX7_weights [.int tl] := by
  obtain ⟨c, m, t, a1, a2, a3, n, r, hI1, hC, hM, hh⟩ := hI
  have hR : RowI c (U.1 1) m t a1 a2 a3 := hI1.2.2.2.1
  have ht9 := hR.t9
  have hz := hI1.2.1.1
  have hm : mOk U m := ⟨hR.ok.1, hR.ok.2.1⟩
  obtain ⟨a9, f9, hS9, ha9, hc9, hSe9⟩ := hC.r1
  obtain rfl : a9 = a1 := (nI_eq (by omega) (by have := hR.se.2.1; omega)).mp (hc9.symm.trans hR.se.1)
  refine ⟨_, c_X6_weights hC.ob hC.now hC.tri hR.ok hR.age (by omega) hS9 hSe9 hR.se tl (by omega), ?_⟩
  rintro _ h1 ⟨rfl, hT, hs⟩
  have hM2 := hM.fr hs (by omega)
  refine ⟨hM2.zo, _, rfl, _, c_X7_weights (MK.rf (n := 2)) hM2 hz hR.ok (by omega) (hR.se.gS hm.2) (by omega) tl (by omega), ?_⟩
  rintro _ h2 ⟨rfl, U', hM3, hK, hs3⟩
  exact ⟨rfl, _, Inv.row hI1 (hC.tq hT hs) hK.mgg hK.1 hR hM3 hs3 (by rw [hs.1]; exact hh)⟩
theorem p_can (hI : Inv h U) (tl w : Int32) (hd : 46 ≤ d)   : Pr Value.int l G d h mX6_can yX6_can mX7_can yX7_can [.int tl, .int w] := by
  obtain ⟨c, m, t, a1, a2, a3, n, r, hI1, hC, hM, hh⟩ := hI
  have hR : RowI c (U.1 1) m t a1 a2 a3 := hI1.2.2.2.1
  have ht9 := hR.t9
  have hz := hI1.2.1.1
  have hm : mOk U m := ⟨hR.ok.1, hR.ok.2.1⟩
  obtain ⟨a9, f9, hS9, ha9, hc9, hSe9⟩ := hC.r1
  obtain rfl : a9 = a1 := (nI_eq (by omega) (by have := hR.se.2.1; omega)).mp (hc9.symm.trans hR.se.1)
  refine ⟨_, c_X6_can hC.ob hC.now hC.tri hR.ok hR.age (by omega) hS9 hSe9 hR.se tl w (by omega), ?_⟩
  rintro _ h1 ⟨rfl, hT, hs⟩
  have hM2 := hM.fr hs (by omega)
  refine ⟨hM2.zo, _, rfl, _, c_X7_can (MK.rf (n := 2)) hM2 hz hR.ok (by omega) (hR.se.gS hm.2) (by omega) tl w (by omega), ?_⟩
  rintro _ h2 ⟨rfl, U', hM3, hK, hs3⟩
  exact ⟨rfl, _, Inv.row hI1 (hC.tq hT hs) hK.mgg hK.1 hR hM3 hs3 (by rw [hs.1]; exact hh)⟩
end PAIR
