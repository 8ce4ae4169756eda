/-! what holds between two calls: the class's side (CI), the row (RowI) -/
section INV
variable {F : FT} {h h' : Hp} {c m t a1 a2 a3 n : Nat} {bi : Int32} {g g' gi R S N : Nat → Int32} {V : Nat → Int64} {s : TS}
def RowI (c : Nat) (g : Nat → Int32) (m t a1 a2 a3 : Nat) : Prop := (gOk g m t) ∧ (t ≤ 9999) ∧ (gAge g m t) ∧ (gK g m) ∧ (gS2 g m a1) ∧ (gP2 g m a2) ∧ (gB2 g m a3) ∧ (∃ q, q ≤ c ∧ g 68 = nI q)
theorem RowI.ok {c : Nat} {g : Nat → Int32} {m t a1 a2 a3 : Nat} (z : RowI c g m t a1 a2 a3) : gOk g m t := z.1
theorem RowI.t9 {c : Nat} {g : Nat → Int32} {m t a1 a2 a3 : Nat} (z : RowI c g m t a1 a2 a3) : t ≤ 9999 := z.2.1
theorem RowI.age {c : Nat} {g : Nat → Int32} {m t a1 a2 a3 : Nat} (z : RowI c g m t a1 a2 a3) : gAge g m t := z.2.2.1
theorem RowI.kd {c : Nat} {g : Nat → Int32} {m t a1 a2 a3 : Nat} (z : RowI c g m t a1 a2 a3) : gK g m := z.2.2.2.1
theorem RowI.se {c : Nat} {g : Nat → Int32} {m t a1 a2 a3 : Nat} (z : RowI c g m t a1 a2 a3) : gS2 g m a1 := z.2.2.2.2.1
theorem RowI.pl {c : Nat} {g : Nat → Int32} {m t a1 a2 a3 : Nat} (z : RowI c g m t a1 a2 a3) : gP2 g m a2 := z.2.2.2.2.2.1
theorem RowI.bo {c : Nat} {g : Nat → Int32} {m t a1 a2 a3 : Nat} (z : RowI c g m t a1 a2 a3) : gB2 g m a3 := z.2.2.2.2.2.2.1
theorem RowI.q {c : Nat} {g : Nat → Int32} {m t a1 a2 a3 : Nat} (z : RowI c g m t a1 a2 a3) : ∃ q, q ≤ c ∧ g 68 = nI q := z.2.2.2.2.2.2.2
def CI (h : Hp) (F : FT) (c : Nat) (bi : Int32) (g gi : Nat → Int32) (n : Nat) (R S N : Nat → Int32) (V : Nat → Int64) (s : TS) : Prop := (OA h 16 (.inr (6, afs bi (nI c)))) ∧ (WF F h 17 g (nI 9999)) ∧ (DT h 27 (nI 2147483647)) ∧ ((bi = 0 ∧ DT h 37 (nI 9999)) ∨ (bi = 1 ∧ WF F h 37 gi (nI 9999))) ∧ (∃ a f, RAt h 47 5 a f ∧ a ≤ 5 ∧ g 69 = nI a ∧ SeR f g a) ∧ (∃ a f, RAt h 49 10 a f ∧ a ≤ 10 ∧ g 85 = nI a ∧ PlR f g a) ∧ (∃ a f, RAt h 51 8 a f ∧ a ≤ 8 ∧ g 106 = nI a ∧ BoR f g a) ∧ (∃ a f, RAt h 53 5 a f ∧ a ≤ 5 ∧ (bi = 1 → gi 69 = nI a ∧ SeR f gi a)) ∧ (∃ a f, RAt h 55 10 a f ∧ a ≤ 10 ∧ (bi = 1 → gi 85 = nI a ∧ PlR f gi a)) ∧ (∃ a f, RAt h 57 8 a f ∧ a ≤ 8 ∧ (bi = 1 → gi 106 = nI a ∧ BoR f gi a)) ∧ (∃ ra rb rs rr, RdAt h 59 n R ra rb rs rr) ∧ (TpR h S N V) ∧ (∃ i K v, VAt h 63 i K v s)
theorem CI.ob {h : Hp} {F : FT} {c : Nat} {bi : Int32} {g gi : Nat → Int32} {n : Nat} {R S N : Nat → Int32} {V : Nat → Int64} {s : TS} (z : CI h F c bi g gi n R S N V s) : OA h 16 (.inr (6, afs bi (nI c))) := z.1
theorem CI.now {h : Hp} {F : FT} {c : Nat} {bi : Int32} {g gi : Nat → Int32} {n : Nat} {R S N : Nat → Int32} {V : Nat → Int64} {s : TS} (z : CI h F c bi g gi n R S N V s) : WF F h 17 g (nI 9999) := z.2.1
theorem CI.tri {h : Hp} {F : FT} {c : Nat} {bi : Int32} {g gi : Nat → Int32} {n : Nat} {R S N : Nat → Int32} {V : Nat → Int64} {s : TS} (z : CI h F c bi g gi n R S N V s) : DT h 27 (nI 2147483647) := z.2.2.1
theorem CI.im {h : Hp} {F : FT} {c : Nat} {bi : Int32} {g gi : Nat → Int32} {n : Nat} {R S N : Nat → Int32} {V : Nat → Int64} {s : TS} (z : CI h F c bi g gi n R S N V s) : (bi = 0 ∧ DT h 37 (nI 9999)) ∨ (bi = 1 ∧ WF F h 37 gi (nI 9999)) := z.2.2.2.1
theorem CI.r1 {h : Hp} {F : FT} {c : Nat} {bi : Int32} {g gi : Nat → Int32} {n : Nat} {R S N : Nat → Int32} {V : Nat → Int64} {s : TS} (z : CI h F c bi g gi n R S N V s) : ∃ a f, RAt h 47 5 a f ∧ a ≤ 5 ∧ g 69 = nI a ∧ SeR f g a := z.2.2.2.2.1
theorem CI.r2 {h : Hp} {F : FT} {c : Nat} {bi : Int32} {g gi : Nat → Int32} {n : Nat} {R S N : Nat → Int32} {V : Nat → Int64} {s : TS} (z : CI h F c bi g gi n R S N V s) : ∃ a f, RAt h 49 10 a f ∧ a ≤ 10 ∧ g 85 = nI a ∧ PlR f g a := z.2.2.2.2.2.1
theorem CI.r3 {h : Hp} {F : FT} {c : Nat} {bi : Int32} {g gi : Nat → Int32} {n : Nat} {R S N : Nat → Int32} {V : Nat → Int64} {s : TS} (z : CI h F c bi g gi n R S N V s) : ∃ a f, RAt h 51 8 a f ∧ a ≤ 8 ∧ g 106 = nI a ∧ BoR f g a := z.2.2.2.2.2.2.1
theorem CI.e1 {h : Hp} {F : FT} {c : Nat} {bi : Int32} {g gi : Nat → Int32} {n : Nat} {R S N : Nat → Int32} {V : Nat → Int64} {s : TS} (z : CI h F c bi g gi n R S N V s) : ∃ a f, RAt h 53 5 a f ∧ a ≤ 5 ∧ (bi = 1 → gi 69 = nI a ∧ SeR f gi a) := z.2.2.2.2.2.2.2.1
theorem CI.e2 {h : Hp} {F : FT} {c : Nat} {bi : Int32} {g gi : Nat → Int32} {n : Nat} {R S N : Nat → Int32} {V : Nat → Int64} {s : TS} (z : CI h F c bi g gi n R S N V s) : ∃ a f, RAt h 55 10 a f ∧ a ≤ 10 ∧ (bi = 1 → gi 85 = nI a ∧ PlR f gi a) := z.2.2.2.2.2.2.2.2.1
theorem CI.e3 {h : Hp} {F : FT} {c : Nat} {bi : Int32} {g gi : Nat → Int32} {n : Nat} {R S N : Nat → Int32} {V : Nat → Int64} {s : TS} (z : CI h F c bi g gi n R S N V s) : ∃ a f, RAt h 57 8 a f ∧ a ≤ 8 ∧ (bi = 1 → gi 106 = nI a ∧ BoR f gi a) := z.2.2.2.2.2.2.2.2.2.1
theorem CI.rd {h : Hp} {F : FT} {c : Nat} {bi : Int32} {g gi : Nat → Int32} {n : Nat} {R S N : Nat → Int32} {V : Nat → Int64} {s : TS} (z : CI h F c bi g gi n R S N V s) : ∃ ra rb rs rr, RdAt h 59 n R ra rb rs rr := z.2.2.2.2.2.2.2.2.2.2.1
theorem CI.tp {h : Hp} {F : FT} {c : Nat} {bi : Int32} {g gi : Nat → Int32} {n : Nat} {R S N : Nat → Int32} {V : Nat → Int64} {s : TS} (z : CI h F c bi g gi n R S N V s) : TpR h S N V := z.2.2.2.2.2.2.2.2.2.2.2.1
theorem CI.vo {h : Hp} {F : FT} {c : Nat} {bi : Int32} {g gi : Nat → Int32} {n : Nat} {R S N : Nat → Int32} {V : Nat → Int64} {s : TS} (z : CI h F c bi g gi n R S N V s) : ∃ i K v, VAt h 63 i K v s := z.2.2.2.2.2.2.2.2.2.2.2.2
theorem SeR.gx {f : Nat → Int32} {a : Nat} (hS : SeR f g a) (ha : a ≤ 5) (e : ∀ j, 69 ≤ j → j < 123 → g' j = g j) : SeR f g' a := fun r hr => by
  obtain ⟨x, y, z⟩ := hS r hr
  exact ⟨x.trans (e _ (by omega) (by omega)).symm, y.trans (e _ (by omega) (by omega)).symm, z.trans (e _ (by omega) (by omega)).symm⟩
theorem PlR.gx {f : Nat → Int32} {a : Nat} (hS : PlR f g a) (ha : a ≤ 10) (e : ∀ j, 69 ≤ j → j < 123 → g' j = g j) : PlR f g' a := fun r hr => by
  obtain ⟨x, y⟩ := hS r hr
  exact ⟨x.trans (e _ (by omega) (by omega)).symm, y.trans (e _ (by omega) (by omega)).symm⟩
theorem BoR.gx {f : Nat → Int32} {a : Nat} (hS : BoR f g a) (ha : a ≤ 8) (e : ∀ j, 69 ≤ j → j < 123 → g' j = g j) : BoR f g' a := fun r hr => by
  obtain ⟨x, y⟩ := hS r hr
  exact ⟨x.trans (e _ (by omega) (by omega)).symm, y.trans (e _ (by omega) (by omega)).symm⟩
theorem fr_im {w N : Nat} (hi : (bi = 0 ∧ DT h 37 (nI 9999)) ∨ (bi = 1 ∧ WF F h 37 gi (nI 9999))) (hs : Same w N h h') (hd : (47 ≤ w ∨ w + N ≤ 37) ∧ w + N ≤ 96) : (bi = 0 ∧ DT h' 37 (nI 9999)) ∨ (bi = 1 ∧ WF F h' 37 gi (nI 9999)) :=
  hi.elim (fun z => Or.inl ⟨z.1, z.2.fr hs (by omega)⟩) (fun z => Or.inr ⟨z.1, z.2.fr hs ⟨by omega, by omega⟩⟩)
theorem fr_r {a0 mo w N : Nat} {P : Nat → (Nat → Int32) → Prop} (hr : ∃ a f, RAt h a0 mo a f ∧ P a f) (hs : Same w N h h') (hd : a0 + 2 ≤ w ∨ w + N ≤ a0) : ∃ a f, RAt h' a0 mo a f ∧ P a f := by
  obtain ⟨a, f, h1, h2⟩ := hr
  exact ⟨a, f, h1.fr hs hd, h2⟩
theorem fr_rd {w N : Nat} (hr : ∃ ra rb rs rr, RdAt h 59 n R ra rb rs rr) (hs : Same w N h h') (hd : 62 ≤ w ∨ w + N ≤ 59) : ∃ ra rb rs rr, RdAt h' 59 n R ra rb rs rr := by
  obtain ⟨x1, x2, x3, x4, h1⟩ := hr
  exact ⟨x1, x2, x3, x4, h1.fr hs (by omega)⟩
theorem fr_vo {w N : Nat} (hr : ∃ i K v, VAt h 63 i K v s) (hs : Same w N h h') (hd : 65 ≤ w ∨ w + N ≤ 63) : ∃ i K v, VAt h' 63 i K v s := by
  obtain ⟨x1, x2, x3, h1⟩ := hr
  exact ⟨x1, x2, x3, h1.fr hs (by omega)⟩
/-- the model's step leaves the class alone -/
theorem CI.mo (hC : CI h F c bi g gi n R S N V s) (hs : Same 77 19 h h') : CI h' F c bi g gi n R S N V s :=
  ⟨hC.ob.fr hs (by omega), hC.now.fr hs ⟨by omega, by omega⟩, hC.tri.fr hs (by omega), fr_im hC.im hs (by omega), fr_r hC.r1 hs (by omega), fr_r hC.r2 hs (by omega), fr_r hC.r3 hs (by omega), fr_r hC.e1 hs (by omega), fr_r hC.e2 hs (by omega), fr_r hC.e3 hs (by omega), fr_rd hC.rd hs (by omega), hC.tp.fr hs (by omega), fr_vo hC.vo hs (by omega)⟩
/-- now is another -/
theorem CI.nw (hC : CI h F c bi g gi n R S N V s) (hW : WF F h' 17 g' (nI 9999)) (hs : Same 17 10 h h') (e : ∀ j, 69 ≤ j → j < 123 → g' j = g j) : CI h' F c bi g' gi n R S N V s := by
  refine ⟨hC.ob.fr hs (by omega), hW, hC.tri.fr hs (by omega), fr_im hC.im hs (by omega), ?_, ?_, ?_, fr_r hC.e1 hs (by omega), fr_r hC.e2 hs (by omega), fr_r hC.e3 hs (by omega), fr_rd hC.rd hs (by omega), hC.tp.fr hs (by omega), fr_vo hC.vo hs (by omega)⟩
  · obtain ⟨a, f, h1, h2, h3, h4⟩ := hC.r1
    exact ⟨a, f, h1.fr hs (by omega), h2, (e 69 (by omega) (by omega)).trans h3, h4.gx h2 e⟩
  · obtain ⟨a, f, h1, h2, h3, h4⟩ := hC.r2
    exact ⟨a, f, h1.fr hs (by omega), h2, (e 85 (by omega) (by omega)).trans h3, h4.gx h2 e⟩
  · obtain ⟨a, f, h1, h2, h3, h4⟩ := hC.r3
    exact ⟨a, f, h1.fr hs (by omega), h2, (e 106 (by omega) (by omega)).trans h3, h4.gx h2 e⟩
/-- the trial is another -/
theorem CI.tr (hC : CI h F c bi g gi n R S N V s) (hW : WF F h' 17 g (nI 9999)) (hT : DT h' 27 (nI 2147483647)) (hs : Same 17 20 h h') : CI h' F c bi g gi n R S N V s :=
  ⟨hC.ob.fr hs (by omega), hW, hT, fr_im hC.im hs (by omega), fr_r hC.r1 hs (by omega), fr_r hC.r2 hs (by omega), fr_r hC.r3 hs (by omega), fr_r hC.e1 hs (by omega), fr_r hC.e2 hs (by omega), fr_r hC.e3 hs (by omega), fr_rd hC.rd hs (by omega), hC.tp.fr hs (by omega), fr_vo hC.vo hs (by omega)⟩
theorem CI.tq (hC : CI h F c bi g gi n R S N V s) (hT : DT h' 27 (nI 2147483647)) (hs : Same 27 10 h h') : CI h' F c bi g gi n R S N V s :=
  hC.tr (hC.now.fr hs ⟨by omega, by omega⟩) hT (hs.w (by omega) (by omega))
/-- tapes, the voice, the text -/
theorem CI.ta {S' N' : Nat → Int32} {V' : Nat → Int64} (hC : CI h F c bi g gi n R S N V s) (hT : TpR h' S' N' V') (hs : Same 65 12 h h') : CI h' F c bi g gi n R S' N' V' s :=
  ⟨hC.ob.fr hs (by omega), hC.now.fr hs ⟨by omega, by omega⟩, hC.tri.fr hs (by omega), fr_im hC.im hs (by omega), fr_r hC.r1 hs (by omega), fr_r hC.r2 hs (by omega), fr_r hC.r3 hs (by omega), fr_r hC.e1 hs (by omega), fr_r hC.e2 hs (by omega), fr_r hC.e3 hs (by omega), fr_rd hC.rd hs (by omega), hT, fr_vo hC.vo hs (by omega)⟩
theorem CI.ac {s' : TS} (hC : CI h F c bi g gi n R S N V s) (hV : ∃ i K v, VAt h' 63 i K v s') (hs : Same 63 2 h h') : CI h' F c bi g gi n R S N V s' :=
  ⟨hC.ob.fr hs (by omega), hC.now.fr hs ⟨by omega, by omega⟩, hC.tri.fr hs (by omega), fr_im hC.im hs (by omega), fr_r hC.r1 hs (by omega), fr_r hC.r2 hs (by omega), fr_r hC.r3 hs (by omega), fr_r hC.e1 hs (by omega), fr_r hC.e2 hs (by omega), fr_r hC.e3 hs (by omega), fr_rd hC.rd hs (by omega), by
    obtain ⟨fa, x1, x2, x3⟩ := hC.tp
    refine ⟨fa, x1.fr hs (by omega), x2, fun t ht => ?_⟩
    obtain ⟨f, x4, x5⟩ := x3 t ht
    exact ⟨f, x4.fr hs (by omega), x5⟩, hV⟩
theorem CI.tx {n' : Nat} {R' : Nat → Int32} (hC : CI h F c bi g gi n R S N V s) (hR : ∃ ra rb rs rr, RdAt h' 59 n' R' ra rb rs rr) (hs : Same 59 3 h h') : CI h' F c bi g gi n' R' S N V s :=
  ⟨hC.ob.fr hs (by omega), hC.now.fr hs ⟨by omega, by omega⟩, hC.tri.fr hs (by omega), fr_im hC.im hs (by omega), fr_r hC.r1 hs (by omega), fr_r hC.r2 hs (by omega), fr_r hC.r3 hs (by omega), fr_r hC.e1 hs (by omega), fr_r hC.e2 hs (by omega), fr_r hC.e3 hs (by omega), hR, hC.tp.fr hs (by omega), fr_vo hC.vo hs (by omega)⟩
/-- the model's side stays as it was, its row aside -/
def Mg (U U' : MS) : Prop := (∀ j, j ≠ 1 → j ≠ 2 → j ≠ 7 → j ≠ 8 → j ≠ 11 → j ≠ 18 → U'.1 j = U.1 j) ∧ (∀ k, k < 10 ∨ 15 < k → U'.2.1 k = U.2.1 k) ∧ U'.2.2 17 = U.2.2 17
theorem MK.mgg {U U' : MS} {n : Nat} (a : MK n g U U') : Mg U U' := ⟨fun j h1 h2 h7 h8 h11 _ => a.2.1 j (by unfold msv; omega), a.2.2.1, by rw [a.2.2.2]⟩
theorem mRd_e {U U' : MS} (e5 : U'.1 5 = U.1 5) (e6 : U'.1 6 = U.1 6) (e9 : U'.1 9 = U.1 9) (e10 : U'.1 10 = U.1 10) : mRd U' = mRd U := by
  funext g i
  unfold mRd
  rw [e5, e6, e9, e10]
theorem Mg.rd {U U' : MS} (a : Mg U U') : mRd U' = mRd U := mRd_e (a.1 5 (by omega) (by omega) (by omega) (by omega) (by omega) (by omega)) (a.1 6 (by omega) (by omega) (by omega) (by omega) (by omega) (by omega)) (a.1 9 (by omega) (by omega) (by omega) (by omega) (by omega) (by omega)) (a.1 10 (by omega) (by omega) (by omega) (by omega) (by omega) (by omega))
end INV
