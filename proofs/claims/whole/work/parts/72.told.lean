/-! rows told by hand: the class's answers are the model's -/
section TOLD
variable {F : FT} {c m t a1 a2 a3 b1 b2 b3 : Nat} {g g' f : Nat → Int32}
theorem RowI.rr (hR : RowI c g m t a1 a2 a3) (e : ∀ j, j < 69 → g' j = g j) (h1 : gS2 g' m b1) (h2 : gP2 g' m b2) (h3 : gB2 g' m b3) : RowI c g' m t b1 b2 b3 := by
  have hm := hR.ok.2.1
  refine ⟨⟨(e 60 (by omega)).trans hR.ok.1, hm, (e 67 (by omega)).trans hR.ok.2.2.1, hR.ok.2.2.2.1, ?_⟩, hR.t9, hR.age.of fun i hi => e _ (by omega), fun i hi => ?_, h1, h2, h3, ?_⟩
  · rw [e 68 (by omega)]; exact hR.ok.2.2.2.2
  · rw [e (10 * i) (by omega)]; exact hR.kd i hi
  · rw [e 68 (by omega)]; exact hR.q
theorem rw3_0 {a r : Nat} {x y z : Int32} (hr : r < a) : rw3 f a x y z (3 * r) = f (3 * r) ∧ rw3 f a x y z (3 * r + 1) = f (3 * r + 1) ∧ rw3 f a x y z (3 * r + 2) = f (3 * r + 2) := by
  unfold rw3
  refine ⟨?_, ?_, ?_⟩ <;> rw [upd_ne (by omega), upd_ne (by omega), upd_ne (by omega)]
theorem rw3_1 {a : Nat} {x y z : Int32} : rw3 f a x y z (3 * a) = x ∧ rw3 f a x y z (3 * a + 1) = y ∧ rw3 f a x y z (3 * a + 2) = z := by
  unfold rw3
  refine ⟨?_, ?_, upd_eq _ _ _⟩
  · rw [upd_ne (by omega), upd_ne (by omega), upd_eq]
  · rw [upd_ne (by omega), upd_eq]
theorem see_ok (hR : RowI c g m t a1 a2 a3) (hS : SeR f g a1) (tl n s : Int32) : (cSee m a1 f tl n s).1 = (sSee g m a1 tl n s).1 ∧ RowI c (sSee g m a1 tl n s).2 m t (cSee m a1 f tl n s).2.1 a2 a3 ∧ SeR (cSee m a1 f tl n s).2.2 (sSee g m a1 tl n s).2 (cSee m a1 f tl n s).2.1 ∧ ∀ j, j < 69 ∨ 85 ≤ j → (sSee g m a1 tl n s).2 j = g j := by
  unfold cSee sSee
  have ha := hR.se.2.1
  by_cases c1 : tl = -1
  · rw [if_pos c1, if_pos c1]
    exact ⟨rfl, hR.rr (fun j hj => upd_ne (by omega)) ⟨(show upd g 69 0 69 = nI 0 from upd_eq g 69 0), Nat.zero_le _, fun r hr => absurd hr (Nat.not_lt_zero r)⟩ (hR.pl.of fun j hj => upd_ne (by omega)) (hR.bo.of fun j hj => upd_ne (by omega)), fun r hr => absurd hr (Nat.not_lt_zero r), fun j hj => upd_ne (by omega)⟩
  rw [if_neg c1, if_neg c1]
  by_cases c2 : bIn tl 0 (nI m - 1) = true
  · rw [if_pos c2, if_pos c2]
    by_cases c3 : bIn n 0 12 = true ∧ bIn s 0 4 = true
    · rw [if_pos c3, if_pos c3]
      by_cases c4 : a1 = 5
      · rw [if_pos c4, if_pos (by rw [c4]; rfl)]
        exact ⟨rfl, hR, hS, fun _ _ => rfl⟩
      · rw [if_neg c4, if_neg (show ¬ nI a1 = 5 from fun z => c4 ((nI_eq (b := 5) (by omega) (by omega)).mp z))]
        have e69 : upd (upd (upd g (70 + 3 * a1) tl) (71 + 3 * a1) n) (72 + 3 * a1) s 69 + 1 = nI (a1 + 1) := by
          rw [upd_ne (by omega), upd_ne (by omega), upd_ne (by omega), hR.se.1]
          exact nI_1 a1
        have ee : ∀ j, j < 69 ∨ 85 ≤ j → upd (upd (upd (upd g (70 + 3 * a1) tl) (71 + 3 * a1) n) (72 + 3 * a1) s) 69 (nI (a1 + 1)) j = g j := fun j hj => by
          rw [upd_ne (by omega), upd_ne (by omega), upd_ne (by omega), upd_ne (by omega)]
        have er : ∀ r, r < a1 → upd (upd (upd (upd g (70 + 3 * a1) tl) (71 + 3 * a1) n) (72 + 3 * a1) s) 69 (nI (a1 + 1)) (70 + 3 * r) = g (70 + 3 * r) ∧ upd (upd (upd (upd g (70 + 3 * a1) tl) (71 + 3 * a1) n) (72 + 3 * a1) s) 69 (nI (a1 + 1)) (71 + 3 * r) = g (71 + 3 * r) ∧ upd (upd (upd (upd g (70 + 3 * a1) tl) (71 + 3 * a1) n) (72 + 3 * a1) s) 69 (nI (a1 + 1)) (72 + 3 * r) = g (72 + 3 * r) := fun r hr => by
          refine ⟨?_, ?_, ?_⟩ <;> rw [upd_ne (by omega), upd_ne (by omega), upd_ne (by omega), upd_ne (by omega)]
        have ea : upd (upd (upd (upd g (70 + 3 * a1) tl) (71 + 3 * a1) n) (72 + 3 * a1) s) 69 (nI (a1 + 1)) (70 + 3 * a1) = tl ∧ upd (upd (upd (upd g (70 + 3 * a1) tl) (71 + 3 * a1) n) (72 + 3 * a1) s) 69 (nI (a1 + 1)) (71 + 3 * a1) = n ∧ upd (upd (upd (upd g (70 + 3 * a1) tl) (71 + 3 * a1) n) (72 + 3 * a1) s) 69 (nI (a1 + 1)) (72 + 3 * a1) = s := by
          refine ⟨?_, ?_, ?_⟩
          · rw [upd_ne (by omega), upd_ne (by omega), upd_ne (by omega), upd_eq]
          · rw [upd_ne (by omega), upd_ne (by omega), upd_eq]
          · rw [upd_ne (by omega), upd_eq]
        rw [e69]
        have e9 : upd (upd (upd (upd g (70 + 3 * a1) tl) (71 + 3 * a1) n) (72 + 3 * a1) s) 69 (nI (a1 + 1)) 69 = nI (a1 + 1) := upd_eq _ _ _
        refine ⟨e9.symm, hR.rr (fun j hj => ee j (by omega)) ⟨e9, by show a1 + 1 ≤ 5; omega, fun r hr => ?_⟩ (hR.pl.of fun j hj => ee j (by omega)) (hR.bo.of fun j hj => ee j (by omega)), fun r hr => ?_, ee⟩
        · by_cases q : r < a1
          · show (∃ b, b < m ∧ upd (upd (upd (upd g (70 + 3 * a1) tl) (71 + 3 * a1) n) (72 + 3 * a1) s) 69 (nI (a1 + 1)) (70 + 3 * r) = nI b) ∧ ∃ y, y ≤ 12 ∧ upd (upd (upd (upd g (70 + 3 * a1) tl) (71 + 3 * a1) n) (72 + 3 * a1) s) 69 (nI (a1 + 1)) (71 + 3 * r) = nI y
            rw [(er r q).1, (er r q).2.1]
            exact hR.se.2.2 r q
          · obtain rfl : r = a1 := by have : r < a1 + 1 := hr; omega
            show (∃ b, b < m ∧ upd (upd (upd (upd g (70 + 3 * r) tl) (71 + 3 * r) n) (72 + 3 * r) s) 69 (nI (r + 1)) (70 + 3 * r) = nI b) ∧ ∃ y, y ≤ 12 ∧ upd (upd (upd (upd g (70 + 3 * r) tl) (71 + 3 * r) n) (72 + 3 * r) s) 69 (nI (r + 1)) (71 + 3 * r) = nI y
            rw [ea.1, ea.2.1]
            exact ⟨(bIn_one hR.ok.2.1).mp c2, (bIn_lit (N := 12) (by omega)).mp c3.1⟩
        · by_cases q : r < a1
          · have w := rw3_0 (f := f) (x := tl) (y := n) (z := s) q
            have v := hS r q
            exact ⟨w.1.trans (v.1.trans (er r q).1.symm), w.2.1.trans (v.2.1.trans (er r q).2.1.symm), w.2.2.trans (v.2.2.trans (er r q).2.2.symm)⟩
          · obtain rfl : r = a1 := by have : r < a1 + 1 := hr; omega
            have w := rw3_1 (f := f) (a := r) (x := tl) (y := n) (z := s)
            exact ⟨w.1.trans ea.1.symm, w.2.1.trans ea.2.1.symm, w.2.2.trans ea.2.2.symm⟩
    · rw [if_neg c3, if_neg c3]
      exact ⟨rfl, hR, hS, fun _ _ => rfl⟩
  · rw [if_neg c2, if_neg c2]
    exact ⟨rfl, hR, hS, fun _ _ => rfl⟩
theorem gP2.of' {a : Nat} (hP : gP2 g m a) (e : ∀ j, 85 ≤ j → j < 106 → g' j = g j) : gP2 g' m a := by
  obtain ⟨h1, h2, h3⟩ := hP
  refine ⟨(e 85 (by omega) (by omega)).trans h1, h2, fun r hr => ?_⟩
  rw [e (86 + 2 * r) (by omega) (by omega), e (87 + 2 * r) (by omega) (by omega)]
  exact h3 r hr
theorem plan_ok (hR : RowI c g m t a1 a2 a3) (hS : PlR f g a2) (tl p : Int32) : (cPlan m a2 f tl p).1 = (sPlan g m a2 tl p).1 ∧ RowI c (sPlan g m a2 tl p).2 m t a1 (cPlan m a2 f tl p).2.1 a3 ∧ PlR (cPlan m a2 f tl p).2.2 (sPlan g m a2 tl p).2 (cPlan m a2 f tl p).2.1 ∧ ∀ j, j < 85 ∨ 106 ≤ j → (sPlan g m a2 tl p).2 j = g j := by
  unfold cPlan sPlan
  have ha := hR.pl.2.1
  by_cases c1 : tl = -1
  · rw [if_pos c1, if_pos c1]
    exact ⟨rfl, hR.rr (fun j hj => upd_ne (by omega)) (hR.se.of fun j hj hj2 => upd_ne (by omega)) ⟨(show upd g 85 0 85 = nI 0 from upd_eq g 85 0), Nat.zero_le _, fun r hr => absurd hr (Nat.not_lt_zero r)⟩ (hR.bo.of fun j hj => upd_ne (by omega)), fun r hr => absurd hr (Nat.not_lt_zero r), fun j hj => upd_ne (by omega)⟩
  rw [if_neg c1, if_neg c1]
  by_cases c2 : sPlanOk m tl p = true
  · rw [if_pos c2, if_pos c2]
    by_cases c4 : a2 = 10
    · rw [if_pos c4, if_pos (by rw [c4]; rfl)]
      exact ⟨rfl, hR, hS, fun _ _ => rfl⟩
    · rw [if_neg c4, if_neg (show ¬ nI a2 = 10 from fun z => c4 ((nI_eq (b := 10) (by omega) (by omega)).mp z))]
      have e69 : upd (upd g (86 + 2 * a2) tl) (87 + 2 * a2) p 85 + 1 = nI (a2 + 1) := by
        rw [upd_ne (by omega), upd_ne (by omega), hR.pl.1]
        exact nI_1 a2
      have ee : ∀ j, j < 85 ∨ 106 ≤ j → upd (upd (upd g (86 + 2 * a2) tl) (87 + 2 * a2) p) 85 (nI (a2 + 1)) j = g j := fun j hj => by
        rw [upd_ne (by omega), upd_ne (by omega), upd_ne (by omega)]
      have er : ∀ r, r < a2 → upd (upd (upd g (86 + 2 * a2) tl) (87 + 2 * a2) p) 85 (nI (a2 + 1)) (86 + 2 * r) = g (86 + 2 * r) ∧ upd (upd (upd g (86 + 2 * a2) tl) (87 + 2 * a2) p) 85 (nI (a2 + 1)) (87 + 2 * r) = g (87 + 2 * r) := fun r hr => by
        refine ⟨?_, ?_⟩ <;> rw [upd_ne (by omega), upd_ne (by omega), upd_ne (by omega)]
      have ea : upd (upd (upd g (86 + 2 * a2) tl) (87 + 2 * a2) p) 85 (nI (a2 + 1)) (86 + 2 * a2) = tl ∧ upd (upd (upd g (86 + 2 * a2) tl) (87 + 2 * a2) p) 85 (nI (a2 + 1)) (87 + 2 * a2) = p := by
        refine ⟨?_, ?_⟩
        · rw [upd_ne (by omega), upd_ne (by omega), upd_eq]
        · rw [upd_ne (by omega), upd_eq]
      rw [e69]
      have e9 : upd (upd (upd g (86 + 2 * a2) tl) (87 + 2 * a2) p) 85 (nI (a2 + 1)) 85 = nI (a2 + 1) := upd_eq _ _ _
      refine ⟨e9.symm, hR.rr (fun j hj => ee j (by omega)) (hR.se.of fun j hj hj2 => ee j (by omega)) ⟨e9, by show a2 + 1 ≤ 10; omega, fun r hr => ?_⟩ (hR.bo.of fun j hj => ee j (by omega)), fun r hr => ?_, ee⟩
      · by_cases q : r < a2
        · show upd (upd (upd g (86 + 2 * a2) tl) (87 + 2 * a2) p) 85 (nI (a2 + 1)) (86 + 2 * r) = 0 ∨ ((upd (upd (upd g (86 + 2 * a2) tl) (87 + 2 * a2) p) 85 (nI (a2 + 1)) (86 + 2 * r) = 1 ∨ upd (upd (upd g (86 + 2 * a2) tl) (87 + 2 * a2) p) 85 (nI (a2 + 1)) (86 + 2 * r) = 2) ∧ ∃ b, b < m ∧ upd (upd (upd g (86 + 2 * a2) tl) (87 + 2 * a2) p) 85 (nI (a2 + 1)) (87 + 2 * r) = nI b) ∨ upd (upd (upd g (86 + 2 * a2) tl) (87 + 2 * a2) p) 85 (nI (a2 + 1)) (86 + 2 * r) = 3
          rw [(er r q).1, (er r q).2]
          exact hR.pl.2.2 r q
        · obtain rfl : r = a2 := by have : r < a2 + 1 := hr; omega
          show upd (upd (upd g (86 + 2 * r) tl) (87 + 2 * r) p) 85 (nI (r + 1)) (86 + 2 * r) = 0 ∨ ((upd (upd (upd g (86 + 2 * r) tl) (87 + 2 * r) p) 85 (nI (r + 1)) (86 + 2 * r) = 1 ∨ upd (upd (upd g (86 + 2 * r) tl) (87 + 2 * r) p) 85 (nI (r + 1)) (86 + 2 * r) = 2) ∧ ∃ b, b < m ∧ upd (upd (upd g (86 + 2 * r) tl) (87 + 2 * r) p) 85 (nI (r + 1)) (87 + 2 * r) = nI b) ∨ upd (upd (upd g (86 + 2 * r) tl) (87 + 2 * r) p) 85 (nI (r + 1)) (86 + 2 * r) = 3
          rw [ea.1, ea.2]
          rw [sPlanOk, Bool.or_eq_true, Bool.or_eq_true, Bool.and_eq_true, Bool.and_eq_true, Bool.or_eq_true] at c2
          rcases c2 with (z | z) | z
          · exact Or.inl (of_decide_eq_true z)
          · exact Or.inr (Or.inl ⟨z.1.imp of_decide_eq_true of_decide_eq_true, (bIn_one hR.ok.2.1).mp z.2⟩)
          · exact Or.inr (Or.inr (of_decide_eq_true z.1))
      · by_cases q : r < a2
        · have w := rw3_0 (f := f) (x := tl) (y := p) (z := 0) q
          have v := hS r q
          exact ⟨w.1.trans (v.1.trans (er r q).1.symm), w.2.1.trans (v.2.trans (er r q).2.symm)⟩
        · obtain rfl : r = a2 := by have : r < a2 + 1 := hr; omega
          have w := rw3_1 (f := f) (a := r) (x := tl) (y := p) (z := 0)
          exact ⟨w.1.trans ea.1.symm, w.2.1.trans ea.2.symm⟩
  · rw [if_neg c2, if_neg c2]
    exact ⟨rfl, hR, hS, fun _ _ => rfl⟩
theorem book_ok (hR : RowI c g m t a1 a2 a3) (hS : BoR f g a3) (tl p : Int32) : (cBook m a3 f tl p).1 = (sBook g m a3 tl p).1 ∧ RowI c (sBook g m a3 tl p).2 m t a1 a2 (cBook m a3 f tl p).2.1 ∧ BoR (cBook m a3 f tl p).2.2 (sBook g m a3 tl p).2 (cBook m a3 f tl p).2.1 ∧ ∀ j, j < 106 ∨ 123 ≤ j → (sBook g m a3 tl p).2 j = g j := by
  unfold cBook sBook
  have ha := hR.bo.2.1
  by_cases c1 : tl = -1
  · rw [if_pos c1, if_pos c1]
    exact ⟨rfl, hR.rr (fun j hj => upd_ne (by omega)) (hR.se.of fun j hj hj2 => upd_ne (by omega)) (hR.pl.of' fun j hj hj2 => upd_ne (by omega)) ⟨(show upd g 106 0 106 = nI 0 from upd_eq g 106 0), Nat.zero_le _, fun r hr => absurd hr (Nat.not_lt_zero r)⟩, fun r hr => absurd hr (Nat.not_lt_zero r), fun j hj => upd_ne (by omega)⟩
  rw [if_neg c1, if_neg c1]
  by_cases c2 : bIn tl 0 (nI m - 1) = true ∧ bIn p 0 11 = true
  · rw [if_pos c2, if_pos c2]
    by_cases c4 : a3 = 8
    · rw [if_pos c4, if_pos (by rw [c4]; rfl)]
      exact ⟨rfl, hR, hS, fun _ _ => rfl⟩
    · rw [if_neg c4, if_neg (show ¬ nI a3 = 8 from fun z => c4 ((nI_eq (b := 8) (by omega) (by omega)).mp z))]
      have e69 : upd (upd g (107 + 2 * a3) tl) (108 + 2 * a3) p 106 + 1 = nI (a3 + 1) := by
        rw [upd_ne (by omega), upd_ne (by omega), hR.bo.1]
        exact nI_1 a3
      have ee : ∀ j, j < 106 ∨ 123 ≤ j → upd (upd (upd g (107 + 2 * a3) tl) (108 + 2 * a3) p) 106 (nI (a3 + 1)) j = g j := fun j hj => by
        rw [upd_ne (by omega), upd_ne (by omega), upd_ne (by omega)]
      have er : ∀ r, r < a3 → upd (upd (upd g (107 + 2 * a3) tl) (108 + 2 * a3) p) 106 (nI (a3 + 1)) (107 + 2 * r) = g (107 + 2 * r) ∧ upd (upd (upd g (107 + 2 * a3) tl) (108 + 2 * a3) p) 106 (nI (a3 + 1)) (108 + 2 * r) = g (108 + 2 * r) := fun r hr => by
        refine ⟨?_, ?_⟩ <;> rw [upd_ne (by omega), upd_ne (by omega), upd_ne (by omega)]
      have ea : upd (upd (upd g (107 + 2 * a3) tl) (108 + 2 * a3) p) 106 (nI (a3 + 1)) (107 + 2 * a3) = tl ∧ upd (upd (upd g (107 + 2 * a3) tl) (108 + 2 * a3) p) 106 (nI (a3 + 1)) (108 + 2 * a3) = p := by
        refine ⟨?_, ?_⟩
        · rw [upd_ne (by omega), upd_ne (by omega), upd_eq]
        · rw [upd_ne (by omega), upd_eq]
      rw [e69]
      have e9 : upd (upd (upd g (107 + 2 * a3) tl) (108 + 2 * a3) p) 106 (nI (a3 + 1)) 106 = nI (a3 + 1) := upd_eq _ _ _
      refine ⟨e9.symm, hR.rr (fun j hj => ee j (by omega)) (hR.se.of fun j hj hj2 => ee j (by omega)) (hR.pl.of' fun j hj hj2 => ee j (by omega)) ⟨e9, by show a3 + 1 ≤ 8; omega, fun r hr => ?_⟩, fun r hr => ?_, ee⟩
      · by_cases q : r < a3
        · show ∃ b, b < m ∧ upd (upd (upd g (107 + 2 * a3) tl) (108 + 2 * a3) p) 106 (nI (a3 + 1)) (107 + 2 * r) = nI b
          rw [(er r q).1]
          exact hR.bo.2.2 r q
        · obtain rfl : r = a3 := by have : r < a3 + 1 := hr; omega
          show ∃ b, b < m ∧ upd (upd (upd g (107 + 2 * r) tl) (108 + 2 * r) p) 106 (nI (r + 1)) (107 + 2 * r) = nI b
          rw [ea.1]
          exact (bIn_one hR.ok.2.1).mp c2.1
      · by_cases q : r < a3
        · have w := rw3_0 (f := f) (x := tl) (y := p) (z := 0) q
          have v := hS r q
          exact ⟨w.1.trans (v.1.trans (er r q).1.symm), w.2.1.trans (v.2.trans (er r q).2.symm)⟩
        · obtain rfl : r = a3 := by have : r < a3 + 1 := hr; omega
          have w := rw3_1 (f := f) (a := r) (x := tl) (y := p) (z := 0)
          exact ⟨w.1.trans ea.1.symm, w.2.1.trans ea.2.symm⟩
  · rw [if_neg c2, if_neg c2]
    exact ⟨rfl, hR, hS, fun _ _ => rfl⟩
end TOLD
