section ZN
variable {l : Launch} {G : GT} {M : MT} {d mc ms k n pc pc' : Nat} {Q : Option Value → Hp → Prop} {h : Hp} {lv : LV} {st : List Value}
theorem aw_mmax {idx : Nat} {x y : Int32} (hd : decode M.2.1 pc = .ok (.invokestatic idx, 3)) (hn : pc + 3 = pc') (hw : Cond.methodLink M.1 idx Lib.Math.max.name ∈ TB) (hw2 : Cond.static Lib.Math.max.name ∈ TB) (hw3 : Cond.initialized "java/lang/Math" ∈ TB) (hw4 : Cond.code Lib.Math.max.name Lib.Math.max.code 2 (some .int) ∈ TB) (hd1 : 1 ≤ d) (hk : k ≤ mc ∧ n ≤ ms) (hsm : (st.map fun v => v.category).sum ≤ 8)
    (kk : AW l G M d mc ms Q k n h lv (.int (if x < y then y else x) :: st) pc') : AW l G M d mc ms Q k n h lv (.int y :: .int x :: st) pc := by
  intro p e s m args below meth c H locs ls Z hC hR hS hl hF
  have hx := hC.1
  have hb := hC.2.1
  subst hn
  have hts := hC.2.2.2.2.2.2.2.1
  exact va_mmax hx hb (by rw [hC.2.2.1]; exact hl.1.symm) hC.2.2.2.2.2.2.1 (hts _ hw) (hts _ hw2) (hts _ hw3) (hts _ hw4) hd1 (by show _ + 13 ≤ 64 * d; rw [zcat]; omega) hk.1 hk.2 hd (kk p e s m args below meth c H locs ls Z hC hR hS hl hF)
theorem aw_mmin {idx : Nat} {x y : Int32} (hd : decode M.2.1 pc = .ok (.invokestatic idx, 3)) (hn : pc + 3 = pc') (hw : Cond.methodLink M.1 idx Lib.Math.min.name ∈ TB) (hw2 : Cond.static Lib.Math.min.name ∈ TB) (hw3 : Cond.initialized "java/lang/Math" ∈ TB) (hw4 : Cond.code Lib.Math.min.name Lib.Math.min.code 2 (some .int) ∈ TB) (hd1 : 1 ≤ d) (hk : k ≤ mc ∧ n ≤ ms) (hsm : (st.map fun v => v.category).sum ≤ 8)
    (kk : AW l G M d mc ms Q k n h lv (.int (if y < x then y else x) :: st) pc') : AW l G M d mc ms Q k n h lv (.int y :: .int x :: st) pc := by
  intro p e s m args below meth c H locs ls Z hC hR hS hl hF
  have hx := hC.1
  have hb := hC.2.1
  subst hn
  have hts := hC.2.2.2.2.2.2.2.1
  exact va_mmin hx hb (by rw [hC.2.2.1]; exact hl.1.symm) hC.2.2.2.2.2.2.1 (hts _ hw) (hts _ hw2) (hts _ hw3) (hts _ hw4) hd1 (by show _ + 13 ≤ 64 * d; rw [zcat]; omega) hk.1 hk.2 hd (kk p e s m args below meth c H locs ls Z hC hR hS hl hF)
theorem aw_mabs {idx : Nat} {x : Int64} (hd : decode M.2.1 pc = .ok (.invokestatic idx, 3)) (hn : pc + 3 = pc') (hw : Cond.methodLink M.1 idx Lib.MathLoose.abs_long.x ∈ TB) (hw2 : Cond.static Lib.MathLoose.abs_long.x ∈ TB) (hw3 : Cond.initialized "java/lang/Math" ∈ TB) (hw4 : Cond.code Lib.MathLoose.abs_long.x Lib.MathLoose.abs_long.code 2 (some .long) ∈ TB) (hd1 : 1 ≤ d) (hk : k ≤ mc ∧ n ≤ ms) (hsm : (st.map fun v => v.category).sum ≤ 8)
    (kk : AW l G M d mc ms Q k n h lv (.long (if 0 < x then x else -x) :: st) pc') : AW l G M d mc ms Q k n h lv (.long x :: st) pc := by
  intro p e s m args below meth c H locs ls Z hC hR hS hl hF
  have hx := hC.1
  have hb := hC.2.1
  subst hn
  have hts := hC.2.2.2.2.2.2.2.1
  exact va_mabs_long hx hb (by rw [hC.2.2.1]; exact hl.1.symm) hC.2.2.2.2.2.2.1 (hts _ hw) (hts _ hw2) (hts _ hw3) (hts _ hw4) hd1 (by show _ + 13 ≤ 64 * d; rw [zcat]; omega) hk.1 hk.2 hd (kk p e s m args below meth c H locs ls Z hC hR hS hl hF)
theorem zroomA {d x : Nat} (hd1 : 1 ≤ d) (hs : x ≤ 8) : 2 * 0 + x + (nativeFrameWords "java/lang/System" "arraycopy" 5 + 11) ≤ 64 * d := by
  have : nativeFrameWords "java/lang/System" "arraycopy" 5 + 11 ≤ 56 := by decide +kernel
  omega
theorem zN_of {z : Int32} (hz : ¬ z < 0) : z.toInt = (z.toNatClampNeg : Int) := by
  have hz0 : (0 : Int) ≤ z.toInt := by
    have := Int32.not_lt.mp hz
    simpa using Int32.le_iff_toInt_le.mp this
  show z.toInt = ((z.toInt.toNat : Nat) : Int)
  omega
def zcpi (e e' : zE) (sp dp n : Nat) : zE := .inl (zak e', (zal e', .inl (va_cpy (zai e) (zai e') sp dp n)))
def zcpj (e e' : zE) (sp dp n : Nat) : zE := .inl (zak e', (zal e', .inr (.inl (va_cpy (zaj e) (zaj e') sp dp n))))
/-- System.arraycopy between arrays of one sort -/
theorem aw_copyG {idx a b kd n0 n1 : Nat} {sp dp nn : Int32} {x0 x1 x2 : vp_A} (hd : decode M.2.1 pc = .ok (.invokestatic idx, 3)) (hn : pc + 3 = pc') (hw : Cond.methodLink M.1 idx arraycopyName ∈ TB) (hw2 : Cond.native arraycopyName ∈ TB) (hw3 : Cond.static arraycopyName ∈ TB) (hw4 : Cond.initialized "java/lang/System" ∈ TB)
    (a16 : 16 ≤ a) (b16 : 16 ≤ b) (h5 : kd < 5) (hprim : refKind (ak kd) = false) (ha : h.2 a = .inl (kd, x0)) (hb2 : h.2 b = .inl (kd, x1)) (f0 : Nat → Value) (f1 : Nat → Value) (e0 : ∀ cA, vp_cell cA (zA G x0) = arrV cA n0 f0) (e1 : ∀ cA, vp_cell cA (zA G x1) = arrV cA n1 f1)
    (h1 : ¬ sp < 0) (h2 : ¬ dp < 0) (h3 : ¬ nn < 0) (h4 : sp.toNatClampNeg + nn.toNatClampNeg ≤ n0) (h6 : dp.toNatClampNeg + nn.toNatClampNeg ≤ n1) (hfit : ∀ i, i < nn.toNatClampNeg → fits (ak kd) (f0 (sp.toNatClampNeg + i)) = true) (hnr : ∀ i, match f0 (sp.toNatClampNeg + i) with | .ref _ => False | _ => True)
    (hcp : ∀ c0 c1, copied (vp_cell c0 (zA G x0)) (vp_cell c1 (zA G x1)) sp dp nn = vp_cell c1 (zA G x2)) (hd1 : 1 ≤ d) (hsm : (st.map fun v => v.category).sum ≤ 8)
    (kk : AW l G M d mc ms Q k n (hset h b (.inl (kd, x2))) lv st pc') : AW l G M d mc ms Q k n h lv (.int nn :: .int dp :: .ref b :: .int sp :: .ref a :: st) pc := by
  intro p e s m args below meth c H locs ls Z hC hR hS hl hF
  have hx := hC.1
  have hb := hC.2.1
  subst hn
  have hts := hC.2.2.2.2.2.2.2.1
  have hK := hC.2.2.2.2.2.2.2.2.1.1
  intro T hT X
  have hc0 := hR.arr a16 ha
  have hc1 := hR.arr b16 hb2
  rw [e0] at hc0
  rw [e1] at hc1
  obtain ⟨-, k0, hk0, cm0, hkk0⟩ := (hK.2 kd _ (gty h5)).1 n0 f0
  obtain ⟨-, k1, hk1, cm1, hkk1⟩ := (hK.2 kd _ (gty h5)).1 n1 f1
  have hcp' : copied (arrV (gC G kd) n0 f0) (arrV (gC G kd) n1 f1) sp dp nn = vp_cell (gC G kd) (zA G x2) := by rw [← e0, ← e1]; exact hcp _ _
  have hgd : ∀ i, i < nn.toNatClampNeg → (arrV (gC G kd) n0 f0).slots.getD (sp.toNatClampNeg + i) .null = f0 (sp.toNatClampNeg + i) := fun i hi => by
    rw [Array.getD_eq_getD_getElem?, arrV_read _ _ (by omega)]
    rfl
  obtain ⟨vm', X', step⟩ := X.arraycopy hx hC.2.2.2.2.2.2.1 (hts _ hw) (hts _ hw2) (hts _ hw3) (hts _ hw4) (src := zad G a) (dst := zad G b) (cs := arrV (gC G kd) n0 f0) (cd := arrV (gC G kd) n1 f1) (srcPos := sp) (destPos := dp) (n := nn) (by rw [hT]; exact hc0) (by rw [hT]; exact hc1)
    (fun _ h => by cases h) (fun _ h => by cases h) (fun h => by cases h) (fun h => by cases h) hk0 hk1 hkk0 hkk1 (by simp [hprim]) h1 h2 h3
    (by rw [zN_of h1, zN_of h3, arrV_size]; omega)
    (by rw [zN_of h2, zN_of h3, arrV_size]; omega)
    (fun vm₁ _ i hi => by
      refine ⟨?_, ?_⟩
      · rw [hgd i hi]
        exact hfit i hi
      · rw [hgd i hi]
        have hq := hnr i
        revert hq
        cases f0 (sp.toNatClampNeg + i) <;> first | exact fun _ => trivial | exact fun z => z.elim)
    (g := F0 m pc ls ((Value.int nn :: .int dp :: .ref b :: .int sp :: .ref a :: st).map (zV G))) rfl (by show ls.size = _; rw [hC.2.2.1]; exact hl.1) (rest := st.map (zV G)) rfl (by rw [hb]; exact hd) hd1 (by show 2 * 0 + _ + _ ≤ 64 * d; rw [zcat]; exact zroomA hd1 hsm)
  rw [hcp'] at X' step
  have hlt : zad G b < H.size := (Array.getElem?_eq_some_iff.mp hc1).1
  have hheap : ((T.setVm vm').setCell (zad G b) (vp_cell (gC G kd) (zA G x2))).heap = H.setIfInBounds (zad G b) (vp_cell (gC G kd) (zA G x2)) := by rw [← hT]; rfl
  have oq : ∀ q : Nat, q ≠ zad G b → (H.setIfInBounds (zad G b) (vp_cell (gC G kd) (zA G x2)))[q]? = H[q]? := fun q hq => by simp [Array.getElem?_setIfInBounds, Ne.symm hq]
  have z : (H.setIfInBounds (zad G b) (vp_cell (gC G kd) (zA G x2))).size = H.size := by simp
  have hWb : zW G (zad G b) := by show gb G ≤ zad G b; unfold zad; rw [if_neg (by omega)]; omega
  obtain ⟨t, a1, b1⟩ := kk p e s m args below meth c _ _ ls Z hC (hR.set (e := .inl (kd, x2)) b16 (by rw [hb2]; exact zinl) (show (H.setIfInBounds (zad G b) _)[zad G b]? = some (vp_cell (gC G kd) (zA G x2)) by simp [Array.getElem?_setIfInBounds, hlt]) z oq)
    ⟨by rw [z]; exact hS.1, fun q g1 g2 => by
      rw [oq q (fun e => g2 (by rw [e]; exact hWb))]
      exact hS.2.1 q g1 g2, fun q hq => by
      rcases List.mem_append.mp hq with h | h
      · exact hS.2.2 q h
      · obtain ⟨z, -, hz⟩ := List.mem_map.mp h
        rw [← hz]
        exact hWb⟩ hl hF _ hheap X'
  exact ⟨t, step t a1, b1⟩
theorem aw_copyi {idx a b : Nat} {sp dp nn : Int32} (hd : decode M.2.1 pc = .ok (.invokestatic idx, 3)) (hn : pc + 3 = pc') (hw : Cond.methodLink M.1 idx arraycopyName ∈ TB) (hw2 : Cond.native arraycopyName ∈ TB) (hw3 : Cond.static arraycopyName ∈ TB) (hw4 : Cond.initialized "java/lang/System" ∈ TB)
    (a16 : 16 ≤ a) (b16 : 16 ≤ b) (ha : zIA (h.2 a) 0) (hb2 : zIA (h.2 b) 0)
    (h1 : ¬ sp < 0) (h2 : ¬ dp < 0) (h3 : ¬ nn < 0) (h4 : sp.toNatClampNeg + nn.toNatClampNeg ≤ zal (h.2 a)) (h6 : dp.toNatClampNeg + nn.toNatClampNeg ≤ zal (h.2 b)) (hd1 : 1 ≤ d) (hsm : (st.map fun v => v.category).sum ≤ 8)
    (kk : AW l G M d mc ms Q k n (hset h b (zcpi (h.2 a) (h.2 b) sp.toNatClampNeg dp.toNatClampNeg nn.toNatClampNeg)) lv st pc') : AW l G M d mc ms Q k n h lv (.int nn :: .int dp :: .ref b :: .int sp :: .ref a :: st) pc :=
  aw_copyG (kd := 0) (x0 := (zal (h.2 a), .inl (zai (h.2 a)))) (x1 := (zal (h.2 b), .inl (zai (h.2 b)))) (x2 := (zal (h.2 b), .inl (va_cpy (zai (h.2 a)) (zai (h.2 b)) sp.toNatClampNeg dp.toNatClampNeg nn.toNatClampNeg))) hd hn hw hw2 hw3 hw4 a16 b16 (by decide) rfl ha hb2 (fun j => .int (zai (h.2 a) j)) (fun j => .int (zai (h.2 b) j)) (fun _ => rfl) (fun _ => rfl) h1 h2 h3 h4 h6 (fun _ _ => rfl) (fun _ => trivial) (fun c0 c1 => va_copied (fun z => .int z) c0 c1 (zai (h.2 a)) (zai (h.2 b)) h4) hd1 hsm (by
    have e2 : zak (h.2 b) = 0 := by rw [hb2]; rfl
    unfold zcpi at kk
    rw [e2] at kk
    exact kk)
theorem aw_copyj {idx a b : Nat} {sp dp nn : Int32} (hd : decode M.2.1 pc = .ok (.invokestatic idx, 3)) (hn : pc + 3 = pc') (hw : Cond.methodLink M.1 idx arraycopyName ∈ TB) (hw2 : Cond.native arraycopyName ∈ TB) (hw3 : Cond.static arraycopyName ∈ TB) (hw4 : Cond.initialized "java/lang/System" ∈ TB)
    (a16 : 16 ≤ a) (b16 : 16 ≤ b) (ha : zJA (h.2 a) 3) (hb2 : zJA (h.2 b) 3)
    (h1 : ¬ sp < 0) (h2 : ¬ dp < 0) (h3 : ¬ nn < 0) (h4 : sp.toNatClampNeg + nn.toNatClampNeg ≤ zal (h.2 a)) (h6 : dp.toNatClampNeg + nn.toNatClampNeg ≤ zal (h.2 b)) (hd1 : 1 ≤ d) (hsm : (st.map fun v => v.category).sum ≤ 8)
    (kk : AW l G M d mc ms Q k n (hset h b (zcpj (h.2 a) (h.2 b) sp.toNatClampNeg dp.toNatClampNeg nn.toNatClampNeg)) lv st pc') : AW l G M d mc ms Q k n h lv (.int nn :: .int dp :: .ref b :: .int sp :: .ref a :: st) pc :=
  aw_copyG (kd := 3) (x0 := (zal (h.2 a), .inr (.inl (zaj (h.2 a))))) (x1 := (zal (h.2 b), .inr (.inl (zaj (h.2 b))))) (x2 := (zal (h.2 b), .inr (.inl (va_cpy (zaj (h.2 a)) (zaj (h.2 b)) sp.toNatClampNeg dp.toNatClampNeg nn.toNatClampNeg)))) hd hn hw hw2 hw3 hw4 a16 b16 (by decide) rfl ha hb2 (fun j => .long (zaj (h.2 a) j)) (fun j => .long (zaj (h.2 b) j)) (fun _ => rfl) (fun _ => rfl) h1 h2 h3 h4 h6 (fun _ _ => rfl) (fun _ => trivial) (fun c0 c1 => va_copied (fun z => .long z) c0 c1 (zaj (h.2 a)) (zaj (h.2 b)) h4) hd1 hsm (by
    have e2 : zak (h.2 b) = 3 := by rw [hb2]; rfl
    unfold zcpj at kk
    rw [e2] at kk
    exact kk)
end ZN
