/-! the row after a call -/
section ROWS
variable {F : FT} {c m t a1 a2 a3 a : Nat} {g g' : Nat → Int32}
theorem gB2.of (hS : gB2 g m a) (e : ∀ j, 106 ≤ j → g' j = g j) : gB2 g' m a := by
  obtain ⟨h1, h2, h3⟩ := hS
  refine ⟨(e 106 (by omega)).trans h1, h2, fun r hr => ?_⟩
  rw [e _ (by omega)]
  exact h3 r hr
theorem RowI.ge (hR : RowI c g m t a1 a2 a3) {t' : Nat} (e60 : g' 60 = g 60) (e68 : g' 68 = g 68) (ht : t' ≤ 9999) (e67 : g' 67 = nI t') (hA : gAge g' m t') (hk : ∀ i, i < m → g' (10 * i) = g (10 * i)) (e : ∀ j, 69 ≤ j → g' j = g j) : RowI c g' m t' a1 a2 a3 := by
  refine ⟨⟨e60.trans hR.ok.1, hR.ok.2.1, e67, by omega, ?_⟩, ht, hA, fun i hi => ?_, hR.se.of fun j h1 _ => e j h1, hR.pl.of fun j h1 => e j (by omega), hR.bo.of fun j h1 => e j (by omega), ?_⟩
  · rw [e68]; exact hR.ok.2.2.2.2
  · rw [hk i hi]; exact hR.kd i hi
  · rw [e68]; exact hR.q
theorem RowI.u {p : Nat} {x : Int32} (hR : RowI c g m t a1 a2 a3) (hp : p < 67) (h60 : p ≠ 60) (hk : ∀ i, i < 6 → p ≠ 10 * i) (ha : ∀ i, i < 6 → p ≠ 10 * i + 4) : RowI c (upd g p x) m t a1 a2 a3 := by
  have hm := hR.ok.2.1
  refine hR.ge (upd_ne (Ne.symm h60)) (upd_ne (by omega)) hR.t9 ((upd_ne (by omega)).trans hR.ok.2.2.1) (hR.age.of fun i hi => upd_ne (Ne.symm (ha i (by omega)))) (fun i hi => upd_ne (Ne.symm (hk i (by omega)))) (fun j hj => upd_ne (by omega))
theorem ite_row {P : Prop} [Decidable P] {A B : Int32 × (Nat → Int32)} (hA : RowI c A.2 m t a1 a2 a3) (hB : RowI c B.2 m t a1 a2 a3) : RowI c (if P then A else B).2 m t a1 a2 a3 := by
  split
  · exact hA
  · exact hB
theorem RowI.u4 {b : Nat} (hR : RowI c g m t a1 a2 a3) (hb : b < 6) : RowI c (upd g (10 * b + 4) 0) m t a1 a2 a3 := by
  have hm := hR.ok.2.1
  refine hR.ge (upd_ne (by omega)) (upd_ne (by omega)) hR.t9 ((upd_ne (by omega)).trans hR.ok.2.2.1) (fun i hi => ?_) (fun i hi => upd_ne (by omega)) (fun j hj => upd_ne (by omega))
  by_cases e : i = b
  · subst e
    exact ⟨0, by omega, upd_eq _ _ _⟩
  · rw [upd_ne (by omega)]; exact hR.age i hi
theorem RowI.weigh (hR : RowI c g m t a1 a2 a3) (tl x : Int32) : RowI c (sWeigh g m tl x).2 m t a1 a2 a3 := by
  have hm := hR.ok.2.1
  unfold sWeigh
  split
  · rename_i z
    obtain ⟨b, hb, rfl⟩ := (bIn_one hm).mp z
    rw [nI_clamp (by omega)]
    split
    · exact hR.u (by omega) (by omega) (fun i hi => by omega) (fun i hi => by omega)
    · exact hR
  · exact hR
theorem RowI.put (hR : RowI c g m t a1 a2 a3) (tl p x : Int32) : RowI c (sPut g m tl p x).2 m t a1 a2 a3 := by
  have hm := hR.ok.2.1
  unfold sPut
  split
  · rename_i z
    obtain ⟨b, hb, rfl⟩ := (bIn_one hm).mp z.1
    rw [nI_clamp (by omega)]
    split
    · exact (hR.u (by omega) (by omega) (fun i hi => by omega) (fun i hi => by omega)).u (by omega) (by omega) (fun i hi => by omega) (fun i hi => by omega)
    · exact hR
  · exact hR
theorem RowI.row (hR : RowI c g m t a1 a2 a3) (tl p x : Int32) : RowI c (sRow g m tl p x).2 m t a1 a2 a3 := by
  have hm := hR.ok.2.1
  unfold sRow
  split
  · rename_i z
    obtain ⟨b, hb, rfl⟩ := (bIn_one hm).mp z.1
    obtain ⟨y, hy, rfl⟩ := (bIn_lit (N := 3) (by omega)).mp z.2
    rw [nI_clamp (n := b) (by omega), nI_clamp (n := y) (by omega)]
    split
    · split
      · exact hR.u (by omega) (by omega) (fun i hi => by omega) (fun i hi => by omega)
      · exact hR
    · exact hR
  · exact hR
theorem RowI.sea (hR : RowI c g m t a1 a2 a3) (tl x : Int32) : RowI c (sSea g tl x).2 m t a1 a2 a3 := by
  have hm := hR.ok.2.1
  unfold sSea
  split
  · rename_i z
    obtain ⟨b, hb, rfl⟩ := (bIn_lit (N := 5) (by omega)).mp z
    rw [nI_clamp (n := b) (by omega)]
    exact ite_row (hR.u (by omega) (by omega) (fun i hi => by omega) (fun i hi => by omega)) hR
  · exact hR
theorem RowI.tell (hR : RowI c g m t a1 a2 a3) (tl : Int32) : RowI c (sTell g m tl).2 m t a1 a2 a3 := by
  have hm := hR.ok.2.1
  unfold sTell
  split
  · rename_i z
    obtain ⟨b, hb, rfl⟩ := (bIn_one hm).mp z
    rw [nI_clamp (by omega)]
    split
    · rename_i y
      show RowI c (sSays g b) m t a1 a2 a3
      rw [sSays, if_pos y]
      exact (hR.u (by omega) (by omega) (fun i hi => by omega) (fun i hi => by omega)).u4 (by omega)
    · exact hR
  · exact hR
theorem sD1_k {cur : Int32} {i j : Nat} : sD1 cur i g (10 * j) = g (10 * j) := by
  unfold sD1
  split
  · rw [upd_ne (by omega), upd_ne (by omega)]
  · rfl
theorem sD2_k {i j : Nat} : sD2 i g (10 * j) = g (10 * j) := by
  unfold sD2
  split
  · rw [upd_ne (by omega)]
  · rfl
theorem sD3_k {i j : Nat} : sD3 i g (10 * j) = g (10 * j) := by
  unfold sD3
  split
  · rw [upd_ne (by omega)]
  · rfl
theorem sDs_k {cur : Int32} {j : Nat} : ∀ i, sDs cur g i (10 * j) = g (10 * j)
  | 0 => rfl
  | i + 1 => by rw [sDs, sD3_k, sD2_k, sD1_k, sDs_k i]
theorem sBring_k {j : Nat} : sBring F g m t (10 * j) = g (10 * j) := by
  unfold sBring
  split
  · rw [upd_ne (by omega), upd_ne (by omega)]
  · rfl
theorem sDay_k {j : Nat} (hj : j < 6) : sDay F m t g (10 * j) = g (10 * j) := by
  rw [sDay, upd_ne (by omega), sDs_k, sFi, upd_ne (by omega), sBring_k]
theorem sDys_k {j : Nat} (hj : j < 6) : ∀ (k t : Nat) (g : Nat → Int32), sDys F m k t g (10 * j) = g (10 * j)
  | 0, _, _ => rfl
  | k + 1, t, g => by rw [sDys, sDys_k hj k, sDay_k hj]
theorem RowI.pass (hR : RowI c g m t a1 a2 a3) (x : Int32) : ∃ t', RowI c (sPass F g m t x).2 m t' a1 a2 a3 := by
  have hm := hR.ok.2.1
  have ht := hR.t9
  unfold sPass
  split
  · rename_i z
    obtain ⟨k, hk, rfl⟩ := (bIn_lit (N := 60) (by omega)).mp z
    rw [nI_clamp (by omega)]
    split
    · exact ⟨t, hR⟩
    · rename_i y
      rw [nI_add] at y
      have y2 : t + k ≤ 9999 := Nat.not_lt.mp fun q => y ((nI_ltI (a := 9999) (by omega) (by omega)).mpr q)
      have ok := sDys_ok (F := F) k t g hR.ok (by omega)
      exact ⟨t + k, hR.ge (sDys_hi hm (by omega) (by decide) (by decide) k t g) (sDys_hi hm (by omega) (by decide) (by decide) k t g) y2 ok.2.2.1 (gAge.days hm k t g hR.age) (fun i hi => sDys_k (by omega) k t g) (fun j hj => sDys_hi hm (by omega) (by omega) (by omega) k t g)⟩
  · exact ⟨t, hR⟩
theorem RowI.teller (hR : RowI c g m t a1 a2 a3) (kd v w : Int32) : ∃ m', RowI c (sTeller g m kd v w).2 m' t a1 a2 a3 := by
  have hm := hR.ok.2.1
  unfold sTeller
  split
  · rename_i z
    split
    · split
      · exact ⟨m, hR⟩
      · rename_i y
        have e : ∀ j, 61 ≤ j → sNew g m kd v w j = g j := fun j hj => by
          unfold sNew
          rw [if_neg (by omega), if_neg (by omega), if_neg (by omega), if_neg (by omega), if_neg (by omega)]
        have e2 : ∀ i cc, i < m → cc < 10 → sNew g m kd v w (10 * i + cc) = g (10 * i + cc) := fun i cc hi hc => by
          unfold sNew
          rw [if_neg (by omega), if_neg (by omega), if_neg (by omega), if_neg (by omega), if_neg (by omega)]
        refine ⟨m + 1, ⟨by show sNew g m kd v w 60 = nI (m + 1); unfold sNew; rw [if_pos rfl], by omega, (e 67 (by omega)).trans hR.ok.2.2.1, by have := hR.t9; omega, ?_⟩, hR.t9, fun i hi => ?_, fun i hi => ?_, ?_, ?_, ?_, ?_⟩
        · show ∃ q, q ≤ 6 ∧ sNew g m kd v w 68 = nI q
          rw [e 68 (by omega)]; exact hR.ok.2.2.2.2
        · show ∃ a, a ≤ t ∧ sNew g m kd v w (10 * i + 4) = nI a
          by_cases q : i = m
          · refine ⟨0, by omega, ?_⟩
            unfold sNew
            rw [if_neg (by omega), if_neg (by omega), if_neg (by omega), if_neg (by omega), if_pos (by omega)]
            rfl
          · rw [e2 i 4 (by omega) (by omega)]; exact hR.age i (by omega)
        · show ∃ K, K < 7 ∧ sNew g m kd v w (10 * i) = nI K
          by_cases q : i = m
          · obtain ⟨K, hK, rfl⟩ := (bIn_lit (N := 6) (by omega)).mp z
            refine ⟨K, by omega, ?_⟩
            unfold sNew
            rw [if_neg (by omega), if_pos (by omega)]
          · rw [show 10 * i = 10 * i + 0 from rfl, e2 i 0 (by omega) (by omega)]; exact hR.kd i (by omega)
        · obtain ⟨h1, h2, h3⟩ := hR.se.of (g' := sNew g m kd v w) fun j hj _ => e j (by omega)
          exact ⟨h1, h2, fun r hr => ⟨(h3 r hr).1.elim fun b hb => ⟨b, by omega, hb.2⟩, (h3 r hr).2⟩⟩
        · obtain ⟨h1, h2, h3⟩ := hR.pl.of (g' := sNew g m kd v w) fun j hj => e j (by omega)
          exact ⟨h1, h2, fun r hr => (h3 r hr).imp id (Or.imp (fun x => ⟨x.1, x.2.elim fun b hb => ⟨b, by omega, hb.2⟩⟩) id)⟩
        · obtain ⟨h1, h2, h3⟩ := hR.bo.of (g' := sNew g m kd v w) fun j hj => e j (by omega)
          exact ⟨h1, h2, fun r hr => (h3 r hr).elim fun b hb => ⟨b, by omega, hb.2⟩⟩
        · show ∃ q, q ≤ c ∧ sNew g m kd v w 68 = nI q
          rw [e 68 (by omega)]; exact hR.q
    · exact ⟨m, hR⟩
  · exact ⟨m, hR⟩
end ROWS
