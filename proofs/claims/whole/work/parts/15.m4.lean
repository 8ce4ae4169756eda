/-! the model's further calls -/
section M4
variable {l : Launch} {G : GT} {d u : Nat} {h : Hp} {U : MS} {Q : Option Value → Hp → Prop}
/-- the model with another row of numbers -/
def mset (U : MS) (j : Nat) (f : Nat → Int32) : MS := (fun k => if k = j then f else U.1 k, U.2.1, U.2.2)
theorem mset_eq (U : MS) (j : Nat) (f : Nat → Int32) : (mset U j f).1 j = f := by simp [mset]
theorem mset_ne {U : MS} {j k : Nat} {f : Nat → Int32} (h : k ≠ j) : (mset U j f).1 k = U.1 k := by simp [mset, h]
theorem mset_set (U : MS) (j : Nat) (f f' : Nat → Int32) : mset (mset U j f) j f' = mset U j f' := by
  unfold mset
  congr 1
  funext k
  by_cases h : k = j <;> simp [h]
theorem mup_mset (U : MS) (j i : Nat) (x : Int32) : mup U j i x = mset U j (upd (U.1 j) i x) := rfl
theorem mg_mset (U : MS) (f : Nat → Int32) : mg U f = mset U 1 f := rfl
theorem MAt.gs {h : Hp} {u j : Nat} {U : MS} {f f' : Nat → Int32} (hM : MAt h u (mset U j f)) (he : ∀ i, i < mlen j → f i = f' i) : MAt h u (mset U j f') := by
  refine hM.ext (A := (mset U j f').1) fun k h1 h2 i hi => ?_
  by_cases hj : k = j
  · subst hj
    rw [mset_eq, mset_eq]
    exact he i hi
  · rw [mset_ne hj, mset_ne hj]
theorem MAt.id {h : Hp} {u j : Nat} {U : MS} {f : Nat → Int32} (hM : MAt h u U) (he : ∀ i, i < mlen j → U.1 j i = f i) : MAt h u (mset U j f) := by
  refine hM.ext (A := (mset U j f).1) fun k h1 h2 i hi => ?_
  by_cases hj : k = j
  · subst hj
    rw [mset_eq]
    exact he i hi
  · rw [mset_ne hj]

abbrev mX7_move : MT := (RX7, cX7_move, 3, none, false)
theorem eX7_move_0 : decode mX7_move.2.1 0 = .ok (.iconst 0, 1) := by decide +kernel
theorem eX7_move_1 : decode mX7_move.2.1 1 = .ok (.istore_n 2, 1) := by decide +kernel
theorem eX7_move_2 : decode mX7_move.2.1 2 = .ok (.iload_n 2, 1) := by decide +kernel
theorem eX7_move_3 : decode mX7_move.2.1 3 = .ok (.bipush 123, 2) := by decide +kernel
theorem eX7_move_5 : decode mX7_move.2.1 5 = .ok (.if_icmp .ge 15, 3) := by decide +kernel
theorem eX7_move_8 : decode mX7_move.2.1 8 = .ok (.aload_n 1, 1) := by decide +kernel
theorem eX7_move_9 : decode mX7_move.2.1 9 = .ok (.iload_n 2, 1) := by decide +kernel
theorem eX7_move_10 : decode mX7_move.2.1 10 = .ok (.aload_n 0, 1) := by decide +kernel
theorem eX7_move_11 : decode mX7_move.2.1 11 = .ok (.iload_n 2, 1) := by decide +kernel
theorem eX7_move_12 : decode mX7_move.2.1 12 = .ok (.iaload, 1) := by decide +kernel
theorem eX7_move_13 : decode mX7_move.2.1 13 = .ok (.iastore, 1) := by decide +kernel
theorem eX7_move_14 : decode mX7_move.2.1 14 = .ok (.iinc 2 1, 3) := by decide +kernel
theorem eX7_move_17 : decode mX7_move.2.1 17 = .ok (.goto (-15), 3) := by decide +kernel
theorem eX7_move_20 : decode mX7_move.2.1 20 = .ok (.return_, 1) := by decide +kernel
theorem mlen3 {j : Nat} (hj : j = 1 ∨ j = 2 ∨ j = 3) : mlen j = 123 ∧ 1 ≤ j ∧ j ≤ 16 ∧ mkd j = 0 := by
  rcases hj with rfl | rfl | rfl <;> decide
theorem lp_X7_move {j1 j2 : Nat} (h1 : j1 = 1 ∨ j1 = 2 ∨ j1 = 3) (h2 : j2 = 1 ∨ j2 = 2 ∨ j2 = 3) (hne : j1 ≠ j2) {h0 : Hp} (hQ : ∀ h', MAt h' u (mset U j2 (U.1 j1)) → Same u 19 h0 h' → Q none h') : ∀ (k i : Nat) (y : Int32) (h : Hp), k = 123 - i → i ≤ 123 → y = nI i → MAt h u (mset U j2 (fun q => if q < i then U.1 j1 q else U.1 j2 q)) → Same u 19 h0 h → AW l G mX7_move d 0 0 Q 0 0 h [some (.ref (u + j1)), some (.ref (u + j2)), some (.int y)] [] 2 := by
  intro k
  induction k using Nat.strongRecOn with
  | _ k ih =>
    intro i y h hk hi hy hM hs
    subst hy
    have m1 := mlen3 h1
    have m2 := mlen3 h2
    refine aw_iload_n (pc' := 3) eX7_move_2 rfl rfl ?_
    refine aw_bipush (pc' := 5) (v := 123) eX7_move_3 rfl (by decide) ?_
    refine aw_icmp_ge (pc' := 8) (tgt := 20) eX7_move_5 rfl (by decide) (fun c => ?_) (fun c => ?_)
    · have c9 : 123 ≤ i := ge_nI (b := 123) (by omega) (by omega) c
      refine aw_ret (v := none) eX7_move_20 rfl (by omega) (by omega) rfl ?_
      refine hQ h (hM.gs fun q hq => ?_) hs
      rw [m2.1] at hq
      rw [if_pos (by omega)]
    · have c9 : i < 123 := nge_nI (b := 123) (by omega) (by omega) c
      refine aw_aload_n (pc' := 9) eX7_move_8 rfl rfl trivial ?_
      refine aw_iload_n (pc' := 10) eX7_move_9 rfl rfl ?_
      refine aw_aload_n (pc' := 11) eX7_move_10 rfl rfl trivial ?_
      refine aw_iload_n (pc' := 12) eX7_move_11 rfl rfl ?_
      refine aw_MaldC (pc' := 13) j1 i hM eX7_move_12 rfl m1.2 (by rw [m1.1]; exact vp_in_nI c9 (by omega)) (nI_clamp (by omega)) ?_
      refine aw_MastC (pc' := 14) j2 i hM eX7_move_13 rfl m2.2 (by rw [m2.1]; exact vp_in_nI c9 (by omega)) (nI_clamp (by omega)) (fun h1' hM1 hs1 => ?_)
      refine aw_iinc (pc' := 17) eX7_move_14 rfl rfl rfl (by decide) ?_
      dsimp only [zst, zst2, zcut]
      refine aw_goto eX7_move_17 (by decide) (tgt := 2) ?_
      refine ih (123 - (i + 1)) (by omega) (i + 1) _ h1' rfl (by omega) (nI_inc i) ?_ (hs.tr hs1)
      rw [mup_mset, mset_set, mset_eq, mset_ne hne] at hM1
      refine hM1.gs fun q hq => ?_
      rw [upd_if]
      by_cases e : q = i
      · rw [if_pos e, if_pos (by omega), e]
      · rw [if_neg e]
        by_cases e2 : q < i
        · rw [if_pos e2, if_pos (by omega)]
        · rw [if_neg e2, if_neg (by omega)]
theorem c_X7_move (hM : MAt h u U) (j1 j2 : Nat) (h1 : j1 = 1 ∨ j1 = 2 ∨ j1 = 3) (h2 : j2 = 1 ∨ j2 = 2 ∨ j2 = 3) (hne : j1 ≠ j2) (hd : 0 ≤ d) : Ct l G mX7_move yX7_move d 0 0 [.ref (u + j1), .ref (u + j2)] h (fun r h' => r = none ∧ MAt h' u (mset U j2 (U.1 j1)) ∧ Same u 19 h h') := by
  refine ct_of (lv := [some (.ref (u + j1)), some (.ref (u + j2)), none]) (by decide +kernel) rfl (fun z => by cases z) (fun _ => rfl) (fun _ => Nat.le_of_ble_eq_true rfl) ?_
  refine aw_iconst (pc' := 1) (v := 0) eX7_move_0 rfl (by decide) ?_
  refine aw_istore_n (pc' := 2) eX7_move_1 rfl (by decide) ?_
  dsimp only [zst, zst2, zcut]
  exact lp_X7_move h1 h2 hne (fun h' a b => ⟨rfl, a, b⟩) 123 0 0 h rfl (by omega) rfl (hM.id fun i hi => by rw [if_neg (by omega)]) Same.rf
abbrev mX7_image : MT := (RX7, cX7_image, 1, (some .int), false)
theorem eX7_image_0 : decode mX7_image.2.1 0 = .ok (.aload_n 0, 1) := by decide +kernel
theorem eX7_image_1 : decode mX7_image.2.1 1 = .ok (.iconst 1, 1) := by decide +kernel
theorem eX7_image_2 : decode mX7_image.2.1 2 = .ok (.putfield 72, 3) := by decide +kernel
theorem eX7_image_5 : decode mX7_image.2.1 5 = .ok (.aload_n 0, 1) := by decide +kernel
theorem eX7_image_6 : decode mX7_image.2.1 6 = .ok (.getfield 15, 3) := by decide +kernel
theorem eX7_image_9 : decode mX7_image.2.1 9 = .ok (.aload_n 0, 1) := by decide +kernel
theorem eX7_image_10 : decode mX7_image.2.1 10 = .ok (.getfield 22, 3) := by decide +kernel
theorem eX7_image_13 : decode mX7_image.2.1 13 = .ok (.invokestatic 76, 3) := by decide +kernel
theorem eX7_image_16 : decode mX7_image.2.1 16 = .ok (.aload_n 0, 1) := by decide +kernel
theorem eX7_image_17 : decode mX7_image.2.1 17 = .ok (.getfield 15, 3) := by decide +kernel
theorem eX7_image_20 : decode mX7_image.2.1 20 = .ok (.bipush 60, 2) := by decide +kernel
theorem eX7_image_22 : decode mX7_image.2.1 22 = .ok (.iaload, 1) := by decide +kernel
theorem eX7_image_23 : decode mX7_image.2.1 23 = .ok (.ireturn, 1) := by decide +kernel
theorem c_X7_image (hM : MAt h u U) (hd : 1 ≤ d) : Ct l G mX7_image yX7_image d 0 0 [.ref u] h (fun r h' => r = some (.int (U.1 1 60)) ∧ MAt h' u (mset (msc U 3 1) 3 (U.1 1)) ∧ Same u 19 h h') := by
  refine ct_of (lv := [some (.ref u)]) (by decide +kernel) rfl (fun z => by cases z) (fun _ => rfl) (fun _ => Nat.le_of_ble_eq_true rfl) ?_
  refine aw_aload_n (pc' := 1) eX7_image_0 rfl rfl trivial ?_
  refine aw_iconst (pc' := 2) (v := 1) eX7_image_1 rfl (by decide) ?_
  refine aw_Mput (pc' := 5) 3 hM eX7_image_2 rfl (by decide) (fun _ => Or.inr rfl) q792 (fun h3 hM1 hs2 => ?_)
  refine aw_aload_n (pc' := 6) eX7_image_5 rfl rfl trivial ?_
  refine aw_Mref (pc' := 9) (kf := 0) 1 hM1 eX7_image_6 rfl (by decide) rfl q789 ?_
  refine aw_aload_n (pc' := 10) eX7_image_9 rfl rfl trivial ?_
  refine aw_Mref (pc' := 13) (kf := 2) 3 hM1 eX7_image_10 rfl (by decide) rfl q791 ?_
  refine aw_calls (pc' := 16) (nn := 2) (c_X7_move (d := d - 1) hM1 1 3 (by decide) (by decide) (by decide) (by omega)) eX7_image_13 rfl ⟨q879, q881, q62⟩ q880 ⟨by decide +kernel, by decide +kernel, by decide +kernel⟩ rfl ⟨by omega, by decide⟩ ⟨by omega, by omega⟩ rfl (Nat.le_of_ble_eq_true rfl) (fun v6 h7 hq8 => ?_)
  obtain ⟨rfl, hM4, hs5⟩ := hq8
  have hT9 := hs2.tr hs5
  dsimp only [Option.toList, List.cons_append, List.nil_append]
  refine aw_aload_n (pc' := 17) eX7_image_16 rfl rfl trivial ?_
  refine aw_Mref (pc' := 20) (kf := 0) 1 hM4 eX7_image_17 rfl (by decide) rfl q789 ?_
  refine aw_bipush (pc' := 22) (v := 60) eX7_image_20 rfl (by decide) ?_
  refine aw_MaldC (pc' := 23) 1 60 hM4 eX7_image_22 rfl (by decide) (by unfold vp_in; decide) (by decide) ?_
  refine aw_ret (v := some (.int _)) eX7_image_23 ⟨rfl, rfl⟩ (by omega) (by omega) rfl ?_
  have hM9 := hM4
  refine ⟨?_, hM9, hT9⟩
  rw [mset_ne (by decide)]
  rfl
abbrev mX7_undo : MT := (RX7, cX7_undo, 1, (some .int), false)
theorem eX7_undo_0 : decode mX7_undo.2.1 0 = .ok (.aload_n 0, 1) := by decide +kernel
theorem eX7_undo_1 : decode mX7_undo.2.1 1 = .ok (.getfield 72, 3) := by decide +kernel
theorem eX7_undo_4 : decode mX7_undo.2.1 4 = .ok (.ifCond .ne 6, 3) := by decide +kernel
theorem eX7_undo_7 : decode mX7_undo.2.1 7 = .ok (.bipush (-3), 2) := by decide +kernel
theorem eX7_undo_9 : decode mX7_undo.2.1 9 = .ok (.ireturn, 1) := by decide +kernel
theorem eX7_undo_10 : decode mX7_undo.2.1 10 = .ok (.aload_n 0, 1) := by decide +kernel
theorem eX7_undo_11 : decode mX7_undo.2.1 11 = .ok (.getfield 22, 3) := by decide +kernel
theorem eX7_undo_14 : decode mX7_undo.2.1 14 = .ok (.aload_n 0, 1) := by decide +kernel
theorem eX7_undo_15 : decode mX7_undo.2.1 15 = .ok (.getfield 15, 3) := by decide +kernel
theorem eX7_undo_18 : decode mX7_undo.2.1 18 = .ok (.invokestatic 76, 3) := by decide +kernel
theorem eX7_undo_21 : decode mX7_undo.2.1 21 = .ok (.aload_n 0, 1) := by decide +kernel
theorem eX7_undo_22 : decode mX7_undo.2.1 22 = .ok (.getfield 15, 3) := by decide +kernel
theorem eX7_undo_25 : decode mX7_undo.2.1 25 = .ok (.bipush 60, 2) := by decide +kernel
theorem eX7_undo_27 : decode mX7_undo.2.1 27 = .ok (.iaload, 1) := by decide +kernel
theorem eX7_undo_28 : decode mX7_undo.2.1 28 = .ok (.ireturn, 1) := by decide +kernel
theorem c_X7_undo (hM : MAt h u U) (hd : 1 ≤ d) : Ct l G mX7_undo yX7_undo d 0 0 [.ref u] h (fun r h' => r = some (.int (if U.2.1 3 = 0 then -3 else U.1 3 60)) ∧ MAt h' u (if U.2.1 3 = 0 then U else mset U 1 (U.1 3)) ∧ Same u 19 h h') := by
  refine ct_of (lv := [some (.ref u)]) (by decide +kernel) rfl (fun z => by cases z) (fun _ => rfl) (fun _ => Nat.le_of_ble_eq_true rfl) ?_
  refine aw_aload_n (pc' := 1) eX7_undo_0 rfl rfl trivial ?_
  refine aw_Mint (pc' := 4) (kf := 3) hM eX7_undo_1 rfl (by decide) q792 ?_
  refine aw_if_ne (pc' := 7) (tgt := 10) eX7_undo_4 rfl (by decide) (fun c_4 => ?_) (fun c_4 => ?_)
  · refine aw_aload_n (pc' := 11) eX7_undo_10 rfl rfl trivial ?_
    refine aw_Mref (pc' := 14) (kf := 2) 3 hM eX7_undo_11 rfl (by decide) rfl q791 ?_
    refine aw_aload_n (pc' := 15) eX7_undo_14 rfl rfl trivial ?_
    refine aw_Mref (pc' := 18) (kf := 0) 1 hM eX7_undo_15 rfl (by decide) rfl q789 ?_
    refine aw_calls (pc' := 21) (nn := 2) (c_X7_move (d := d - 1) hM 3 1 (by decide) (by decide) (by decide) (by omega)) eX7_undo_18 rfl ⟨q879, q881, q62⟩ q880 ⟨by decide +kernel, by decide +kernel, by decide +kernel⟩ rfl ⟨by omega, by decide⟩ ⟨by omega, by omega⟩ rfl (Nat.le_of_ble_eq_true rfl) (fun v3 h4 hq5 => ?_)
    obtain ⟨rfl, hM1, hs2⟩ := hq5
    dsimp only [Option.toList, List.cons_append, List.nil_append]
    refine aw_aload_n (pc' := 22) eX7_undo_21 rfl rfl trivial ?_
    refine aw_Mref (pc' := 25) (kf := 0) 1 hM1 eX7_undo_22 rfl (by decide) rfl q789 ?_
    refine aw_bipush (pc' := 27) (v := 60) eX7_undo_25 rfl (by decide) ?_
    refine aw_MaldC (pc' := 28) 1 60 hM1 eX7_undo_27 rfl (by decide) (by unfold vp_in; decide) (by decide) ?_
    refine aw_ret (v := some (.int _)) eX7_undo_28 ⟨rfl, rfl⟩ (by omega) (by omega) rfl ?_
    have hM9 := hM1
    refine ⟨?_, ?_, hs2⟩
    · rw [if_neg c_4, mset_eq]
    · rw [if_neg c_4]
      exact hM9
  · refine aw_bipush (pc' := 9) (v := -3) eX7_undo_7 rfl (by decide) ?_
    refine aw_ret (v := some (.int _)) eX7_undo_9 ⟨rfl, rfl⟩ (by omega) (by omega) rfl ?_
    exact ⟨by rw [if_pos (by first | exact c_4 | exact Decidable.not_not.mp c_4)], by rw [if_pos (by first | exact c_4 | exact Decidable.not_not.mp c_4)]; exact hM, Same.rf⟩
end M4
