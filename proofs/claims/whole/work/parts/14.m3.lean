/-! the model's calls on its row 'now' alone, as the law has them -/
section M3
variable {l : Launch} {G : GT} {d u : Nat} {h : Hp} {U : MS} {Q : Option Value → Hp → Prop}

def sWeigh (g : Nat → Int32) (m : Nat) (t n : Int32) : Int32 × (Nat → Int32) :=
  if bIn t 0 (nI m - 1) = true then if bIn n 0 20 = true then (g (10 * t.toNatClampNeg + 2), upd g (10 * t.toNatClampNeg + 2) n) else (-2, g) else (-1, g)
abbrev mX7_weigh : MT := (RX7, cX7_weigh, 3, (some .int), false)
theorem eX7_weigh_0 : decode mX7_weigh.2.1 0 = .ok (.aload_n 0, 1) := by decide +kernel
theorem eX7_weigh_1 : decode mX7_weigh.2.1 1 = .ok (.iload_n 1, 1) := by decide +kernel
theorem eX7_weigh_2 : decode mX7_weigh.2.1 2 = .ok (.invokevirtual 88, 3) := by decide +kernel
theorem eX7_weigh_5 : decode mX7_weigh.2.1 5 = .ok (.ifCond .ne 5, 3) := by decide +kernel
theorem eX7_weigh_8 : decode mX7_weigh.2.1 8 = .ok (.iconst (-1), 1) := by decide +kernel
theorem eX7_weigh_9 : decode mX7_weigh.2.1 9 = .ok (.ireturn, 1) := by decide +kernel
theorem eX7_weigh_10 : decode mX7_weigh.2.1 10 = .ok (.iload_n 2, 1) := by decide +kernel
theorem eX7_weigh_11 : decode mX7_weigh.2.1 11 = .ok (.iconst 0, 1) := by decide +kernel
theorem eX7_weigh_12 : decode mX7_weigh.2.1 12 = .ok (.bipush 20, 2) := by decide +kernel
theorem eX7_weigh_14 : decode mX7_weigh.2.1 14 = .ok (.invokestatic 80, 3) := by decide +kernel
theorem eX7_weigh_17 : decode mX7_weigh.2.1 17 = .ok (.ifCond .eq 13, 3) := by decide +kernel
theorem eX7_weigh_20 : decode mX7_weigh.2.1 20 = .ok (.aload_n 0, 1) := by decide +kernel
theorem eX7_weigh_21 : decode mX7_weigh.2.1 21 = .ok (.iload_n 1, 1) := by decide +kernel
theorem eX7_weigh_22 : decode mX7_weigh.2.1 22 = .ok (.iconst 2, 1) := by decide +kernel
theorem eX7_weigh_23 : decode mX7_weigh.2.1 23 = .ok (.iload_n 2, 1) := by decide +kernel
theorem eX7_weigh_24 : decode mX7_weigh.2.1 24 = .ok (.invokevirtual 109, 3) := by decide +kernel
theorem eX7_weigh_27 : decode mX7_weigh.2.1 27 = .ok (.goto 5, 3) := by decide +kernel
theorem eX7_weigh_30 : decode mX7_weigh.2.1 30 = .ok (.bipush (-2), 2) := by decide +kernel
theorem eX7_weigh_32 : decode mX7_weigh.2.1 32 = .ok (.ireturn, 1) := by decide +kernel
theorem c_X7_weigh (hM : MAt h u U) {m : Nat} (hm : mOk U m) (t n : Int32) (hd : 3 ≤ d) : Ct l G mX7_weigh yX7_weigh d 0 0 [.ref u, .int t, .int n] h (fun r h' => r = some (.int (sWeigh (U.1 1) m t n).1) ∧ MAt h' u (mg U (sWeigh (U.1 1) m t n).2) ∧ Same u 19 h h') := by
  refine ct_of (lv := [some (.ref u), some (.int t), some (.int n)]) (by decide +kernel) rfl (fun z => by cases z) (fun _ => rfl) (fun _ => Nat.le_of_ble_eq_true rfl) ?_
  refine aw_aload_n (pc' := 1) eX7_weigh_0 rfl rfl trivial ?_
  refine aw_iload_n (pc' := 2) eX7_weigh_1 rfl rfl ?_
  refine aw_callv (pc' := 5) (nn := 1) (c_X7_isOne (d := d - 1) hM _ (by omega)) eX7_weigh_2 rfl ⟨q897, q900, q62⟩ q899 q21 ⟨rfl, by decide +kernel, by decide +kernel, by decide +kernel⟩ rfl (by rw [hM.2.1]; exact ⟨rfl, rfl⟩) rfl ⟨by omega, by decide⟩ ⟨by omega, by omega⟩ rfl (Nat.le_of_ble_eq_true rfl) (fun v1 h2 hq3 => ?_)
  obtain ⟨rfl, rfl⟩ := hq3
  dsimp only [Option.toList, List.cons_append, List.nil_append]
  refine aw_if_ne (pc' := 8) (tgt := 10) eX7_weigh_5 rfl (by decide) (fun c_5 => ?_) (fun c_5 => ?_)
  · simp only [zb_eq0, Bool.not_eq_false, Bool.not_eq_true, decide_eq_true_eq, decide_eq_false_iff_not, Decidable.not_not] at c_5
    rw [hm.1] at c_5
    obtain ⟨i, hi, rfl⟩ := (bIn_one hm.2).mp c_5
    have hm6 := hm.2
    have cli : (nI i).toNatClampNeg = i := nI_clamp (by omega)
    have hx2 : (10 * nI i + 2).toNatClampNeg = 10 * i + 2 := ix10c (c := 2) (by omega)
    refine aw_iload_n (pc' := 11) eX7_weigh_10 rfl rfl ?_
    refine aw_iconst (pc' := 12) (v := 0) eX7_weigh_11 rfl (by decide) ?_
    refine aw_bipush (pc' := 14) (v := 20) eX7_weigh_12 rfl (by decide) ?_
    refine aw_calls (pc' := 17) (nn := 3) (c_X7_isIn (d := d - 1) _ _ _ (by omega)) eX7_weigh_14 rfl ⟨q890, q892, q62⟩ q891 ⟨by decide +kernel, by decide +kernel, by decide +kernel⟩ rfl ⟨by omega, by decide⟩ ⟨by omega, by omega⟩ rfl (Nat.le_of_ble_eq_true rfl) (fun v4 h5 hq6 => ?_)
    obtain ⟨rfl, rfl⟩ := hq6
    dsimp only [Option.toList, List.cons_append, List.nil_append]
    refine aw_if_eq (pc' := 20) (tgt := 30) eX7_weigh_17 rfl (by decide) (fun c_17 => ?_) (fun c_17 => ?_)
    · refine aw_bipush (pc' := 32) (v := -2) eX7_weigh_30 rfl (by decide) ?_
      refine aw_ret (v := some (.int _)) eX7_weigh_32 ⟨rfl, rfl⟩ (by omega) (by omega) rfl ?_
      try simp only [zb_eq0, Bool.not_eq_false, Bool.not_eq_true, decide_eq_true_eq, decide_eq_false_iff_not, Decidable.not_not, hm.1, mi, hx2] at c_5 c_17
      have hM9 := hM
      try simp only [mi, hx2, mup_mg, mg_mg, mg_1] at hM9
      refine ⟨?_, ?_, Same.rf⟩
      · simp [sWeigh, mi, hm.1, hx2, cli, c_5, c_17]
      · simpa [sWeigh, mg_id, hm.1, hx2, cli, c_5, c_17] using hM9
    · refine aw_aload_n (pc' := 21) eX7_weigh_20 rfl rfl trivial ?_
      refine aw_iload_n (pc' := 22) eX7_weigh_21 rfl rfl ?_
      refine aw_iconst (pc' := 23) (v := 2) eX7_weigh_22 rfl (by decide) ?_
      refine aw_iload_n (pc' := 24) eX7_weigh_23 rfl rfl ?_
      refine aw_callv (pc' := 27) (nn := 3) (c_X7_change (d := d - 1) hM _ _ _ (show vp_in (10 * nI i + 2) 123 from ix10v (c := 2) (by omega)) (by omega)) eX7_weigh_24 rfl ⟨q986, q989, q62⟩ q988 q43 ⟨rfl, by decide +kernel, by decide +kernel, by decide +kernel⟩ rfl (by rw [hM.2.1]; exact ⟨rfl, rfl⟩) rfl ⟨by omega, by decide⟩ ⟨by omega, by omega⟩ rfl (Nat.le_of_ble_eq_true rfl) (fun v9 h10 hq11 => ?_)
      obtain ⟨rfl, hM7, hs8⟩ := hq11
      dsimp only [Option.toList, List.cons_append, List.nil_append]
      refine aw_goto eX7_weigh_27 (by decide) (tgt := 32) ?_
      refine aw_ret (v := some (.int _)) eX7_weigh_32 ⟨rfl, rfl⟩ (by omega) (by omega) rfl ?_
      try simp only [zb_eq0, Bool.not_eq_false, Bool.not_eq_true, decide_eq_true_eq, decide_eq_false_iff_not, Decidable.not_not, hm.1, mi, hx2] at c_5 c_17
      have hM9 := hM7
      try simp only [mi, hx2, mup_mg, mg_mg, mg_1] at hM9
      refine ⟨?_, ?_, hs8⟩
      · simp [sWeigh, mi, hm.1, hx2, cli, c_5, c_17]
      · simpa [sWeigh, mg_id, hm.1, hx2, cli, c_5, c_17] using hM9
  · refine aw_iconst (pc' := 9) (v := -1) eX7_weigh_8 rfl (by decide) ?_
    refine aw_ret (v := some (.int _)) eX7_weigh_9 ⟨rfl, rfl⟩ (by omega) (by omega) rfl ?_
    try simp only [zb_eq0, Bool.not_eq_false, Bool.not_eq_true, decide_eq_true_eq, decide_eq_false_iff_not, Decidable.not_not, hm.1, mi] at c_5
    have hM9 := hM
    try simp only [mi, mup_mg, mg_mg, mg_1] at hM9
    refine ⟨?_, ?_, Same.rf⟩
    · simp [sWeigh, mi, hm.1, c_5]
    · simpa [sWeigh, mg_id, hm.1, c_5] using hM9
theorem mup1 (U : MS) (i : Nat) (x : Int32) : (mup U 1 i x).1 1 = upd (U.1 1) i x := by simp [mup]
theorem ix3 {c a b : Nat} (h : c + b * a < 123) : (nI c + nI b * nI a).toNatClampNeg = c + b * a ∧ vp_in (nI c + nI b * nI a) 123 := by
  rw [pk_mul, nI_add]
  exact ⟨nI_clamp (by omega), vp_in_nI h (by omega)⟩
theorem ixa {c a : Nat} (h : c + a < 123) : (nI c + nI a).toNatClampNeg = c + a ∧ vp_in (nI c + nI a) 123 := by
  rw [nI_add]
  exact ⟨nI_clamp (by omega), vp_in_nI h (by omega)⟩
def sPut (g : Nat → Int32) (m : Nat) (t p s : Int32) : Int32 × (Nat → Int32) :=
  if bIn t 0 (nI m - 1) = true ∧ bIn p 0 11 = true then if bIn s 2 4 = true then (g (10 * t.toNatClampNeg + 3), upd (upd g (10 * t.toNatClampNeg + 5) p) (10 * t.toNatClampNeg + 3) s) else (-2, g) else (-1, g)
abbrev mX7_put : MT := (RX7, cX7_put, 4, (some .int), false)
theorem eX7_put_0 : decode mX7_put.2.1 0 = .ok (.aload_n 0, 1) := by decide +kernel
theorem eX7_put_1 : decode mX7_put.2.1 1 = .ok (.iload_n 1, 1) := by decide +kernel
theorem eX7_put_2 : decode mX7_put.2.1 2 = .ok (.invokevirtual 88, 3) := by decide +kernel
theorem eX7_put_5 : decode mX7_put.2.1 5 = .ok (.ifCond .eq 10, 3) := by decide +kernel
theorem eX7_put_8 : decode mX7_put.2.1 8 = .ok (.iload_n 2, 1) := by decide +kernel
theorem eX7_put_9 : decode mX7_put.2.1 9 = .ok (.invokestatic 120, 3) := by decide +kernel
theorem eX7_put_12 : decode mX7_put.2.1 12 = .ok (.ifCond .ne 5, 3) := by decide +kernel
theorem eX7_put_15 : decode mX7_put.2.1 15 = .ok (.iconst (-1), 1) := by decide +kernel
theorem eX7_put_16 : decode mX7_put.2.1 16 = .ok (.ireturn, 1) := by decide +kernel
theorem eX7_put_17 : decode mX7_put.2.1 17 = .ok (.iload_n 3, 1) := by decide +kernel
theorem eX7_put_18 : decode mX7_put.2.1 18 = .ok (.iconst 2, 1) := by decide +kernel
theorem eX7_put_19 : decode mX7_put.2.1 19 = .ok (.iconst 4, 1) := by decide +kernel
theorem eX7_put_20 : decode mX7_put.2.1 20 = .ok (.invokestatic 80, 3) := by decide +kernel
theorem eX7_put_23 : decode mX7_put.2.1 23 = .ok (.ifCond .ne 6, 3) := by decide +kernel
theorem eX7_put_26 : decode mX7_put.2.1 26 = .ok (.bipush (-2), 2) := by decide +kernel
theorem eX7_put_28 : decode mX7_put.2.1 28 = .ok (.ireturn, 1) := by decide +kernel
theorem eX7_put_29 : decode mX7_put.2.1 29 = .ok (.aload_n 0, 1) := by decide +kernel
theorem eX7_put_30 : decode mX7_put.2.1 30 = .ok (.iload_n 1, 1) := by decide +kernel
theorem eX7_put_31 : decode mX7_put.2.1 31 = .ok (.iconst 5, 1) := by decide +kernel
theorem eX7_put_32 : decode mX7_put.2.1 32 = .ok (.iload_n 2, 1) := by decide +kernel
theorem eX7_put_33 : decode mX7_put.2.1 33 = .ok (.invokevirtual 109, 3) := by decide +kernel
theorem eX7_put_36 : decode mX7_put.2.1 36 = .ok (.pop, 1) := by decide +kernel
theorem eX7_put_37 : decode mX7_put.2.1 37 = .ok (.aload_n 0, 1) := by decide +kernel
theorem eX7_put_38 : decode mX7_put.2.1 38 = .ok (.iload_n 1, 1) := by decide +kernel
theorem eX7_put_39 : decode mX7_put.2.1 39 = .ok (.iconst 3, 1) := by decide +kernel
theorem eX7_put_40 : decode mX7_put.2.1 40 = .ok (.iload_n 3, 1) := by decide +kernel
theorem eX7_put_41 : decode mX7_put.2.1 41 = .ok (.invokevirtual 109, 3) := by decide +kernel
theorem eX7_put_44 : decode mX7_put.2.1 44 = .ok (.ireturn, 1) := by decide +kernel
theorem c_X7_put (hM : MAt h u U) {m : Nat} (hm : mOk U m) (t p s : Int32) (hd : 3 ≤ d) : Ct l G mX7_put yX7_put d 0 0 [.ref u, .int t, .int p, .int s] h (fun r h' => r = some (.int (sPut (U.1 1) m t p s).1) ∧ MAt h' u (mg U (sPut (U.1 1) m t p s).2) ∧ Same u 19 h h') := by
  refine ct_of (lv := [some (.ref u), some (.int t), some (.int p), some (.int s)]) (by decide +kernel) rfl (fun z => by cases z) (fun _ => rfl) (fun _ => Nat.le_of_ble_eq_true rfl) ?_
  refine aw_aload_n (pc' := 1) eX7_put_0 rfl rfl trivial ?_
  refine aw_iload_n (pc' := 2) eX7_put_1 rfl rfl ?_
  refine aw_callv (pc' := 5) (nn := 1) (c_X7_isOne (d := d - 1) hM _ (by omega)) eX7_put_2 rfl ⟨q897, q900, q62⟩ q899 q21 ⟨rfl, by decide +kernel, by decide +kernel, by decide +kernel⟩ rfl (by rw [hM.2.1]; exact ⟨rfl, rfl⟩) rfl ⟨by omega, by decide⟩ ⟨by omega, by omega⟩ rfl (Nat.le_of_ble_eq_true rfl) (fun v1 h2 hq3 => ?_)
  obtain ⟨rfl, rfl⟩ := hq3
  dsimp only [Option.toList, List.cons_append, List.nil_append]
  refine aw_if_eq (pc' := 8) (tgt := 15) eX7_put_5 rfl (by decide) (fun c_5 => ?_) (fun c_5 => ?_)
  · refine aw_iconst (pc' := 16) (v := -1) eX7_put_15 rfl (by decide) ?_
    refine aw_ret (v := some (.int _)) eX7_put_16 ⟨rfl, rfl⟩ (by omega) (by omega) rfl ?_
    try simp only [zb_eq0, Bool.not_eq_false, Bool.not_eq_true, decide_eq_true_eq, decide_eq_false_iff_not, Decidable.not_not, hm.1, mi] at c_5
    have hM9 := hM
    try simp only [mi, mup_mg, mg_mg, mg_1] at hM9
    refine ⟨?_, ?_, Same.rf⟩
    · simp [sPut, mi, hm.1, c_5]
    · simpa [sPut, mg_id, hm.1, c_5] using hM9
  · simp only [zb_eq0, Bool.not_eq_false, Bool.not_eq_true, decide_eq_true_eq, decide_eq_false_iff_not, Decidable.not_not] at c_5
    rw [hm.1] at c_5
    obtain ⟨i, hi, rfl⟩ := (bIn_one hm.2).mp c_5
    have hm6 := hm.2
    have cli : (nI i).toNatClampNeg = i := nI_clamp (by omega)
    have hx3 : (10 * nI i + 3).toNatClampNeg = 10 * i + 3 := ix10c (c := 3) (by omega)
    have hx5 : (10 * nI i + 5).toNatClampNeg = 10 * i + 5 := ix10c (c := 5) (by omega)
    refine aw_iload_n (pc' := 9) eX7_put_8 rfl rfl ?_
    refine aw_calls (pc' := 12) (nn := 1) (c_X7_isPlace (d := d - 1) _ (by omega)) eX7_put_9 rfl ⟨q1017, q1019, q62⟩ q1018 ⟨by decide +kernel, by decide +kernel, by decide +kernel⟩ rfl ⟨by omega, by decide⟩ ⟨by omega, by omega⟩ rfl (Nat.le_of_ble_eq_true rfl) (fun v4 h5 hq6 => ?_)
    obtain ⟨rfl, rfl⟩ := hq6
    dsimp only [Option.toList, List.cons_append, List.nil_append]
    refine aw_if_ne (pc' := 15) (tgt := 17) eX7_put_12 rfl (by decide) (fun c_12 => ?_) (fun c_12 => ?_)
    · refine aw_iload_n (pc' := 18) eX7_put_17 rfl rfl ?_
      refine aw_iconst (pc' := 19) (v := 2) eX7_put_18 rfl (by decide) ?_
      refine aw_iconst (pc' := 20) (v := 4) eX7_put_19 rfl (by decide) ?_
      refine aw_calls (pc' := 23) (nn := 3) (c_X7_isIn (d := d - 1) _ _ _ (by omega)) eX7_put_20 rfl ⟨q890, q892, q62⟩ q891 ⟨by decide +kernel, by decide +kernel, by decide +kernel⟩ rfl ⟨by omega, by decide⟩ ⟨by omega, by omega⟩ rfl (Nat.le_of_ble_eq_true rfl) (fun v7 h8 hq9 => ?_)
      obtain ⟨rfl, rfl⟩ := hq9
      dsimp only [Option.toList, List.cons_append, List.nil_append]
      refine aw_if_ne (pc' := 26) (tgt := 29) eX7_put_23 rfl (by decide) (fun c_23 => ?_) (fun c_23 => ?_)
      · refine aw_aload_n (pc' := 30) eX7_put_29 rfl rfl trivial ?_
        refine aw_iload_n (pc' := 31) eX7_put_30 rfl rfl ?_
        refine aw_iconst (pc' := 32) (v := 5) eX7_put_31 rfl (by decide) ?_
        refine aw_iload_n (pc' := 33) eX7_put_32 rfl rfl ?_
        refine aw_callv (pc' := 36) (nn := 3) (c_X7_change (d := d - 1) hM _ _ _ (show vp_in (10 * nI i + 5) 123 from ix10v (c := 5) (by omega)) (by omega)) eX7_put_33 rfl ⟨q986, q989, q62⟩ q988 q43 ⟨rfl, by decide +kernel, by decide +kernel, by decide +kernel⟩ rfl (by rw [hM.2.1]; exact ⟨rfl, rfl⟩) rfl ⟨by omega, by decide⟩ ⟨by omega, by omega⟩ rfl (Nat.le_of_ble_eq_true rfl) (fun v12 h13 hq14 => ?_)
        obtain ⟨rfl, hM10, hs11⟩ := hq14
        dsimp only [Option.toList, List.cons_append, List.nil_append]
        refine aw_pop (pc' := 37) eX7_put_36 rfl rfl ?_
        refine aw_aload_n (pc' := 38) eX7_put_37 rfl rfl trivial ?_
        refine aw_iload_n (pc' := 39) eX7_put_38 rfl rfl ?_
        refine aw_iconst (pc' := 40) (v := 3) eX7_put_39 rfl (by decide) ?_
        refine aw_iload_n (pc' := 41) eX7_put_40 rfl rfl ?_
        refine aw_callv (pc' := 44) (nn := 3) (c_X7_change (d := d - 1) hM10 _ _ _ (show vp_in (10 * nI i + 3) 123 from ix10v (c := 3) (by omega)) (by omega)) eX7_put_41 rfl ⟨q986, q989, q62⟩ q988 q43 ⟨rfl, by decide +kernel, by decide +kernel, by decide +kernel⟩ rfl (by rw [hM10.2.1]; exact ⟨rfl, rfl⟩) rfl ⟨by omega, by decide⟩ ⟨by omega, by omega⟩ rfl (Nat.le_of_ble_eq_true rfl) (fun v17 h18 hq19 => ?_)
        obtain ⟨rfl, hM15, hs16⟩ := hq19
        have hT20 := hs11.tr hs16
        dsimp only [Option.toList, List.cons_append, List.nil_append]
        refine aw_ret (v := some (.int _)) eX7_put_44 ⟨rfl, rfl⟩ (by omega) (by omega) rfl ?_
        try simp only [zb_eq0, Bool.not_eq_false, Bool.not_eq_true, decide_eq_true_eq, decide_eq_false_iff_not, Decidable.not_not, hm.1, mi, hx3, hx5] at c_5 c_12 c_23
        have hM9 := hM15
        try simp only [mi, hx3, hx5, mup_mg, mg_mg, mg_1] at hM9
        refine ⟨?_, ?_, hT20⟩
        · simp [sPut, mi, hm.1, hx3, hx5, cli, mup1, upd_if, c_5, c_12, c_23]
        · simpa [sPut, mg_id, hm.1, hx3, hx5, cli, mup1, upd_if, c_5, c_12, c_23] using hM9
      · refine aw_bipush (pc' := 28) (v := -2) eX7_put_26 rfl (by decide) ?_
        refine aw_ret (v := some (.int _)) eX7_put_28 ⟨rfl, rfl⟩ (by omega) (by omega) rfl ?_
        try simp only [zb_eq0, Bool.not_eq_false, Bool.not_eq_true, decide_eq_true_eq, decide_eq_false_iff_not, Decidable.not_not, hm.1, mi, hx3, hx5] at c_5 c_12 c_23
        have hM9 := hM
        try simp only [mi, hx3, hx5, mup_mg, mg_mg, mg_1] at hM9
        refine ⟨?_, ?_, Same.rf⟩
        · simp [sPut, mi, hm.1, hx3, hx5, cli, c_5, c_12, c_23]
        · simpa [sPut, mg_id, hm.1, hx3, hx5, cli, c_5, c_12, c_23] using hM9
    · refine aw_iconst (pc' := 16) (v := -1) eX7_put_15 rfl (by decide) ?_
      refine aw_ret (v := some (.int _)) eX7_put_16 ⟨rfl, rfl⟩ (by omega) (by omega) rfl ?_
      try simp only [zb_eq0, Bool.not_eq_false, Bool.not_eq_true, decide_eq_true_eq, decide_eq_false_iff_not, Decidable.not_not, hm.1, mi, hx3, hx5] at c_5 c_12
      have hM9 := hM
      try simp only [mi, hx3, hx5, mup_mg, mg_mg, mg_1] at hM9
      refine ⟨?_, ?_, Same.rf⟩
      · simp [sPut, mi, hm.1, hx3, hx5, cli, c_5, c_12]
      · simpa [sPut, mg_id, hm.1, hx3, hx5, cli, c_5, c_12] using hM9
def sRow (g : Nat → Int32) (m : Nat) (t p n : Int32) : Int32 × (Nat → Int32) :=
  if bIn t 0 (nI m - 1) = true ∧ bIn p 0 3 = true then if bIn n 0 9 = true then if g (10 * t.toNatClampNeg) = 6 then (g (10 * t.toNatClampNeg + 6 + p.toNatClampNeg), upd g (10 * t.toNatClampNeg + 6 + p.toNatClampNeg) n) else (-3, g) else (-2, g) else (-1, g)
abbrev mX7_row : MT := (RX7, cX7_row, 4, (some .int), false)
theorem eX7_row_0 : decode mX7_row.2.1 0 = .ok (.aload_n 0, 1) := by decide +kernel
theorem eX7_row_1 : decode mX7_row.2.1 1 = .ok (.iload_n 1, 1) := by decide +kernel
theorem eX7_row_2 : decode mX7_row.2.1 2 = .ok (.invokevirtual 88, 3) := by decide +kernel
theorem eX7_row_5 : decode mX7_row.2.1 5 = .ok (.ifCond .eq 12, 3) := by decide +kernel
theorem eX7_row_8 : decode mX7_row.2.1 8 = .ok (.iload_n 2, 1) := by decide +kernel
theorem eX7_row_9 : decode mX7_row.2.1 9 = .ok (.iconst 0, 1) := by decide +kernel
theorem eX7_row_10 : decode mX7_row.2.1 10 = .ok (.iconst 3, 1) := by decide +kernel
theorem eX7_row_11 : decode mX7_row.2.1 11 = .ok (.invokestatic 80, 3) := by decide +kernel
theorem eX7_row_14 : decode mX7_row.2.1 14 = .ok (.ifCond .ne 5, 3) := by decide +kernel
theorem eX7_row_17 : decode mX7_row.2.1 17 = .ok (.iconst (-1), 1) := by decide +kernel
theorem eX7_row_18 : decode mX7_row.2.1 18 = .ok (.ireturn, 1) := by decide +kernel
theorem eX7_row_19 : decode mX7_row.2.1 19 = .ok (.iload_n 3, 1) := by decide +kernel
theorem eX7_row_20 : decode mX7_row.2.1 20 = .ok (.iconst 0, 1) := by decide +kernel
theorem eX7_row_21 : decode mX7_row.2.1 21 = .ok (.bipush 9, 2) := by decide +kernel
theorem eX7_row_23 : decode mX7_row.2.1 23 = .ok (.invokestatic 80, 3) := by decide +kernel
theorem eX7_row_26 : decode mX7_row.2.1 26 = .ok (.ifCond .ne 6, 3) := by decide +kernel
theorem eX7_row_29 : decode mX7_row.2.1 29 = .ok (.bipush (-2), 2) := by decide +kernel
theorem eX7_row_31 : decode mX7_row.2.1 31 = .ok (.ireturn, 1) := by decide +kernel
theorem eX7_row_32 : decode mX7_row.2.1 32 = .ok (.aload_n 0, 1) := by decide +kernel
theorem eX7_row_33 : decode mX7_row.2.1 33 = .ok (.iload_n 1, 1) := by decide +kernel
theorem eX7_row_34 : decode mX7_row.2.1 34 = .ok (.iconst 0, 1) := by decide +kernel
theorem eX7_row_35 : decode mX7_row.2.1 35 = .ok (.invokevirtual 84, 3) := by decide +kernel
theorem eX7_row_38 : decode mX7_row.2.1 38 = .ok (.bipush 6, 2) := by decide +kernel
theorem eX7_row_40 : decode mX7_row.2.1 40 = .ok (.if_icmp .ne 16, 3) := by decide +kernel
theorem eX7_row_43 : decode mX7_row.2.1 43 = .ok (.aload_n 0, 1) := by decide +kernel
theorem eX7_row_44 : decode mX7_row.2.1 44 = .ok (.iload_n 1, 1) := by decide +kernel
theorem eX7_row_45 : decode mX7_row.2.1 45 = .ok (.bipush 6, 2) := by decide +kernel
theorem eX7_row_47 : decode mX7_row.2.1 47 = .ok (.iload_n 2, 1) := by decide +kernel
theorem eX7_row_48 : decode mX7_row.2.1 48 = .ok (.iadd, 1) := by decide +kernel
theorem eX7_row_49 : decode mX7_row.2.1 49 = .ok (.iload_n 3, 1) := by decide +kernel
theorem eX7_row_50 : decode mX7_row.2.1 50 = .ok (.invokevirtual 109, 3) := by decide +kernel
theorem eX7_row_53 : decode mX7_row.2.1 53 = .ok (.goto 5, 3) := by decide +kernel
theorem eX7_row_56 : decode mX7_row.2.1 56 = .ok (.bipush (-3), 2) := by decide +kernel
theorem eX7_row_58 : decode mX7_row.2.1 58 = .ok (.ireturn, 1) := by decide +kernel
theorem c_X7_row (hM : MAt h u U) {m : Nat} (hm : mOk U m) (t p n : Int32) (hd : 3 ≤ d) : Ct l G mX7_row yX7_row d 0 0 [.ref u, .int t, .int p, .int n] h (fun r h' => r = some (.int (sRow (U.1 1) m t p n).1) ∧ MAt h' u (mg U (sRow (U.1 1) m t p n).2) ∧ Same u 19 h h') := by
  refine ct_of (lv := [some (.ref u), some (.int t), some (.int p), some (.int n)]) (by decide +kernel) rfl (fun z => by cases z) (fun _ => rfl) (fun _ => Nat.le_of_ble_eq_true rfl) ?_
  refine aw_aload_n (pc' := 1) eX7_row_0 rfl rfl trivial ?_
  refine aw_iload_n (pc' := 2) eX7_row_1 rfl rfl ?_
  refine aw_callv (pc' := 5) (nn := 1) (c_X7_isOne (d := d - 1) hM _ (by omega)) eX7_row_2 rfl ⟨q897, q900, q62⟩ q899 q21 ⟨rfl, by decide +kernel, by decide +kernel, by decide +kernel⟩ rfl (by rw [hM.2.1]; exact ⟨rfl, rfl⟩) rfl ⟨by omega, by decide⟩ ⟨by omega, by omega⟩ rfl (Nat.le_of_ble_eq_true rfl) (fun v1 h2 hq3 => ?_)
  obtain ⟨rfl, rfl⟩ := hq3
  dsimp only [Option.toList, List.cons_append, List.nil_append]
  refine aw_if_eq (pc' := 8) (tgt := 17) eX7_row_5 rfl (by decide) (fun c_5 => ?_) (fun c_5 => ?_)
  · refine aw_iconst (pc' := 18) (v := -1) eX7_row_17 rfl (by decide) ?_
    refine aw_ret (v := some (.int _)) eX7_row_18 ⟨rfl, rfl⟩ (by omega) (by omega) rfl ?_
    try simp only [zb_eq0, Bool.not_eq_false, Bool.not_eq_true, decide_eq_true_eq, decide_eq_false_iff_not, Decidable.not_not, hm.1, mi] at c_5
    have hM9 := hM
    try simp only [mi, mup_mg, mg_mg, mg_1] at hM9
    refine ⟨?_, ?_, Same.rf⟩
    · simp [sRow, mi, hm.1, c_5]
    · simpa [sRow, mg_id, hm.1, c_5] using hM9
  · simp only [zb_eq0, Bool.not_eq_false, Bool.not_eq_true, decide_eq_true_eq, decide_eq_false_iff_not, Decidable.not_not] at c_5
    rw [hm.1] at c_5
    obtain ⟨i, hi, rfl⟩ := (bIn_one hm.2).mp c_5
    have hm6 := hm.2
    have cli : (nI i).toNatClampNeg = i := nI_clamp (by omega)
    have hx0 : (10 * nI i + 0).toNatClampNeg = 10 * i := ix10c (c := 0) (by omega)
    refine aw_iload_n (pc' := 9) eX7_row_8 rfl rfl ?_
    refine aw_iconst (pc' := 10) (v := 0) eX7_row_9 rfl (by decide) ?_
    refine aw_iconst (pc' := 11) (v := 3) eX7_row_10 rfl (by decide) ?_
    refine aw_calls (pc' := 14) (nn := 3) (c_X7_isIn (d := d - 1) _ _ _ (by omega)) eX7_row_11 rfl ⟨q890, q892, q62⟩ q891 ⟨by decide +kernel, by decide +kernel, by decide +kernel⟩ rfl ⟨by omega, by decide⟩ ⟨by omega, by omega⟩ rfl (Nat.le_of_ble_eq_true rfl) (fun v4 h5 hq6 => ?_)
    obtain ⟨rfl, rfl⟩ := hq6
    dsimp only [Option.toList, List.cons_append, List.nil_append]
    refine aw_if_ne (pc' := 17) (tgt := 19) eX7_row_14 rfl (by decide) (fun c_14 => ?_) (fun c_14 => ?_)
    · simp only [zb_eq0, Bool.not_eq_false, Bool.not_eq_true, decide_eq_true_eq, decide_eq_false_iff_not, Decidable.not_not] at c_14
      obtain ⟨b, hb, rfl⟩ := (bIn_lit (N := 3) (by omega)).mp c_14
      have clb : (nI b).toNatClampNeg = b := nI_clamp (by omega)
      have eb : (6 : Int32) + nI b = nI (6 + b) := nI_add 6 b
      have hx6 : (10 * nI i + (6 + nI b)).toNatClampNeg = 10 * i + 6 + b := by rw [eb]; exact (ix10c (c := 6 + b) (by omega)).trans (by omega)
      have hv6 : vp_in (10 * nI i + (6 + nI b)) 123 := by rw [eb]; exact ix10v (c := 6 + b) (by omega)
      refine aw_iload_n (pc' := 20) eX7_row_19 rfl rfl ?_
      refine aw_iconst (pc' := 21) (v := 0) eX7_row_20 rfl (by decide) ?_
      refine aw_bipush (pc' := 23) (v := 9) eX7_row_21 rfl (by decide) ?_
      refine aw_calls (pc' := 26) (nn := 3) (c_X7_isIn (d := d - 1) _ _ _ (by omega)) eX7_row_23 rfl ⟨q890, q892, q62⟩ q891 ⟨by decide +kernel, by decide +kernel, by decide +kernel⟩ rfl ⟨by omega, by decide⟩ ⟨by omega, by omega⟩ rfl (Nat.le_of_ble_eq_true rfl) (fun v7 h8 hq9 => ?_)
      obtain ⟨rfl, rfl⟩ := hq9
      dsimp only [Option.toList, List.cons_append, List.nil_append]
      refine aw_if_ne (pc' := 29) (tgt := 32) eX7_row_26 rfl (by decide) (fun c_26 => ?_) (fun c_26 => ?_)
      · refine aw_aload_n (pc' := 33) eX7_row_32 rfl rfl trivial ?_
        refine aw_iload_n (pc' := 34) eX7_row_33 rfl rfl ?_
        refine aw_iconst (pc' := 35) (v := 0) eX7_row_34 rfl (by decide) ?_
        refine aw_callv (pc' := 38) (nn := 2) (c_X7_one (d := d - 1) hM _ _ (show vp_in (10 * nI i + 0) 123 from ix10v (c := 0) (by omega)) (by omega)) eX7_row_35 rfl ⟨q901, q904, q62⟩ q903 q22 ⟨rfl, by decide +kernel, by decide +kernel, by decide +kernel⟩ rfl (by rw [hM.2.1]; exact ⟨rfl, rfl⟩) rfl ⟨by omega, by decide⟩ ⟨by omega, by omega⟩ rfl (Nat.le_of_ble_eq_true rfl) (fun v10 h11 hq12 => ?_)
        obtain ⟨rfl, rfl⟩ := hq12
        dsimp only [Option.toList, List.cons_append, List.nil_append]
        refine aw_bipush (pc' := 40) (v := 6) eX7_row_38 rfl (by decide) ?_
        refine aw_icmp_ne (pc' := 43) (tgt := 56) eX7_row_40 rfl (by decide) (fun c_40 => ?_) (fun c_40 => ?_)
        · refine aw_bipush (pc' := 58) (v := -3) eX7_row_56 rfl (by decide) ?_
          refine aw_ret (v := some (.int _)) eX7_row_58 ⟨rfl, rfl⟩ (by omega) (by omega) rfl ?_
          try simp only [zb_eq0, Bool.not_eq_false, Bool.not_eq_true, decide_eq_true_eq, decide_eq_false_iff_not, Decidable.not_not, hm.1, mi, hx0, hx6] at c_5 c_14 c_26 c_40
          have hM9 := hM
          try simp only [mi, hx0, hx6, mup_mg, mg_mg, mg_1] at hM9
          refine ⟨?_, ?_, Same.rf⟩
          · simp [sRow, mi, hm.1, hx0, hx6, cli, clb, c_5, c_14, c_26, c_40]
          · simpa [sRow, mg_id, hm.1, hx0, hx6, cli, clb, c_5, c_14, c_26, c_40] using hM9
        · refine aw_aload_n (pc' := 44) eX7_row_43 rfl rfl trivial ?_
          refine aw_iload_n (pc' := 45) eX7_row_44 rfl rfl ?_
          refine aw_bipush (pc' := 47) (v := 6) eX7_row_45 rfl (by decide) ?_
          refine aw_iload_n (pc' := 48) eX7_row_47 rfl rfl ?_
          refine aw_iadd (pc' := 49) eX7_row_48 rfl ?_
          refine aw_iload_n (pc' := 50) eX7_row_49 rfl rfl ?_
          refine aw_callv (pc' := 53) (nn := 3) (c_X7_change (d := d - 1) hM _ _ _ hv6 (by omega)) eX7_row_50 rfl ⟨q986, q989, q62⟩ q988 q43 ⟨rfl, by decide +kernel, by decide +kernel, by decide +kernel⟩ rfl (by rw [hM.2.1]; exact ⟨rfl, rfl⟩) rfl ⟨by omega, by decide⟩ ⟨by omega, by omega⟩ rfl (Nat.le_of_ble_eq_true rfl) (fun v15 h16 hq17 => ?_)
          obtain ⟨rfl, hM13, hs14⟩ := hq17
          dsimp only [Option.toList, List.cons_append, List.nil_append]
          refine aw_goto eX7_row_53 (by decide) (tgt := 58) ?_
          refine aw_ret (v := some (.int _)) eX7_row_58 ⟨rfl, rfl⟩ (by omega) (by omega) rfl ?_
          try simp only [zb_eq0, Bool.not_eq_false, Bool.not_eq_true, decide_eq_true_eq, decide_eq_false_iff_not, Decidable.not_not, hm.1, mi, hx0, hx6] at c_5 c_14 c_26 c_40
          have hM9 := hM13
          try simp only [mi, hx0, hx6, mup_mg, mg_mg, mg_1] at hM9
          refine ⟨?_, ?_, hs14⟩
          · simp [sRow, mi, hm.1, hx0, hx6, cli, clb, c_5, c_14, c_26, c_40]
          · simpa [sRow, mg_id, hm.1, hx0, hx6, cli, clb, c_5, c_14, c_26, c_40] using hM9
      · refine aw_bipush (pc' := 31) (v := -2) eX7_row_29 rfl (by decide) ?_
        refine aw_ret (v := some (.int _)) eX7_row_31 ⟨rfl, rfl⟩ (by omega) (by omega) rfl ?_
        try simp only [zb_eq0, Bool.not_eq_false, Bool.not_eq_true, decide_eq_true_eq, decide_eq_false_iff_not, Decidable.not_not, hm.1, mi, hx0, hx6] at c_5 c_14 c_26
        have hM9 := hM
        try simp only [mi, hx0, hx6, mup_mg, mg_mg, mg_1] at hM9
        refine ⟨?_, ?_, Same.rf⟩
        · simp [sRow, mi, hm.1, hx0, hx6, cli, clb, c_5, c_14, c_26]
        · simpa [sRow, mg_id, hm.1, hx0, hx6, cli, clb, c_5, c_14, c_26] using hM9
    · refine aw_iconst (pc' := 18) (v := -1) eX7_row_17 rfl (by decide) ?_
      refine aw_ret (v := some (.int _)) eX7_row_18 ⟨rfl, rfl⟩ (by omega) (by omega) rfl ?_
      try simp only [zb_eq0, Bool.not_eq_false, Bool.not_eq_true, decide_eq_true_eq, decide_eq_false_iff_not, Decidable.not_not, hm.1, mi, hx0] at c_5 c_14
      have hM9 := hM
      try simp only [mi, hx0, mup_mg, mg_mg, mg_1] at hM9
      refine ⟨?_, ?_, Same.rf⟩
      · simp [sRow, mi, hm.1, hx0, cli, c_5, c_14]
      · simpa [sRow, mg_id, hm.1, hx0, cli, c_5, c_14] using hM9
def sSea (g : Nat → Int32) (t n : Int32) : Int32 × (Nat → Int32) :=
  if bIn t 0 5 = true then if bIn n 0 (if t = 0 then 4095 else if t = 1 then 11 else 9) = true then (g (61 + t.toNatClampNeg), upd g (61 + t.toNatClampNeg) n) else (-2, g) else (-1, g)
abbrev mX7_sea : MT := (RX7, cX7_sea, 4, (some .int), false)
theorem eX7_sea_0 : decode mX7_sea.2.1 0 = .ok (.iload_n 1, 1) := by decide +kernel
theorem eX7_sea_1 : decode mX7_sea.2.1 1 = .ok (.iconst 0, 1) := by decide +kernel
theorem eX7_sea_2 : decode mX7_sea.2.1 2 = .ok (.iconst 5, 1) := by decide +kernel
theorem eX7_sea_3 : decode mX7_sea.2.1 3 = .ok (.invokestatic 80, 3) := by decide +kernel
theorem eX7_sea_6 : decode mX7_sea.2.1 6 = .ok (.ifCond .ne 5, 3) := by decide +kernel
theorem eX7_sea_9 : decode mX7_sea.2.1 9 = .ok (.iconst (-1), 1) := by decide +kernel
theorem eX7_sea_10 : decode mX7_sea.2.1 10 = .ok (.ireturn, 1) := by decide +kernel
theorem eX7_sea_11 : decode mX7_sea.2.1 11 = .ok (.iload_n 2, 1) := by decide +kernel
theorem eX7_sea_12 : decode mX7_sea.2.1 12 = .ok (.iconst 0, 1) := by decide +kernel
theorem eX7_sea_13 : decode mX7_sea.2.1 13 = .ok (.iload_n 1, 1) := by decide +kernel
theorem eX7_sea_14 : decode mX7_sea.2.1 14 = .ok (.ifCond .ne 9, 3) := by decide +kernel
theorem eX7_sea_17 : decode mX7_sea.2.1 17 = .ok (.sipush 4095, 3) := by decide +kernel
theorem eX7_sea_20 : decode mX7_sea.2.1 20 = .ok (.goto 15, 3) := by decide +kernel
theorem eX7_sea_23 : decode mX7_sea.2.1 23 = .ok (.iload_n 1, 1) := by decide +kernel
theorem eX7_sea_24 : decode mX7_sea.2.1 24 = .ok (.iconst 1, 1) := by decide +kernel
theorem eX7_sea_25 : decode mX7_sea.2.1 25 = .ok (.if_icmp .ne 8, 3) := by decide +kernel
theorem eX7_sea_28 : decode mX7_sea.2.1 28 = .ok (.bipush 11, 2) := by decide +kernel
theorem eX7_sea_30 : decode mX7_sea.2.1 30 = .ok (.goto 5, 3) := by decide +kernel
theorem eX7_sea_33 : decode mX7_sea.2.1 33 = .ok (.bipush 9, 2) := by decide +kernel
theorem eX7_sea_35 : decode mX7_sea.2.1 35 = .ok (.invokestatic 80, 3) := by decide +kernel
theorem eX7_sea_38 : decode mX7_sea.2.1 38 = .ok (.ifCond .ne 6, 3) := by decide +kernel
theorem eX7_sea_41 : decode mX7_sea.2.1 41 = .ok (.bipush (-2), 2) := by decide +kernel
theorem eX7_sea_43 : decode mX7_sea.2.1 43 = .ok (.ireturn, 1) := by decide +kernel
theorem eX7_sea_44 : decode mX7_sea.2.1 44 = .ok (.aload_n 0, 1) := by decide +kernel
theorem eX7_sea_45 : decode mX7_sea.2.1 45 = .ok (.getfield 15, 3) := by decide +kernel
theorem eX7_sea_48 : decode mX7_sea.2.1 48 = .ok (.bipush 61, 2) := by decide +kernel
theorem eX7_sea_50 : decode mX7_sea.2.1 50 = .ok (.iload_n 1, 1) := by decide +kernel
theorem eX7_sea_51 : decode mX7_sea.2.1 51 = .ok (.iadd, 1) := by decide +kernel
theorem eX7_sea_52 : decode mX7_sea.2.1 52 = .ok (.iaload, 1) := by decide +kernel
theorem eX7_sea_53 : decode mX7_sea.2.1 53 = .ok (.istore_n 3, 1) := by decide +kernel
theorem eX7_sea_54 : decode mX7_sea.2.1 54 = .ok (.aload_n 0, 1) := by decide +kernel
theorem eX7_sea_55 : decode mX7_sea.2.1 55 = .ok (.getfield 15, 3) := by decide +kernel
theorem eX7_sea_58 : decode mX7_sea.2.1 58 = .ok (.bipush 61, 2) := by decide +kernel
theorem eX7_sea_60 : decode mX7_sea.2.1 60 = .ok (.iload_n 1, 1) := by decide +kernel
theorem eX7_sea_61 : decode mX7_sea.2.1 61 = .ok (.iadd, 1) := by decide +kernel
theorem eX7_sea_62 : decode mX7_sea.2.1 62 = .ok (.iload_n 2, 1) := by decide +kernel
theorem eX7_sea_63 : decode mX7_sea.2.1 63 = .ok (.iastore, 1) := by decide +kernel
theorem eX7_sea_64 : decode mX7_sea.2.1 64 = .ok (.iload_n 3, 1) := by decide +kernel
theorem eX7_sea_65 : decode mX7_sea.2.1 65 = .ok (.ireturn, 1) := by decide +kernel
theorem c_X7_sea (hM : MAt h u U) {m : Nat} (hm : mOk U m) (t n : Int32) (hd : 2 ≤ d) : Ct l G mX7_sea yX7_sea d 0 0 [.ref u, .int t, .int n] h (fun r h' => r = some (.int (sSea (U.1 1) t n).1) ∧ MAt h' u (mg U (sSea (U.1 1) t n).2) ∧ Same u 19 h h') := by
  refine ct_of (lv := [some (.ref u), some (.int t), some (.int n), none]) (by decide +kernel) rfl (fun z => by cases z) (fun _ => rfl) (fun _ => Nat.le_of_ble_eq_true rfl) ?_
  refine aw_iload_n (pc' := 1) eX7_sea_0 rfl rfl ?_
  refine aw_iconst (pc' := 2) (v := 0) eX7_sea_1 rfl (by decide) ?_
  refine aw_iconst (pc' := 3) (v := 5) eX7_sea_2 rfl (by decide) ?_
  refine aw_calls (pc' := 6) (nn := 3) (c_X7_isIn (d := d - 1) _ _ _ (by omega)) eX7_sea_3 rfl ⟨q890, q892, q62⟩ q891 ⟨by decide +kernel, by decide +kernel, by decide +kernel⟩ rfl ⟨by omega, by decide⟩ ⟨by omega, by omega⟩ rfl (Nat.le_of_ble_eq_true rfl) (fun v1 h2 hq3 => ?_)
  obtain ⟨rfl, rfl⟩ := hq3
  dsimp only [Option.toList, List.cons_append, List.nil_append]
  refine aw_if_ne (pc' := 9) (tgt := 11) eX7_sea_6 rfl (by decide) (fun c_6 => ?_) (fun c_6 => ?_)
  · refine aw_iload_n (pc' := 12) eX7_sea_11 rfl rfl ?_
    refine aw_iconst (pc' := 13) (v := 0) eX7_sea_12 rfl (by decide) ?_
    refine aw_iload_n (pc' := 14) eX7_sea_13 rfl rfl ?_
    refine aw_if_ne (pc' := 17) (tgt := 23) eX7_sea_14 rfl (by decide) (fun c_14 => ?_) (fun c_14 => ?_)
    · refine aw_iload_n (pc' := 24) eX7_sea_23 rfl rfl ?_
      refine aw_iconst (pc' := 25) (v := 1) eX7_sea_24 rfl (by decide) ?_
      refine aw_icmp_ne (pc' := 28) (tgt := 33) eX7_sea_25 rfl (by decide) (fun c_25 => ?_) (fun c_25 => ?_)
      · refine aw_bipush (pc' := 35) (v := 9) eX7_sea_33 rfl (by decide) ?_
        refine aw_calls (pc' := 38) (nn := 3) (c_X7_isIn (d := d - 1) _ _ _ (by omega)) eX7_sea_35 rfl ⟨q890, q892, q62⟩ q891 ⟨by decide +kernel, by decide +kernel, by decide +kernel⟩ rfl ⟨by omega, by decide⟩ ⟨by omega, by omega⟩ rfl (Nat.le_of_ble_eq_true rfl) (fun v4 h5 hq6 => ?_)
        obtain ⟨rfl, rfl⟩ := hq6
        dsimp only [Option.toList, List.cons_append, List.nil_append]
        refine aw_if_ne (pc' := 41) (tgt := 44) eX7_sea_38 rfl (by decide) (fun c_38 => ?_) (fun c_38 => ?_)
        · simp only [zb_eq0, Bool.not_eq_false, Bool.not_eq_true, decide_eq_true_eq, decide_eq_false_iff_not, Decidable.not_not] at c_6
          obtain ⟨b, hb, hb2⟩ := (bIn_lit (N := 5) (by omega)).mp c_6
          have clb : t.toNatClampNeg = b := by rw [hb2]; exact nI_clamp (by omega)
          have hx6 : (61 + t).toNatClampNeg = 61 + b := by rw [hb2]; exact (ixa (c := 61) (by omega)).1
          have hv6 : vp_in (61 + t) 123 := by rw [hb2]; exact (ixa (c := 61) (by omega)).2
          refine aw_aload_n (pc' := 45) eX7_sea_44 rfl rfl trivial ?_
          refine aw_Mref (pc' := 48) (kf := 0) 1 hM eX7_sea_45 rfl (by decide) rfl q789 ?_
          refine aw_bipush (pc' := 50) (v := 61) eX7_sea_48 rfl (by decide) ?_
          refine aw_iload_n (pc' := 51) eX7_sea_50 rfl rfl ?_
          refine aw_iadd (pc' := 52) eX7_sea_51 rfl ?_
          refine aw_MaldC (pc' := 53) 1 (61 + b) hM eX7_sea_52 rfl (by decide) hv6 hx6 ?_
          refine aw_istore_n (pc' := 54) eX7_sea_53 rfl (by decide) ?_
          dsimp only [zst, zst2, zcut]
          refine aw_aload_n (pc' := 55) eX7_sea_54 rfl rfl trivial ?_
          refine aw_Mref (pc' := 58) (kf := 0) 1 hM eX7_sea_55 rfl (by decide) rfl q789 ?_
          refine aw_bipush (pc' := 60) (v := 61) eX7_sea_58 rfl (by decide) ?_
          refine aw_iload_n (pc' := 61) eX7_sea_60 rfl rfl ?_
          refine aw_iadd (pc' := 62) eX7_sea_61 rfl ?_
          refine aw_iload_n (pc' := 63) eX7_sea_62 rfl rfl ?_
          refine aw_MastC (pc' := 64) 1 (61 + b) hM eX7_sea_63 rfl (by decide) hv6 hx6 (fun h9 hM7 hs8 => ?_)
          refine aw_iload_n (pc' := 65) eX7_sea_64 rfl rfl ?_
          refine aw_ret (v := some (.int _)) eX7_sea_65 ⟨rfl, rfl⟩ (by omega) (by omega) rfl ?_
          try simp only [zb_eq0, Bool.not_eq_false, Bool.not_eq_true, decide_eq_true_eq, decide_eq_false_iff_not, Decidable.not_not] at c_6 c_14 c_25 c_38
          have e38 : bIn n 0 (if t = 0 then 4095 else if t = 1 then 11 else 9) = true := by first | (rw [if_pos c_14]; exact c_38) | (rw [if_neg c_14, if_pos c_25]; exact c_38) | (rw [if_neg c_14, if_neg c_25]; exact c_38)
          rw [sSea, if_pos c_6, if_pos e38, clb]
          exact ⟨rfl, hM7, hs8⟩
        · refine aw_bipush (pc' := 43) (v := -2) eX7_sea_41 rfl (by decide) ?_
          refine aw_ret (v := some (.int _)) eX7_sea_43 ⟨rfl, rfl⟩ (by omega) (by omega) rfl ?_
          try simp only [zb_eq0, Bool.not_eq_false, Bool.not_eq_true, decide_eq_true_eq, decide_eq_false_iff_not, Decidable.not_not] at c_6 c_14 c_25 c_38
          have e38 : bIn n 0 (if t = 0 then 4095 else if t = 1 then 11 else 9) = false := by first | (rw [if_pos c_14]; exact c_38) | (rw [if_neg c_14, if_pos c_25]; exact c_38) | (rw [if_neg c_14, if_neg c_25]; exact c_38)
          rw [sSea, if_pos c_6, if_neg (by rw [e38]; decide)]
          exact ⟨rfl, by rw [mg_id]; exact hM, Same.rf⟩
      · refine aw_bipush (pc' := 30) (v := 11) eX7_sea_28 rfl (by decide) ?_
        refine aw_goto eX7_sea_30 (by decide) (tgt := 35) ?_
        refine aw_calls (pc' := 38) (nn := 3) (c_X7_isIn (d := d - 1) _ _ _ (by omega)) eX7_sea_35 rfl ⟨q890, q892, q62⟩ q891 ⟨by decide +kernel, by decide +kernel, by decide +kernel⟩ rfl ⟨by omega, by decide⟩ ⟨by omega, by omega⟩ rfl (Nat.le_of_ble_eq_true rfl) (fun v10 h11 hq12 => ?_)
        obtain ⟨rfl, rfl⟩ := hq12
        dsimp only [Option.toList, List.cons_append, List.nil_append]
        refine aw_if_ne (pc' := 41) (tgt := 44) eX7_sea_38 rfl (by decide) (fun c_38 => ?_) (fun c_38 => ?_)
        · simp only [zb_eq0, Bool.not_eq_false, Bool.not_eq_true, decide_eq_true_eq, decide_eq_false_iff_not, Decidable.not_not] at c_6
          obtain ⟨b, hb, hb2⟩ := (bIn_lit (N := 5) (by omega)).mp c_6
          have clb : t.toNatClampNeg = b := by rw [hb2]; exact nI_clamp (by omega)
          have hx6 : (61 + t).toNatClampNeg = 61 + b := by rw [hb2]; exact (ixa (c := 61) (by omega)).1
          have hv6 : vp_in (61 + t) 123 := by rw [hb2]; exact (ixa (c := 61) (by omega)).2
          refine aw_aload_n (pc' := 45) eX7_sea_44 rfl rfl trivial ?_
          refine aw_Mref (pc' := 48) (kf := 0) 1 hM eX7_sea_45 rfl (by decide) rfl q789 ?_
          refine aw_bipush (pc' := 50) (v := 61) eX7_sea_48 rfl (by decide) ?_
          refine aw_iload_n (pc' := 51) eX7_sea_50 rfl rfl ?_
          refine aw_iadd (pc' := 52) eX7_sea_51 rfl ?_
          refine aw_MaldC (pc' := 53) 1 (61 + b) hM eX7_sea_52 rfl (by decide) hv6 hx6 ?_
          refine aw_istore_n (pc' := 54) eX7_sea_53 rfl (by decide) ?_
          dsimp only [zst, zst2, zcut]
          refine aw_aload_n (pc' := 55) eX7_sea_54 rfl rfl trivial ?_
          refine aw_Mref (pc' := 58) (kf := 0) 1 hM eX7_sea_55 rfl (by decide) rfl q789 ?_
          refine aw_bipush (pc' := 60) (v := 61) eX7_sea_58 rfl (by decide) ?_
          refine aw_iload_n (pc' := 61) eX7_sea_60 rfl rfl ?_
          refine aw_iadd (pc' := 62) eX7_sea_61 rfl ?_
          refine aw_iload_n (pc' := 63) eX7_sea_62 rfl rfl ?_
          refine aw_MastC (pc' := 64) 1 (61 + b) hM eX7_sea_63 rfl (by decide) hv6 hx6 (fun h15 hM13 hs14 => ?_)
          refine aw_iload_n (pc' := 65) eX7_sea_64 rfl rfl ?_
          refine aw_ret (v := some (.int _)) eX7_sea_65 ⟨rfl, rfl⟩ (by omega) (by omega) rfl ?_
          try simp only [zb_eq0, Bool.not_eq_false, Bool.not_eq_true, decide_eq_true_eq, decide_eq_false_iff_not, Decidable.not_not] at c_6 c_14 c_25 c_38
          have e38 : bIn n 0 (if t = 0 then 4095 else if t = 1 then 11 else 9) = true := by first | (rw [if_pos c_14]; exact c_38) | (rw [if_neg c_14, if_pos c_25]; exact c_38) | (rw [if_neg c_14, if_neg c_25]; exact c_38)
          rw [sSea, if_pos c_6, if_pos e38, clb]
          exact ⟨rfl, hM13, hs14⟩
        · refine aw_bipush (pc' := 43) (v := -2) eX7_sea_41 rfl (by decide) ?_
          refine aw_ret (v := some (.int _)) eX7_sea_43 ⟨rfl, rfl⟩ (by omega) (by omega) rfl ?_
          try simp only [zb_eq0, Bool.not_eq_false, Bool.not_eq_true, decide_eq_true_eq, decide_eq_false_iff_not, Decidable.not_not] at c_6 c_14 c_25 c_38
          have e38 : bIn n 0 (if t = 0 then 4095 else if t = 1 then 11 else 9) = false := by first | (rw [if_pos c_14]; exact c_38) | (rw [if_neg c_14, if_pos c_25]; exact c_38) | (rw [if_neg c_14, if_neg c_25]; exact c_38)
          rw [sSea, if_pos c_6, if_neg (by rw [e38]; decide)]
          exact ⟨rfl, by rw [mg_id]; exact hM, Same.rf⟩
    · refine aw_sipush (pc' := 20) (v := 4095) eX7_sea_17 rfl (by decide) ?_
      refine aw_goto eX7_sea_20 (by decide) (tgt := 35) ?_
      refine aw_calls (pc' := 38) (nn := 3) (c_X7_isIn (d := d - 1) _ _ _ (by omega)) eX7_sea_35 rfl ⟨q890, q892, q62⟩ q891 ⟨by decide +kernel, by decide +kernel, by decide +kernel⟩ rfl ⟨by omega, by decide⟩ ⟨by omega, by omega⟩ rfl (Nat.le_of_ble_eq_true rfl) (fun v16 h17 hq18 => ?_)
      obtain ⟨rfl, rfl⟩ := hq18
      dsimp only [Option.toList, List.cons_append, List.nil_append]
      refine aw_if_ne (pc' := 41) (tgt := 44) eX7_sea_38 rfl (by decide) (fun c_38 => ?_) (fun c_38 => ?_)
      · simp only [zb_eq0, Bool.not_eq_false, Bool.not_eq_true, decide_eq_true_eq, decide_eq_false_iff_not, Decidable.not_not] at c_6
        obtain ⟨b, hb, hb2⟩ := (bIn_lit (N := 5) (by omega)).mp c_6
        have clb : t.toNatClampNeg = b := by rw [hb2]; exact nI_clamp (by omega)
        have hx6 : (61 + t).toNatClampNeg = 61 + b := by rw [hb2]; exact (ixa (c := 61) (by omega)).1
        have hv6 : vp_in (61 + t) 123 := by rw [hb2]; exact (ixa (c := 61) (by omega)).2
        refine aw_aload_n (pc' := 45) eX7_sea_44 rfl rfl trivial ?_
        refine aw_Mref (pc' := 48) (kf := 0) 1 hM eX7_sea_45 rfl (by decide) rfl q789 ?_
        refine aw_bipush (pc' := 50) (v := 61) eX7_sea_48 rfl (by decide) ?_
        refine aw_iload_n (pc' := 51) eX7_sea_50 rfl rfl ?_
        refine aw_iadd (pc' := 52) eX7_sea_51 rfl ?_
        refine aw_MaldC (pc' := 53) 1 (61 + b) hM eX7_sea_52 rfl (by decide) hv6 hx6 ?_
        refine aw_istore_n (pc' := 54) eX7_sea_53 rfl (by decide) ?_
        dsimp only [zst, zst2, zcut]
        refine aw_aload_n (pc' := 55) eX7_sea_54 rfl rfl trivial ?_
        refine aw_Mref (pc' := 58) (kf := 0) 1 hM eX7_sea_55 rfl (by decide) rfl q789 ?_
        refine aw_bipush (pc' := 60) (v := 61) eX7_sea_58 rfl (by decide) ?_
        refine aw_iload_n (pc' := 61) eX7_sea_60 rfl rfl ?_
        refine aw_iadd (pc' := 62) eX7_sea_61 rfl ?_
        refine aw_iload_n (pc' := 63) eX7_sea_62 rfl rfl ?_
        refine aw_MastC (pc' := 64) 1 (61 + b) hM eX7_sea_63 rfl (by decide) hv6 hx6 (fun h21 hM19 hs20 => ?_)
        refine aw_iload_n (pc' := 65) eX7_sea_64 rfl rfl ?_
        refine aw_ret (v := some (.int _)) eX7_sea_65 ⟨rfl, rfl⟩ (by omega) (by omega) rfl ?_
        try simp only [zb_eq0, Bool.not_eq_false, Bool.not_eq_true, decide_eq_true_eq, decide_eq_false_iff_not, Decidable.not_not] at c_6 c_14 c_38
        have e38 : bIn n 0 (if t = 0 then 4095 else if t = 1 then 11 else 9) = true := by first | (rw [if_pos c_14]; exact c_38) | (rw [if_neg c_14, if_pos c_25]; exact c_38) | (rw [if_neg c_14, if_neg c_25]; exact c_38)
        rw [sSea, if_pos c_6, if_pos e38, clb]
        exact ⟨rfl, hM19, hs20⟩
      · refine aw_bipush (pc' := 43) (v := -2) eX7_sea_41 rfl (by decide) ?_
        refine aw_ret (v := some (.int _)) eX7_sea_43 ⟨rfl, rfl⟩ (by omega) (by omega) rfl ?_
        try simp only [zb_eq0, Bool.not_eq_false, Bool.not_eq_true, decide_eq_true_eq, decide_eq_false_iff_not, Decidable.not_not] at c_6 c_14 c_38
        have e38 : bIn n 0 (if t = 0 then 4095 else if t = 1 then 11 else 9) = false := by first | (rw [if_pos c_14]; exact c_38) | (rw [if_neg c_14, if_pos c_25]; exact c_38) | (rw [if_neg c_14, if_neg c_25]; exact c_38)
        rw [sSea, if_pos c_6, if_neg (by rw [e38]; decide)]
        exact ⟨rfl, by rw [mg_id]; exact hM, Same.rf⟩
  · refine aw_iconst (pc' := 10) (v := -1) eX7_sea_9 rfl (by decide) ?_
    refine aw_ret (v := some (.int _)) eX7_sea_10 ⟨rfl, rfl⟩ (by omega) (by omega) rfl ?_
    try simp only [zb_eq0, Bool.not_eq_false, Bool.not_eq_true, decide_eq_true_eq, decide_eq_false_iff_not, Decidable.not_not, hm.1, mi] at c_6
    have hM9 := hM
    try simp only [mi, mup_mg, mg_mg, mg_1] at hM9
    refine ⟨?_, ?_, Same.rf⟩
    · simp [sSea, mi, hm.1, c_6]
    · simpa [sSea, mg_id, hm.1, c_6] using hM9
def sSee (g : Nat → Int32) (m a : Nat) (t n s : Int32) : Int32 × (Nat → Int32) :=
  if t = -1 then (0, upd g 69 0) else if bIn t 0 (nI m - 1) = true then if bIn n 0 12 = true ∧ bIn s 0 4 = true then if nI a = 5 then (-4, g) else
    (upd (upd (upd (upd g (70 + 3 * a) t) (71 + 3 * a) n) (72 + 3 * a) s) 69 (upd (upd (upd g (70 + 3 * a) t) (71 + 3 * a) n) (72 + 3 * a) s 69 + 1) 69, upd (upd (upd (upd g (70 + 3 * a) t) (71 + 3 * a) n) (72 + 3 * a) s) 69 (upd (upd (upd g (70 + 3 * a) t) (71 + 3 * a) n) (72 + 3 * a) s 69 + 1)) else (-2, g) else (-1, g)
abbrev mX7_see : MT := (RX7, cX7_see, 5, (some .int), false)
theorem eX7_see_0 : decode mX7_see.2.1 0 = .ok (.iload_n 1, 1) := by decide +kernel
theorem eX7_see_1 : decode mX7_see.2.1 1 = .ok (.iconst (-1), 1) := by decide +kernel
theorem eX7_see_2 : decode mX7_see.2.1 2 = .ok (.if_icmp .ne 13, 3) := by decide +kernel
theorem eX7_see_5 : decode mX7_see.2.1 5 = .ok (.aload_n 0, 1) := by decide +kernel
theorem eX7_see_6 : decode mX7_see.2.1 6 = .ok (.getfield 15, 3) := by decide +kernel
theorem eX7_see_9 : decode mX7_see.2.1 9 = .ok (.bipush 69, 2) := by decide +kernel
theorem eX7_see_11 : decode mX7_see.2.1 11 = .ok (.iconst 0, 1) := by decide +kernel
theorem eX7_see_12 : decode mX7_see.2.1 12 = .ok (.iastore, 1) := by decide +kernel
theorem eX7_see_13 : decode mX7_see.2.1 13 = .ok (.iconst 0, 1) := by decide +kernel
theorem eX7_see_14 : decode mX7_see.2.1 14 = .ok (.ireturn, 1) := by decide +kernel
theorem eX7_see_15 : decode mX7_see.2.1 15 = .ok (.aload_n 0, 1) := by decide +kernel
theorem eX7_see_16 : decode mX7_see.2.1 16 = .ok (.iload_n 1, 1) := by decide +kernel
theorem eX7_see_17 : decode mX7_see.2.1 17 = .ok (.invokevirtual 88, 3) := by decide +kernel
theorem eX7_see_20 : decode mX7_see.2.1 20 = .ok (.ifCond .ne 5, 3) := by decide +kernel
theorem eX7_see_23 : decode mX7_see.2.1 23 = .ok (.iconst (-1), 1) := by decide +kernel
theorem eX7_see_24 : decode mX7_see.2.1 24 = .ok (.ireturn, 1) := by decide +kernel
theorem eX7_see_25 : decode mX7_see.2.1 25 = .ok (.iload_n 2, 1) := by decide +kernel
theorem eX7_see_26 : decode mX7_see.2.1 26 = .ok (.iconst 0, 1) := by decide +kernel
theorem eX7_see_27 : decode mX7_see.2.1 27 = .ok (.bipush 12, 2) := by decide +kernel
theorem eX7_see_29 : decode mX7_see.2.1 29 = .ok (.invokestatic 80, 3) := by decide +kernel
theorem eX7_see_32 : decode mX7_see.2.1 32 = .ok (.ifCond .eq 12, 3) := by decide +kernel
theorem eX7_see_35 : decode mX7_see.2.1 35 = .ok (.iload_n 3, 1) := by decide +kernel
theorem eX7_see_36 : decode mX7_see.2.1 36 = .ok (.iconst 0, 1) := by decide +kernel
theorem eX7_see_37 : decode mX7_see.2.1 37 = .ok (.iconst 4, 1) := by decide +kernel
theorem eX7_see_38 : decode mX7_see.2.1 38 = .ok (.invokestatic 80, 3) := by decide +kernel
theorem eX7_see_41 : decode mX7_see.2.1 41 = .ok (.ifCond .ne 6, 3) := by decide +kernel
theorem eX7_see_44 : decode mX7_see.2.1 44 = .ok (.bipush (-2), 2) := by decide +kernel
theorem eX7_see_46 : decode mX7_see.2.1 46 = .ok (.ireturn, 1) := by decide +kernel
theorem eX7_see_47 : decode mX7_see.2.1 47 = .ok (.aload_n 0, 1) := by decide +kernel
theorem eX7_see_48 : decode mX7_see.2.1 48 = .ok (.getfield 15, 3) := by decide +kernel
theorem eX7_see_51 : decode mX7_see.2.1 51 = .ok (.bipush 69, 2) := by decide +kernel
theorem eX7_see_53 : decode mX7_see.2.1 53 = .ok (.iaload, 1) := by decide +kernel
theorem eX7_see_54 : decode mX7_see.2.1 54 = .ok (.iconst 5, 1) := by decide +kernel
theorem eX7_see_55 : decode mX7_see.2.1 55 = .ok (.if_icmp .ne 6, 3) := by decide +kernel
theorem eX7_see_58 : decode mX7_see.2.1 58 = .ok (.bipush (-4), 2) := by decide +kernel
theorem eX7_see_60 : decode mX7_see.2.1 60 = .ok (.ireturn, 1) := by decide +kernel
theorem eX7_see_61 : decode mX7_see.2.1 61 = .ok (.bipush 70, 2) := by decide +kernel
theorem eX7_see_63 : decode mX7_see.2.1 63 = .ok (.iconst 3, 1) := by decide +kernel
theorem eX7_see_64 : decode mX7_see.2.1 64 = .ok (.aload_n 0, 1) := by decide +kernel
theorem eX7_see_65 : decode mX7_see.2.1 65 = .ok (.getfield 15, 3) := by decide +kernel
theorem eX7_see_68 : decode mX7_see.2.1 68 = .ok (.bipush 69, 2) := by decide +kernel
theorem eX7_see_70 : decode mX7_see.2.1 70 = .ok (.iaload, 1) := by decide +kernel
theorem eX7_see_71 : decode mX7_see.2.1 71 = .ok (.imul, 1) := by decide +kernel
theorem eX7_see_72 : decode mX7_see.2.1 72 = .ok (.iadd, 1) := by decide +kernel
theorem eX7_see_73 : decode mX7_see.2.1 73 = .ok (.istore 4, 2) := by decide +kernel
theorem eX7_see_75 : decode mX7_see.2.1 75 = .ok (.aload_n 0, 1) := by decide +kernel
theorem eX7_see_76 : decode mX7_see.2.1 76 = .ok (.getfield 15, 3) := by decide +kernel
theorem eX7_see_79 : decode mX7_see.2.1 79 = .ok (.iload 4, 2) := by decide +kernel
theorem eX7_see_81 : decode mX7_see.2.1 81 = .ok (.iload_n 1, 1) := by decide +kernel
theorem eX7_see_82 : decode mX7_see.2.1 82 = .ok (.iastore, 1) := by decide +kernel
theorem eX7_see_83 : decode mX7_see.2.1 83 = .ok (.aload_n 0, 1) := by decide +kernel
theorem eX7_see_84 : decode mX7_see.2.1 84 = .ok (.getfield 15, 3) := by decide +kernel
theorem eX7_see_87 : decode mX7_see.2.1 87 = .ok (.iload 4, 2) := by decide +kernel
theorem eX7_see_89 : decode mX7_see.2.1 89 = .ok (.iconst 1, 1) := by decide +kernel
theorem eX7_see_90 : decode mX7_see.2.1 90 = .ok (.iadd, 1) := by decide +kernel
theorem eX7_see_91 : decode mX7_see.2.1 91 = .ok (.iload_n 2, 1) := by decide +kernel
theorem eX7_see_92 : decode mX7_see.2.1 92 = .ok (.iastore, 1) := by decide +kernel
theorem eX7_see_93 : decode mX7_see.2.1 93 = .ok (.aload_n 0, 1) := by decide +kernel
theorem eX7_see_94 : decode mX7_see.2.1 94 = .ok (.getfield 15, 3) := by decide +kernel
theorem eX7_see_97 : decode mX7_see.2.1 97 = .ok (.iload 4, 2) := by decide +kernel
theorem eX7_see_99 : decode mX7_see.2.1 99 = .ok (.iconst 2, 1) := by decide +kernel
theorem eX7_see_100 : decode mX7_see.2.1 100 = .ok (.iadd, 1) := by decide +kernel
theorem eX7_see_101 : decode mX7_see.2.1 101 = .ok (.iload_n 3, 1) := by decide +kernel
theorem eX7_see_102 : decode mX7_see.2.1 102 = .ok (.iastore, 1) := by decide +kernel
theorem eX7_see_103 : decode mX7_see.2.1 103 = .ok (.aload_n 0, 1) := by decide +kernel
theorem eX7_see_104 : decode mX7_see.2.1 104 = .ok (.getfield 15, 3) := by decide +kernel
theorem eX7_see_107 : decode mX7_see.2.1 107 = .ok (.bipush 69, 2) := by decide +kernel
theorem eX7_see_109 : decode mX7_see.2.1 109 = .ok (.dup2, 1) := by decide +kernel
theorem eX7_see_110 : decode mX7_see.2.1 110 = .ok (.iaload, 1) := by decide +kernel
theorem eX7_see_111 : decode mX7_see.2.1 111 = .ok (.iconst 1, 1) := by decide +kernel
theorem eX7_see_112 : decode mX7_see.2.1 112 = .ok (.iadd, 1) := by decide +kernel
theorem eX7_see_113 : decode mX7_see.2.1 113 = .ok (.iastore, 1) := by decide +kernel
theorem eX7_see_114 : decode mX7_see.2.1 114 = .ok (.aload_n 0, 1) := by decide +kernel
theorem eX7_see_115 : decode mX7_see.2.1 115 = .ok (.getfield 15, 3) := by decide +kernel
theorem eX7_see_118 : decode mX7_see.2.1 118 = .ok (.bipush 69, 2) := by decide +kernel
theorem eX7_see_120 : decode mX7_see.2.1 120 = .ok (.iaload, 1) := by decide +kernel
theorem eX7_see_121 : decode mX7_see.2.1 121 = .ok (.ireturn, 1) := by decide +kernel
theorem c_X7_see (hM : MAt h u U) {m : Nat} (hm : mOk U m) {a : Nat} (ha : a ≤ 5) (hs : U.1 1 69 = nI a) (t n s : Int32) (hd : 2 ≤ d) : Ct l G mX7_see yX7_see d 0 0 [.ref u, .int t, .int n, .int s] h (fun r h' => r = some (.int (sSee (U.1 1) m a t n s).1) ∧ MAt h' u (mg U (sSee (U.1 1) m a t n s).2) ∧ Same u 19 h h') := by
  refine ct_of (lv := [some (.ref u), some (.int t), some (.int n), some (.int s), none]) (by decide +kernel) rfl (fun z => by cases z) (fun _ => rfl) (fun _ => Nat.le_of_ble_eq_true rfl) ?_
  refine aw_iload_n (pc' := 1) eX7_see_0 rfl rfl ?_
  refine aw_iconst (pc' := 2) (v := -1) eX7_see_1 rfl (by decide) ?_
  refine aw_icmp_ne (pc' := 5) (tgt := 15) eX7_see_2 rfl (by decide) (fun c_2 => ?_) (fun c_2 => ?_)
  · refine aw_aload_n (pc' := 16) eX7_see_15 rfl rfl trivial ?_
    refine aw_iload_n (pc' := 17) eX7_see_16 rfl rfl ?_
    refine aw_callv (pc' := 20) (nn := 1) (c_X7_isOne (d := d - 1) hM _ (by omega)) eX7_see_17 rfl ⟨q897, q900, q62⟩ q899 q21 ⟨rfl, by decide +kernel, by decide +kernel, by decide +kernel⟩ rfl (by rw [hM.2.1]; exact ⟨rfl, rfl⟩) rfl ⟨by omega, by decide⟩ ⟨by omega, by omega⟩ rfl (Nat.le_of_ble_eq_true rfl) (fun v1 h2 hq3 => ?_)
    obtain ⟨rfl, rfl⟩ := hq3
    dsimp only [Option.toList, List.cons_append, List.nil_append]
    refine aw_if_ne (pc' := 23) (tgt := 25) eX7_see_20 rfl (by decide) (fun c_20 => ?_) (fun c_20 => ?_)
    · refine aw_iload_n (pc' := 26) eX7_see_25 rfl rfl ?_
      refine aw_iconst (pc' := 27) (v := 0) eX7_see_26 rfl (by decide) ?_
      refine aw_bipush (pc' := 29) (v := 12) eX7_see_27 rfl (by decide) ?_
      refine aw_calls (pc' := 32) (nn := 3) (c_X7_isIn (d := d - 1) _ _ _ (by omega)) eX7_see_29 rfl ⟨q890, q892, q62⟩ q891 ⟨by decide +kernel, by decide +kernel, by decide +kernel⟩ rfl ⟨by omega, by decide⟩ ⟨by omega, by omega⟩ rfl (Nat.le_of_ble_eq_true rfl) (fun v4 h5 hq6 => ?_)
      obtain ⟨rfl, rfl⟩ := hq6
      dsimp only [Option.toList, List.cons_append, List.nil_append]
      refine aw_if_eq (pc' := 35) (tgt := 44) eX7_see_32 rfl (by decide) (fun c_32 => ?_) (fun c_32 => ?_)
      · refine aw_bipush (pc' := 46) (v := -2) eX7_see_44 rfl (by decide) ?_
        refine aw_ret (v := some (.int _)) eX7_see_46 ⟨rfl, rfl⟩ (by omega) (by omega) rfl ?_
        try simp only [zb_eq0, Bool.not_eq_false, Bool.not_eq_true, decide_eq_true_eq, decide_eq_false_iff_not, Decidable.not_not, hm.1, mi] at c_2 c_20 c_32
        have hM9 := hM
        try simp only [mi, mup_mg, mg_mg, mg_1] at hM9
        refine ⟨?_, ?_, Same.rf⟩
        · simp [sSee, mi, hm.1, c_2, c_20, c_32]
        · simpa [sSee, mg_id, hm.1, c_2, c_20, c_32] using hM9
      · refine aw_iload_n (pc' := 36) eX7_see_35 rfl rfl ?_
        refine aw_iconst (pc' := 37) (v := 0) eX7_see_36 rfl (by decide) ?_
        refine aw_iconst (pc' := 38) (v := 4) eX7_see_37 rfl (by decide) ?_
        refine aw_calls (pc' := 41) (nn := 3) (c_X7_isIn (d := d - 1) _ _ _ (by omega)) eX7_see_38 rfl ⟨q890, q892, q62⟩ q891 ⟨by decide +kernel, by decide +kernel, by decide +kernel⟩ rfl ⟨by omega, by decide⟩ ⟨by omega, by omega⟩ rfl (Nat.le_of_ble_eq_true rfl) (fun v7 h8 hq9 => ?_)
        obtain ⟨rfl, rfl⟩ := hq9
        dsimp only [Option.toList, List.cons_append, List.nil_append]
        refine aw_if_ne (pc' := 44) (tgt := 47) eX7_see_41 rfl (by decide) (fun c_41 => ?_) (fun c_41 => ?_)
        · refine aw_aload_n (pc' := 48) eX7_see_47 rfl rfl trivial ?_
          refine aw_Mref (pc' := 51) (kf := 0) 1 hM eX7_see_48 rfl (by decide) rfl q789 ?_
          refine aw_bipush (pc' := 53) (v := 69) eX7_see_51 rfl (by decide) ?_
          refine aw_MaldC (pc' := 54) 1 69 hM eX7_see_53 rfl (by decide) (by unfold vp_in; decide) (by decide) ?_
          refine aw_iconst (pc' := 55) (v := 5) eX7_see_54 rfl (by decide) ?_
          refine aw_icmp_ne (pc' := 58) (tgt := 61) eX7_see_55 rfl (by decide) (fun c_55 => ?_) (fun c_55 => ?_)
          · rw [hs] at c_55
            have ha5 : a < 5 := by
              rcases Nat.lt_or_ge a 5 with z | z
              · exact z
              · exact absurd (by rw [show a = 5 by omega]; rfl) c_55
            have hx6 : (70 + 3 * U.1 1 69).toNatClampNeg = 70 + 3 * a := by rw [hs]; exact (ix3 (c := 70) (b := 3) (by omega)).1
            have hv6 : vp_in (70 + 3 * U.1 1 69) 123 := by rw [hs]; exact (ix3 (c := 70) (b := 3) (by omega)).2
            have e7 : (70 + 3 * U.1 1 69) + 1 = nI (71 + 3 * a) := by rw [hs]; show nI 70 + nI 3 * nI a + nI 1 = _; rw [pk_mul, nI_add, nI_add]; congr 1; omega
            have e8 : (70 + 3 * U.1 1 69) + 2 = nI (72 + 3 * a) := by rw [hs]; show nI 70 + nI 3 * nI a + nI 2 = _; rw [pk_mul, nI_add, nI_add]; congr 1; omega
            refine aw_bipush (pc' := 63) (v := 70) eX7_see_61 rfl (by decide) ?_
            refine aw_iconst (pc' := 64) (v := 3) eX7_see_63 rfl (by decide) ?_
            refine aw_aload_n (pc' := 65) eX7_see_64 rfl rfl trivial ?_
            refine aw_Mref (pc' := 68) (kf := 0) 1 hM eX7_see_65 rfl (by decide) rfl q789 ?_
            refine aw_bipush (pc' := 70) (v := 69) eX7_see_68 rfl (by decide) ?_
            refine aw_MaldC (pc' := 71) 1 69 hM eX7_see_70 rfl (by decide) (by unfold vp_in; decide) (by decide) ?_
            refine aw_imul (pc' := 72) eX7_see_71 rfl ?_
            refine aw_iadd (pc' := 73) eX7_see_72 rfl ?_
            refine aw_istore (pc' := 75) eX7_see_73 rfl (by decide) ?_
            dsimp only [zst, zst2, zcut]
            refine aw_aload_n (pc' := 76) eX7_see_75 rfl rfl trivial ?_
            refine aw_Mref (pc' := 79) (kf := 0) 1 hM eX7_see_76 rfl (by decide) rfl q789 ?_
            refine aw_iload (pc' := 81) eX7_see_79 rfl rfl ?_
            refine aw_iload_n (pc' := 82) eX7_see_81 rfl rfl ?_
            refine aw_MastC (pc' := 83) 1 (70 + 3 * a) hM eX7_see_82 rfl (by decide) hv6 hx6 (fun h12 hM10 hs11 => ?_)
            refine aw_aload_n (pc' := 84) eX7_see_83 rfl rfl trivial ?_
            refine aw_Mref (pc' := 87) (kf := 0) 1 hM10 eX7_see_84 rfl (by decide) rfl q789 ?_
            refine aw_iload (pc' := 89) eX7_see_87 rfl rfl ?_
            refine aw_iconst (pc' := 90) (v := 1) eX7_see_89 rfl (by decide) ?_
            refine aw_iadd (pc' := 91) eX7_see_90 rfl ?_
            refine aw_iload_n (pc' := 92) eX7_see_91 rfl rfl ?_
            refine aw_MastC (pc' := 93) 1 (71 + 3 * a) hM10 eX7_see_92 rfl (by decide) (show vp_in _ 123 by rw [e7]; exact vp_in_nI (by omega) (by omega)) (by rw [e7]; exact nI_clamp (by omega)) (fun h15 hM13 hs14 => ?_)
            have hT16 := hs11.tr hs14
            refine aw_aload_n (pc' := 94) eX7_see_93 rfl rfl trivial ?_
            refine aw_Mref (pc' := 97) (kf := 0) 1 hM13 eX7_see_94 rfl (by decide) rfl q789 ?_
            refine aw_iload (pc' := 99) eX7_see_97 rfl rfl ?_
            refine aw_iconst (pc' := 100) (v := 2) eX7_see_99 rfl (by decide) ?_
            refine aw_iadd (pc' := 101) eX7_see_100 rfl ?_
            refine aw_iload_n (pc' := 102) eX7_see_101 rfl rfl ?_
            refine aw_MastC (pc' := 103) 1 (72 + 3 * a) hM13 eX7_see_102 rfl (by decide) (show vp_in _ 123 by rw [e8]; exact vp_in_nI (by omega) (by omega)) (by rw [e8]; exact nI_clamp (by omega)) (fun h19 hM17 hs18 => ?_)
            have hT20 := hT16.tr hs18
            refine aw_aload_n (pc' := 104) eX7_see_103 rfl rfl trivial ?_
            refine aw_Mref (pc' := 107) (kf := 0) 1 hM17 eX7_see_104 rfl (by decide) rfl q789 ?_
            refine aw_bipush (pc' := 109) (v := 69) eX7_see_107 rfl (by decide) ?_
            refine aw_dup2 (pc' := 110) eX7_see_109 rfl rfl rfl ?_
            refine aw_MaldC (pc' := 111) 1 69 hM17 eX7_see_110 rfl (by decide) (by unfold vp_in; decide) (by decide) ?_
            refine aw_iconst (pc' := 112) (v := 1) eX7_see_111 rfl (by decide) ?_
            refine aw_iadd (pc' := 113) eX7_see_112 rfl ?_
            refine aw_MastC (pc' := 114) 1 69 hM17 eX7_see_113 rfl (by decide) (by unfold vp_in; decide) (by decide) (fun h23 hM21 hs22 => ?_)
            have hT24 := hT20.tr hs22
            refine aw_aload_n (pc' := 115) eX7_see_114 rfl rfl trivial ?_
            refine aw_Mref (pc' := 118) (kf := 0) 1 hM21 eX7_see_115 rfl (by decide) rfl q789 ?_
            refine aw_bipush (pc' := 120) (v := 69) eX7_see_118 rfl (by decide) ?_
            refine aw_MaldC (pc' := 121) 1 69 hM21 eX7_see_120 rfl (by decide) (by unfold vp_in; decide) (by decide) ?_
            refine aw_ret (v := some (.int _)) eX7_see_121 ⟨rfl, rfl⟩ (by omega) (by omega) rfl ?_
            try simp only [zb_eq0, Bool.not_eq_false, Bool.not_eq_true, decide_eq_true_eq, decide_eq_false_iff_not, Decidable.not_not, hm.1, mi, hs] at c_2 c_20 c_32 c_41 c_55
            have hM9 := hM21
            try simp only [mi, hs, mup_mg, mg_mg, mg_1] at hM9
            refine ⟨?_, ?_, hT24⟩
            · simp [sSee, mi, hm.1, hs, mup1, c_2, c_20, c_32, c_41, c_55]
            · simpa [sSee, mg_id, hm.1, hs, mup1, c_2, c_20, c_32, c_41, c_55] using hM9
          · refine aw_bipush (pc' := 60) (v := -4) eX7_see_58 rfl (by decide) ?_
            refine aw_ret (v := some (.int _)) eX7_see_60 ⟨rfl, rfl⟩ (by omega) (by omega) rfl ?_
            try simp only [zb_eq0, Bool.not_eq_false, Bool.not_eq_true, decide_eq_true_eq, decide_eq_false_iff_not, Decidable.not_not, hm.1, mi, hs] at c_2 c_20 c_32 c_41 c_55
            have hM9 := hM
            try simp only [mi, hs, mup_mg, mg_mg, mg_1] at hM9
            refine ⟨?_, ?_, Same.rf⟩
            · simp [sSee, mi, hm.1, hs, c_2, c_20, c_32, c_41, c_55]
            · simpa [sSee, mg_id, hm.1, hs, c_2, c_20, c_32, c_41, c_55] using hM9
        · refine aw_bipush (pc' := 46) (v := -2) eX7_see_44 rfl (by decide) ?_
          refine aw_ret (v := some (.int _)) eX7_see_46 ⟨rfl, rfl⟩ (by omega) (by omega) rfl ?_
          try simp only [zb_eq0, Bool.not_eq_false, Bool.not_eq_true, decide_eq_true_eq, decide_eq_false_iff_not, Decidable.not_not, hm.1, mi] at c_2 c_20 c_32 c_41
          have hM9 := hM
          try simp only [mi, mup_mg, mg_mg, mg_1] at hM9
          refine ⟨?_, ?_, Same.rf⟩
          · simp [sSee, mi, hm.1, c_2, c_20, c_32, c_41]
          · simpa [sSee, mg_id, hm.1, c_2, c_20, c_32, c_41] using hM9
    · refine aw_iconst (pc' := 24) (v := -1) eX7_see_23 rfl (by decide) ?_
      refine aw_ret (v := some (.int _)) eX7_see_24 ⟨rfl, rfl⟩ (by omega) (by omega) rfl ?_
      try simp only [zb_eq0, Bool.not_eq_false, Bool.not_eq_true, decide_eq_true_eq, decide_eq_false_iff_not, Decidable.not_not, hm.1, mi] at c_2 c_20
      have hM9 := hM
      try simp only [mi, mup_mg, mg_mg, mg_1] at hM9
      refine ⟨?_, ?_, Same.rf⟩
      · simp [sSee, mi, hm.1, c_2, c_20]
      · simpa [sSee, mg_id, hm.1, c_2, c_20] using hM9
  · refine aw_aload_n (pc' := 6) eX7_see_5 rfl rfl trivial ?_
    refine aw_Mref (pc' := 9) (kf := 0) 1 hM eX7_see_6 rfl (by decide) rfl q789 ?_
    refine aw_bipush (pc' := 11) (v := 69) eX7_see_9 rfl (by decide) ?_
    refine aw_iconst (pc' := 12) (v := 0) eX7_see_11 rfl (by decide) ?_
    refine aw_MastC (pc' := 13) 1 69 hM eX7_see_12 rfl (by decide) (by unfold vp_in; decide) (by decide) (fun h27 hM25 hs26 => ?_)
    refine aw_iconst (pc' := 14) (v := 0) eX7_see_13 rfl (by decide) ?_
    refine aw_ret (v := some (.int _)) eX7_see_14 ⟨rfl, rfl⟩ (by omega) (by omega) rfl ?_
    try simp only [zb_eq0, Bool.not_eq_false, Bool.not_eq_true, decide_eq_true_eq, decide_eq_false_iff_not, Decidable.not_not, hm.1, mi] at c_2
    have hM9 := hM25
    try simp only [mi, mup_mg, mg_mg, mg_1] at hM9
    refine ⟨?_, ?_, hs26⟩
    · simp [sSee, mi, hm.1, c_2]
    · simpa [sSee, mg_id, hm.1, c_2] using hM9
def sBook (g : Nat → Int32) (m a : Nat) (t p : Int32) : Int32 × (Nat → Int32) :=
  if t = -1 then (0, upd g 106 0) else if bIn t 0 (nI m - 1) = true ∧ bIn p 0 11 = true then if nI a = 8 then (-4, g) else
    (upd (upd (upd g (107 + 2 * a) t) (108 + 2 * a) p) 106 (upd (upd g (107 + 2 * a) t) (108 + 2 * a) p 106 + 1) 106, upd (upd (upd g (107 + 2 * a) t) (108 + 2 * a) p) 106 (upd (upd g (107 + 2 * a) t) (108 + 2 * a) p 106 + 1)) else (-1, g)
abbrev mX7_book : MT := (RX7, cX7_book, 3, (some .int), false)
theorem eX7_book_0 : decode mX7_book.2.1 0 = .ok (.iload_n 1, 1) := by decide +kernel
theorem eX7_book_1 : decode mX7_book.2.1 1 = .ok (.iconst (-1), 1) := by decide +kernel
theorem eX7_book_2 : decode mX7_book.2.1 2 = .ok (.if_icmp .ne 13, 3) := by decide +kernel
theorem eX7_book_5 : decode mX7_book.2.1 5 = .ok (.aload_n 0, 1) := by decide +kernel
theorem eX7_book_6 : decode mX7_book.2.1 6 = .ok (.getfield 15, 3) := by decide +kernel
theorem eX7_book_9 : decode mX7_book.2.1 9 = .ok (.bipush 106, 2) := by decide +kernel
theorem eX7_book_11 : decode mX7_book.2.1 11 = .ok (.iconst 0, 1) := by decide +kernel
theorem eX7_book_12 : decode mX7_book.2.1 12 = .ok (.iastore, 1) := by decide +kernel
theorem eX7_book_13 : decode mX7_book.2.1 13 = .ok (.iconst 0, 1) := by decide +kernel
theorem eX7_book_14 : decode mX7_book.2.1 14 = .ok (.ireturn, 1) := by decide +kernel
theorem eX7_book_15 : decode mX7_book.2.1 15 = .ok (.aload_n 0, 1) := by decide +kernel
theorem eX7_book_16 : decode mX7_book.2.1 16 = .ok (.iload_n 1, 1) := by decide +kernel
theorem eX7_book_17 : decode mX7_book.2.1 17 = .ok (.invokevirtual 88, 3) := by decide +kernel
theorem eX7_book_20 : decode mX7_book.2.1 20 = .ok (.ifCond .eq 10, 3) := by decide +kernel
theorem eX7_book_23 : decode mX7_book.2.1 23 = .ok (.iload_n 2, 1) := by decide +kernel
theorem eX7_book_24 : decode mX7_book.2.1 24 = .ok (.invokestatic 120, 3) := by decide +kernel
theorem eX7_book_27 : decode mX7_book.2.1 27 = .ok (.ifCond .ne 5, 3) := by decide +kernel
theorem eX7_book_30 : decode mX7_book.2.1 30 = .ok (.iconst (-1), 1) := by decide +kernel
theorem eX7_book_31 : decode mX7_book.2.1 31 = .ok (.ireturn, 1) := by decide +kernel
theorem eX7_book_32 : decode mX7_book.2.1 32 = .ok (.aload_n 0, 1) := by decide +kernel
theorem eX7_book_33 : decode mX7_book.2.1 33 = .ok (.getfield 15, 3) := by decide +kernel
theorem eX7_book_36 : decode mX7_book.2.1 36 = .ok (.bipush 106, 2) := by decide +kernel
theorem eX7_book_38 : decode mX7_book.2.1 38 = .ok (.iaload, 1) := by decide +kernel
theorem eX7_book_39 : decode mX7_book.2.1 39 = .ok (.bipush 8, 2) := by decide +kernel
theorem eX7_book_41 : decode mX7_book.2.1 41 = .ok (.if_icmp .ne 6, 3) := by decide +kernel
theorem eX7_book_44 : decode mX7_book.2.1 44 = .ok (.bipush (-4), 2) := by decide +kernel
theorem eX7_book_46 : decode mX7_book.2.1 46 = .ok (.ireturn, 1) := by decide +kernel
theorem eX7_book_47 : decode mX7_book.2.1 47 = .ok (.aload_n 0, 1) := by decide +kernel
theorem eX7_book_48 : decode mX7_book.2.1 48 = .ok (.getfield 15, 3) := by decide +kernel
theorem eX7_book_51 : decode mX7_book.2.1 51 = .ok (.bipush 107, 2) := by decide +kernel
theorem eX7_book_53 : decode mX7_book.2.1 53 = .ok (.iconst 2, 1) := by decide +kernel
theorem eX7_book_54 : decode mX7_book.2.1 54 = .ok (.aload_n 0, 1) := by decide +kernel
theorem eX7_book_55 : decode mX7_book.2.1 55 = .ok (.getfield 15, 3) := by decide +kernel
theorem eX7_book_58 : decode mX7_book.2.1 58 = .ok (.bipush 106, 2) := by decide +kernel
theorem eX7_book_60 : decode mX7_book.2.1 60 = .ok (.iaload, 1) := by decide +kernel
theorem eX7_book_61 : decode mX7_book.2.1 61 = .ok (.imul, 1) := by decide +kernel
theorem eX7_book_62 : decode mX7_book.2.1 62 = .ok (.iadd, 1) := by decide +kernel
theorem eX7_book_63 : decode mX7_book.2.1 63 = .ok (.iload_n 1, 1) := by decide +kernel
theorem eX7_book_64 : decode mX7_book.2.1 64 = .ok (.iastore, 1) := by decide +kernel
theorem eX7_book_65 : decode mX7_book.2.1 65 = .ok (.aload_n 0, 1) := by decide +kernel
theorem eX7_book_66 : decode mX7_book.2.1 66 = .ok (.getfield 15, 3) := by decide +kernel
theorem eX7_book_69 : decode mX7_book.2.1 69 = .ok (.bipush 108, 2) := by decide +kernel
theorem eX7_book_71 : decode mX7_book.2.1 71 = .ok (.iconst 2, 1) := by decide +kernel
theorem eX7_book_72 : decode mX7_book.2.1 72 = .ok (.aload_n 0, 1) := by decide +kernel
theorem eX7_book_73 : decode mX7_book.2.1 73 = .ok (.getfield 15, 3) := by decide +kernel
theorem eX7_book_76 : decode mX7_book.2.1 76 = .ok (.bipush 106, 2) := by decide +kernel
theorem eX7_book_78 : decode mX7_book.2.1 78 = .ok (.iaload, 1) := by decide +kernel
theorem eX7_book_79 : decode mX7_book.2.1 79 = .ok (.imul, 1) := by decide +kernel
theorem eX7_book_80 : decode mX7_book.2.1 80 = .ok (.iadd, 1) := by decide +kernel
theorem eX7_book_81 : decode mX7_book.2.1 81 = .ok (.iload_n 2, 1) := by decide +kernel
theorem eX7_book_82 : decode mX7_book.2.1 82 = .ok (.iastore, 1) := by decide +kernel
theorem eX7_book_83 : decode mX7_book.2.1 83 = .ok (.aload_n 0, 1) := by decide +kernel
theorem eX7_book_84 : decode mX7_book.2.1 84 = .ok (.getfield 15, 3) := by decide +kernel
theorem eX7_book_87 : decode mX7_book.2.1 87 = .ok (.bipush 106, 2) := by decide +kernel
theorem eX7_book_89 : decode mX7_book.2.1 89 = .ok (.dup2, 1) := by decide +kernel
theorem eX7_book_90 : decode mX7_book.2.1 90 = .ok (.iaload, 1) := by decide +kernel
theorem eX7_book_91 : decode mX7_book.2.1 91 = .ok (.iconst 1, 1) := by decide +kernel
theorem eX7_book_92 : decode mX7_book.2.1 92 = .ok (.iadd, 1) := by decide +kernel
theorem eX7_book_93 : decode mX7_book.2.1 93 = .ok (.iastore, 1) := by decide +kernel
theorem eX7_book_94 : decode mX7_book.2.1 94 = .ok (.aload_n 0, 1) := by decide +kernel
theorem eX7_book_95 : decode mX7_book.2.1 95 = .ok (.getfield 15, 3) := by decide +kernel
theorem eX7_book_98 : decode mX7_book.2.1 98 = .ok (.bipush 106, 2) := by decide +kernel
theorem eX7_book_100 : decode mX7_book.2.1 100 = .ok (.iaload, 1) := by decide +kernel
theorem eX7_book_101 : decode mX7_book.2.1 101 = .ok (.ireturn, 1) := by decide +kernel
theorem c_X7_book (hM : MAt h u U) {m : Nat} (hm : mOk U m) {a : Nat} (ha : a ≤ 8) (hs : U.1 1 106 = nI a) (t p : Int32) (hd : 2 ≤ d) : Ct l G mX7_book yX7_book d 0 0 [.ref u, .int t, .int p] h (fun r h' => r = some (.int (sBook (U.1 1) m a t p).1) ∧ MAt h' u (mg U (sBook (U.1 1) m a t p).2) ∧ Same u 19 h h') := by
  refine ct_of (lv := [some (.ref u), some (.int t), some (.int p)]) (by decide +kernel) rfl (fun z => by cases z) (fun _ => rfl) (fun _ => Nat.le_of_ble_eq_true rfl) ?_
  refine aw_iload_n (pc' := 1) eX7_book_0 rfl rfl ?_
  refine aw_iconst (pc' := 2) (v := -1) eX7_book_1 rfl (by decide) ?_
  refine aw_icmp_ne (pc' := 5) (tgt := 15) eX7_book_2 rfl (by decide) (fun c_2 => ?_) (fun c_2 => ?_)
  · refine aw_aload_n (pc' := 16) eX7_book_15 rfl rfl trivial ?_
    refine aw_iload_n (pc' := 17) eX7_book_16 rfl rfl ?_
    refine aw_callv (pc' := 20) (nn := 1) (c_X7_isOne (d := d - 1) hM _ (by omega)) eX7_book_17 rfl ⟨q897, q900, q62⟩ q899 q21 ⟨rfl, by decide +kernel, by decide +kernel, by decide +kernel⟩ rfl (by rw [hM.2.1]; exact ⟨rfl, rfl⟩) rfl ⟨by omega, by decide⟩ ⟨by omega, by omega⟩ rfl (Nat.le_of_ble_eq_true rfl) (fun v1 h2 hq3 => ?_)
    obtain ⟨rfl, rfl⟩ := hq3
    dsimp only [Option.toList, List.cons_append, List.nil_append]
    refine aw_if_eq (pc' := 23) (tgt := 30) eX7_book_20 rfl (by decide) (fun c_20 => ?_) (fun c_20 => ?_)
    · refine aw_iconst (pc' := 31) (v := -1) eX7_book_30 rfl (by decide) ?_
      refine aw_ret (v := some (.int _)) eX7_book_31 ⟨rfl, rfl⟩ (by omega) (by omega) rfl ?_
      try simp only [zb_eq0, Bool.not_eq_false, Bool.not_eq_true, decide_eq_true_eq, decide_eq_false_iff_not, Decidable.not_not, hm.1, mi] at c_2 c_20
      have hM9 := hM
      try simp only [mi, mup_mg, mg_mg, mg_1] at hM9
      refine ⟨?_, ?_, Same.rf⟩
      · simp [sBook, mi, hm.1, c_2, c_20]
      · simpa [sBook, mg_id, hm.1, c_2, c_20] using hM9
    · refine aw_iload_n (pc' := 24) eX7_book_23 rfl rfl ?_
      refine aw_calls (pc' := 27) (nn := 1) (c_X7_isPlace (d := d - 1) _ (by omega)) eX7_book_24 rfl ⟨q1017, q1019, q62⟩ q1018 ⟨by decide +kernel, by decide +kernel, by decide +kernel⟩ rfl ⟨by omega, by decide⟩ ⟨by omega, by omega⟩ rfl (Nat.le_of_ble_eq_true rfl) (fun v4 h5 hq6 => ?_)
      obtain ⟨rfl, rfl⟩ := hq6
      dsimp only [Option.toList, List.cons_append, List.nil_append]
      refine aw_if_ne (pc' := 30) (tgt := 32) eX7_book_27 rfl (by decide) (fun c_27 => ?_) (fun c_27 => ?_)
      · refine aw_aload_n (pc' := 33) eX7_book_32 rfl rfl trivial ?_
        refine aw_Mref (pc' := 36) (kf := 0) 1 hM eX7_book_33 rfl (by decide) rfl q789 ?_
        refine aw_bipush (pc' := 38) (v := 106) eX7_book_36 rfl (by decide) ?_
        refine aw_MaldC (pc' := 39) 1 106 hM eX7_book_38 rfl (by decide) (by unfold vp_in; decide) (by decide) ?_
        refine aw_bipush (pc' := 41) (v := 8) eX7_book_39 rfl (by decide) ?_
        refine aw_icmp_ne (pc' := 44) (tgt := 47) eX7_book_41 rfl (by decide) (fun c_41 => ?_) (fun c_41 => ?_)
        · rw [hs] at c_41
          have ha5 : a < 8 := by
            rcases Nat.lt_or_ge a 8 with z | z
            · exact z
            · exact absurd (by rw [show a = 8 by omega]; rfl) c_41
          have hx6 : (107 + 2 * U.1 1 106).toNatClampNeg = 107 + 2 * a := by rw [hs]; exact (ix3 (c := 107) (b := 2) (by omega)).1
          have hv6 : vp_in (107 + 2 * U.1 1 106) 123 := by rw [hs]; exact (ix3 (c := 107) (b := 2) (by omega)).2
          have e7 : ∀ x : Int32, (mup U 1 (107 + 2 * a) x).1 1 106 = nI a := fun x => by rw [mup1, upd_ne (by omega)]; exact hs
          have hx7 : ∀ x : Int32, (108 + 2 * (mup U 1 (107 + 2 * a) x).1 1 106).toNatClampNeg = 108 + 2 * a := fun x => by rw [e7]; exact (ix3 (c := 108) (b := 2) (by omega)).1
          have hv7 : ∀ x : Int32, vp_in (108 + 2 * (mup U 1 (107 + 2 * a) x).1 1 106) 123 := fun x => by rw [e7]; exact (ix3 (c := 108) (b := 2) (by omega)).2
          refine aw_aload_n (pc' := 48) eX7_book_47 rfl rfl trivial ?_
          refine aw_Mref (pc' := 51) (kf := 0) 1 hM eX7_book_48 rfl (by decide) rfl q789 ?_
          refine aw_bipush (pc' := 53) (v := 107) eX7_book_51 rfl (by decide) ?_
          refine aw_iconst (pc' := 54) (v := 2) eX7_book_53 rfl (by decide) ?_
          refine aw_aload_n (pc' := 55) eX7_book_54 rfl rfl trivial ?_
          refine aw_Mref (pc' := 58) (kf := 0) 1 hM eX7_book_55 rfl (by decide) rfl q789 ?_
          refine aw_bipush (pc' := 60) (v := 106) eX7_book_58 rfl (by decide) ?_
          refine aw_MaldC (pc' := 61) 1 106 hM eX7_book_60 rfl (by decide) (by unfold vp_in; decide) (by decide) ?_
          refine aw_imul (pc' := 62) eX7_book_61 rfl ?_
          refine aw_iadd (pc' := 63) eX7_book_62 rfl ?_
          refine aw_iload_n (pc' := 64) eX7_book_63 rfl rfl ?_
          refine aw_MastC (pc' := 65) 1 (107 + 2 * a) hM eX7_book_64 rfl (by decide) hv6 hx6 (fun h9 hM7 hs8 => ?_)
          refine aw_aload_n (pc' := 66) eX7_book_65 rfl rfl trivial ?_
          refine aw_Mref (pc' := 69) (kf := 0) 1 hM7 eX7_book_66 rfl (by decide) rfl q789 ?_
          refine aw_bipush (pc' := 71) (v := 108) eX7_book_69 rfl (by decide) ?_
          refine aw_iconst (pc' := 72) (v := 2) eX7_book_71 rfl (by decide) ?_
          refine aw_aload_n (pc' := 73) eX7_book_72 rfl rfl trivial ?_
          refine aw_Mref (pc' := 76) (kf := 0) 1 hM7 eX7_book_73 rfl (by decide) rfl q789 ?_
          refine aw_bipush (pc' := 78) (v := 106) eX7_book_76 rfl (by decide) ?_
          refine aw_MaldC (pc' := 79) 1 106 hM7 eX7_book_78 rfl (by decide) (by unfold vp_in; decide) (by decide) ?_
          refine aw_imul (pc' := 80) eX7_book_79 rfl ?_
          refine aw_iadd (pc' := 81) eX7_book_80 rfl ?_
          refine aw_iload_n (pc' := 82) eX7_book_81 rfl rfl ?_
          refine aw_MastC (pc' := 83) 1 (108 + 2 * a) hM7 eX7_book_82 rfl (by decide) (hv7 _) (hx7 _) (fun h12 hM10 hs11 => ?_)
          have hT13 := hs8.tr hs11
          refine aw_aload_n (pc' := 84) eX7_book_83 rfl rfl trivial ?_
          refine aw_Mref (pc' := 87) (kf := 0) 1 hM10 eX7_book_84 rfl (by decide) rfl q789 ?_
          refine aw_bipush (pc' := 89) (v := 106) eX7_book_87 rfl (by decide) ?_
          refine aw_dup2 (pc' := 90) eX7_book_89 rfl rfl rfl ?_
          refine aw_MaldC (pc' := 91) 1 106 hM10 eX7_book_90 rfl (by decide) (by unfold vp_in; decide) (by decide) ?_
          refine aw_iconst (pc' := 92) (v := 1) eX7_book_91 rfl (by decide) ?_
          refine aw_iadd (pc' := 93) eX7_book_92 rfl ?_
          refine aw_MastC (pc' := 94) 1 106 hM10 eX7_book_93 rfl (by decide) (by unfold vp_in; decide) (by decide) (fun h16 hM14 hs15 => ?_)
          have hT17 := hT13.tr hs15
          refine aw_aload_n (pc' := 95) eX7_book_94 rfl rfl trivial ?_
          refine aw_Mref (pc' := 98) (kf := 0) 1 hM14 eX7_book_95 rfl (by decide) rfl q789 ?_
          refine aw_bipush (pc' := 100) (v := 106) eX7_book_98 rfl (by decide) ?_
          refine aw_MaldC (pc' := 101) 1 106 hM14 eX7_book_100 rfl (by decide) (by unfold vp_in; decide) (by decide) ?_
          refine aw_ret (v := some (.int _)) eX7_book_101 ⟨rfl, rfl⟩ (by omega) (by omega) rfl ?_
          try simp only [zb_eq0, Bool.not_eq_false, Bool.not_eq_true, decide_eq_true_eq, decide_eq_false_iff_not, Decidable.not_not, hm.1, mi, hs] at c_2 c_20 c_27 c_41
          have hM9 := hM14
          try simp only [mi, hs, mup_mg, mg_mg, mg_1] at hM9
          refine ⟨?_, ?_, hT17⟩
          · simp [sBook, mi, hm.1, hs, mup1, c_2, c_20, c_27, c_41]
          · simpa [sBook, mg_id, hm.1, hs, mup1, c_2, c_20, c_27, c_41] using hM9
        · refine aw_bipush (pc' := 46) (v := -4) eX7_book_44 rfl (by decide) ?_
          refine aw_ret (v := some (.int _)) eX7_book_46 ⟨rfl, rfl⟩ (by omega) (by omega) rfl ?_
          try simp only [zb_eq0, Bool.not_eq_false, Bool.not_eq_true, decide_eq_true_eq, decide_eq_false_iff_not, Decidable.not_not, hm.1, mi, hs] at c_2 c_20 c_27 c_41
          have hM9 := hM
          try simp only [mi, hs, mup_mg, mg_mg, mg_1] at hM9
          refine ⟨?_, ?_, Same.rf⟩
          · simp [sBook, mi, hm.1, hs, c_2, c_20, c_27, c_41]
          · simpa [sBook, mg_id, hm.1, hs, c_2, c_20, c_27, c_41] using hM9
      · refine aw_iconst (pc' := 31) (v := -1) eX7_book_30 rfl (by decide) ?_
        refine aw_ret (v := some (.int _)) eX7_book_31 ⟨rfl, rfl⟩ (by omega) (by omega) rfl ?_
        try simp only [zb_eq0, Bool.not_eq_false, Bool.not_eq_true, decide_eq_true_eq, decide_eq_false_iff_not, Decidable.not_not, hm.1, mi] at c_2 c_20 c_27
        have hM9 := hM
        try simp only [mi, mup_mg, mg_mg, mg_1] at hM9
        refine ⟨?_, ?_, Same.rf⟩
        · simp [sBook, mi, hm.1, c_2, c_20, c_27]
        · simpa [sBook, mg_id, hm.1, c_2, c_20, c_27] using hM9
  · refine aw_aload_n (pc' := 6) eX7_book_5 rfl rfl trivial ?_
    refine aw_Mref (pc' := 9) (kf := 0) 1 hM eX7_book_6 rfl (by decide) rfl q789 ?_
    refine aw_bipush (pc' := 11) (v := 106) eX7_book_9 rfl (by decide) ?_
    refine aw_iconst (pc' := 12) (v := 0) eX7_book_11 rfl (by decide) ?_
    refine aw_MastC (pc' := 13) 1 106 hM eX7_book_12 rfl (by decide) (by unfold vp_in; decide) (by decide) (fun h20 hM18 hs19 => ?_)
    refine aw_iconst (pc' := 14) (v := 0) eX7_book_13 rfl (by decide) ?_
    refine aw_ret (v := some (.int _)) eX7_book_14 ⟨rfl, rfl⟩ (by omega) (by omega) rfl ?_
    try simp only [zb_eq0, Bool.not_eq_false, Bool.not_eq_true, decide_eq_true_eq, decide_eq_false_iff_not, Decidable.not_not, hm.1, mi] at c_2
    have hM9 := hM18
    try simp only [mi, mup_mg, mg_mg, mg_1] at hM9
    refine ⟨?_, ?_, hs19⟩
    · simp [sBook, mi, hm.1, c_2]
    · simpa [sBook, mg_id, hm.1, c_2] using hM9
def sPlanOk (m : Nat) (t p : Int32) : Bool := decide (t = 0) || ((decide (t = 1) || decide (t = 2)) && bIn p 0 (nI m - 1)) || (decide (t = 3) && bIn p 0 11)
def sPlan (g : Nat → Int32) (m a : Nat) (t p : Int32) : Int32 × (Nat → Int32) :=
  if t = -1 then (0, upd g 85 0) else if sPlanOk m t p = true then if nI a = 10 then (-4, g) else
    (upd (upd (upd g (86 + 2 * a) t) (87 + 2 * a) p) 85 (upd (upd g (86 + 2 * a) t) (87 + 2 * a) p 85 + 1) 85, upd (upd (upd g (86 + 2 * a) t) (87 + 2 * a) p) 85 (upd (upd g (86 + 2 * a) t) (87 + 2 * a) p 85 + 1)) else (-1, g)
abbrev mX7_plan : MT := (RX7, cX7_plan, 4, (some .int), false)
theorem eX7_plan_0 : decode mX7_plan.2.1 0 = .ok (.iload_n 1, 1) := by decide +kernel
theorem eX7_plan_1 : decode mX7_plan.2.1 1 = .ok (.iconst (-1), 1) := by decide +kernel
theorem eX7_plan_2 : decode mX7_plan.2.1 2 = .ok (.if_icmp .ne 13, 3) := by decide +kernel
theorem eX7_plan_5 : decode mX7_plan.2.1 5 = .ok (.aload_n 0, 1) := by decide +kernel
theorem eX7_plan_6 : decode mX7_plan.2.1 6 = .ok (.getfield 15, 3) := by decide +kernel
theorem eX7_plan_9 : decode mX7_plan.2.1 9 = .ok (.bipush 85, 2) := by decide +kernel
theorem eX7_plan_11 : decode mX7_plan.2.1 11 = .ok (.iconst 0, 1) := by decide +kernel
theorem eX7_plan_12 : decode mX7_plan.2.1 12 = .ok (.iastore, 1) := by decide +kernel
theorem eX7_plan_13 : decode mX7_plan.2.1 13 = .ok (.iconst 0, 1) := by decide +kernel
theorem eX7_plan_14 : decode mX7_plan.2.1 14 = .ok (.ireturn, 1) := by decide +kernel
theorem eX7_plan_15 : decode mX7_plan.2.1 15 = .ok (.iload_n 1, 1) := by decide +kernel
theorem eX7_plan_16 : decode mX7_plan.2.1 16 = .ok (.ifCond .eq 33, 3) := by decide +kernel
theorem eX7_plan_19 : decode mX7_plan.2.1 19 = .ok (.iload_n 1, 1) := by decide +kernel
theorem eX7_plan_20 : decode mX7_plan.2.1 20 = .ok (.iconst 1, 1) := by decide +kernel
theorem eX7_plan_21 : decode mX7_plan.2.1 21 = .ok (.if_icmp .eq 8, 3) := by decide +kernel
theorem eX7_plan_24 : decode mX7_plan.2.1 24 = .ok (.iload_n 1, 1) := by decide +kernel
theorem eX7_plan_25 : decode mX7_plan.2.1 25 = .ok (.iconst 2, 1) := by decide +kernel
theorem eX7_plan_26 : decode mX7_plan.2.1 26 = .ok (.if_icmp .ne 11, 3) := by decide +kernel
theorem eX7_plan_29 : decode mX7_plan.2.1 29 = .ok (.aload_n 0, 1) := by decide +kernel
theorem eX7_plan_30 : decode mX7_plan.2.1 30 = .ok (.iload_n 2, 1) := by decide +kernel
theorem eX7_plan_31 : decode mX7_plan.2.1 31 = .ok (.invokevirtual 88, 3) := by decide +kernel
theorem eX7_plan_34 : decode mX7_plan.2.1 34 = .ok (.ifCond .ne 15, 3) := by decide +kernel
theorem eX7_plan_37 : decode mX7_plan.2.1 37 = .ok (.iload_n 1, 1) := by decide +kernel
theorem eX7_plan_38 : decode mX7_plan.2.1 38 = .ok (.iconst 3, 1) := by decide +kernel
theorem eX7_plan_39 : decode mX7_plan.2.1 39 = .ok (.if_icmp .ne 14, 3) := by decide +kernel
theorem eX7_plan_42 : decode mX7_plan.2.1 42 = .ok (.iload_n 2, 1) := by decide +kernel
theorem eX7_plan_43 : decode mX7_plan.2.1 43 = .ok (.invokestatic 120, 3) := by decide +kernel
theorem eX7_plan_46 : decode mX7_plan.2.1 46 = .ok (.ifCond .eq 7, 3) := by decide +kernel
theorem eX7_plan_49 : decode mX7_plan.2.1 49 = .ok (.iconst 1, 1) := by decide +kernel
theorem eX7_plan_50 : decode mX7_plan.2.1 50 = .ok (.goto 4, 3) := by decide +kernel
theorem eX7_plan_53 : decode mX7_plan.2.1 53 = .ok (.iconst 0, 1) := by decide +kernel
theorem eX7_plan_54 : decode mX7_plan.2.1 54 = .ok (.istore_n 3, 1) := by decide +kernel
theorem eX7_plan_55 : decode mX7_plan.2.1 55 = .ok (.iload_n 3, 1) := by decide +kernel
theorem eX7_plan_56 : decode mX7_plan.2.1 56 = .ok (.ifCond .ne 5, 3) := by decide +kernel
theorem eX7_plan_59 : decode mX7_plan.2.1 59 = .ok (.iconst (-1), 1) := by decide +kernel
theorem eX7_plan_60 : decode mX7_plan.2.1 60 = .ok (.ireturn, 1) := by decide +kernel
theorem eX7_plan_61 : decode mX7_plan.2.1 61 = .ok (.aload_n 0, 1) := by decide +kernel
theorem eX7_plan_62 : decode mX7_plan.2.1 62 = .ok (.getfield 15, 3) := by decide +kernel
theorem eX7_plan_65 : decode mX7_plan.2.1 65 = .ok (.bipush 85, 2) := by decide +kernel
theorem eX7_plan_67 : decode mX7_plan.2.1 67 = .ok (.iaload, 1) := by decide +kernel
theorem eX7_plan_68 : decode mX7_plan.2.1 68 = .ok (.bipush 10, 2) := by decide +kernel
theorem eX7_plan_70 : decode mX7_plan.2.1 70 = .ok (.if_icmp .ne 6, 3) := by decide +kernel
theorem eX7_plan_73 : decode mX7_plan.2.1 73 = .ok (.bipush (-4), 2) := by decide +kernel
theorem eX7_plan_75 : decode mX7_plan.2.1 75 = .ok (.ireturn, 1) := by decide +kernel
theorem eX7_plan_76 : decode mX7_plan.2.1 76 = .ok (.aload_n 0, 1) := by decide +kernel
theorem eX7_plan_77 : decode mX7_plan.2.1 77 = .ok (.getfield 15, 3) := by decide +kernel
theorem eX7_plan_80 : decode mX7_plan.2.1 80 = .ok (.bipush 86, 2) := by decide +kernel
theorem eX7_plan_82 : decode mX7_plan.2.1 82 = .ok (.iconst 2, 1) := by decide +kernel
theorem eX7_plan_83 : decode mX7_plan.2.1 83 = .ok (.aload_n 0, 1) := by decide +kernel
theorem eX7_plan_84 : decode mX7_plan.2.1 84 = .ok (.getfield 15, 3) := by decide +kernel
theorem eX7_plan_87 : decode mX7_plan.2.1 87 = .ok (.bipush 85, 2) := by decide +kernel
theorem eX7_plan_89 : decode mX7_plan.2.1 89 = .ok (.iaload, 1) := by decide +kernel
theorem eX7_plan_90 : decode mX7_plan.2.1 90 = .ok (.imul, 1) := by decide +kernel
theorem eX7_plan_91 : decode mX7_plan.2.1 91 = .ok (.iadd, 1) := by decide +kernel
theorem eX7_plan_92 : decode mX7_plan.2.1 92 = .ok (.iload_n 1, 1) := by decide +kernel
theorem eX7_plan_93 : decode mX7_plan.2.1 93 = .ok (.iastore, 1) := by decide +kernel
theorem eX7_plan_94 : decode mX7_plan.2.1 94 = .ok (.aload_n 0, 1) := by decide +kernel
theorem eX7_plan_95 : decode mX7_plan.2.1 95 = .ok (.getfield 15, 3) := by decide +kernel
theorem eX7_plan_98 : decode mX7_plan.2.1 98 = .ok (.bipush 87, 2) := by decide +kernel
theorem eX7_plan_100 : decode mX7_plan.2.1 100 = .ok (.iconst 2, 1) := by decide +kernel
theorem eX7_plan_101 : decode mX7_plan.2.1 101 = .ok (.aload_n 0, 1) := by decide +kernel
theorem eX7_plan_102 : decode mX7_plan.2.1 102 = .ok (.getfield 15, 3) := by decide +kernel
theorem eX7_plan_105 : decode mX7_plan.2.1 105 = .ok (.bipush 85, 2) := by decide +kernel
theorem eX7_plan_107 : decode mX7_plan.2.1 107 = .ok (.iaload, 1) := by decide +kernel
theorem eX7_plan_108 : decode mX7_plan.2.1 108 = .ok (.imul, 1) := by decide +kernel
theorem eX7_plan_109 : decode mX7_plan.2.1 109 = .ok (.iadd, 1) := by decide +kernel
theorem eX7_plan_110 : decode mX7_plan.2.1 110 = .ok (.iload_n 2, 1) := by decide +kernel
theorem eX7_plan_111 : decode mX7_plan.2.1 111 = .ok (.iastore, 1) := by decide +kernel
theorem eX7_plan_112 : decode mX7_plan.2.1 112 = .ok (.aload_n 0, 1) := by decide +kernel
theorem eX7_plan_113 : decode mX7_plan.2.1 113 = .ok (.getfield 15, 3) := by decide +kernel
theorem eX7_plan_116 : decode mX7_plan.2.1 116 = .ok (.bipush 85, 2) := by decide +kernel
theorem eX7_plan_118 : decode mX7_plan.2.1 118 = .ok (.dup2, 1) := by decide +kernel
theorem eX7_plan_119 : decode mX7_plan.2.1 119 = .ok (.iaload, 1) := by decide +kernel
theorem eX7_plan_120 : decode mX7_plan.2.1 120 = .ok (.iconst 1, 1) := by decide +kernel
theorem eX7_plan_121 : decode mX7_plan.2.1 121 = .ok (.iadd, 1) := by decide +kernel
theorem eX7_plan_122 : decode mX7_plan.2.1 122 = .ok (.iastore, 1) := by decide +kernel
theorem eX7_plan_123 : decode mX7_plan.2.1 123 = .ok (.aload_n 0, 1) := by decide +kernel
theorem eX7_plan_124 : decode mX7_plan.2.1 124 = .ok (.getfield 15, 3) := by decide +kernel
theorem eX7_plan_127 : decode mX7_plan.2.1 127 = .ok (.bipush 85, 2) := by decide +kernel
theorem eX7_plan_129 : decode mX7_plan.2.1 129 = .ok (.iaload, 1) := by decide +kernel
theorem eX7_plan_130 : decode mX7_plan.2.1 130 = .ok (.ireturn, 1) := by decide +kernel
theorem c_X7_plan (hM : MAt h u U) {m : Nat} (hm : mOk U m) {a : Nat} (ha : a ≤ 10) (hs : U.1 1 85 = nI a) (t p : Int32) (hd : 2 ≤ d) : Ct l G mX7_plan yX7_plan d 0 0 [.ref u, .int t, .int p] h (fun r h' => r = some (.int (sPlan (U.1 1) m a t p).1) ∧ MAt h' u (mg U (sPlan (U.1 1) m a t p).2) ∧ Same u 19 h h') := by
  refine ct_of (lv := [some (.ref u), some (.int t), some (.int p), none]) (by decide +kernel) rfl (fun z => by cases z) (fun _ => rfl) (fun _ => Nat.le_of_ble_eq_true rfl) ?_
  refine aw_iload_n (pc' := 1) eX7_plan_0 rfl rfl ?_
  refine aw_iconst (pc' := 2) (v := -1) eX7_plan_1 rfl (by decide) ?_
  refine aw_icmp_ne (pc' := 5) (tgt := 15) eX7_plan_2 rfl (by decide) (fun c_2 => ?_) (fun c_2 => ?_)
  · refine aw_iload_n (pc' := 16) eX7_plan_15 rfl rfl ?_
    refine aw_if_eq (pc' := 19) (tgt := 49) eX7_plan_16 rfl (by decide) (fun c_16 => ?_) (fun c_16 => ?_)
    · refine aw_iconst (pc' := 50) (v := 1) eX7_plan_49 rfl (by decide) ?_
      refine aw_goto eX7_plan_50 (by decide) (tgt := 54) ?_
      refine aw_istore_n (pc' := 55) eX7_plan_54 rfl (by decide) ?_
      dsimp only [zst, zst2, zcut]
      refine aw_iload_n (pc' := 56) eX7_plan_55 rfl rfl ?_
      refine aw_if_ne (pc' := 59) (tgt := 61) eX7_plan_56 rfl (by decide) (fun c_56 => ?_) (fun c_56 => ?_)
      · refine aw_aload_n (pc' := 62) eX7_plan_61 rfl rfl trivial ?_
        refine aw_Mref (pc' := 65) (kf := 0) 1 hM eX7_plan_62 rfl (by decide) rfl q789 ?_
        refine aw_bipush (pc' := 67) (v := 85) eX7_plan_65 rfl (by decide) ?_
        refine aw_MaldC (pc' := 68) 1 85 hM eX7_plan_67 rfl (by decide) (by unfold vp_in; decide) (by decide) ?_
        refine aw_bipush (pc' := 70) (v := 10) eX7_plan_68 rfl (by decide) ?_
        refine aw_icmp_ne (pc' := 73) (tgt := 76) eX7_plan_70 rfl (by decide) (fun c_70 => ?_) (fun c_70 => ?_)
        · rw [hs] at c_70
          have ha5 : a < 10 := by
            rcases Nat.lt_or_ge a 10 with z | z
            · exact z
            · exact absurd (by rw [show a = 10 by omega]; rfl) c_70
          have hx6 : (86 + 2 * U.1 1 85).toNatClampNeg = 86 + 2 * a := by rw [hs]; exact (ix3 (c := 86) (b := 2) (by omega)).1
          have hv6 : vp_in (86 + 2 * U.1 1 85) 123 := by rw [hs]; exact (ix3 (c := 86) (b := 2) (by omega)).2
          have e7 : ∀ x : Int32, (mup U 1 (86 + 2 * a) x).1 1 85 = nI a := fun x => by rw [mup1, upd_ne (by omega)]; exact hs
          have hx7 : ∀ x : Int32, (87 + 2 * (mup U 1 (86 + 2 * a) x).1 1 85).toNatClampNeg = 87 + 2 * a := fun x => by rw [e7]; exact (ix3 (c := 87) (b := 2) (by omega)).1
          have hv7 : ∀ x : Int32, vp_in (87 + 2 * (mup U 1 (86 + 2 * a) x).1 1 85) 123 := fun x => by rw [e7]; exact (ix3 (c := 87) (b := 2) (by omega)).2
          refine aw_aload_n (pc' := 77) eX7_plan_76 rfl rfl trivial ?_
          refine aw_Mref (pc' := 80) (kf := 0) 1 hM eX7_plan_77 rfl (by decide) rfl q789 ?_
          refine aw_bipush (pc' := 82) (v := 86) eX7_plan_80 rfl (by decide) ?_
          refine aw_iconst (pc' := 83) (v := 2) eX7_plan_82 rfl (by decide) ?_
          refine aw_aload_n (pc' := 84) eX7_plan_83 rfl rfl trivial ?_
          refine aw_Mref (pc' := 87) (kf := 0) 1 hM eX7_plan_84 rfl (by decide) rfl q789 ?_
          refine aw_bipush (pc' := 89) (v := 85) eX7_plan_87 rfl (by decide) ?_
          refine aw_MaldC (pc' := 90) 1 85 hM eX7_plan_89 rfl (by decide) (by unfold vp_in; decide) (by decide) ?_
          refine aw_imul (pc' := 91) eX7_plan_90 rfl ?_
          refine aw_iadd (pc' := 92) eX7_plan_91 rfl ?_
          refine aw_iload_n (pc' := 93) eX7_plan_92 rfl rfl ?_
          refine aw_MastC (pc' := 94) 1 (86 + 2 * a) hM eX7_plan_93 rfl (by decide) hv6 hx6 (fun h3 hM1 hs2 => ?_)
          refine aw_aload_n (pc' := 95) eX7_plan_94 rfl rfl trivial ?_
          refine aw_Mref (pc' := 98) (kf := 0) 1 hM1 eX7_plan_95 rfl (by decide) rfl q789 ?_
          refine aw_bipush (pc' := 100) (v := 87) eX7_plan_98 rfl (by decide) ?_
          refine aw_iconst (pc' := 101) (v := 2) eX7_plan_100 rfl (by decide) ?_
          refine aw_aload_n (pc' := 102) eX7_plan_101 rfl rfl trivial ?_
          refine aw_Mref (pc' := 105) (kf := 0) 1 hM1 eX7_plan_102 rfl (by decide) rfl q789 ?_
          refine aw_bipush (pc' := 107) (v := 85) eX7_plan_105 rfl (by decide) ?_
          refine aw_MaldC (pc' := 108) 1 85 hM1 eX7_plan_107 rfl (by decide) (by unfold vp_in; decide) (by decide) ?_
          refine aw_imul (pc' := 109) eX7_plan_108 rfl ?_
          refine aw_iadd (pc' := 110) eX7_plan_109 rfl ?_
          refine aw_iload_n (pc' := 111) eX7_plan_110 rfl rfl ?_
          refine aw_MastC (pc' := 112) 1 (87 + 2 * a) hM1 eX7_plan_111 rfl (by decide) (hv7 _) (hx7 _) (fun h6 hM4 hs5 => ?_)
          have hT7 := hs2.tr hs5
          refine aw_aload_n (pc' := 113) eX7_plan_112 rfl rfl trivial ?_
          refine aw_Mref (pc' := 116) (kf := 0) 1 hM4 eX7_plan_113 rfl (by decide) rfl q789 ?_
          refine aw_bipush (pc' := 118) (v := 85) eX7_plan_116 rfl (by decide) ?_
          refine aw_dup2 (pc' := 119) eX7_plan_118 rfl rfl rfl ?_
          refine aw_MaldC (pc' := 120) 1 85 hM4 eX7_plan_119 rfl (by decide) (by unfold vp_in; decide) (by decide) ?_
          refine aw_iconst (pc' := 121) (v := 1) eX7_plan_120 rfl (by decide) ?_
          refine aw_iadd (pc' := 122) eX7_plan_121 rfl ?_
          refine aw_MastC (pc' := 123) 1 85 hM4 eX7_plan_122 rfl (by decide) (by unfold vp_in; decide) (by decide) (fun h10 hM8 hs9 => ?_)
          have hT11 := hT7.tr hs9
          refine aw_aload_n (pc' := 124) eX7_plan_123 rfl rfl trivial ?_
          refine aw_Mref (pc' := 127) (kf := 0) 1 hM8 eX7_plan_124 rfl (by decide) rfl q789 ?_
          refine aw_bipush (pc' := 129) (v := 85) eX7_plan_127 rfl (by decide) ?_
          refine aw_MaldC (pc' := 130) 1 85 hM8 eX7_plan_129 rfl (by decide) (by unfold vp_in; decide) (by decide) ?_
          refine aw_ret (v := some (.int _)) eX7_plan_130 ⟨rfl, rfl⟩ (by omega) (by omega) rfl ?_
          try simp only [zb_eq0, Bool.not_eq_false, Bool.not_eq_true, decide_eq_true_eq, decide_eq_false_iff_not, Decidable.not_not, hm.1] at c_16
          have eok : sPlanOk m t p = true := by first | (simp [sPlanOk, c_16]; done) | (exfalso; simp_all; done) | (exfalso; have z := c_21.symm.trans c_39; exact absurd z (by decide)) | (exfalso; have z := c_26.symm.trans c_39; exact absurd z (by decide))
          rw [sPlan, if_neg c_2, if_pos eok, if_neg c_70]
          have hM9 := hM8
          simp only [mup_mg, mg_mg, mg_1] at hM9
          exact ⟨by simp [mup1], hM9, hT11⟩
        · refine aw_bipush (pc' := 75) (v := -4) eX7_plan_73 rfl (by decide) ?_
          refine aw_ret (v := some (.int _)) eX7_plan_75 ⟨rfl, rfl⟩ (by omega) (by omega) rfl ?_
          try simp only [zb_eq0, Bool.not_eq_false, Bool.not_eq_true, decide_eq_true_eq, decide_eq_false_iff_not, Decidable.not_not, hm.1] at c_16
          have eok : sPlanOk m t p = true := by first | (simp [sPlanOk, c_16]; done) | (exfalso; simp_all; done) | (exfalso; have z := c_21.symm.trans c_39; exact absurd z (by decide)) | (exfalso; have z := c_26.symm.trans c_39; exact absurd z (by decide))
          rw [hs] at c_70
          rw [sPlan, if_neg c_2, if_pos eok, if_pos c_70]
          exact ⟨rfl, by rw [mg_id]; exact hM, Same.rf⟩
      · exact absurd c_56 (by decide)
    · refine aw_iload_n (pc' := 20) eX7_plan_19 rfl rfl ?_
      refine aw_iconst (pc' := 21) (v := 1) eX7_plan_20 rfl (by decide) ?_
      refine aw_icmp_eq (pc' := 24) (tgt := 29) eX7_plan_21 rfl (by decide) (fun c_21 => ?_) (fun c_21 => ?_)
      · refine aw_aload_n (pc' := 30) eX7_plan_29 rfl rfl trivial ?_
        refine aw_iload_n (pc' := 31) eX7_plan_30 rfl rfl ?_
        refine aw_callv (pc' := 34) (nn := 1) (c_X7_isOne (d := d - 1) hM _ (by omega)) eX7_plan_31 rfl ⟨q897, q900, q62⟩ q899 q21 ⟨rfl, by decide +kernel, by decide +kernel, by decide +kernel⟩ rfl (by rw [hM.2.1]; exact ⟨rfl, rfl⟩) rfl ⟨by omega, by decide⟩ ⟨by omega, by omega⟩ rfl (Nat.le_of_ble_eq_true rfl) (fun v12 h13 hq14 => ?_)
        obtain ⟨rfl, rfl⟩ := hq14
        dsimp only [Option.toList, List.cons_append, List.nil_append]
        refine aw_if_ne (pc' := 37) (tgt := 49) eX7_plan_34 rfl (by decide) (fun c_34 => ?_) (fun c_34 => ?_)
        · refine aw_iconst (pc' := 50) (v := 1) eX7_plan_49 rfl (by decide) ?_
          refine aw_goto eX7_plan_50 (by decide) (tgt := 54) ?_
          refine aw_istore_n (pc' := 55) eX7_plan_54 rfl (by decide) ?_
          dsimp only [zst, zst2, zcut]
          refine aw_iload_n (pc' := 56) eX7_plan_55 rfl rfl ?_
          refine aw_if_ne (pc' := 59) (tgt := 61) eX7_plan_56 rfl (by decide) (fun c_56 => ?_) (fun c_56 => ?_)
          · refine aw_aload_n (pc' := 62) eX7_plan_61 rfl rfl trivial ?_
            refine aw_Mref (pc' := 65) (kf := 0) 1 hM eX7_plan_62 rfl (by decide) rfl q789 ?_
            refine aw_bipush (pc' := 67) (v := 85) eX7_plan_65 rfl (by decide) ?_
            refine aw_MaldC (pc' := 68) 1 85 hM eX7_plan_67 rfl (by decide) (by unfold vp_in; decide) (by decide) ?_
            refine aw_bipush (pc' := 70) (v := 10) eX7_plan_68 rfl (by decide) ?_
            refine aw_icmp_ne (pc' := 73) (tgt := 76) eX7_plan_70 rfl (by decide) (fun c_70 => ?_) (fun c_70 => ?_)
            · rw [hs] at c_70
              have ha5 : a < 10 := by
                rcases Nat.lt_or_ge a 10 with z | z
                · exact z
                · exact absurd (by rw [show a = 10 by omega]; rfl) c_70
              have hx6 : (86 + 2 * U.1 1 85).toNatClampNeg = 86 + 2 * a := by rw [hs]; exact (ix3 (c := 86) (b := 2) (by omega)).1
              have hv6 : vp_in (86 + 2 * U.1 1 85) 123 := by rw [hs]; exact (ix3 (c := 86) (b := 2) (by omega)).2
              have e7 : ∀ x : Int32, (mup U 1 (86 + 2 * a) x).1 1 85 = nI a := fun x => by rw [mup1, upd_ne (by omega)]; exact hs
              have hx7 : ∀ x : Int32, (87 + 2 * (mup U 1 (86 + 2 * a) x).1 1 85).toNatClampNeg = 87 + 2 * a := fun x => by rw [e7]; exact (ix3 (c := 87) (b := 2) (by omega)).1
              have hv7 : ∀ x : Int32, vp_in (87 + 2 * (mup U 1 (86 + 2 * a) x).1 1 85) 123 := fun x => by rw [e7]; exact (ix3 (c := 87) (b := 2) (by omega)).2
              refine aw_aload_n (pc' := 77) eX7_plan_76 rfl rfl trivial ?_
              refine aw_Mref (pc' := 80) (kf := 0) 1 hM eX7_plan_77 rfl (by decide) rfl q789 ?_
              refine aw_bipush (pc' := 82) (v := 86) eX7_plan_80 rfl (by decide) ?_
              refine aw_iconst (pc' := 83) (v := 2) eX7_plan_82 rfl (by decide) ?_
              refine aw_aload_n (pc' := 84) eX7_plan_83 rfl rfl trivial ?_
              refine aw_Mref (pc' := 87) (kf := 0) 1 hM eX7_plan_84 rfl (by decide) rfl q789 ?_
              refine aw_bipush (pc' := 89) (v := 85) eX7_plan_87 rfl (by decide) ?_
              refine aw_MaldC (pc' := 90) 1 85 hM eX7_plan_89 rfl (by decide) (by unfold vp_in; decide) (by decide) ?_
              refine aw_imul (pc' := 91) eX7_plan_90 rfl ?_
              refine aw_iadd (pc' := 92) eX7_plan_91 rfl ?_
              refine aw_iload_n (pc' := 93) eX7_plan_92 rfl rfl ?_
              refine aw_MastC (pc' := 94) 1 (86 + 2 * a) hM eX7_plan_93 rfl (by decide) hv6 hx6 (fun h17 hM15 hs16 => ?_)
              refine aw_aload_n (pc' := 95) eX7_plan_94 rfl rfl trivial ?_
              refine aw_Mref (pc' := 98) (kf := 0) 1 hM15 eX7_plan_95 rfl (by decide) rfl q789 ?_
              refine aw_bipush (pc' := 100) (v := 87) eX7_plan_98 rfl (by decide) ?_
              refine aw_iconst (pc' := 101) (v := 2) eX7_plan_100 rfl (by decide) ?_
              refine aw_aload_n (pc' := 102) eX7_plan_101 rfl rfl trivial ?_
              refine aw_Mref (pc' := 105) (kf := 0) 1 hM15 eX7_plan_102 rfl (by decide) rfl q789 ?_
              refine aw_bipush (pc' := 107) (v := 85) eX7_plan_105 rfl (by decide) ?_
              refine aw_MaldC (pc' := 108) 1 85 hM15 eX7_plan_107 rfl (by decide) (by unfold vp_in; decide) (by decide) ?_
              refine aw_imul (pc' := 109) eX7_plan_108 rfl ?_
              refine aw_iadd (pc' := 110) eX7_plan_109 rfl ?_
              refine aw_iload_n (pc' := 111) eX7_plan_110 rfl rfl ?_
              refine aw_MastC (pc' := 112) 1 (87 + 2 * a) hM15 eX7_plan_111 rfl (by decide) (hv7 _) (hx7 _) (fun h20 hM18 hs19 => ?_)
              have hT21 := hs16.tr hs19
              refine aw_aload_n (pc' := 113) eX7_plan_112 rfl rfl trivial ?_
              refine aw_Mref (pc' := 116) (kf := 0) 1 hM18 eX7_plan_113 rfl (by decide) rfl q789 ?_
              refine aw_bipush (pc' := 118) (v := 85) eX7_plan_116 rfl (by decide) ?_
              refine aw_dup2 (pc' := 119) eX7_plan_118 rfl rfl rfl ?_
              refine aw_MaldC (pc' := 120) 1 85 hM18 eX7_plan_119 rfl (by decide) (by unfold vp_in; decide) (by decide) ?_
              refine aw_iconst (pc' := 121) (v := 1) eX7_plan_120 rfl (by decide) ?_
              refine aw_iadd (pc' := 122) eX7_plan_121 rfl ?_
              refine aw_MastC (pc' := 123) 1 85 hM18 eX7_plan_122 rfl (by decide) (by unfold vp_in; decide) (by decide) (fun h24 hM22 hs23 => ?_)
              have hT25 := hT21.tr hs23
              refine aw_aload_n (pc' := 124) eX7_plan_123 rfl rfl trivial ?_
              refine aw_Mref (pc' := 127) (kf := 0) 1 hM22 eX7_plan_124 rfl (by decide) rfl q789 ?_
              refine aw_bipush (pc' := 129) (v := 85) eX7_plan_127 rfl (by decide) ?_
              refine aw_MaldC (pc' := 130) 1 85 hM22 eX7_plan_129 rfl (by decide) (by unfold vp_in; decide) (by decide) ?_
              refine aw_ret (v := some (.int _)) eX7_plan_130 ⟨rfl, rfl⟩ (by omega) (by omega) rfl ?_
              try simp only [zb_eq0, Bool.not_eq_false, Bool.not_eq_true, decide_eq_true_eq, decide_eq_false_iff_not, Decidable.not_not, hm.1] at c_16 c_21 c_34
              have eok : sPlanOk m t p = true := by first | (simp [sPlanOk, c_16, c_21, c_34]; done) | (exfalso; simp_all; done) | (exfalso; have z := c_21.symm.trans c_39; exact absurd z (by decide)) | (exfalso; have z := c_26.symm.trans c_39; exact absurd z (by decide))
              rw [sPlan, if_neg c_2, if_pos eok, if_neg c_70]
              have hM9 := hM22
              simp only [mup_mg, mg_mg, mg_1] at hM9
              exact ⟨by simp [mup1], hM9, hT25⟩
            · refine aw_bipush (pc' := 75) (v := -4) eX7_plan_73 rfl (by decide) ?_
              refine aw_ret (v := some (.int _)) eX7_plan_75 ⟨rfl, rfl⟩ (by omega) (by omega) rfl ?_
              try simp only [zb_eq0, Bool.not_eq_false, Bool.not_eq_true, decide_eq_true_eq, decide_eq_false_iff_not, Decidable.not_not, hm.1] at c_16 c_21 c_34
              have eok : sPlanOk m t p = true := by first | (simp [sPlanOk, c_16, c_21, c_34]; done) | (exfalso; simp_all; done) | (exfalso; have z := c_21.symm.trans c_39; exact absurd z (by decide)) | (exfalso; have z := c_26.symm.trans c_39; exact absurd z (by decide))
              rw [hs] at c_70
              rw [sPlan, if_neg c_2, if_pos eok, if_pos c_70]
              exact ⟨rfl, by rw [mg_id]; exact hM, Same.rf⟩
          · exact absurd c_56 (by decide)
        · refine aw_iload_n (pc' := 38) eX7_plan_37 rfl rfl ?_
          refine aw_iconst (pc' := 39) (v := 3) eX7_plan_38 rfl (by decide) ?_
          refine aw_icmp_ne (pc' := 42) (tgt := 53) eX7_plan_39 rfl (by decide) (fun c_39 => ?_) (fun c_39 => ?_)
          · refine aw_iconst (pc' := 54) (v := 0) eX7_plan_53 rfl (by decide) ?_
            refine aw_istore_n (pc' := 55) eX7_plan_54 rfl (by decide) ?_
            dsimp only [zst, zst2, zcut]
            refine aw_iload_n (pc' := 56) eX7_plan_55 rfl rfl ?_
            refine aw_if_ne (pc' := 59) (tgt := 61) eX7_plan_56 rfl (by decide) (fun c_56 => ?_) (fun c_56 => ?_)
            · exact absurd c_56 (by decide)
            · refine aw_iconst (pc' := 60) (v := -1) eX7_plan_59 rfl (by decide) ?_
              refine aw_ret (v := some (.int _)) eX7_plan_60 ⟨rfl, rfl⟩ (by omega) (by omega) rfl ?_
              try simp only [zb_eq0, Bool.not_eq_false, Bool.not_eq_true, decide_eq_true_eq, decide_eq_false_iff_not, Decidable.not_not, hm.1] at c_16 c_21 c_34 c_39
              have eok : sPlanOk m t p = false := by first | (simp [sPlanOk, c_16, c_21, c_34, c_39]; done) | (exfalso; simp_all; done) | (exfalso; have z := c_21.symm.trans c_39; exact absurd z (by decide)) | (exfalso; have z := c_26.symm.trans c_39; exact absurd z (by decide))
              rw [sPlan, if_neg c_2, if_neg (by rw [eok]; decide)]
              exact ⟨rfl, by rw [mg_id]; exact hM, Same.rf⟩
          · refine aw_iload_n (pc' := 43) eX7_plan_42 rfl rfl ?_
            refine aw_calls (pc' := 46) (nn := 1) (c_X7_isPlace (d := d - 1) _ (by omega)) eX7_plan_43 rfl ⟨q1017, q1019, q62⟩ q1018 ⟨by decide +kernel, by decide +kernel, by decide +kernel⟩ rfl ⟨by omega, by decide⟩ ⟨by omega, by omega⟩ rfl (Nat.le_of_ble_eq_true rfl) (fun v26 h27 hq28 => ?_)
            obtain ⟨rfl, rfl⟩ := hq28
            dsimp only [Option.toList, List.cons_append, List.nil_append]
            refine aw_if_eq (pc' := 49) (tgt := 53) eX7_plan_46 rfl (by decide) (fun c_46 => ?_) (fun c_46 => ?_)
            · refine aw_iconst (pc' := 54) (v := 0) eX7_plan_53 rfl (by decide) ?_
              refine aw_istore_n (pc' := 55) eX7_plan_54 rfl (by decide) ?_
              dsimp only [zst, zst2, zcut]
              refine aw_iload_n (pc' := 56) eX7_plan_55 rfl rfl ?_
              refine aw_if_ne (pc' := 59) (tgt := 61) eX7_plan_56 rfl (by decide) (fun c_56 => ?_) (fun c_56 => ?_)
              · exact absurd c_56 (by decide)
              · refine aw_iconst (pc' := 60) (v := -1) eX7_plan_59 rfl (by decide) ?_
                refine aw_ret (v := some (.int _)) eX7_plan_60 ⟨rfl, rfl⟩ (by omega) (by omega) rfl ?_
                try simp only [zb_eq0, Bool.not_eq_false, Bool.not_eq_true, decide_eq_true_eq, decide_eq_false_iff_not, Decidable.not_not, hm.1] at c_16 c_21 c_34 c_39 c_46
                have eok : sPlanOk m t p = false := by first | (simp [sPlanOk, c_16, c_21, c_34, c_39, c_46]; done) | (exfalso; simp_all; done) | (exfalso; have z := c_21.symm.trans c_39; exact absurd z (by decide)) | (exfalso; have z := c_26.symm.trans c_39; exact absurd z (by decide))
                rw [sPlan, if_neg c_2, if_neg (by rw [eok]; decide)]
                exact ⟨rfl, by rw [mg_id]; exact hM, Same.rf⟩
            · refine aw_iconst (pc' := 50) (v := 1) eX7_plan_49 rfl (by decide) ?_
              refine aw_goto eX7_plan_50 (by decide) (tgt := 54) ?_
              refine aw_istore_n (pc' := 55) eX7_plan_54 rfl (by decide) ?_
              dsimp only [zst, zst2, zcut]
              refine aw_iload_n (pc' := 56) eX7_plan_55 rfl rfl ?_
              refine aw_if_ne (pc' := 59) (tgt := 61) eX7_plan_56 rfl (by decide) (fun c_56 => ?_) (fun c_56 => ?_)
              · refine aw_aload_n (pc' := 62) eX7_plan_61 rfl rfl trivial ?_
                refine aw_Mref (pc' := 65) (kf := 0) 1 hM eX7_plan_62 rfl (by decide) rfl q789 ?_
                refine aw_bipush (pc' := 67) (v := 85) eX7_plan_65 rfl (by decide) ?_
                refine aw_MaldC (pc' := 68) 1 85 hM eX7_plan_67 rfl (by decide) (by unfold vp_in; decide) (by decide) ?_
                refine aw_bipush (pc' := 70) (v := 10) eX7_plan_68 rfl (by decide) ?_
                refine aw_icmp_ne (pc' := 73) (tgt := 76) eX7_plan_70 rfl (by decide) (fun c_70 => ?_) (fun c_70 => ?_)
                · rw [hs] at c_70
                  have ha5 : a < 10 := by
                    rcases Nat.lt_or_ge a 10 with z | z
                    · exact z
                    · exact absurd (by rw [show a = 10 by omega]; rfl) c_70
                  have hx6 : (86 + 2 * U.1 1 85).toNatClampNeg = 86 + 2 * a := by rw [hs]; exact (ix3 (c := 86) (b := 2) (by omega)).1
                  have hv6 : vp_in (86 + 2 * U.1 1 85) 123 := by rw [hs]; exact (ix3 (c := 86) (b := 2) (by omega)).2
                  have e7 : ∀ x : Int32, (mup U 1 (86 + 2 * a) x).1 1 85 = nI a := fun x => by rw [mup1, upd_ne (by omega)]; exact hs
                  have hx7 : ∀ x : Int32, (87 + 2 * (mup U 1 (86 + 2 * a) x).1 1 85).toNatClampNeg = 87 + 2 * a := fun x => by rw [e7]; exact (ix3 (c := 87) (b := 2) (by omega)).1
                  have hv7 : ∀ x : Int32, vp_in (87 + 2 * (mup U 1 (86 + 2 * a) x).1 1 85) 123 := fun x => by rw [e7]; exact (ix3 (c := 87) (b := 2) (by omega)).2
                  refine aw_aload_n (pc' := 77) eX7_plan_76 rfl rfl trivial ?_
                  refine aw_Mref (pc' := 80) (kf := 0) 1 hM eX7_plan_77 rfl (by decide) rfl q789 ?_
                  refine aw_bipush (pc' := 82) (v := 86) eX7_plan_80 rfl (by decide) ?_
                  refine aw_iconst (pc' := 83) (v := 2) eX7_plan_82 rfl (by decide) ?_
                  refine aw_aload_n (pc' := 84) eX7_plan_83 rfl rfl trivial ?_
                  refine aw_Mref (pc' := 87) (kf := 0) 1 hM eX7_plan_84 rfl (by decide) rfl q789 ?_
                  refine aw_bipush (pc' := 89) (v := 85) eX7_plan_87 rfl (by decide) ?_
                  refine aw_MaldC (pc' := 90) 1 85 hM eX7_plan_89 rfl (by decide) (by unfold vp_in; decide) (by decide) ?_
                  refine aw_imul (pc' := 91) eX7_plan_90 rfl ?_
                  refine aw_iadd (pc' := 92) eX7_plan_91 rfl ?_
                  refine aw_iload_n (pc' := 93) eX7_plan_92 rfl rfl ?_
                  refine aw_MastC (pc' := 94) 1 (86 + 2 * a) hM eX7_plan_93 rfl (by decide) hv6 hx6 (fun h31 hM29 hs30 => ?_)
                  refine aw_aload_n (pc' := 95) eX7_plan_94 rfl rfl trivial ?_
                  refine aw_Mref (pc' := 98) (kf := 0) 1 hM29 eX7_plan_95 rfl (by decide) rfl q789 ?_
                  refine aw_bipush (pc' := 100) (v := 87) eX7_plan_98 rfl (by decide) ?_
                  refine aw_iconst (pc' := 101) (v := 2) eX7_plan_100 rfl (by decide) ?_
                  refine aw_aload_n (pc' := 102) eX7_plan_101 rfl rfl trivial ?_
                  refine aw_Mref (pc' := 105) (kf := 0) 1 hM29 eX7_plan_102 rfl (by decide) rfl q789 ?_
                  refine aw_bipush (pc' := 107) (v := 85) eX7_plan_105 rfl (by decide) ?_
                  refine aw_MaldC (pc' := 108) 1 85 hM29 eX7_plan_107 rfl (by decide) (by unfold vp_in; decide) (by decide) ?_
                  refine aw_imul (pc' := 109) eX7_plan_108 rfl ?_
                  refine aw_iadd (pc' := 110) eX7_plan_109 rfl ?_
                  refine aw_iload_n (pc' := 111) eX7_plan_110 rfl rfl ?_
                  refine aw_MastC (pc' := 112) 1 (87 + 2 * a) hM29 eX7_plan_111 rfl (by decide) (hv7 _) (hx7 _) (fun h34 hM32 hs33 => ?_)
                  have hT35 := hs30.tr hs33
                  refine aw_aload_n (pc' := 113) eX7_plan_112 rfl rfl trivial ?_
                  refine aw_Mref (pc' := 116) (kf := 0) 1 hM32 eX7_plan_113 rfl (by decide) rfl q789 ?_
                  refine aw_bipush (pc' := 118) (v := 85) eX7_plan_116 rfl (by decide) ?_
                  refine aw_dup2 (pc' := 119) eX7_plan_118 rfl rfl rfl ?_
                  refine aw_MaldC (pc' := 120) 1 85 hM32 eX7_plan_119 rfl (by decide) (by unfold vp_in; decide) (by decide) ?_
                  refine aw_iconst (pc' := 121) (v := 1) eX7_plan_120 rfl (by decide) ?_
                  refine aw_iadd (pc' := 122) eX7_plan_121 rfl ?_
                  refine aw_MastC (pc' := 123) 1 85 hM32 eX7_plan_122 rfl (by decide) (by unfold vp_in; decide) (by decide) (fun h38 hM36 hs37 => ?_)
                  have hT39 := hT35.tr hs37
                  refine aw_aload_n (pc' := 124) eX7_plan_123 rfl rfl trivial ?_
                  refine aw_Mref (pc' := 127) (kf := 0) 1 hM36 eX7_plan_124 rfl (by decide) rfl q789 ?_
                  refine aw_bipush (pc' := 129) (v := 85) eX7_plan_127 rfl (by decide) ?_
                  refine aw_MaldC (pc' := 130) 1 85 hM36 eX7_plan_129 rfl (by decide) (by unfold vp_in; decide) (by decide) ?_
                  refine aw_ret (v := some (.int _)) eX7_plan_130 ⟨rfl, rfl⟩ (by omega) (by omega) rfl ?_
                  try simp only [zb_eq0, Bool.not_eq_false, Bool.not_eq_true, decide_eq_true_eq, decide_eq_false_iff_not, Decidable.not_not, hm.1] at c_16 c_21 c_34 c_39 c_46
                  have eok : sPlanOk m t p = true := by first | (simp [sPlanOk, c_16, c_21, c_34, c_39, c_46]; done) | (exfalso; simp_all; done) | (exfalso; have z := c_21.symm.trans c_39; exact absurd z (by decide)) | (exfalso; have z := c_26.symm.trans c_39; exact absurd z (by decide))
                  rw [sPlan, if_neg c_2, if_pos eok, if_neg c_70]
                  have hM9 := hM36
                  simp only [mup_mg, mg_mg, mg_1] at hM9
                  exact ⟨by simp [mup1], hM9, hT39⟩
                · refine aw_bipush (pc' := 75) (v := -4) eX7_plan_73 rfl (by decide) ?_
                  refine aw_ret (v := some (.int _)) eX7_plan_75 ⟨rfl, rfl⟩ (by omega) (by omega) rfl ?_
                  try simp only [zb_eq0, Bool.not_eq_false, Bool.not_eq_true, decide_eq_true_eq, decide_eq_false_iff_not, Decidable.not_not, hm.1] at c_16 c_21 c_34 c_39 c_46
                  have eok : sPlanOk m t p = true := by first | (simp [sPlanOk, c_16, c_21, c_34, c_39, c_46]; done) | (exfalso; simp_all; done) | (exfalso; have z := c_21.symm.trans c_39; exact absurd z (by decide)) | (exfalso; have z := c_26.symm.trans c_39; exact absurd z (by decide))
                  rw [hs] at c_70
                  rw [sPlan, if_neg c_2, if_pos eok, if_pos c_70]
                  exact ⟨rfl, by rw [mg_id]; exact hM, Same.rf⟩
              · exact absurd c_56 (by decide)
      · refine aw_iload_n (pc' := 25) eX7_plan_24 rfl rfl ?_
        refine aw_iconst (pc' := 26) (v := 2) eX7_plan_25 rfl (by decide) ?_
        refine aw_icmp_ne (pc' := 29) (tgt := 37) eX7_plan_26 rfl (by decide) (fun c_26 => ?_) (fun c_26 => ?_)
        · refine aw_iload_n (pc' := 38) eX7_plan_37 rfl rfl ?_
          refine aw_iconst (pc' := 39) (v := 3) eX7_plan_38 rfl (by decide) ?_
          refine aw_icmp_ne (pc' := 42) (tgt := 53) eX7_plan_39 rfl (by decide) (fun c_39 => ?_) (fun c_39 => ?_)
          · refine aw_iconst (pc' := 54) (v := 0) eX7_plan_53 rfl (by decide) ?_
            refine aw_istore_n (pc' := 55) eX7_plan_54 rfl (by decide) ?_
            dsimp only [zst, zst2, zcut]
            refine aw_iload_n (pc' := 56) eX7_plan_55 rfl rfl ?_
            refine aw_if_ne (pc' := 59) (tgt := 61) eX7_plan_56 rfl (by decide) (fun c_56 => ?_) (fun c_56 => ?_)
            · exact absurd c_56 (by decide)
            · refine aw_iconst (pc' := 60) (v := -1) eX7_plan_59 rfl (by decide) ?_
              refine aw_ret (v := some (.int _)) eX7_plan_60 ⟨rfl, rfl⟩ (by omega) (by omega) rfl ?_
              try simp only [zb_eq0, Bool.not_eq_false, Bool.not_eq_true, decide_eq_true_eq, decide_eq_false_iff_not, Decidable.not_not, hm.1] at c_16 c_21 c_26 c_39
              have eok : sPlanOk m t p = false := by first | (simp [sPlanOk, c_16, c_21, c_26, c_39]; done) | (exfalso; simp_all; done) | (exfalso; have z := c_21.symm.trans c_39; exact absurd z (by decide)) | (exfalso; have z := c_26.symm.trans c_39; exact absurd z (by decide))
              rw [sPlan, if_neg c_2, if_neg (by rw [eok]; decide)]
              exact ⟨rfl, by rw [mg_id]; exact hM, Same.rf⟩
          · refine aw_iload_n (pc' := 43) eX7_plan_42 rfl rfl ?_
            refine aw_calls (pc' := 46) (nn := 1) (c_X7_isPlace (d := d - 1) _ (by omega)) eX7_plan_43 rfl ⟨q1017, q1019, q62⟩ q1018 ⟨by decide +kernel, by decide +kernel, by decide +kernel⟩ rfl ⟨by omega, by decide⟩ ⟨by omega, by omega⟩ rfl (Nat.le_of_ble_eq_true rfl) (fun v40 h41 hq42 => ?_)
            obtain ⟨rfl, rfl⟩ := hq42
            dsimp only [Option.toList, List.cons_append, List.nil_append]
            refine aw_if_eq (pc' := 49) (tgt := 53) eX7_plan_46 rfl (by decide) (fun c_46 => ?_) (fun c_46 => ?_)
            · refine aw_iconst (pc' := 54) (v := 0) eX7_plan_53 rfl (by decide) ?_
              refine aw_istore_n (pc' := 55) eX7_plan_54 rfl (by decide) ?_
              dsimp only [zst, zst2, zcut]
              refine aw_iload_n (pc' := 56) eX7_plan_55 rfl rfl ?_
              refine aw_if_ne (pc' := 59) (tgt := 61) eX7_plan_56 rfl (by decide) (fun c_56 => ?_) (fun c_56 => ?_)
              · exact absurd c_56 (by decide)
              · refine aw_iconst (pc' := 60) (v := -1) eX7_plan_59 rfl (by decide) ?_
                refine aw_ret (v := some (.int _)) eX7_plan_60 ⟨rfl, rfl⟩ (by omega) (by omega) rfl ?_
                try simp only [zb_eq0, Bool.not_eq_false, Bool.not_eq_true, decide_eq_true_eq, decide_eq_false_iff_not, Decidable.not_not, hm.1] at c_16 c_21 c_26 c_39 c_46
                have eok : sPlanOk m t p = false := by first | (simp [sPlanOk, c_16, c_21, c_26, c_39, c_46]; done) | (exfalso; simp_all; done) | (exfalso; have z := c_21.symm.trans c_39; exact absurd z (by decide)) | (exfalso; have z := c_26.symm.trans c_39; exact absurd z (by decide))
                rw [sPlan, if_neg c_2, if_neg (by rw [eok]; decide)]
                exact ⟨rfl, by rw [mg_id]; exact hM, Same.rf⟩
            · refine aw_iconst (pc' := 50) (v := 1) eX7_plan_49 rfl (by decide) ?_
              refine aw_goto eX7_plan_50 (by decide) (tgt := 54) ?_
              refine aw_istore_n (pc' := 55) eX7_plan_54 rfl (by decide) ?_
              dsimp only [zst, zst2, zcut]
              refine aw_iload_n (pc' := 56) eX7_plan_55 rfl rfl ?_
              refine aw_if_ne (pc' := 59) (tgt := 61) eX7_plan_56 rfl (by decide) (fun c_56 => ?_) (fun c_56 => ?_)
              · refine aw_aload_n (pc' := 62) eX7_plan_61 rfl rfl trivial ?_
                refine aw_Mref (pc' := 65) (kf := 0) 1 hM eX7_plan_62 rfl (by decide) rfl q789 ?_
                refine aw_bipush (pc' := 67) (v := 85) eX7_plan_65 rfl (by decide) ?_
                refine aw_MaldC (pc' := 68) 1 85 hM eX7_plan_67 rfl (by decide) (by unfold vp_in; decide) (by decide) ?_
                refine aw_bipush (pc' := 70) (v := 10) eX7_plan_68 rfl (by decide) ?_
                refine aw_icmp_ne (pc' := 73) (tgt := 76) eX7_plan_70 rfl (by decide) (fun c_70 => ?_) (fun c_70 => ?_)
                · rw [hs] at c_70
                  have ha5 : a < 10 := by
                    rcases Nat.lt_or_ge a 10 with z | z
                    · exact z
                    · exact absurd (by rw [show a = 10 by omega]; rfl) c_70
                  have hx6 : (86 + 2 * U.1 1 85).toNatClampNeg = 86 + 2 * a := by rw [hs]; exact (ix3 (c := 86) (b := 2) (by omega)).1
                  have hv6 : vp_in (86 + 2 * U.1 1 85) 123 := by rw [hs]; exact (ix3 (c := 86) (b := 2) (by omega)).2
                  have e7 : ∀ x : Int32, (mup U 1 (86 + 2 * a) x).1 1 85 = nI a := fun x => by rw [mup1, upd_ne (by omega)]; exact hs
                  have hx7 : ∀ x : Int32, (87 + 2 * (mup U 1 (86 + 2 * a) x).1 1 85).toNatClampNeg = 87 + 2 * a := fun x => by rw [e7]; exact (ix3 (c := 87) (b := 2) (by omega)).1
                  have hv7 : ∀ x : Int32, vp_in (87 + 2 * (mup U 1 (86 + 2 * a) x).1 1 85) 123 := fun x => by rw [e7]; exact (ix3 (c := 87) (b := 2) (by omega)).2
                  refine aw_aload_n (pc' := 77) eX7_plan_76 rfl rfl trivial ?_
                  refine aw_Mref (pc' := 80) (kf := 0) 1 hM eX7_plan_77 rfl (by decide) rfl q789 ?_
                  refine aw_bipush (pc' := 82) (v := 86) eX7_plan_80 rfl (by decide) ?_
                  refine aw_iconst (pc' := 83) (v := 2) eX7_plan_82 rfl (by decide) ?_
                  refine aw_aload_n (pc' := 84) eX7_plan_83 rfl rfl trivial ?_
                  refine aw_Mref (pc' := 87) (kf := 0) 1 hM eX7_plan_84 rfl (by decide) rfl q789 ?_
                  refine aw_bipush (pc' := 89) (v := 85) eX7_plan_87 rfl (by decide) ?_
                  refine aw_MaldC (pc' := 90) 1 85 hM eX7_plan_89 rfl (by decide) (by unfold vp_in; decide) (by decide) ?_
                  refine aw_imul (pc' := 91) eX7_plan_90 rfl ?_
                  refine aw_iadd (pc' := 92) eX7_plan_91 rfl ?_
                  refine aw_iload_n (pc' := 93) eX7_plan_92 rfl rfl ?_
                  refine aw_MastC (pc' := 94) 1 (86 + 2 * a) hM eX7_plan_93 rfl (by decide) hv6 hx6 (fun h45 hM43 hs44 => ?_)
                  refine aw_aload_n (pc' := 95) eX7_plan_94 rfl rfl trivial ?_
                  refine aw_Mref (pc' := 98) (kf := 0) 1 hM43 eX7_plan_95 rfl (by decide) rfl q789 ?_
                  refine aw_bipush (pc' := 100) (v := 87) eX7_plan_98 rfl (by decide) ?_
                  refine aw_iconst (pc' := 101) (v := 2) eX7_plan_100 rfl (by decide) ?_
                  refine aw_aload_n (pc' := 102) eX7_plan_101 rfl rfl trivial ?_
                  refine aw_Mref (pc' := 105) (kf := 0) 1 hM43 eX7_plan_102 rfl (by decide) rfl q789 ?_
                  refine aw_bipush (pc' := 107) (v := 85) eX7_plan_105 rfl (by decide) ?_
                  refine aw_MaldC (pc' := 108) 1 85 hM43 eX7_plan_107 rfl (by decide) (by unfold vp_in; decide) (by decide) ?_
                  refine aw_imul (pc' := 109) eX7_plan_108 rfl ?_
                  refine aw_iadd (pc' := 110) eX7_plan_109 rfl ?_
                  refine aw_iload_n (pc' := 111) eX7_plan_110 rfl rfl ?_
                  refine aw_MastC (pc' := 112) 1 (87 + 2 * a) hM43 eX7_plan_111 rfl (by decide) (hv7 _) (hx7 _) (fun h48 hM46 hs47 => ?_)
                  have hT49 := hs44.tr hs47
                  refine aw_aload_n (pc' := 113) eX7_plan_112 rfl rfl trivial ?_
                  refine aw_Mref (pc' := 116) (kf := 0) 1 hM46 eX7_plan_113 rfl (by decide) rfl q789 ?_
                  refine aw_bipush (pc' := 118) (v := 85) eX7_plan_116 rfl (by decide) ?_
                  refine aw_dup2 (pc' := 119) eX7_plan_118 rfl rfl rfl ?_
                  refine aw_MaldC (pc' := 120) 1 85 hM46 eX7_plan_119 rfl (by decide) (by unfold vp_in; decide) (by decide) ?_
                  refine aw_iconst (pc' := 121) (v := 1) eX7_plan_120 rfl (by decide) ?_
                  refine aw_iadd (pc' := 122) eX7_plan_121 rfl ?_
                  refine aw_MastC (pc' := 123) 1 85 hM46 eX7_plan_122 rfl (by decide) (by unfold vp_in; decide) (by decide) (fun h52 hM50 hs51 => ?_)
                  have hT53 := hT49.tr hs51
                  refine aw_aload_n (pc' := 124) eX7_plan_123 rfl rfl trivial ?_
                  refine aw_Mref (pc' := 127) (kf := 0) 1 hM50 eX7_plan_124 rfl (by decide) rfl q789 ?_
                  refine aw_bipush (pc' := 129) (v := 85) eX7_plan_127 rfl (by decide) ?_
                  refine aw_MaldC (pc' := 130) 1 85 hM50 eX7_plan_129 rfl (by decide) (by unfold vp_in; decide) (by decide) ?_
                  refine aw_ret (v := some (.int _)) eX7_plan_130 ⟨rfl, rfl⟩ (by omega) (by omega) rfl ?_
                  try simp only [zb_eq0, Bool.not_eq_false, Bool.not_eq_true, decide_eq_true_eq, decide_eq_false_iff_not, Decidable.not_not, hm.1] at c_16 c_21 c_26 c_39 c_46
                  have eok : sPlanOk m t p = true := by first | (simp [sPlanOk, c_16, c_21, c_26, c_39, c_46]; done) | (exfalso; simp_all; done) | (exfalso; have z := c_21.symm.trans c_39; exact absurd z (by decide)) | (exfalso; have z := c_26.symm.trans c_39; exact absurd z (by decide))
                  rw [sPlan, if_neg c_2, if_pos eok, if_neg c_70]
                  have hM9 := hM50
                  simp only [mup_mg, mg_mg, mg_1] at hM9
                  exact ⟨by simp [mup1], hM9, hT53⟩
                · refine aw_bipush (pc' := 75) (v := -4) eX7_plan_73 rfl (by decide) ?_
                  refine aw_ret (v := some (.int _)) eX7_plan_75 ⟨rfl, rfl⟩ (by omega) (by omega) rfl ?_
                  try simp only [zb_eq0, Bool.not_eq_false, Bool.not_eq_true, decide_eq_true_eq, decide_eq_false_iff_not, Decidable.not_not, hm.1] at c_16 c_21 c_26 c_39 c_46
                  have eok : sPlanOk m t p = true := by first | (simp [sPlanOk, c_16, c_21, c_26, c_39, c_46]; done) | (exfalso; simp_all; done) | (exfalso; have z := c_21.symm.trans c_39; exact absurd z (by decide)) | (exfalso; have z := c_26.symm.trans c_39; exact absurd z (by decide))
                  rw [hs] at c_70
                  rw [sPlan, if_neg c_2, if_pos eok, if_pos c_70]
                  exact ⟨rfl, by rw [mg_id]; exact hM, Same.rf⟩
              · exact absurd c_56 (by decide)
        · refine aw_aload_n (pc' := 30) eX7_plan_29 rfl rfl trivial ?_
          refine aw_iload_n (pc' := 31) eX7_plan_30 rfl rfl ?_
          refine aw_callv (pc' := 34) (nn := 1) (c_X7_isOne (d := d - 1) hM _ (by omega)) eX7_plan_31 rfl ⟨q897, q900, q62⟩ q899 q21 ⟨rfl, by decide +kernel, by decide +kernel, by decide +kernel⟩ rfl (by rw [hM.2.1]; exact ⟨rfl, rfl⟩) rfl ⟨by omega, by decide⟩ ⟨by omega, by omega⟩ rfl (Nat.le_of_ble_eq_true rfl) (fun v54 h55 hq56 => ?_)
          obtain ⟨rfl, rfl⟩ := hq56
          dsimp only [Option.toList, List.cons_append, List.nil_append]
          refine aw_if_ne (pc' := 37) (tgt := 49) eX7_plan_34 rfl (by decide) (fun c_34 => ?_) (fun c_34 => ?_)
          · refine aw_iconst (pc' := 50) (v := 1) eX7_plan_49 rfl (by decide) ?_
            refine aw_goto eX7_plan_50 (by decide) (tgt := 54) ?_
            refine aw_istore_n (pc' := 55) eX7_plan_54 rfl (by decide) ?_
            dsimp only [zst, zst2, zcut]
            refine aw_iload_n (pc' := 56) eX7_plan_55 rfl rfl ?_
            refine aw_if_ne (pc' := 59) (tgt := 61) eX7_plan_56 rfl (by decide) (fun c_56 => ?_) (fun c_56 => ?_)
            · refine aw_aload_n (pc' := 62) eX7_plan_61 rfl rfl trivial ?_
              refine aw_Mref (pc' := 65) (kf := 0) 1 hM eX7_plan_62 rfl (by decide) rfl q789 ?_
              refine aw_bipush (pc' := 67) (v := 85) eX7_plan_65 rfl (by decide) ?_
              refine aw_MaldC (pc' := 68) 1 85 hM eX7_plan_67 rfl (by decide) (by unfold vp_in; decide) (by decide) ?_
              refine aw_bipush (pc' := 70) (v := 10) eX7_plan_68 rfl (by decide) ?_
              refine aw_icmp_ne (pc' := 73) (tgt := 76) eX7_plan_70 rfl (by decide) (fun c_70 => ?_) (fun c_70 => ?_)
              · rw [hs] at c_70
                have ha5 : a < 10 := by
                  rcases Nat.lt_or_ge a 10 with z | z
                  · exact z
                  · exact absurd (by rw [show a = 10 by omega]; rfl) c_70
                have hx6 : (86 + 2 * U.1 1 85).toNatClampNeg = 86 + 2 * a := by rw [hs]; exact (ix3 (c := 86) (b := 2) (by omega)).1
                have hv6 : vp_in (86 + 2 * U.1 1 85) 123 := by rw [hs]; exact (ix3 (c := 86) (b := 2) (by omega)).2
                have e7 : ∀ x : Int32, (mup U 1 (86 + 2 * a) x).1 1 85 = nI a := fun x => by rw [mup1, upd_ne (by omega)]; exact hs
                have hx7 : ∀ x : Int32, (87 + 2 * (mup U 1 (86 + 2 * a) x).1 1 85).toNatClampNeg = 87 + 2 * a := fun x => by rw [e7]; exact (ix3 (c := 87) (b := 2) (by omega)).1
                have hv7 : ∀ x : Int32, vp_in (87 + 2 * (mup U 1 (86 + 2 * a) x).1 1 85) 123 := fun x => by rw [e7]; exact (ix3 (c := 87) (b := 2) (by omega)).2
                refine aw_aload_n (pc' := 77) eX7_plan_76 rfl rfl trivial ?_
                refine aw_Mref (pc' := 80) (kf := 0) 1 hM eX7_plan_77 rfl (by decide) rfl q789 ?_
                refine aw_bipush (pc' := 82) (v := 86) eX7_plan_80 rfl (by decide) ?_
                refine aw_iconst (pc' := 83) (v := 2) eX7_plan_82 rfl (by decide) ?_
                refine aw_aload_n (pc' := 84) eX7_plan_83 rfl rfl trivial ?_
                refine aw_Mref (pc' := 87) (kf := 0) 1 hM eX7_plan_84 rfl (by decide) rfl q789 ?_
                refine aw_bipush (pc' := 89) (v := 85) eX7_plan_87 rfl (by decide) ?_
                refine aw_MaldC (pc' := 90) 1 85 hM eX7_plan_89 rfl (by decide) (by unfold vp_in; decide) (by decide) ?_
                refine aw_imul (pc' := 91) eX7_plan_90 rfl ?_
                refine aw_iadd (pc' := 92) eX7_plan_91 rfl ?_
                refine aw_iload_n (pc' := 93) eX7_plan_92 rfl rfl ?_
                refine aw_MastC (pc' := 94) 1 (86 + 2 * a) hM eX7_plan_93 rfl (by decide) hv6 hx6 (fun h59 hM57 hs58 => ?_)
                refine aw_aload_n (pc' := 95) eX7_plan_94 rfl rfl trivial ?_
                refine aw_Mref (pc' := 98) (kf := 0) 1 hM57 eX7_plan_95 rfl (by decide) rfl q789 ?_
                refine aw_bipush (pc' := 100) (v := 87) eX7_plan_98 rfl (by decide) ?_
                refine aw_iconst (pc' := 101) (v := 2) eX7_plan_100 rfl (by decide) ?_
                refine aw_aload_n (pc' := 102) eX7_plan_101 rfl rfl trivial ?_
                refine aw_Mref (pc' := 105) (kf := 0) 1 hM57 eX7_plan_102 rfl (by decide) rfl q789 ?_
                refine aw_bipush (pc' := 107) (v := 85) eX7_plan_105 rfl (by decide) ?_
                refine aw_MaldC (pc' := 108) 1 85 hM57 eX7_plan_107 rfl (by decide) (by unfold vp_in; decide) (by decide) ?_
                refine aw_imul (pc' := 109) eX7_plan_108 rfl ?_
                refine aw_iadd (pc' := 110) eX7_plan_109 rfl ?_
                refine aw_iload_n (pc' := 111) eX7_plan_110 rfl rfl ?_
                refine aw_MastC (pc' := 112) 1 (87 + 2 * a) hM57 eX7_plan_111 rfl (by decide) (hv7 _) (hx7 _) (fun h62 hM60 hs61 => ?_)
                have hT63 := hs58.tr hs61
                refine aw_aload_n (pc' := 113) eX7_plan_112 rfl rfl trivial ?_
                refine aw_Mref (pc' := 116) (kf := 0) 1 hM60 eX7_plan_113 rfl (by decide) rfl q789 ?_
                refine aw_bipush (pc' := 118) (v := 85) eX7_plan_116 rfl (by decide) ?_
                refine aw_dup2 (pc' := 119) eX7_plan_118 rfl rfl rfl ?_
                refine aw_MaldC (pc' := 120) 1 85 hM60 eX7_plan_119 rfl (by decide) (by unfold vp_in; decide) (by decide) ?_
                refine aw_iconst (pc' := 121) (v := 1) eX7_plan_120 rfl (by decide) ?_
                refine aw_iadd (pc' := 122) eX7_plan_121 rfl ?_
                refine aw_MastC (pc' := 123) 1 85 hM60 eX7_plan_122 rfl (by decide) (by unfold vp_in; decide) (by decide) (fun h66 hM64 hs65 => ?_)
                have hT67 := hT63.tr hs65
                refine aw_aload_n (pc' := 124) eX7_plan_123 rfl rfl trivial ?_
                refine aw_Mref (pc' := 127) (kf := 0) 1 hM64 eX7_plan_124 rfl (by decide) rfl q789 ?_
                refine aw_bipush (pc' := 129) (v := 85) eX7_plan_127 rfl (by decide) ?_
                refine aw_MaldC (pc' := 130) 1 85 hM64 eX7_plan_129 rfl (by decide) (by unfold vp_in; decide) (by decide) ?_
                refine aw_ret (v := some (.int _)) eX7_plan_130 ⟨rfl, rfl⟩ (by omega) (by omega) rfl ?_
                try simp only [zb_eq0, Bool.not_eq_false, Bool.not_eq_true, decide_eq_true_eq, decide_eq_false_iff_not, Decidable.not_not, hm.1] at c_16 c_21 c_26 c_34
                have eok : sPlanOk m t p = true := by first | (simp [sPlanOk, c_16, c_21, c_26, c_34]; done) | (exfalso; simp_all; done) | (exfalso; have z := c_21.symm.trans c_39; exact absurd z (by decide)) | (exfalso; have z := c_26.symm.trans c_39; exact absurd z (by decide))
                rw [sPlan, if_neg c_2, if_pos eok, if_neg c_70]
                have hM9 := hM64
                simp only [mup_mg, mg_mg, mg_1] at hM9
                exact ⟨by simp [mup1], hM9, hT67⟩
              · refine aw_bipush (pc' := 75) (v := -4) eX7_plan_73 rfl (by decide) ?_
                refine aw_ret (v := some (.int _)) eX7_plan_75 ⟨rfl, rfl⟩ (by omega) (by omega) rfl ?_
                try simp only [zb_eq0, Bool.not_eq_false, Bool.not_eq_true, decide_eq_true_eq, decide_eq_false_iff_not, Decidable.not_not, hm.1] at c_16 c_21 c_26 c_34
                have eok : sPlanOk m t p = true := by first | (simp [sPlanOk, c_16, c_21, c_26, c_34]; done) | (exfalso; simp_all; done) | (exfalso; have z := c_21.symm.trans c_39; exact absurd z (by decide)) | (exfalso; have z := c_26.symm.trans c_39; exact absurd z (by decide))
                rw [hs] at c_70
                rw [sPlan, if_neg c_2, if_pos eok, if_pos c_70]
                exact ⟨rfl, by rw [mg_id]; exact hM, Same.rf⟩
            · exact absurd c_56 (by decide)
          · refine aw_iload_n (pc' := 38) eX7_plan_37 rfl rfl ?_
            refine aw_iconst (pc' := 39) (v := 3) eX7_plan_38 rfl (by decide) ?_
            refine aw_icmp_ne (pc' := 42) (tgt := 53) eX7_plan_39 rfl (by decide) (fun c_39 => ?_) (fun c_39 => ?_)
            · refine aw_iconst (pc' := 54) (v := 0) eX7_plan_53 rfl (by decide) ?_
              refine aw_istore_n (pc' := 55) eX7_plan_54 rfl (by decide) ?_
              dsimp only [zst, zst2, zcut]
              refine aw_iload_n (pc' := 56) eX7_plan_55 rfl rfl ?_
              refine aw_if_ne (pc' := 59) (tgt := 61) eX7_plan_56 rfl (by decide) (fun c_56 => ?_) (fun c_56 => ?_)
              · exact absurd c_56 (by decide)
              · refine aw_iconst (pc' := 60) (v := -1) eX7_plan_59 rfl (by decide) ?_
                refine aw_ret (v := some (.int _)) eX7_plan_60 ⟨rfl, rfl⟩ (by omega) (by omega) rfl ?_
                try simp only [zb_eq0, Bool.not_eq_false, Bool.not_eq_true, decide_eq_true_eq, decide_eq_false_iff_not, Decidable.not_not, hm.1] at c_16 c_21 c_26 c_34 c_39
                have eok : sPlanOk m t p = false := by first | (simp [sPlanOk, c_16, c_21, c_26, c_34, c_39]; done) | (exfalso; simp_all; done) | (exfalso; have z := c_21.symm.trans c_39; exact absurd z (by decide)) | (exfalso; have z := c_26.symm.trans c_39; exact absurd z (by decide))
                rw [sPlan, if_neg c_2, if_neg (by rw [eok]; decide)]
                exact ⟨rfl, by rw [mg_id]; exact hM, Same.rf⟩
            · refine aw_iload_n (pc' := 43) eX7_plan_42 rfl rfl ?_
              refine aw_calls (pc' := 46) (nn := 1) (c_X7_isPlace (d := d - 1) _ (by omega)) eX7_plan_43 rfl ⟨q1017, q1019, q62⟩ q1018 ⟨by decide +kernel, by decide +kernel, by decide +kernel⟩ rfl ⟨by omega, by decide⟩ ⟨by omega, by omega⟩ rfl (Nat.le_of_ble_eq_true rfl) (fun v68 h69 hq70 => ?_)
              obtain ⟨rfl, rfl⟩ := hq70
              dsimp only [Option.toList, List.cons_append, List.nil_append]
              refine aw_if_eq (pc' := 49) (tgt := 53) eX7_plan_46 rfl (by decide) (fun c_46 => ?_) (fun c_46 => ?_)
              · refine aw_iconst (pc' := 54) (v := 0) eX7_plan_53 rfl (by decide) ?_
                refine aw_istore_n (pc' := 55) eX7_plan_54 rfl (by decide) ?_
                dsimp only [zst, zst2, zcut]
                refine aw_iload_n (pc' := 56) eX7_plan_55 rfl rfl ?_
                refine aw_if_ne (pc' := 59) (tgt := 61) eX7_plan_56 rfl (by decide) (fun c_56 => ?_) (fun c_56 => ?_)
                · exact absurd c_56 (by decide)
                · refine aw_iconst (pc' := 60) (v := -1) eX7_plan_59 rfl (by decide) ?_
                  refine aw_ret (v := some (.int _)) eX7_plan_60 ⟨rfl, rfl⟩ (by omega) (by omega) rfl ?_
                  try simp only [zb_eq0, Bool.not_eq_false, Bool.not_eq_true, decide_eq_true_eq, decide_eq_false_iff_not, Decidable.not_not, hm.1] at c_16 c_21 c_26 c_34 c_39 c_46
                  have eok : sPlanOk m t p = false := by first | (simp [sPlanOk, c_16, c_21, c_26, c_34, c_39, c_46]; done) | (exfalso; simp_all; done) | (exfalso; have z := c_21.symm.trans c_39; exact absurd z (by decide)) | (exfalso; have z := c_26.symm.trans c_39; exact absurd z (by decide))
                  rw [sPlan, if_neg c_2, if_neg (by rw [eok]; decide)]
                  exact ⟨rfl, by rw [mg_id]; exact hM, Same.rf⟩
              · refine aw_iconst (pc' := 50) (v := 1) eX7_plan_49 rfl (by decide) ?_
                refine aw_goto eX7_plan_50 (by decide) (tgt := 54) ?_
                refine aw_istore_n (pc' := 55) eX7_plan_54 rfl (by decide) ?_
                dsimp only [zst, zst2, zcut]
                refine aw_iload_n (pc' := 56) eX7_plan_55 rfl rfl ?_
                refine aw_if_ne (pc' := 59) (tgt := 61) eX7_plan_56 rfl (by decide) (fun c_56 => ?_) (fun c_56 => ?_)
                · refine aw_aload_n (pc' := 62) eX7_plan_61 rfl rfl trivial ?_
                  refine aw_Mref (pc' := 65) (kf := 0) 1 hM eX7_plan_62 rfl (by decide) rfl q789 ?_
                  refine aw_bipush (pc' := 67) (v := 85) eX7_plan_65 rfl (by decide) ?_
                  refine aw_MaldC (pc' := 68) 1 85 hM eX7_plan_67 rfl (by decide) (by unfold vp_in; decide) (by decide) ?_
                  refine aw_bipush (pc' := 70) (v := 10) eX7_plan_68 rfl (by decide) ?_
                  refine aw_icmp_ne (pc' := 73) (tgt := 76) eX7_plan_70 rfl (by decide) (fun c_70 => ?_) (fun c_70 => ?_)
                  · rw [hs] at c_70
                    have ha5 : a < 10 := by
                      rcases Nat.lt_or_ge a 10 with z | z
                      · exact z
                      · exact absurd (by rw [show a = 10 by omega]; rfl) c_70
                    have hx6 : (86 + 2 * U.1 1 85).toNatClampNeg = 86 + 2 * a := by rw [hs]; exact (ix3 (c := 86) (b := 2) (by omega)).1
                    have hv6 : vp_in (86 + 2 * U.1 1 85) 123 := by rw [hs]; exact (ix3 (c := 86) (b := 2) (by omega)).2
                    have e7 : ∀ x : Int32, (mup U 1 (86 + 2 * a) x).1 1 85 = nI a := fun x => by rw [mup1, upd_ne (by omega)]; exact hs
                    have hx7 : ∀ x : Int32, (87 + 2 * (mup U 1 (86 + 2 * a) x).1 1 85).toNatClampNeg = 87 + 2 * a := fun x => by rw [e7]; exact (ix3 (c := 87) (b := 2) (by omega)).1
                    have hv7 : ∀ x : Int32, vp_in (87 + 2 * (mup U 1 (86 + 2 * a) x).1 1 85) 123 := fun x => by rw [e7]; exact (ix3 (c := 87) (b := 2) (by omega)).2
                    refine aw_aload_n (pc' := 77) eX7_plan_76 rfl rfl trivial ?_
                    refine aw_Mref (pc' := 80) (kf := 0) 1 hM eX7_plan_77 rfl (by decide) rfl q789 ?_
                    refine aw_bipush (pc' := 82) (v := 86) eX7_plan_80 rfl (by decide) ?_
                    refine aw_iconst (pc' := 83) (v := 2) eX7_plan_82 rfl (by decide) ?_
                    refine aw_aload_n (pc' := 84) eX7_plan_83 rfl rfl trivial ?_
                    refine aw_Mref (pc' := 87) (kf := 0) 1 hM eX7_plan_84 rfl (by decide) rfl q789 ?_
                    refine aw_bipush (pc' := 89) (v := 85) eX7_plan_87 rfl (by decide) ?_
                    refine aw_MaldC (pc' := 90) 1 85 hM eX7_plan_89 rfl (by decide) (by unfold vp_in; decide) (by decide) ?_
                    refine aw_imul (pc' := 91) eX7_plan_90 rfl ?_
                    refine aw_iadd (pc' := 92) eX7_plan_91 rfl ?_
                    refine aw_iload_n (pc' := 93) eX7_plan_92 rfl rfl ?_
                    refine aw_MastC (pc' := 94) 1 (86 + 2 * a) hM eX7_plan_93 rfl (by decide) hv6 hx6 (fun h73 hM71 hs72 => ?_)
                    refine aw_aload_n (pc' := 95) eX7_plan_94 rfl rfl trivial ?_
                    refine aw_Mref (pc' := 98) (kf := 0) 1 hM71 eX7_plan_95 rfl (by decide) rfl q789 ?_
                    refine aw_bipush (pc' := 100) (v := 87) eX7_plan_98 rfl (by decide) ?_
                    refine aw_iconst (pc' := 101) (v := 2) eX7_plan_100 rfl (by decide) ?_
                    refine aw_aload_n (pc' := 102) eX7_plan_101 rfl rfl trivial ?_
                    refine aw_Mref (pc' := 105) (kf := 0) 1 hM71 eX7_plan_102 rfl (by decide) rfl q789 ?_
                    refine aw_bipush (pc' := 107) (v := 85) eX7_plan_105 rfl (by decide) ?_
                    refine aw_MaldC (pc' := 108) 1 85 hM71 eX7_plan_107 rfl (by decide) (by unfold vp_in; decide) (by decide) ?_
                    refine aw_imul (pc' := 109) eX7_plan_108 rfl ?_
                    refine aw_iadd (pc' := 110) eX7_plan_109 rfl ?_
                    refine aw_iload_n (pc' := 111) eX7_plan_110 rfl rfl ?_
                    refine aw_MastC (pc' := 112) 1 (87 + 2 * a) hM71 eX7_plan_111 rfl (by decide) (hv7 _) (hx7 _) (fun h76 hM74 hs75 => ?_)
                    have hT77 := hs72.tr hs75
                    refine aw_aload_n (pc' := 113) eX7_plan_112 rfl rfl trivial ?_
                    refine aw_Mref (pc' := 116) (kf := 0) 1 hM74 eX7_plan_113 rfl (by decide) rfl q789 ?_
                    refine aw_bipush (pc' := 118) (v := 85) eX7_plan_116 rfl (by decide) ?_
                    refine aw_dup2 (pc' := 119) eX7_plan_118 rfl rfl rfl ?_
                    refine aw_MaldC (pc' := 120) 1 85 hM74 eX7_plan_119 rfl (by decide) (by unfold vp_in; decide) (by decide) ?_
                    refine aw_iconst (pc' := 121) (v := 1) eX7_plan_120 rfl (by decide) ?_
                    refine aw_iadd (pc' := 122) eX7_plan_121 rfl ?_
                    refine aw_MastC (pc' := 123) 1 85 hM74 eX7_plan_122 rfl (by decide) (by unfold vp_in; decide) (by decide) (fun h80 hM78 hs79 => ?_)
                    have hT81 := hT77.tr hs79
                    refine aw_aload_n (pc' := 124) eX7_plan_123 rfl rfl trivial ?_
                    refine aw_Mref (pc' := 127) (kf := 0) 1 hM78 eX7_plan_124 rfl (by decide) rfl q789 ?_
                    refine aw_bipush (pc' := 129) (v := 85) eX7_plan_127 rfl (by decide) ?_
                    refine aw_MaldC (pc' := 130) 1 85 hM78 eX7_plan_129 rfl (by decide) (by unfold vp_in; decide) (by decide) ?_
                    refine aw_ret (v := some (.int _)) eX7_plan_130 ⟨rfl, rfl⟩ (by omega) (by omega) rfl ?_
                    try simp only [zb_eq0, Bool.not_eq_false, Bool.not_eq_true, decide_eq_true_eq, decide_eq_false_iff_not, Decidable.not_not, hm.1] at c_16 c_21 c_26 c_34 c_39 c_46
                    have eok : sPlanOk m t p = true := by first | (simp [sPlanOk, c_16, c_21, c_26, c_34, c_39, c_46]; done) | (exfalso; simp_all; done) | (exfalso; have z := c_21.symm.trans c_39; exact absurd z (by decide)) | (exfalso; have z := c_26.symm.trans c_39; exact absurd z (by decide))
                    rw [sPlan, if_neg c_2, if_pos eok, if_neg c_70]
                    have hM9 := hM78
                    simp only [mup_mg, mg_mg, mg_1] at hM9
                    exact ⟨by simp [mup1], hM9, hT81⟩
                  · refine aw_bipush (pc' := 75) (v := -4) eX7_plan_73 rfl (by decide) ?_
                    refine aw_ret (v := some (.int _)) eX7_plan_75 ⟨rfl, rfl⟩ (by omega) (by omega) rfl ?_
                    try simp only [zb_eq0, Bool.not_eq_false, Bool.not_eq_true, decide_eq_true_eq, decide_eq_false_iff_not, Decidable.not_not, hm.1] at c_16 c_21 c_26 c_34 c_39 c_46
                    have eok : sPlanOk m t p = true := by first | (simp [sPlanOk, c_16, c_21, c_26, c_34, c_39, c_46]; done) | (exfalso; simp_all; done) | (exfalso; have z := c_21.symm.trans c_39; exact absurd z (by decide)) | (exfalso; have z := c_26.symm.trans c_39; exact absurd z (by decide))
                    rw [hs] at c_70
                    rw [sPlan, if_neg c_2, if_pos eok, if_pos c_70]
                    exact ⟨rfl, by rw [mg_id]; exact hM, Same.rf⟩
                · exact absurd c_56 (by decide)
  · refine aw_aload_n (pc' := 6) eX7_plan_5 rfl rfl trivial ?_
    refine aw_Mref (pc' := 9) (kf := 0) 1 hM eX7_plan_6 rfl (by decide) rfl q789 ?_
    refine aw_bipush (pc' := 11) (v := 85) eX7_plan_9 rfl (by decide) ?_
    refine aw_iconst (pc' := 12) (v := 0) eX7_plan_11 rfl (by decide) ?_
    refine aw_MastC (pc' := 13) 1 85 hM eX7_plan_12 rfl (by decide) (by unfold vp_in; decide) (by decide) (fun h84 hM82 hs83 => ?_)
    refine aw_iconst (pc' := 14) (v := 0) eX7_plan_13 rfl (by decide) ?_
    refine aw_ret (v := some (.int _)) eX7_plan_14 ⟨rfl, rfl⟩ (by omega) (by omega) rfl ?_
    try simp only [zb_eq0, Bool.not_eq_false, Bool.not_eq_true, decide_eq_true_eq, decide_eq_false_iff_not, Decidable.not_not, hm.1, mi] at c_2
    have hM9 := hM82
    try simp only [mi, mup_mg, mg_mg, mg_1] at hM9
    refine ⟨?_, ?_, hs83⟩
    · simp [sPlan, mi, hm.1, c_2]
    · simpa [sPlan, mg_id, hm.1, c_2] using hM9
end M3
