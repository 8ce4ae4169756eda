/-! the model's further calls, II -/
section M5
variable {l : Launch} {G : GT} {d u : Nat} {h : Hp} {U : MS} {Q : Option Value → Hp → Prop}

theorem sSays_hi {g : Nat → Int32} {i j : Nat} (hj : 60 ≤ j) (hi : i < 6) : sSays g i j = g j := by
  unfold sSays
  split
  · rw [upd_ne (by omega), upd_ne (by omega)]
  · rfl
def sTell (g : Nat → Int32) (m : Nat) (t : Int32) : Int32 × (Nat → Int32) :=
  if bIn t 0 (nI m - 1) = true then if g (10 * t.toNatClampNeg + 3) = 0 then (sCnt (sSays g t.toNatClampNeg) 1 m, sSays g t.toNatClampNeg) else (-3, g) else (-1, g)
abbrev mX7_tell : MT := (RX7, cX7_tell, 2, (some .int), false)
theorem eX7_tell_0 : decode mX7_tell.2.1 0 = .ok (.aload_n 0, 1) := by decide +kernel
theorem eX7_tell_1 : decode mX7_tell.2.1 1 = .ok (.iload_n 1, 1) := by decide +kernel
theorem eX7_tell_2 : decode mX7_tell.2.1 2 = .ok (.invokevirtual 88, 3) := by decide +kernel
theorem eX7_tell_5 : decode mX7_tell.2.1 5 = .ok (.ifCond .ne 5, 3) := by decide +kernel
theorem eX7_tell_8 : decode mX7_tell.2.1 8 = .ok (.iconst (-1), 1) := by decide +kernel
theorem eX7_tell_9 : decode mX7_tell.2.1 9 = .ok (.ireturn, 1) := by decide +kernel
theorem eX7_tell_10 : decode mX7_tell.2.1 10 = .ok (.aload_n 0, 1) := by decide +kernel
theorem eX7_tell_11 : decode mX7_tell.2.1 11 = .ok (.iload_n 1, 1) := by decide +kernel
theorem eX7_tell_12 : decode mX7_tell.2.1 12 = .ok (.iconst 0, 1) := by decide +kernel
theorem eX7_tell_13 : decode mX7_tell.2.1 13 = .ok (.invokevirtual 105, 3) := by decide +kernel
theorem eX7_tell_16 : decode mX7_tell.2.1 16 = .ok (.ifCond .ne 6, 3) := by decide +kernel
theorem eX7_tell_19 : decode mX7_tell.2.1 19 = .ok (.bipush (-3), 2) := by decide +kernel
theorem eX7_tell_21 : decode mX7_tell.2.1 21 = .ok (.ireturn, 1) := by decide +kernel
theorem eX7_tell_22 : decode mX7_tell.2.1 22 = .ok (.aload_n 0, 1) := by decide +kernel
theorem eX7_tell_23 : decode mX7_tell.2.1 23 = .ok (.iload_n 1, 1) := by decide +kernel
theorem eX7_tell_24 : decode mX7_tell.2.1 24 = .ok (.invokevirtual 113, 3) := by decide +kernel
theorem eX7_tell_27 : decode mX7_tell.2.1 27 = .ok (.aload_n 0, 1) := by decide +kernel
theorem eX7_tell_28 : decode mX7_tell.2.1 28 = .ok (.iconst 1, 1) := by decide +kernel
theorem eX7_tell_29 : decode mX7_tell.2.1 29 = .ok (.invokevirtual 117, 3) := by decide +kernel
theorem eX7_tell_32 : decode mX7_tell.2.1 32 = .ok (.ireturn, 1) := by decide +kernel
theorem c_X7_tell (hM : MAt h u U) {m : Nat} (hm : mOk U m) (t : Int32) (hd : 4 ≤ d) : Ct l G mX7_tell yX7_tell d 0 0 [.ref u, .int t] h (fun r h' => r = some (.int (sTell (U.1 1) m t).1) ∧ MAt h' u (mg U (sTell (U.1 1) m t).2) ∧ Same u 19 h h') := by
  refine ct_of (lv := [some (.ref u), some (.int t)]) (by decide +kernel) rfl (fun z => by cases z) (fun _ => rfl) (fun _ => Nat.le_of_ble_eq_true rfl) ?_
  refine aw_aload_n (pc' := 1) eX7_tell_0 rfl rfl trivial ?_
  refine aw_iload_n (pc' := 2) eX7_tell_1 rfl rfl ?_
  refine aw_callv (pc' := 5) (nn := 1) (c_X7_isOne (d := d - 1) hM _ (by omega)) eX7_tell_2 rfl ⟨q897, q900, q62⟩ q899 q21 ⟨rfl, by decide +kernel, by decide +kernel, by decide +kernel⟩ rfl (by rw [hM.2.1]; exact ⟨rfl, rfl⟩) rfl ⟨by omega, by decide⟩ ⟨by omega, by omega⟩ rfl (Nat.le_of_ble_eq_true rfl) (fun v1 h2 hq3 => ?_)
  obtain ⟨rfl, rfl⟩ := hq3
  dsimp only [Option.toList, List.cons_append, List.nil_append]
  refine aw_if_ne (pc' := 8) (tgt := 10) eX7_tell_5 rfl (by decide) (fun c_5 => ?_) (fun c_5 => ?_)
  · simp only [zb_eq0, Bool.not_eq_false, Bool.not_eq_true, decide_eq_true_eq, decide_eq_false_iff_not, Decidable.not_not] at c_5
    rw [hm.1] at c_5
    obtain ⟨i, hi, rfl⟩ := (bIn_one hm.2).mp c_5
    have hm6 := hm.2
    have cli : (nI i).toNatClampNeg = i := nI_clamp (by omega)
    have hx3 : (10 * nI i + 3).toNatClampNeg = 10 * i + 3 := ix10c (c := 3) (by omega)
    refine aw_aload_n (pc' := 11) eX7_tell_10 rfl rfl trivial ?_
    refine aw_iload_n (pc' := 12) eX7_tell_11 rfl rfl ?_
    refine aw_iconst (pc' := 13) (v := 0) eX7_tell_12 rfl (by decide) ?_
    refine aw_callv (pc' := 16) (nn := 2) (c_X7_isAs (d := d - 1) hM _ _ (show vp_in (10 * nI i + 3) 123 from ix10v (c := 3) (by omega)) (by omega)) eX7_tell_13 rfl ⟨q957, q960, q62⟩ q959 q36 ⟨rfl, by decide +kernel, by decide +kernel, by decide +kernel⟩ rfl (by rw [hM.2.1]; exact ⟨rfl, rfl⟩) rfl ⟨by omega, by decide⟩ ⟨by omega, by omega⟩ rfl (Nat.le_of_ble_eq_true rfl) (fun v4 h5 hq6 => ?_)
    obtain ⟨rfl, rfl⟩ := hq6
    dsimp only [Option.toList, List.cons_append, List.nil_append]
    refine aw_if_ne (pc' := 19) (tgt := 22) eX7_tell_16 rfl (by decide) (fun c_16 => ?_) (fun c_16 => ?_)
    · refine aw_aload_n (pc' := 23) eX7_tell_22 rfl rfl trivial ?_
      refine aw_iload_n (pc' := 24) eX7_tell_23 rfl rfl ?_
      refine aw_callv (pc' := 27) (nn := 1) (c_X7_says (d := d - 1) hM _ (by omega) (by omega)) eX7_tell_24 rfl ⟨q997, q1000, q62⟩ q999 q45 ⟨rfl, by decide +kernel, by decide +kernel, by decide +kernel⟩ rfl (by rw [hM.2.1]; exact ⟨rfl, rfl⟩) rfl ⟨by omega, by decide⟩ ⟨by omega, by omega⟩ rfl (Nat.le_of_ble_eq_true rfl) (fun v9 h10 hq11 => ?_)
      obtain ⟨rfl, hM7, hs8⟩ := hq11
      dsimp only [Option.toList, List.cons_append, List.nil_append]
      refine aw_aload_n (pc' := 28) eX7_tell_27 rfl rfl trivial ?_
      refine aw_iconst (pc' := 29) (v := 1) eX7_tell_28 rfl (by decide) ?_
      refine aw_callv (pc' := 32) (nn := 1) (c_X7_howMany (d := d - 1) hM7 (show mOk (mg U (sSays (U.1 1) i)) m from ⟨by rw [mg_1, sSays_hi (by omega) (by omega)]; exact hm.1, hm.2⟩) _ (by omega)) eX7_tell_29 rfl ⟨q1005, q1008, q62⟩ q1007 q46 ⟨rfl, by decide +kernel, by decide +kernel, by decide +kernel⟩ rfl (by rw [hM7.2.1]; exact ⟨rfl, rfl⟩) rfl ⟨by omega, by decide⟩ ⟨by omega, by omega⟩ rfl (Nat.le_of_ble_eq_true rfl) (fun v12 h13 hq14 => ?_)
      obtain ⟨rfl, rfl⟩ := hq14
      dsimp only [Option.toList, List.cons_append, List.nil_append]
      refine aw_ret (v := some (.int _)) eX7_tell_32 ⟨rfl, rfl⟩ (by omega) (by omega) rfl ?_
      try simp only [zb_eq0, Bool.not_eq_false, Bool.not_eq_true, decide_eq_true_eq, decide_eq_false_iff_not, Decidable.not_not, hm.1, mi, hx3] at c_5 c_16
      have hM9 := hM7
      try simp only [mi, hx3, mup_mg, mg_mg, mg_1] at hM9
      refine ⟨?_, ?_, hs8⟩
      · simp [sTell, mi, hm.1, hx3, cli, mg_1, c_5, c_16]
      · simpa [sTell, mg_id, hm.1, hx3, cli, mg_1, c_5, c_16] using hM9
    · refine aw_bipush (pc' := 21) (v := -3) eX7_tell_19 rfl (by decide) ?_
      refine aw_ret (v := some (.int _)) eX7_tell_21 ⟨rfl, rfl⟩ (by omega) (by omega) rfl ?_
      try simp only [zb_eq0, Bool.not_eq_false, Bool.not_eq_true, decide_eq_true_eq, decide_eq_false_iff_not, Decidable.not_not, hm.1, mi, hx3] at c_5 c_16
      have hM9 := hM
      try simp only [mi, hx3, mup_mg, mg_mg, mg_1] at hM9
      refine ⟨?_, ?_, Same.rf⟩
      · simp [sTell, mi, hm.1, hx3, cli, mg_1, c_5, c_16]
      · simpa [sTell, mg_id, hm.1, hx3, cli, mg_1, c_5, c_16] using hM9
  · refine aw_iconst (pc' := 9) (v := -1) eX7_tell_8 rfl (by decide) ?_
    refine aw_ret (v := some (.int _)) eX7_tell_9 ⟨rfl, rfl⟩ (by omega) (by omega) rfl ?_
    try simp only [zb_eq0, Bool.not_eq_false, Bool.not_eq_true, decide_eq_true_eq, decide_eq_false_iff_not, Decidable.not_not, hm.1, mi] at c_5
    have hM9 := hM
    try simp only [mi, mup_mg, mg_mg, mg_1] at hM9
    refine ⟨?_, ?_, Same.rf⟩
    · simp [sTell, mi, hm.1, c_5]
    · simpa [sTell, mg_id, hm.1, c_5] using hM9
def sLook (g : Nat → Int32) : Nat → Nat → Int32
  | 0, _ => -5
  | k + 1, r => if g (10 * (g (107 + 2 * r)).toNatClampNeg + 5) = g (108 + 2 * r) then sLook g k (r + 1) else nI r
abbrev mX7_looked : MT := (RX7, cX7_looked, 2, (some .int), false)
theorem eX7_looked_0 : decode mX7_looked.2.1 0 = .ok (.iconst 0, 1) := by decide +kernel
theorem eX7_looked_1 : decode mX7_looked.2.1 1 = .ok (.istore_n 1, 1) := by decide +kernel
theorem eX7_looked_2 : decode mX7_looked.2.1 2 = .ok (.iload_n 1, 1) := by decide +kernel
theorem eX7_looked_3 : decode mX7_looked.2.1 3 = .ok (.aload_n 0, 1) := by decide +kernel
theorem eX7_looked_4 : decode mX7_looked.2.1 4 = .ok (.getfield 15, 3) := by decide +kernel
theorem eX7_looked_7 : decode mX7_looked.2.1 7 = .ok (.bipush 106, 2) := by decide +kernel
theorem eX7_looked_9 : decode mX7_looked.2.1 9 = .ok (.iaload, 1) := by decide +kernel
theorem eX7_looked_10 : decode mX7_looked.2.1 10 = .ok (.if_icmp .ge 41, 3) := by decide +kernel
theorem eX7_looked_13 : decode mX7_looked.2.1 13 = .ok (.aload_n 0, 1) := by decide +kernel
theorem eX7_looked_14 : decode mX7_looked.2.1 14 = .ok (.aload_n 0, 1) := by decide +kernel
theorem eX7_looked_15 : decode mX7_looked.2.1 15 = .ok (.getfield 15, 3) := by decide +kernel
theorem eX7_looked_18 : decode mX7_looked.2.1 18 = .ok (.bipush 107, 2) := by decide +kernel
theorem eX7_looked_20 : decode mX7_looked.2.1 20 = .ok (.iconst 2, 1) := by decide +kernel
theorem eX7_looked_21 : decode mX7_looked.2.1 21 = .ok (.iload_n 1, 1) := by decide +kernel
theorem eX7_looked_22 : decode mX7_looked.2.1 22 = .ok (.imul, 1) := by decide +kernel
theorem eX7_looked_23 : decode mX7_looked.2.1 23 = .ok (.iadd, 1) := by decide +kernel
theorem eX7_looked_24 : decode mX7_looked.2.1 24 = .ok (.iaload, 1) := by decide +kernel
theorem eX7_looked_25 : decode mX7_looked.2.1 25 = .ok (.iconst 5, 1) := by decide +kernel
theorem eX7_looked_26 : decode mX7_looked.2.1 26 = .ok (.invokevirtual 84, 3) := by decide +kernel
theorem eX7_looked_29 : decode mX7_looked.2.1 29 = .ok (.aload_n 0, 1) := by decide +kernel
theorem eX7_looked_30 : decode mX7_looked.2.1 30 = .ok (.getfield 15, 3) := by decide +kernel
theorem eX7_looked_33 : decode mX7_looked.2.1 33 = .ok (.bipush 108, 2) := by decide +kernel
theorem eX7_looked_35 : decode mX7_looked.2.1 35 = .ok (.iconst 2, 1) := by decide +kernel
theorem eX7_looked_36 : decode mX7_looked.2.1 36 = .ok (.iload_n 1, 1) := by decide +kernel
theorem eX7_looked_37 : decode mX7_looked.2.1 37 = .ok (.imul, 1) := by decide +kernel
theorem eX7_looked_38 : decode mX7_looked.2.1 38 = .ok (.iadd, 1) := by decide +kernel
theorem eX7_looked_39 : decode mX7_looked.2.1 39 = .ok (.iaload, 1) := by decide +kernel
theorem eX7_looked_40 : decode mX7_looked.2.1 40 = .ok (.if_icmp .eq 5, 3) := by decide +kernel
theorem eX7_looked_43 : decode mX7_looked.2.1 43 = .ok (.iload_n 1, 1) := by decide +kernel
theorem eX7_looked_44 : decode mX7_looked.2.1 44 = .ok (.ireturn, 1) := by decide +kernel
theorem eX7_looked_45 : decode mX7_looked.2.1 45 = .ok (.iinc 1 1, 3) := by decide +kernel
theorem eX7_looked_48 : decode mX7_looked.2.1 48 = .ok (.goto (-46), 3) := by decide +kernel
theorem eX7_looked_51 : decode mX7_looked.2.1 51 = .ok (.bipush (-5), 2) := by decide +kernel
theorem eX7_looked_53 : decode mX7_looked.2.1 53 = .ok (.ireturn, 1) := by decide +kernel
theorem lp_X7_looked (hM : MAt h u U) {a : Nat} (ha : a ≤ 8) (hs : U.1 1 106 = nI a) (hrow : ∀ r, r < a → ∃ b, b < 6 ∧ U.1 1 (107 + 2 * r) = nI b) (hd : 2 ≤ d) : ∀ (k r : Nat) (y : Int32), k = a - r → r ≤ a → y = nI r → Q (some (.int (sLook (U.1 1) (a - r) r))) h → AW l G mX7_looked d 0 0 Q 0 0 h [some (.ref u), some (.int y)] [] 2 := by
  intro k
  induction k using Nat.strongRecOn with
  | _ k ih =>
    intro r y hk hi hy hQ
    subst hy
    refine aw_iload_n (pc' := 3) eX7_looked_2 rfl rfl ?_
    refine aw_aload_n (pc' := 4) eX7_looked_3 rfl rfl trivial ?_
    refine aw_Mref (pc' := 7) (kf := 0) 1 hM eX7_looked_4 rfl (by decide) rfl q789 ?_
    refine aw_bipush (pc' := 9) (v := 106) eX7_looked_7 rfl (by decide) ?_
    refine aw_MaldC (pc' := 10) 1 106 hM eX7_looked_9 rfl (by decide) (by unfold vp_in; decide) (by decide) ?_
    refine aw_icmp_ge (pc' := 13) (tgt := 51) eX7_looked_10 rfl (by decide) (fun c_10 => ?_) (fun c_10 => ?_)
    · rw [hs] at c_10
      have c9 := ge_nI (by omega) (by omega) c_10
      obtain rfl : r = a := by omega
      refine aw_bipush (pc' := 53) (v := -5) eX7_looked_51 rfl (by decide) ?_
      refine aw_ret (v := some (.int _)) eX7_looked_53 ⟨rfl, rfl⟩ (by omega) (by omega) rfl ?_
      rw [Nat.sub_self, sLook] at hQ
      exact hQ
    · rw [hs] at c_10
      have c9 := nge_nI (by omega) (by omega) c_10
      obtain ⟨b, hb, eb⟩ := hrow r c9
      obtain ⟨hx7, hv7⟩ := ix3 (c := 107) (b := 2) (a := r) (by omega)
      obtain ⟨hx8, hv8⟩ := ix3 (c := 108) (b := 2) (a := r) (by omega)
      have hx5 : (10 * nI b + 5).toNatClampNeg = 10 * b + 5 := ix10c (c := 5) (by omega)
      have hv5 : vp_in (10 * U.1 1 (107 + 2 * r) + 5) 123 := by rw [eb]; exact ix10v (c := 5) (by omega)
      have ek : a - r = (a - (r + 1)) + 1 := by omega
      refine aw_aload_n (pc' := 14) eX7_looked_13 rfl rfl trivial ?_
      refine aw_aload_n (pc' := 15) eX7_looked_14 rfl rfl trivial ?_
      refine aw_Mref (pc' := 18) (kf := 0) 1 hM eX7_looked_15 rfl (by decide) rfl q789 ?_
      refine aw_bipush (pc' := 20) (v := 107) eX7_looked_18 rfl (by decide) ?_
      refine aw_iconst (pc' := 21) (v := 2) eX7_looked_20 rfl (by decide) ?_
      refine aw_iload_n (pc' := 22) eX7_looked_21 rfl rfl ?_
      refine aw_imul (pc' := 23) eX7_looked_22 rfl ?_
      refine aw_iadd (pc' := 24) eX7_looked_23 rfl ?_
      refine aw_MaldC (pc' := 25) 1 (107 + 2 * r) hM eX7_looked_24 rfl (by decide) hv7 hx7 ?_
      refine aw_iconst (pc' := 26) (v := 5) eX7_looked_25 rfl (by decide) ?_
      refine aw_callv (pc' := 29) (nn := 2) (c_X7_one (d := d - 1) hM _ _ hv5 (by omega)) eX7_looked_26 rfl ⟨q901, q904, q62⟩ q903 q22 ⟨rfl, by decide +kernel, by decide +kernel, by decide +kernel⟩ rfl (by rw [hM.2.1]; exact ⟨rfl, rfl⟩) rfl ⟨by omega, by decide⟩ ⟨by omega, by omega⟩ rfl (Nat.le_of_ble_eq_true rfl) (fun v1 h2 hq3 => ?_)
      obtain ⟨rfl, rfl⟩ := hq3
      dsimp only [Option.toList, List.cons_append, List.nil_append]
      refine aw_aload_n (pc' := 30) eX7_looked_29 rfl rfl trivial ?_
      refine aw_Mref (pc' := 33) (kf := 0) 1 hM eX7_looked_30 rfl (by decide) rfl q789 ?_
      refine aw_bipush (pc' := 35) (v := 108) eX7_looked_33 rfl (by decide) ?_
      refine aw_iconst (pc' := 36) (v := 2) eX7_looked_35 rfl (by decide) ?_
      refine aw_iload_n (pc' := 37) eX7_looked_36 rfl rfl ?_
      refine aw_imul (pc' := 38) eX7_looked_37 rfl ?_
      refine aw_iadd (pc' := 39) eX7_looked_38 rfl ?_
      refine aw_MaldC (pc' := 40) 1 (108 + 2 * r) hM eX7_looked_39 rfl (by decide) hv8 hx8 ?_
      refine aw_icmp_eq (pc' := 43) (tgt := 45) eX7_looked_40 rfl (by decide) (fun c_40 => ?_) (fun c_40 => ?_)
      · refine aw_iinc (pc' := 48) eX7_looked_45 rfl rfl rfl (by decide) ?_
        dsimp only [zst, zst2, zcut]
        refine aw_goto eX7_looked_48 (by decide) (tgt := 2) ?_
        refine ih (a - (r + 1)) (by omega) (r + 1) _ rfl (by omega) (nI_inc r) ?_
        simp only [mi, eb, hx5] at c_40
        rw [ek, sLook, eb, nI_clamp (by omega), if_pos c_40] at hQ
        exact hQ
      · refine aw_iload_n (pc' := 44) eX7_looked_43 rfl rfl ?_
        refine aw_ret (v := some (.int _)) eX7_looked_44 ⟨rfl, rfl⟩ (by omega) (by omega) rfl ?_
        simp only [mi, eb, hx5] at c_40
        rw [ek, sLook, eb, nI_clamp (by omega), if_neg c_40] at hQ
        exact hQ
theorem c_X7_looked (hM : MAt h u U) {a : Nat} (ha : a ≤ 8) (hs : U.1 1 106 = nI a) (hrow : ∀ r, r < a → ∃ b, b < 6 ∧ U.1 1 (107 + 2 * r) = nI b) (hd : 2 ≤ d) : Ct l G mX7_looked yX7_looked d 0 0 [.ref u] h (fun r h' => r = some (.int (sLook (U.1 1) a 0)) ∧ h' = h) := by
  refine ct_of (lv := [some (.ref u), none]) (by decide +kernel) rfl (fun z => by cases z) (fun _ => rfl) (fun _ => Nat.le_of_ble_eq_true rfl) ?_
  refine aw_iconst (pc' := 1) (v := 0) eX7_looked_0 rfl (by decide) ?_
  refine aw_istore_n (pc' := 2) eX7_looked_1 rfl (by decide) ?_
  dsimp only [zst, zst2, zcut]
  exact lp_X7_looked hM ha hs hrow hd a 0 _ (by omega) (by omega) rfl ⟨rfl, rfl⟩
def sTrace (f : Nat → Int32) (ran i : Int32) : Int32 := if bIn i 0 ((if ran < 20 then ran else 20) - 1) = true then f i.toNatClampNeg else -1
abbrev mX7_trace : MT := (RX7, cX7_trace, 2, (some .int), false)
theorem eX7_trace_0 : decode mX7_trace.2.1 0 = .ok (.iload_n 1, 1) := by decide +kernel
theorem eX7_trace_1 : decode mX7_trace.2.1 1 = .ok (.iconst 0, 1) := by decide +kernel
theorem eX7_trace_2 : decode mX7_trace.2.1 2 = .ok (.bipush 20, 2) := by decide +kernel
theorem eX7_trace_4 : decode mX7_trace.2.1 4 = .ok (.aload_n 0, 1) := by decide +kernel
theorem eX7_trace_5 : decode mX7_trace.2.1 5 = .ok (.getfield 236, 3) := by decide +kernel
theorem eX7_trace_8 : decode mX7_trace.2.1 8 = .ok (.invokestatic 186, 3) := by decide +kernel
theorem eX7_trace_11 : decode mX7_trace.2.1 11 = .ok (.iconst 1, 1) := by decide +kernel
theorem eX7_trace_12 : decode mX7_trace.2.1 12 = .ok (.isub, 1) := by decide +kernel
theorem eX7_trace_13 : decode mX7_trace.2.1 13 = .ok (.invokestatic 80, 3) := by decide +kernel
theorem eX7_trace_16 : decode mX7_trace.2.1 16 = .ok (.ifCond .eq 12, 3) := by decide +kernel
theorem eX7_trace_19 : decode mX7_trace.2.1 19 = .ok (.aload_n 0, 1) := by decide +kernel
theorem eX7_trace_20 : decode mX7_trace.2.1 20 = .ok (.getfield 56, 3) := by decide +kernel
theorem eX7_trace_23 : decode mX7_trace.2.1 23 = .ok (.iload_n 1, 1) := by decide +kernel
theorem eX7_trace_24 : decode mX7_trace.2.1 24 = .ok (.iaload, 1) := by decide +kernel
theorem eX7_trace_25 : decode mX7_trace.2.1 25 = .ok (.goto 4, 3) := by decide +kernel
theorem eX7_trace_28 : decode mX7_trace.2.1 28 = .ok (.iconst (-1), 1) := by decide +kernel
theorem eX7_trace_29 : decode mX7_trace.2.1 29 = .ok (.ireturn, 1) := by decide +kernel
theorem c_X7_trace (hM : MAt h u U) {r : Nat} (hr : U.2.1 23 = nI r) (hr2 : r < 2 ^ 31) (i : Int32) (hd : 2 ≤ d) : Ct l G mX7_trace yX7_trace d 0 0 [.ref u, .int i] h (fun r h' => r = some (.int (sTrace (U.1 14) (U.2.1 23) i)) ∧ h' = h) := by
  refine ct_of (lv := [some (.ref u), some (.int i)]) (by decide +kernel) rfl (fun z => by cases z) (fun _ => rfl) (fun _ => Nat.le_of_ble_eq_true rfl) ?_
  refine aw_iload_n (pc' := 1) eX7_trace_0 rfl rfl ?_
  refine aw_iconst (pc' := 2) (v := 0) eX7_trace_1 rfl (by decide) ?_
  refine aw_bipush (pc' := 4) (v := 20) eX7_trace_2 rfl (by decide) ?_
  refine aw_aload_n (pc' := 5) eX7_trace_4 rfl rfl trivial ?_
  refine aw_Mint (pc' := 8) (kf := 23) hM eX7_trace_5 rfl (by decide) q812 ?_
  refine aw_mmin (pc' := 11) eX7_trace_8 rfl q961 q326 q63 q327 (by omega) ⟨by omega, by omega⟩ (Nat.le_of_ble_eq_true rfl) ?_
  refine aw_iconst (pc' := 12) (v := 1) eX7_trace_11 rfl (by decide) ?_
  refine aw_isub (pc' := 13) eX7_trace_12 rfl ?_
  refine aw_calls (pc' := 16) (nn := 3) (c_X7_isIn (d := d - 1) _ _ _ (by omega)) eX7_trace_13 rfl ⟨q890, q892, q62⟩ q891 ⟨by decide +kernel, by decide +kernel, by decide +kernel⟩ rfl ⟨by omega, by decide⟩ ⟨by omega, by omega⟩ rfl (Nat.le_of_ble_eq_true rfl) (fun v1 h2 hq3 => ?_)
  obtain ⟨rfl, rfl⟩ := hq3
  dsimp only [Option.toList, List.cons_append, List.nil_append]
  refine aw_if_eq (pc' := 19) (tgt := 28) eX7_trace_16 rfl (by decide) (fun c_16 => ?_) (fun c_16 => ?_)
  · refine aw_iconst (pc' := 29) (v := -1) eX7_trace_28 rfl (by decide) ?_
    refine aw_ret (v := some (.int _)) eX7_trace_29 ⟨rfl, rfl⟩ (by omega) (by omega) rfl ?_
    try simp only [zb_eq0, Bool.not_eq_false, Bool.not_eq_true, decide_eq_true_eq, decide_eq_false_iff_not, Decidable.not_not] at c_16
    first | exact ⟨by rw [sTrace, if_pos c_16], rfl⟩ | exact ⟨by rw [sTrace, if_neg (by rw [c_16]; decide)], rfl⟩
  · simp only [zb_eq0, Bool.not_eq_false, Bool.not_eq_true, decide_eq_true_eq, decide_eq_false_iff_not, Decidable.not_not] at c_16
    have hv : vp_in i 20 := by
      rw [vp_in_iff]
      rw [bIn_toInt, show (0 : Int32).toInt = 0 from by decide] at c_16
      refine ⟨c_16.1, ?_⟩
      have c2 := c_16.2
      rw [hr] at c2
      split at c2
      · rename_i z
        have z2 : r < 20 := (nI_ltI hr2 (by omega)).mp z
        cases r with
        | zero => rw [show (nI 0 - 1).toInt = -1 from by decide] at c2; omega
        | succ q => rw [nI_m1, nI_toInt (by omega)] at c2; omega
      · rw [show ((20 : Int32) - 1).toInt = 19 from by decide] at c2; omega
    refine aw_aload_n (pc' := 20) eX7_trace_19 rfl rfl trivial ?_
    refine aw_Mref (pc' := 23) (kf := 22) 14 hM eX7_trace_20 rfl (by decide) rfl q811 ?_
    refine aw_iload_n (pc' := 24) eX7_trace_23 rfl rfl ?_
    refine aw_MaldC (pc' := 25) 14 _ hM eX7_trace_24 rfl (by decide) hv rfl ?_
    refine aw_goto eX7_trace_25 (by decide) (tgt := 29) ?_
    refine aw_ret (v := some (.int _)) eX7_trace_29 ⟨rfl, rfl⟩ (by omega) (by omega) rfl ?_
    try simp only [zb_eq0, Bool.not_eq_false, Bool.not_eq_true, decide_eq_true_eq, decide_eq_false_iff_not, Decidable.not_not] at c_16
    first | exact ⟨by rw [sTrace, if_pos c_16], rfl⟩ | exact ⟨by rw [sTrace, if_neg (by rw [c_16]; decide)], rfl⟩
def sCount (U : MS) (w : Int32) : Int32 := if w = 0 then U.1 1 60 else if w = 1 then U.2.1 8 else if w = 2 then U.1 1 69 else if w = 3 then U.1 1 85 else if w = 4 then U.1 1 106 else if w = 5 then U.2.1 5 else if w = 6 then U.2.1 23 else -2
abbrev mX7_count : MT := (RX7, cX7_count, 2, (some .int), false)
theorem eX7_count_0 : decode mX7_count.2.1 0 = .ok (.iload_n 1, 1) := by decide +kernel
theorem eX7_count_1 : decode mX7_count.2.1 1 = .ok (.tableswitch 90 0 6 #[43, 51, 56, 64, 72, 80, 85], 43) := by decide +kernel
theorem eX7_count_44 : decode mX7_count.2.1 44 = .ok (.aload_n 0, 1) := by decide +kernel
theorem eX7_count_45 : decode mX7_count.2.1 45 = .ok (.getfield 15, 3) := by decide +kernel
theorem eX7_count_48 : decode mX7_count.2.1 48 = .ok (.bipush 60, 2) := by decide +kernel
theorem eX7_count_50 : decode mX7_count.2.1 50 = .ok (.iaload, 1) := by decide +kernel
theorem eX7_count_51 : decode mX7_count.2.1 51 = .ok (.ireturn, 1) := by decide +kernel
theorem eX7_count_52 : decode mX7_count.2.1 52 = .ok (.aload_n 0, 1) := by decide +kernel
theorem eX7_count_53 : decode mX7_count.2.1 53 = .ok (.getfield 177, 3) := by decide +kernel
theorem eX7_count_56 : decode mX7_count.2.1 56 = .ok (.ireturn, 1) := by decide +kernel
theorem eX7_count_57 : decode mX7_count.2.1 57 = .ok (.aload_n 0, 1) := by decide +kernel
theorem eX7_count_58 : decode mX7_count.2.1 58 = .ok (.getfield 15, 3) := by decide +kernel
theorem eX7_count_61 : decode mX7_count.2.1 61 = .ok (.bipush 69, 2) := by decide +kernel
theorem eX7_count_63 : decode mX7_count.2.1 63 = .ok (.iaload, 1) := by decide +kernel
theorem eX7_count_64 : decode mX7_count.2.1 64 = .ok (.ireturn, 1) := by decide +kernel
theorem eX7_count_65 : decode mX7_count.2.1 65 = .ok (.aload_n 0, 1) := by decide +kernel
theorem eX7_count_66 : decode mX7_count.2.1 66 = .ok (.getfield 15, 3) := by decide +kernel
theorem eX7_count_69 : decode mX7_count.2.1 69 = .ok (.bipush 85, 2) := by decide +kernel
theorem eX7_count_71 : decode mX7_count.2.1 71 = .ok (.iaload, 1) := by decide +kernel
theorem eX7_count_72 : decode mX7_count.2.1 72 = .ok (.ireturn, 1) := by decide +kernel
theorem eX7_count_73 : decode mX7_count.2.1 73 = .ok (.aload_n 0, 1) := by decide +kernel
theorem eX7_count_74 : decode mX7_count.2.1 74 = .ok (.getfield 15, 3) := by decide +kernel
theorem eX7_count_77 : decode mX7_count.2.1 77 = .ok (.bipush 106, 2) := by decide +kernel
theorem eX7_count_79 : decode mX7_count.2.1 79 = .ok (.iaload, 1) := by decide +kernel
theorem eX7_count_80 : decode mX7_count.2.1 80 = .ok (.ireturn, 1) := by decide +kernel
theorem eX7_count_81 : decode mX7_count.2.1 81 = .ok (.aload_n 0, 1) := by decide +kernel
theorem eX7_count_82 : decode mX7_count.2.1 82 = .ok (.getfield 123, 3) := by decide +kernel
theorem eX7_count_85 : decode mX7_count.2.1 85 = .ok (.ireturn, 1) := by decide +kernel
theorem eX7_count_86 : decode mX7_count.2.1 86 = .ok (.aload_n 0, 1) := by decide +kernel
theorem eX7_count_87 : decode mX7_count.2.1 87 = .ok (.getfield 236, 3) := by decide +kernel
theorem eX7_count_90 : decode mX7_count.2.1 90 = .ok (.ireturn, 1) := by decide +kernel
theorem eX7_count_91 : decode mX7_count.2.1 91 = .ok (.bipush (-2), 2) := by decide +kernel
theorem eX7_count_93 : decode mX7_count.2.1 93 = .ok (.ireturn, 1) := by decide +kernel
theorem c_X7_count (hM : MAt h u U) (w : Int32) (hd : 0 ≤ d) : Ct l G mX7_count yX7_count d 0 0 [.ref u, .int w] h (fun r h' => r = some (.int (sCount U w)) ∧ h' = h) := by
  refine ct_of (lv := [some (.ref u), some (.int w)]) (by decide +kernel) rfl (fun z => by cases z) (fun _ => rfl) (fun _ => Nat.le_of_ble_eq_true rfl) ?_
  refine aw_iload_n (pc' := 1) eX7_count_0 rfl rfl ?_
  refine aw_tsw (v := 0) (tgt := 44) eX7_count_1 (by decide) (by decide) rfl (by decide) (fun c_1 => ?_) (fun n_1_0 => ?_)
  · refine aw_aload_n (pc' := 45) eX7_count_44 rfl rfl trivial ?_
    refine aw_Mref (pc' := 48) (kf := 0) 1 hM eX7_count_45 rfl (by decide) rfl q789 ?_
    refine aw_bipush (pc' := 50) (v := 60) eX7_count_48 rfl (by decide) ?_
    refine aw_MaldC (pc' := 51) 1 60 hM eX7_count_50 rfl (by decide) (by unfold vp_in; decide) (by decide) ?_
    refine aw_ret (v := some (.int _)) eX7_count_51 ⟨rfl, rfl⟩ (by omega) (by omega) rfl ?_
    exact ⟨by simp [sCount, c_1], rfl⟩
  refine aw_tsw (v := 1) (tgt := 52) eX7_count_1 (by decide) (by decide) rfl (by decide) (fun c_1 => ?_) (fun n_1_1 => ?_)
  · refine aw_aload_n (pc' := 53) eX7_count_52 rfl rfl trivial ?_
    refine aw_Mint (pc' := 56) (kf := 8) hM eX7_count_53 rfl (by decide) q797 ?_
    refine aw_ret (v := some (.int _)) eX7_count_56 ⟨rfl, rfl⟩ (by omega) (by omega) rfl ?_
    exact ⟨by simp [sCount, c_1], rfl⟩
  refine aw_tsw (v := 2) (tgt := 57) eX7_count_1 (by decide) (by decide) rfl (by decide) (fun c_1 => ?_) (fun n_1_2 => ?_)
  · refine aw_aload_n (pc' := 58) eX7_count_57 rfl rfl trivial ?_
    refine aw_Mref (pc' := 61) (kf := 0) 1 hM eX7_count_58 rfl (by decide) rfl q789 ?_
    refine aw_bipush (pc' := 63) (v := 69) eX7_count_61 rfl (by decide) ?_
    refine aw_MaldC (pc' := 64) 1 69 hM eX7_count_63 rfl (by decide) (by unfold vp_in; decide) (by decide) ?_
    refine aw_ret (v := some (.int _)) eX7_count_64 ⟨rfl, rfl⟩ (by omega) (by omega) rfl ?_
    exact ⟨by simp [sCount, c_1], rfl⟩
  refine aw_tsw (v := 3) (tgt := 65) eX7_count_1 (by decide) (by decide) rfl (by decide) (fun c_1 => ?_) (fun n_1_3 => ?_)
  · refine aw_aload_n (pc' := 66) eX7_count_65 rfl rfl trivial ?_
    refine aw_Mref (pc' := 69) (kf := 0) 1 hM eX7_count_66 rfl (by decide) rfl q789 ?_
    refine aw_bipush (pc' := 71) (v := 85) eX7_count_69 rfl (by decide) ?_
    refine aw_MaldC (pc' := 72) 1 85 hM eX7_count_71 rfl (by decide) (by unfold vp_in; decide) (by decide) ?_
    refine aw_ret (v := some (.int _)) eX7_count_72 ⟨rfl, rfl⟩ (by omega) (by omega) rfl ?_
    exact ⟨by simp [sCount, c_1], rfl⟩
  refine aw_tsw (v := 4) (tgt := 73) eX7_count_1 (by decide) (by decide) rfl (by decide) (fun c_1 => ?_) (fun n_1_4 => ?_)
  · refine aw_aload_n (pc' := 74) eX7_count_73 rfl rfl trivial ?_
    refine aw_Mref (pc' := 77) (kf := 0) 1 hM eX7_count_74 rfl (by decide) rfl q789 ?_
    refine aw_bipush (pc' := 79) (v := 106) eX7_count_77 rfl (by decide) ?_
    refine aw_MaldC (pc' := 80) 1 106 hM eX7_count_79 rfl (by decide) (by unfold vp_in; decide) (by decide) ?_
    refine aw_ret (v := some (.int _)) eX7_count_80 ⟨rfl, rfl⟩ (by omega) (by omega) rfl ?_
    exact ⟨by simp [sCount, c_1], rfl⟩
  refine aw_tsw (v := 5) (tgt := 81) eX7_count_1 (by decide) (by decide) rfl (by decide) (fun c_1 => ?_) (fun n_1_5 => ?_)
  · refine aw_aload_n (pc' := 82) eX7_count_81 rfl rfl trivial ?_
    refine aw_Mint (pc' := 85) (kf := 5) hM eX7_count_82 rfl (by decide) q794 ?_
    refine aw_ret (v := some (.int _)) eX7_count_85 ⟨rfl, rfl⟩ (by omega) (by omega) rfl ?_
    exact ⟨by simp [sCount, c_1], rfl⟩
  refine aw_tsw (v := 6) (tgt := 86) eX7_count_1 (by decide) (by decide) rfl (by decide) (fun c_1 => ?_) (fun n_1_6 => ?_)
  · refine aw_aload_n (pc' := 87) eX7_count_86 rfl rfl trivial ?_
    refine aw_Mint (pc' := 90) (kf := 23) hM eX7_count_87 rfl (by decide) q812 ?_
    refine aw_ret (v := some (.int _)) eX7_count_90 ⟨rfl, rfl⟩ (by omega) (by omega) rfl ?_
    exact ⟨by simp [sCount, c_1], rfl⟩
  refine aw_tswo (tgt := 91) eX7_count_1 (by have g0 := zne n_1_0 (show ((0 : Int32)).toInt = 0 by decide); have g1 := zne n_1_1 (show ((1 : Int32)).toInt = 1 by decide); have g2 := zne n_1_2 (show ((2 : Int32)).toInt = 2 by decide); have g3 := zne n_1_3 (show ((3 : Int32)).toInt = 3 by decide); have g4 := zne n_1_4 (show ((4 : Int32)).toInt = 4 by decide); have g5 := zne n_1_5 (show ((5 : Int32)).toInt = 5 by decide); have g6 := zne n_1_6 (show ((6 : Int32)).toInt = 6 by decide); omega) (by decide) ?_
  refine aw_bipush (pc' := 93) (v := -2) eX7_count_91 rfl (by decide) ?_
  refine aw_ret (v := some (.int _)) eX7_count_93 ⟨rfl, rfl⟩ (by omega) (by omega) rfl ?_
  exact ⟨by simp [sCount, n_1_0, n_1_1, n_1_2, n_1_3, n_1_4, n_1_5, n_1_6], rfl⟩
def sFeed (U : MS) (a : Nat) (c : Int32) : Int32 × MS := if bIn c 0 127 = true then if nI a = 100 then (-4, U) else (nI a + 1, msc (mup U 4 a c) 5 (nI a + 1)) else (-2, U)
abbrev mX7_feed : MT := (RX7, cX7_feed, 2, (some .int), false)
theorem eX7_feed_0 : decode mX7_feed.2.1 0 = .ok (.iload_n 1, 1) := by decide +kernel
theorem eX7_feed_1 : decode mX7_feed.2.1 1 = .ok (.iconst 0, 1) := by decide +kernel
theorem eX7_feed_2 : decode mX7_feed.2.1 2 = .ok (.bipush 127, 2) := by decide +kernel
theorem eX7_feed_4 : decode mX7_feed.2.1 4 = .ok (.invokestatic 80, 3) := by decide +kernel
theorem eX7_feed_7 : decode mX7_feed.2.1 7 = .ok (.ifCond .ne 6, 3) := by decide +kernel
theorem eX7_feed_10 : decode mX7_feed.2.1 10 = .ok (.bipush (-2), 2) := by decide +kernel
theorem eX7_feed_12 : decode mX7_feed.2.1 12 = .ok (.ireturn, 1) := by decide +kernel
theorem eX7_feed_13 : decode mX7_feed.2.1 13 = .ok (.aload_n 0, 1) := by decide +kernel
theorem eX7_feed_14 : decode mX7_feed.2.1 14 = .ok (.getfield 123, 3) := by decide +kernel
theorem eX7_feed_17 : decode mX7_feed.2.1 17 = .ok (.bipush 100, 2) := by decide +kernel
theorem eX7_feed_19 : decode mX7_feed.2.1 19 = .ok (.if_icmp .ne 6, 3) := by decide +kernel
theorem eX7_feed_22 : decode mX7_feed.2.1 22 = .ok (.bipush (-4), 2) := by decide +kernel
theorem eX7_feed_24 : decode mX7_feed.2.1 24 = .ok (.ireturn, 1) := by decide +kernel
theorem eX7_feed_25 : decode mX7_feed.2.1 25 = .ok (.aload_n 0, 1) := by decide +kernel
theorem eX7_feed_26 : decode mX7_feed.2.1 26 = .ok (.getfield 25, 3) := by decide +kernel
theorem eX7_feed_29 : decode mX7_feed.2.1 29 = .ok (.aload_n 0, 1) := by decide +kernel
theorem eX7_feed_30 : decode mX7_feed.2.1 30 = .ok (.getfield 123, 3) := by decide +kernel
theorem eX7_feed_33 : decode mX7_feed.2.1 33 = .ok (.iload_n 1, 1) := by decide +kernel
theorem eX7_feed_34 : decode mX7_feed.2.1 34 = .ok (.iastore, 1) := by decide +kernel
theorem eX7_feed_35 : decode mX7_feed.2.1 35 = .ok (.aload_n 0, 1) := by decide +kernel
theorem eX7_feed_36 : decode mX7_feed.2.1 36 = .ok (.dup, 1) := by decide +kernel
theorem eX7_feed_37 : decode mX7_feed.2.1 37 = .ok (.getfield 123, 3) := by decide +kernel
theorem eX7_feed_40 : decode mX7_feed.2.1 40 = .ok (.iconst 1, 1) := by decide +kernel
theorem eX7_feed_41 : decode mX7_feed.2.1 41 = .ok (.iadd, 1) := by decide +kernel
theorem eX7_feed_42 : decode mX7_feed.2.1 42 = .ok (.putfield 123, 3) := by decide +kernel
theorem eX7_feed_45 : decode mX7_feed.2.1 45 = .ok (.aload_n 0, 1) := by decide +kernel
theorem eX7_feed_46 : decode mX7_feed.2.1 46 = .ok (.getfield 123, 3) := by decide +kernel
theorem eX7_feed_49 : decode mX7_feed.2.1 49 = .ok (.ireturn, 1) := by decide +kernel
theorem c_X7_feed (hM : MAt h u U) {a : Nat} (ha : a ≤ 100) (hs : U.2.1 5 = nI a) (c : Int32) (hd : 1 ≤ d) : Ct l G mX7_feed yX7_feed d 0 0 [.ref u, .int c] h (fun r h' => r = some (.int (sFeed U a c).1) ∧ MAt h' u (sFeed U a c).2 ∧ Same u 19 h h') := by
  refine ct_of (lv := [some (.ref u), some (.int c)]) (by decide +kernel) rfl (fun z => by cases z) (fun _ => rfl) (fun _ => Nat.le_of_ble_eq_true rfl) ?_
  refine aw_iload_n (pc' := 1) eX7_feed_0 rfl rfl ?_
  refine aw_iconst (pc' := 2) (v := 0) eX7_feed_1 rfl (by decide) ?_
  refine aw_bipush (pc' := 4) (v := 127) eX7_feed_2 rfl (by decide) ?_
  refine aw_calls (pc' := 7) (nn := 3) (c_X7_isIn (d := d - 1) _ _ _ (by omega)) eX7_feed_4 rfl ⟨q890, q892, q62⟩ q891 ⟨by decide +kernel, by decide +kernel, by decide +kernel⟩ rfl ⟨by omega, by decide⟩ ⟨by omega, by omega⟩ rfl (Nat.le_of_ble_eq_true rfl) (fun v1 h2 hq3 => ?_)
  obtain ⟨rfl, rfl⟩ := hq3
  dsimp only [Option.toList, List.cons_append, List.nil_append]
  refine aw_if_ne (pc' := 10) (tgt := 13) eX7_feed_7 rfl (by decide) (fun c_7 => ?_) (fun c_7 => ?_)
  · refine aw_aload_n (pc' := 14) eX7_feed_13 rfl rfl trivial ?_
    refine aw_Mint (pc' := 17) (kf := 5) hM eX7_feed_14 rfl (by decide) q794 ?_
    refine aw_bipush (pc' := 19) (v := 100) eX7_feed_17 rfl (by decide) ?_
    refine aw_icmp_ne (pc' := 22) (tgt := 25) eX7_feed_19 rfl (by decide) (fun c_19 => ?_) (fun c_19 => ?_)
    · rw [hs] at c_19
      have ha5 : a < 100 := by
        rcases Nat.lt_or_ge a 100 with z | z
        · exact z
        · exact absurd (by rw [show a = 100 by omega]; rfl) c_19
      refine aw_aload_n (pc' := 26) eX7_feed_25 rfl rfl trivial ?_
      refine aw_Mref (pc' := 29) (kf := 4) 4 hM eX7_feed_26 rfl (by decide) rfl q793 ?_
      refine aw_aload_n (pc' := 30) eX7_feed_29 rfl rfl trivial ?_
      refine aw_Mint (pc' := 33) (kf := 5) hM eX7_feed_30 rfl (by decide) q794 ?_
      refine aw_iload_n (pc' := 34) eX7_feed_33 rfl rfl ?_
      refine aw_MastC (pc' := 35) 4 a hM eX7_feed_34 rfl (by decide) (show vp_in _ 100 by rw [hs]; exact vp_in_nI ha5 (by omega)) (by rw [hs]; exact nI_clamp (by omega)) (fun h6 hM4 hs5 => ?_)
      refine aw_aload_n (pc' := 36) eX7_feed_35 rfl rfl trivial ?_
      refine aw_dup (pc' := 37) eX7_feed_36 rfl rfl ?_
      refine aw_Mint (pc' := 40) (kf := 5) hM4 eX7_feed_37 rfl (by decide) q794 ?_
      refine aw_iconst (pc' := 41) (v := 1) eX7_feed_40 rfl (by decide) ?_
      refine aw_iadd (pc' := 42) eX7_feed_41 rfl ?_
      refine aw_Mput (pc' := 45) 5 hM4 eX7_feed_42 rfl (by decide) (fun z => absurd z (by decide)) q794 (fun h9 hM7 hs8 => ?_)
      have hT10 := hs5.tr hs8
      refine aw_aload_n (pc' := 46) eX7_feed_45 rfl rfl trivial ?_
      refine aw_Mint (pc' := 49) (kf := 5) hM7 eX7_feed_46 rfl (by decide) q794 ?_
      refine aw_ret (v := some (.int _)) eX7_feed_49 ⟨rfl, rfl⟩ (by omega) (by omega) rfl ?_
      try simp only [zb_eq0, Bool.not_eq_false, Bool.not_eq_true, decide_eq_true_eq, decide_eq_false_iff_not, Decidable.not_not] at c_7
      have hM9 := hM7
      refine ⟨?_, ?_, hT10⟩
      · rw [sFeed, if_pos c_7, if_neg c_19]
        show some (Value.int (U.2.1 5 + 1)) = _
        rw [hs]
      · rw [sFeed, if_pos c_7, if_neg c_19]
        have e : (mup U 4 a c).2.1 5 = nI a := hs
        rw [e] at hM9
        exact hM9
    · refine aw_bipush (pc' := 24) (v := -4) eX7_feed_22 rfl (by decide) ?_
      refine aw_ret (v := some (.int _)) eX7_feed_24 ⟨rfl, rfl⟩ (by omega) (by omega) rfl ?_
      try simp only [zb_eq0, Bool.not_eq_false, Bool.not_eq_true, decide_eq_true_eq, decide_eq_false_iff_not, Decidable.not_not] at c_7
      try rw [hs] at c_19
      have hM9 := hM
      first
        | exact ⟨by rw [sFeed, if_neg (by rw [c_7]; decide)], by rw [sFeed, if_neg (by rw [c_7]; decide)]; exact hM9, Same.rf⟩
        | exact ⟨by rw [sFeed, if_pos c_7, if_pos c_19], by rw [sFeed, if_pos c_7, if_pos c_19]; exact hM9, Same.rf⟩
  · refine aw_bipush (pc' := 12) (v := -2) eX7_feed_10 rfl (by decide) ?_
    refine aw_ret (v := some (.int _)) eX7_feed_12 ⟨rfl, rfl⟩ (by omega) (by omega) rfl ?_
    try simp only [zb_eq0, Bool.not_eq_false, Bool.not_eq_true, decide_eq_true_eq, decide_eq_false_iff_not, Decidable.not_not] at c_7
    try rw [hs] at c_19
    have hM9 := hM
    first
      | exact ⟨by rw [sFeed, if_neg (by rw [c_7]; decide)], by rw [sFeed, if_neg (by rw [c_7]; decide)]; exact hM9, Same.rf⟩
      | exact ⟨by rw [sFeed, if_pos c_7, if_pos c_19], by rw [sFeed, if_pos c_7, if_pos c_19]; exact hM9, Same.rf⟩
end M5
