/-! the model's calls on its row 'now' alone -/
section M2
variable {l : Launch} {G : GT} {d u : Nat} {h : Hp} {U : MS} {Q : Option Value → Hp → Prop}
/-- how many there are -/
def mOk (U : MS) (m : Nat) : Prop := U.1 1 60 = nI m ∧ m ≤ 6
theorem mOk_one {U : MS} {m : Nat} (hm : mOk U m) (t : Int32) : bIn t 0 (U.1 1 60 - 1) = true ↔ ∃ i, i < m ∧ t = nI i := by
  rw [hm.1]; exact bIn_one hm.2
theorem nI_inc (i : Nat) : nI i + Int32.ofInt 1 = nI (i + 1) := nI_1 i
theorem ge_nI {a b : Nat} (ha : a < 2 ^ 31) (hb : b < 2 ^ 31) (c : nI a ≥ nI b) : b ≤ a := (nI_leI hb ha).mp c
theorem nge_nI {a b : Nat} (ha : a < 2 ^ 31) (hb : b < 2 ^ 31) (c : ¬ nI a ≥ nI b) : a < b := Nat.not_le.mp fun q => c ((nI_leI hb ha).mpr q)

def sSays (g : Nat → Int32) (i : Nat) : Nat → Int32 := if g (10 * i + 3) = 0 then upd (upd g (10 * i + 3) 1) (10 * i + 4) 0 else g
abbrev mX7_says : MT := (RX7, cX7_says, 2, none, false)
theorem eX7_says_0 : decode mX7_says.2.1 0 = .ok (.aload_n 0, 1) := by decide +kernel
theorem eX7_says_1 : decode mX7_says.2.1 1 = .ok (.iload_n 1, 1) := by decide +kernel
theorem eX7_says_2 : decode mX7_says.2.1 2 = .ok (.iconst 0, 1) := by decide +kernel
theorem eX7_says_3 : decode mX7_says.2.1 3 = .ok (.invokevirtual 105, 3) := by decide +kernel
theorem eX7_says_6 : decode mX7_says.2.1 6 = .ok (.ifCond .eq 19, 3) := by decide +kernel
theorem eX7_says_9 : decode mX7_says.2.1 9 = .ok (.aload_n 0, 1) := by decide +kernel
theorem eX7_says_10 : decode mX7_says.2.1 10 = .ok (.iload_n 1, 1) := by decide +kernel
theorem eX7_says_11 : decode mX7_says.2.1 11 = .ok (.iconst 3, 1) := by decide +kernel
theorem eX7_says_12 : decode mX7_says.2.1 12 = .ok (.iconst 1, 1) := by decide +kernel
theorem eX7_says_13 : decode mX7_says.2.1 13 = .ok (.invokevirtual 109, 3) := by decide +kernel
theorem eX7_says_16 : decode mX7_says.2.1 16 = .ok (.pop, 1) := by decide +kernel
theorem eX7_says_17 : decode mX7_says.2.1 17 = .ok (.aload_n 0, 1) := by decide +kernel
theorem eX7_says_18 : decode mX7_says.2.1 18 = .ok (.iload_n 1, 1) := by decide +kernel
theorem eX7_says_19 : decode mX7_says.2.1 19 = .ok (.iconst 4, 1) := by decide +kernel
theorem eX7_says_20 : decode mX7_says.2.1 20 = .ok (.iconst 0, 1) := by decide +kernel
theorem eX7_says_21 : decode mX7_says.2.1 21 = .ok (.invokevirtual 109, 3) := by decide +kernel
theorem eX7_says_24 : decode mX7_says.2.1 24 = .ok (.pop, 1) := by decide +kernel
theorem eX7_says_25 : decode mX7_says.2.1 25 = .ok (.return_, 1) := by decide +kernel
theorem c_X7_says (hM : MAt h u U) (i : Nat) (hi : i < 12) (hd : 3 ≤ d) : Ct l G mX7_says yX7_says d 0 0 [.ref u, .int (nI i)] h (fun r h' => r = none ∧ MAt h' u (mg U (sSays (U.1 1) i)) ∧ Same u 19 h h') := by
  refine ct_of (lv := [some (.ref u), some (.int (nI i))]) (by decide +kernel) rfl (fun z => by cases z) (fun _ => rfl) (fun _ => Nat.le_of_ble_eq_true rfl) ?_
  have hx3 : (10 * nI i + 3).toNatClampNeg = 10 * i + 3 := ix10c (c := 3) (by omega)
  have hx4 : (10 * nI i + 4).toNatClampNeg = 10 * i + 4 := ix10c (c := 4) (by omega)
  refine aw_aload_n (pc' := 1) eX7_says_0 rfl rfl trivial ?_
  refine aw_iload_n (pc' := 2) eX7_says_1 rfl rfl ?_
  refine aw_iconst (pc' := 3) (v := 0) eX7_says_2 rfl (by decide) ?_
  refine aw_callv (pc' := 6) (nn := 2) (c_X7_isAs (d := d - 1) hM _ _ (show vp_in (10 * nI i + 3) 123 from ix10v (c := 3) (by omega)) (by omega)) eX7_says_3 rfl ⟨q957, q960, q62⟩ q959 q36 ⟨rfl, by decide +kernel, by decide +kernel, by decide +kernel⟩ rfl (by rw [hM.2.1]; exact ⟨rfl, rfl⟩) rfl ⟨by omega, by decide⟩ ⟨by omega, by omega⟩ rfl (Nat.le_of_ble_eq_true rfl) (fun v1 h2 hq3 => ?_)
  obtain ⟨rfl, rfl⟩ := hq3
  dsimp only [Option.toList, List.cons_append, List.nil_append]
  refine aw_if_eq (pc' := 9) (tgt := 25) eX7_says_6 rfl (by decide) (fun c_6 => ?_) (fun c_6 => ?_)
  · refine aw_ret (v := none) eX7_says_25 rfl (by omega) (by omega) rfl ?_
    refine ⟨rfl, ?_, Same.rf⟩
    simp only [zb_eq0, Bool.not_eq_false, decide_eq_true_eq, decide_eq_false_iff_not, Decidable.not_not, mi, hx3] at c_6
    have hM9 := hM
    try simp only [hx3, hx4, mup_mg, mg_mg, mg_1] at hM9
    first | rw [sSays, if_pos c_6] | rw [sSays, if_neg c_6, mg_id]
    exact hM9
  · refine aw_aload_n (pc' := 10) eX7_says_9 rfl rfl trivial ?_
    refine aw_iload_n (pc' := 11) eX7_says_10 rfl rfl ?_
    refine aw_iconst (pc' := 12) (v := 3) eX7_says_11 rfl (by decide) ?_
    refine aw_iconst (pc' := 13) (v := 1) eX7_says_12 rfl (by decide) ?_
    refine aw_callv (pc' := 16) (nn := 3) (c_X7_change (d := d - 1) hM _ _ _ (show vp_in (10 * nI i + 3) 123 from ix10v (c := 3) (by omega)) (by omega)) eX7_says_13 rfl ⟨q986, q989, q62⟩ q988 q43 ⟨rfl, by decide +kernel, by decide +kernel, by decide +kernel⟩ rfl (by rw [hM.2.1]; exact ⟨rfl, rfl⟩) rfl ⟨by omega, by decide⟩ ⟨by omega, by omega⟩ rfl (Nat.le_of_ble_eq_true rfl) (fun v6 h7 hq8 => ?_)
    obtain ⟨rfl, hM4, hs5⟩ := hq8
    dsimp only [Option.toList, List.cons_append, List.nil_append]
    refine aw_pop (pc' := 17) eX7_says_16 rfl rfl ?_
    refine aw_aload_n (pc' := 18) eX7_says_17 rfl rfl trivial ?_
    refine aw_iload_n (pc' := 19) eX7_says_18 rfl rfl ?_
    refine aw_iconst (pc' := 20) (v := 4) eX7_says_19 rfl (by decide) ?_
    refine aw_iconst (pc' := 21) (v := 0) eX7_says_20 rfl (by decide) ?_
    refine aw_callv (pc' := 24) (nn := 3) (c_X7_change (d := d - 1) hM4 _ _ _ (show vp_in (10 * nI i + 4) 123 from ix10v (c := 4) (by omega)) (by omega)) eX7_says_21 rfl ⟨q986, q989, q62⟩ q988 q43 ⟨rfl, by decide +kernel, by decide +kernel, by decide +kernel⟩ rfl (by rw [hM4.2.1]; exact ⟨rfl, rfl⟩) rfl ⟨by omega, by decide⟩ ⟨by omega, by omega⟩ rfl (Nat.le_of_ble_eq_true rfl) (fun v11 h12 hq13 => ?_)
    obtain ⟨rfl, hM9, hs10⟩ := hq13
    have hT14 := hs5.tr hs10
    dsimp only [Option.toList, List.cons_append, List.nil_append]
    refine aw_pop (pc' := 25) eX7_says_24 rfl rfl ?_
    refine aw_ret (v := none) eX7_says_25 rfl (by omega) (by omega) rfl ?_
    refine ⟨rfl, ?_, hT14⟩
    simp only [zb_eq0, Bool.not_eq_false, decide_eq_true_eq, decide_eq_false_iff_not, Decidable.not_not, mi, hx3] at c_6
    have hM9 := hM9
    try simp only [hx3, hx4, mup_mg, mg_mg, mg_1] at hM9
    first | rw [sSays, if_pos c_6] | rw [sSays, if_neg c_6, mg_id]
    exact hM9
def sCnt (g : Nat → Int32) (s : Int32) : Nat → Int32
  | 0 => 0
  | i + 1 => sCnt g s i + zb (decide (g (10 * i + 3) = s))
abbrev mX7_howMany : MT := (RX7, cX7_howMany, 4, (some .int), false)
theorem eX7_howMany_0 : decode mX7_howMany.2.1 0 = .ok (.iconst 0, 1) := by decide +kernel
theorem eX7_howMany_1 : decode mX7_howMany.2.1 1 = .ok (.istore_n 2, 1) := by decide +kernel
theorem eX7_howMany_2 : decode mX7_howMany.2.1 2 = .ok (.iconst 0, 1) := by decide +kernel
theorem eX7_howMany_3 : decode mX7_howMany.2.1 3 = .ok (.istore_n 3, 1) := by decide +kernel
theorem eX7_howMany_4 : decode mX7_howMany.2.1 4 = .ok (.iload_n 3, 1) := by decide +kernel
theorem eX7_howMany_5 : decode mX7_howMany.2.1 5 = .ok (.aload_n 0, 1) := by decide +kernel
theorem eX7_howMany_6 : decode mX7_howMany.2.1 6 = .ok (.getfield 15, 3) := by decide +kernel
theorem eX7_howMany_9 : decode mX7_howMany.2.1 9 = .ok (.bipush 60, 2) := by decide +kernel
theorem eX7_howMany_11 : decode mX7_howMany.2.1 11 = .ok (.iaload, 1) := by decide +kernel
theorem eX7_howMany_12 : decode mX7_howMany.2.1 12 = .ok (.if_icmp .ge 26, 3) := by decide +kernel
theorem eX7_howMany_15 : decode mX7_howMany.2.1 15 = .ok (.iload_n 2, 1) := by decide +kernel
theorem eX7_howMany_16 : decode mX7_howMany.2.1 16 = .ok (.aload_n 0, 1) := by decide +kernel
theorem eX7_howMany_17 : decode mX7_howMany.2.1 17 = .ok (.iload_n 3, 1) := by decide +kernel
theorem eX7_howMany_18 : decode mX7_howMany.2.1 18 = .ok (.iload_n 1, 1) := by decide +kernel
theorem eX7_howMany_19 : decode mX7_howMany.2.1 19 = .ok (.invokevirtual 105, 3) := by decide +kernel
theorem eX7_howMany_22 : decode mX7_howMany.2.1 22 = .ok (.ifCond .eq 7, 3) := by decide +kernel
theorem eX7_howMany_25 : decode mX7_howMany.2.1 25 = .ok (.iconst 1, 1) := by decide +kernel
theorem eX7_howMany_26 : decode mX7_howMany.2.1 26 = .ok (.goto 4, 3) := by decide +kernel
theorem eX7_howMany_29 : decode mX7_howMany.2.1 29 = .ok (.iconst 0, 1) := by decide +kernel
theorem eX7_howMany_30 : decode mX7_howMany.2.1 30 = .ok (.iadd, 1) := by decide +kernel
theorem eX7_howMany_31 : decode mX7_howMany.2.1 31 = .ok (.istore_n 2, 1) := by decide +kernel
theorem eX7_howMany_32 : decode mX7_howMany.2.1 32 = .ok (.iinc 3 1, 3) := by decide +kernel
theorem eX7_howMany_35 : decode mX7_howMany.2.1 35 = .ok (.goto (-31), 3) := by decide +kernel
theorem eX7_howMany_38 : decode mX7_howMany.2.1 38 = .ok (.iload_n 2, 1) := by decide +kernel
theorem eX7_howMany_39 : decode mX7_howMany.2.1 39 = .ok (.ireturn, 1) := by decide +kernel
theorem lp_X7_howMany (hM : MAt h u U) {m : Nat} (hm : mOk U m) (s : Int32) (hd : 2 ≤ d) (hQ : Q (some (.int (sCnt (U.1 1) s m))) h) : ∀ (k i : Nat) (x y : Int32), k = m - i → i ≤ m → x = sCnt (U.1 1) s i → y = nI i → AW l G mX7_howMany d 0 0 Q 0 0 h [some (.ref u), some (.int s), some (.int x), some (.int y)] [] 4 := by
  intro k
  induction k using Nat.strongRecOn with
  | _ k ih =>
    intro i x y hk hi hx hy
    subst hx
    subst hy
    have hm6 := hm.2
    have hx3 : (10 * nI i + 3).toNatClampNeg = 10 * i + 3 := ix10c (c := 3) (by omega)
    refine aw_iload_n (pc' := 5) eX7_howMany_4 rfl rfl ?_
    refine aw_aload_n (pc' := 6) eX7_howMany_5 rfl rfl trivial ?_
    refine aw_Mref (pc' := 9) (kf := 0) 1 hM eX7_howMany_6 rfl (by decide) rfl q789 ?_
    refine aw_bipush (pc' := 11) (v := 60) eX7_howMany_9 rfl (by decide) ?_
    refine aw_MaldC (pc' := 12) 1 60 hM eX7_howMany_11 rfl (by decide) (by unfold vp_in; decide) (by decide) ?_
    refine aw_icmp_ge (pc' := 15) (tgt := 38) eX7_howMany_12 rfl (by decide) (fun c_12 => ?_) (fun c_12 => ?_)
    · rw [hm.1] at c_12
      have c9 := ge_nI (by omega) (by omega) c_12
      obtain rfl : i = m := by omega
      refine aw_iload_n (pc' := 39) eX7_howMany_38 rfl rfl ?_
      refine aw_ret (v := some (.int _)) eX7_howMany_39 ⟨rfl, rfl⟩ (by omega) (by omega) rfl ?_
      exact hQ
    · rw [hm.1] at c_12
      have c9 := nge_nI (by omega) (by omega) c_12
      refine aw_iload_n (pc' := 16) eX7_howMany_15 rfl rfl ?_
      refine aw_aload_n (pc' := 17) eX7_howMany_16 rfl rfl trivial ?_
      refine aw_iload_n (pc' := 18) eX7_howMany_17 rfl rfl ?_
      refine aw_iload_n (pc' := 19) eX7_howMany_18 rfl rfl ?_
      refine aw_callv (pc' := 22) (nn := 2) (c_X7_isAs (d := d - 1) hM _ _ (show vp_in (10 * nI i + 3) 123 from ix10v (c := 3) (by omega)) (by omega)) eX7_howMany_19 rfl ⟨q957, q960, q62⟩ q959 q36 ⟨rfl, by decide +kernel, by decide +kernel, by decide +kernel⟩ rfl (by rw [hM.2.1]; exact ⟨rfl, rfl⟩) rfl ⟨by omega, by decide⟩ ⟨by omega, by omega⟩ rfl (Nat.le_of_ble_eq_true rfl) (fun v1 h2 hq3 => ?_)
      obtain ⟨rfl, rfl⟩ := hq3
      dsimp only [Option.toList, List.cons_append, List.nil_append]
      refine aw_if_eq (pc' := 25) (tgt := 29) eX7_howMany_22 rfl (by decide) (fun c_22 => ?_) (fun c_22 => ?_)
      · refine aw_iconst (pc' := 30) (v := 0) eX7_howMany_29 rfl (by decide) ?_
        refine aw_iadd (pc' := 31) eX7_howMany_30 rfl ?_
        refine aw_istore_n (pc' := 32) eX7_howMany_31 rfl (by decide) ?_
        dsimp only [zst, zst2, zcut]
        refine aw_iinc (pc' := 35) eX7_howMany_32 rfl rfl rfl (by decide) ?_
        dsimp only [zst, zst2, zcut]
        refine aw_goto eX7_howMany_35 (by decide) (tgt := 4) ?_
        exact ih (m - (i + 1)) (by omega) (i + 1) _ _ rfl (by omega) (by simp only [mi, hx3, zb_eq0, Bool.not_eq_false] at c_22; rw [sCnt, c_22]; rfl) (nI_inc i)
      · refine aw_iconst (pc' := 26) (v := 1) eX7_howMany_25 rfl (by decide) ?_
        refine aw_goto eX7_howMany_26 (by decide) (tgt := 30) ?_
        refine aw_iadd (pc' := 31) eX7_howMany_30 rfl ?_
        refine aw_istore_n (pc' := 32) eX7_howMany_31 rfl (by decide) ?_
        dsimp only [zst, zst2, zcut]
        refine aw_iinc (pc' := 35) eX7_howMany_32 rfl rfl rfl (by decide) ?_
        dsimp only [zst, zst2, zcut]
        refine aw_goto eX7_howMany_35 (by decide) (tgt := 4) ?_
        exact ih (m - (i + 1)) (by omega) (i + 1) _ _ rfl (by omega) (by simp only [mi, hx3, zb_eq0, Bool.not_eq_false] at c_22; rw [sCnt, c_22]; rfl) (nI_inc i)
theorem c_X7_howMany (hM : MAt h u U) {m : Nat} (hm : mOk U m) (s : Int32) (hd : 2 ≤ d) : Ct l G mX7_howMany yX7_howMany d 0 0 [.ref u, .int s] h (fun r h' => r = some (.int (sCnt (U.1 1) s m)) ∧ h' = h) := by
  refine ct_of (lv := [some (.ref u), some (.int s), none, none]) (by decide +kernel) rfl (fun z => by cases z) (fun _ => rfl) (fun _ => Nat.le_of_ble_eq_true rfl) ?_
  refine aw_iconst (pc' := 1) (v := 0) eX7_howMany_0 rfl (by decide) ?_
  refine aw_istore_n (pc' := 2) eX7_howMany_1 rfl (by decide) ?_
  dsimp only [zst, zst2, zcut]
  refine aw_iconst (pc' := 3) (v := 0) eX7_howMany_2 rfl (by decide) ?_
  refine aw_istore_n (pc' := 4) eX7_howMany_3 rfl (by decide) ?_
  dsimp only [zst, zst2, zcut]
  exact lp_X7_howMany hM hm s hd ⟨rfl, rfl⟩ m 0 _ _ (by omega) (by omega) rfl rfl
def sWhich (g : Nat → Int32) (s : Int32) : Nat → Int32
  | 0 => 0
  | i + 1 => sWhich g s i ||| (if g (10 * i + 3) = s then 1 <<< (nI i &&& 31) else 0)
abbrev mX7_which : MT := (RX7, cX7_which, 4, (some .int), false)
theorem eX7_which_0 : decode mX7_which.2.1 0 = .ok (.iconst 0, 1) := by decide +kernel
theorem eX7_which_1 : decode mX7_which.2.1 1 = .ok (.istore_n 2, 1) := by decide +kernel
theorem eX7_which_2 : decode mX7_which.2.1 2 = .ok (.iconst 0, 1) := by decide +kernel
theorem eX7_which_3 : decode mX7_which.2.1 3 = .ok (.istore_n 3, 1) := by decide +kernel
theorem eX7_which_4 : decode mX7_which.2.1 4 = .ok (.iload_n 3, 1) := by decide +kernel
theorem eX7_which_5 : decode mX7_which.2.1 5 = .ok (.aload_n 0, 1) := by decide +kernel
theorem eX7_which_6 : decode mX7_which.2.1 6 = .ok (.getfield 15, 3) := by decide +kernel
theorem eX7_which_9 : decode mX7_which.2.1 9 = .ok (.bipush 60, 2) := by decide +kernel
theorem eX7_which_11 : decode mX7_which.2.1 11 = .ok (.iaload, 1) := by decide +kernel
theorem eX7_which_12 : decode mX7_which.2.1 12 = .ok (.if_icmp .ge 28, 3) := by decide +kernel
theorem eX7_which_15 : decode mX7_which.2.1 15 = .ok (.iload_n 2, 1) := by decide +kernel
theorem eX7_which_16 : decode mX7_which.2.1 16 = .ok (.aload_n 0, 1) := by decide +kernel
theorem eX7_which_17 : decode mX7_which.2.1 17 = .ok (.iload_n 3, 1) := by decide +kernel
theorem eX7_which_18 : decode mX7_which.2.1 18 = .ok (.iload_n 1, 1) := by decide +kernel
theorem eX7_which_19 : decode mX7_which.2.1 19 = .ok (.invokevirtual 105, 3) := by decide +kernel
theorem eX7_which_22 : decode mX7_which.2.1 22 = .ok (.ifCond .eq 9, 3) := by decide +kernel
theorem eX7_which_25 : decode mX7_which.2.1 25 = .ok (.iconst 1, 1) := by decide +kernel
theorem eX7_which_26 : decode mX7_which.2.1 26 = .ok (.iload_n 3, 1) := by decide +kernel
theorem eX7_which_27 : decode mX7_which.2.1 27 = .ok (.ishl, 1) := by decide +kernel
theorem eX7_which_28 : decode mX7_which.2.1 28 = .ok (.goto 4, 3) := by decide +kernel
theorem eX7_which_31 : decode mX7_which.2.1 31 = .ok (.iconst 0, 1) := by decide +kernel
theorem eX7_which_32 : decode mX7_which.2.1 32 = .ok (.ior, 1) := by decide +kernel
theorem eX7_which_33 : decode mX7_which.2.1 33 = .ok (.istore_n 2, 1) := by decide +kernel
theorem eX7_which_34 : decode mX7_which.2.1 34 = .ok (.iinc 3 1, 3) := by decide +kernel
theorem eX7_which_37 : decode mX7_which.2.1 37 = .ok (.goto (-33), 3) := by decide +kernel
theorem eX7_which_40 : decode mX7_which.2.1 40 = .ok (.iload_n 2, 1) := by decide +kernel
theorem eX7_which_41 : decode mX7_which.2.1 41 = .ok (.ireturn, 1) := by decide +kernel
theorem lp_X7_which (hM : MAt h u U) {m : Nat} (hm : mOk U m) (s : Int32) (hd : 2 ≤ d) (hQ : Q (some (.int (sWhich (U.1 1) s m))) h) : ∀ (k i : Nat) (x y : Int32), k = m - i → i ≤ m → x = sWhich (U.1 1) s i → y = nI i → AW l G mX7_which d 0 0 Q 0 0 h [some (.ref u), some (.int s), some (.int x), some (.int y)] [] 4 := by
  intro k
  induction k using Nat.strongRecOn with
  | _ k ih =>
    intro i x y hk hi hx hy
    subst hx
    subst hy
    have hm6 := hm.2
    have hx3 : (10 * nI i + 3).toNatClampNeg = 10 * i + 3 := ix10c (c := 3) (by omega)
    refine aw_iload_n (pc' := 5) eX7_which_4 rfl rfl ?_
    refine aw_aload_n (pc' := 6) eX7_which_5 rfl rfl trivial ?_
    refine aw_Mref (pc' := 9) (kf := 0) 1 hM eX7_which_6 rfl (by decide) rfl q789 ?_
    refine aw_bipush (pc' := 11) (v := 60) eX7_which_9 rfl (by decide) ?_
    refine aw_MaldC (pc' := 12) 1 60 hM eX7_which_11 rfl (by decide) (by unfold vp_in; decide) (by decide) ?_
    refine aw_icmp_ge (pc' := 15) (tgt := 40) eX7_which_12 rfl (by decide) (fun c_12 => ?_) (fun c_12 => ?_)
    · rw [hm.1] at c_12
      have c9 := ge_nI (by omega) (by omega) c_12
      obtain rfl : i = m := by omega
      refine aw_iload_n (pc' := 41) eX7_which_40 rfl rfl ?_
      refine aw_ret (v := some (.int _)) eX7_which_41 ⟨rfl, rfl⟩ (by omega) (by omega) rfl ?_
      exact hQ
    · rw [hm.1] at c_12
      have c9 := nge_nI (by omega) (by omega) c_12
      refine aw_iload_n (pc' := 16) eX7_which_15 rfl rfl ?_
      refine aw_aload_n (pc' := 17) eX7_which_16 rfl rfl trivial ?_
      refine aw_iload_n (pc' := 18) eX7_which_17 rfl rfl ?_
      refine aw_iload_n (pc' := 19) eX7_which_18 rfl rfl ?_
      refine aw_callv (pc' := 22) (nn := 2) (c_X7_isAs (d := d - 1) hM _ _ (show vp_in (10 * nI i + 3) 123 from ix10v (c := 3) (by omega)) (by omega)) eX7_which_19 rfl ⟨q957, q960, q62⟩ q959 q36 ⟨rfl, by decide +kernel, by decide +kernel, by decide +kernel⟩ rfl (by rw [hM.2.1]; exact ⟨rfl, rfl⟩) rfl ⟨by omega, by decide⟩ ⟨by omega, by omega⟩ rfl (Nat.le_of_ble_eq_true rfl) (fun v1 h2 hq3 => ?_)
      obtain ⟨rfl, rfl⟩ := hq3
      dsimp only [Option.toList, List.cons_append, List.nil_append]
      refine aw_if_eq (pc' := 25) (tgt := 31) eX7_which_22 rfl (by decide) (fun c_22 => ?_) (fun c_22 => ?_)
      · refine aw_iconst (pc' := 32) (v := 0) eX7_which_31 rfl (by decide) ?_
        refine aw_ior (pc' := 33) eX7_which_32 rfl ?_
        refine aw_istore_n (pc' := 34) eX7_which_33 rfl (by decide) ?_
        dsimp only [zst, zst2, zcut]
        refine aw_iinc (pc' := 37) eX7_which_34 rfl rfl rfl (by decide) ?_
        dsimp only [zst, zst2, zcut]
        refine aw_goto eX7_which_37 (by decide) (tgt := 4) ?_
        exact ih (m - (i + 1)) (by omega) (i + 1) _ _ rfl (by omega) (by simp only [mi, hx3, zb_eq0, Bool.not_eq_false, decide_eq_true_eq, decide_eq_false_iff_not, Decidable.not_not] at c_22; rw [sWhich]; first | rw [if_pos c_22] | rw [if_neg c_22]) (nI_inc i)
      · refine aw_iconst (pc' := 26) (v := 1) eX7_which_25 rfl (by decide) ?_
        refine aw_iload_n (pc' := 27) eX7_which_26 rfl rfl ?_
        refine aw_ishl (pc' := 28) eX7_which_27 rfl ?_
        refine aw_goto eX7_which_28 (by decide) (tgt := 32) ?_
        refine aw_ior (pc' := 33) eX7_which_32 rfl ?_
        refine aw_istore_n (pc' := 34) eX7_which_33 rfl (by decide) ?_
        dsimp only [zst, zst2, zcut]
        refine aw_iinc (pc' := 37) eX7_which_34 rfl rfl rfl (by decide) ?_
        dsimp only [zst, zst2, zcut]
        refine aw_goto eX7_which_37 (by decide) (tgt := 4) ?_
        exact ih (m - (i + 1)) (by omega) (i + 1) _ _ rfl (by omega) (by simp only [mi, hx3, zb_eq0, Bool.not_eq_false, decide_eq_true_eq, decide_eq_false_iff_not, Decidable.not_not] at c_22; rw [sWhich]; first | rw [if_pos c_22] | rw [if_neg c_22]) (nI_inc i)
theorem c_X7_which (hM : MAt h u U) {m : Nat} (hm : mOk U m) (s : Int32) (hd : 2 ≤ d) : Ct l G mX7_which yX7_which d 0 0 [.ref u, .int s] h (fun r h' => r = some (.int (sWhich (U.1 1) s m)) ∧ h' = h) := by
  refine ct_of (lv := [some (.ref u), some (.int s), none, none]) (by decide +kernel) rfl (fun z => by cases z) (fun _ => rfl) (fun _ => Nat.le_of_ble_eq_true rfl) ?_
  refine aw_iconst (pc' := 1) (v := 0) eX7_which_0 rfl (by decide) ?_
  refine aw_istore_n (pc' := 2) eX7_which_1 rfl (by decide) ?_
  dsimp only [zst, zst2, zcut]
  refine aw_iconst (pc' := 3) (v := 0) eX7_which_2 rfl (by decide) ?_
  refine aw_istore_n (pc' := 4) eX7_which_3 rfl (by decide) ?_
  dsimp only [zst, zst2, zcut]
  exact lp_X7_which hM hm s hd ⟨rfl, rfl⟩ m 0 _ _ (by omega) (by omega) rfl rfl
def sLate (n : Int32) : Int32 := if n = -5 then 1000 else n
abbrev mX7_late : MT := (RX7, cX7_late, 1, (some .int), false)
theorem eX7_late_0 : decode mX7_late.2.1 0 = .ok (.iload_n 0, 1) := by decide +kernel
theorem eX7_late_1 : decode mX7_late.2.1 1 = .ok (.bipush (-5), 2) := by decide +kernel
theorem eX7_late_3 : decode mX7_late.2.1 3 = .ok (.if_icmp .ne 9, 3) := by decide +kernel
theorem eX7_late_6 : decode mX7_late.2.1 6 = .ok (.sipush 1000, 3) := by decide +kernel
theorem eX7_late_9 : decode mX7_late.2.1 9 = .ok (.goto 4, 3) := by decide +kernel
theorem eX7_late_12 : decode mX7_late.2.1 12 = .ok (.iload_n 0, 1) := by decide +kernel
theorem eX7_late_13 : decode mX7_late.2.1 13 = .ok (.ireturn, 1) := by decide +kernel
theorem c_X7_late (n : Int32) (hd : 0 ≤ d) : Ct l G mX7_late yX7_late d 0 0 [.int n] h (fun r h' => r = some (.int (sLate n)) ∧ h' = h) := by
  refine ct_of (lv := [some (.int n)]) (by decide +kernel) rfl (fun z => by cases z) (fun _ => rfl) (fun _ => Nat.le_of_ble_eq_true rfl) ?_
  refine aw_iload_n (pc' := 1) eX7_late_0 rfl rfl ?_
  refine aw_bipush (pc' := 3) (v := -5) eX7_late_1 rfl (by decide) ?_
  refine aw_icmp_ne (pc' := 6) (tgt := 12) eX7_late_3 rfl (by decide) (fun c_3 => ?_) (fun c_3 => ?_)
  · refine aw_iload_n (pc' := 13) eX7_late_12 rfl rfl ?_
    refine aw_ret (v := some (.int _)) eX7_late_13 ⟨rfl, rfl⟩ (by omega) (by omega) rfl ?_
    exact ⟨by simp only [sLate]; first | rw [if_pos (by assumption)] | rw [if_neg (by assumption)], rfl⟩
  · refine aw_sipush (pc' := 9) (v := 1000) eX7_late_6 rfl (by decide) ?_
    refine aw_goto eX7_late_9 (by decide) (tgt := 13) ?_
    refine aw_ret (v := some (.int _)) eX7_late_13 ⟨rfl, rfl⟩ (by omega) (by omega) rfl ?_
    exact ⟨by simp only [sLate]; first | rw [if_pos (by assumption)] | rw [if_neg (by assumption)], rfl⟩
end M2
