/-! the class: what a World tells -/
section C2
variable {F : FT} {l : Launch} {G : GT} {w : Nat} {d n m t : Nat} {g : Nat → Int32} {o : Int32} {h : Hp} {Q : Option Value → Hp → Prop}
theorem gsc10 : gsc 10 = 60 := rfl
theorem gsc11 : gsc 11 = 61 := rfl
theorem gsc12 : gsc 12 = 62 := rfl
theorem gsc13 : gsc 13 = 67 := rfl
theorem has0 {t : Int32} (c : t < 0) : bIn t 0 (nI m - 1) = false := by
  simp [bIn, Int32.not_le.mpr c]
theorem has2 {t : Int32} (hm6 : m ≤ 6) (c : ¬ t < 0) (c2 : ¬ nI m ≤ t) : bIn t 0 (nI m - 1) = true := by
  refine (bIn_one hm6).mpr ⟨t.toInt.toNat, ?_, ?_⟩
  · have h1 := Int32.lt_iff_toInt_lt.mp (Int32.not_le.mp c2)
    rw [nI_toInt (by omega)] at h1
    have h2 := Int32.le_iff_toInt_le.mp (Int32.not_lt.mp c)
    rw [show (0 : Int32).toInt = 0 from by decide] at h2
    omega
  · have h1 := Int32.lt_iff_toInt_lt.mp (Int32.not_le.mp c2)
    rw [nI_toInt (by omega)] at h1
    have h2 := Int32.le_iff_toInt_le.mp (Int32.not_lt.mp c)
    rw [show (0 : Int32).toInt = 0 from by decide] at h2
    apply Int32.toInt_inj.mp
    rw [nI_toInt (by omega)]
    omega
theorem has1 {t : Int32} (hm6 : m ≤ 6) (c : nI m ≤ t) : bIn t 0 (nI m - 1) = false := by
  cases e : bIn t 0 (nI m - 1) with
  | false => rfl
  | true =>
    obtain ⟨i, hi, rfl⟩ := (bIn_one hm6).mp e
    have := (nI_leI (by omega) (by omega)).mp c
    omega
theorem sTwin_mono {g : Nat → Int32} {i k : Nat} (e : sTwin g i k = true) : ∀ j, sTwin g i (k + j) = true
  | 0 => e
  | j + 1 => by
    rw [← Nat.add_assoc, sTwin, sTwin_mono e j]
    rfl
theorem ixr {i c : Nat} (hi : i < 6) (hc : c < 4) : (nI i * 4 + nI c).toNatClampNeg = 4 * i + c ∧ vp_in (nI i * 4 + nI c) 24 := by
  have e : nI i * 4 + nI c = nI (i * 4 + c) := nI_muladd i 4 c
  rw [e]
  exact ⟨by rw [nI_clamp (by omega)]; omega, vp_in_nI (by omega) (by omega)⟩
theorem min9 (a : Int32) : (if (9 : Int32) < a then (9 : Int32) else a) = if a < 9 then a else 9 := by
  by_cases c : (9 : Int32) < a
  · rw [if_pos c, if_neg (Int32.not_lt.mpr (Int32.le_of_lt c))]
  · rw [if_neg c]
    by_cases c2 : a < 9
    · rw [if_pos c2]
    · rw [if_neg c2]
      exact Int32.le_antisymm (Int32.not_lt.mp c) (Int32.not_lt.mp c2)

abbrev mX5_has : MT := (RX5, cX5_has, 2, (some .boolean), false)
theorem eX5_has_0 : decode mX5_has.2.1 0 = .ok (.iload_n 1, 1) := by decide +kernel
theorem eX5_has_1 : decode mX5_has.2.1 1 = .ok (.ifCond .lt 15, 3) := by decide +kernel
theorem eX5_has_4 : decode mX5_has.2.1 4 = .ok (.iload_n 1, 1) := by decide +kernel
theorem eX5_has_5 : decode mX5_has.2.1 5 = .ok (.aload_n 0, 1) := by decide +kernel
theorem eX5_has_6 : decode mX5_has.2.1 6 = .ok (.getfield 49, 3) := by decide +kernel
theorem eX5_has_9 : decode mX5_has.2.1 9 = .ok (.if_icmp .ge 7, 3) := by decide +kernel
theorem eX5_has_12 : decode mX5_has.2.1 12 = .ok (.iconst 1, 1) := by decide +kernel
theorem eX5_has_13 : decode mX5_has.2.1 13 = .ok (.goto 4, 3) := by decide +kernel
theorem eX5_has_16 : decode mX5_has.2.1 16 = .ok (.iconst 0, 1) := by decide +kernel
theorem eX5_has_17 : decode mX5_has.2.1 17 = .ok (.ireturn, 1) := by decide +kernel
theorem c_X5_has (hW : WF F h w g o) (hm : g 60 = nI m) (hm6 : m ≤ 6) (x : Int32) (hd : 0 ≤ d) : Ct l G mX5_has yX5_has d 0 0 [.ref w, .int x] h (fun r h' => r = some (.int (zb (bIn x 0 (nI m - 1)))) ∧ h' = h) := by
  refine ct_of (lv := [some (.ref w), some (.int x)]) (by decide +kernel) rfl (fun z => by cases z) (fun _ => rfl) (fun _ => Nat.le_of_ble_eq_true rfl) ?_
  refine aw_iload_n (pc' := 1) eX5_has_0 rfl rfl ?_
  refine aw_if_lt (pc' := 4) (tgt := 16) eX5_has_1 rfl (by decide) (fun c_1 => ?_) (fun c_1 => ?_)
  · refine aw_iconst (pc' := 17) (v := 0) eX5_has_16 rfl (by decide) ?_
    refine aw_ret (v := some (.int _)) eX5_has_17 ⟨rfl, rfl⟩ (by omega) (by omega) rfl ?_
    exact ⟨by rw [has0 c_1]; rfl, rfl⟩
  · refine aw_iload_n (pc' := 5) eX5_has_4 rfl rfl ?_
    refine aw_aload_n (pc' := 6) eX5_has_5 rfl rfl trivial ?_
    refine aw_Fint (pc' := 9) (kf := 10) hW eX5_has_6 rfl (by decide) q115 ?_
    refine aw_icmp_ge (pc' := 12) (tgt := 16) eX5_has_9 rfl (by decide) (fun c_9 => ?_) (fun c_9 => ?_)
    · refine aw_iconst (pc' := 17) (v := 0) eX5_has_16 rfl (by decide) ?_
      refine aw_ret (v := some (.int _)) eX5_has_17 ⟨rfl, rfl⟩ (by omega) (by omega) rfl ?_
      rw [gsc10, hm] at c_9
      exact ⟨by rw [has1 hm6 c_9]; rfl, rfl⟩
    · refine aw_iconst (pc' := 13) (v := 1) eX5_has_12 rfl (by decide) ?_
      refine aw_goto eX5_has_13 (by decide) (tgt := 17) ?_
      refine aw_ret (v := some (.int _)) eX5_has_17 ⟨rfl, rfl⟩ (by omega) (by omega) rfl ?_
      rw [gsc10, hm] at c_9
      exact ⟨by rw [has2 hm6 c_1 c_9]; rfl, rfl⟩
abbrev mX5_isTold : MT := (RX5, cX5_isTold, 2, none, false)
theorem eX5_isTold_0 : decode mX5_isTold.2.1 0 = .ok (.aload_n 0, 1) := by decide +kernel
theorem eX5_isTold_1 : decode mX5_isTold.2.1 1 = .ok (.getfield 21, 3) := by decide +kernel
theorem eX5_isTold_4 : decode mX5_isTold.2.1 4 = .ok (.iload_n 1, 1) := by decide +kernel
theorem eX5_isTold_5 : decode mX5_isTold.2.1 5 = .ok (.iconst 1, 1) := by decide +kernel
theorem eX5_isTold_6 : decode mX5_isTold.2.1 6 = .ok (.iastore, 1) := by decide +kernel
theorem eX5_isTold_7 : decode mX5_isTold.2.1 7 = .ok (.aload_n 0, 1) := by decide +kernel
theorem eX5_isTold_8 : decode mX5_isTold.2.1 8 = .ok (.getfield 24, 3) := by decide +kernel
theorem eX5_isTold_11 : decode mX5_isTold.2.1 11 = .ok (.iload_n 1, 1) := by decide +kernel
theorem eX5_isTold_12 : decode mX5_isTold.2.1 12 = .ok (.iconst 0, 1) := by decide +kernel
theorem eX5_isTold_13 : decode mX5_isTold.2.1 13 = .ok (.iastore, 1) := by decide +kernel
theorem eX5_isTold_14 : decode mX5_isTold.2.1 14 = .ok (.return_, 1) := by decide +kernel
theorem c_X5_isTold (hW : WF F h w g o) {i : Nat} (hi : i < 6) (hd : 0 ≤ d) : Ct l G mX5_isTold yX5_isTold d 0 0 [.ref w, .int (nI i)] h (fun r h' => r = none ∧ WF F h' w (upd (upd g (10 * i + 3) 1) (10 * i + 4) 0) o ∧ Same w 10 h h') := by
  refine ct_of (lv := [some (.ref w), some (.int (nI i))]) (by decide +kernel) rfl (fun z => by cases z) (fun _ => rfl) (fun _ => Nat.le_of_ble_eq_true rfl) ?_
  refine aw_aload_n (pc' := 1) eX5_isTold_0 rfl rfl trivial ?_
  refine aw_Fref (pc' := 4) (kf := 4) hW eX5_isTold_1 rfl (by decide) q104 ?_
  refine aw_iload_n (pc' := 5) eX5_isTold_4 rfl rfl ?_
  refine aw_iconst (pc' := 6) (v := 1) eX5_isTold_5 rfl (by decide) ?_
  refine aw_Fst (pc' := 7) 4 3 i hW eX5_isTold_6 rfl (by decide) rfl (show vp_in _ 6 from vp_in_nI (by omega) (by omega)) (nI_clamp (by omega)) (fun h3 hW1 hs2 => ?_)
  refine aw_aload_n (pc' := 8) eX5_isTold_7 rfl rfl trivial ?_
  refine aw_Fref (pc' := 11) (kf := 5) hW1 eX5_isTold_8 rfl (by decide) q106 ?_
  refine aw_iload_n (pc' := 12) eX5_isTold_11 rfl rfl ?_
  refine aw_iconst (pc' := 13) (v := 0) eX5_isTold_12 rfl (by decide) ?_
  refine aw_Fst (pc' := 14) 5 4 i hW1 eX5_isTold_13 rfl (by decide) rfl (show vp_in _ 6 from vp_in_nI (by omega) (by omega)) (nI_clamp (by omega)) (fun h6 hW4 hs5 => ?_)
  have hT7 := hs2.tr hs5
  refine aw_ret (v := none) eX5_isTold_14 rfl (by omega) (by omega) rfl ?_
  exact ⟨rfl, hW4, hT7⟩
abbrev mX5_isSilent : MT := (RX5, cX5_isSilent, 2, none, false)
theorem eX5_isSilent_0 : decode mX5_isSilent.2.1 0 = .ok (.aload_n 0, 1) := by decide +kernel
theorem eX5_isSilent_1 : decode mX5_isSilent.2.1 1 = .ok (.getfield 21, 3) := by decide +kernel
theorem eX5_isSilent_4 : decode mX5_isSilent.2.1 4 = .ok (.iload_n 1, 1) := by decide +kernel
theorem eX5_isSilent_5 : decode mX5_isSilent.2.1 5 = .ok (.iconst 0, 1) := by decide +kernel
theorem eX5_isSilent_6 : decode mX5_isSilent.2.1 6 = .ok (.iastore, 1) := by decide +kernel
theorem eX5_isSilent_7 : decode mX5_isSilent.2.1 7 = .ok (.aload_n 0, 1) := by decide +kernel
theorem eX5_isSilent_8 : decode mX5_isSilent.2.1 8 = .ok (.getfield 24, 3) := by decide +kernel
theorem eX5_isSilent_11 : decode mX5_isSilent.2.1 11 = .ok (.iload_n 1, 1) := by decide +kernel
theorem eX5_isSilent_12 : decode mX5_isSilent.2.1 12 = .ok (.iconst 0, 1) := by decide +kernel
theorem eX5_isSilent_13 : decode mX5_isSilent.2.1 13 = .ok (.iastore, 1) := by decide +kernel
theorem eX5_isSilent_14 : decode mX5_isSilent.2.1 14 = .ok (.return_, 1) := by decide +kernel
theorem c_X5_isSilent (hW : WF F h w g o) {i : Nat} (hi : i < 6) (hd : 0 ≤ d) : Ct l G mX5_isSilent yX5_isSilent d 0 0 [.ref w, .int (nI i)] h (fun r h' => r = none ∧ WF F h' w (upd (upd g (10 * i + 3) 0) (10 * i + 4) 0) o ∧ Same w 10 h h') := by
  refine ct_of (lv := [some (.ref w), some (.int (nI i))]) (by decide +kernel) rfl (fun z => by cases z) (fun _ => rfl) (fun _ => Nat.le_of_ble_eq_true rfl) ?_
  refine aw_aload_n (pc' := 1) eX5_isSilent_0 rfl rfl trivial ?_
  refine aw_Fref (pc' := 4) (kf := 4) hW eX5_isSilent_1 rfl (by decide) q104 ?_
  refine aw_iload_n (pc' := 5) eX5_isSilent_4 rfl rfl ?_
  refine aw_iconst (pc' := 6) (v := 0) eX5_isSilent_5 rfl (by decide) ?_
  refine aw_Fst (pc' := 7) 4 3 i hW eX5_isSilent_6 rfl (by decide) rfl (show vp_in _ 6 from vp_in_nI (by omega) (by omega)) (nI_clamp (by omega)) (fun h3 hW1 hs2 => ?_)
  refine aw_aload_n (pc' := 8) eX5_isSilent_7 rfl rfl trivial ?_
  refine aw_Fref (pc' := 11) (kf := 5) hW1 eX5_isSilent_8 rfl (by decide) q106 ?_
  refine aw_iload_n (pc' := 12) eX5_isSilent_11 rfl rfl ?_
  refine aw_iconst (pc' := 13) (v := 0) eX5_isSilent_12 rfl (by decide) ?_
  refine aw_Fst (pc' := 14) 5 4 i hW1 eX5_isSilent_13 rfl (by decide) rfl (show vp_in _ 6 from vp_in_nI (by omega) (by omega)) (nI_clamp (by omega)) (fun h6 hW4 hs5 => ?_)
  have hT7 := hs2.tr hs5
  refine aw_ret (v := none) eX5_isSilent_14 rfl (by omega) (by omega) rfl ?_
  exact ⟨rfl, hW4, hT7⟩
abbrev mX5_howManyFound : MT := (RX5, cX5_howManyFound, 3, (some .int), false)
theorem eX5_howManyFound_0 : decode mX5_howManyFound.2.1 0 = .ok (.iconst 0, 1) := by decide +kernel
theorem eX5_howManyFound_1 : decode mX5_howManyFound.2.1 1 = .ok (.istore_n 1, 1) := by decide +kernel
theorem eX5_howManyFound_2 : decode mX5_howManyFound.2.1 2 = .ok (.iconst 0, 1) := by decide +kernel
theorem eX5_howManyFound_3 : decode mX5_howManyFound.2.1 3 = .ok (.istore_n 2, 1) := by decide +kernel
theorem eX5_howManyFound_4 : decode mX5_howManyFound.2.1 4 = .ok (.iload_n 2, 1) := by decide +kernel
theorem eX5_howManyFound_5 : decode mX5_howManyFound.2.1 5 = .ok (.aload_n 0, 1) := by decide +kernel
theorem eX5_howManyFound_6 : decode mX5_howManyFound.2.1 6 = .ok (.getfield 49, 3) := by decide +kernel
theorem eX5_howManyFound_9 : decode mX5_howManyFound.2.1 9 = .ok (.if_icmp .ge 22, 3) := by decide +kernel
theorem eX5_howManyFound_12 : decode mX5_howManyFound.2.1 12 = .ok (.aload_n 0, 1) := by decide +kernel
theorem eX5_howManyFound_13 : decode mX5_howManyFound.2.1 13 = .ok (.getfield 21, 3) := by decide +kernel
theorem eX5_howManyFound_16 : decode mX5_howManyFound.2.1 16 = .ok (.iload_n 2, 1) := by decide +kernel
theorem eX5_howManyFound_17 : decode mX5_howManyFound.2.1 17 = .ok (.iaload, 1) := by decide +kernel
theorem eX5_howManyFound_18 : decode mX5_howManyFound.2.1 18 = .ok (.iconst 4, 1) := by decide +kernel
theorem eX5_howManyFound_19 : decode mX5_howManyFound.2.1 19 = .ok (.if_icmp .ne 6, 3) := by decide +kernel
theorem eX5_howManyFound_22 : decode mX5_howManyFound.2.1 22 = .ok (.iinc 1 1, 3) := by decide +kernel
theorem eX5_howManyFound_25 : decode mX5_howManyFound.2.1 25 = .ok (.iinc 2 1, 3) := by decide +kernel
theorem eX5_howManyFound_28 : decode mX5_howManyFound.2.1 28 = .ok (.goto (-24), 3) := by decide +kernel
theorem eX5_howManyFound_31 : decode mX5_howManyFound.2.1 31 = .ok (.iload_n 1, 1) := by decide +kernel
theorem eX5_howManyFound_32 : decode mX5_howManyFound.2.1 32 = .ok (.ireturn, 1) := by decide +kernel
theorem lp_X5_howManyFound (hW : WF F h w g o) (hm : g 60 = nI m) (hm6 : m ≤ 6) (hQ : Q (some (.int (sCnt g 4 m))) h) : ∀ (j i : Nat) (y x : Int32), j = m - i → i ≤ m → y = nI i → x = sCnt g 4 i → AW l G mX5_howManyFound d 0 0 Q 0 0 h [some (.ref w), some (.int x), some (.int y)] [] 4 := by
  intro j
  induction j using Nat.strongRecOn with
  | _ j ih =>
    intro i y x hj hi hy hx
    subst hy hx
    refine aw_iload_n (pc' := 5) eX5_howManyFound_4 rfl rfl ?_
    refine aw_aload_n (pc' := 6) eX5_howManyFound_5 rfl rfl trivial ?_
    refine aw_Fint (pc' := 9) (kf := 10) hW eX5_howManyFound_6 rfl (by decide) q115 ?_
    refine aw_icmp_ge (pc' := 12) (tgt := 31) eX5_howManyFound_9 rfl (by decide) (fun c_9 => ?_) (fun c_9 => ?_)
    · rw [gsc10, hm] at c_9
      have c9 := ge_nI (by omega) (by omega) c_9
      obtain rfl : i = m := by omega
      refine aw_iload_n (pc' := 32) eX5_howManyFound_31 rfl rfl ?_
      refine aw_ret (v := some (.int _)) eX5_howManyFound_32 ⟨rfl, rfl⟩ (by omega) (by omega) rfl ?_
      exact hQ
    · rw [gsc10, hm] at c_9
      have c9 := nge_nI (by omega) (by omega) c_9
      refine aw_aload_n (pc' := 13) eX5_howManyFound_12 rfl rfl trivial ?_
      refine aw_Fref (pc' := 16) (kf := 4) hW eX5_howManyFound_13 rfl (by decide) q104 ?_
      refine aw_iload_n (pc' := 17) eX5_howManyFound_16 rfl rfl ?_
      refine aw_Fld (pc' := 18) 4 3 i hW eX5_howManyFound_17 rfl (by decide) rfl (show vp_in _ 6 from vp_in_nI (by omega) (by omega)) (nI_clamp (by omega)) ?_
      refine aw_iconst (pc' := 19) (v := 4) eX5_howManyFound_18 rfl (by decide) ?_
      refine aw_icmp_ne (pc' := 22) (tgt := 25) eX5_howManyFound_19 rfl (by decide) (fun c_19 => ?_) (fun c_19 => ?_)
      · refine aw_iinc (pc' := 28) eX5_howManyFound_25 rfl rfl rfl (by decide) ?_
        dsimp only [zst, zst2, zcut]
        refine aw_goto eX5_howManyFound_28 (by decide) (tgt := 4) ?_
        exact ih (m - (i + 1)) (by omega) (i + 1) _ _ rfl (by omega) (nI_inc i) (by simp [sCnt, c_19, zb])
      · refine aw_iinc (pc' := 25) eX5_howManyFound_22 rfl rfl rfl (by decide) ?_
        dsimp only [zst, zst2, zcut]
        refine aw_iinc (pc' := 28) eX5_howManyFound_25 rfl rfl rfl (by decide) ?_
        dsimp only [zst, zst2, zcut]
        refine aw_goto eX5_howManyFound_28 (by decide) (tgt := 4) ?_
        exact ih (m - (i + 1)) (by omega) (i + 1) _ _ rfl (by omega) (nI_inc i) (by simp [sCnt, c_19, zb])
theorem c_X5_howManyFound (hW : WF F h w g o) (hm : g 60 = nI m) (hm6 : m ≤ 6) (hd : 0 ≤ d) : Ct l G mX5_howManyFound yX5_howManyFound d 0 0 [.ref w] h (fun r h' => r = some (.int (sCnt g 4 m)) ∧ h' = h) := by
  refine ct_of (lv := [some (.ref w), none, none]) (by decide +kernel) rfl (fun z => by cases z) (fun _ => rfl) (fun _ => Nat.le_of_ble_eq_true rfl) ?_
  refine aw_iconst (pc' := 1) (v := 0) eX5_howManyFound_0 rfl (by decide) ?_
  refine aw_istore_n (pc' := 2) eX5_howManyFound_1 rfl (by decide) ?_
  dsimp only [zst, zst2, zcut]
  refine aw_iconst (pc' := 3) (v := 0) eX5_howManyFound_2 rfl (by decide) ?_
  refine aw_istore_n (pc' := 4) eX5_howManyFound_3 rfl (by decide) ?_
  dsimp only [zst, zst2, zcut]
  exact lp_X5_howManyFound hW hm hm6 ⟨rfl, rfl⟩ m 0 _ _ (by omega) (by omega) rfl rfl
abbrev mX5_withinBits : MT := (RX5, cX5_withinBits, 3, (some .int), false)
theorem eX5_withinBits_0 : decode mX5_withinBits.2.1 0 = .ok (.iconst 0, 1) := by decide +kernel
theorem eX5_withinBits_1 : decode mX5_withinBits.2.1 1 = .ok (.istore_n 1, 1) := by decide +kernel
theorem eX5_withinBits_2 : decode mX5_withinBits.2.1 2 = .ok (.iconst 0, 1) := by decide +kernel
theorem eX5_withinBits_3 : decode mX5_withinBits.2.1 3 = .ok (.istore_n 2, 1) := by decide +kernel
theorem eX5_withinBits_4 : decode mX5_withinBits.2.1 4 = .ok (.iload_n 2, 1) := by decide +kernel
theorem eX5_withinBits_5 : decode mX5_withinBits.2.1 5 = .ok (.aload_n 0, 1) := by decide +kernel
theorem eX5_withinBits_6 : decode mX5_withinBits.2.1 6 = .ok (.getfield 49, 3) := by decide +kernel
theorem eX5_withinBits_9 : decode mX5_withinBits.2.1 9 = .ok (.if_icmp .ge 25, 3) := by decide +kernel
theorem eX5_withinBits_12 : decode mX5_withinBits.2.1 12 = .ok (.aload_n 0, 1) := by decide +kernel
theorem eX5_withinBits_13 : decode mX5_withinBits.2.1 13 = .ok (.getfield 21, 3) := by decide +kernel
theorem eX5_withinBits_16 : decode mX5_withinBits.2.1 16 = .ok (.iload_n 2, 1) := by decide +kernel
theorem eX5_withinBits_17 : decode mX5_withinBits.2.1 17 = .ok (.iaload, 1) := by decide +kernel
theorem eX5_withinBits_18 : decode mX5_withinBits.2.1 18 = .ok (.iconst 1, 1) := by decide +kernel
theorem eX5_withinBits_19 : decode mX5_withinBits.2.1 19 = .ok (.if_icmp .ne 9, 3) := by decide +kernel
theorem eX5_withinBits_22 : decode mX5_withinBits.2.1 22 = .ok (.iload_n 1, 1) := by decide +kernel
theorem eX5_withinBits_23 : decode mX5_withinBits.2.1 23 = .ok (.iconst 1, 1) := by decide +kernel
theorem eX5_withinBits_24 : decode mX5_withinBits.2.1 24 = .ok (.iload_n 2, 1) := by decide +kernel
theorem eX5_withinBits_25 : decode mX5_withinBits.2.1 25 = .ok (.ishl, 1) := by decide +kernel
theorem eX5_withinBits_26 : decode mX5_withinBits.2.1 26 = .ok (.ior, 1) := by decide +kernel
theorem eX5_withinBits_27 : decode mX5_withinBits.2.1 27 = .ok (.istore_n 1, 1) := by decide +kernel
theorem eX5_withinBits_28 : decode mX5_withinBits.2.1 28 = .ok (.iinc 2 1, 3) := by decide +kernel
theorem eX5_withinBits_31 : decode mX5_withinBits.2.1 31 = .ok (.goto (-27), 3) := by decide +kernel
theorem eX5_withinBits_34 : decode mX5_withinBits.2.1 34 = .ok (.iload_n 1, 1) := by decide +kernel
theorem eX5_withinBits_35 : decode mX5_withinBits.2.1 35 = .ok (.ireturn, 1) := by decide +kernel
theorem lp_X5_withinBits (hW : WF F h w g o) (hm : g 60 = nI m) (hm6 : m ≤ 6) (hQ : Q (some (.int (sWhich g 1 m))) h) : ∀ (j i : Nat) (y x : Int32), j = m - i → i ≤ m → y = nI i → x = sWhich g 1 i → AW l G mX5_withinBits d 0 0 Q 0 0 h [some (.ref w), some (.int x), some (.int y)] [] 4 := by
  intro j
  induction j using Nat.strongRecOn with
  | _ j ih =>
    intro i y x hj hi hy hx
    subst hy hx
    refine aw_iload_n (pc' := 5) eX5_withinBits_4 rfl rfl ?_
    refine aw_aload_n (pc' := 6) eX5_withinBits_5 rfl rfl trivial ?_
    refine aw_Fint (pc' := 9) (kf := 10) hW eX5_withinBits_6 rfl (by decide) q115 ?_
    refine aw_icmp_ge (pc' := 12) (tgt := 34) eX5_withinBits_9 rfl (by decide) (fun c_9 => ?_) (fun c_9 => ?_)
    · rw [gsc10, hm] at c_9
      have c9 := ge_nI (by omega) (by omega) c_9
      obtain rfl : i = m := by omega
      refine aw_iload_n (pc' := 35) eX5_withinBits_34 rfl rfl ?_
      refine aw_ret (v := some (.int _)) eX5_withinBits_35 ⟨rfl, rfl⟩ (by omega) (by omega) rfl ?_
      exact hQ
    · rw [gsc10, hm] at c_9
      have c9 := nge_nI (by omega) (by omega) c_9
      refine aw_aload_n (pc' := 13) eX5_withinBits_12 rfl rfl trivial ?_
      refine aw_Fref (pc' := 16) (kf := 4) hW eX5_withinBits_13 rfl (by decide) q104 ?_
      refine aw_iload_n (pc' := 17) eX5_withinBits_16 rfl rfl ?_
      refine aw_Fld (pc' := 18) 4 3 i hW eX5_withinBits_17 rfl (by decide) rfl (show vp_in _ 6 from vp_in_nI (by omega) (by omega)) (nI_clamp (by omega)) ?_
      refine aw_iconst (pc' := 19) (v := 1) eX5_withinBits_18 rfl (by decide) ?_
      refine aw_icmp_ne (pc' := 22) (tgt := 28) eX5_withinBits_19 rfl (by decide) (fun c_19 => ?_) (fun c_19 => ?_)
      · refine aw_iinc (pc' := 31) eX5_withinBits_28 rfl rfl rfl (by decide) ?_
        dsimp only [zst, zst2, zcut]
        refine aw_goto eX5_withinBits_31 (by decide) (tgt := 4) ?_
        exact ih (m - (i + 1)) (by omega) (i + 1) _ _ rfl (by omega) (nI_inc i) (by simp [sWhich, c_19, zb])
      · refine aw_iload_n (pc' := 23) eX5_withinBits_22 rfl rfl ?_
        refine aw_iconst (pc' := 24) (v := 1) eX5_withinBits_23 rfl (by decide) ?_
        refine aw_iload_n (pc' := 25) eX5_withinBits_24 rfl rfl ?_
        refine aw_ishl (pc' := 26) eX5_withinBits_25 rfl ?_
        refine aw_ior (pc' := 27) eX5_withinBits_26 rfl ?_
        refine aw_istore_n (pc' := 28) eX5_withinBits_27 rfl (by decide) ?_
        dsimp only [zst, zst2, zcut]
        refine aw_iinc (pc' := 31) eX5_withinBits_28 rfl rfl rfl (by decide) ?_
        dsimp only [zst, zst2, zcut]
        refine aw_goto eX5_withinBits_31 (by decide) (tgt := 4) ?_
        exact ih (m - (i + 1)) (by omega) (i + 1) _ _ rfl (by omega) (nI_inc i) (by simp [sWhich, c_19, zb])
theorem c_X5_withinBits (hW : WF F h w g o) (hm : g 60 = nI m) (hm6 : m ≤ 6) (hd : 0 ≤ d) : Ct l G mX5_withinBits yX5_withinBits d 0 0 [.ref w] h (fun r h' => r = some (.int (sWhich g 1 m)) ∧ h' = h) := by
  refine ct_of (lv := [some (.ref w), none, none]) (by decide +kernel) rfl (fun z => by cases z) (fun _ => rfl) (fun _ => Nat.le_of_ble_eq_true rfl) ?_
  refine aw_iconst (pc' := 1) (v := 0) eX5_withinBits_0 rfl (by decide) ?_
  refine aw_istore_n (pc' := 2) eX5_withinBits_1 rfl (by decide) ?_
  dsimp only [zst, zst2, zcut]
  refine aw_iconst (pc' := 3) (v := 0) eX5_withinBits_2 rfl (by decide) ?_
  refine aw_istore_n (pc' := 4) eX5_withinBits_3 rfl (by decide) ?_
  dsimp only [zst, zst2, zcut]
  exact lp_X5_withinBits hW hm hm6 ⟨rfl, rfl⟩ m 0 _ _ (by omega) (by omega) rfl rfl
abbrev mX5_twinsShare : MT := (RX5, cX5_twinsShare, 3, (some .int), false)
theorem eX5_twinsShare_0 : decode mX5_twinsShare.2.1 0 = .ok (.iconst 0, 1) := by decide +kernel
theorem eX5_twinsShare_1 : decode mX5_twinsShare.2.1 1 = .ok (.istore_n 2, 1) := by decide +kernel
theorem eX5_twinsShare_2 : decode mX5_twinsShare.2.1 2 = .ok (.iload_n 2, 1) := by decide +kernel
theorem eX5_twinsShare_3 : decode mX5_twinsShare.2.1 3 = .ok (.aload_n 0, 1) := by decide +kernel
theorem eX5_twinsShare_4 : decode mX5_twinsShare.2.1 4 = .ok (.getfield 49, 3) := by decide +kernel
theorem eX5_twinsShare_7 : decode mX5_twinsShare.2.1 7 = .ok (.if_icmp .ge 47, 3) := by decide +kernel
theorem eX5_twinsShare_10 : decode mX5_twinsShare.2.1 10 = .ok (.iload_n 2, 1) := by decide +kernel
theorem eX5_twinsShare_11 : decode mX5_twinsShare.2.1 11 = .ok (.iload_n 1, 1) := by decide +kernel
theorem eX5_twinsShare_12 : decode mX5_twinsShare.2.1 12 = .ok (.if_icmp .eq 36, 3) := by decide +kernel
theorem eX5_twinsShare_15 : decode mX5_twinsShare.2.1 15 = .ok (.aload_n 0, 1) := by decide +kernel
theorem eX5_twinsShare_16 : decode mX5_twinsShare.2.1 16 = .ok (.getfield 21, 3) := by decide +kernel
theorem eX5_twinsShare_19 : decode mX5_twinsShare.2.1 19 = .ok (.iload_n 2, 1) := by decide +kernel
theorem eX5_twinsShare_20 : decode mX5_twinsShare.2.1 20 = .ok (.iaload, 1) := by decide +kernel
theorem eX5_twinsShare_21 : decode mX5_twinsShare.2.1 21 = .ok (.iconst 1, 1) := by decide +kernel
theorem eX5_twinsShare_22 : decode mX5_twinsShare.2.1 22 = .ok (.if_icmp .ne 26, 3) := by decide +kernel
theorem eX5_twinsShare_25 : decode mX5_twinsShare.2.1 25 = .ok (.aload_n 0, 1) := by decide +kernel
theorem eX5_twinsShare_26 : decode mX5_twinsShare.2.1 26 = .ok (.getfield 9, 3) := by decide +kernel
theorem eX5_twinsShare_29 : decode mX5_twinsShare.2.1 29 = .ok (.iload_n 2, 1) := by decide +kernel
theorem eX5_twinsShare_30 : decode mX5_twinsShare.2.1 30 = .ok (.iaload, 1) := by decide +kernel
theorem eX5_twinsShare_31 : decode mX5_twinsShare.2.1 31 = .ok (.iconst 3, 1) := by decide +kernel
theorem eX5_twinsShare_32 : decode mX5_twinsShare.2.1 32 = .ok (.if_icmp .eq 14, 3) := by decide +kernel
theorem eX5_twinsShare_35 : decode mX5_twinsShare.2.1 35 = .ok (.aload_n 0, 1) := by decide +kernel
theorem eX5_twinsShare_36 : decode mX5_twinsShare.2.1 36 = .ok (.getfield 9, 3) := by decide +kernel
theorem eX5_twinsShare_39 : decode mX5_twinsShare.2.1 39 = .ok (.iload_n 2, 1) := by decide +kernel
theorem eX5_twinsShare_40 : decode mX5_twinsShare.2.1 40 = .ok (.iaload, 1) := by decide +kernel
theorem eX5_twinsShare_41 : decode mX5_twinsShare.2.1 41 = .ok (.bipush 6, 2) := by decide +kernel
theorem eX5_twinsShare_43 : decode mX5_twinsShare.2.1 43 = .ok (.if_icmp .ne 5, 3) := by decide +kernel
theorem eX5_twinsShare_46 : decode mX5_twinsShare.2.1 46 = .ok (.iconst 5, 1) := by decide +kernel
theorem eX5_twinsShare_47 : decode mX5_twinsShare.2.1 47 = .ok (.ireturn, 1) := by decide +kernel
theorem eX5_twinsShare_48 : decode mX5_twinsShare.2.1 48 = .ok (.iinc 2 1, 3) := by decide +kernel
theorem eX5_twinsShare_51 : decode mX5_twinsShare.2.1 51 = .ok (.goto (-49), 3) := by decide +kernel
theorem eX5_twinsShare_54 : decode mX5_twinsShare.2.1 54 = .ok (.iconst 0, 1) := by decide +kernel
theorem eX5_twinsShare_55 : decode mX5_twinsShare.2.1 55 = .ok (.ireturn, 1) := by decide +kernel
theorem lp_X5_twinsShare (hW : WF F h w g o) (hm : g 60 = nI m) (hm6 : m ≤ 6) {i : Nat} (hi6 : i < 6) (hQ : Q (some (.int (if sTwin g i m = true then 5 else 0))) h) : ∀ (j q : Nat) (y : Int32), j = m - q → q ≤ m → y = nI q → sTwin g i q = false → AW l G mX5_twinsShare d 0 0 Q 0 0 h [some (.ref w), some (.int (nI i)), some (.int y)] [] 2 := by
  intro j
  induction j using Nat.strongRecOn with
  | _ j ih =>
    intro q y hj hi hy hx
    subst hy
    refine aw_iload_n (pc' := 3) eX5_twinsShare_2 rfl rfl ?_
    refine aw_aload_n (pc' := 4) eX5_twinsShare_3 rfl rfl trivial ?_
    refine aw_Fint (pc' := 7) (kf := 10) hW eX5_twinsShare_4 rfl (by decide) q115 ?_
    refine aw_icmp_ge (pc' := 10) (tgt := 54) eX5_twinsShare_7 rfl (by decide) (fun c_7 => ?_) (fun c_7 => ?_)
    · rw [gsc10, hm] at c_7
      have c9 := ge_nI (by omega) (by omega) c_7
      obtain rfl : q = m := by omega
      refine aw_iconst (pc' := 55) (v := 0) eX5_twinsShare_54 rfl (by decide) ?_
      refine aw_ret (v := some (.int _)) eX5_twinsShare_55 ⟨rfl, rfl⟩ (by omega) (by omega) rfl ?_
      rw [hx] at hQ
      exact hQ
    · rw [gsc10, hm] at c_7
      have c9 := nge_nI (by omega) (by omega) c_7
      refine aw_iload_n (pc' := 11) eX5_twinsShare_10 rfl rfl ?_
      refine aw_iload_n (pc' := 12) eX5_twinsShare_11 rfl rfl ?_
      refine aw_icmp_eq (pc' := 15) (tgt := 48) eX5_twinsShare_12 rfl (by decide) (fun c_12 => ?_) (fun c_12 => ?_)
      · refine aw_iinc (pc' := 51) eX5_twinsShare_48 rfl rfl rfl (by decide) ?_
        dsimp only [zst, zst2, zcut]
        refine aw_goto eX5_twinsShare_51 (by decide) (tgt := 2) ?_
        refine ih (m - (q + 1)) (by omega) (q + 1) _ rfl (by omega) (nI_inc q) ?_
        have e : q = i := (nI_eq (by omega) (by omega)).mp c_12
        subst e
        rw [sTwin, hx]; simp
      · refine aw_aload_n (pc' := 16) eX5_twinsShare_15 rfl rfl trivial ?_
        refine aw_Fref (pc' := 19) (kf := 4) hW eX5_twinsShare_16 rfl (by decide) q104 ?_
        refine aw_iload_n (pc' := 20) eX5_twinsShare_19 rfl rfl ?_
        refine aw_Fld (pc' := 21) 4 3 q hW eX5_twinsShare_20 rfl (by decide) rfl (show vp_in _ 6 from vp_in_nI (by omega) (by omega)) (nI_clamp (by omega)) ?_
        refine aw_iconst (pc' := 22) (v := 1) eX5_twinsShare_21 rfl (by decide) ?_
        refine aw_icmp_ne (pc' := 25) (tgt := 48) eX5_twinsShare_22 rfl (by decide) (fun c_22 => ?_) (fun c_22 => ?_)
        · refine aw_iinc (pc' := 51) eX5_twinsShare_48 rfl rfl rfl (by decide) ?_
          dsimp only [zst, zst2, zcut]
          refine aw_goto eX5_twinsShare_51 (by decide) (tgt := 2) ?_
          refine ih (m - (q + 1)) (by omega) (q + 1) _ rfl (by omega) (nI_inc q) ?_
          rw [sTwin, hx]; simp [c_22]
        · refine aw_aload_n (pc' := 26) eX5_twinsShare_25 rfl rfl trivial ?_
          refine aw_Fref (pc' := 29) (kf := 1) hW eX5_twinsShare_26 rfl (by decide) q98 ?_
          refine aw_iload_n (pc' := 30) eX5_twinsShare_29 rfl rfl ?_
          refine aw_Fld (pc' := 31) 1 0 q hW eX5_twinsShare_30 rfl (by decide) rfl (show vp_in _ 6 from vp_in_nI (by omega) (by omega)) (nI_clamp (by omega)) ?_
          dsimp only [Nat.add_zero]
          refine aw_iconst (pc' := 32) (v := 3) eX5_twinsShare_31 rfl (by decide) ?_
          refine aw_icmp_eq (pc' := 35) (tgt := 46) eX5_twinsShare_32 rfl (by decide) (fun c_32 => ?_) (fun c_32 => ?_)
          · refine aw_iconst (pc' := 47) (v := 5) eX5_twinsShare_46 rfl (by decide) ?_
            refine aw_ret (v := some (.int _)) eX5_twinsShare_47 ⟨rfl, rfl⟩ (by omega) (by omega) rfl ?_
            have e1 : q ≠ i := fun z => c_12 (by rw [z])
            have e2 : g (10 * q + 3) = 1 := by first | exact c_22 | exact Decidable.not_not.mp c_22
            have e3 := c_32
            have e4 : sTwin g i (q + 1) = true := by rw [sTwin]; simp [e1, e2, e3]
            have e5 := sTwin_mono e4 (m - (q + 1))
            rw [show q + 1 + (m - (q + 1)) = m by omega] at e5
            rw [e5] at hQ
            exact hQ
          · refine aw_aload_n (pc' := 36) eX5_twinsShare_35 rfl rfl trivial ?_
            refine aw_Fref (pc' := 39) (kf := 1) hW eX5_twinsShare_36 rfl (by decide) q98 ?_
            refine aw_iload_n (pc' := 40) eX5_twinsShare_39 rfl rfl ?_
            refine aw_Fld (pc' := 41) 1 0 q hW eX5_twinsShare_40 rfl (by decide) rfl (show vp_in _ 6 from vp_in_nI (by omega) (by omega)) (nI_clamp (by omega)) ?_
            dsimp only [Nat.add_zero]
            refine aw_bipush (pc' := 43) (v := 6) eX5_twinsShare_41 rfl (by decide) ?_
            refine aw_icmp_ne (pc' := 46) (tgt := 48) eX5_twinsShare_43 rfl (by decide) (fun c_43 => ?_) (fun c_43 => ?_)
            · refine aw_iinc (pc' := 51) eX5_twinsShare_48 rfl rfl rfl (by decide) ?_
              dsimp only [zst, zst2, zcut]
              refine aw_goto eX5_twinsShare_51 (by decide) (tgt := 2) ?_
              refine ih (m - (q + 1)) (by omega) (q + 1) _ rfl (by omega) (nI_inc q) ?_
              rw [sTwin, hx]; simp [c_32, c_43]
            · refine aw_iconst (pc' := 47) (v := 5) eX5_twinsShare_46 rfl (by decide) ?_
              refine aw_ret (v := some (.int _)) eX5_twinsShare_47 ⟨rfl, rfl⟩ (by omega) (by omega) rfl ?_
              have e1 : q ≠ i := fun z => c_12 (by rw [z])
              have e2 : g (10 * q + 3) = 1 := by first | exact c_22 | exact Decidable.not_not.mp c_22
              have e3 := (show g (10 * q) = 6 from c_43)
              have e4 : sTwin g i (q + 1) = true := by rw [sTwin]; simp [e1, e2, e3]
              have e5 := sTwin_mono e4 (m - (q + 1))
              rw [show q + 1 + (m - (q + 1)) = m by omega] at e5
              rw [e5] at hQ
              exact hQ
theorem c_X5_twinsShare (hW : WF F h w g o) (hm : g 60 = nI m) (hm6 : m ≤ 6) {i : Nat} (hi6 : i < 6) (hd : 0 ≤ d) : Ct l G mX5_twinsShare yX5_twinsShare d 0 0 [.ref w, .int (nI i)] h (fun r h' => r = some (.int (if sTwin g i m = true then 5 else 0)) ∧ h' = h) := by
  refine ct_of (lv := [some (.ref w), some (.int (nI i)), none]) (by decide +kernel) rfl (fun z => by cases z) (fun _ => rfl) (fun _ => Nat.le_of_ble_eq_true rfl) ?_
  refine aw_iconst (pc' := 1) (v := 0) eX5_twinsShare_0 rfl (by decide) ?_
  refine aw_istore_n (pc' := 2) eX5_twinsShare_1 rfl (by decide) ?_
  dsimp only [zst, zst2, zcut]
  exact lp_X5_twinsShare hW hm hm6 hi6 ⟨rfl, rfl⟩ m 0 _ (by omega) (by omega) rfl rfl
abbrev mX5_room : MT := (RX5, cX5_room, 1, (some .int), false)
theorem eX5_room_0 : decode mX5_room.2.1 0 = .ok (.aload_n 0, 1) := by decide +kernel
theorem eX5_room_1 : decode mX5_room.2.1 1 = .ok (.getfield 62, 3) := by decide +kernel
theorem eX5_room_4 : decode mX5_room.2.1 4 = .ok (.ifnonnull 8, 3) := by decide +kernel
theorem eX5_room_7 : decode mX5_room.2.1 7 = .ok (.bipush 30, 2) := by decide +kernel
theorem eX5_room_9 : decode mX5_room.2.1 9 = .ok (.goto 10, 3) := by decide +kernel
theorem eX5_room_12 : decode mX5_room.2.1 12 = .ok (.aload_n 0, 1) := by decide +kernel
theorem eX5_room_13 : decode mX5_room.2.1 13 = .ok (.getfield 62, 3) := by decide +kernel
theorem eX5_room_16 : decode mX5_room.2.1 16 = .ok (.getfield 75, 3) := by decide +kernel
theorem eX5_room_19 : decode mX5_room.2.1 19 = .ok (.ireturn, 1) := by decide +kernel
theorem no_X5_room {L : Nat → Int32} (hW : WG h w g o L .null) (hd : 0 ≤ d) (hQ : Q (some (.int 30)) h) : AW l G mX5_room d 0 0 Q 0 0 h [some (.ref w)] [] 0 := by
  refine aw_aload_n (pc' := 1) eX5_room_0 rfl rfl trivial ?_
  refine aw_Gsea (pc' := 4) hW eX5_room_1 rfl q123 ?_
  refine aw_ifnonnull (pc' := 7) (tgt := 12) eX5_room_4 rfl (by decide) trivial (fun c_4 => ?_) (fun c_4 => ?_)
  · exact absurd rfl c_4
  · refine aw_bipush (pc' := 9) (v := 30) eX5_room_7 rfl (by decide) ?_
    refine aw_goto eX5_room_9 (by decide) (tgt := 19) ?_
    refine aw_ret (v := some (.int _)) eX5_room_19 ⟨rfl, rfl⟩ (by omega) (by omega) rfl ?_
    exact hQ
theorem yes_X5_room {L : Nat → Int32} {s a : Nat} {r : Int32} (hW : WG h w g o L (.ref s)) (hO : OA h s (.inr (2, [.ref a, .int r]))) (hd : 0 ≤ d) (hQ : Q (some (.int r)) h) : AW l G mX5_room d 0 0 Q 0 0 h [some (.ref w)] [] 0 := by
  refine aw_aload_n (pc' := 1) eX5_room_0 rfl rfl trivial ?_
  refine aw_Gsea (pc' := 4) hW eX5_room_1 rfl q123 ?_
  refine aw_ifnonnull (pc' := 7) (tgt := 12) eX5_room_4 rfl (by decide) trivial (fun c_4 => ?_) (fun c_4 => ?_)
  · refine aw_aload_n (pc' := 13) eX5_room_12 rfl rfl trivial ?_
    refine aw_Gsea (pc' := 16) hW eX5_room_13 rfl q123 ?_
    refine aw_Oget (pc' := 19) (ci := 2) (kf := 1) (N := 2) (.int r) hO eX5_room_16 rfl rfl rfl inX2 (by decide) q577 rfl ?_
    refine aw_ret (v := some (.int _)) eX5_room_19 ⟨rfl, rfl⟩ (by omega) (by omega) rfl ?_
    exact hQ
  · exact absurd c_4 (fun z => by cases z)
theorem c_X5_room (hW : WF F h w g o) (hd : 0 ≤ d) : Ct l G mX5_room yX5_room d 0 0 [.ref w] h (fun r h' => r = some (.int (F g 0).2) ∧ h' = h) := by
  refine ct_of (lv := [some (.ref w)]) (by decide +kernel) rfl (fun z => by cases z) (fun _ => rfl) (fun _ => Nat.le_of_ble_eq_true rfl) ?_
  obtain ⟨h1, L, v, sd, hG, hS, hF⟩ := hW
  rw [hF g rfl 0 (by decide)]
  match sd, hS with
  | none, hv =>
    subst hv
    exact no_X5_room hG hd ⟨rfl, rfl⟩
  | some (N, f, r), ⟨s, a, e1, e2, e3, e4, e5, e6⟩ =>
    subst e1
    exact yes_X5_room hG e2 hd ⟨rfl, rfl⟩
abbrev mX5_fillLetters : MT := (RX5, cX5_fillLetters, 2, none, false)
theorem eX5_fillLetters_0 : decode mX5_fillLetters.2.1 0 = .ok (.aload_n 0, 1) := by decide +kernel
theorem eX5_fillLetters_1 : decode mX5_fillLetters.2.1 1 = .ok (.getfield 46, 3) := by decide +kernel
theorem eX5_fillLetters_4 : decode mX5_fillLetters.2.1 4 = .ok (.iconst 0, 1) := by decide +kernel
theorem eX5_fillLetters_5 : decode mX5_fillLetters.2.1 5 = .ok (.iload_n 1, 1) := by decide +kernel
theorem eX5_fillLetters_6 : decode mX5_fillLetters.2.1 6 = .ok (.iastore, 1) := by decide +kernel
theorem eX5_fillLetters_7 : decode mX5_fillLetters.2.1 7 = .ok (.aload_n 0, 1) := by decide +kernel
theorem eX5_fillLetters_8 : decode mX5_fillLetters.2.1 8 = .ok (.getfield 46, 3) := by decide +kernel
theorem eX5_fillLetters_11 : decode mX5_fillLetters.2.1 11 = .ok (.iconst 1, 1) := by decide +kernel
theorem eX5_fillLetters_12 : decode mX5_fillLetters.2.1 12 = .ok (.aload_n 0, 1) := by decide +kernel
theorem eX5_fillLetters_13 : decode mX5_fillLetters.2.1 13 = .ok (.getfield 9, 3) := by decide +kernel
theorem eX5_fillLetters_16 : decode mX5_fillLetters.2.1 16 = .ok (.iload_n 1, 1) := by decide +kernel
theorem eX5_fillLetters_17 : decode mX5_fillLetters.2.1 17 = .ok (.iaload, 1) := by decide +kernel
theorem eX5_fillLetters_18 : decode mX5_fillLetters.2.1 18 = .ok (.iastore, 1) := by decide +kernel
theorem eX5_fillLetters_19 : decode mX5_fillLetters.2.1 19 = .ok (.aload_n 0, 1) := by decide +kernel
theorem eX5_fillLetters_20 : decode mX5_fillLetters.2.1 20 = .ok (.getfield 46, 3) := by decide +kernel
theorem eX5_fillLetters_23 : decode mX5_fillLetters.2.1 23 = .ok (.iconst 2, 1) := by decide +kernel
theorem eX5_fillLetters_24 : decode mX5_fillLetters.2.1 24 = .ok (.aload_n 0, 1) := by decide +kernel
theorem eX5_fillLetters_25 : decode mX5_fillLetters.2.1 25 = .ok (.getfield 15, 3) := by decide +kernel
theorem eX5_fillLetters_28 : decode mX5_fillLetters.2.1 28 = .ok (.iload_n 1, 1) := by decide +kernel
theorem eX5_fillLetters_29 : decode mX5_fillLetters.2.1 29 = .ok (.iaload, 1) := by decide +kernel
theorem eX5_fillLetters_30 : decode mX5_fillLetters.2.1 30 = .ok (.iastore, 1) := by decide +kernel
theorem eX5_fillLetters_31 : decode mX5_fillLetters.2.1 31 = .ok (.aload_n 0, 1) := by decide +kernel
theorem eX5_fillLetters_32 : decode mX5_fillLetters.2.1 32 = .ok (.getfield 46, 3) := by decide +kernel
theorem eX5_fillLetters_35 : decode mX5_fillLetters.2.1 35 = .ok (.iconst 3, 1) := by decide +kernel
theorem eX5_fillLetters_36 : decode mX5_fillLetters.2.1 36 = .ok (.aload_n 0, 1) := by decide +kernel
theorem eX5_fillLetters_37 : decode mX5_fillLetters.2.1 37 = .ok (.getfield 18, 3) := by decide +kernel
theorem eX5_fillLetters_40 : decode mX5_fillLetters.2.1 40 = .ok (.iload_n 1, 1) := by decide +kernel
theorem eX5_fillLetters_41 : decode mX5_fillLetters.2.1 41 = .ok (.iaload, 1) := by decide +kernel
theorem eX5_fillLetters_42 : decode mX5_fillLetters.2.1 42 = .ok (.iastore, 1) := by decide +kernel
theorem eX5_fillLetters_43 : decode mX5_fillLetters.2.1 43 = .ok (.aload_n 0, 1) := by decide +kernel
theorem eX5_fillLetters_44 : decode mX5_fillLetters.2.1 44 = .ok (.getfield 46, 3) := by decide +kernel
theorem eX5_fillLetters_47 : decode mX5_fillLetters.2.1 47 = .ok (.iconst 4, 1) := by decide +kernel
theorem eX5_fillLetters_48 : decode mX5_fillLetters.2.1 48 = .ok (.aload_n 0, 1) := by decide +kernel
theorem eX5_fillLetters_49 : decode mX5_fillLetters.2.1 49 = .ok (.getfield 24, 3) := by decide +kernel
theorem eX5_fillLetters_52 : decode mX5_fillLetters.2.1 52 = .ok (.iload_n 1, 1) := by decide +kernel
theorem eX5_fillLetters_53 : decode mX5_fillLetters.2.1 53 = .ok (.iaload, 1) := by decide +kernel
theorem eX5_fillLetters_54 : decode mX5_fillLetters.2.1 54 = .ok (.bipush 10, 2) := by decide +kernel
theorem eX5_fillLetters_56 : decode mX5_fillLetters.2.1 56 = .ok (.irem, 1) := by decide +kernel
theorem eX5_fillLetters_57 : decode mX5_fillLetters.2.1 57 = .ok (.iastore, 1) := by decide +kernel
theorem eX5_fillLetters_58 : decode mX5_fillLetters.2.1 58 = .ok (.aload_n 0, 1) := by decide +kernel
theorem eX5_fillLetters_59 : decode mX5_fillLetters.2.1 59 = .ok (.getfield 46, 3) := by decide +kernel
theorem eX5_fillLetters_62 : decode mX5_fillLetters.2.1 62 = .ok (.iconst 5, 1) := by decide +kernel
theorem eX5_fillLetters_63 : decode mX5_fillLetters.2.1 63 = .ok (.aload_n 0, 1) := by decide +kernel
theorem eX5_fillLetters_64 : decode mX5_fillLetters.2.1 64 = .ok (.getfield 59, 3) := by decide +kernel
theorem eX5_fillLetters_67 : decode mX5_fillLetters.2.1 67 = .ok (.bipush 10, 2) := by decide +kernel
theorem eX5_fillLetters_69 : decode mX5_fillLetters.2.1 69 = .ok (.irem, 1) := by decide +kernel
theorem eX5_fillLetters_70 : decode mX5_fillLetters.2.1 70 = .ok (.iastore, 1) := by decide +kernel
theorem eX5_fillLetters_71 : decode mX5_fillLetters.2.1 71 = .ok (.return_, 1) := by decide +kernel
theorem c_X5_fillLetters {L : Nat → Int32} {v : Value} (hW : WG h w g o L v) {i : Nat} (hi : i < 6) (hd : 0 ≤ d) : Ct l G mX5_fillLetters yX5_fillLetters d 0 0 [.ref w, .int (nI i)] h (fun r h' => r = none ∧ ∃ L', (∀ j, j < 6 → L' j = mNm g i j) ∧ WG h' w g o L' v ∧ Same w 10 h h') := by
  refine ct_of (lv := [some (.ref w), some (.int (nI i))]) (by decide +kernel) rfl (fun z => by cases z) (fun _ => rfl) (fun _ => Nat.le_of_ble_eq_true rfl) ?_
  refine aw_aload_n (pc' := 1) eX5_fillLetters_0 rfl rfl trivial ?_
  refine aw_Wref (pc' := 4) (kf := 9) hW eX5_fillLetters_1 rfl (by decide) q114 ?_
  refine aw_iconst (pc' := 5) (v := 0) eX5_fillLetters_4 rfl (by decide) ?_
  refine aw_iload_n (pc' := 6) eX5_fillLetters_5 rfl rfl ?_
  refine aw_Gst9 (pc' := 7) 0 hW eX5_fillLetters_6 rfl (by unfold vp_in; decide) (by decide) (fun h3 hW1 hs2 => ?_)
  refine aw_aload_n (pc' := 8) eX5_fillLetters_7 rfl rfl trivial ?_
  refine aw_Wref (pc' := 11) (kf := 9) hW1 eX5_fillLetters_8 rfl (by decide) q114 ?_
  refine aw_iconst (pc' := 12) (v := 1) eX5_fillLetters_11 rfl (by decide) ?_
  refine aw_aload_n (pc' := 13) eX5_fillLetters_12 rfl rfl trivial ?_
  refine aw_Wref (pc' := 16) (kf := 1) hW1 eX5_fillLetters_13 rfl (by decide) q98 ?_
  refine aw_iload_n (pc' := 17) eX5_fillLetters_16 rfl rfl ?_
  refine aw_Gld (pc' := 18) 1 0 i hW1 eX5_fillLetters_17 rfl (by decide) rfl (show vp_in _ 6 from vp_in_nI (by omega) (by omega)) (nI_clamp (by omega)) ?_
  dsimp only [Nat.add_zero]
  refine aw_Gst9 (pc' := 19) 1 hW1 eX5_fillLetters_18 rfl (by unfold vp_in; decide) (by decide) (fun h6 hW4 hs5 => ?_)
  have hT7 := hs2.tr hs5
  refine aw_aload_n (pc' := 20) eX5_fillLetters_19 rfl rfl trivial ?_
  refine aw_Wref (pc' := 23) (kf := 9) hW4 eX5_fillLetters_20 rfl (by decide) q114 ?_
  refine aw_iconst (pc' := 24) (v := 2) eX5_fillLetters_23 rfl (by decide) ?_
  refine aw_aload_n (pc' := 25) eX5_fillLetters_24 rfl rfl trivial ?_
  refine aw_Wref (pc' := 28) (kf := 2) hW4 eX5_fillLetters_25 rfl (by decide) q100 ?_
  refine aw_iload_n (pc' := 29) eX5_fillLetters_28 rfl rfl ?_
  refine aw_Gld (pc' := 30) 2 1 i hW4 eX5_fillLetters_29 rfl (by decide) rfl (show vp_in _ 6 from vp_in_nI (by omega) (by omega)) (nI_clamp (by omega)) ?_
  refine aw_Gst9 (pc' := 31) 2 hW4 eX5_fillLetters_30 rfl (by unfold vp_in; decide) (by decide) (fun h10 hW8 hs9 => ?_)
  have hT11 := hT7.tr hs9
  refine aw_aload_n (pc' := 32) eX5_fillLetters_31 rfl rfl trivial ?_
  refine aw_Wref (pc' := 35) (kf := 9) hW8 eX5_fillLetters_32 rfl (by decide) q114 ?_
  refine aw_iconst (pc' := 36) (v := 3) eX5_fillLetters_35 rfl (by decide) ?_
  refine aw_aload_n (pc' := 37) eX5_fillLetters_36 rfl rfl trivial ?_
  refine aw_Wref (pc' := 40) (kf := 3) hW8 eX5_fillLetters_37 rfl (by decide) q102 ?_
  refine aw_iload_n (pc' := 41) eX5_fillLetters_40 rfl rfl ?_
  refine aw_Gld (pc' := 42) 3 2 i hW8 eX5_fillLetters_41 rfl (by decide) rfl (show vp_in _ 6 from vp_in_nI (by omega) (by omega)) (nI_clamp (by omega)) ?_
  refine aw_Gst9 (pc' := 43) 3 hW8 eX5_fillLetters_42 rfl (by unfold vp_in; decide) (by decide) (fun h14 hW12 hs13 => ?_)
  have hT15 := hT11.tr hs13
  refine aw_aload_n (pc' := 44) eX5_fillLetters_43 rfl rfl trivial ?_
  refine aw_Wref (pc' := 47) (kf := 9) hW12 eX5_fillLetters_44 rfl (by decide) q114 ?_
  refine aw_iconst (pc' := 48) (v := 4) eX5_fillLetters_47 rfl (by decide) ?_
  refine aw_aload_n (pc' := 49) eX5_fillLetters_48 rfl rfl trivial ?_
  refine aw_Wref (pc' := 52) (kf := 5) hW12 eX5_fillLetters_49 rfl (by decide) q106 ?_
  refine aw_iload_n (pc' := 53) eX5_fillLetters_52 rfl rfl ?_
  refine aw_Gld (pc' := 54) 5 4 i hW12 eX5_fillLetters_53 rfl (by decide) rfl (show vp_in _ 6 from vp_in_nI (by omega) (by omega)) (nI_clamp (by omega)) ?_
  refine aw_bipush (pc' := 56) (v := 10) eX5_fillLetters_54 rfl (by decide) ?_
  refine aw_irem (pc' := 57) eX5_fillLetters_56 rfl (by decide) ?_
  refine aw_Gst9 (pc' := 58) 4 hW12 eX5_fillLetters_57 rfl (by unfold vp_in; decide) (by decide) (fun h18 hW16 hs17 => ?_)
  have hT19 := hT15.tr hs17
  refine aw_aload_n (pc' := 59) eX5_fillLetters_58 rfl rfl trivial ?_
  refine aw_Wref (pc' := 62) (kf := 9) hW16 eX5_fillLetters_59 rfl (by decide) q114 ?_
  refine aw_iconst (pc' := 63) (v := 5) eX5_fillLetters_62 rfl (by decide) ?_
  refine aw_aload_n (pc' := 64) eX5_fillLetters_63 rfl rfl trivial ?_
  refine aw_Gint (pc' := 67) (kf := 13) hW16 eX5_fillLetters_64 rfl (by decide) q121 ?_
  refine aw_bipush (pc' := 69) (v := 10) eX5_fillLetters_67 rfl (by decide) ?_
  refine aw_irem (pc' := 70) eX5_fillLetters_69 rfl (by decide) ?_
  refine aw_Gst9 (pc' := 71) 5 hW16 eX5_fillLetters_70 rfl (by unfold vp_in; decide) (by decide) (fun h22 hW20 hs21 => ?_)
  have hT23 := hT19.tr hs21
  refine aw_ret (v := none) eX5_fillLetters_71 rfl (by omega) (by omega) rfl ?_
  refine ⟨rfl, _, ?_, hW20, hT23⟩
  intro j hj
  rcases (by omega : j = 0 ∨ j = 1 ∨ j = 2 ∨ j = 3 ∨ j = 4 ∨ j = 5) with rfl | rfl | rfl | rfl | rfl | rfl <;> rfl
end C2
