/-! the class AmberGrains: tellers -/
section C16
variable {F : FT} {l : Launch} {G : GT} {d m t a : Nat} {g : Nat → Int32} {f : Nat → Int32} {h : Hp} {Q : Option Value → Hp → Prop} {bi se : Int32}
theorem bI_f1 {x lo hi : Int32} (c : x < lo) : bIn x lo hi = false := by
  unfold bIn
  rw [decide_eq_false (Int32.not_le.mpr c)]
  rfl
theorem bI_fgt {x lo hi : Int32} (c : x > hi) : bIn x lo hi = false := by
  unfold bIn
  rw [decide_eq_false (Int32.not_le.mpr c), Bool.and_false]
theorem bI_fle {x lo hi : Int32} (c : ¬ x ≤ hi) : bIn x lo hi = false := bI_fgt (Int32.not_le.mp c)
theorem bI_tle {x lo hi : Int32} (c1 : ¬ x < lo) (c2 : x ≤ hi) : bIn x lo hi = true := by
  unfold bIn
  rw [decide_eq_true (Int32.not_lt.mp c1), decide_eq_true c2]
  rfl
theorem bI_tgt {x lo hi : Int32} (c1 : ¬ x < lo) (c2 : ¬ x > hi) : bIn x lo hi = true := bI_tle c1 (Int32.not_lt.mp c2)
theorem bI_tlt {x lo hi hi1 : Int32} (e : hi1.toInt = hi.toInt + 1) (c1 : ¬ x < lo) (c2 : x < hi1) : bIn x lo hi = true := bI_tle c1 (by
  rw [Int32.le_iff_toInt_le]
  have := Int32.lt_iff_toInt_lt.mp c2
  omega)
theorem bI_flt {x lo hi hi1 : Int32} (e : hi1.toInt = hi.toInt + 1) (c2 : ¬ x < hi1) : bIn x lo hi = false := bI_fle (fun z => c2 (by
  rw [Int32.lt_iff_toInt_lt]
  have := Int32.le_iff_toInt_le.mp z
  omega))
theorem bI_tge {x lo hi hi1 : Int32} (e : hi1.toInt = hi.toInt + 1) (c1 : ¬ x < lo) (c2 : ¬ hi1 ≤ x) : bIn x lo hi = true := bI_tlt e c1 (Int32.not_le.mp c2)
theorem bI_fge {x lo hi hi1 : Int32} (e : hi1.toInt = hi.toInt + 1) (c2 : hi1 ≤ x) : bIn x lo hi = false := bI_flt e (Int32.not_lt.mpr c2)

abbrev mX6_teller : MT := (RX6, cX6_teller, 4, (some .int), false)
theorem eX6_teller_0 : decode mX6_teller.2.1 0 = .ok (.iload_n 1, 1) := by decide +kernel
theorem eX6_teller_1 : decode mX6_teller.2.1 1 = .ok (.ifCond .lt 9, 3) := by decide +kernel
theorem eX6_teller_4 : decode mX6_teller.2.1 4 = .ok (.iload_n 1, 1) := by decide +kernel
theorem eX6_teller_5 : decode mX6_teller.2.1 5 = .ok (.bipush 6, 2) := by decide +kernel
theorem eX6_teller_7 : decode mX6_teller.2.1 7 = .ok (.if_icmp .le 5, 3) := by decide +kernel
theorem eX6_teller_10 : decode mX6_teller.2.1 10 = .ok (.iconst (-1), 1) := by decide +kernel
theorem eX6_teller_11 : decode mX6_teller.2.1 11 = .ok (.ireturn, 1) := by decide +kernel
theorem eX6_teller_12 : decode mX6_teller.2.1 12 = .ok (.iload_n 2, 1) := by decide +kernel
theorem eX6_teller_13 : decode mX6_teller.2.1 13 = .ok (.ifCond .lt 19, 3) := by decide +kernel
theorem eX6_teller_16 : decode mX6_teller.2.1 16 = .ok (.iload_n 2, 1) := by decide +kernel
theorem eX6_teller_17 : decode mX6_teller.2.1 17 = .ok (.bipush 9, 2) := by decide +kernel
theorem eX6_teller_19 : decode mX6_teller.2.1 19 = .ok (.if_icmp .gt 13, 3) := by decide +kernel
theorem eX6_teller_22 : decode mX6_teller.2.1 22 = .ok (.iload_n 3, 1) := by decide +kernel
theorem eX6_teller_23 : decode mX6_teller.2.1 23 = .ok (.ifCond .lt 9, 3) := by decide +kernel
theorem eX6_teller_26 : decode mX6_teller.2.1 26 = .ok (.iload_n 3, 1) := by decide +kernel
theorem eX6_teller_27 : decode mX6_teller.2.1 27 = .ok (.bipush 20, 2) := by decide +kernel
theorem eX6_teller_29 : decode mX6_teller.2.1 29 = .ok (.if_icmp .le 6, 3) := by decide +kernel
theorem eX6_teller_32 : decode mX6_teller.2.1 32 = .ok (.bipush (-2), 2) := by decide +kernel
theorem eX6_teller_34 : decode mX6_teller.2.1 34 = .ok (.ireturn, 1) := by decide +kernel
theorem eX6_teller_35 : decode mX6_teller.2.1 35 = .ok (.aload_n 0, 1) := by decide +kernel
theorem eX6_teller_36 : decode mX6_teller.2.1 36 = .ok (.getfield 16, 3) := by decide +kernel
theorem eX6_teller_39 : decode mX6_teller.2.1 39 = .ok (.getfield 78, 3) := by decide +kernel
theorem eX6_teller_42 : decode mX6_teller.2.1 42 = .ok (.bipush 6, 2) := by decide +kernel
theorem eX6_teller_44 : decode mX6_teller.2.1 44 = .ok (.if_icmp .lt 6, 3) := by decide +kernel
theorem eX6_teller_47 : decode mX6_teller.2.1 47 = .ok (.bipush (-4), 2) := by decide +kernel
theorem eX6_teller_49 : decode mX6_teller.2.1 49 = .ok (.ireturn, 1) := by decide +kernel
theorem eX6_teller_50 : decode mX6_teller.2.1 50 = .ok (.aload_n 0, 1) := by decide +kernel
theorem eX6_teller_51 : decode mX6_teller.2.1 51 = .ok (.getfield 16, 3) := by decide +kernel
theorem eX6_teller_54 : decode mX6_teller.2.1 54 = .ok (.iload_n 1, 1) := by decide +kernel
theorem eX6_teller_55 : decode mX6_teller.2.1 55 = .ok (.iload_n 2, 1) := by decide +kernel
theorem eX6_teller_56 : decode mX6_teller.2.1 56 = .ok (.iload_n 3, 1) := by decide +kernel
theorem eX6_teller_57 : decode mX6_teller.2.1 57 = .ok (.invokevirtual 81, 3) := by decide +kernel
theorem eX6_teller_60 : decode mX6_teller.2.1 60 = .ok (.ireturn, 1) := by decide +kernel
theorem c_X6_teller (hO : OA h 16 (.inr (6, afs bi se))) (hN : WF F h 17 g (nI 9999)) (hm : g 60 = nI m) (hm6 : m ≤ 6) (kd vv wt : Int32) (hd : 2 ≤ d) : Ct l G mX6_teller yX6_teller d 0 0 [.ref 16, .int kd, .int vv, .int wt] h (fun r h' => r = some (.int (sTeller g m kd vv wt).1) ∧ WF F h' 17 (sTeller g m kd vv wt).2 (nI 9999) ∧ Same 17 10 h h') := by
  refine ct_of (lv := [some (.ref 16), some (.int kd), some (.int vv), some (.int wt)]) (by decide +kernel) rfl (fun z => by cases z) (fun _ => rfl) (fun _ => Nat.le_of_ble_eq_true rfl) ?_
  refine aw_iload_n (pc' := 1) eX6_teller_0 rfl rfl ?_
  refine aw_if_lt (pc' := 4) (tgt := 10) eX6_teller_1 rfl (by decide) (fun c_1 => ?_) (fun c_1 => ?_)
  · refine aw_iconst (pc' := 11) (v := -1) eX6_teller_10 rfl (by decide) ?_
    refine aw_ret (v := some (.int _)) eX6_teller_11 ⟨rfl, rfl⟩ (by omega) (by omega) rfl ?_
    rw [sTeller, if_neg (by rw [(bI_f1 c_1)]; decide)]
    exact ⟨rfl, hN, Same.rf⟩
  · refine aw_iload_n (pc' := 5) eX6_teller_4 rfl rfl ?_
    refine aw_bipush (pc' := 7) (v := 6) eX6_teller_5 rfl (by decide) ?_
    refine aw_icmp_le (pc' := 10) (tgt := 12) eX6_teller_7 rfl (by decide) (fun c_7 => ?_) (fun c_7 => ?_)
    · refine aw_iload_n (pc' := 13) eX6_teller_12 rfl rfl ?_
      refine aw_if_lt (pc' := 16) (tgt := 32) eX6_teller_13 rfl (by decide) (fun c_13 => ?_) (fun c_13 => ?_)
      · refine aw_bipush (pc' := 34) (v := -2) eX6_teller_32 rfl (by decide) ?_
        refine aw_ret (v := some (.int _)) eX6_teller_34 ⟨rfl, rfl⟩ (by omega) (by omega) rfl ?_
        rw [sTeller, if_pos (bI_tle c_1 c_7), if_neg (fun z => by rw [(bI_f1 c_13)] at z; exact absurd z.1 (by decide))]
        exact ⟨rfl, hN, Same.rf⟩
      · refine aw_iload_n (pc' := 17) eX6_teller_16 rfl rfl ?_
        refine aw_bipush (pc' := 19) (v := 9) eX6_teller_17 rfl (by decide) ?_
        refine aw_icmp_gt (pc' := 22) (tgt := 32) eX6_teller_19 rfl (by decide) (fun c_19 => ?_) (fun c_19 => ?_)
        · refine aw_bipush (pc' := 34) (v := -2) eX6_teller_32 rfl (by decide) ?_
          refine aw_ret (v := some (.int _)) eX6_teller_34 ⟨rfl, rfl⟩ (by omega) (by omega) rfl ?_
          rw [sTeller, if_pos (bI_tle c_1 c_7), if_neg (fun z => by rw [(bI_fgt c_19)] at z; exact absurd z.1 (by decide))]
          exact ⟨rfl, hN, Same.rf⟩
        · refine aw_iload_n (pc' := 23) eX6_teller_22 rfl rfl ?_
          refine aw_if_lt (pc' := 26) (tgt := 32) eX6_teller_23 rfl (by decide) (fun c_23 => ?_) (fun c_23 => ?_)
          · refine aw_bipush (pc' := 34) (v := -2) eX6_teller_32 rfl (by decide) ?_
            refine aw_ret (v := some (.int _)) eX6_teller_34 ⟨rfl, rfl⟩ (by omega) (by omega) rfl ?_
            rw [sTeller, if_pos (bI_tle c_1 c_7), if_neg (fun z => by rw [(bI_f1 c_23)] at z; exact absurd z.2 (by decide))]
            exact ⟨rfl, hN, Same.rf⟩
          · refine aw_iload_n (pc' := 27) eX6_teller_26 rfl rfl ?_
            refine aw_bipush (pc' := 29) (v := 20) eX6_teller_27 rfl (by decide) ?_
            refine aw_icmp_le (pc' := 32) (tgt := 35) eX6_teller_29 rfl (by decide) (fun c_29 => ?_) (fun c_29 => ?_)
            · refine aw_aload_n (pc' := 36) eX6_teller_35 rfl rfl trivial ?_
              refine aw_Oget (pc' := 39) (ci := 6) (kf := 0) (N := 14) (.ref 17) hO eX6_teller_36 rfl rfl rfl inX6 (by decide) q250 rfl ?_
              refine aw_Fint (pc' := 42) (kf := 10) hN eX6_teller_39 rfl (by decide) q116 ?_
              rw [gsc10, hm]
              refine aw_bipush (pc' := 44) (v := 6) eX6_teller_42 rfl (by decide) ?_
              refine aw_icmp_lt (pc' := 47) (tgt := 50) eX6_teller_44 rfl (by decide) (fun c_44 => ?_) (fun c_44 => ?_)
              · have c9 : m < 6 := (nI_ltI (b := 6) (by omega) (by omega)).mp c_44
                refine aw_aload_n (pc' := 51) eX6_teller_50 rfl rfl trivial ?_
                refine aw_Oget (pc' := 54) (ci := 6) (kf := 0) (N := 14) (.ref 17) hO eX6_teller_51 rfl rfl rfl inX6 (by decide) q250 rfl ?_
                refine aw_iload_n (pc' := 55) eX6_teller_54 rfl rfl ?_
                refine aw_iload_n (pc' := 56) eX6_teller_55 rfl rfl ?_
                refine aw_iload_n (pc' := 57) eX6_teller_56 rfl rfl ?_
                refine aw_callv (pc' := 60) (nn := 3) (c_X5_comesNew (d := d - 1) hN hm c9 kd vv wt (by omega)) eX6_teller_57 rfl ⟨q297, q300, q56⟩ q298 q299 ⟨rfl, by decide +kernel, by decide +kernel, by decide +kernel⟩ rfl hN.ob rfl ⟨by omega, by decide⟩ ⟨by omega, by omega⟩ rfl (Nat.le_of_ble_eq_true rfl) (fun v3 h4 hq5 => ?_)
                obtain ⟨rfl, hW1, hs2⟩ := hq5
                have hF6 := hO.fr hs2 (by omega)
                dsimp only [Option.toList, List.cons_append, List.nil_append]
                refine aw_ret (v := some (.int _)) eX6_teller_60 ⟨rfl, rfl⟩ (by omega) (by omega) rfl ?_
                rw [sTeller, if_pos (bI_tle c_1 c_7), if_pos ⟨(bI_tgt c_13 c_19), (bI_tle c_23 c_29)⟩, if_neg (by omega)]
                exact ⟨rfl, hW1, hs2⟩
              · refine aw_bipush (pc' := 49) (v := -4) eX6_teller_47 rfl (by decide) ?_
                refine aw_ret (v := some (.int _)) eX6_teller_49 ⟨rfl, rfl⟩ (by omega) (by omega) rfl ?_
                rw [sTeller, if_pos (bI_tle c_1 c_7), if_pos ⟨(bI_tgt c_13 c_19), (bI_tle c_23 c_29)⟩, if_pos (by rcases Nat.lt_or_ge m 6 with z | z; exact absurd ((nI_ltI (b := 6) (by omega) (by omega)).mpr z) c_44; omega)]
                exact ⟨rfl, hN, Same.rf⟩
            · refine aw_bipush (pc' := 34) (v := -2) eX6_teller_32 rfl (by decide) ?_
              refine aw_ret (v := some (.int _)) eX6_teller_34 ⟨rfl, rfl⟩ (by omega) (by omega) rfl ?_
              rw [sTeller, if_pos (bI_tle c_1 c_7), if_neg (fun z => by rw [(bI_fle c_29)] at z; exact absurd z.2 (by decide))]
              exact ⟨rfl, hN, Same.rf⟩
    · refine aw_iconst (pc' := 11) (v := -1) eX6_teller_10 rfl (by decide) ?_
      refine aw_ret (v := some (.int _)) eX6_teller_11 ⟨rfl, rfl⟩ (by omega) (by omega) rfl ?_
      rw [sTeller, if_neg (by rw [(bI_fle c_7)]; decide)]
      exact ⟨rfl, hN, Same.rf⟩
abbrev mX6_tell : MT := (RX6, cX6_tell, 2, (some .int), false)
theorem eX6_tell_0 : decode mX6_tell.2.1 0 = .ok (.aload_n 0, 1) := by decide +kernel
theorem eX6_tell_1 : decode mX6_tell.2.1 1 = .ok (.getfield 16, 3) := by decide +kernel
theorem eX6_tell_4 : decode mX6_tell.2.1 4 = .ok (.iload_n 1, 1) := by decide +kernel
theorem eX6_tell_5 : decode mX6_tell.2.1 5 = .ok (.invokevirtual 85, 3) := by decide +kernel
theorem eX6_tell_8 : decode mX6_tell.2.1 8 = .ok (.ifCond .ne 5, 3) := by decide +kernel
theorem eX6_tell_11 : decode mX6_tell.2.1 11 = .ok (.iconst (-1), 1) := by decide +kernel
theorem eX6_tell_12 : decode mX6_tell.2.1 12 = .ok (.ireturn, 1) := by decide +kernel
theorem eX6_tell_13 : decode mX6_tell.2.1 13 = .ok (.aload_n 0, 1) := by decide +kernel
theorem eX6_tell_14 : decode mX6_tell.2.1 14 = .ok (.getfield 16, 3) := by decide +kernel
theorem eX6_tell_17 : decode mX6_tell.2.1 17 = .ok (.getfield 99, 3) := by decide +kernel
theorem eX6_tell_20 : decode mX6_tell.2.1 20 = .ok (.iload_n 1, 1) := by decide +kernel
theorem eX6_tell_21 : decode mX6_tell.2.1 21 = .ok (.iaload, 1) := by decide +kernel
theorem eX6_tell_22 : decode mX6_tell.2.1 22 = .ok (.ifCond .eq 6, 3) := by decide +kernel
theorem eX6_tell_25 : decode mX6_tell.2.1 25 = .ok (.bipush (-3), 2) := by decide +kernel
theorem eX6_tell_27 : decode mX6_tell.2.1 27 = .ok (.ireturn, 1) := by decide +kernel
theorem eX6_tell_28 : decode mX6_tell.2.1 28 = .ok (.aload_n 0, 1) := by decide +kernel
theorem eX6_tell_29 : decode mX6_tell.2.1 29 = .ok (.getfield 16, 3) := by decide +kernel
theorem eX6_tell_32 : decode mX6_tell.2.1 32 = .ok (.iload_n 1, 1) := by decide +kernel
theorem eX6_tell_33 : decode mX6_tell.2.1 33 = .ok (.invokevirtual 126, 3) := by decide +kernel
theorem eX6_tell_36 : decode mX6_tell.2.1 36 = .ok (.aload_n 0, 1) := by decide +kernel
theorem eX6_tell_37 : decode mX6_tell.2.1 37 = .ok (.getfield 16, 3) := by decide +kernel
theorem eX6_tell_40 : decode mX6_tell.2.1 40 = .ok (.invokevirtual 129, 3) := by decide +kernel
theorem eX6_tell_43 : decode mX6_tell.2.1 43 = .ok (.invokestatic 133, 3) := by decide +kernel
theorem eX6_tell_46 : decode mX6_tell.2.1 46 = .ok (.ireturn, 1) := by decide +kernel
theorem c_X6_tell (hO : OA h 16 (.inr (6, afs bi se))) (hN : WF F h 17 g (nI 9999)) (hm : g 60 = nI m) (hm6 : m ≤ 6) (tl : Int32) (hd : 2 ≤ d) : Ct l G mX6_tell yX6_tell d 0 0 [.ref 16, .int tl] h (fun r h' => r = some (.int (sTell g m tl).1) ∧ WF F h' 17 (sTell g m tl).2 (nI 9999) ∧ Same 17 10 h h') := by
  refine ct_of (lv := [some (.ref 16), some (.int tl)]) (by decide +kernel) rfl (fun z => by cases z) (fun _ => rfl) (fun _ => Nat.le_of_ble_eq_true rfl) ?_
  refine aw_aload_n (pc' := 1) eX6_tell_0 rfl rfl trivial ?_
  refine aw_Oget (pc' := 4) (ci := 6) (kf := 0) (N := 14) (.ref 17) hO eX6_tell_1 rfl rfl rfl inX6 (by decide) q250 rfl ?_
  refine aw_iload_n (pc' := 5) eX6_tell_4 rfl rfl ?_
  refine aw_callv (pc' := 8) (nn := 1) (c_X5_has (d := d - 1) hN hm hm6 _ (by omega)) eX6_tell_5 rfl ⟨q305, q308, q56⟩ q306 q307 ⟨rfl, by decide +kernel, by decide +kernel, by decide +kernel⟩ rfl hN.ob rfl ⟨by omega, by decide⟩ ⟨by omega, by omega⟩ rfl (Nat.le_of_ble_eq_true rfl) (fun v1 h2 hq3 => ?_)
  obtain ⟨rfl, rfl⟩ := hq3
  dsimp only [Option.toList, List.cons_append, List.nil_append]
  refine aw_if_ne (pc' := 11) (tgt := 13) eX6_tell_8 rfl (by decide) (fun c_8 => ?_) (fun c_8 => ?_)
  · have hb9 := zb_ne0.mp c_8
    obtain ⟨b, hb, rfl⟩ := (bIn_one hm6).mp hb9
    have clb : (nI b).toNatClampNeg = b := nI_clamp (by omega)
    refine aw_aload_n (pc' := 14) eX6_tell_13 rfl rfl trivial ?_
    refine aw_Oget (pc' := 17) (ci := 6) (kf := 0) (N := 14) (.ref 17) hO eX6_tell_14 rfl rfl rfl inX6 (by decide) q250 rfl ?_
    refine aw_Fref (pc' := 20) (kf := 4) hN eX6_tell_17 rfl (by decide) q105 ?_
    refine aw_iload_n (pc' := 21) eX6_tell_20 rfl rfl ?_
    refine aw_Fld (pc' := 22) 4 3 b hN eX6_tell_21 rfl (by decide) rfl (show vp_in _ 6 from vp_in_nI (by omega) (by omega)) (nI_clamp (by omega)) ?_
    refine aw_if_eq (pc' := 25) (tgt := 28) eX6_tell_22 rfl (by decide) (fun c_22 => ?_) (fun c_22 => ?_)
    · have eS : sSays g b = upd (upd g (10 * b + 3) 1) (10 * b + 4) 0 := if_pos c_22
      refine aw_aload_n (pc' := 29) eX6_tell_28 rfl rfl trivial ?_
      refine aw_Oget (pc' := 32) (ci := 6) (kf := 0) (N := 14) (.ref 17) hO eX6_tell_29 rfl rfl rfl inX6 (by decide) q250 rfl ?_
      refine aw_iload_n (pc' := 33) eX6_tell_32 rfl rfl ?_
      refine aw_callv (pc' := 36) (nn := 1) (c_X5_isTold (d := d - 1) hN (i := b) (by omega) (by omega)) eX6_tell_33 rfl ⟨q367, q370, q56⟩ q368 q369 ⟨rfl, by decide +kernel, by decide +kernel, by decide +kernel⟩ rfl hN.ob rfl ⟨by omega, by decide⟩ ⟨by omega, by omega⟩ rfl (Nat.le_of_ble_eq_true rfl) (fun v6 h7 hq8 => ?_)
      obtain ⟨rfl, hW4, hs5⟩ := hq8
      have hF9 := hO.fr hs5 (by omega)
      dsimp only [Option.toList, List.cons_append, List.nil_append]
      refine aw_aload_n (pc' := 37) eX6_tell_36 rfl rfl trivial ?_
      refine aw_Oget (pc' := 40) (ci := 6) (kf := 0) (N := 14) (.ref 17) hF9 eX6_tell_37 rfl rfl rfl inX6 (by decide) q250 rfl ?_
      refine aw_callv (pc' := 43) (nn := 0) (c_X5_withinBits (d := d - 1) hW4 (m := m) (by rw [← eS, sSays_hi2 (by omega) (by omega)]; exact hm) hm6 (by omega)) eX6_tell_40 rfl ⟨q375, q378, q56⟩ q376 q377 ⟨rfl, by decide +kernel, by decide +kernel, by decide +kernel⟩ rfl hW4.ob rfl ⟨by omega, by decide⟩ ⟨by omega, by omega⟩ rfl (Nat.le_of_ble_eq_true rfl) (fun v10 h11 hq12 => ?_)
      obtain ⟨rfl, rfl⟩ := hq12
      rw [← eS]
      dsimp only [Option.toList, List.cons_append, List.nil_append]
      refine aw_calls (pc' := 46) (nn := 1) (c_J6_bitCount_0f7a4 (d := d - 1) _ (by omega)) eX6_tell_43 rfl ⟨q379, q381, q66⟩ q380 ⟨by decide +kernel, by decide +kernel, by decide +kernel⟩ rfl ⟨by omega, by decide⟩ ⟨by omega, by omega⟩ rfl (Nat.le_of_ble_eq_true rfl) (fun v13 h14 hq15 => ?_)
      obtain ⟨rfl, rfl⟩ := hq15
      rw [bc_which hm6]
      dsimp only [Option.toList, List.cons_append, List.nil_append]
      refine aw_ret (v := some (.int _)) eX6_tell_46 ⟨rfl, rfl⟩ (by omega) (by omega) rfl ?_
      rw [sTell, if_pos hb9, clb, if_pos c_22]
      exact ⟨rfl, (hW4).eq eS.symm, hs5⟩
    · refine aw_bipush (pc' := 27) (v := -3) eX6_tell_25 rfl (by decide) ?_
      refine aw_ret (v := some (.int _)) eX6_tell_27 ⟨rfl, rfl⟩ (by omega) (by omega) rfl ?_
      rw [sTell, if_pos hb9, clb, if_neg c_22]
      exact ⟨rfl, hN, Same.rf⟩
  · refine aw_iconst (pc' := 12) (v := -1) eX6_tell_11 rfl (by decide) ?_
    refine aw_ret (v := some (.int _)) eX6_tell_12 ⟨rfl, rfl⟩ (by omega) (by omega) rfl ?_
    rw [sTell, if_neg (by rw [(zb_eq0.mp c_8)]; decide)]
    exact ⟨rfl, hN, Same.rf⟩
abbrev mX6_weigh : MT := (RX6, cX6_weigh, 4, (some .int), false)
theorem eX6_weigh_0 : decode mX6_weigh.2.1 0 = .ok (.aload_n 0, 1) := by decide +kernel
theorem eX6_weigh_1 : decode mX6_weigh.2.1 1 = .ok (.getfield 16, 3) := by decide +kernel
theorem eX6_weigh_4 : decode mX6_weigh.2.1 4 = .ok (.iload_n 1, 1) := by decide +kernel
theorem eX6_weigh_5 : decode mX6_weigh.2.1 5 = .ok (.invokevirtual 85, 3) := by decide +kernel
theorem eX6_weigh_8 : decode mX6_weigh.2.1 8 = .ok (.ifCond .ne 5, 3) := by decide +kernel
theorem eX6_weigh_11 : decode mX6_weigh.2.1 11 = .ok (.iconst (-1), 1) := by decide +kernel
theorem eX6_weigh_12 : decode mX6_weigh.2.1 12 = .ok (.ireturn, 1) := by decide +kernel
theorem eX6_weigh_13 : decode mX6_weigh.2.1 13 = .ok (.iload_n 2, 1) := by decide +kernel
theorem eX6_weigh_14 : decode mX6_weigh.2.1 14 = .ok (.ifCond .lt 9, 3) := by decide +kernel
theorem eX6_weigh_17 : decode mX6_weigh.2.1 17 = .ok (.iload_n 2, 1) := by decide +kernel
theorem eX6_weigh_18 : decode mX6_weigh.2.1 18 = .ok (.bipush 20, 2) := by decide +kernel
theorem eX6_weigh_20 : decode mX6_weigh.2.1 20 = .ok (.if_icmp .le 6, 3) := by decide +kernel
theorem eX6_weigh_23 : decode mX6_weigh.2.1 23 = .ok (.bipush (-2), 2) := by decide +kernel
theorem eX6_weigh_25 : decode mX6_weigh.2.1 25 = .ok (.ireturn, 1) := by decide +kernel
theorem eX6_weigh_26 : decode mX6_weigh.2.1 26 = .ok (.aload_n 0, 1) := by decide +kernel
theorem eX6_weigh_27 : decode mX6_weigh.2.1 27 = .ok (.getfield 16, 3) := by decide +kernel
theorem eX6_weigh_30 : decode mX6_weigh.2.1 30 = .ok (.getfield 96, 3) := by decide +kernel
theorem eX6_weigh_33 : decode mX6_weigh.2.1 33 = .ok (.iload_n 1, 1) := by decide +kernel
theorem eX6_weigh_34 : decode mX6_weigh.2.1 34 = .ok (.iaload, 1) := by decide +kernel
theorem eX6_weigh_35 : decode mX6_weigh.2.1 35 = .ok (.istore_n 3, 1) := by decide +kernel
theorem eX6_weigh_36 : decode mX6_weigh.2.1 36 = .ok (.aload_n 0, 1) := by decide +kernel
theorem eX6_weigh_37 : decode mX6_weigh.2.1 37 = .ok (.getfield 16, 3) := by decide +kernel
theorem eX6_weigh_40 : decode mX6_weigh.2.1 40 = .ok (.getfield 96, 3) := by decide +kernel
theorem eX6_weigh_43 : decode mX6_weigh.2.1 43 = .ok (.iload_n 1, 1) := by decide +kernel
theorem eX6_weigh_44 : decode mX6_weigh.2.1 44 = .ok (.iload_n 2, 1) := by decide +kernel
theorem eX6_weigh_45 : decode mX6_weigh.2.1 45 = .ok (.iastore, 1) := by decide +kernel
theorem eX6_weigh_46 : decode mX6_weigh.2.1 46 = .ok (.iload_n 3, 1) := by decide +kernel
theorem eX6_weigh_47 : decode mX6_weigh.2.1 47 = .ok (.ireturn, 1) := by decide +kernel
theorem c_X6_weigh (hO : OA h 16 (.inr (6, afs bi se))) (hN : WF F h 17 g (nI 9999)) (hm : g 60 = nI m) (hm6 : m ≤ 6) (tl x : Int32) (hd : 2 ≤ d) : Ct l G mX6_weigh yX6_weigh d 0 0 [.ref 16, .int tl, .int x] h (fun r h' => r = some (.int (sWeigh g m tl x).1) ∧ WF F h' 17 (sWeigh g m tl x).2 (nI 9999) ∧ Same 17 10 h h') := by
  refine ct_of (lv := [some (.ref 16), some (.int tl), some (.int x), none]) (by decide +kernel) rfl (fun z => by cases z) (fun _ => rfl) (fun _ => Nat.le_of_ble_eq_true rfl) ?_
  refine aw_aload_n (pc' := 1) eX6_weigh_0 rfl rfl trivial ?_
  refine aw_Oget (pc' := 4) (ci := 6) (kf := 0) (N := 14) (.ref 17) hO eX6_weigh_1 rfl rfl rfl inX6 (by decide) q250 rfl ?_
  refine aw_iload_n (pc' := 5) eX6_weigh_4 rfl rfl ?_
  refine aw_callv (pc' := 8) (nn := 1) (c_X5_has (d := d - 1) hN hm hm6 _ (by omega)) eX6_weigh_5 rfl ⟨q305, q308, q56⟩ q306 q307 ⟨rfl, by decide +kernel, by decide +kernel, by decide +kernel⟩ rfl hN.ob rfl ⟨by omega, by decide⟩ ⟨by omega, by omega⟩ rfl (Nat.le_of_ble_eq_true rfl) (fun v1 h2 hq3 => ?_)
  obtain ⟨rfl, rfl⟩ := hq3
  dsimp only [Option.toList, List.cons_append, List.nil_append]
  refine aw_if_ne (pc' := 11) (tgt := 13) eX6_weigh_8 rfl (by decide) (fun c_8 => ?_) (fun c_8 => ?_)
  · have hb9 := zb_ne0.mp c_8
    obtain ⟨b, hb, rfl⟩ := (bIn_one hm6).mp hb9
    have clb : (nI b).toNatClampNeg = b := nI_clamp (by omega)
    refine aw_iload_n (pc' := 14) eX6_weigh_13 rfl rfl ?_
    refine aw_if_lt (pc' := 17) (tgt := 23) eX6_weigh_14 rfl (by decide) (fun c_14 => ?_) (fun c_14 => ?_)
    · refine aw_bipush (pc' := 25) (v := -2) eX6_weigh_23 rfl (by decide) ?_
      refine aw_ret (v := some (.int _)) eX6_weigh_25 ⟨rfl, rfl⟩ (by omega) (by omega) rfl ?_
      rw [sWeigh, if_pos hb9, if_neg (by rw [(bI_f1 c_14)]; decide)]
      exact ⟨rfl, hN, Same.rf⟩
    · refine aw_iload_n (pc' := 18) eX6_weigh_17 rfl rfl ?_
      refine aw_bipush (pc' := 20) (v := 20) eX6_weigh_18 rfl (by decide) ?_
      refine aw_icmp_le (pc' := 23) (tgt := 26) eX6_weigh_20 rfl (by decide) (fun c_20 => ?_) (fun c_20 => ?_)
      · refine aw_aload_n (pc' := 27) eX6_weigh_26 rfl rfl trivial ?_
        refine aw_Oget (pc' := 30) (ci := 6) (kf := 0) (N := 14) (.ref 17) hO eX6_weigh_27 rfl rfl rfl inX6 (by decide) q250 rfl ?_
        refine aw_Fref (pc' := 33) (kf := 3) hN eX6_weigh_30 rfl (by decide) q103 ?_
        refine aw_iload_n (pc' := 34) eX6_weigh_33 rfl rfl ?_
        refine aw_Fld (pc' := 35) 3 2 b hN eX6_weigh_34 rfl (by decide) rfl (show vp_in _ 6 from vp_in_nI (by omega) (by omega)) (nI_clamp (by omega)) ?_
        refine aw_istore_n (pc' := 36) eX6_weigh_35 rfl (by decide) ?_
        dsimp only [zst, zst2, zcut]
        refine aw_aload_n (pc' := 37) eX6_weigh_36 rfl rfl trivial ?_
        refine aw_Oget (pc' := 40) (ci := 6) (kf := 0) (N := 14) (.ref 17) hO eX6_weigh_37 rfl rfl rfl inX6 (by decide) q250 rfl ?_
        refine aw_Fref (pc' := 43) (kf := 3) hN eX6_weigh_40 rfl (by decide) q103 ?_
        refine aw_iload_n (pc' := 44) eX6_weigh_43 rfl rfl ?_
        refine aw_iload_n (pc' := 45) eX6_weigh_44 rfl rfl ?_
        refine aw_Fst (pc' := 46) 3 2 b hN eX6_weigh_45 rfl (by decide) rfl (show vp_in _ 6 from vp_in_nI (by omega) (by omega)) (nI_clamp (by omega)) (fun h6 hW4 hs5 => ?_)
        have hF7 := hO.fr hs5 (by omega)
        refine aw_iload_n (pc' := 47) eX6_weigh_46 rfl rfl ?_
        refine aw_ret (v := some (.int _)) eX6_weigh_47 ⟨rfl, rfl⟩ (by omega) (by omega) rfl ?_
        rw [sWeigh, if_pos hb9, if_pos (bI_tle c_14 c_20), clb]
        exact ⟨rfl, hW4, hs5⟩
      · refine aw_bipush (pc' := 25) (v := -2) eX6_weigh_23 rfl (by decide) ?_
        refine aw_ret (v := some (.int _)) eX6_weigh_25 ⟨rfl, rfl⟩ (by omega) (by omega) rfl ?_
        rw [sWeigh, if_pos hb9, if_neg (by rw [(bI_fle c_20)]; decide)]
        exact ⟨rfl, hN, Same.rf⟩
  · refine aw_iconst (pc' := 12) (v := -1) eX6_weigh_11 rfl (by decide) ?_
    refine aw_ret (v := some (.int _)) eX6_weigh_12 ⟨rfl, rfl⟩ (by omega) (by omega) rfl ?_
    rw [sWeigh, if_neg (by rw [(zb_eq0.mp c_8)]; decide)]
    exact ⟨rfl, hN, Same.rf⟩
abbrev mX6_put : MT := (RX6, cX6_put, 5, (some .int), false)
theorem eX6_put_0 : decode mX6_put.2.1 0 = .ok (.aload_n 0, 1) := by decide +kernel
theorem eX6_put_1 : decode mX6_put.2.1 1 = .ok (.getfield 16, 3) := by decide +kernel
theorem eX6_put_4 : decode mX6_put.2.1 4 = .ok (.iload_n 1, 1) := by decide +kernel
theorem eX6_put_5 : decode mX6_put.2.1 5 = .ok (.invokevirtual 85, 3) := by decide +kernel
theorem eX6_put_8 : decode mX6_put.2.1 8 = .ok (.ifCond .eq 10, 3) := by decide +kernel
theorem eX6_put_11 : decode mX6_put.2.1 11 = .ok (.iload_n 2, 1) := by decide +kernel
theorem eX6_put_12 : decode mX6_put.2.1 12 = .ok (.invokestatic 138, 3) := by decide +kernel
theorem eX6_put_15 : decode mX6_put.2.1 15 = .ok (.ifCond .ne 5, 3) := by decide +kernel
theorem eX6_put_18 : decode mX6_put.2.1 18 = .ok (.iconst (-1), 1) := by decide +kernel
theorem eX6_put_19 : decode mX6_put.2.1 19 = .ok (.ireturn, 1) := by decide +kernel
theorem eX6_put_20 : decode mX6_put.2.1 20 = .ok (.iload_n 3, 1) := by decide +kernel
theorem eX6_put_21 : decode mX6_put.2.1 21 = .ok (.iconst 2, 1) := by decide +kernel
theorem eX6_put_22 : decode mX6_put.2.1 22 = .ok (.if_icmp .lt 8, 3) := by decide +kernel
theorem eX6_put_25 : decode mX6_put.2.1 25 = .ok (.iload_n 3, 1) := by decide +kernel
theorem eX6_put_26 : decode mX6_put.2.1 26 = .ok (.iconst 4, 1) := by decide +kernel
theorem eX6_put_27 : decode mX6_put.2.1 27 = .ok (.if_icmp .le 6, 3) := by decide +kernel
theorem eX6_put_30 : decode mX6_put.2.1 30 = .ok (.bipush (-2), 2) := by decide +kernel
theorem eX6_put_32 : decode mX6_put.2.1 32 = .ok (.ireturn, 1) := by decide +kernel
theorem eX6_put_33 : decode mX6_put.2.1 33 = .ok (.aload_n 0, 1) := by decide +kernel
theorem eX6_put_34 : decode mX6_put.2.1 34 = .ok (.getfield 16, 3) := by decide +kernel
theorem eX6_put_37 : decode mX6_put.2.1 37 = .ok (.getfield 99, 3) := by decide +kernel
theorem eX6_put_40 : decode mX6_put.2.1 40 = .ok (.iload_n 1, 1) := by decide +kernel
theorem eX6_put_41 : decode mX6_put.2.1 41 = .ok (.iaload, 1) := by decide +kernel
theorem eX6_put_42 : decode mX6_put.2.1 42 = .ok (.istore 4, 2) := by decide +kernel
theorem eX6_put_44 : decode mX6_put.2.1 44 = .ok (.aload_n 0, 1) := by decide +kernel
theorem eX6_put_45 : decode mX6_put.2.1 45 = .ok (.getfield 16, 3) := by decide +kernel
theorem eX6_put_48 : decode mX6_put.2.1 48 = .ok (.getfield 105, 3) := by decide +kernel
theorem eX6_put_51 : decode mX6_put.2.1 51 = .ok (.iload_n 1, 1) := by decide +kernel
theorem eX6_put_52 : decode mX6_put.2.1 52 = .ok (.iload_n 2, 1) := by decide +kernel
theorem eX6_put_53 : decode mX6_put.2.1 53 = .ok (.iastore, 1) := by decide +kernel
theorem eX6_put_54 : decode mX6_put.2.1 54 = .ok (.aload_n 0, 1) := by decide +kernel
theorem eX6_put_55 : decode mX6_put.2.1 55 = .ok (.getfield 16, 3) := by decide +kernel
theorem eX6_put_58 : decode mX6_put.2.1 58 = .ok (.getfield 99, 3) := by decide +kernel
theorem eX6_put_61 : decode mX6_put.2.1 61 = .ok (.iload_n 1, 1) := by decide +kernel
theorem eX6_put_62 : decode mX6_put.2.1 62 = .ok (.iload_n 3, 1) := by decide +kernel
theorem eX6_put_63 : decode mX6_put.2.1 63 = .ok (.iastore, 1) := by decide +kernel
theorem eX6_put_64 : decode mX6_put.2.1 64 = .ok (.iload 4, 2) := by decide +kernel
theorem eX6_put_66 : decode mX6_put.2.1 66 = .ok (.ireturn, 1) := by decide +kernel
theorem c_X6_put (hO : OA h 16 (.inr (6, afs bi se))) (hN : WF F h 17 g (nI 9999)) (hm : g 60 = nI m) (hm6 : m ≤ 6) (tl p s : Int32) (hd : 2 ≤ d) : Ct l G mX6_put yX6_put d 0 0 [.ref 16, .int tl, .int p, .int s] h (fun r h' => r = some (.int (sPut g m tl p s).1) ∧ WF F h' 17 (sPut g m tl p s).2 (nI 9999) ∧ Same 17 10 h h') := by
  refine ct_of (lv := [some (.ref 16), some (.int tl), some (.int p), some (.int s), none]) (by decide +kernel) rfl (fun z => by cases z) (fun _ => rfl) (fun _ => Nat.le_of_ble_eq_true rfl) ?_
  refine aw_aload_n (pc' := 1) eX6_put_0 rfl rfl trivial ?_
  refine aw_Oget (pc' := 4) (ci := 6) (kf := 0) (N := 14) (.ref 17) hO eX6_put_1 rfl rfl rfl inX6 (by decide) q250 rfl ?_
  refine aw_iload_n (pc' := 5) eX6_put_4 rfl rfl ?_
  refine aw_callv (pc' := 8) (nn := 1) (c_X5_has (d := d - 1) hN hm hm6 _ (by omega)) eX6_put_5 rfl ⟨q305, q308, q56⟩ q306 q307 ⟨rfl, by decide +kernel, by decide +kernel, by decide +kernel⟩ rfl hN.ob rfl ⟨by omega, by decide⟩ ⟨by omega, by omega⟩ rfl (Nat.le_of_ble_eq_true rfl) (fun v1 h2 hq3 => ?_)
  obtain ⟨rfl, rfl⟩ := hq3
  dsimp only [Option.toList, List.cons_append, List.nil_append]
  refine aw_if_eq (pc' := 11) (tgt := 18) eX6_put_8 rfl (by decide) (fun c_8 => ?_) (fun c_8 => ?_)
  · refine aw_iconst (pc' := 19) (v := -1) eX6_put_18 rfl (by decide) ?_
    refine aw_ret (v := some (.int _)) eX6_put_19 ⟨rfl, rfl⟩ (by omega) (by omega) rfl ?_
    rw [sPut, if_neg (fun z => by rw [(zb_eq0.mp c_8)] at z; exact absurd z.1 (by decide))]
    exact ⟨rfl, hN, Same.rf⟩
  · have hb9 := zb_ne0.mp c_8
    obtain ⟨b, hb, rfl⟩ := (bIn_one hm6).mp hb9
    have clb : (nI b).toNatClampNeg = b := nI_clamp (by omega)
    refine aw_iload_n (pc' := 12) eX6_put_11 rfl rfl ?_
    refine aw_calls (pc' := 15) (nn := 1) (c_X6_isPlace (d := d - 1) _ (by omega)) eX6_put_12 rfl ⟨q393, q395, q55⟩ q394 ⟨by decide +kernel, by decide +kernel, by decide +kernel⟩ rfl ⟨by omega, by decide⟩ ⟨by omega, by omega⟩ rfl (Nat.le_of_ble_eq_true rfl) (fun v4 h5 hq6 => ?_)
    obtain ⟨rfl, rfl⟩ := hq6
    dsimp only [Option.toList, List.cons_append, List.nil_append]
    refine aw_if_ne (pc' := 18) (tgt := 20) eX6_put_15 rfl (by decide) (fun c_15 => ?_) (fun c_15 => ?_)
    · refine aw_iload_n (pc' := 21) eX6_put_20 rfl rfl ?_
      refine aw_iconst (pc' := 22) (v := 2) eX6_put_21 rfl (by decide) ?_
      refine aw_icmp_lt (pc' := 25) (tgt := 30) eX6_put_22 rfl (by decide) (fun c_22 => ?_) (fun c_22 => ?_)
      · refine aw_bipush (pc' := 32) (v := -2) eX6_put_30 rfl (by decide) ?_
        refine aw_ret (v := some (.int _)) eX6_put_32 ⟨rfl, rfl⟩ (by omega) (by omega) rfl ?_
        rw [sPut, if_pos ⟨hb9, zb_ne0.mp c_15⟩, if_neg (by rw [(bI_f1 c_22)]; decide)]
        exact ⟨rfl, hN, Same.rf⟩
      · refine aw_iload_n (pc' := 26) eX6_put_25 rfl rfl ?_
        refine aw_iconst (pc' := 27) (v := 4) eX6_put_26 rfl (by decide) ?_
        refine aw_icmp_le (pc' := 30) (tgt := 33) eX6_put_27 rfl (by decide) (fun c_27 => ?_) (fun c_27 => ?_)
        · refine aw_aload_n (pc' := 34) eX6_put_33 rfl rfl trivial ?_
          refine aw_Oget (pc' := 37) (ci := 6) (kf := 0) (N := 14) (.ref 17) hO eX6_put_34 rfl rfl rfl inX6 (by decide) q250 rfl ?_
          refine aw_Fref (pc' := 40) (kf := 4) hN eX6_put_37 rfl (by decide) q105 ?_
          refine aw_iload_n (pc' := 41) eX6_put_40 rfl rfl ?_
          refine aw_Fld (pc' := 42) 4 3 b hN eX6_put_41 rfl (by decide) rfl (show vp_in _ 6 from vp_in_nI (by omega) (by omega)) (nI_clamp (by omega)) ?_
          refine aw_istore (pc' := 44) eX6_put_42 rfl (by decide) ?_
          dsimp only [zst, zst2, zcut]
          refine aw_aload_n (pc' := 45) eX6_put_44 rfl rfl trivial ?_
          refine aw_Oget (pc' := 48) (ci := 6) (kf := 0) (N := 14) (.ref 17) hO eX6_put_45 rfl rfl rfl inX6 (by decide) q250 rfl ?_
          refine aw_Fref (pc' := 51) (kf := 6) hN eX6_put_48 rfl (by decide) q109 ?_
          refine aw_iload_n (pc' := 52) eX6_put_51 rfl rfl ?_
          refine aw_iload_n (pc' := 53) eX6_put_52 rfl rfl ?_
          refine aw_Fst (pc' := 54) 6 5 b hN eX6_put_53 rfl (by decide) rfl (show vp_in _ 6 from vp_in_nI (by omega) (by omega)) (nI_clamp (by omega)) (fun h9 hW7 hs8 => ?_)
          have hF10 := hO.fr hs8 (by omega)
          refine aw_aload_n (pc' := 55) eX6_put_54 rfl rfl trivial ?_
          refine aw_Oget (pc' := 58) (ci := 6) (kf := 0) (N := 14) (.ref 17) hF10 eX6_put_55 rfl rfl rfl inX6 (by decide) q250 rfl ?_
          refine aw_Fref (pc' := 61) (kf := 4) hW7 eX6_put_58 rfl (by decide) q105 ?_
          refine aw_iload_n (pc' := 62) eX6_put_61 rfl rfl ?_
          refine aw_iload_n (pc' := 63) eX6_put_62 rfl rfl ?_
          refine aw_Fst (pc' := 64) 4 3 b hW7 eX6_put_63 rfl (by decide) rfl (show vp_in _ 6 from vp_in_nI (by omega) (by omega)) (nI_clamp (by omega)) (fun h13 hW11 hs12 => ?_)
          have hT14 := hs8.tr hs12
          have hF15 := hF10.fr hs12 (by omega)
          refine aw_iload (pc' := 66) eX6_put_64 rfl rfl ?_
          refine aw_ret (v := some (.int _)) eX6_put_66 ⟨rfl, rfl⟩ (by omega) (by omega) rfl ?_
          rw [sPut, if_pos ⟨hb9, zb_ne0.mp c_15⟩, if_pos (bI_tle c_22 c_27), clb]
          exact ⟨rfl, hW11, hT14⟩
        · refine aw_bipush (pc' := 32) (v := -2) eX6_put_30 rfl (by decide) ?_
          refine aw_ret (v := some (.int _)) eX6_put_32 ⟨rfl, rfl⟩ (by omega) (by omega) rfl ?_
          rw [sPut, if_pos ⟨hb9, zb_ne0.mp c_15⟩, if_neg (by rw [(bI_fle c_27)]; decide)]
          exact ⟨rfl, hN, Same.rf⟩
    · refine aw_iconst (pc' := 19) (v := -1) eX6_put_18 rfl (by decide) ?_
      refine aw_ret (v := some (.int _)) eX6_put_19 ⟨rfl, rfl⟩ (by omega) (by omega) rfl ?_
      rw [sPut, if_neg (fun z => by rw [(zb_eq0.mp c_15)] at z; exact absurd z.2 (by decide))]
      exact ⟨rfl, hN, Same.rf⟩
abbrev mX6_row : MT := (RX6, cX6_row, 5, (some .int), false)
theorem eX6_row_0 : decode mX6_row.2.1 0 = .ok (.aload_n 0, 1) := by decide +kernel
theorem eX6_row_1 : decode mX6_row.2.1 1 = .ok (.getfield 16, 3) := by decide +kernel
theorem eX6_row_4 : decode mX6_row.2.1 4 = .ok (.iload_n 1, 1) := by decide +kernel
theorem eX6_row_5 : decode mX6_row.2.1 5 = .ok (.invokevirtual 85, 3) := by decide +kernel
theorem eX6_row_8 : decode mX6_row.2.1 8 = .ok (.ifCond .eq 12, 3) := by decide +kernel
theorem eX6_row_11 : decode mX6_row.2.1 11 = .ok (.iload_n 2, 1) := by decide +kernel
theorem eX6_row_12 : decode mX6_row.2.1 12 = .ok (.ifCond .lt 8, 3) := by decide +kernel
theorem eX6_row_15 : decode mX6_row.2.1 15 = .ok (.iload_n 2, 1) := by decide +kernel
theorem eX6_row_16 : decode mX6_row.2.1 16 = .ok (.iconst 4, 1) := by decide +kernel
theorem eX6_row_17 : decode mX6_row.2.1 17 = .ok (.if_icmp .lt 5, 3) := by decide +kernel
theorem eX6_row_20 : decode mX6_row.2.1 20 = .ok (.iconst (-1), 1) := by decide +kernel
theorem eX6_row_21 : decode mX6_row.2.1 21 = .ok (.ireturn, 1) := by decide +kernel
theorem eX6_row_22 : decode mX6_row.2.1 22 = .ok (.iload_n 3, 1) := by decide +kernel
theorem eX6_row_23 : decode mX6_row.2.1 23 = .ok (.ifCond .lt 9, 3) := by decide +kernel
theorem eX6_row_26 : decode mX6_row.2.1 26 = .ok (.iload_n 3, 1) := by decide +kernel
theorem eX6_row_27 : decode mX6_row.2.1 27 = .ok (.bipush 9, 2) := by decide +kernel
theorem eX6_row_29 : decode mX6_row.2.1 29 = .ok (.if_icmp .le 6, 3) := by decide +kernel
theorem eX6_row_32 : decode mX6_row.2.1 32 = .ok (.bipush (-2), 2) := by decide +kernel
theorem eX6_row_34 : decode mX6_row.2.1 34 = .ok (.ireturn, 1) := by decide +kernel
theorem eX6_row_35 : decode mX6_row.2.1 35 = .ok (.aload_n 0, 1) := by decide +kernel
theorem eX6_row_36 : decode mX6_row.2.1 36 = .ok (.getfield 16, 3) := by decide +kernel
theorem eX6_row_39 : decode mX6_row.2.1 39 = .ok (.getfield 89, 3) := by decide +kernel
theorem eX6_row_42 : decode mX6_row.2.1 42 = .ok (.iload_n 1, 1) := by decide +kernel
theorem eX6_row_43 : decode mX6_row.2.1 43 = .ok (.iaload, 1) := by decide +kernel
theorem eX6_row_44 : decode mX6_row.2.1 44 = .ok (.bipush 6, 2) := by decide +kernel
theorem eX6_row_46 : decode mX6_row.2.1 46 = .ok (.if_icmp .eq 6, 3) := by decide +kernel
theorem eX6_row_49 : decode mX6_row.2.1 49 = .ok (.bipush (-3), 2) := by decide +kernel
theorem eX6_row_51 : decode mX6_row.2.1 51 = .ok (.ireturn, 1) := by decide +kernel
theorem eX6_row_52 : decode mX6_row.2.1 52 = .ok (.aload_n 0, 1) := by decide +kernel
theorem eX6_row_53 : decode mX6_row.2.1 53 = .ok (.getfield 16, 3) := by decide +kernel
theorem eX6_row_56 : decode mX6_row.2.1 56 = .ok (.getfield 150, 3) := by decide +kernel
theorem eX6_row_59 : decode mX6_row.2.1 59 = .ok (.iload_n 1, 1) := by decide +kernel
theorem eX6_row_60 : decode mX6_row.2.1 60 = .ok (.iconst 4, 1) := by decide +kernel
theorem eX6_row_61 : decode mX6_row.2.1 61 = .ok (.imul, 1) := by decide +kernel
theorem eX6_row_62 : decode mX6_row.2.1 62 = .ok (.iload_n 2, 1) := by decide +kernel
theorem eX6_row_63 : decode mX6_row.2.1 63 = .ok (.iadd, 1) := by decide +kernel
theorem eX6_row_64 : decode mX6_row.2.1 64 = .ok (.iaload, 1) := by decide +kernel
theorem eX6_row_65 : decode mX6_row.2.1 65 = .ok (.istore 4, 2) := by decide +kernel
theorem eX6_row_67 : decode mX6_row.2.1 67 = .ok (.aload_n 0, 1) := by decide +kernel
theorem eX6_row_68 : decode mX6_row.2.1 68 = .ok (.getfield 16, 3) := by decide +kernel
theorem eX6_row_71 : decode mX6_row.2.1 71 = .ok (.getfield 150, 3) := by decide +kernel
theorem eX6_row_74 : decode mX6_row.2.1 74 = .ok (.iload_n 1, 1) := by decide +kernel
theorem eX6_row_75 : decode mX6_row.2.1 75 = .ok (.iconst 4, 1) := by decide +kernel
theorem eX6_row_76 : decode mX6_row.2.1 76 = .ok (.imul, 1) := by decide +kernel
theorem eX6_row_77 : decode mX6_row.2.1 77 = .ok (.iload_n 2, 1) := by decide +kernel
theorem eX6_row_78 : decode mX6_row.2.1 78 = .ok (.iadd, 1) := by decide +kernel
theorem eX6_row_79 : decode mX6_row.2.1 79 = .ok (.iload_n 3, 1) := by decide +kernel
theorem eX6_row_80 : decode mX6_row.2.1 80 = .ok (.iastore, 1) := by decide +kernel
theorem eX6_row_81 : decode mX6_row.2.1 81 = .ok (.iload 4, 2) := by decide +kernel
theorem eX6_row_83 : decode mX6_row.2.1 83 = .ok (.ireturn, 1) := by decide +kernel
theorem c_X6_row (hO : OA h 16 (.inr (6, afs bi se))) (hN : WF F h 17 g (nI 9999)) (hm : g 60 = nI m) (hm6 : m ≤ 6) (tl p x : Int32) (hd : 2 ≤ d) : Ct l G mX6_row yX6_row d 0 0 [.ref 16, .int tl, .int p, .int x] h (fun r h' => r = some (.int (sRow g m tl p x).1) ∧ WF F h' 17 (sRow g m tl p x).2 (nI 9999) ∧ Same 17 10 h h') := by
  refine ct_of (lv := [some (.ref 16), some (.int tl), some (.int p), some (.int x), none]) (by decide +kernel) rfl (fun z => by cases z) (fun _ => rfl) (fun _ => Nat.le_of_ble_eq_true rfl) ?_
  refine aw_aload_n (pc' := 1) eX6_row_0 rfl rfl trivial ?_
  refine aw_Oget (pc' := 4) (ci := 6) (kf := 0) (N := 14) (.ref 17) hO eX6_row_1 rfl rfl rfl inX6 (by decide) q250 rfl ?_
  refine aw_iload_n (pc' := 5) eX6_row_4 rfl rfl ?_
  refine aw_callv (pc' := 8) (nn := 1) (c_X5_has (d := d - 1) hN hm hm6 _ (by omega)) eX6_row_5 rfl ⟨q305, q308, q56⟩ q306 q307 ⟨rfl, by decide +kernel, by decide +kernel, by decide +kernel⟩ rfl hN.ob rfl ⟨by omega, by decide⟩ ⟨by omega, by omega⟩ rfl (Nat.le_of_ble_eq_true rfl) (fun v1 h2 hq3 => ?_)
  obtain ⟨rfl, rfl⟩ := hq3
  dsimp only [Option.toList, List.cons_append, List.nil_append]
  refine aw_if_eq (pc' := 11) (tgt := 20) eX6_row_8 rfl (by decide) (fun c_8 => ?_) (fun c_8 => ?_)
  · refine aw_iconst (pc' := 21) (v := -1) eX6_row_20 rfl (by decide) ?_
    refine aw_ret (v := some (.int _)) eX6_row_21 ⟨rfl, rfl⟩ (by omega) (by omega) rfl ?_
    rw [sRow, if_neg (fun z => by rw [(zb_eq0.mp c_8)] at z; exact absurd z.1 (by decide))]
    exact ⟨rfl, hN, Same.rf⟩
  · have hb9 := zb_ne0.mp c_8
    obtain ⟨b, hb, rfl⟩ := (bIn_one hm6).mp hb9
    have clb : (nI b).toNatClampNeg = b := nI_clamp (by omega)
    refine aw_iload_n (pc' := 12) eX6_row_11 rfl rfl ?_
    refine aw_if_lt (pc' := 15) (tgt := 20) eX6_row_12 rfl (by decide) (fun c_12 => ?_) (fun c_12 => ?_)
    · refine aw_iconst (pc' := 21) (v := -1) eX6_row_20 rfl (by decide) ?_
      refine aw_ret (v := some (.int _)) eX6_row_21 ⟨rfl, rfl⟩ (by omega) (by omega) rfl ?_
      rw [sRow, if_neg (fun z => by rw [(bI_f1 c_12)] at z; exact absurd z.2 (by decide))]
      exact ⟨rfl, hN, Same.rf⟩
    · refine aw_iload_n (pc' := 16) eX6_row_15 rfl rfl ?_
      refine aw_iconst (pc' := 17) (v := 4) eX6_row_16 rfl (by decide) ?_
      refine aw_icmp_lt (pc' := 20) (tgt := 22) eX6_row_17 rfl (by decide) (fun c_17 => ?_) (fun c_17 => ?_)
      · have hp9 : bIn p 0 3 = true := bI_tlt (by decide) c_12 c_17
        obtain ⟨p, hp, rfl⟩ := (bIn_lit (N := 3) (by omega)).mp hp9
        have clp : (nI p).toNatClampNeg = p := nI_clamp (by omega)
        have hx7 := ixr (i := b) (c := p) (by omega) (by omega)
        refine aw_iload_n (pc' := 23) eX6_row_22 rfl rfl ?_
        refine aw_if_lt (pc' := 26) (tgt := 32) eX6_row_23 rfl (by decide) (fun c_23 => ?_) (fun c_23 => ?_)
        · refine aw_bipush (pc' := 34) (v := -2) eX6_row_32 rfl (by decide) ?_
          refine aw_ret (v := some (.int _)) eX6_row_34 ⟨rfl, rfl⟩ (by omega) (by omega) rfl ?_
          rw [sRow, if_pos ⟨hb9, hp9⟩, if_neg (by rw [(bI_f1 c_23)]; decide)]
          exact ⟨rfl, hN, Same.rf⟩
        · refine aw_iload_n (pc' := 27) eX6_row_26 rfl rfl ?_
          refine aw_bipush (pc' := 29) (v := 9) eX6_row_27 rfl (by decide) ?_
          refine aw_icmp_le (pc' := 32) (tgt := 35) eX6_row_29 rfl (by decide) (fun c_29 => ?_) (fun c_29 => ?_)
          · refine aw_aload_n (pc' := 36) eX6_row_35 rfl rfl trivial ?_
            refine aw_Oget (pc' := 39) (ci := 6) (kf := 0) (N := 14) (.ref 17) hO eX6_row_36 rfl rfl rfl inX6 (by decide) q250 rfl ?_
            refine aw_Fref (pc' := 42) (kf := 1) hN eX6_row_39 rfl (by decide) q99 ?_
            refine aw_iload_n (pc' := 43) eX6_row_42 rfl rfl ?_
            refine aw_Fld (pc' := 44) 1 0 b hN eX6_row_43 rfl (by decide) rfl (show vp_in _ 6 from vp_in_nI (by omega) (by omega)) (nI_clamp (by omega)) ?_
            dsimp only [Nat.add_zero]
            refine aw_bipush (pc' := 46) (v := 6) eX6_row_44 rfl (by decide) ?_
            refine aw_icmp_eq (pc' := 49) (tgt := 52) eX6_row_46 rfl (by decide) (fun c_46 => ?_) (fun c_46 => ?_)
            · refine aw_aload_n (pc' := 53) eX6_row_52 rfl rfl trivial ?_
              refine aw_Oget (pc' := 56) (ci := 6) (kf := 0) (N := 14) (.ref 17) hO eX6_row_53 rfl rfl rfl inX6 (by decide) q250 rfl ?_
              refine aw_Fref (pc' := 59) (kf := 7) hN eX6_row_56 rfl (by decide) q111 ?_
              refine aw_iload_n (pc' := 60) eX6_row_59 rfl rfl ?_
              refine aw_iconst (pc' := 61) (v := 4) eX6_row_60 rfl (by decide) ?_
              refine aw_imul (pc' := 62) eX6_row_61 rfl ?_
              refine aw_iload_n (pc' := 63) eX6_row_62 rfl rfl ?_
              refine aw_iadd (pc' := 64) eX6_row_63 rfl ?_
              refine aw_Fld7 (pc' := 65) b p hN eX6_row_64 rfl (by omega) hx7.2 hx7.1 ?_
              refine aw_istore (pc' := 67) eX6_row_65 rfl (by decide) ?_
              dsimp only [zst, zst2, zcut]
              refine aw_aload_n (pc' := 68) eX6_row_67 rfl rfl trivial ?_
              refine aw_Oget (pc' := 71) (ci := 6) (kf := 0) (N := 14) (.ref 17) hO eX6_row_68 rfl rfl rfl inX6 (by decide) q250 rfl ?_
              refine aw_Fref (pc' := 74) (kf := 7) hN eX6_row_71 rfl (by decide) q111 ?_
              refine aw_iload_n (pc' := 75) eX6_row_74 rfl rfl ?_
              refine aw_iconst (pc' := 76) (v := 4) eX6_row_75 rfl (by decide) ?_
              refine aw_imul (pc' := 77) eX6_row_76 rfl ?_
              refine aw_iload_n (pc' := 78) eX6_row_77 rfl rfl ?_
              refine aw_iadd (pc' := 79) eX6_row_78 rfl ?_
              refine aw_iload_n (pc' := 80) eX6_row_79 rfl rfl ?_
              refine aw_Fst7 (pc' := 81) b p hN eX6_row_80 rfl (by omega) (by omega) hx7.2 hx7.1 (fun h6 hW4 hs5 => ?_)
              have hF7 := hO.fr hs5 (by omega)
              refine aw_iload (pc' := 83) eX6_row_81 rfl rfl ?_
              refine aw_ret (v := some (.int _)) eX6_row_83 ⟨rfl, rfl⟩ (by omega) (by omega) rfl ?_
              rw [sRow, if_pos ⟨hb9, hp9⟩, if_pos (bI_tle c_23 c_29), clb, if_pos c_46, clp, Nat.add_assoc]
              exact ⟨rfl, hW4, hs5⟩
            · refine aw_bipush (pc' := 51) (v := -3) eX6_row_49 rfl (by decide) ?_
              refine aw_ret (v := some (.int _)) eX6_row_51 ⟨rfl, rfl⟩ (by omega) (by omega) rfl ?_
              rw [sRow, if_pos ⟨hb9, hp9⟩, if_pos (bI_tle c_23 c_29), clb, if_neg c_46]
              exact ⟨rfl, hN, Same.rf⟩
          · refine aw_bipush (pc' := 34) (v := -2) eX6_row_32 rfl (by decide) ?_
            refine aw_ret (v := some (.int _)) eX6_row_34 ⟨rfl, rfl⟩ (by omega) (by omega) rfl ?_
            rw [sRow, if_pos ⟨hb9, hp9⟩, if_neg (by rw [(bI_fle c_29)]; decide)]
            exact ⟨rfl, hN, Same.rf⟩
      · refine aw_iconst (pc' := 21) (v := -1) eX6_row_20 rfl (by decide) ?_
        refine aw_ret (v := some (.int _)) eX6_row_21 ⟨rfl, rfl⟩ (by omega) (by omega) rfl ?_
        rw [sRow, if_neg (fun z => by rw [(bI_flt (by decide) c_17)] at z; exact absurd z.2 (by decide))]
        exact ⟨rfl, hN, Same.rf⟩
abbrev mX6_sea : MT := (RX6, cX6_sea, 5, (some .int), false)
theorem eX6_sea_0 : decode mX6_sea.2.1 0 = .ok (.iload_n 1, 1) := by decide +kernel
theorem eX6_sea_1 : decode mX6_sea.2.1 1 = .ok (.ifCond .lt 9, 3) := by decide +kernel
theorem eX6_sea_4 : decode mX6_sea.2.1 4 = .ok (.iload_n 1, 1) := by decide +kernel
theorem eX6_sea_5 : decode mX6_sea.2.1 5 = .ok (.bipush 6, 2) := by decide +kernel
theorem eX6_sea_7 : decode mX6_sea.2.1 7 = .ok (.if_icmp .lt 5, 3) := by decide +kernel
theorem eX6_sea_10 : decode mX6_sea.2.1 10 = .ok (.iconst (-1), 1) := by decide +kernel
theorem eX6_sea_11 : decode mX6_sea.2.1 11 = .ok (.ireturn, 1) := by decide +kernel
theorem eX6_sea_12 : decode mX6_sea.2.1 12 = .ok (.iload_n 1, 1) := by decide +kernel
theorem eX6_sea_13 : decode mX6_sea.2.1 13 = .ok (.ifCond .ne 9, 3) := by decide +kernel
theorem eX6_sea_16 : decode mX6_sea.2.1 16 = .ok (.sipush 4095, 3) := by decide +kernel
theorem eX6_sea_19 : decode mX6_sea.2.1 19 = .ok (.goto 15, 3) := by decide +kernel
theorem eX6_sea_22 : decode mX6_sea.2.1 22 = .ok (.iload_n 1, 1) := by decide +kernel
theorem eX6_sea_23 : decode mX6_sea.2.1 23 = .ok (.iconst 1, 1) := by decide +kernel
theorem eX6_sea_24 : decode mX6_sea.2.1 24 = .ok (.if_icmp .ne 8, 3) := by decide +kernel
theorem eX6_sea_27 : decode mX6_sea.2.1 27 = .ok (.bipush 11, 2) := by decide +kernel
theorem eX6_sea_29 : decode mX6_sea.2.1 29 = .ok (.goto 5, 3) := by decide +kernel
theorem eX6_sea_32 : decode mX6_sea.2.1 32 = .ok (.bipush 9, 2) := by decide +kernel
theorem eX6_sea_34 : decode mX6_sea.2.1 34 = .ok (.istore_n 3, 1) := by decide +kernel
theorem eX6_sea_35 : decode mX6_sea.2.1 35 = .ok (.iload_n 2, 1) := by decide +kernel
theorem eX6_sea_36 : decode mX6_sea.2.1 36 = .ok (.ifCond .lt 8, 3) := by decide +kernel
theorem eX6_sea_39 : decode mX6_sea.2.1 39 = .ok (.iload_n 2, 1) := by decide +kernel
theorem eX6_sea_40 : decode mX6_sea.2.1 40 = .ok (.iload_n 3, 1) := by decide +kernel
theorem eX6_sea_41 : decode mX6_sea.2.1 41 = .ok (.if_icmp .le 6, 3) := by decide +kernel
theorem eX6_sea_44 : decode mX6_sea.2.1 44 = .ok (.bipush (-2), 2) := by decide +kernel
theorem eX6_sea_46 : decode mX6_sea.2.1 46 = .ok (.ireturn, 1) := by decide +kernel
theorem eX6_sea_47 : decode mX6_sea.2.1 47 = .ok (.iload_n 1, 1) := by decide +kernel
theorem eX6_sea_48 : decode mX6_sea.2.1 48 = .ok (.ifCond .ne 23, 3) := by decide +kernel
theorem eX6_sea_51 : decode mX6_sea.2.1 51 = .ok (.aload_n 0, 1) := by decide +kernel
theorem eX6_sea_52 : decode mX6_sea.2.1 52 = .ok (.getfield 16, 3) := by decide +kernel
theorem eX6_sea_55 : decode mX6_sea.2.1 55 = .ok (.getfield 141, 3) := by decide +kernel
theorem eX6_sea_58 : decode mX6_sea.2.1 58 = .ok (.istore 4, 2) := by decide +kernel
theorem eX6_sea_60 : decode mX6_sea.2.1 60 = .ok (.aload_n 0, 1) := by decide +kernel
theorem eX6_sea_61 : decode mX6_sea.2.1 61 = .ok (.getfield 16, 3) := by decide +kernel
theorem eX6_sea_64 : decode mX6_sea.2.1 64 = .ok (.iload_n 2, 1) := by decide +kernel
theorem eX6_sea_65 : decode mX6_sea.2.1 65 = .ok (.putfield 141, 3) := by decide +kernel
theorem eX6_sea_68 : decode mX6_sea.2.1 68 = .ok (.goto 53, 3) := by decide +kernel
theorem eX6_sea_71 : decode mX6_sea.2.1 71 = .ok (.iload_n 1, 1) := by decide +kernel
theorem eX6_sea_72 : decode mX6_sea.2.1 72 = .ok (.iconst 1, 1) := by decide +kernel
theorem eX6_sea_73 : decode mX6_sea.2.1 73 = .ok (.if_icmp .ne 23, 3) := by decide +kernel
theorem eX6_sea_76 : decode mX6_sea.2.1 76 = .ok (.aload_n 0, 1) := by decide +kernel
theorem eX6_sea_77 : decode mX6_sea.2.1 77 = .ok (.getfield 16, 3) := by decide +kernel
theorem eX6_sea_80 : decode mX6_sea.2.1 80 = .ok (.getfield 144, 3) := by decide +kernel
theorem eX6_sea_83 : decode mX6_sea.2.1 83 = .ok (.istore 4, 2) := by decide +kernel
theorem eX6_sea_85 : decode mX6_sea.2.1 85 = .ok (.aload_n 0, 1) := by decide +kernel
theorem eX6_sea_86 : decode mX6_sea.2.1 86 = .ok (.getfield 16, 3) := by decide +kernel
theorem eX6_sea_89 : decode mX6_sea.2.1 89 = .ok (.iload_n 2, 1) := by decide +kernel
theorem eX6_sea_90 : decode mX6_sea.2.1 90 = .ok (.putfield 144, 3) := by decide +kernel
theorem eX6_sea_93 : decode mX6_sea.2.1 93 = .ok (.goto 28, 3) := by decide +kernel
theorem eX6_sea_96 : decode mX6_sea.2.1 96 = .ok (.aload_n 0, 1) := by decide +kernel
theorem eX6_sea_97 : decode mX6_sea.2.1 97 = .ok (.getfield 16, 3) := by decide +kernel
theorem eX6_sea_100 : decode mX6_sea.2.1 100 = .ok (.getfield 147, 3) := by decide +kernel
theorem eX6_sea_103 : decode mX6_sea.2.1 103 = .ok (.iload_n 1, 1) := by decide +kernel
theorem eX6_sea_104 : decode mX6_sea.2.1 104 = .ok (.iconst 2, 1) := by decide +kernel
theorem eX6_sea_105 : decode mX6_sea.2.1 105 = .ok (.isub, 1) := by decide +kernel
theorem eX6_sea_106 : decode mX6_sea.2.1 106 = .ok (.iaload, 1) := by decide +kernel
theorem eX6_sea_107 : decode mX6_sea.2.1 107 = .ok (.istore 4, 2) := by decide +kernel
theorem eX6_sea_109 : decode mX6_sea.2.1 109 = .ok (.aload_n 0, 1) := by decide +kernel
theorem eX6_sea_110 : decode mX6_sea.2.1 110 = .ok (.getfield 16, 3) := by decide +kernel
theorem eX6_sea_113 : decode mX6_sea.2.1 113 = .ok (.getfield 147, 3) := by decide +kernel
theorem eX6_sea_116 : decode mX6_sea.2.1 116 = .ok (.iload_n 1, 1) := by decide +kernel
theorem eX6_sea_117 : decode mX6_sea.2.1 117 = .ok (.iconst 2, 1) := by decide +kernel
theorem eX6_sea_118 : decode mX6_sea.2.1 118 = .ok (.isub, 1) := by decide +kernel
theorem eX6_sea_119 : decode mX6_sea.2.1 119 = .ok (.iload_n 2, 1) := by decide +kernel
theorem eX6_sea_120 : decode mX6_sea.2.1 120 = .ok (.iastore, 1) := by decide +kernel
theorem eX6_sea_121 : decode mX6_sea.2.1 121 = .ok (.iload 4, 2) := by decide +kernel
theorem eX6_sea_123 : decode mX6_sea.2.1 123 = .ok (.ireturn, 1) := by decide +kernel
theorem c_X6_sea (hO : OA h 16 (.inr (6, afs bi se))) (hN : WF F h 17 g (nI 9999)) (w x : Int32) (hd : 0 ≤ d) : Ct l G mX6_sea yX6_sea d 0 0 [.ref 16, .int w, .int x] h (fun r h' => r = some (.int (sSea g w x).1) ∧ WF F h' 17 (sSea g w x).2 (nI 9999) ∧ Same 17 10 h h') := by
  refine ct_of (lv := [some (.ref 16), some (.int w), some (.int x), none, none]) (by decide +kernel) rfl (fun z => by cases z) (fun _ => rfl) (fun _ => Nat.le_of_ble_eq_true rfl) ?_
  refine aw_iload_n (pc' := 1) eX6_sea_0 rfl rfl ?_
  refine aw_if_lt (pc' := 4) (tgt := 10) eX6_sea_1 rfl (by decide) (fun c_1 => ?_) (fun c_1 => ?_)
  · refine aw_iconst (pc' := 11) (v := -1) eX6_sea_10 rfl (by decide) ?_
    refine aw_ret (v := some (.int _)) eX6_sea_11 ⟨rfl, rfl⟩ (by omega) (by omega) rfl ?_
    rw [sSea, if_neg (by rw [(bI_f1 c_1)]; decide)]
    exact ⟨rfl, hN, Same.rf⟩
  · refine aw_iload_n (pc' := 5) eX6_sea_4 rfl rfl ?_
    refine aw_bipush (pc' := 7) (v := 6) eX6_sea_5 rfl (by decide) ?_
    refine aw_icmp_lt (pc' := 10) (tgt := 12) eX6_sea_7 rfl (by decide) (fun c_7 => ?_) (fun c_7 => ?_)
    · refine aw_iload_n (pc' := 13) eX6_sea_12 rfl rfl ?_
      refine aw_if_ne (pc' := 16) (tgt := 22) eX6_sea_13 rfl (by decide) (fun c_13 => ?_) (fun c_13 => ?_)
      · refine aw_iload_n (pc' := 23) eX6_sea_22 rfl rfl ?_
        refine aw_iconst (pc' := 24) (v := 1) eX6_sea_23 rfl (by decide) ?_
        refine aw_icmp_ne (pc' := 27) (tgt := 32) eX6_sea_24 rfl (by decide) (fun c_24 => ?_) (fun c_24 => ?_)
        · refine aw_bipush (pc' := 34) (v := 9) eX6_sea_32 rfl (by decide) ?_
          refine aw_istore_n (pc' := 35) eX6_sea_34 rfl (by decide) ?_
          dsimp only [zst, zst2, zcut]
          refine aw_iload_n (pc' := 36) eX6_sea_35 rfl rfl ?_
          refine aw_if_lt (pc' := 39) (tgt := 44) eX6_sea_36 rfl (by decide) (fun c_36 => ?_) (fun c_36 => ?_)
          · refine aw_bipush (pc' := 46) (v := -2) eX6_sea_44 rfl (by decide) ?_
            refine aw_ret (v := some (.int _)) eX6_sea_46 ⟨rfl, rfl⟩ (by omega) (by omega) rfl ?_
            rw [sSea, if_pos (bI_tlt (by decide) c_1 c_7), if_neg c_13, if_neg c_24, if_neg (by rw [(bI_f1 c_36)]; decide)]
            exact ⟨rfl, hN, Same.rf⟩
          · refine aw_iload_n (pc' := 40) eX6_sea_39 rfl rfl ?_
            refine aw_iload_n (pc' := 41) eX6_sea_40 rfl rfl ?_
            refine aw_icmp_le (pc' := 44) (tgt := 47) eX6_sea_41 rfl (by decide) (fun c_41 => ?_) (fun c_41 => ?_)
            · refine aw_iload_n (pc' := 48) eX6_sea_47 rfl rfl ?_
              refine aw_if_ne (pc' := 51) (tgt := 71) eX6_sea_48 rfl (by decide) (fun c_48 => ?_) (fun c_48 => ?_)
              · refine aw_iload_n (pc' := 72) eX6_sea_71 rfl rfl ?_
                refine aw_iconst (pc' := 73) (v := 1) eX6_sea_72 rfl (by decide) ?_
                refine aw_icmp_ne (pc' := 76) (tgt := 96) eX6_sea_73 rfl (by decide) (fun c_73 => ?_) (fun c_73 => ?_)
                · obtain ⟨c, hc, ew⟩ : ∃ c, c < 4 ∧ w = nI (c + 2) := by
                    obtain ⟨v, hv, ev⟩ := (bIn_lit (N := 5) (by omega)).mp (show bIn w 0 (nI 5) = true from bI_tlt (by decide) c_1 c_7)
                    refine ⟨v - 2, ?_, ?_⟩
                    · omega
                    · rw [ev] at c_13 c_24 ⊢
                      have h0 : v ≠ 0 := fun z => c_13 (by rw [z]; rfl)
                      have h1 : v ≠ 1 := fun z => c_24 (by rw [z]; rfl)
                      rw [show v - 2 + 2 = v by omega]
                  have clw : (nI (c + 2)).toNatClampNeg = c + 2 := nI_clamp (by omega)
                  have ew2 : w - 2 = nI c := by rw [ew]; exact nI_subn (a := c) (b := 2)
                  refine aw_aload_n (pc' := 97) eX6_sea_96 rfl rfl trivial ?_
                  refine aw_Oget (pc' := 100) (ci := 6) (kf := 0) (N := 14) (.ref 17) hO eX6_sea_97 rfl rfl rfl inX6 (by decide) q250 rfl ?_
                  refine aw_Fref (pc' := 103) (kf := 8) hN eX6_sea_100 rfl (by decide) q113 ?_
                  refine aw_iload_n (pc' := 104) eX6_sea_103 rfl rfl ?_
                  refine aw_iconst (pc' := 105) (v := 2) eX6_sea_104 rfl (by decide) ?_
                  refine aw_isub (pc' := 106) eX6_sea_105 rfl ?_
                  rw [ew2]
                  refine aw_Fld8 (pc' := 107) c hN eX6_sea_106 rfl (show vp_in _ 4 from vp_in_nI (by omega) (by omega)) (nI_clamp (by omega)) ?_
                  refine aw_istore (pc' := 109) eX6_sea_107 rfl (by decide) ?_
                  dsimp only [zst, zst2, zcut]
                  refine aw_aload_n (pc' := 110) eX6_sea_109 rfl rfl trivial ?_
                  refine aw_Oget (pc' := 113) (ci := 6) (kf := 0) (N := 14) (.ref 17) hO eX6_sea_110 rfl rfl rfl inX6 (by decide) q250 rfl ?_
                  refine aw_Fref (pc' := 116) (kf := 8) hN eX6_sea_113 rfl (by decide) q113 ?_
                  refine aw_iload_n (pc' := 117) eX6_sea_116 rfl rfl ?_
                  refine aw_iconst (pc' := 118) (v := 2) eX6_sea_117 rfl (by decide) ?_
                  refine aw_isub (pc' := 119) eX6_sea_118 rfl ?_
                  rw [ew2]
                  refine aw_iload_n (pc' := 120) eX6_sea_119 rfl rfl ?_
                  refine aw_Fst8 (pc' := 121) c hN eX6_sea_120 rfl (by omega) (show vp_in _ 4 from vp_in_nI (by omega) (by omega)) (nI_clamp (by omega)) (fun h3 hW1 hs2 => ?_)
                  have hF4 := hO.fr hs2 (by omega)
                  refine aw_iload (pc' := 123) eX6_sea_121 rfl rfl ?_
                  refine aw_ret (v := some (.int _)) eX6_sea_123 ⟨rfl, rfl⟩ (by omega) (by omega) rfl ?_
                  rw [sSea, if_pos (bI_tlt (by decide) c_1 c_7), if_neg c_13, if_neg c_24, if_pos (bI_tle c_36 c_41)]
                  rw [ew, clw, show 61 + (c + 2) = 63 + c by omega]
                  exact ⟨rfl, hW1, hs2⟩
                · exact absurd c_73 c_24
              · exact absurd c_48 c_13
            · refine aw_bipush (pc' := 46) (v := -2) eX6_sea_44 rfl (by decide) ?_
              refine aw_ret (v := some (.int _)) eX6_sea_46 ⟨rfl, rfl⟩ (by omega) (by omega) rfl ?_
              rw [sSea, if_pos (bI_tlt (by decide) c_1 c_7), if_neg c_13, if_neg c_24, if_neg (by rw [(bI_fle c_41)]; decide)]
              exact ⟨rfl, hN, Same.rf⟩
        · refine aw_bipush (pc' := 29) (v := 11) eX6_sea_27 rfl (by decide) ?_
          refine aw_goto eX6_sea_29 (by decide) (tgt := 34) ?_
          refine aw_istore_n (pc' := 35) eX6_sea_34 rfl (by decide) ?_
          dsimp only [zst, zst2, zcut]
          refine aw_iload_n (pc' := 36) eX6_sea_35 rfl rfl ?_
          refine aw_if_lt (pc' := 39) (tgt := 44) eX6_sea_36 rfl (by decide) (fun c_36 => ?_) (fun c_36 => ?_)
          · refine aw_bipush (pc' := 46) (v := -2) eX6_sea_44 rfl (by decide) ?_
            refine aw_ret (v := some (.int _)) eX6_sea_46 ⟨rfl, rfl⟩ (by omega) (by omega) rfl ?_
            rw [sSea, if_pos (bI_tlt (by decide) c_1 c_7), if_neg c_13, if_pos c_24, if_neg (by rw [(bI_f1 c_36)]; decide)]
            exact ⟨rfl, hN, Same.rf⟩
          · refine aw_iload_n (pc' := 40) eX6_sea_39 rfl rfl ?_
            refine aw_iload_n (pc' := 41) eX6_sea_40 rfl rfl ?_
            refine aw_icmp_le (pc' := 44) (tgt := 47) eX6_sea_41 rfl (by decide) (fun c_41 => ?_) (fun c_41 => ?_)
            · refine aw_iload_n (pc' := 48) eX6_sea_47 rfl rfl ?_
              refine aw_if_ne (pc' := 51) (tgt := 71) eX6_sea_48 rfl (by decide) (fun c_48 => ?_) (fun c_48 => ?_)
              · refine aw_iload_n (pc' := 72) eX6_sea_71 rfl rfl ?_
                refine aw_iconst (pc' := 73) (v := 1) eX6_sea_72 rfl (by decide) ?_
                refine aw_icmp_ne (pc' := 76) (tgt := 96) eX6_sea_73 rfl (by decide) (fun c_73 => ?_) (fun c_73 => ?_)
                · exact absurd c_24 c_73
                · refine aw_aload_n (pc' := 77) eX6_sea_76 rfl rfl trivial ?_
                  refine aw_Oget (pc' := 80) (ci := 6) (kf := 0) (N := 14) (.ref 17) hO eX6_sea_77 rfl rfl rfl inX6 (by decide) q250 rfl ?_
                  refine aw_Fint (pc' := 83) (kf := 12) hN eX6_sea_80 rfl (by decide) q120 ?_
                  refine aw_istore (pc' := 85) eX6_sea_83 rfl (by decide) ?_
                  dsimp only [zst, zst2, zcut]
                  refine aw_aload_n (pc' := 86) eX6_sea_85 rfl rfl trivial ?_
                  refine aw_Oget (pc' := 89) (ci := 6) (kf := 0) (N := 14) (.ref 17) hO eX6_sea_86 rfl rfl rfl inX6 (by decide) q250 rfl ?_
                  refine aw_iload_n (pc' := 90) eX6_sea_89 rfl rfl ?_
                  refine aw_Fput (pc' := 93) 12 hN eX6_sea_90 rfl (by decide) q120 (fun h7 hW5 hs6 => ?_)
                  have hF8 := hO.fr hs6 (by omega)
                  refine aw_goto eX6_sea_93 (by decide) (tgt := 121) ?_
                  refine aw_iload (pc' := 123) eX6_sea_121 rfl rfl ?_
                  refine aw_ret (v := some (.int _)) eX6_sea_123 ⟨rfl, rfl⟩ (by omega) (by omega) rfl ?_
                  subst c_24
                  rw [sSea, if_pos (by decide), if_neg (show ¬ (1 : Int32) = 0 by decide), if_pos rfl, if_pos (bI_tle c_36 c_41)]
                  exact ⟨rfl, hW5, hs6⟩
              · exact absurd c_48 c_13
            · refine aw_bipush (pc' := 46) (v := -2) eX6_sea_44 rfl (by decide) ?_
              refine aw_ret (v := some (.int _)) eX6_sea_46 ⟨rfl, rfl⟩ (by omega) (by omega) rfl ?_
              rw [sSea, if_pos (bI_tlt (by decide) c_1 c_7), if_neg c_13, if_pos c_24, if_neg (by rw [(bI_fle c_41)]; decide)]
              exact ⟨rfl, hN, Same.rf⟩
      · refine aw_sipush (pc' := 19) (v := 4095) eX6_sea_16 rfl (by decide) ?_
        refine aw_goto eX6_sea_19 (by decide) (tgt := 34) ?_
        refine aw_istore_n (pc' := 35) eX6_sea_34 rfl (by decide) ?_
        dsimp only [zst, zst2, zcut]
        refine aw_iload_n (pc' := 36) eX6_sea_35 rfl rfl ?_
        refine aw_if_lt (pc' := 39) (tgt := 44) eX6_sea_36 rfl (by decide) (fun c_36 => ?_) (fun c_36 => ?_)
        · refine aw_bipush (pc' := 46) (v := -2) eX6_sea_44 rfl (by decide) ?_
          refine aw_ret (v := some (.int _)) eX6_sea_46 ⟨rfl, rfl⟩ (by omega) (by omega) rfl ?_
          rw [sSea, if_pos (bI_tlt (by decide) c_1 c_7), if_pos c_13, if_neg (by rw [(bI_f1 c_36)]; decide)]
          exact ⟨rfl, hN, Same.rf⟩
        · refine aw_iload_n (pc' := 40) eX6_sea_39 rfl rfl ?_
          refine aw_iload_n (pc' := 41) eX6_sea_40 rfl rfl ?_
          refine aw_icmp_le (pc' := 44) (tgt := 47) eX6_sea_41 rfl (by decide) (fun c_41 => ?_) (fun c_41 => ?_)
          · refine aw_iload_n (pc' := 48) eX6_sea_47 rfl rfl ?_
            refine aw_if_ne (pc' := 51) (tgt := 71) eX6_sea_48 rfl (by decide) (fun c_48 => ?_) (fun c_48 => ?_)
            · exact absurd c_13 c_48
            · refine aw_aload_n (pc' := 52) eX6_sea_51 rfl rfl trivial ?_
              refine aw_Oget (pc' := 55) (ci := 6) (kf := 0) (N := 14) (.ref 17) hO eX6_sea_52 rfl rfl rfl inX6 (by decide) q250 rfl ?_
              refine aw_Fint (pc' := 58) (kf := 11) hN eX6_sea_55 rfl (by decide) q118 ?_
              refine aw_istore (pc' := 60) eX6_sea_58 rfl (by decide) ?_
              dsimp only [zst, zst2, zcut]
              refine aw_aload_n (pc' := 61) eX6_sea_60 rfl rfl trivial ?_
              refine aw_Oget (pc' := 64) (ci := 6) (kf := 0) (N := 14) (.ref 17) hO eX6_sea_61 rfl rfl rfl inX6 (by decide) q250 rfl ?_
              refine aw_iload_n (pc' := 65) eX6_sea_64 rfl rfl ?_
              refine aw_Fput (pc' := 68) 11 hN eX6_sea_65 rfl (by decide) q118 (fun h11 hW9 hs10 => ?_)
              have hF12 := hO.fr hs10 (by omega)
              refine aw_goto eX6_sea_68 (by decide) (tgt := 121) ?_
              refine aw_iload (pc' := 123) eX6_sea_121 rfl rfl ?_
              refine aw_ret (v := some (.int _)) eX6_sea_123 ⟨rfl, rfl⟩ (by omega) (by omega) rfl ?_
              subst c_13
              rw [sSea, if_pos (by decide), if_pos rfl, if_pos (bI_tle c_36 c_41)]
              exact ⟨rfl, hW9, hs10⟩
          · refine aw_bipush (pc' := 46) (v := -2) eX6_sea_44 rfl (by decide) ?_
            refine aw_ret (v := some (.int _)) eX6_sea_46 ⟨rfl, rfl⟩ (by omega) (by omega) rfl ?_
            rw [sSea, if_pos (bI_tlt (by decide) c_1 c_7), if_pos c_13, if_neg (by rw [(bI_fle c_41)]; decide)]
            exact ⟨rfl, hN, Same.rf⟩
    · refine aw_iconst (pc' := 11) (v := -1) eX6_sea_10 rfl (by decide) ?_
      refine aw_ret (v := some (.int _)) eX6_sea_11 ⟨rfl, rfl⟩ (by omega) (by omega) rfl ?_
      rw [sSea, if_neg (by rw [(bI_flt (by decide) c_7)]; decide)]
      exact ⟨rfl, hN, Same.rf⟩
theorem told_no {w : Int32} (z : bIn w 10 13 = true) (h0 : ¬ w = 10) (h1 : ¬ w = 11) (h2 : ¬ w = 12) (h3 : ¬ w = 13) : False := by
  have y := bIn_toInt.mp z
  rw [show (10 : Int32).toInt = 10 from by decide, show (13 : Int32).toInt = 13 from by decide] at y
  have e : ∀ k : Int, ∀ c : Int32, c.toInt = k → w.toInt = k → w = c := fun k c h1 h2 => Int32.toInt_inj.mp (h2.trans h1.symm)
  rcases (by omega : w.toInt = 10 ∨ w.toInt = 11 ∨ w.toInt = 12 ∨ w.toInt = 13) with q | q | q | q
  · exact h0 (e _ _ (by decide) q)
  · exact h1 (e _ _ (by decide) q)
  · exact h2 (e _ _ (by decide) q)
  · exact h3 (e _ _ (by decide) q)
abbrev mX6_told : MT := (RX6, cX6_told, 2, (some .int), false)
theorem eX6_told_0 : decode mX6_told.2.1 0 = .ok (.iload_n 1, 1) := by decide +kernel
theorem eX6_told_1 : decode mX6_told.2.1 1 = .ok (.tableswitch 140 0 13 #[71, 79, 87, 95, 103, 111, 119, 140, 140, 140, 127, 127, 127, 127], 71) := by decide +kernel
theorem eX6_told_72 : decode mX6_told.2.1 72 = .ok (.aload_n 0, 1) := by decide +kernel
theorem eX6_told_73 : decode mX6_told.2.1 73 = .ok (.getfield 16, 3) := by decide +kernel
theorem eX6_told_76 : decode mX6_told.2.1 76 = .ok (.getfield 167, 3) := by decide +kernel
theorem eX6_told_79 : decode mX6_told.2.1 79 = .ok (.ireturn, 1) := by decide +kernel
theorem eX6_told_80 : decode mX6_told.2.1 80 = .ok (.aload_n 0, 1) := by decide +kernel
theorem eX6_told_81 : decode mX6_told.2.1 81 = .ok (.getfield 16, 3) := by decide +kernel
theorem eX6_told_84 : decode mX6_told.2.1 84 = .ok (.invokevirtual 170, 3) := by decide +kernel
theorem eX6_told_87 : decode mX6_told.2.1 87 = .ok (.ireturn, 1) := by decide +kernel
theorem eX6_told_88 : decode mX6_told.2.1 88 = .ok (.aload_n 0, 1) := by decide +kernel
theorem eX6_told_89 : decode mX6_told.2.1 89 = .ok (.getfield 16, 3) := by decide +kernel
theorem eX6_told_92 : decode mX6_told.2.1 92 = .ok (.getfield 141, 3) := by decide +kernel
theorem eX6_told_95 : decode mX6_told.2.1 95 = .ok (.ireturn, 1) := by decide +kernel
theorem eX6_told_96 : decode mX6_told.2.1 96 = .ok (.aload_n 0, 1) := by decide +kernel
theorem eX6_told_97 : decode mX6_told.2.1 97 = .ok (.getfield 16, 3) := by decide +kernel
theorem eX6_told_100 : decode mX6_told.2.1 100 = .ok (.getfield 144, 3) := by decide +kernel
theorem eX6_told_103 : decode mX6_told.2.1 103 = .ok (.ireturn, 1) := by decide +kernel
theorem eX6_told_104 : decode mX6_told.2.1 104 = .ok (.aload_n 0, 1) := by decide +kernel
theorem eX6_told_105 : decode mX6_told.2.1 105 = .ok (.getfield 16, 3) := by decide +kernel
theorem eX6_told_108 : decode mX6_told.2.1 108 = .ok (.invokevirtual 173, 3) := by decide +kernel
theorem eX6_told_111 : decode mX6_told.2.1 111 = .ok (.ireturn, 1) := by decide +kernel
theorem eX6_told_112 : decode mX6_told.2.1 112 = .ok (.aload_n 0, 1) := by decide +kernel
theorem eX6_told_113 : decode mX6_told.2.1 113 = .ok (.getfield 16, 3) := by decide +kernel
theorem eX6_told_116 : decode mX6_told.2.1 116 = .ok (.invokevirtual 129, 3) := by decide +kernel
theorem eX6_told_119 : decode mX6_told.2.1 119 = .ok (.ireturn, 1) := by decide +kernel
theorem eX6_told_120 : decode mX6_told.2.1 120 = .ok (.aload_n 0, 1) := by decide +kernel
theorem eX6_told_121 : decode mX6_told.2.1 121 = .ok (.getfield 16, 3) := by decide +kernel
theorem eX6_told_124 : decode mX6_told.2.1 124 = .ok (.invokevirtual 176, 3) := by decide +kernel
theorem eX6_told_127 : decode mX6_told.2.1 127 = .ok (.ireturn, 1) := by decide +kernel
theorem eX6_told_128 : decode mX6_told.2.1 128 = .ok (.aload_n 0, 1) := by decide +kernel
theorem eX6_told_129 : decode mX6_told.2.1 129 = .ok (.getfield 16, 3) := by decide +kernel
theorem eX6_told_132 : decode mX6_told.2.1 132 = .ok (.getfield 147, 3) := by decide +kernel
theorem eX6_told_135 : decode mX6_told.2.1 135 = .ok (.iload_n 1, 1) := by decide +kernel
theorem eX6_told_136 : decode mX6_told.2.1 136 = .ok (.bipush 10, 2) := by decide +kernel
theorem eX6_told_138 : decode mX6_told.2.1 138 = .ok (.isub, 1) := by decide +kernel
theorem eX6_told_139 : decode mX6_told.2.1 139 = .ok (.iaload, 1) := by decide +kernel
theorem eX6_told_140 : decode mX6_told.2.1 140 = .ok (.ireturn, 1) := by decide +kernel
theorem eX6_told_141 : decode mX6_told.2.1 141 = .ok (.sipush (-10001), 3) := by decide +kernel
theorem eX6_told_144 : decode mX6_told.2.1 144 = .ok (.ireturn, 1) := by decide +kernel
theorem c_X6_told (hO : OA h 16 (.inr (6, afs bi se))) (hN : WF F h 17 g (nI 9999)) (hg : gOk g m t) (w : Int32) (hd : 4 ≤ d) : Ct l G mX6_told yX6_told d 0 0 [.ref 16, .int w] h (fun r h' => r = some (.int (sTold F g m t w)) ∧ WF F h' 17 g (nI 9999) ∧ Same 17 10 h h') := by
  refine ct_of (lv := [some (.ref 16), some (.int w)]) (by decide +kernel) rfl (fun z => by cases z) (fun _ => rfl) (fun _ => Nat.le_of_ble_eq_true rfl) ?_
  refine aw_iload_n (pc' := 1) eX6_told_0 rfl rfl ?_
  refine aw_tsw (v := 0) (tgt := 72) eX6_told_1 (by decide) (by decide) rfl (by decide) (fun c_1 => ?_) (fun n_1_0 => ?_)
  · refine aw_aload_n (pc' := 73) eX6_told_72 rfl rfl trivial ?_
    refine aw_Oget (pc' := 76) (ci := 6) (kf := 0) (N := 14) (.ref 17) hO eX6_told_73 rfl rfl rfl inX6 (by decide) q250 rfl ?_
    refine aw_Fint (pc' := 79) (kf := 13) hN eX6_told_76 rfl (by decide) q122 ?_
    refine aw_ret (v := some (.int _)) eX6_told_79 ⟨rfl, rfl⟩ (by omega) (by omega) rfl ?_
    subst c_1
    exact ⟨rfl, hN, Same.rf⟩
  refine aw_tsw (v := 1) (tgt := 80) eX6_told_1 (by decide) (by decide) rfl (by decide) (fun c_1 => ?_) (fun n_1_1 => ?_)
  · refine aw_aload_n (pc' := 81) eX6_told_80 rfl rfl trivial ?_
    refine aw_Oget (pc' := 84) (ci := 6) (kf := 0) (N := 14) (.ref 17) hO eX6_told_81 rfl rfl rfl inX6 (by decide) q250 rfl ?_
    refine aw_callv (pc' := 87) (nn := 0) (c_X5_room (d := d - 1) hN (by omega)) eX6_told_84 rfl ⟨q591, q358, q56⟩ q356 q357 ⟨rfl, by decide +kernel, by decide +kernel, by decide +kernel⟩ rfl hN.ob rfl ⟨by omega, by decide⟩ ⟨by omega, by omega⟩ rfl (Nat.le_of_ble_eq_true rfl) (fun v1 h2 hq3 => ?_)
    obtain ⟨rfl, rfl⟩ := hq3
    dsimp only [Option.toList, List.cons_append, List.nil_append]
    refine aw_ret (v := some (.int _)) eX6_told_87 ⟨rfl, rfl⟩ (by omega) (by omega) rfl ?_
    subst c_1
    exact ⟨rfl, hN, Same.rf⟩
  refine aw_tsw (v := 2) (tgt := 88) eX6_told_1 (by decide) (by decide) rfl (by decide) (fun c_1 => ?_) (fun n_1_2 => ?_)
  · refine aw_aload_n (pc' := 89) eX6_told_88 rfl rfl trivial ?_
    refine aw_Oget (pc' := 92) (ci := 6) (kf := 0) (N := 14) (.ref 17) hO eX6_told_89 rfl rfl rfl inX6 (by decide) q250 rfl ?_
    refine aw_Fint (pc' := 95) (kf := 11) hN eX6_told_92 rfl (by decide) q118 ?_
    refine aw_ret (v := some (.int _)) eX6_told_95 ⟨rfl, rfl⟩ (by omega) (by omega) rfl ?_
    subst c_1
    exact ⟨rfl, hN, Same.rf⟩
  refine aw_tsw (v := 3) (tgt := 96) eX6_told_1 (by decide) (by decide) rfl (by decide) (fun c_1 => ?_) (fun n_1_3 => ?_)
  · refine aw_aload_n (pc' := 97) eX6_told_96 rfl rfl trivial ?_
    refine aw_Oget (pc' := 100) (ci := 6) (kf := 0) (N := 14) (.ref 17) hO eX6_told_97 rfl rfl rfl inX6 (by decide) q250 rfl ?_
    refine aw_Fint (pc' := 103) (kf := 12) hN eX6_told_100 rfl (by decide) q120 ?_
    refine aw_ret (v := some (.int _)) eX6_told_103 ⟨rfl, rfl⟩ (by omega) (by omega) rfl ?_
    subst c_1
    exact ⟨rfl, hN, Same.rf⟩
  refine aw_tsw (v := 4) (tgt := 104) eX6_told_1 (by decide) (by decide) rfl (by decide) (fun c_1 => ?_) (fun n_1_4 => ?_)
  · refine aw_aload_n (pc' := 105) eX6_told_104 rfl rfl trivial ?_
    refine aw_Oget (pc' := 108) (ci := 6) (kf := 0) (N := 14) (.ref 17) hO eX6_told_105 rfl rfl rfl inX6 (by decide) q250 rfl ?_
    refine aw_callv (pc' := 111) (nn := 0) (c_X5_howManyFound (d := d - 1) hN hg.1 hg.2.1 (by omega)) eX6_told_108 rfl ⟨q592, q595, q56⟩ q593 q594 ⟨rfl, by decide +kernel, by decide +kernel, by decide +kernel⟩ rfl hN.ob rfl ⟨by omega, by decide⟩ ⟨by omega, by omega⟩ rfl (Nat.le_of_ble_eq_true rfl) (fun v4 h5 hq6 => ?_)
    obtain ⟨rfl, rfl⟩ := hq6
    dsimp only [Option.toList, List.cons_append, List.nil_append]
    refine aw_ret (v := some (.int _)) eX6_told_111 ⟨rfl, rfl⟩ (by omega) (by omega) rfl ?_
    subst c_1
    exact ⟨rfl, hN, Same.rf⟩
  refine aw_tsw (v := 5) (tgt := 112) eX6_told_1 (by decide) (by decide) rfl (by decide) (fun c_1 => ?_) (fun n_1_5 => ?_)
  · refine aw_aload_n (pc' := 113) eX6_told_112 rfl rfl trivial ?_
    refine aw_Oget (pc' := 116) (ci := 6) (kf := 0) (N := 14) (.ref 17) hO eX6_told_113 rfl rfl rfl inX6 (by decide) q250 rfl ?_
    refine aw_callv (pc' := 119) (nn := 0) (c_X5_withinBits (d := d - 1) hN hg.1 hg.2.1 (by omega)) eX6_told_116 rfl ⟨q375, q378, q56⟩ q376 q377 ⟨rfl, by decide +kernel, by decide +kernel, by decide +kernel⟩ rfl hN.ob rfl ⟨by omega, by decide⟩ ⟨by omega, by omega⟩ rfl (Nat.le_of_ble_eq_true rfl) (fun v7 h8 hq9 => ?_)
    obtain ⟨rfl, rfl⟩ := hq9
    dsimp only [Option.toList, List.cons_append, List.nil_append]
    refine aw_ret (v := some (.int _)) eX6_told_119 ⟨rfl, rfl⟩ (by omega) (by omega) rfl ?_
    subst c_1
    exact ⟨rfl, hN, Same.rf⟩
  refine aw_tsw (v := 6) (tgt := 120) eX6_told_1 (by decide) (by decide) rfl (by decide) (fun c_1 => ?_) (fun n_1_6 => ?_)
  · refine aw_aload_n (pc' := 121) eX6_told_120 rfl rfl trivial ?_
    refine aw_Oget (pc' := 124) (ci := 6) (kf := 0) (N := 14) (.ref 17) hO eX6_told_121 rfl rfl rfl inX6 (by decide) q250 rfl ?_
    refine aw_callv (pc' := 127) (nn := 0) (c_X5_withinLoads (d := d - 1) hN hg (by omega)) eX6_told_124 rfl ⟨q596, q599, q56⟩ q597 q598 ⟨rfl, by decide +kernel, by decide +kernel, by decide +kernel⟩ rfl hN.ob rfl ⟨by omega, by decide⟩ ⟨by omega, by omega⟩ rfl (Nat.le_of_ble_eq_true rfl) (fun v12 h13 hq14 => ?_)
    obtain ⟨rfl, hW10, hs11⟩ := hq14
    have hF15 := hO.fr hs11 (by omega)
    dsimp only [Option.toList, List.cons_append, List.nil_append]
    refine aw_ret (v := some (.int _)) eX6_told_127 ⟨rfl, rfl⟩ (by omega) (by omega) rfl ?_
    subst c_1
    exact ⟨rfl, hW10, hs11⟩
  refine aw_tsw (v := 7) (tgt := 141) eX6_told_1 (by decide) (by decide) rfl (by decide) (fun c_1 => ?_) (fun n_1_7 => ?_)
  · refine aw_sipush (pc' := 144) (v := -10001) eX6_told_141 rfl (by decide) ?_
    refine aw_ret (v := some (.int _)) eX6_told_144 ⟨rfl, rfl⟩ (by omega) (by omega) rfl ?_
    subst c_1
    exact ⟨rfl, hN, Same.rf⟩
  refine aw_tsw (v := 8) (tgt := 141) eX6_told_1 (by decide) (by decide) rfl (by decide) (fun c_1 => ?_) (fun n_1_8 => ?_)
  · refine aw_sipush (pc' := 144) (v := -10001) eX6_told_141 rfl (by decide) ?_
    refine aw_ret (v := some (.int _)) eX6_told_144 ⟨rfl, rfl⟩ (by omega) (by omega) rfl ?_
    subst c_1
    exact ⟨rfl, hN, Same.rf⟩
  refine aw_tsw (v := 9) (tgt := 141) eX6_told_1 (by decide) (by decide) rfl (by decide) (fun c_1 => ?_) (fun n_1_9 => ?_)
  · refine aw_sipush (pc' := 144) (v := -10001) eX6_told_141 rfl (by decide) ?_
    refine aw_ret (v := some (.int _)) eX6_told_144 ⟨rfl, rfl⟩ (by omega) (by omega) rfl ?_
    subst c_1
    exact ⟨rfl, hN, Same.rf⟩
  refine aw_tsw (v := 10) (tgt := 128) eX6_told_1 (by decide) (by decide) rfl (by decide) (fun c_1 => ?_) (fun n_1_10 => ?_)
  · refine aw_aload_n (pc' := 129) eX6_told_128 rfl rfl trivial ?_
    refine aw_Oget (pc' := 132) (ci := 6) (kf := 0) (N := 14) (.ref 17) hO eX6_told_129 rfl rfl rfl inX6 (by decide) q250 rfl ?_
    refine aw_Fref (pc' := 135) (kf := 8) hN eX6_told_132 rfl (by decide) q113 ?_
    refine aw_iload_n (pc' := 136) eX6_told_135 rfl rfl ?_
    refine aw_bipush (pc' := 138) (v := 10) eX6_told_136 rfl (by decide) ?_
    refine aw_isub (pc' := 139) eX6_told_138 rfl ?_
    refine aw_Fld8 (pc' := 140) _ hN eX6_told_139 rfl (by subst c_1; unfold vp_in; decide) rfl ?_
    refine aw_ret (v := some (.int _)) eX6_told_140 ⟨rfl, rfl⟩ (by omega) (by omega) rfl ?_
    subst c_1
    exact ⟨rfl, hN, Same.rf⟩
  refine aw_tsw (v := 11) (tgt := 128) eX6_told_1 (by decide) (by decide) rfl (by decide) (fun c_1 => ?_) (fun n_1_11 => ?_)
  · refine aw_aload_n (pc' := 129) eX6_told_128 rfl rfl trivial ?_
    refine aw_Oget (pc' := 132) (ci := 6) (kf := 0) (N := 14) (.ref 17) hO eX6_told_129 rfl rfl rfl inX6 (by decide) q250 rfl ?_
    refine aw_Fref (pc' := 135) (kf := 8) hN eX6_told_132 rfl (by decide) q113 ?_
    refine aw_iload_n (pc' := 136) eX6_told_135 rfl rfl ?_
    refine aw_bipush (pc' := 138) (v := 10) eX6_told_136 rfl (by decide) ?_
    refine aw_isub (pc' := 139) eX6_told_138 rfl ?_
    refine aw_Fld8 (pc' := 140) _ hN eX6_told_139 rfl (by subst c_1; unfold vp_in; decide) rfl ?_
    refine aw_ret (v := some (.int _)) eX6_told_140 ⟨rfl, rfl⟩ (by omega) (by omega) rfl ?_
    subst c_1
    exact ⟨rfl, hN, Same.rf⟩
  refine aw_tsw (v := 12) (tgt := 128) eX6_told_1 (by decide) (by decide) rfl (by decide) (fun c_1 => ?_) (fun n_1_12 => ?_)
  · refine aw_aload_n (pc' := 129) eX6_told_128 rfl rfl trivial ?_
    refine aw_Oget (pc' := 132) (ci := 6) (kf := 0) (N := 14) (.ref 17) hO eX6_told_129 rfl rfl rfl inX6 (by decide) q250 rfl ?_
    refine aw_Fref (pc' := 135) (kf := 8) hN eX6_told_132 rfl (by decide) q113 ?_
    refine aw_iload_n (pc' := 136) eX6_told_135 rfl rfl ?_
    refine aw_bipush (pc' := 138) (v := 10) eX6_told_136 rfl (by decide) ?_
    refine aw_isub (pc' := 139) eX6_told_138 rfl ?_
    refine aw_Fld8 (pc' := 140) _ hN eX6_told_139 rfl (by subst c_1; unfold vp_in; decide) rfl ?_
    refine aw_ret (v := some (.int _)) eX6_told_140 ⟨rfl, rfl⟩ (by omega) (by omega) rfl ?_
    subst c_1
    exact ⟨rfl, hN, Same.rf⟩
  refine aw_tsw (v := 13) (tgt := 128) eX6_told_1 (by decide) (by decide) rfl (by decide) (fun c_1 => ?_) (fun n_1_13 => ?_)
  · refine aw_aload_n (pc' := 129) eX6_told_128 rfl rfl trivial ?_
    refine aw_Oget (pc' := 132) (ci := 6) (kf := 0) (N := 14) (.ref 17) hO eX6_told_129 rfl rfl rfl inX6 (by decide) q250 rfl ?_
    refine aw_Fref (pc' := 135) (kf := 8) hN eX6_told_132 rfl (by decide) q113 ?_
    refine aw_iload_n (pc' := 136) eX6_told_135 rfl rfl ?_
    refine aw_bipush (pc' := 138) (v := 10) eX6_told_136 rfl (by decide) ?_
    refine aw_isub (pc' := 139) eX6_told_138 rfl ?_
    refine aw_Fld8 (pc' := 140) _ hN eX6_told_139 rfl (by subst c_1; unfold vp_in; decide) rfl ?_
    refine aw_ret (v := some (.int _)) eX6_told_140 ⟨rfl, rfl⟩ (by omega) (by omega) rfl ?_
    subst c_1
    exact ⟨rfl, hN, Same.rf⟩
  refine aw_tswo (tgt := 141) eX6_told_1 (by have g0 := zne n_1_0 (show ((0 : Int32)).toInt = 0 by decide); have g1 := zne n_1_1 (show ((1 : Int32)).toInt = 1 by decide); have g2 := zne n_1_2 (show ((2 : Int32)).toInt = 2 by decide); have g3 := zne n_1_3 (show ((3 : Int32)).toInt = 3 by decide); have g4 := zne n_1_4 (show ((4 : Int32)).toInt = 4 by decide); have g5 := zne n_1_5 (show ((5 : Int32)).toInt = 5 by decide); have g6 := zne n_1_6 (show ((6 : Int32)).toInt = 6 by decide); have g7 := zne n_1_7 (show ((7 : Int32)).toInt = 7 by decide); have g8 := zne n_1_8 (show ((8 : Int32)).toInt = 8 by decide); have g9 := zne n_1_9 (show ((9 : Int32)).toInt = 9 by decide); have g10 := zne n_1_10 (show ((10 : Int32)).toInt = 10 by decide); have g11 := zne n_1_11 (show ((11 : Int32)).toInt = 11 by decide); have g12 := zne n_1_12 (show ((12 : Int32)).toInt = 12 by decide); have g13 := zne n_1_13 (show ((13 : Int32)).toInt = 13 by decide); omega) (by decide) ?_
  refine aw_sipush (pc' := 144) (v := -10001) eX6_told_141 rfl (by decide) ?_
  refine aw_ret (v := some (.int _)) eX6_told_144 ⟨rfl, rfl⟩ (by omega) (by omega) rfl ?_
  rw [sTold, if_neg n_1_0, if_neg n_1_1, if_neg n_1_2, if_neg n_1_3, if_neg n_1_4, if_neg n_1_5, if_neg n_1_6, if_neg (fun z => told_no z n_1_10 n_1_11 n_1_12 n_1_13)]
  exact ⟨rfl, hN, Same.rf⟩
theorem sDys_t {F : FT} (hg : gOk g m t) (x : Nat) (hx : t + x ≤ 1073741824 := by omega) : sDys F m x t g 67 = nI (t + x) := (sDys_ok (F := F) x t g hg hx).2.2.1
abbrev mX6_pass : MT := (RX6, cX6_pass, 2, (some .int), false)
theorem eX6_pass_0 : decode mX6_pass.2.1 0 = .ok (.iload_n 1, 1) := by decide +kernel
theorem eX6_pass_1 : decode mX6_pass.2.1 1 = .ok (.ifCond .lt 9, 3) := by decide +kernel
theorem eX6_pass_4 : decode mX6_pass.2.1 4 = .ok (.iload_n 1, 1) := by decide +kernel
theorem eX6_pass_5 : decode mX6_pass.2.1 5 = .ok (.bipush 60, 2) := by decide +kernel
theorem eX6_pass_7 : decode mX6_pass.2.1 7 = .ok (.if_icmp .le 6, 3) := by decide +kernel
theorem eX6_pass_10 : decode mX6_pass.2.1 10 = .ok (.bipush (-2), 2) := by decide +kernel
theorem eX6_pass_12 : decode mX6_pass.2.1 12 = .ok (.ireturn, 1) := by decide +kernel
theorem eX6_pass_13 : decode mX6_pass.2.1 13 = .ok (.aload_n 0, 1) := by decide +kernel
theorem eX6_pass_14 : decode mX6_pass.2.1 14 = .ok (.getfield 16, 3) := by decide +kernel
theorem eX6_pass_17 : decode mX6_pass.2.1 17 = .ok (.getfield 167, 3) := by decide +kernel
theorem eX6_pass_20 : decode mX6_pass.2.1 20 = .ok (.iload_n 1, 1) := by decide +kernel
theorem eX6_pass_21 : decode mX6_pass.2.1 21 = .ok (.iadd, 1) := by decide +kernel
theorem eX6_pass_22 : decode mX6_pass.2.1 22 = .ok (.sipush 9999, 3) := by decide +kernel
theorem eX6_pass_25 : decode mX6_pass.2.1 25 = .ok (.if_icmp .le 6, 3) := by decide +kernel
theorem eX6_pass_28 : decode mX6_pass.2.1 28 = .ok (.bipush (-3), 2) := by decide +kernel
theorem eX6_pass_30 : decode mX6_pass.2.1 30 = .ok (.ireturn, 1) := by decide +kernel
theorem eX6_pass_31 : decode mX6_pass.2.1 31 = .ok (.aload_n 0, 1) := by decide +kernel
theorem eX6_pass_32 : decode mX6_pass.2.1 32 = .ok (.getfield 16, 3) := by decide +kernel
theorem eX6_pass_35 : decode mX6_pass.2.1 35 = .ok (.iload_n 1, 1) := by decide +kernel
theorem eX6_pass_36 : decode mX6_pass.2.1 36 = .ok (.invokevirtual 179, 3) := by decide +kernel
theorem eX6_pass_39 : decode mX6_pass.2.1 39 = .ok (.aload_n 0, 1) := by decide +kernel
theorem eX6_pass_40 : decode mX6_pass.2.1 40 = .ok (.getfield 16, 3) := by decide +kernel
theorem eX6_pass_43 : decode mX6_pass.2.1 43 = .ok (.getfield 167, 3) := by decide +kernel
theorem eX6_pass_46 : decode mX6_pass.2.1 46 = .ok (.ireturn, 1) := by decide +kernel
theorem c_X6_pass (hO : OA h 16 (.inr (6, afs bi se))) (hN : WF F h 17 g (nI 9999)) (hg : gOk g m t) (hA : gAge g m t) (ht9 : t ≤ 9999) (w : Int32) (hd : 6 ≤ d) : Ct l G mX6_pass yX6_pass d 0 0 [.ref 16, .int w] h (fun r h' => r = some (.int (sPass F g m t w).1) ∧ WF F h' 17 (sPass F g m t w).2 (nI 9999) ∧ Same 17 10 h h') := by
  refine ct_of (lv := [some (.ref 16), some (.int w)]) (by decide +kernel) rfl (fun z => by cases z) (fun _ => rfl) (fun _ => Nat.le_of_ble_eq_true rfl) ?_
  refine aw_iload_n (pc' := 1) eX6_pass_0 rfl rfl ?_
  refine aw_if_lt (pc' := 4) (tgt := 10) eX6_pass_1 rfl (by decide) (fun c_1 => ?_) (fun c_1 => ?_)
  · refine aw_bipush (pc' := 12) (v := -2) eX6_pass_10 rfl (by decide) ?_
    refine aw_ret (v := some (.int _)) eX6_pass_12 ⟨rfl, rfl⟩ (by omega) (by omega) rfl ?_
    rw [sPass, if_neg (by rw [(bI_f1 c_1)]; decide)]
    exact ⟨rfl, hN, Same.rf⟩
  · refine aw_iload_n (pc' := 5) eX6_pass_4 rfl rfl ?_
    refine aw_bipush (pc' := 7) (v := 60) eX6_pass_5 rfl (by decide) ?_
    refine aw_icmp_le (pc' := 10) (tgt := 13) eX6_pass_7 rfl (by decide) (fun c_7 => ?_) (fun c_7 => ?_)
    · have hn9 : bIn w 0 60 = true := bI_tle c_1 c_7
      have ht2 : g (gsc 13) = nI t := hg.2.2.1
      refine aw_aload_n (pc' := 14) eX6_pass_13 rfl rfl trivial ?_
      refine aw_Oget (pc' := 17) (ci := 6) (kf := 0) (N := 14) (.ref 17) hO eX6_pass_14 rfl rfl rfl inX6 (by decide) q250 rfl ?_
      refine aw_Fint (pc' := 20) (kf := 13) hN eX6_pass_17 rfl (by decide) q122 ?_
      refine aw_iload_n (pc' := 21) eX6_pass_20 rfl rfl ?_
      refine aw_iadd (pc' := 22) eX6_pass_21 rfl ?_
      refine aw_sipush (pc' := 25) (v := 9999) eX6_pass_22 rfl (by decide) ?_
      refine aw_icmp_le (pc' := 28) (tgt := 31) eX6_pass_25 rfl (by decide) (fun c_25 => ?_) (fun c_25 => ?_)
      · obtain ⟨x, hx, rfl⟩ := (bIn_lit (N := 60) (by omega)).mp hn9
        have cln : (nI x).toNatClampNeg = x := nI_clamp (by omega)
        have hx2 : t + x ≤ 9999 := by
          rw [ht2, nI_add] at c_25
          exact (nI_leI (b := 9999) (by omega) (by omega)).mp c_25
        refine aw_aload_n (pc' := 32) eX6_pass_31 rfl rfl trivial ?_
        refine aw_Oget (pc' := 35) (ci := 6) (kf := 0) (N := 14) (.ref 17) hO eX6_pass_32 rfl rfl rfl inX6 (by decide) q250 rfl ?_
        refine aw_iload_n (pc' := 36) eX6_pass_35 rfl rfl ?_
        refine aw_callv (pc' := 39) (nn := 1) (c_X5_daysGo (d := d - 1) hN hg hA (x := x) (by omega) (by omega) (by omega) (by omega) (by omega)) eX6_pass_36 rfl ⟨q604, q607, q56⟩ q605 q606 ⟨rfl, by decide +kernel, by decide +kernel, by decide +kernel⟩ rfl hN.ob rfl ⟨by omega, by decide⟩ ⟨by omega, by omega⟩ rfl (Nat.le_of_ble_eq_true rfl) (fun v3 h4 hq5 => ?_)
        obtain ⟨rfl, hW1, hs2⟩ := hq5
        have hF6 := hO.fr hs2 (by omega)
        dsimp only [Option.toList, List.cons_append, List.nil_append]
        refine aw_aload_n (pc' := 40) eX6_pass_39 rfl rfl trivial ?_
        refine aw_Oget (pc' := 43) (ci := 6) (kf := 0) (N := 14) (.ref 17) hF6 eX6_pass_40 rfl rfl rfl inX6 (by decide) q250 rfl ?_
        refine aw_Fint (pc' := 46) (kf := 13) hW1 eX6_pass_43 rfl (by decide) q122 ?_
        refine aw_ret (v := some (.int _)) eX6_pass_46 ⟨rfl, rfl⟩ (by omega) (by omega) rfl ?_
        rw [sPass, if_pos hn9, if_neg (by rw [ht2] at c_25; exact Int32.not_lt.mpr c_25), cln, gsc13, sDys_t hg x]
        exact ⟨rfl, hW1, hs2⟩
      · refine aw_bipush (pc' := 30) (v := -3) eX6_pass_28 rfl (by decide) ?_
        refine aw_ret (v := some (.int _)) eX6_pass_30 ⟨rfl, rfl⟩ (by omega) (by omega) rfl ?_
        rw [sPass, if_pos hn9, if_pos (by rw [ht2] at c_25; exact Int32.not_le.mp c_25)]
        exact ⟨rfl, hN, Same.rf⟩
    · refine aw_bipush (pc' := 12) (v := -2) eX6_pass_10 rfl (by decide) ?_
      refine aw_ret (v := some (.int _)) eX6_pass_12 ⟨rfl, rfl⟩ (by omega) (by omega) rfl ?_
      rw [sPass, if_neg (by rw [(bI_fle c_7)]; decide)]
      exact ⟨rfl, hN, Same.rf⟩
end C16
